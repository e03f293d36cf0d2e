/-! the reference: one, get, known -/
section XM13
variable {t x out full : List UInt8} {es : List xEn} {pool : Nat} {se : List xSe} {sub fd : List UInt8} {fr bg : Nat} {wr : Option Nat} {nx kd fi la va : Nat}
set_option maxHeartbeats 16000000 in
set_option maxRecDepth 100000 in
theorem c_Mod_one (d : Nat) {M : xH} {sz O : Nat} (h : Wd M O t x out full es pool se sub fd fr bg wr nx kd fi la va) (hso : SeO se) (hgI : gI es) : xC (d + 5) 0 0 Y_Mod_one [.ref O] M sz (qi sz (fun y M' => (((rdA t).2 = true ∧ (FN es se pool t 0 (rdA t).1).length ≤ 200 ∧ y = nI 0 ∧ ∃ wr' nx', Wd M' O [] t out (FN es se pool t 0 (rdA t).1) es pool se sub fd fr bg wr' nx' kd fi la va) ∨ ((rdA t).2 = true ∧ 200 < (FN es se pool t 0 (rdA t).1).length ∧ y = -2 ∧ ∃ f wr' nx', Wd M' O [] t out f es pool se sub fd fr bg wr' nx' kd fi la va) ∨ ((rdA t).2 = false ∧ y = aI (some (rdA t).1) ∧ ∃ f wr' nx', Wd M' O [] t out f es pool se sub fd fr bg wr' nx' kd fi la va)) ∧ FrO M M' O)) := by
  refine xC_of (by decide) (Nat.le_of_ble_eq_true rfl) (by simp [Value.category]) (vs := [some (.ref O)]) rfl (fun K hX hE => ?_)
  obtain ⟨h0, -⟩ := id h
  have htl := h.xl.1
  refine xp_aload_0 (pc := 0) hX d_Mod_one_0 ?_
  refine xv_V (Y2 := Y_Mod_take) (pc := 1) hX [] k_Mod m_Mod_take d_Mod_one_1 l_Mod_143 rfl rfl (by simp [Value.category]) (by first | assumption | exact xup_s _ _ _ | exact xup_o (by omega) (by assumption) | exact xup_o (by omega) (xup_s _ _ _) | exact xup_o (by omega) (xup_o (by omega) (by assumption)) | exact xup_o (by omega) (xup_o (by omega) (xup_s _ _ _)) | exact xup_o (by omega) (xup_o (by omega) (xup_o (by omega) (by assumption)))) (c_Mod_take (d + 4) h) (by omega) (by omega) ?_
  rintro M1 ⟨w1, f1⟩
  obtain ⟨h0, -⟩ := id w1
  refine xp_aload_0 (pc := 4) hX d_Mod_one_4 ?_
  refine xv_V (Y2 := Y_Mod_variable) (pc := 5) hX [] k_Mod m_Mod_variable d_Mod_one_5 l_Mod_146 rfl rfl (by simp [Value.category]) (by first | assumption | exact xup_s _ _ _ | exact xup_o (by omega) (by assumption) | exact xup_o (by omega) (xup_s _ _ _) | exact xup_o (by omega) (xup_o (by omega) (by assumption)) | exact xup_o (by omega) (xup_o (by omega) (xup_s _ _ _)) | exact xup_o (by omega) (xup_o (by omega) (xup_o (by omega) (by assumption)))) (c_Mod_variable (d + 2) w1 (by intro q hq; cases hq) (by omega)) (by omega) (by omega) ?_
  rintro M2 ⟨w2, f2⟩
  have hle := rdV_le (t := t) (s := 0) (by omega)
  have hAv : rdA t = (if (rdV t 0).2 then (if (rdV t 0).1 < t.length then ((rdV t 0).1, false) else ((rdV t 0).1, true)) else rdV t 0) := rfl
  have hA1 := fun h => rdA_ok (t := t) h
  have hA2 := rdA_le (t := t)
  generalize rdA t = A at *
  generalize rdV t 0 = R at *
  have k34 : ∀ (M3 : xH), Wd M3 O [] t out full es pool se sub fd fr bg (if A.2 = true then none else some A.1) (R.1) kd fi la va → FrO M M3 O → xG K 34 [some (.ref O)] [] M3 sz 0 0 := by
    intro M3 w3 f3
    obtain ⟨h0, -⟩ := id w3
    refine xp_aload_0 (pc := 34) hX d_Mod_one_34 ?_
    refine xg_get (pc := 35) hX (j := 24) k_Mod d_Mod_one_35 l_Mod_75 (by decide) (by first | assumption | exact xup_s _ _ _ | exact xup_o (by omega) (by assumption) | exact xup_o (by omega) (xup_s _ _ _) | exact xup_o (by omega) (xup_o (by omega) (by assumption)) | exact xup_o (by omega) (xup_o (by omega) (xup_s _ _ _)) | exact xup_o (by omega) (xup_o (by omega) (xup_o (by omega) (by assumption)))) (by rfl) ?_
    by_cases c : A.2 = true
    · obtain ⟨o1, o2, o3, o4⟩ := hA1 c
      rw [if_pos c] at w3 ⊢
      refine xg_if_lt (pc := 38) hX 50 d_Mod_one_38 (by decide) (fun _ => ?_) (fun z => absurd (by decide) z)
      refine xp_aload_0 (pc := 50) hX d_Mod_one_50 ?_
      refine xg_iconst (pc := 51) hX (nI 0) d_Mod_one_51 ci_iconst_0 ?_
      refine xp_aload_0 (pc := 52) hX d_Mod_one_52 ?_
      refine xg_get (pc := 53) hX (j := 5) k_Mod d_Mod_one_53 l_Mod_72 (by decide) (by first | assumption | exact xup_s _ _ _ | exact xup_o (by omega) (by assumption) | exact xup_o (by omega) (xup_s _ _ _) | exact xup_o (by omega) (xup_o (by omega) (by assumption)) | exact xup_o (by omega) (xup_o (by omega) (xup_s _ _ _)) | exact xup_o (by omega) (xup_o (by omega) (xup_o (by omega) (by assumption)))) (by rfl) ?_
      rw [← o2]
      refine xi_V (Y2 := Y_Mod_nameOf) (pc := 56) hX [_, _] k_Mod m_Mod_nameOf d_Mod_one_56 l_Mod_149 rfl rfl (by simp [Value.category]) (by first | assumption | exact xup_s _ _ _ | exact xup_o (by omega) (by assumption) | exact xup_o (by omega) (xup_s _ _ _) | exact xup_o (by omega) (xup_o (by omega) (by assumption)) | exact xup_o (by omega) (xup_o (by omega) (xup_s _ _ _)) | exact xup_o (by omega) (xup_o (by omega) (xup_o (by omega) (by assumption)))) (c_Mod_nameOf d (a := 0) (b := A.1) w3 hso hgI o1 (by omega) (by omega)) (by omega) (by omega) ?_
      generalize FN es se pool t 0 A.1 = nm at *
      rintro y M4 ⟨hc, f4⟩
      rcases hc with ⟨c1, rfl, w4⟩ | ⟨c1, rfl, f', w4⟩
      · refine xn_if_eq (a := 1) (pc := 59) hX 66 d_Mod_one_59 (by decide) (by decide) (fun z => absurd z (by decide)) (fun _ => ?_)
        refine xg_iconst (pc := 62) hX (nI 0) d_Mod_one_62 ci_iconst_0 ?_
        refine xg_goto (pc := 63) hX 68 d_Mod_one_63 (by decide) ?_
        refine xg_iret (pc := 68) hX hE d_Mod_one_68 rfl rfl (by omega) (by omega) ?_
        exact ⟨rfl, _, rfl, Or.inl ⟨c, c1, rfl, _, _, w4⟩, f3.tr f4⟩
      · refine xn_if_eq (a := 0) (pc := 59) hX 66 d_Mod_one_59 (by decide) (by decide) (fun _ => ?_) (fun z => absurd z (by decide))
        refine xg_bipush (pc := 66) hX (-2) d_Mod_one_66 ci_bipush_m2 ?_
        refine xg_iret (pc := 68) hX hE d_Mod_one_68 rfl rfl (by omega) (by omega) ?_
        exact ⟨rfl, _, rfl, Or.inr (Or.inl ⟨c, c1, rfl, _, _, _, w4⟩), f3.tr f4⟩
    · rw [if_neg c] at w3 h0 ⊢
      refine xn_if_lt (a := A.1) (pc := 38) hX 50 d_Mod_one_38 (by decide) (by omega) ?_
      refine xg_sipush (pc := 41) hX (-1000) d_Mod_one_41 ci_sipush_m1000 ?_
      refine xp_aload_0 (pc := 44) hX d_Mod_one_44 ?_
      refine xg_get (pc := 45) hX (j := 24) k_Mod d_Mod_one_45 l_Mod_75 (by decide) (by first | assumption | exact xup_s _ _ _ | exact xup_o (by omega) (by assumption) | exact xup_o (by omega) (xup_s _ _ _) | exact xup_o (by omega) (xup_o (by omega) (by assumption)) | exact xup_o (by omega) (xup_o (by omega) (xup_s _ _ _)) | exact xup_o (by omega) (xup_o (by omega) (xup_o (by omega) (by assumption)))) (by rfl) ?_
      refine xg_isub (pc := 48) hX d_Mod_one_48 ?_
      refine xg_iret (pc := 49) hX hE d_Mod_one_49 rfl rfl (by omega) (by omega) ?_
      exact ⟨rfl, _, rfl, Or.inr (Or.inr ⟨Bool.eq_false_iff.mpr c, rfl, _, _, _, w3⟩), f3⟩
  obtain ⟨h0, -⟩ := id w2
  refine xp_aload_0 (pc := 8) hX d_Mod_one_8 ?_
  refine xg_get (pc := 9) hX (j := 24) k_Mod d_Mod_one_9 l_Mod_75 (by decide) (by first | assumption | exact xup_s _ _ _ | exact xup_o (by omega) (by assumption) | exact xup_o (by omega) (xup_s _ _ _) | exact xup_o (by omega) (xup_o (by omega) (by assumption)) | exact xup_o (by omega) (xup_o (by omega) (xup_s _ _ _)) | exact xup_o (by omega) (xup_o (by omega) (xup_o (by omega) (by assumption)))) (by rfl) ?_
  by_cases c : R.2 = true
  · rw [if_pos c] at hAv
    have hwr : wrS none R = none := by unfold wrS; rw [if_pos c]
    rw [hwr] at w2 h0 ⊢
    refine xg_if_ge (pc := 12) hX 34 d_Mod_one_12 (by decide) (fun z => absurd z (by decide)) (fun _ => ?_)
    refine xp_aload_0 (pc := 15) hX d_Mod_one_15 ?_
    refine xg_get (pc := 16) hX (j := 25) k_Mod d_Mod_one_16 l_Mod_78 (by decide) (by first | assumption | exact xup_s _ _ _ | exact xup_o (by omega) (by assumption) | exact xup_o (by omega) (xup_s _ _ _) | exact xup_o (by omega) (xup_o (by omega) (by assumption)) | exact xup_o (by omega) (xup_o (by omega) (xup_s _ _ _)) | exact xup_o (by omega) (xup_o (by omega) (xup_o (by omega) (by assumption)))) (by rfl) ?_
    refine xp_aload_0 (pc := 19) hX d_Mod_one_19 ?_
    refine xg_get (pc := 20) hX (j := 5) k_Mod d_Mod_one_20 l_Mod_72 (by decide) (by first | assumption | exact xup_s _ _ _ | exact xup_o (by omega) (by assumption) | exact xup_o (by omega) (xup_s _ _ _) | exact xup_o (by omega) (xup_o (by omega) (by assumption)) | exact xup_o (by omega) (xup_o (by omega) (xup_s _ _ _)) | exact xup_o (by omega) (xup_o (by omega) (xup_o (by omega) (by assumption)))) (by rfl) ?_
    refine xn_icmp_ge (pc := 23) hX 34 d_Mod_one_23 (by decide) (by omega) (by omega) (fun z => ?_) (fun z => ?_)
    · rw [if_neg (by omega)] at hAv
      refine k34 M2 ?_ (f1.tr f2)
      rw [hAv, if_pos rfl]
      exact w2
    · rw [if_pos z] at hAv
      refine xp_aload_0 (pc := 26) hX d_Mod_one_26 ?_
      refine xp_aload_0 (pc := 27) hX d_Mod_one_27 ?_
      refine xg_get (pc := 28) hX (j := 25) k_Mod d_Mod_one_28 l_Mod_78 (by decide) (by first | assumption | exact xup_s _ _ _ | exact xup_o (by omega) (by assumption) | exact xup_o (by omega) (xup_s _ _ _) | exact xup_o (by omega) (xup_o (by omega) (by assumption)) | exact xup_o (by omega) (xup_o (by omega) (xup_s _ _ _)) | exact xup_o (by omega) (xup_o (by omega) (xup_o (by omega) (by assumption)))) (by rfl) ?_
      refine xv_V (Y2 := Y_Mod_fail) (pc := 31) hX [_] k_Mod m_Mod_fail d_Mod_one_31 l_Mod_92 rfl rfl (by simp [Value.category]) (by first | assumption | exact xup_s _ _ _ | exact xup_o (by omega) (by assumption) | exact xup_o (by omega) (xup_s _ _ _) | exact xup_o (by omega) (xup_o (by omega) (by assumption)) | exact xup_o (by omega) (xup_o (by omega) (xup_s _ _ _)) | exact xup_o (by omega) (xup_o (by omega) (xup_o (by omega) (by assumption)))) (c_Mod_fail (d + 4) w2 (by intro q hq; cases hq)) (by omega) (by omega) ?_
      rintro M4 ⟨w4, f4⟩
      refine k34 M4 ?_ ((f1.tr f2).tr f4)
      rw [hAv, if_neg Bool.false_ne_true]
      exact w4
  · rw [if_neg c] at hAv
    have hwr : wrS none R = some R.1 := by unfold wrS; rw [if_neg c]; rfl
    rw [hwr] at w2 h0 ⊢
    refine xn_if_ge (a := R.1) (pc := 12) hX 34 d_Mod_one_12 (by decide) (by omega) ?_
    refine k34 M2 ?_ (f1.tr f2)
    rw [hAv, if_neg c]
    exact w2
set_option maxHeartbeats 16000000 in
set_option maxRecDepth 100000 in
theorem b_get (d : Nat) {M : xH} {sz O : Nat} {S : xS} (h : MW M O S) (hI : InvF S) : xC (d + 6) 0 0 Y_Mod_get [.ref O] M sz (qi sz (fun z M' => z = (sGet S).1 ∧ MW M' O (sGet S).2 ∧ FrO M M' O)) := by
  obtain ⟨t, out, es, dp, se, sub, fr, bg⟩ := S
  obtain ⟨hdp, x, full, fd, wr, nx, kd, fi, la, va, hw⟩ := id h
  obtain ⟨⟨hgI, -⟩, hso⟩ := hI
  refine xC_of (by decide) (Nat.le_of_ble_eq_true rfl) (by simp [Value.category]) (vs := [some (.ref O), none, none]) rfl (fun K hX hE => ?_)
  obtain ⟨h0, -⟩ := id hw
  have htl := hw.xl.1
  have hal := rdA_le (t := t)
  refine xp_aload_0 (pc := 0) hX d_Mod_get_0 ?_
  refine xi_V (Y2 := Y_Mod_one) (pc := 1) hX [] k_Mod m_Mod_one d_Mod_get_1 l_Mod_156 rfl rfl (by simp [Value.category]) (by first | assumption | exact xup_s _ _ _ | exact xup_o (by omega) (by assumption) | exact xup_o (by omega) (xup_s _ _ _) | exact xup_o (by omega) (xup_o (by omega) (by assumption)) | exact xup_o (by omega) (xup_o (by omega) (xup_s _ _ _)) | exact xup_o (by omega) (xup_o (by omega) (xup_o (by omega) (by assumption)))) (c_Mod_one d hw hso hgI) (by omega) (by omega) ?_
  rintro y M1 ⟨hc, f1⟩
  refine xp_istore_1 (pc := 4) hX d_Mod_get_4 (by decide) ?_
  refine xp_iload_1 (pc := 5) hX d_Mod_get_5 ?_
  have bad : ∀ (f : List UInt8) (wr' : Option Nat) (nx' : Nat), ¬ (0 : Int32) ≤ y → Wd M1 O [] t out f es (dp - 1) se sub fd fr bg wr' nx' kd fi la va → sGet (t, out, es, dp, se, sub, fr, bg) = (y, ([], out, es, dp, se, sub, fr, bg)) → xG K 6 [some (.ref O), some (.int y), none] [.int y] M1 sz 0 0 := by
    intro f wr' nx' hy w1 hS
    rw [hS] at hE
    refine xg_if_ge (pc := 6) hX 11 d_Mod_get_6 (by decide) (fun z => absurd z hy) (fun _ => ?_)
    refine xp_iload_1 (pc := 9) hX d_Mod_get_9 ?_
    refine xg_iret (pc := 10) hX hE d_Mod_get_10 rfl rfl (by omega) (by omega) ?_
    exact ⟨rfl, _, rfl, rfl, ⟨hdp, _, _, _, _, _, _, _, _, _, w1⟩, f1⟩
  rcases hc with ⟨c1, c2, rfl, wr', nx', w1⟩ | ⟨c1, c2, rfl, f, wr', nx', w1⟩ | ⟨c1, rfl, f, wr', nx', w1⟩
  · have hS : sGet (t, out, es, dp, se, sub, fr, bg) = (nI (tellT es se (dp - 1) (FN es se (dp - 1) t 0 (rdA t).1)).length, ([], tellT es se (dp - 1) (FN es se (dp - 1) t 0 (rdA t).1), es, dp, se, sub, fr, bg)) := by
      unfold sGet
      dsimp only
      rw [if_pos c1, if_pos c2]
    generalize FN es se (dp - 1) t 0 (rdA t).1 = nm at *
    rw [hS] at hE
    have hT : tellT es se (dp - 1) nm = (match tellI es se (dp - 1) nm with | none => nm | some i => (match es[i]? with | none => nm | some e => e.2.2.getD nm)) := rfl
    refine xn_if_ge (a := 0) (pc := 6) hX 11 d_Mod_get_6 (by decide) (by decide) ?_
    obtain ⟨h0, -, -, -, ⟨h4l, g, h4a, h4b⟩, ⟨h5l, fn, fz, fv, fvz, fp, h5, h6, h7, h8, h9, h10⟩, -⟩ := id w1
    refine xp_aload_0 (pc := 11) hX d_Mod_get_11 ?_
    refine xi_V (Y2 := Y_Mod_tells) (pc := 12) hX [] k_Mod m_Mod_tells d_Mod_get_12 l_Mod_128 rfl rfl (by simp [Value.category]) (by first | assumption | exact xup_s _ _ _ | exact xup_o (by omega) (by assumption) | exact xup_o (by omega) (xup_s _ _ _) | exact xup_o (by omega) (xup_o (by omega) (by assumption)) | exact xup_o (by omega) (xup_o (by omega) (xup_s _ _ _)) | exact xup_o (by omega) (xup_o (by omega) (xup_o (by omega) (by assumption)))) (c_Mod_tells (d + 3) w1 hso hgI) (by omega) (by omega) ?_
    rintro y M2 ⟨rfl, rfl⟩
    have k56 : ∀ (vs : List (Option Value)) (M3 : xH), Wd M3 O [] t (tellT es se (dp - 1) nm) nm es (dp - 1) se sub fd fr bg wr' nx' kd fi la va → FrO M M3 O → xG K 56 (some (.ref O) :: vs) [] M3 sz 0 0 := by
      intro vs M3 w3 f3
      obtain ⟨h0, -⟩ := id w3
      refine xp_aload_0 (pc := 56) hX d_Mod_get_56 ?_
      refine xg_get (pc := 57) hX (j := 6) k_Mod d_Mod_get_57 l_Mod_69 (by decide) (by first | assumption | exact xup_s _ _ _ | exact xup_o (by omega) (by assumption) | exact xup_o (by omega) (xup_s _ _ _) | exact xup_o (by omega) (xup_o (by omega) (by assumption)) | exact xup_o (by omega) (xup_o (by omega) (xup_s _ _ _)) | exact xup_o (by omega) (xup_o (by omega) (xup_o (by omega) (by assumption)))) (by rfl) ?_
      refine xg_iret (pc := 60) hX hE d_Mod_get_60 rfl rfl (by omega) (by omega) ?_
      exact ⟨rfl, _, rfl, rfl, ⟨hdp, _, _, _, _, _, _, _, _, _, w3⟩, f3⟩
    refine xp_istore_2 (pc := 15) hX d_Mod_get_15 (by decide) ?_
    refine xp_iload_2 (pc := 16) hX d_Mod_get_16 ?_
    refine xg_iconst (pc := 17) hX (-1) d_Mod_get_17 ci_iconst_m1 ?_
    cases hi : tellI es se (dp - 1) nm with
    | none =>
      rw [hi] at hT
      refine xg_icmp_ne (pc := 18) hX 37 d_Mod_get_18 (by decide) (fun z => absurd rfl z) (fun _ => ?_)
      refine xp_aload_0 (pc := 21) hX d_Mod_get_21 ?_
      refine xp_aload_0 (pc := 22) hX d_Mod_get_22 ?_
      refine xg_get (pc := 23) hX (j := 3) k_Mod d_Mod_get_23 l_Mod_19 (by decide) (by first | assumption | exact xup_s _ _ _ | exact xup_o (by omega) (by assumption) | exact xup_o (by omega) (xup_s _ _ _) | exact xup_o (by omega) (xup_o (by omega) (by assumption)) | exact xup_o (by omega) (xup_o (by omega) (xup_s _ _ _)) | exact xup_o (by omega) (xup_o (by omega) (xup_o (by omega) (by assumption)))) (by rfl) ?_
      refine xg_iconst (pc := 26) hX (nI 0) d_Mod_get_26 ci_iconst_0 ?_
      refine xp_aload_0 (pc := 27) hX d_Mod_get_27 ?_
      refine xg_get (pc := 28) hX (j := 7) k_Mod d_Mod_get_28 l_Mod_95 (by decide) (by first | assumption | exact xup_s _ _ _ | exact xup_o (by omega) (by assumption) | exact xup_o (by omega) (xup_s _ _ _) | exact xup_o (by omega) (xup_o (by omega) (by assumption)) | exact xup_o (by omega) (xup_o (by omega) (xup_s _ _ _)) | exact xup_o (by omega) (xup_o (by omega) (xup_o (by omega) (by assumption)))) (by rfl) ?_
      refine xv_V (Y2 := Y_Mod_write) (pc := 31) hX [_, _, _] k_Mod m_Mod_write d_Mod_get_31 l_Mod_159 rfl rfl (by simp [Value.category]) (by first | assumption | exact xup_s _ _ _ | exact xup_o (by omega) (by assumption) | exact xup_o (by omega) (xup_s _ _ _) | exact xup_o (by omega) (xup_o (by omega) (by assumption)) | exact xup_o (by omega) (xup_o (by omega) (xup_s _ _ _)) | exact xup_o (by omega) (xup_o (by omega) (xup_o (by omega) (by assumption)))) (c_Mod_write (d + 5) (src := nm) (p := 0) w1 (by omega) (by omega) h4a (by omega) c2 (by omega) (fun j b hj => by rw [Nat.zero_add]; exact h4b j b hj)) (by omega) (by omega) ?_
      rintro M3 ⟨w3, f3⟩
      refine xg_goto (pc := 34) hX 56 d_Mod_get_34 (by decide) ?_
      refine k56 _ M3 ?_ (f1.tr f3)
      rw [hT]
      exact w3
    | some i =>
      obtain ⟨⟨p, nm2, vo⟩, u, q1, q2⟩ := tellI_some hgI hi
      dsimp only at q2
      subst q2
      have hil := (List.getElem?_eq_some_iff.mp q1).1
      rw [hi] at hT
      dsimp only at hT
      rw [q1] at hT
      have hT : tellT es se (dp - 1) nm = u := hT
      obtain ⟨v1, v2⟩ := (h10 i _ q1).2 trivial
      dsimp only at v1
      obtain ⟨v3, v4⟩ := v2 u rfl
      refine xg_icmp_ne (pc := 18) hX 37 d_Mod_get_18 (by decide) (fun _ => ?_) (fun z => absurd z (nI_nm1 (by omega)))
      refine xp_aload_0 (pc := 37) hX d_Mod_get_37 ?_
      refine xp_aload_0 (pc := 38) hX d_Mod_get_38 ?_
      refine xg_get (pc := 39) hX (j := 10) k_Mod d_Mod_get_39 l_Mod_28 (by decide) (by first | assumption | exact xup_s _ _ _ | exact xup_o (by omega) (by assumption) | exact xup_o (by omega) (xup_s _ _ _) | exact xup_o (by omega) (xup_o (by omega) (by assumption)) | exact xup_o (by omega) (xup_o (by omega) (xup_s _ _ _)) | exact xup_o (by omega) (xup_o (by omega) (xup_o (by omega) (by assumption)))) (by rfl) ?_
      refine xg_sipush (pc := 42) hX (nI 200) d_Mod_get_42 ci_sipush_200 ?_
      refine xp_iload_2 (x := nI i) (pc := 45) hX d_Mod_get_45 ?_
      first | refine xn_imul (pc := 46) hX d_Mod_get_46 ?_ | refine xg_imul (pc := 46) hX d_Mod_get_46 ?_
      refine xp_aload_0 (pc := 47) hX d_Mod_get_47 ?_
      refine xg_get (pc := 48) hX (j := 11) k_Mod d_Mod_get_48 l_Mod_31 (by decide) (by first | assumption | exact xup_s _ _ _ | exact xup_o (by omega) (by assumption) | exact xup_o (by omega) (xup_s _ _ _) | exact xup_o (by omega) (xup_o (by omega) (by assumption)) | exact xup_o (by omega) (xup_o (by omega) (xup_s _ _ _)) | exact xup_o (by omega) (xup_o (by omega) (xup_o (by omega) (by assumption)))) (by rfl) ?_
      refine xp_iload_2 (x := nI i) (pc := 51) hX d_Mod_get_51 ?_
      refine xn_iald (pc := 52) hX d_Mod_get_52 rfl (by first | assumption | exact xup_s _ _ _ | exact xup_o (by omega) (by assumption) | exact xup_o (by omega) (xup_s _ _ _) | exact xup_o (by omega) (xup_o (by omega) (by assumption)) | exact xup_o (by omega) (xup_o (by omega) (xup_s _ _ _)) | exact xup_o (by omega) (xup_o (by omega) (xup_o (by omega) (by assumption)))) (by omega) (by omega) ?_
      rw [v1]
      refine xv_V (Y2 := Y_Mod_write) (pc := 53) hX [_, _, _] k_Mod m_Mod_write d_Mod_get_53 l_Mod_159 rfl rfl (by simp [Value.category]) (by first | assumption | exact xup_s _ _ _ | exact xup_o (by omega) (by assumption) | exact xup_o (by omega) (xup_s _ _ _) | exact xup_o (by omega) (xup_o (by omega) (by assumption)) | exact xup_o (by omega) (xup_o (by omega) (xup_s _ _ _)) | exact xup_o (by omega) (xup_o (by omega) (xup_o (by omega) (by assumption)))) (c_Mod_write (d + 5) (src := u) w1 (by omega) (by omega) h7 (by omega) v3 (by omega) v4) (by omega) (by omega) ?_
      rintro M3 ⟨w3, f3⟩
      refine k56 _ M3 ?_ (f1.tr f3)
      rw [hT]
      exact w3
  · refine bad f wr' nx' (by decide) w1 ?_
    unfold sGet
    dsimp only
    rw [if_pos c1, if_neg (by omega)]
  · refine bad f wr' nx' (aI_lt (by omega)) w1 ?_
    unfold sGet
    dsimp only
    rw [if_neg (by rw [c1]; decide)]
set_option maxHeartbeats 16000000 in
set_option maxRecDepth 100000 in
theorem b_known (d : Nat) {M : xH} {sz O : Nat} {S : xS} (h : MW M O S) (hI : InvF S) : xC (d + 6) 0 0 Y_Mod_known [.ref O] M sz (qi sz (fun z M' => z = (sKnown S).1 ∧ MW M' O (sKnown S).2 ∧ FrO M M' O)) := by
  obtain ⟨t, out, es, dp, se, sub, fr, bg⟩ := S
  obtain ⟨hdp, x, full, fd, wr, nx, kd, fi, la, va, hw⟩ := id h
  obtain ⟨⟨hgI, -⟩, hso⟩ := hI
  refine xC_of (by decide) (Nat.le_of_ble_eq_true rfl) (by simp [Value.category]) (vs := [some (.ref O), none, none]) rfl (fun K hX hE => ?_)
  obtain ⟨h0, -⟩ := id hw
  have htl := hw.xl.1
  have hal := rdA_le (t := t)
  refine xp_aload_0 (pc := 0) hX d_Mod_known_0 ?_
  refine xi_V (Y2 := Y_Mod_one) (pc := 1) hX [] k_Mod m_Mod_one d_Mod_known_1 l_Mod_156 rfl rfl (by simp [Value.category]) (by first | assumption | exact xup_s _ _ _ | exact xup_o (by omega) (by assumption) | exact xup_o (by omega) (xup_s _ _ _) | exact xup_o (by omega) (xup_o (by omega) (by assumption)) | exact xup_o (by omega) (xup_o (by omega) (xup_s _ _ _)) | exact xup_o (by omega) (xup_o (by omega) (xup_o (by omega) (by assumption)))) (c_Mod_one d hw hso hgI) (by omega) (by omega) ?_
  rintro y M1 ⟨hc, f1⟩
  refine xp_istore_1 (pc := 4) hX d_Mod_known_4 (by decide) ?_
  refine xp_iload_1 (pc := 5) hX d_Mod_known_5 ?_
  have bad : ∀ (f : List UInt8) (wr' : Option Nat) (nx' : Nat), ¬ (0 : Int32) ≤ y → Wd M1 O [] t out f es (dp - 1) se sub fd fr bg wr' nx' kd fi la va → sKnown (t, out, es, dp, se, sub, fr, bg) = (y, ([], out, es, dp, se, sub, fr, bg)) → xG K 6 [some (.ref O), some (.int y), none] [.int y] M1 sz 0 0 := by
    intro f wr' nx' hy w1 hS
    rw [hS] at hE
    refine xg_if_ge (pc := 6) hX 11 d_Mod_known_6 (by decide) (fun z => absurd z hy) (fun _ => ?_)
    refine xp_iload_1 (pc := 9) hX d_Mod_known_9 ?_
    refine xg_iret (pc := 10) hX hE d_Mod_known_10 rfl rfl (by omega) (by omega) ?_
    exact ⟨rfl, _, rfl, rfl, ⟨hdp, _, _, _, _, _, _, _, _, _, w1⟩, f1⟩
  rcases hc with ⟨c1, c2, rfl, wr', nx', w1⟩ | ⟨c1, c2, rfl, f, wr', nx', w1⟩ | ⟨c1, rfl, f, wr', nx', w1⟩
  · have hS : sKnown (t, out, es, dp, se, sub, fr, bg) = (knI es se (dp - 1) (FN es se (dp - 1) t 0 (rdA t).1), ([], out, es, dp, se, sub, fr, bg)) := by
      unfold sKnown
      dsimp only
      rw [if_pos c1, if_pos c2]
    generalize FN es se (dp - 1) t 0 (rdA t).1 = nm at *
    rw [hS] at hE
    have hT : knI es se (dp - 1) nm = (match tellI es se (dp - 1) nm with | none => nI 0 | some i => if es[i]?.map (fun e => e.2.1.length) = some nm.length then nI 2 else nI 1) := rfl
    refine xn_if_ge (a := 0) (pc := 6) hX 11 d_Mod_known_6 (by decide) (by decide) ?_
    obtain ⟨h0, -, -, -, ⟨h4l, g, h4a, h4b⟩, ⟨h5l, fn, fz, fv, fvz, fp, h5, h6, h7, h8, h9, h10⟩, -⟩ := id w1
    refine xp_aload_0 (pc := 11) hX d_Mod_known_11 ?_
    refine xi_V (Y2 := Y_Mod_tells) (pc := 12) hX [] k_Mod m_Mod_tells d_Mod_known_12 l_Mod_128 rfl rfl (by simp [Value.category]) (by first | assumption | exact xup_s _ _ _ | exact xup_o (by omega) (by assumption) | exact xup_o (by omega) (xup_s _ _ _) | exact xup_o (by omega) (xup_o (by omega) (by assumption)) | exact xup_o (by omega) (xup_o (by omega) (xup_s _ _ _)) | exact xup_o (by omega) (xup_o (by omega) (xup_o (by omega) (by assumption)))) (c_Mod_tells (d + 3) w1 hso hgI) (by omega) (by omega) ?_
    rintro y M2 ⟨rfl, rfl⟩
    refine xp_istore_2 (pc := 15) hX d_Mod_known_15 (by decide) ?_
    refine xp_iload_2 (pc := 16) hX d_Mod_known_16 ?_
    refine xg_iconst (pc := 17) hX (-1) d_Mod_known_17 ci_iconst_m1 ?_
    cases hi : tellI es se (dp - 1) nm with
    | none =>
      rw [hi] at hT
      rw [hT] at hE
      refine xg_icmp_ne (pc := 18) hX 25 d_Mod_known_18 (by decide) (fun z => absurd rfl z) (fun _ => ?_)
      refine xg_iconst (pc := 21) hX (nI 0) d_Mod_known_21 ci_iconst_0 ?_
      refine xg_goto (pc := 22) hX 43 d_Mod_known_22 (by decide) ?_
      refine xg_iret (pc := 43) hX hE d_Mod_known_43 rfl rfl (by omega) (by omega) ?_
      exact ⟨rfl, _, rfl, rfl, ⟨hdp, _, _, _, _, _, _, _, _, _, w1⟩, f1⟩
    | some i =>
      have hil := tellI_lt hgI hi
      have he : es[i]? = some es[i] := List.getElem?_eq_getElem hil
      obtain ⟨⟨e1, e2, e3, e4, e5⟩, -⟩ := h10 i _ he
      generalize es[i] = e at *
      rw [hi] at hT
      dsimp only at hT
      rw [he] at hT
      have hT : knI es se (dp - 1) nm = if e.2.1.length = nm.length then nI 2 else nI 1 := by
        rw [hT]
        simp
      rw [hT] at hE
      refine xg_icmp_ne (pc := 18) hX 25 d_Mod_known_18 (by decide) (fun _ => ?_) (fun z => absurd z (nI_nm1 (by omega)))
      refine xp_aload_0 (pc := 25) hX d_Mod_known_25 ?_
      refine xg_get (pc := 26) hX (j := 9) k_Mod d_Mod_known_26 l_Mod_25 (by decide) (by first | assumption | exact xup_s _ _ _ | exact xup_o (by omega) (by assumption) | exact xup_o (by omega) (xup_s _ _ _) | exact xup_o (by omega) (xup_o (by omega) (by assumption)) | exact xup_o (by omega) (xup_o (by omega) (xup_s _ _ _)) | exact xup_o (by omega) (xup_o (by omega) (xup_o (by omega) (by assumption)))) (by rfl) ?_
      refine xp_iload_2 (x := nI i) (pc := 29) hX d_Mod_known_29 ?_
      refine xn_iald (pc := 30) hX d_Mod_known_30 rfl (by first | assumption | exact xup_s _ _ _ | exact xup_o (by omega) (by assumption) | exact xup_o (by omega) (xup_s _ _ _) | exact xup_o (by omega) (xup_o (by omega) (by assumption)) | exact xup_o (by omega) (xup_o (by omega) (xup_s _ _ _)) | exact xup_o (by omega) (xup_o (by omega) (xup_o (by omega) (by assumption)))) (by omega) (by omega) ?_
      rw [e3]
      refine xp_aload_0 (pc := 31) hX d_Mod_known_31 ?_
      refine xg_get (pc := 32) hX (j := 7) k_Mod d_Mod_known_32 l_Mod_95 (by decide) (by first | assumption | exact xup_s _ _ _ | exact xup_o (by omega) (by assumption) | exact xup_o (by omega) (xup_s _ _ _) | exact xup_o (by omega) (xup_o (by omega) (by assumption)) | exact xup_o (by omega) (xup_o (by omega) (xup_s _ _ _)) | exact xup_o (by omega) (xup_o (by omega) (xup_o (by omega) (by assumption)))) (by rfl) ?_
      refine xn_icmp_ne (pc := 35) hX 42 d_Mod_known_35 (by decide) (by omega) (by omega) (fun z => ?_) (fun z => ?_)
      · refine xg_iconst (pc := 42) hX (nI 1) d_Mod_known_42 ci_iconst_1 ?_
        refine xg_iret (pc := 43) hX hE d_Mod_known_43 rfl rfl (by omega) (by omega) ?_
        refine ⟨rfl, _, rfl, ?_, ⟨hdp, _, _, _, _, _, _, _, _, _, w1⟩, f1⟩
        dsimp only
        rw [if_neg z]
      · refine xg_iconst (pc := 38) hX (nI 2) d_Mod_known_38 ci_iconst_2 ?_
        refine xg_goto (pc := 39) hX 43 d_Mod_known_39 (by decide) ?_
        refine xg_iret (pc := 43) hX hE d_Mod_known_43 rfl rfl (by omega) (by omega) ?_
        refine ⟨rfl, _, rfl, ?_, ⟨hdp, _, _, _, _, _, _, _, _, _, w1⟩, f1⟩
        dsimp only
        rw [if_pos z]
  · refine bad f wr' nx' (by decide) w1 ?_
    unfold sKnown
    dsimp only
    rw [if_pos c1, if_neg (by omega)]
  · refine bad f wr' nx' (aI_lt (by omega)) w1 ?_
    unfold sKnown
    dsimp only
    rw [if_neg (by rw [c1]; decide)]
end XM13
