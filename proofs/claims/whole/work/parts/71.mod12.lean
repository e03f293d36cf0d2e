/-! the reference: close, subject, set, get, known -/
def InvF (S : xS) : Prop := Inv S ∧ SeO S.2.2.2.2.1
theorem se_split {q : Nat} : ∀ (se : List xSe), se.Pairwise (fun a b => a.1 ≤ b.1) → (∀ s ∈ se, s.1 ≤ q) → ∃ l r, se = l ++ r ∧ (∀ s ∈ l, s.1 < q) ∧ ∀ s ∈ r, s.1 = q
  | [], _, _ => ⟨[], [], rfl, fun _ h => absurd h List.not_mem_nil, fun _ h => absurd h List.not_mem_nil⟩
  | s :: se, hp, hq => by
    obtain ⟨p1, p2⟩ := List.pairwise_cons.mp hp
    obtain ⟨l, r, e, h1, h2⟩ := se_split se p2 (fun a ha => hq a (List.mem_cons_of_mem _ ha))
    have hs := hq s List.mem_cons_self
    by_cases c : s.1 < q
    · refine ⟨s :: l, r, by rw [e]; rfl, fun a ha => ?_, h2⟩
      rcases List.mem_cons.mp ha with z | z
      · rw [z]; exact c
      · exact h1 a z
    · have hl : l = [] := by
        cases l with
        | nil => rfl
        | cons a l =>
          have h3 := h1 a List.mem_cons_self
          have h4 := p1 a (by rw [e]; exact List.mem_append_left _ List.mem_cons_self)
          omega
      subst hl
      refine ⟨[], s :: r, by rw [e]; rfl, fun _ h => absurd h List.not_mem_nil, fun a ha => ?_⟩
      rcases List.mem_cons.mp ha with z | z
      · rw [z]; omega
      · exact h2 a z
theorem se_take {se : List xSe} {q : Nat} (hs : SeO se) (hq : ∀ s ∈ se, s.1 ≤ q) : (∀ s ∈ se.take (se.length - cnt se q), s.1 < q) ∧ ∀ p, p < q → sOf (se.take (se.length - cnt se q)) p = sOf se p := by
  obtain ⟨l, r, e, h1, h2⟩ := se_split se hs.2 hq
  have h3 : se.take (se.length - cnt se q) = l := by
    rw [e]
    exact cnt_app (fun s hs => by have := h1 s hs; omega) h2
  rw [h3]
  refine ⟨h1, fun p hp => ?_⟩
  unfold sOf
  rw [e, List.filter_append, List.map_append]
  have : r.filter (fun s => s.1 == p) = [] := by
    rw [List.filter_eq_nil_iff]
    intro s hs
    have := h2 s hs
    simp only [beq_iff_eq]
    omega
  rw [this]
  simp
theorem aI_lt {p : Nat} (h : p < 100000) : ¬ (0 : Int32) ≤ aI (some p) := by
  rw [Int32.le_iff_toInt_le]
  unfold aI
  have h1 : (nI p).toInt = p := nI_toInt (by omega)
  have h2 : (-1000 : Int32).toInt = -1000 := by decide
  have h3 : ((-1000 : Int32) - nI p).toInt = ((-1000 : Int) - p).bmod (2 ^ 32) := by rw [Int32.toInt_sub, h1, h2]
  rw [h3]
  have h0 : (0 : Int32).toInt = 0 := by decide
  rw [h0, Int.bmod_def]
  split <;> omega
section XM12
variable {t x out full : List UInt8} {es : List xEn} {pool : Nat} {se : List xSe} {sub fd : List UInt8} {fr bg : Nat} {wr : Option Nat} {nx kd fi la va : Nat}
set_option maxHeartbeats 16000000 in
set_option maxRecDepth 100000 in
theorem b_close (d : Nat) {M : xH} {sz O : Nat} {S : xS} (h : MW M O S) (hI : InvF S) : xC (d + 1) 0 0 Y_Mod_close [.ref O] M sz (qi sz (fun z M' => z = (sClose S).1 ∧ MW M' O (sClose S).2 ∧ FrO M M' O)) := by
  obtain ⟨t, out, es, dp, se, sub, fr, bg⟩ := S
  obtain ⟨hdp, x, full, fd, wr, nx, kd, fi, la, va, hw⟩ := id h
  obtain ⟨⟨-, i2, i3, i4, i5, -⟩, hso⟩ := hI
  refine xC_of (by decide) (Nat.le_of_ble_eq_true rfl) (by simp [Value.category]) (vs := [some (.ref O), none]) rfl (fun K hX hE => ?_)
  obtain ⟨h0, -⟩ := id hw
  obtain ⟨-, -, -, -, hes, -⟩ := hw.xl
  refine xp_aload_0 (pc := 0) hX d_Mod_close_0 ?_
  refine xg_get (pc := 1) hX (j := 17) k_Mod d_Mod_close_1 l_Mod_108 (by decide) (by first | assumption | exact xup_s _ _ _ | exact xup_o (by omega) (by assumption) | exact xup_o (by omega) (xup_s _ _ _) | exact xup_o (by omega) (xup_o (by omega) (by assumption)) | exact xup_o (by omega) (xup_o (by omega) (xup_s _ _ _)) | exact xup_o (by omega) (xup_o (by omega) (xup_o (by omega) (by assumption)))) (by rfl) ?_
  refine xn_if_ne (pc := 4) hX 10 d_Mod_close_4 (by decide) (by omega) (fun z => ?_) (fun z => ?_)
  · have hS : sClose (t, out, es, dp, se, sub, fr, bg) = (nI (dp - 1), (t, out, es.filter (fun e => !(e.1 == dp - 1)), dp - 1, se.take (se.length - cnt se (dp - 1)), sub, fr, bg)) := by
      unfold sClose
      dsimp only
      rw [if_neg (by omega)]
    rw [hS] at hE
    refine xp_aload_0 (pc := 10) hX d_Mod_close_10 ?_
    refine xg_get (pc := 11) hX (j := 13) k_Mod d_Mod_close_11 l_Mod_105 (by decide) (by first | assumption | exact xup_s _ _ _ | exact xup_o (by omega) (by assumption) | exact xup_o (by omega) (xup_s _ _ _) | exact xup_o (by omega) (xup_o (by omega) (by assumption)) | exact xup_o (by omega) (xup_o (by omega) (xup_s _ _ _)) | exact xup_o (by omega) (xup_o (by omega) (xup_o (by omega) (by assumption)))) (by rfl) ?_
    refine xg_iconst (pc := 14) hX (nI 1) d_Mod_close_14 ci_iconst_1 ?_
    refine xg_isub (pc := 15) hX d_Mod_close_15 ?_
    rw [m1_sub]
    refine xp_istore_1 (pc := 16) hX d_Mod_close_16 (by decide) ?_
    have loop : ∀ (m : Nat) (M1 : xH), m ≤ es.length → Wd M1 O t x out full (es.take m ++ (es.drop m).filter (fun e => !(e.1 == dp - 1))) (dp - 1) se sub fd fr bg wr nx kd fi la va → FrO M M1 O → xG K 17 [some (.ref O), some (.int (nI m + -1))] [] M1 sz 0 0 := by
      intro m
      induction m with
      | zero =>
        intro M1 hm w1 f1
        rw [List.take_zero, List.drop_zero, List.nil_append] at w1
        obtain ⟨h0, -, -, -, -, -, ⟨g1, fs, fz, fc, g2, g3, g4, g5⟩, -⟩ := id w1
        obtain ⟨t1, t2⟩ := se_take hso (q := dp - 1) (fun s hs => by have := (i2 s hs).2; omega)
        refine xp_iload_1 (pc := 17) hX d_Mod_close_17 ?_
        refine xg_if_lt (pc := 18) hX 45 d_Mod_close_18 (by decide) (fun _ => ?_) (fun z => absurd (by decide) z)
        refine xp_aload_0 (pc := 45) hX d_Mod_close_45 ?_
        refine xg_dup (pc := 46) hX d_Mod_close_46 rfl ?_
        refine xg_get (pc := 47) hX (j := 17) k_Mod d_Mod_close_47 l_Mod_108 (by decide) (by first | assumption | exact xup_s _ _ _ | exact xup_o (by omega) (by assumption) | exact xup_o (by omega) (xup_s _ _ _) | exact xup_o (by omega) (xup_o (by omega) (by assumption)) | exact xup_o (by omega) (xup_o (by omega) (xup_s _ _ _)) | exact xup_o (by omega) (xup_o (by omega) (xup_o (by omega) (by assumption)))) (by rfl) ?_
        refine xg_iconst (pc := 50) hX (nI 1) d_Mod_close_50 ci_iconst_1 ?_
        first | refine xn_isub (pc := 51) hX d_Mod_close_51 (by omega) ?_ | refine xg_isub (pc := 51) hX d_Mod_close_51 ?_
        refine xg_put (pc := 52) hX (j := 17) k_Mod d_Mod_close_52 l_Mod_108 (by decide) rfl (by first | assumption | exact xup_s _ _ _ | exact xup_o (by omega) (by assumption) | exact xup_o (by omega) (xup_s _ _ _) | exact xup_o (by omega) (xup_o (by omega) (by assumption)) | exact xup_o (by omega) (xup_o (by omega) (xup_s _ _ _)) | exact xup_o (by omega) (xup_o (by omega) (xup_o (by omega) (by assumption)))) (Nat.le_of_ble_eq_true rfl) rfl rfl (by simp only [List.set_cons_zero, List.set_cons_succ]; exact rfl) ?_
        refine xp_aload_0 (pc := 55) hX d_Mod_close_55 ?_
        refine xg_get (pc := 56) hX (j := 17) k_Mod d_Mod_close_56 l_Mod_108 (by decide) (by first | assumption | exact xup_s _ _ _ | exact xup_o (by omega) (by assumption) | exact xup_o (by omega) (xup_s _ _ _) | exact xup_o (by omega) (xup_o (by omega) (by assumption)) | exact xup_o (by omega) (xup_o (by omega) (xup_s _ _ _)) | exact xup_o (by omega) (xup_o (by omega) (xup_o (by omega) (by assumption)))) (by rfl) ?_
        refine xg_iconst (pc := 59) hX (nI 1) d_Mod_close_59 ci_iconst_1 ?_
        first | refine xn_iadd (pc := 60) hX d_Mod_close_60 ?_ | refine xg_iadd (pc := 60) hX d_Mod_close_60 ?_
        refine xg_iret (pc := 61) hX hE d_Mod_close_61 rfl rfl (by omega) (by omega) ?_
        refine ⟨rfl, _, rfl, by rw [show dp - 1 - 1 + 1 = dp - 1 by omega], ⟨by omega, x, full, fd, wr, nx, kd, fi, la, va, w1.sp (pool' := dp - 1 - 1) (se' := se.take (se.length - cnt se (dp - 1))) (xup_s _ _ _) ⟨by omega, fs, fz, fc, ?_, ?_, ?_, fun p hp1 hp2 => ?_⟩ (fun q a _ => xup_n _ _ a)⟩, f1.up' _ (by omega) (by omega)⟩
        · rw [xup_n _ _ (by omega)]; exact g2
        · rw [xup_n _ _ (by omega)]; exact g3
        · rw [xup_n _ _ (by omega)]; exact g4
        · rw [t2 p (by omega)]
          exact g5 p hp1 (by omega)
      | succ m ih =>
        intro M1 hm w1 f1
        have hm1 : m < es.length := by omega
        obtain ⟨st1, st2⟩ := flt_step (P := fun e => !(e.1 == dp - 1)) hm1
        have hL : (es.take (m + 1) ++ (es.drop (m + 1)).filter (fun e => !(e.1 == dp - 1)))[m]? = some es[m] := by
          rw [List.getElem?_append_left (by rw [List.length_take]; omega), List.getElem?_take_of_lt (by omega), List.getElem?_eq_getElem hm1]
        generalize es.take (m + 1) ++ (es.drop (m + 1)).filter (fun e => !(e.1 == dp - 1)) = L at *
        have hLm := (List.getElem?_eq_some_iff.mp hL).1
        obtain ⟨h0, -, -, -, -, ⟨h5l, fn, fz, fv, fvz, fp, h5, h6, h7, h8, h9, h10⟩, -⟩ := id w1
        obtain ⟨⟨e1, e2, -⟩, -⟩ := h10 m _ hL
        generalize es[m] = e at *
        have k39 : ∀ (M2 : xH), Wd M2 O t x out full (es.take m ++ (es.drop m).filter (fun e => !(e.1 == dp - 1))) (dp - 1) se sub fd fr bg wr nx kd fi la va → FrO M M2 O → xG K 39 [some (.ref O), some (.int (nI m))] [] M2 sz 0 0 := by
          intro M2 w2 f2
          refine xg_iinc (pc := 39) hX d_Mod_close_39 (by decide) rfl ci_iconst_m1 (by rfl) ?_
          refine xg_goto (pc := 42) hX 17 d_Mod_close_42 (by decide) ?_
          exact ih M2 (by omega) w2 f2
        rw [pk_m1]
        refine xp_iload_1 (pc := 17) hX d_Mod_close_17 ?_
        refine xn_if_lt (pc := 18) hX 45 d_Mod_close_18 (by decide) (by omega) ?_
        refine xp_aload_0 (pc := 21) hX d_Mod_close_21 ?_
        refine xg_get (pc := 22) hX (j := 12) k_Mod d_Mod_close_22 l_Mod_34 (by decide) (by first | assumption | exact xup_s _ _ _ | exact xup_o (by omega) (by assumption) | exact xup_o (by omega) (xup_s _ _ _) | exact xup_o (by omega) (xup_o (by omega) (by assumption)) | exact xup_o (by omega) (xup_o (by omega) (xup_s _ _ _)) | exact xup_o (by omega) (xup_o (by omega) (xup_o (by omega) (by assumption)))) (by rfl) ?_
        refine xp_iload_1 (pc := 25) hX d_Mod_close_25 ?_
        refine xn_iald (pc := 26) hX d_Mod_close_26 rfl (by first | assumption | exact xup_s _ _ _ | exact xup_o (by omega) (by assumption) | exact xup_o (by omega) (xup_s _ _ _) | exact xup_o (by omega) (xup_o (by omega) (by assumption)) | exact xup_o (by omega) (xup_o (by omega) (xup_s _ _ _)) | exact xup_o (by omega) (xup_o (by omega) (xup_o (by omega) (by assumption)))) (by omega) (by omega) ?_
        rw [e1]
        refine xp_aload_0 (pc := 27) hX d_Mod_close_27 ?_
        refine xg_get (pc := 28) hX (j := 17) k_Mod d_Mod_close_28 l_Mod_108 (by decide) (by first | assumption | exact xup_s _ _ _ | exact xup_o (by omega) (by assumption) | exact xup_o (by omega) (xup_s _ _ _) | exact xup_o (by omega) (xup_o (by omega) (by assumption)) | exact xup_o (by omega) (xup_o (by omega) (xup_s _ _ _)) | exact xup_o (by omega) (xup_o (by omega) (xup_o (by omega) (by assumption)))) (by rfl) ?_
        refine xn_icmp_ne (pc := 31) hX 39 d_Mod_close_31 (by decide) (by omega) (by omega) (fun z1 => ?_) (fun z1 => ?_)
        · refine k39 M1 ?_ f1
          rw [← st2 (by rw [show (e.1 == dp - 1) = false by rw [beq_eq_false_iff_ne]; exact z1]; rfl)]
          exact w1
        · refine xp_aload_0 (pc := 34) hX d_Mod_close_34 ?_
          refine xp_iload_1 (pc := 35) hX d_Mod_close_35 ?_
          refine xv_V (Y2 := Y_Mod_remove) (pc := 36) hX [_] k_Mod m_Mod_remove d_Mod_close_36 l_Mod_134 rfl rfl (by simp [Value.category]) (by first | assumption | exact xup_s _ _ _ | exact xup_o (by omega) (by assumption) | exact xup_o (by omega) (xup_s _ _ _) | exact xup_o (by omega) (xup_o (by omega) (by assumption)) | exact xup_o (by omega) (xup_o (by omega) (xup_s _ _ _)) | exact xup_o (by omega) (xup_o (by omega) (xup_o (by omega) (by assumption)))) (c_Mod_remove d w1 hLm) (by omega) (by omega) ?_
          rintro M2 ⟨a1, a2⟩
          refine k39 M2 ?_ (f1.tr a2)
          rw [← st1 (by rw [show (e.1 == dp - 1) = true by rw [beq_iff_eq]; exact z1]; rfl)]
          exact a1
    exact loop es.length M (Nat.le_refl _) (by simpa using hw) (FrO.rf _ _)
  · have hS : sClose (t, out, es, dp, se, sub, fr, bg) = (-3, (t, out, es, dp, se, sub, fr, bg)) := by
      unfold sClose
      dsimp only
      rw [if_pos (by omega)]
    rw [hS] at hE
    refine xg_bipush (pc := 7) hX (-3) d_Mod_close_7 ci_bipush_m3 ?_
    refine xg_iret (pc := 9) hX hE d_Mod_close_9 rfl rfl (by omega) (by omega) ?_
    exact ⟨rfl, _, rfl, rfl, h, FrO.rf _ _⟩
set_option maxHeartbeats 16000000 in
set_option maxRecDepth 100000 in
theorem b_subject (d : Nat) {M : xH} {sz O : Nat} {S : xS} (cp : Bool) (h : MW M O S) : xC (d + 1) 0 0 Y_Mod_subject [.ref O, .int (bI cp)] M sz (qi sz (fun z M' => z = (sSubject cp S).1 ∧ MW M' O (sSubject cp S).2 ∧ FrO M M' O)) := by
  obtain ⟨t, out, es, dp, se, sub, fr, bg⟩ := S
  obtain ⟨hdp, x, full, fd, wr, nx, kd, fi, la, va, hw⟩ := id h
  refine xC_of (by decide) (Nat.le_of_ble_eq_true rfl) (by simp [Value.category]) (vs := [some (.ref O), some (.int (bI cp)), none]) rfl (fun K hX hE => ?_)
  obtain ⟨h0, -⟩ := id hw
  have htl := hw.xl.1
  refine xp_aload_0 (pc := 0) hX d_Mod_subject_0 ?_
  refine xv_V (Y2 := Y_Mod_take) (pc := 1) hX [] k_Mod m_Mod_take d_Mod_subject_1 l_Mod_143 rfl rfl (by simp [Value.category]) (by first | assumption | exact xup_s _ _ _ | exact xup_o (by omega) (by assumption) | exact xup_o (by omega) (xup_s _ _ _) | exact xup_o (by omega) (xup_o (by omega) (by assumption)) | exact xup_o (by omega) (xup_o (by omega) (xup_s _ _ _)) | exact xup_o (by omega) (xup_o (by omega) (xup_o (by omega) (by assumption)))) (c_Mod_take d hw) (by omega) (by omega) ?_
  rintro M1 ⟨w1, f1⟩
  obtain ⟨h0, -, ⟨h2l, g, h2a, h2b⟩, -, -, -, -, ⟨hsl2, gs, hs, hsb⟩, -⟩ := id w1
  refine xp_aload_0 (pc := 4) hX d_Mod_subject_4 ?_
  refine xg_get (pc := 5) hX (j := 5) k_Mod d_Mod_subject_5 l_Mod_72 (by decide) (by first | assumption | exact xup_s _ _ _ | exact xup_o (by omega) (by assumption) | exact xup_o (by omega) (xup_s _ _ _) | exact xup_o (by omega) (xup_o (by omega) (by assumption)) | exact xup_o (by omega) (xup_o (by omega) (xup_s _ _ _)) | exact xup_o (by omega) (xup_o (by omega) (xup_o (by omega) (by assumption)))) (by rfl) ?_
  refine xg_sipush (pc := 8) hX (nI 200) d_Mod_subject_8 ci_sipush_200 ?_
  refine xn_icmp_le (pc := 11) hX 17 d_Mod_subject_11 (by decide) (by omega) (by omega) (fun z => ?_) (fun z => ?_)
  · have hS : sSubject cp (t, out, es, dp, se, sub, fr, bg) = (nI t.length, ([], out, es, dp, se, if cp then t.map cap else t, fr, bg)) := by
      unfold sSubject
      dsimp only
      rw [if_pos z]
    rw [hS] at hE
    have hcl : (if cp then t.map cap else t).length = t.length := by cases cp <;> simp
    generalize hT : (if cp then t.map cap else t) = T at *
    refine xp_aload_0 (pc := 17) hX d_Mod_subject_17 ?_
    refine xp_aload_0 (pc := 18) hX d_Mod_subject_18 ?_
    refine xg_get (pc := 19) hX (j := 5) k_Mod d_Mod_subject_19 l_Mod_72 (by decide) (by first | assumption | exact xup_s _ _ _ | exact xup_o (by omega) (by assumption) | exact xup_o (by omega) (xup_s _ _ _) | exact xup_o (by omega) (xup_o (by omega) (by assumption)) | exact xup_o (by omega) (xup_o (by omega) (xup_s _ _ _)) | exact xup_o (by omega) (xup_o (by omega) (xup_o (by omega) (by assumption)))) (by rfl) ?_
    refine xg_put (pc := 22) hX (j := 20) k_Mod d_Mod_subject_22 l_Mod_173 (by decide) rfl (by first | assumption | exact xup_s _ _ _ | exact xup_o (by omega) (by assumption) | exact xup_o (by omega) (xup_s _ _ _) | exact xup_o (by omega) (xup_o (by omega) (by assumption)) | exact xup_o (by omega) (xup_o (by omega) (xup_s _ _ _)) | exact xup_o (by omega) (xup_o (by omega) (xup_o (by omega) (by assumption)))) (Nat.le_of_ble_eq_true rfl) rfl rfl (by simp only [List.set_cons_zero, List.set_cons_succ]; exact rfl) ?_
    refine xg_iconst (pc := 25) hX (nI 0) d_Mod_subject_25 ci_iconst_0 ?_
    refine xp_istore_2 (pc := 26) hX d_Mod_subject_26 (by decide) ?_
    have loop : ∀ (r i : Nat) (M2 : xH) (gs2 : Nat → Int32), t.length - i = r → i ≤ t.length → M2 O = some (moC O [] t out full es (dp - 1) se T fd fr bg none 0 kd fi la va) → M2 (O + 2) = some (.inl (1, 600, .inl g)) → M2 (O + 13) = some (.inl (1, 200, .inl gs2)) → (∀ j b, j < i → T[j]? = some b → gs2 j = nI b.toNat) → (∀ q, q ≠ O → q ≠ O + 13 → M2 q = M1 q) → xG K 27 [some (.ref O), some (.int (bI cp)), some (.int (nI i))] [] M2 sz 0 0 := by
      intro r
      induction r with
      | zero =>
        intro i M2 gs2 hr hi h0 hg hs2 hb hq
        refine xp_iload_2 (pc := 27) hX d_Mod_subject_27 ?_
        refine xp_aload_0 (pc := 28) hX d_Mod_subject_28 ?_
        refine xg_get (pc := 29) hX (j := 5) k_Mod d_Mod_subject_29 l_Mod_72 (by decide) (by first | assumption | exact xup_s _ _ _ | exact xup_o (by omega) (by assumption) | exact xup_o (by omega) (xup_s _ _ _) | exact xup_o (by omega) (xup_o (by omega) (by assumption)) | exact xup_o (by omega) (xup_o (by omega) (xup_s _ _ _)) | exact xup_o (by omega) (xup_o (by omega) (xup_o (by omega) (by assumption)))) (by rfl) ?_
        refine xn_icmp_ge (pc := 32) hX 69 d_Mod_subject_32 (by decide) (by omega) (by omega) (fun _ => ?_) (fun z => absurd z (by omega))
        refine xp_aload_0 (pc := 69) hX d_Mod_subject_69 ?_
        refine xg_get (pc := 70) hX (j := 5) k_Mod d_Mod_subject_70 l_Mod_72 (by decide) (by first | assumption | exact xup_s _ _ _ | exact xup_o (by omega) (by assumption) | exact xup_o (by omega) (xup_s _ _ _) | exact xup_o (by omega) (xup_o (by omega) (by assumption)) | exact xup_o (by omega) (xup_o (by omega) (xup_s _ _ _)) | exact xup_o (by omega) (xup_o (by omega) (xup_o (by omega) (by assumption)))) (by rfl) ?_
        refine xg_iret (pc := 73) hX hE d_Mod_subject_73 rfl rfl (by omega) (by omega) ?_
        refine ⟨rfl, _, rfl, rfl, ⟨hdp, t, full, fd, none, 0, kd, fi, la, va, w1.ss (sub' := T) h0 ⟨by omega, gs2, hs2, fun j b hj => hb j b (by have := (List.getElem?_eq_some_iff.mp hj).1; omega) hj⟩ hq⟩, f1.tr (fun q hq1 => hq q (by omega) (by omega))⟩
      | succ r ih =>
        intro i M2 gs2 hr hi h0 hg hs2 hb hq
        have hit : i < t.length := by omega
        have hiT : i < T.length := by omega
        have hbi := h2b i t[i] (List.getElem?_eq_getElem hit)
        have k62 : ∀ (y : Int32), y = nI T[i].toNat → xG K 62 [some (.ref O), some (.int (bI cp)), some (.int (nI i))] [.int y, .int (nI i), .ref (O + 13)] M2 sz 0 0 := by
          rintro y rfl
          refine xn_iast (pc := 62) hX d_Mod_subject_62 rfl (by first | assumption | exact xup_s _ _ _ | exact xup_o (by omega) (by assumption) | exact xup_o (by omega) (xup_s _ _ _) | exact xup_o (by omega) (xup_o (by omega) (by assumption)) | exact xup_o (by omega) (xup_o (by omega) (xup_s _ _ _)) | exact xup_o (by omega) (xup_o (by omega) (xup_o (by omega) (by assumption)))) (by omega) (by omega) ?_
          refine xp_inc_2 (pc := 63) hX d_Mod_subject_63 (by decide) ?_
          refine xg_goto (pc := 66) hX 27 d_Mod_subject_66 (by decide) ?_
          refine ih (i + 1) _ _ (by omega) (by omega) ?_ ?_ (xup_s _ _ _) (fun j c hj hc => ?_) (fun q a b => ?_)
          · rw [xup_n _ _ (by omega)]; exact h0
          · rw [xup_n _ _ (by omega)]; exact hg
          · by_cases e : j = i
            · subst e
              rw [pk_us]
              rw [List.getElem?_eq_getElem hiT] at hc
              rw [Option.some.inj hc]
            · rw [pk_un e]
              exact hb j c (by omega) hc
          · rw [xup_n _ _ b]; exact hq q a b
        have hTi : T[i]? = some (if cp then cap t[i] else t[i]) := by
          rw [← hT]
          cases cp with
          | false => exact List.getElem?_eq_getElem hit
          | true => simp [List.getElem?_eq_getElem hit]
        rw [List.getElem?_eq_getElem hiT] at hTi
        have hTi := Option.some.inj hTi
        refine xp_iload_2 (pc := 27) hX d_Mod_subject_27 ?_
        refine xp_aload_0 (pc := 28) hX d_Mod_subject_28 ?_
        refine xg_get (pc := 29) hX (j := 5) k_Mod d_Mod_subject_29 l_Mod_72 (by decide) (by first | assumption | exact xup_s _ _ _ | exact xup_o (by omega) (by assumption) | exact xup_o (by omega) (xup_s _ _ _) | exact xup_o (by omega) (xup_o (by omega) (by assumption)) | exact xup_o (by omega) (xup_o (by omega) (xup_s _ _ _)) | exact xup_o (by omega) (xup_o (by omega) (xup_o (by omega) (by assumption)))) (by rfl) ?_
        refine xn_icmp_ge (pc := 32) hX 69 d_Mod_subject_32 (by decide) (by omega) (by omega) (fun z => absurd z (by omega)) (fun _ => ?_)
        refine xp_aload_0 (pc := 35) hX d_Mod_subject_35 ?_
        refine xg_get (pc := 36) hX (j := 18) k_Mod d_Mod_subject_36 l_Mod_46 (by decide) (by first | assumption | exact xup_s _ _ _ | exact xup_o (by omega) (by assumption) | exact xup_o (by omega) (xup_s _ _ _) | exact xup_o (by omega) (xup_o (by omega) (by assumption)) | exact xup_o (by omega) (xup_o (by omega) (xup_s _ _ _)) | exact xup_o (by omega) (xup_o (by omega) (xup_o (by omega) (by assumption)))) (by rfl) ?_
        refine xp_iload_2 (pc := 39) hX d_Mod_subject_39 ?_
        refine xp_iload_1 (pc := 40) hX d_Mod_subject_40 ?_
        refine xg_if_eq (pc := 41) hX 56 d_Mod_subject_41 (by decide) (fun z => ?_) (fun z => ?_)
        · have z := bI_eq0.mp z
          rw [z] at hTi
          refine xp_aload_0 (pc := 56) hX d_Mod_subject_56 ?_
          refine xg_get (pc := 57) hX (j := 1) k_Mod d_Mod_subject_57 l_Mod_13 (by decide) (by first | assumption | exact xup_s _ _ _ | exact xup_o (by omega) (by assumption) | exact xup_o (by omega) (xup_s _ _ _) | exact xup_o (by omega) (xup_o (by omega) (by assumption)) | exact xup_o (by omega) (xup_o (by omega) (xup_s _ _ _)) | exact xup_o (by omega) (xup_o (by omega) (xup_o (by omega) (by assumption)))) (by rfl) ?_
          refine xp_iload_2 (pc := 60) hX d_Mod_subject_60 ?_
          refine xn_iald (pc := 61) hX d_Mod_subject_61 rfl (by first | assumption | exact xup_s _ _ _ | exact xup_o (by omega) (by assumption) | exact xup_o (by omega) (xup_s _ _ _) | exact xup_o (by omega) (xup_o (by omega) (by assumption)) | exact xup_o (by omega) (xup_o (by omega) (xup_s _ _ _)) | exact xup_o (by omega) (xup_o (by omega) (xup_o (by omega) (by assumption)))) (by omega) (by omega) ?_
          exact k62 _ (by rw [hbi, hTi]; rfl)
        · have z := bI_ne0.mp z
          rw [z, if_pos rfl] at hTi
          refine xp_aload_0 (pc := 44) hX d_Mod_subject_44 ?_
          refine xg_get (pc := 45) hX (j := 1) k_Mod d_Mod_subject_45 l_Mod_13 (by decide) (by first | assumption | exact xup_s _ _ _ | exact xup_o (by omega) (by assumption) | exact xup_o (by omega) (xup_s _ _ _) | exact xup_o (by omega) (xup_o (by omega) (by assumption)) | exact xup_o (by omega) (xup_o (by omega) (xup_s _ _ _)) | exact xup_o (by omega) (xup_o (by omega) (xup_o (by omega) (by assumption)))) (by rfl) ?_
          refine xp_iload_2 (pc := 48) hX d_Mod_subject_48 ?_
          refine xn_iald (pc := 49) hX d_Mod_subject_49 rfl (by first | assumption | exact xup_s _ _ _ | exact xup_o (by omega) (by assumption) | exact xup_o (by omega) (xup_s _ _ _) | exact xup_o (by omega) (xup_o (by omega) (by assumption)) | exact xup_o (by omega) (xup_o (by omega) (xup_s _ _ _)) | exact xup_o (by omega) (xup_o (by omega) (xup_o (by omega) (by assumption)))) (by omega) (by omega) ?_
          rw [hbi]
          refine xi_S (Y2 := Y_Mod_capital) (pc := 50) hX [_] m_Mod_capital d_Mod_subject_50 l_Mod_121 rfl rfl (by simp [Value.category]) (c_Mod_capital d t[i]) (by omega) (by omega) ?_
          rintro y M3 ⟨rfl, rfl⟩
          refine xg_goto (pc := 53) hX 62 d_Mod_subject_53 (by decide) ?_
          exact k62 _ (by rw [hTi])
    refine loop _ 0 _ gs rfl (by omega) ?_ ?_ ?_ (fun j b hj => absurd hj (by omega)) (fun q a _ => xup_n _ _ a)
    · rw [xup_s]
      simp only [moC, hcl]
    · rw [xup_n _ _ (by omega)]; exact h2a
    · rw [xup_n _ _ (by omega)]; exact hs
  · have hS : sSubject cp (t, out, es, dp, se, sub, fr, bg) = (-4, ([], out, es, dp, se, sub, fr, bg)) := by
      unfold sSubject
      dsimp only
      rw [if_neg (by omega)]
    rw [hS] at hE
    refine xg_bipush (pc := 14) hX (-4) d_Mod_subject_14 ci_bipush_m4 ?_
    refine xg_iret (pc := 16) hX hE d_Mod_subject_16 rfl rfl (by omega) (by omega) ?_
    exact ⟨rfl, _, rfl, rfl, ⟨hdp, _, _, _, _, _, _, _, _, _, w1⟩, f1⟩
set_option maxHeartbeats 16000000 in
set_option maxRecDepth 100000 in
theorem b_set (d : Nat) {M : xH} {sz O : Nat} {S : xS} (h : MW M O S) (hI : InvF S) : xC (d + 5) 0 0 Y_Mod_set [.ref O] M sz (qi sz (fun z M' => z = (sSet S).1 ∧ MW M' O (sSet S).2 ∧ FrO M M' O)) := by
  obtain ⟨t, out, es, dp, se, sub, fr, bg⟩ := S
  obtain ⟨hdp, x, full, fd, wr, nx, kd, fi, la, va, hw⟩ := id h
  obtain ⟨⟨hgI, -⟩, hso⟩ := hI
  refine xC_of (by decide) (Nat.le_of_ble_eq_true rfl) (by simp [Value.category]) (vs := [some (.ref O), none]) rfl (fun K hX hE => ?_)
  obtain ⟨h0, -⟩ := id hw
  have htl := hw.xl.1
  refine xp_aload_0 (pc := 0) hX d_Mod_set_0 ?_
  refine xv_V (Y2 := Y_Mod_take) (pc := 1) hX [] k_Mod m_Mod_take d_Mod_set_1 l_Mod_143 rfl rfl (by simp [Value.category]) (by first | assumption | exact xup_s _ _ _ | exact xup_o (by omega) (by assumption) | exact xup_o (by omega) (xup_s _ _ _) | exact xup_o (by omega) (xup_o (by omega) (by assumption)) | exact xup_o (by omega) (xup_o (by omega) (xup_s _ _ _)) | exact xup_o (by omega) (xup_o (by omega) (xup_o (by omega) (by assumption)))) (c_Mod_take (d + 4) hw) (by omega) (by omega) ?_
  rintro M1 ⟨w1, f1⟩
  obtain ⟨h0, -⟩ := id w1
  refine xp_aload_0 (pc := 4) hX d_Mod_set_4 ?_
  refine xv_V (Y2 := Y_Mod_variable) (pc := 5) hX [] k_Mod m_Mod_variable d_Mod_set_5 l_Mod_146 rfl rfl (by simp [Value.category]) (by first | assumption | exact xup_s _ _ _ | exact xup_o (by omega) (by assumption) | exact xup_o (by omega) (xup_s _ _ _) | exact xup_o (by omega) (xup_o (by omega) (by assumption)) | exact xup_o (by omega) (xup_o (by omega) (xup_s _ _ _)) | exact xup_o (by omega) (xup_o (by omega) (xup_o (by omega) (by assumption)))) (c_Mod_variable (d + 2) w1 (by intro q hq; cases hq) (by omega)) (by omega) (by omega) ?_
  rintro M2 ⟨w2, f2⟩
  have hle := rdV_le (t := t) (s := 0) (by omega)
  have hGv : rdG t = (if (rdV t 0).2 then (if t[(rdV t 0).1]? = some 61 then (if 200 < t.length - ((rdV t 0).1 + 1) then ((rdV t 0).1 + 1 + 200, false) else ((rdV t 0).1, true)) else ((rdV t 0).1, false)) else rdV t 0) := rfl
  have hG1 := fun h => rdG_ok (t := t) h
  have hG2 := rdG_le htl
  have hSS : sSet (t, out, es, dp, se, sub, fr, bg) = if (rdG t).2 = true then (if (FN es se (dp - 1) t 0 (rdG t).1).length ≤ 200 then (if (givE es se (dp - 1) (FN es se (dp - 1) t 0 (rdG t).1) (sl t ((rdG t).1 + 1) t.length)).1 = nI 0 then nI (givE es se (dp - 1) (FN es se (dp - 1) t 0 (rdG t).1) (sl t ((rdG t).1 + 1) t.length)).2.length else (givE es se (dp - 1) (FN es se (dp - 1) t 0 (rdG t).1) (sl t ((rdG t).1 + 1) t.length)).1, ([], out, (givE es se (dp - 1) (FN es se (dp - 1) t 0 (rdG t).1) (sl t ((rdG t).1 + 1) t.length)).2, dp, se, sub, fr, bg)) else (-2, ([], out, es, dp, se, sub, fr, bg))) else (aI (some (rdG t).1), ([], out, es, dp, se, sub, fr, bg)) := rfl
  have hRG : (rdG t).2 = true → (rdG t).1 = (rdV t 0).1 := fun q => by rw [(hG1 q).2.2.2.2.2]
  generalize rdG t = G at *
  generalize rdV t 0 = R at *
  have k69 : ∀ (M3 : xH), Wd M3 O [] t out full es (dp - 1) se sub fd fr bg (if G.2 = true then none else some G.1) (R.1) kd fi la va → FrO M M3 O → xG K 69 [some (.ref O), some (.int (nI R.1))] [] M3 sz 0 0 := by
    intro M3 w3 f3
    obtain ⟨h0, -⟩ := id w3
    refine xp_aload_0 (pc := 69) hX d_Mod_set_69 ?_
    refine xg_get (pc := 70) hX (j := 24) k_Mod d_Mod_set_70 l_Mod_75 (by decide) (by first | assumption | exact xup_s _ _ _ | exact xup_o (by omega) (by assumption) | exact xup_o (by omega) (xup_s _ _ _) | exact xup_o (by omega) (xup_o (by omega) (by assumption)) | exact xup_o (by omega) (xup_o (by omega) (xup_s _ _ _)) | exact xup_o (by omega) (xup_o (by omega) (xup_o (by omega) (by assumption)))) (by rfl) ?_
    by_cases c : G.2 = true
    · obtain ⟨o1, o2, o3, o4, o5, o6⟩ := hG1 c
      rw [if_pos c] at w3 hSS ⊢
      have hRe := hRG c
      rw [← hRe] at w3 ⊢
      refine xg_if_lt (pc := 73) hX 85 d_Mod_set_73 (by decide) (fun _ => ?_) (fun z => absurd (by decide) z)
      refine xp_aload_0 (pc := 85) hX d_Mod_set_85 ?_
      refine xg_iconst (pc := 86) hX (nI 0) d_Mod_set_86 ci_iconst_0 ?_
      refine xp_iload_1 (pc := 87) hX d_Mod_set_87 ?_
      refine xi_V (Y2 := Y_Mod_nameOf) (pc := 88) hX [_, _] k_Mod m_Mod_nameOf d_Mod_set_88 l_Mod_149 rfl rfl (by simp [Value.category]) (by first | assumption | exact xup_s _ _ _ | exact xup_o (by omega) (by assumption) | exact xup_o (by omega) (xup_s _ _ _) | exact xup_o (by omega) (xup_o (by omega) (by assumption)) | exact xup_o (by omega) (xup_o (by omega) (xup_s _ _ _)) | exact xup_o (by omega) (xup_o (by omega) (xup_o (by omega) (by assumption)))) (c_Mod_nameOf d (a := 0) w3 hso hgI o1 (by omega) (by omega)) (by omega) (by omega) ?_
      have hnz := FN_pos (es := es) (se := se) (ip := dp - 1) (t := t) (a := 0) o1 (by omega)
      generalize FN es se (dp - 1) t 0 G.1 = nm at *
      rintro y M4 ⟨hc, f4⟩
      rcases hc with ⟨c1, rfl, w4⟩ | ⟨c1, rfl, f', w4⟩
      · rw [if_pos c1] at hSS
        refine xn_if_ne (a := 1) (pc := 91) hX 97 d_Mod_set_91 (by decide) (by decide) (fun _ => ?_) (fun z => absurd z (by decide))
        obtain ⟨h0, -⟩ := id w4
        refine xp_aload_0 (pc := 97) hX d_Mod_set_97 ?_
        refine xg_iconst (pc := 98) hX (nI 0) d_Mod_set_98 ci_iconst_0 ?_
        refine xp_iload_1 (pc := 99) hX d_Mod_set_99 ?_
        refine xg_iconst (pc := 100) hX (nI 1) d_Mod_set_100 ci_iconst_1 ?_
        first | refine xn_iadd (pc := 101) hX d_Mod_set_101 ?_ | refine xg_iadd (pc := 101) hX d_Mod_set_101 ?_
        refine xp_aload_0 (pc := 102) hX d_Mod_set_102 ?_
        refine xg_get (pc := 103) hX (j := 5) k_Mod d_Mod_set_103 l_Mod_72 (by decide) (by first | assumption | exact xup_s _ _ _ | exact xup_o (by omega) (by assumption) | exact xup_o (by omega) (xup_s _ _ _) | exact xup_o (by omega) (xup_o (by omega) (by assumption)) | exact xup_o (by omega) (xup_o (by omega) (xup_s _ _ _)) | exact xup_o (by omega) (xup_o (by omega) (xup_o (by omega) (by assumption)))) (by rfl) ?_
        refine xi_V (Y2 := Y_Mod_assign) (pc := 106) hX [_, _, _] k_Mod m_Mod_assign d_Mod_set_106 l_Mod_152 rfl rfl (by simp [Value.category]) (by first | assumption | exact xup_s _ _ _ | exact xup_o (by omega) (by assumption) | exact xup_o (by omega) (xup_s _ _ _) | exact xup_o (by omega) (xup_o (by omega) (by assumption)) | exact xup_o (by omega) (xup_o (by omega) (xup_s _ _ _)) | exact xup_o (by omega) (xup_o (by omega) (xup_o (by omega) (by assumption)))) (c_Mod_assign (d + 2) (sb := false) (src := t) w4 hso hnz c1 rfl (by omega) (by omega) (by omega)) (by omega) (by omega) ?_
        rintro y M5 ⟨hc, f5⟩
        have hgE : givE es se (dp - 1) nm (sl t (G.1 + 1) t.length) = (match putE (clE es (own se nm (dp - 1)) nm) (own se nm (dp - 1)) nm (some (sl t (G.1 + 1) t.length)) with | some es2 => (nI 0, es2) | none => (-4, clE es (own se nm (dp - 1)) nm)) := rfl
        rcases hc with ⟨es2, e1, rfl, w5⟩ | ⟨e1, rfl, w5⟩
        · rw [e1] at hgE
          rw [hgE] at hSS
          rw [hSS] at hE
          obtain ⟨h0, -⟩ := id w5
          refine xn_if_eq (a := 1) (pc := 109) hX 119 d_Mod_set_109 (by decide) (by decide) (fun z => absurd z (by decide)) (fun _ => ?_)
          refine xp_aload_0 (pc := 112) hX d_Mod_set_112 ?_
          refine xg_get (pc := 113) hX (j := 13) k_Mod d_Mod_set_113 l_Mod_105 (by decide) (by first | assumption | exact xup_s _ _ _ | exact xup_o (by omega) (by assumption) | exact xup_o (by omega) (xup_s _ _ _) | exact xup_o (by omega) (xup_o (by omega) (by assumption)) | exact xup_o (by omega) (xup_o (by omega) (xup_s _ _ _)) | exact xup_o (by omega) (xup_o (by omega) (xup_o (by omega) (by assumption)))) (by rfl) ?_
          refine xg_goto (pc := 116) hX 121 d_Mod_set_116 (by decide) ?_
          refine xg_iret (pc := 121) hX hE d_Mod_set_121 rfl rfl (by omega) (by omega) ?_
          exact ⟨rfl, _, rfl, rfl, ⟨hdp, _, _, _, _, _, _, _, _, _, w5⟩, (f3.tr f4).tr f5⟩
        · rw [e1] at hgE
          rw [hgE] at hSS
          rw [hSS] at hE
          refine xn_if_eq (a := 0) (pc := 109) hX 119 d_Mod_set_109 (by decide) (by decide) (fun _ => ?_) (fun z => absurd z (by decide))
          refine xg_bipush (pc := 119) hX (-4) d_Mod_set_119 ci_bipush_m4 ?_
          refine xg_iret (pc := 121) hX hE d_Mod_set_121 rfl rfl (by omega) (by omega) ?_
          exact ⟨rfl, _, rfl, rfl, ⟨hdp, _, _, _, _, _, _, _, _, _, w5⟩, (f3.tr f4).tr f5⟩
      · rw [if_neg (by omega)] at hSS
        rw [hSS] at hE
        refine xn_if_ne (a := 0) (pc := 91) hX 97 d_Mod_set_91 (by decide) (by decide) (fun z => absurd z (by decide)) (fun _ => ?_)
        refine xg_bipush (pc := 94) hX (-2) d_Mod_set_94 ci_bipush_m2 ?_
        refine xg_iret (pc := 96) hX hE d_Mod_set_96 rfl rfl (by omega) (by omega) ?_
        exact ⟨rfl, _, rfl, rfl, ⟨hdp, _, _, _, _, _, _, _, _, _, w4⟩, f3.tr f4⟩
    · rw [if_neg c] at w3 hSS h0 ⊢
      rw [hSS] at hE
      refine xn_if_lt (a := G.1) (pc := 73) hX 85 d_Mod_set_73 (by decide) (by omega) ?_
      refine xg_sipush (pc := 76) hX (-1000) d_Mod_set_76 ci_sipush_m1000 ?_
      refine xp_aload_0 (pc := 79) hX d_Mod_set_79 ?_
      refine xg_get (pc := 80) hX (j := 24) k_Mod d_Mod_set_80 l_Mod_75 (by decide) (by first | assumption | exact xup_s _ _ _ | exact xup_o (by omega) (by assumption) | exact xup_o (by omega) (xup_s _ _ _) | exact xup_o (by omega) (xup_o (by omega) (by assumption)) | exact xup_o (by omega) (xup_o (by omega) (xup_s _ _ _)) | exact xup_o (by omega) (xup_o (by omega) (xup_o (by omega) (by assumption)))) (by rfl) ?_
      refine xg_isub (pc := 83) hX d_Mod_set_83 ?_
      refine xg_iret (pc := 84) hX hE d_Mod_set_84 rfl rfl (by omega) (by omega) ?_
      exact ⟨rfl, _, rfl, rfl, ⟨hdp, _, _, _, _, _, _, _, _, _, w3⟩, f3⟩
  obtain ⟨h0, -⟩ := id w2
  refine xp_aload_0 (pc := 8) hX d_Mod_set_8 ?_
  refine xg_get (pc := 9) hX (j := 25) k_Mod d_Mod_set_9 l_Mod_78 (by decide) (by first | assumption | exact xup_s _ _ _ | exact xup_o (by omega) (by assumption) | exact xup_o (by omega) (xup_s _ _ _) | exact xup_o (by omega) (xup_o (by omega) (by assumption)) | exact xup_o (by omega) (xup_o (by omega) (xup_s _ _ _)) | exact xup_o (by omega) (xup_o (by omega) (xup_o (by omega) (by assumption)))) (by rfl) ?_
  refine xp_istore_1 (pc := 12) hX d_Mod_set_12 (by decide) ?_
  refine xp_aload_0 (pc := 13) hX d_Mod_set_13 ?_
  refine xg_get (pc := 14) hX (j := 24) k_Mod d_Mod_set_14 l_Mod_75 (by decide) (by first | assumption | exact xup_s _ _ _ | exact xup_o (by omega) (by assumption) | exact xup_o (by omega) (xup_s _ _ _) | exact xup_o (by omega) (xup_o (by omega) (by assumption)) | exact xup_o (by omega) (xup_o (by omega) (xup_s _ _ _)) | exact xup_o (by omega) (xup_o (by omega) (xup_o (by omega) (by assumption)))) (by rfl) ?_
  by_cases c : R.2 = true
  · rw [if_pos c] at hGv
    have hwr : wrS none R = none := by unfold wrS; rw [if_pos c]
    rw [hwr] at w2 h0 ⊢
    refine xg_if_ge (pc := 17) hX 37 d_Mod_set_17 (by decide) (fun z => absurd z (by decide)) (fun _ => ?_)
    refine xp_aload_0 (pc := 20) hX d_Mod_set_20 ?_
    refine xi_V (Y2 := Y_Mod_here) (pc := 21) hX [] k_Mod m_Mod_here d_Mod_set_21 l_Mod_85 rfl rfl (by simp [Value.category]) (by first | assumption | exact xup_s _ _ _ | exact xup_o (by omega) (by assumption) | exact xup_o (by omega) (xup_s _ _ _) | exact xup_o (by omega) (xup_o (by omega) (by assumption)) | exact xup_o (by omega) (xup_o (by omega) (xup_s _ _ _)) | exact xup_o (by omega) (xup_o (by omega) (xup_o (by omega) (by assumption)))) (c_Mod_here (d + 4) w2 (by omega)) (by omega) (by omega) ?_
    rintro y M3 ⟨rfl, rfl⟩
    refine xg_bipush (pc := 24) hX (nI 61) d_Mod_set_24 ci_bipush_61 ?_
    refine xg_icmp_eq (pc := 26) hX 37 d_Mod_set_26 (by decide) (fun z => ?_) (fun z => ?_)
    · have z : t[R.1]? = some 61 := (oI_eq (by decide)).mp z
      have hlt := (List.getElem?_eq_some_iff.mp z).1
      rw [if_pos z] at hGv
      refine xp_aload_0 (pc := 37) hX d_Mod_set_37 ?_
      refine xg_get (pc := 38) hX (j := 24) k_Mod d_Mod_set_38 l_Mod_75 (by decide) (by first | assumption | exact xup_s _ _ _ | exact xup_o (by omega) (by assumption) | exact xup_o (by omega) (xup_s _ _ _) | exact xup_o (by omega) (xup_o (by omega) (by assumption)) | exact xup_o (by omega) (xup_o (by omega) (xup_s _ _ _)) | exact xup_o (by omega) (xup_o (by omega) (xup_o (by omega) (by assumption)))) (by rfl) ?_
      refine xg_if_ge (pc := 41) hX 69 d_Mod_set_41 (by decide) (fun z => absurd z (by decide)) (fun _ => ?_)
      refine xp_aload_0 (pc := 44) hX d_Mod_set_44 ?_
      refine xg_get (pc := 45) hX (j := 5) k_Mod d_Mod_set_45 l_Mod_72 (by decide) (by first | assumption | exact xup_s _ _ _ | exact xup_o (by omega) (by assumption) | exact xup_o (by omega) (xup_s _ _ _) | exact xup_o (by omega) (xup_o (by omega) (by assumption)) | exact xup_o (by omega) (xup_o (by omega) (xup_s _ _ _)) | exact xup_o (by omega) (xup_o (by omega) (xup_o (by omega) (by assumption)))) (by rfl) ?_
      refine xp_iload_1 (pc := 48) hX d_Mod_set_48 ?_
      first | refine xn_isub (pc := 49) hX d_Mod_set_49 (by omega) ?_ | refine xg_isub (pc := 49) hX d_Mod_set_49 ?_
      refine xg_iconst (pc := 50) hX (nI 1) d_Mod_set_50 ci_iconst_1 ?_
      first | refine xn_isub (pc := 51) hX d_Mod_set_51 (by omega) ?_ | refine xg_isub (pc := 51) hX d_Mod_set_51 ?_
      refine xg_sipush (pc := 52) hX (nI 200) d_Mod_set_52 ci_sipush_200 ?_
      refine xn_icmp_le (pc := 55) hX 69 d_Mod_set_55 (by decide) (by omega) (by omega) (fun z1 => ?_) (fun z1 => ?_)
      · rw [if_neg (by omega)] at hGv
        refine k69 M3 ?_ (f1.tr f2)
        rw [hGv, if_pos rfl]
        exact w2
      · rw [if_pos (by omega)] at hGv
        refine xp_aload_0 (pc := 58) hX d_Mod_set_58 ?_
        refine xp_iload_1 (pc := 59) hX d_Mod_set_59 ?_
        refine xg_iconst (pc := 60) hX (nI 1) d_Mod_set_60 ci_iconst_1 ?_
        first | refine xn_iadd (pc := 61) hX d_Mod_set_61 ?_ | refine xg_iadd (pc := 61) hX d_Mod_set_61 ?_
        refine xg_sipush (pc := 62) hX (nI 200) d_Mod_set_62 ci_sipush_200 ?_
        first | refine xn_iadd (pc := 65) hX d_Mod_set_65 ?_ | refine xg_iadd (pc := 65) hX d_Mod_set_65 ?_
        refine xv_V (Y2 := Y_Mod_fail) (pc := 66) hX [_] k_Mod m_Mod_fail d_Mod_set_66 l_Mod_92 rfl rfl (by simp [Value.category]) (by first | assumption | exact xup_s _ _ _ | exact xup_o (by omega) (by assumption) | exact xup_o (by omega) (xup_s _ _ _) | exact xup_o (by omega) (xup_o (by omega) (by assumption)) | exact xup_o (by omega) (xup_o (by omega) (xup_s _ _ _)) | exact xup_o (by omega) (xup_o (by omega) (xup_o (by omega) (by assumption)))) (c_Mod_fail (d + 4) w2 (by intro q hq; cases hq)) (by omega) (by omega) ?_
        rintro M4 ⟨w4, f4⟩
        refine k69 M4 ?_ ((f1.tr f2).tr f4)
        rw [hGv, if_neg Bool.false_ne_true]
        exact w4
    · have hne : ¬ t[R.1]? = some 61 := fun q => z ((oI_eq (by decide)).mpr q)
      rw [if_neg hne] at hGv
      refine xp_aload_0 (pc := 29) hX d_Mod_set_29 ?_
      refine xp_aload_0 (pc := 30) hX d_Mod_set_30 ?_
      refine xg_get (pc := 31) hX (j := 25) k_Mod d_Mod_set_31 l_Mod_78 (by decide) (by first | assumption | exact xup_s _ _ _ | exact xup_o (by omega) (by assumption) | exact xup_o (by omega) (xup_s _ _ _) | exact xup_o (by omega) (xup_o (by omega) (by assumption)) | exact xup_o (by omega) (xup_o (by omega) (xup_s _ _ _)) | exact xup_o (by omega) (xup_o (by omega) (xup_o (by omega) (by assumption)))) (by rfl) ?_
      refine xv_V (Y2 := Y_Mod_fail) (pc := 34) hX [_] k_Mod m_Mod_fail d_Mod_set_34 l_Mod_92 rfl rfl (by simp [Value.category]) (by first | assumption | exact xup_s _ _ _ | exact xup_o (by omega) (by assumption) | exact xup_o (by omega) (xup_s _ _ _) | exact xup_o (by omega) (xup_o (by omega) (by assumption)) | exact xup_o (by omega) (xup_o (by omega) (xup_s _ _ _)) | exact xup_o (by omega) (xup_o (by omega) (xup_o (by omega) (by assumption)))) (c_Mod_fail (d + 4) w2 (by intro q hq; cases hq)) (by omega) (by omega) ?_
      rintro M4 ⟨w4, f4⟩
      obtain ⟨h0, -⟩ := id w4
      refine xp_aload_0 (pc := 37) hX d_Mod_set_37 ?_
      refine xg_get (pc := 38) hX (j := 24) k_Mod d_Mod_set_38 l_Mod_75 (by decide) (by first | assumption | exact xup_s _ _ _ | exact xup_o (by omega) (by assumption) | exact xup_o (by omega) (xup_s _ _ _) | exact xup_o (by omega) (xup_o (by omega) (by assumption)) | exact xup_o (by omega) (xup_o (by omega) (xup_s _ _ _)) | exact xup_o (by omega) (xup_o (by omega) (xup_o (by omega) (by assumption)))) (by rfl) ?_
      refine xn_if_ge (a := R.1) (pc := 41) hX 69 d_Mod_set_41 (by decide) (by omega) ?_
      refine k69 M4 ?_ ((f1.tr f2).tr f4)
      rw [hGv, if_neg Bool.false_ne_true]
      exact w4
  · rw [if_neg c] at hGv
    have hwr : wrS none R = some R.1 := by unfold wrS; rw [if_neg c]; rfl
    rw [hwr] at w2 h0 ⊢
    refine xn_if_ge (a := R.1) (pc := 17) hX 37 d_Mod_set_17 (by decide) (by omega) ?_
    refine xp_aload_0 (pc := 37) hX d_Mod_set_37 ?_
    refine xg_get (pc := 38) hX (j := 24) k_Mod d_Mod_set_38 l_Mod_75 (by decide) (by first | assumption | exact xup_s _ _ _ | exact xup_o (by omega) (by assumption) | exact xup_o (by omega) (xup_s _ _ _) | exact xup_o (by omega) (xup_o (by omega) (by assumption)) | exact xup_o (by omega) (xup_o (by omega) (xup_s _ _ _)) | exact xup_o (by omega) (xup_o (by omega) (xup_o (by omega) (by assumption)))) (by rfl) ?_
    refine xn_if_ge (a := R.1) (pc := 41) hX 69 d_Mod_set_41 (by decide) (by omega) ?_
    refine k69 M2 ?_ (f1.tr f2)
    rw [hGv, if_neg c]
    exact w2
end XM12
