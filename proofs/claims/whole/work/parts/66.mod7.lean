/-! the reference: add, tells, told -/
theorem nI_nm1 {k : Nat} (hk : k < 2147483648) : ¬ nI k = -1 := by
  intro q
  have h := nI_pos' hk
  rw [q] at h
  exact absurd h (by decide)
theorem stN_co {nm : List UInt8} : isCo nm = true → stN nm = nm.idxOf 46 + 1 ∧ stN nm < nm.length ∧ 0 < stN nm := by
  intro h
  unfold isCo at h
  have h := of_decide_eq_true h
  unfold stN
  rw [if_pos (by omega)]
  omega
theorem stN_nco {nm : List UInt8} : isCo nm = false → stN nm = 0 ∨ stN nm = nm.length := by
  intro h
  unfold isCo at h
  have h := of_decide_eq_false h
  unfold stN
  split
  · right; omega
  · left; rfl
theorem stN_st {nm : List UInt8} (h : 0 < nm.length) : isSt nm = true ↔ stN nm = nm.length := by
  unfold isSt stN
  rw [beq_iff_eq]
  split <;> omega
/-- the object and the full name change, no more -/
def FrF (M M' : xH) (O : Nat) : Prop := ∀ q, q ≠ O → q ≠ O + 4 → M' q = M q
theorem FrF.tr {M M' M'' : xH} {O : Nat} (a : FrF M M' O) (b : FrF M' M'' O) : FrF M M'' O := fun q x y => (b q x y).trans (a q x y)
theorem FrF.o {M M' : xH} {O : Nat} (a : FrF M M' O) : FrO M M' O := fun q hq => a q (by omega) (by omega)
section XM7
variable {t x out full : List UInt8} {es : List xEn} {pool : Nat} {se : List xSe} {sub fd : List UInt8} {fr bg : Nat} {wr : Option Nat} {nx kd fi la va : Nat}
set_option maxHeartbeats 4000000 in
set_option maxRecDepth 100000 in
theorem c_Mod_add (d : Nat) {M : xH} {sz O : Nat} {b : UInt8} (h : Wd M O t x out full es pool se sub fd fr bg wr nx kd fi la va) (hl : full.length ≤ 200) : xC d 0 0 Y_Mod_add [.ref O, .int (nI b.toNat)] M sz (qv sz (fun M' => Wd M' O t x out (full ++ [b]) es pool se sub fd fr bg wr nx kd fi la va ∧ FrF M M' O)) := by
  refine xC_of (by decide) (Nat.le_of_ble_eq_true rfl) (by simp [Value.category]) (vs := [some (.ref O), some (.int (nI b.toNat))]) rfl (fun K hX hE => ?_)
  obtain ⟨h0, -, -, -, ⟨h4l, f, h4a, h4b⟩, -⟩ := id h
  refine xp_aload_0 (pc := 0) hX d_Mod_add_0 ?_
  refine xg_get (pc := 1) hX (j := 7) k_Mod d_Mod_add_1 l_Mod_95 (by decide) (by first | assumption | exact xup_s _ _ _ | exact xup_o (by omega) (by assumption) | exact xup_o (by omega) (xup_s _ _ _) | exact xup_o (by omega) (xup_o (by omega) (by assumption)) | exact xup_o (by omega) (xup_o (by omega) (xup_s _ _ _)) | exact xup_o (by omega) (xup_o (by omega) (xup_o (by omega) (by assumption)))) (by rfl) ?_
  refine xg_sipush (pc := 4) hX (nI 200) d_Mod_add_4 ci_sipush_200 ?_
  refine xn_icmp_gt (pc := 7) hX 20 d_Mod_add_7 (by decide) (by omega) (by omega) (fun z => absurd z (by omega)) (fun _ => ?_)
  refine xp_aload_0 (pc := 10) hX d_Mod_add_10 ?_
  refine xg_get (pc := 11) hX (j := 3) k_Mod d_Mod_add_11 l_Mod_19 (by decide) (by first | assumption | exact xup_s _ _ _ | exact xup_o (by omega) (by assumption) | exact xup_o (by omega) (xup_s _ _ _) | exact xup_o (by omega) (xup_o (by omega) (by assumption)) | exact xup_o (by omega) (xup_o (by omega) (xup_s _ _ _)) | exact xup_o (by omega) (xup_o (by omega) (xup_o (by omega) (by assumption)))) (by rfl) ?_
  refine xp_aload_0 (pc := 14) hX d_Mod_add_14 ?_
  refine xg_get (pc := 15) hX (j := 7) k_Mod d_Mod_add_15 l_Mod_95 (by decide) (by first | assumption | exact xup_s _ _ _ | exact xup_o (by omega) (by assumption) | exact xup_o (by omega) (xup_s _ _ _) | exact xup_o (by omega) (xup_o (by omega) (by assumption)) | exact xup_o (by omega) (xup_o (by omega) (xup_s _ _ _)) | exact xup_o (by omega) (xup_o (by omega) (xup_o (by omega) (by assumption)))) (by rfl) ?_
  refine xp_iload_1 (pc := 18) hX d_Mod_add_18 ?_
  refine xn_iast (pc := 19) hX d_Mod_add_19 rfl (by first | assumption | exact xup_s _ _ _ | exact xup_o (by omega) (by assumption) | exact xup_o (by omega) (xup_s _ _ _) | exact xup_o (by omega) (xup_o (by omega) (by assumption)) | exact xup_o (by omega) (xup_o (by omega) (xup_s _ _ _)) | exact xup_o (by omega) (xup_o (by omega) (xup_o (by omega) (by assumption)))) (by omega) (by omega) ?_
  refine xp_aload_0 (pc := 20) hX d_Mod_add_20 ?_
  refine xg_dup (pc := 21) hX d_Mod_add_21 rfl ?_
  refine xg_get (pc := 22) hX (j := 7) k_Mod d_Mod_add_22 l_Mod_95 (by decide) (by first | assumption | exact xup_s _ _ _ | exact xup_o (by omega) (by assumption) | exact xup_o (by omega) (xup_s _ _ _) | exact xup_o (by omega) (xup_o (by omega) (by assumption)) | exact xup_o (by omega) (xup_o (by omega) (xup_s _ _ _)) | exact xup_o (by omega) (xup_o (by omega) (xup_o (by omega) (by assumption)))) (by rfl) ?_
  refine xg_iconst (pc := 25) hX (nI 1) d_Mod_add_25 ci_iconst_1 ?_
  first | refine xn_iadd (pc := 26) hX d_Mod_add_26 ?_ | refine xg_iadd (pc := 26) hX d_Mod_add_26 ?_
  refine xg_put (pc := 27) hX (j := 7) k_Mod d_Mod_add_27 l_Mod_95 (by decide) rfl (by first | assumption | exact xup_s _ _ _ | exact xup_o (by omega) (by assumption) | exact xup_o (by omega) (xup_s _ _ _) | exact xup_o (by omega) (xup_o (by omega) (by assumption)) | exact xup_o (by omega) (xup_o (by omega) (xup_s _ _ _)) | exact xup_o (by omega) (xup_o (by omega) (xup_o (by omega) (by assumption)))) (Nat.le_of_ble_eq_true rfl) rfl rfl (by simp only [List.set_cons_zero, List.set_cons_succ]; exact rfl) ?_
  refine xg_vret (pc := 30) hX hE d_Mod_add_30 rfl (by omega) (by omega) ?_
  refine ⟨rfl, rfl, h.sf ?_ ((Ar.push (M := M) (a := O + 4) (by omega) h4b).kept (xup_n _ _ (by omega))) (fun q a b => ?_), fun q a b => by rw [xup_n _ _ a, xup_n _ _ b]⟩
  · rw [xup_s, show full.length + 1 = (full ++ [b]).length by simp]
  · rw [xup_n _ _ a, xup_n _ _ b]
theorem Wd.vz {M : xH} {O : Nat} (h : Wd M O t x out full es pool se sub fd fr bg wr nx kd fi la va) : ∃ fvz : Nat → Int32, M (O + 8) = some (.inl (1, 101, .inl fvz)) ∧ ∀ (k : Nat) (e : xEn), es[k]? = some e → fvz k = vI e.2.2 := by
  obtain ⟨-, -, -, -, -, ⟨h5l, fn, fz, fv, fvz, fp, h5, h6, h7, h8, h9, h10⟩, -⟩ := h
  exact ⟨fvz, h8, fun k e he => ((h10 k e he).2 trivial).1⟩
theorem tellI_own {ip i : Nat} {nm : List UInt8} (h : eIdx es (own se nm ip) nm = some i) {vo : Option (List UInt8)} (he : es[i]? = some (own se nm ip, nm, vo)) : tellI es se ip nm = if vo.isSome then some i else none := by
  unfold tellI
  rw [h]
  dsimp only
  rw [he]
  rfl
theorem tellI_st {ip : Nat} {nm : List UInt8} (h : eIdx es (own se nm ip) nm = none) : tellI es se ip nm = stI es se (own se nm ip) nm := by
  unfold tellI
  rw [h]
set_option maxHeartbeats 4000000 in
set_option maxRecDepth 100000 in
theorem c_Mod_tells (d : Nat) {M : xH} {sz O : Nat} (h : Wd M O t x out full es pool se sub fd fr bg wr nx kd fi la va) (hso : SeO se) (hgI : gI es) : xC (d + 2) 0 0 Y_Mod_tells [.ref O] M sz (qi sz (fun y M' => y = wI (tellI es se pool full) ∧ M' = M)) := by
  refine xC_of (by decide) (Nat.le_of_ble_eq_true rfl) (by simp [Value.category]) (vs := [some (.ref O), none, none, none]) rfl (fun K hX hE => ?_)
  obtain ⟨h0, -⟩ := id h
  obtain ⟨hx1, hx2, hx3, hx4, hx5, hx6, -⟩ := h.xl
  obtain ⟨fvz, hv1, hv2⟩ := h.vz
  have hft : full.take full.length = full := List.take_length
  refine xp_aload_0 (pc := 0) hX d_Mod_tells_0 ?_
  refine xp_aload_0 (pc := 1) hX d_Mod_tells_1 ?_
  refine xg_get (pc := 2) hX (j := 7) k_Mod d_Mod_tells_2 l_Mod_95 (by decide) (by first | assumption | exact xup_s _ _ _ | exact xup_o (by omega) (by assumption) | exact xup_o (by omega) (xup_s _ _ _) | exact xup_o (by omega) (xup_o (by omega) (by assumption)) | exact xup_o (by omega) (xup_o (by omega) (xup_s _ _ _)) | exact xup_o (by omega) (xup_o (by omega) (xup_o (by omega) (by assumption)))) (by rfl) ?_
  refine xp_aload_0 (pc := 5) hX d_Mod_tells_5 ?_
  refine xg_get (pc := 6) hX (j := 17) k_Mod d_Mod_tells_6 l_Mod_108 (by decide) (by first | assumption | exact xup_s _ _ _ | exact xup_o (by omega) (by assumption) | exact xup_o (by omega) (xup_s _ _ _) | exact xup_o (by omega) (xup_o (by omega) (by assumption)) | exact xup_o (by omega) (xup_o (by omega) (xup_s _ _ _)) | exact xup_o (by omega) (xup_o (by omega) (xup_o (by omega) (by assumption)))) (by rfl) ?_
  refine xi_V (Y2 := Y_Mod_poolOf) (pc := 9) hX [_, _] k_Mod m_Mod_poolOf d_Mod_tells_9 l_Mod_111 rfl rfl (by simp [Value.category]) (by first | assumption | exact xup_s _ _ _ | exact xup_o (by omega) (by assumption) | exact xup_o (by omega) (xup_s _ _ _) | exact xup_o (by omega) (xup_o (by omega) (by assumption)) | exact xup_o (by omega) (xup_o (by omega) (xup_s _ _ _)) | exact xup_o (by omega) (xup_o (by omega) (xup_o (by omega) (by assumption)))) (c_Mod_poolOf d h (Nat.le_refl _) (Nat.le_refl _)) (by omega) (by omega) ?_
  rintro y M1 ⟨rfl, rfl⟩
  rw [hft]
  have hpl := polW_le se full pool
  have ho := own_eq hso full pool
  rw [← ho] at hpl ⊢
  refine xp_istore_1 (pc := 12) hX d_Mod_tells_12 (by decide) ?_
  refine xp_aload_0 (pc := 13) hX d_Mod_tells_13 ?_
  refine xp_iload_1 (pc := 14) hX d_Mod_tells_14 ?_
  refine xp_aload_0 (pc := 15) hX d_Mod_tells_15 ?_
  refine xg_get (pc := 16) hX (j := 7) k_Mod d_Mod_tells_16 l_Mod_95 (by decide) (by first | assumption | exact xup_s _ _ _ | exact xup_o (by omega) (by assumption) | exact xup_o (by omega) (xup_s _ _ _) | exact xup_o (by omega) (xup_o (by omega) (by assumption)) | exact xup_o (by omega) (xup_o (by omega) (xup_s _ _ _)) | exact xup_o (by omega) (xup_o (by omega) (xup_o (by omega) (by assumption)))) (by rfl) ?_
  refine xi_V (Y2 := Y_Mod_entry) (pc := 19) hX [_, _] k_Mod m_Mod_entry d_Mod_tells_19 l_Mod_115 rfl rfl (by simp [Value.category]) (by first | assumption | exact xup_s _ _ _ | exact xup_o (by omega) (by assumption) | exact xup_o (by omega) (xup_s _ _ _) | exact xup_o (by omega) (xup_o (by omega) (by assumption)) | exact xup_o (by omega) (xup_o (by omega) (xup_s _ _ _)) | exact xup_o (by omega) (xup_o (by omega) (xup_o (by omega) (by assumption)))) (c_Mod_entry (d + 1) h (Nat.le_refl _) (by omega)) (by omega) (by omega) ?_
  rintro y M2 ⟨rfl, rfl⟩
  rw [hft]
  refine xp_istore_2 (pc := 22) hX d_Mod_tells_22 (by decide) ?_
  refine xp_iload_2 (pc := 23) hX d_Mod_tells_23 ?_
  refine xg_iconst (pc := 24) hX (-1) d_Mod_tells_24 ci_iconst_m1 ?_
  cases hi : eIdx es (own se full pool) full with
  | some i =>
    obtain ⟨vo, hvo⟩ := eIdx_get hi
    have hil := (List.getElem?_eq_some_iff.mp hvo).1
    have hvi := hv2 i _ hvo
    dsimp only at hvi
    have hT := tellI_own hi hvo
    refine xg_icmp_eq (pc := 25) hX 43 d_Mod_tells_25 (by decide) (fun z => absurd z (nI_nm1 (by omega))) (fun _ => ?_)
    refine xp_aload_0 (pc := 28) hX d_Mod_tells_28 ?_
    refine xg_get (pc := 29) hX (j := 11) k_Mod d_Mod_tells_29 l_Mod_31 (by decide) (by first | assumption | exact xup_s _ _ _ | exact xup_o (by omega) (by assumption) | exact xup_o (by omega) (xup_s _ _ _) | exact xup_o (by omega) (xup_o (by omega) (by assumption)) | exact xup_o (by omega) (xup_o (by omega) (xup_s _ _ _)) | exact xup_o (by omega) (xup_o (by omega) (xup_o (by omega) (by assumption)))) (by rfl) ?_
    refine xp_iload_2 (x := nI i) (pc := 32) hX d_Mod_tells_32 ?_
    refine xn_iald (pc := 33) hX d_Mod_tells_33 rfl (by first | assumption | exact xup_s _ _ _ | exact xup_o (by omega) (by assumption) | exact xup_o (by omega) (xup_s _ _ _) | exact xup_o (by omega) (xup_o (by omega) (by assumption)) | exact xup_o (by omega) (xup_o (by omega) (xup_s _ _ _)) | exact xup_o (by omega) (xup_o (by omega) (xup_o (by omega) (by assumption)))) (by omega) (by omega) ?_
    rw [hvi]
    cases vo with
    | none =>
      refine xg_if_ge (pc := 34) hX 41 d_Mod_tells_34 (by decide) (fun z => absurd z (by decide)) (fun _ => ?_)
      refine xg_iconst (pc := 37) hX (-1) d_Mod_tells_37 ci_iconst_m1 ?_
      refine xg_goto (pc := 38) hX 42 d_Mod_tells_38 (by decide) ?_
      refine xg_iret (pc := 42) hX hE d_Mod_tells_42 rfl rfl (by omega) (by omega) ?_
      exact ⟨rfl, _, rfl, by rw [hT]; rfl, rfl⟩
    | some u =>
      refine xg_if_ge (pc := 34) hX 41 d_Mod_tells_34 (by decide) (fun _ => ?_) (fun z => absurd (nI_pos' (by
        have := ((id h).2.2.2.2.2.1.2)
        obtain ⟨_, _, _, _, _, -, -, -, -, -, w⟩ := this
        have := (((w i _ hvo).2 trivial).2 u rfl).1
        omega)) z)
      refine xp_iload_2 (pc := 41) hX d_Mod_tells_41 ?_
      refine xg_iret (pc := 42) hX hE d_Mod_tells_42 rfl rfl (by omega) (by omega) ?_
      exact ⟨rfl, _, rfl, by rw [hT]; rfl, rfl⟩
  | none =>
    have hT := tellI_st hi
    refine xg_icmp_eq (pc := 25) hX 43 d_Mod_tells_25 (by decide) (fun _ => ?_) (fun z => absurd rfl z)
    refine xp_aload_0 (pc := 43) hX d_Mod_tells_43 ?_
    refine xi_V (Y2 := Y_Mod_stem) (pc := 44) hX [] k_Mod m_Mod_stem d_Mod_tells_44 l_Mod_118 rfl rfl (by simp [Value.category]) (by first | assumption | exact xup_s _ _ _ | exact xup_o (by omega) (by assumption) | exact xup_o (by omega) (xup_s _ _ _) | exact xup_o (by omega) (xup_o (by omega) (by assumption)) | exact xup_o (by omega) (xup_o (by omega) (xup_s _ _ _)) | exact xup_o (by omega) (xup_o (by omega) (xup_o (by omega) (by assumption)))) (c_Mod_stem (d + 1) h) (by omega) (by omega) ?_
    rintro y M3 ⟨rfl, rfl⟩
    have hsl : stN full ≤ full.length := by
      unfold stN; split <;> omega
    have k60 : isCo full = false → xG K 60 [some (.ref O), some (.int (nI (own se full pool))), some (.int (wI none)), some (.int (nI (stN full)))] [] M3 sz 0 0 := by
      intro hc
      refine xg_iconst (pc := 60) hX (-1) d_Mod_tells_60 ci_iconst_m1 ?_
      refine xg_iret (pc := 61) hX hE d_Mod_tells_61 rfl rfl (by omega) (by omega) ?_
      refine ⟨rfl, _, rfl, ?_, rfl⟩
      rw [hT]
      unfold stI
      rw [if_neg (by rw [hc]; decide)]
      rfl
    refine xp_istore_3 (pc := 47) hX d_Mod_tells_47 (by decide) ?_
    refine xp_iload_3 (pc := 48) hX d_Mod_tells_48 ?_
    cases hc : isCo full with
    | false =>
      refine xn_if_eq (pc := 49) hX 60 d_Mod_tells_49 (by decide) (by omega) (fun _ => k60 hc) (fun z => ?_)
      refine xp_iload_3 (pc := 52) hX d_Mod_tells_52 ?_
      refine xp_aload_0 (pc := 53) hX d_Mod_tells_53 ?_
      refine xg_get (pc := 54) hX (j := 7) k_Mod d_Mod_tells_54 l_Mod_95 (by decide) (by first | assumption | exact xup_s _ _ _ | exact xup_o (by omega) (by assumption) | exact xup_o (by omega) (xup_s _ _ _) | exact xup_o (by omega) (xup_o (by omega) (by assumption)) | exact xup_o (by omega) (xup_o (by omega) (xup_s _ _ _)) | exact xup_o (by omega) (xup_o (by omega) (xup_o (by omega) (by assumption)))) (by rfl) ?_
      exact xn_icmp_ne (pc := 57) hX 62 d_Mod_tells_57 (by decide) (by omega) (by omega) (fun z1 => absurd (stN_nco hc) (by omega)) (fun _ => k60 hc)
    | true =>
      obtain ⟨c1, c2, c3⟩ := stN_co hc
      refine xn_if_eq (pc := 49) hX 60 d_Mod_tells_49 (by decide) (by omega) (fun z => absurd z (by omega)) (fun z => ?_)
      refine xp_iload_3 (pc := 52) hX d_Mod_tells_52 ?_
      refine xp_aload_0 (pc := 53) hX d_Mod_tells_53 ?_
      refine xg_get (pc := 54) hX (j := 7) k_Mod d_Mod_tells_54 l_Mod_95 (by decide) (by first | assumption | exact xup_s _ _ _ | exact xup_o (by omega) (by assumption) | exact xup_o (by omega) (xup_s _ _ _) | exact xup_o (by omega) (xup_o (by omega) (by assumption)) | exact xup_o (by omega) (xup_o (by omega) (xup_s _ _ _)) | exact xup_o (by omega) (xup_o (by omega) (xup_o (by omega) (by assumption)))) (by rfl) ?_
      refine xn_icmp_ne (pc := 57) hX 62 d_Mod_tells_57 (by decide) (by omega) (by omega) (fun _ => ?_) (fun z1 => absurd z1 (by omega))
      have hst : full.take (stN full) = stB full := by rw [c1]; rfl
      refine xp_aload_0 (pc := 62) hX d_Mod_tells_62 ?_
      refine xp_aload_0 (pc := 63) hX d_Mod_tells_63 ?_
      refine xp_iload_3 (pc := 64) hX d_Mod_tells_64 ?_
      refine xp_iload_1 (pc := 65) hX d_Mod_tells_65 ?_
      refine xi_V (Y2 := Y_Mod_poolOf) (pc := 66) hX [_, _] k_Mod m_Mod_poolOf d_Mod_tells_66 l_Mod_111 rfl rfl (by simp [Value.category]) (by first | assumption | exact xup_s _ _ _ | exact xup_o (by omega) (by assumption) | exact xup_o (by omega) (xup_s _ _ _) | exact xup_o (by omega) (xup_o (by omega) (by assumption)) | exact xup_o (by omega) (xup_o (by omega) (xup_s _ _ _)) | exact xup_o (by omega) (xup_o (by omega) (xup_o (by omega) (by assumption)))) (c_Mod_poolOf d h hsl hpl) (by omega) (by omega) ?_
      rintro y M4 ⟨rfl, rfl⟩
      rw [hst, ← own_eq hso]
      have hpl2 := own_le se (stB full) (own se full pool)
      refine xp_iload_3 (pc := 69) hX d_Mod_tells_69 ?_
      refine xi_V (Y2 := Y_Mod_entry) (pc := 70) hX [_, _] k_Mod m_Mod_entry d_Mod_tells_70 l_Mod_115 rfl rfl (by simp [Value.category]) (by first | assumption | exact xup_s _ _ _ | exact xup_o (by omega) (by assumption) | exact xup_o (by omega) (xup_s _ _ _) | exact xup_o (by omega) (xup_o (by omega) (by assumption)) | exact xup_o (by omega) (xup_o (by omega) (xup_s _ _ _)) | exact xup_o (by omega) (xup_o (by omega) (xup_o (by omega) (by assumption)))) (c_Mod_entry (d + 1) h hsl (by omega)) (by omega) (by omega) ?_
      rintro y M5 ⟨rfl, rfl⟩
      rw [hst]
      have hT2 : tellI es se pool full = eIdx es (own se (stB full) (own se full pool)) (stB full) := by
        rw [hT]
        unfold stI
        rw [if_pos hc]
      refine xp_istore_2 (pc := 73) hX d_Mod_tells_73 (by decide) ?_
      refine xp_iload_2 (pc := 74) hX d_Mod_tells_74 ?_
      refine xg_iconst (pc := 75) hX (-1) d_Mod_tells_75 ci_iconst_m1 ?_
      cases hi2 : eIdx es (own se (stB full) (own se full pool)) (stB full) with
      | none =>
        refine xg_icmp_eq (pc := 76) hX 88 d_Mod_tells_76 (by decide) (fun _ => ?_) (fun z => absurd rfl z)
        refine xg_iconst (pc := 88) hX (-1) d_Mod_tells_88 ci_iconst_m1 ?_
        refine xg_goto (pc := 89) hX 93 d_Mod_tells_89 (by decide) ?_
        refine xg_iret (pc := 93) hX hE d_Mod_tells_93 rfl rfl (by omega) (by omega) ?_
        exact ⟨rfl, _, rfl, by rw [hT2, hi2]; rfl, rfl⟩
      | some i =>
        obtain ⟨vo, hvo⟩ := eIdx_get hi2
        have hil := (List.getElem?_eq_some_iff.mp hvo).1
        have hvi := hv2 i _ hvo
        dsimp only at hvi
        refine xg_icmp_eq (pc := 76) hX 88 d_Mod_tells_76 (by decide) (fun z => absurd z (nI_nm1 (by omega))) (fun _ => ?_)
        refine xp_aload_0 (pc := 79) hX d_Mod_tells_79 ?_
        refine xg_get (pc := 80) hX (j := 11) k_Mod d_Mod_tells_80 l_Mod_31 (by decide) (by first | assumption | exact xup_s _ _ _ | exact xup_o (by omega) (by assumption) | exact xup_o (by omega) (xup_s _ _ _) | exact xup_o (by omega) (xup_o (by omega) (by assumption)) | exact xup_o (by omega) (xup_o (by omega) (xup_s _ _ _)) | exact xup_o (by omega) (xup_o (by omega) (xup_o (by omega) (by assumption)))) (by rfl) ?_
        refine xp_iload_2 (x := nI i) (pc := 83) hX d_Mod_tells_83 ?_
        refine xn_iald (pc := 84) hX d_Mod_tells_84 rfl (by first | assumption | exact xup_s _ _ _ | exact xup_o (by omega) (by assumption) | exact xup_o (by omega) (xup_s _ _ _) | exact xup_o (by omega) (xup_o (by omega) (by assumption)) | exact xup_o (by omega) (xup_o (by omega) (xup_s _ _ _)) | exact xup_o (by omega) (xup_o (by omega) (xup_o (by omega) (by assumption)))) (by omega) (by omega) ?_
        rw [hvi]
        cases vo with
        | none =>
          have := hgI _ (List.mem_of_getElem? hvo) rfl
          rw [stB_co] at this
          cases this
        | some u =>
          refine xg_if_ge (pc := 85) hX 92 d_Mod_tells_85 (by decide) (fun _ => ?_) (fun z => absurd (nI_pos' (by
            have := ((id h).2.2.2.2.2.1.2)
            obtain ⟨_, _, _, _, _, -, -, -, -, -, w⟩ := this
            have := (((w i _ hvo).2 trivial).2 u rfl).1
            omega)) z)
          refine xp_iload_2 (pc := 92) hX d_Mod_tells_92 ?_
          refine xg_iret (pc := 93) hX hE d_Mod_tells_93 rfl rfl (by omega) (by omega) ?_
          exact ⟨rfl, _, rfl, by rw [hT2, hi2]; rfl, rfl⟩
set_option maxHeartbeats 4000000 in
set_option maxRecDepth 100000 in
theorem c_Mod_told (d : Nat) {M : xH} {sz O a b : Nat} (h : Wd M O t x out full es pool se sub fd fr bg wr nx kd fi la va) (hso : SeO se) (hgI : gI es) (hab : a ≤ b) (hb : b ≤ x.length) (hba : b - a ≤ 30) : xC (d + 3) 0 0 Y_Mod_told [.ref O, .int (nI a), .int (nI b)] M sz (qi sz (fun y M' => y = wI (tellI es se pool ((sl x a b).map cap)) ∧ Wd M' O t x out ((sl x a b).map cap) es pool se sub fd fr bg wr nx kd fi la va ∧ FrF M M' O)) := by
  refine xC_of (by decide) (Nat.le_of_ble_eq_true rfl) (by simp [Value.category]) (vs := [some (.ref O), some (.int (nI a)), some (.int (nI b)), none]) rfl (fun K hX hE => ?_)
  obtain ⟨h0, -, -, -, ⟨h4l, f, h4a, h4b⟩, -⟩ := id h
  have hx6 := h.xl.2.1
  refine xp_aload_0 (pc := 0) hX d_Mod_told_0 ?_
  refine xg_iconst (pc := 1) hX (nI 0) d_Mod_told_1 ci_iconst_0 ?_
  refine xg_put (pc := 2) hX (j := 7) k_Mod d_Mod_told_2 l_Mod_95 (by decide) rfl (by first | assumption | exact xup_s _ _ _ | exact xup_o (by omega) (by assumption) | exact xup_o (by omega) (xup_s _ _ _) | exact xup_o (by omega) (xup_o (by omega) (by assumption)) | exact xup_o (by omega) (xup_o (by omega) (xup_s _ _ _)) | exact xup_o (by omega) (xup_o (by omega) (xup_o (by omega) (by assumption)))) (Nat.le_of_ble_eq_true rfl) rfl rfl (by simp only [List.set_cons_zero, List.set_cons_succ]; exact rfl) ?_
  refine xp_iload_1 (pc := 5) hX d_Mod_told_5 ?_
  refine xp_istore_3 (pc := 6) hX d_Mod_told_6 (by decide) ?_
  have loop : ∀ (n i : Nat) (M1 : xH), b - i = n → a ≤ i → i ≤ b → Wd M1 O t x out ((sl x a i).map cap) es pool se sub fd fr bg wr nx kd fi la va → FrF M M1 O → xG K 7 [some (.ref O), some (.int (nI a)), some (.int (nI b)), some (.int (nI i))] [] M1 sz 0 0 := by
    intro n
    induction n with
    | zero =>
      intro i M1 hn hai hib w1 f1
      have hie : i = b := by omega
      subst hie
      obtain ⟨h0, -⟩ := id w1
      refine xp_iload_3 (pc := 7) hX d_Mod_told_7 ?_
      refine xp_iload_2 (pc := 8) hX d_Mod_told_8 ?_
      refine xn_icmp_ge (pc := 9) hX 31 d_Mod_told_9 (by decide) (by omega) (by omega) (fun _ => ?_) (fun z => absurd z (by omega))
      refine xp_aload_0 (pc := 31) hX d_Mod_told_31 ?_
      refine xi_V (Y2 := Y_Mod_tells) (pc := 32) hX [] k_Mod m_Mod_tells d_Mod_told_32 l_Mod_128 rfl rfl (by simp [Value.category]) (by first | assumption | exact xup_s _ _ _ | exact xup_o (by omega) (by assumption) | exact xup_o (by omega) (xup_s _ _ _) | exact xup_o (by omega) (xup_o (by omega) (by assumption)) | exact xup_o (by omega) (xup_o (by omega) (xup_s _ _ _)) | exact xup_o (by omega) (xup_o (by omega) (xup_o (by omega) (by assumption)))) (c_Mod_tells d w1 hso hgI) (by omega) (by omega) ?_
      rintro y M2 ⟨rfl, rfl⟩
      refine xg_iret (pc := 35) hX hE d_Mod_told_35 rfl rfl (by omega) (by omega) ?_
      exact ⟨rfl, _, rfl, rfl, w1, f1⟩
    | succ n ih =>
      intro i M1 hn hai hib w1 f1
      have hi1 : i < x.length := by omega
      have hlen : ((sl x a i).map cap).length = i - a := by rw [List.length_map, sl_len (by omega)]
      obtain ⟨h0, -, ⟨h2l, g, h2a, h2b⟩, -⟩ := id w1
      refine xp_iload_3 (pc := 7) hX d_Mod_told_7 ?_
      refine xp_iload_2 (pc := 8) hX d_Mod_told_8 ?_
      refine xn_icmp_ge (pc := 9) hX 31 d_Mod_told_9 (by decide) (by omega) (by omega) (fun z => absurd z (by omega)) (fun _ => ?_)
      refine xp_aload_0 (pc := 12) hX d_Mod_told_12 ?_
      refine xp_aload_0 (pc := 13) hX d_Mod_told_13 ?_
      refine xg_get (pc := 14) hX (j := 1) k_Mod d_Mod_told_14 l_Mod_13 (by decide) (by first | assumption | exact xup_s _ _ _ | exact xup_o (by omega) (by assumption) | exact xup_o (by omega) (xup_s _ _ _) | exact xup_o (by omega) (xup_o (by omega) (by assumption)) | exact xup_o (by omega) (xup_o (by omega) (xup_s _ _ _)) | exact xup_o (by omega) (xup_o (by omega) (xup_o (by omega) (by assumption)))) (by rfl) ?_
      refine xp_iload_3 (pc := 17) hX d_Mod_told_17 ?_
      refine xn_iald (pc := 18) hX d_Mod_told_18 rfl (by first | assumption | exact xup_s _ _ _ | exact xup_o (by omega) (by assumption) | exact xup_o (by omega) (xup_s _ _ _) | exact xup_o (by omega) (xup_o (by omega) (by assumption)) | exact xup_o (by omega) (xup_o (by omega) (xup_s _ _ _)) | exact xup_o (by omega) (xup_o (by omega) (xup_o (by omega) (by assumption)))) (by omega) (by omega) ?_
      rw [h2b i x[i] (List.getElem?_eq_getElem hi1)]
      refine xi_S (Y2 := Y_Mod_capital) (pc := 19) hX [_] m_Mod_capital d_Mod_told_19 l_Mod_121 rfl rfl (by simp [Value.category]) (c_Mod_capital (d + 2) x[i]) (by omega) (by omega) ?_
      rintro y M2 ⟨rfl, rfl⟩
      refine xv_V (Y2 := Y_Mod_add) (pc := 22) hX [_] k_Mod m_Mod_add d_Mod_told_22 l_Mod_125 rfl rfl (by simp [Value.category]) (by first | assumption | exact xup_s _ _ _ | exact xup_o (by omega) (by assumption) | exact xup_o (by omega) (xup_s _ _ _) | exact xup_o (by omega) (xup_o (by omega) (by assumption)) | exact xup_o (by omega) (xup_o (by omega) (xup_s _ _ _)) | exact xup_o (by omega) (xup_o (by omega) (xup_o (by omega) (by assumption)))) (c_Mod_add (d + 2) w1 (by omega)) (by omega) (by omega) ?_
      rintro M3 ⟨a1, a2⟩
      refine xp_inc_3 (pc := 25) hX d_Mod_told_25 (by decide) ?_
      refine xg_goto (pc := 28) hX 7 d_Mod_told_28 (by decide) ?_
      refine ih (i + 1) M3 (by omega) (by omega) (by omega) ?_ (f1.tr a2)
      rw [sl_succ hai hi1, List.map_append]
      exact a1
  refine loop _ a _ rfl (by omega) (by omega) ?_ (fun q a _ => xup_n _ _ a)
  rw [sl_same]
  refine h.sf (full' := []) (xup_s _ _ _) ⟨Nat.zero_le _, f, by rw [xup_n _ _ (by omega)]; exact h4a, fun j b hj => by simp at hj⟩ (fun q a _ => xup_n _ _ a)
end XM7
