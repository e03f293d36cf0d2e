/-! NameRoom$Reader: what a token says -/
set_option maxHeartbeats 4000000 in
set_option maxRecDepth 100000 in
theorem c_Rea_kindOf (d : Nat) {M : xH} {sz h tg pos i : Nat} {t : List UInt8} {tk : List xTk} {ans : Option Nat} (hs : ReA M h t tk tg pos ans) (hi : i < 1000000) : xC d 0 0 Y_Rea_kindOf [.ref h, .int (nI i)] M sz (qi sz (fun y M' => y = nI (tkK tk i) ∧ M' = M)) := by
  refine xC_of (by decide) (Nat.le_of_ble_eq_true rfl) (by simp [Value.category]) (vs := [some (.ref h), some (.int (nI i))]) rfl (fun K hX hE => ?_)
  obtain ⟨h1, b2, b3, b4, b5, fk, fs, fe, b6, b7, b8, b9⟩ := id hs
  refine xp_iload_1 (pc := 0) hX d_Rea_kindOf_0 ?_
  refine xn_if_lt (pc := 1) hX 30 d_Rea_kindOf_1 (by decide) (by omega) ?_
  refine xp_iload_1 (pc := 4) hX d_Rea_kindOf_4 ?_
  refine xp_aload_0 (pc := 5) hX d_Rea_kindOf_5 ?_
  refine xg_get (pc := 6) hX (j := 4) k_Rea d_Rea_kindOf_6 l_Rea_30 (by decide) (by first | assumption | exact xup_s _ _ _ | exact xup_o (by omega) (by assumption) | exact xup_o (by omega) (xup_s _ _ _) | exact xup_o (by omega) (xup_o (by omega) (by assumption)) | exact xup_o (by omega) (xup_o (by omega) (xup_s _ _ _)) | exact xup_o (by omega) (xup_o (by omega) (xup_o (by omega) (by assumption)))) (by rfl) ?_
  refine xn_icmp_ge (pc := 9) hX 30 d_Rea_kindOf_9 (by decide) (by omega) (by omega) (fun z => ?_) (fun z => ?_)
  · refine xg_iconst (pc := 30) hX (nI 0) d_Rea_kindOf_30 ci_iconst_0 ?_
    refine xg_iret (pc := 31) hX hE d_Rea_kindOf_31 rfl rfl (by omega) (by omega) ?_
    refine ⟨rfl, _, rfl, ?_, rfl⟩
    unfold tkK
    rw [List.getElem?_eq_none z]
  · refine xp_iload_1 (pc := 12) hX d_Rea_kindOf_12 ?_
    refine xp_aload_0 (pc := 13) hX d_Rea_kindOf_13 ?_
    refine xg_get (pc := 14) hX (j := 1) k_Rea d_Rea_kindOf_14 l_Rea_20 (by decide) (by first | assumption | exact xup_s _ _ _ | exact xup_o (by omega) (by assumption) | exact xup_o (by omega) (xup_s _ _ _) | exact xup_o (by omega) (xup_o (by omega) (by assumption)) | exact xup_o (by omega) (xup_o (by omega) (xup_s _ _ _)) | exact xup_o (by omega) (xup_o (by omega) (xup_o (by omega) (by assumption)))) (by rfl) ?_
    refine xn_alen (pc := 17) hX (t := 1) d_Rea_kindOf_17 rfl (by first | assumption | exact xup_s _ _ _ | exact xup_o (by omega) (by assumption) | exact xup_o (by omega) (xup_s _ _ _) | exact xup_o (by omega) (xup_o (by omega) (by assumption)) | exact xup_o (by omega) (xup_o (by omega) (xup_s _ _ _)) | exact xup_o (by omega) (xup_o (by omega) (xup_o (by omega) (by assumption)))) ?_
    refine xn_icmp_ge (pc := 18) hX 30 d_Rea_kindOf_18 (by decide) (by omega) (by omega) (fun z => absurd z (by omega)) (fun _ => ?_)
    refine xp_aload_0 (pc := 21) hX d_Rea_kindOf_21 ?_
    refine xg_get (pc := 22) hX (j := 1) k_Rea d_Rea_kindOf_22 l_Rea_20 (by decide) (by first | assumption | exact xup_s _ _ _ | exact xup_o (by omega) (by assumption) | exact xup_o (by omega) (xup_s _ _ _) | exact xup_o (by omega) (xup_o (by omega) (by assumption)) | exact xup_o (by omega) (xup_o (by omega) (xup_s _ _ _)) | exact xup_o (by omega) (xup_o (by omega) (xup_o (by omega) (by assumption)))) (by rfl) ?_
    refine xp_iload_1 (pc := 25) hX d_Rea_kindOf_25 ?_
    refine xn_iald (pc := 26) hX d_Rea_kindOf_26 rfl (by first | assumption | exact xup_s _ _ _ | exact xup_o (by omega) (by assumption) | exact xup_o (by omega) (xup_s _ _ _) | exact xup_o (by omega) (xup_o (by omega) (by assumption)) | exact xup_o (by omega) (xup_o (by omega) (xup_s _ _ _)) | exact xup_o (by omega) (xup_o (by omega) (xup_o (by omega) (by assumption)))) (by omega) (by omega) ?_
    refine xg_goto (pc := 27) hX 31 d_Rea_kindOf_27 (by decide) ?_
    refine xg_iret (pc := 31) hX hE d_Rea_kindOf_31 rfl rfl (by omega) (by omega) ?_
    refine ⟨rfl, _, rfl, ?_, rfl⟩
    have he : tk[i]? = some tk[i] := List.getElem?_eq_getElem z
    unfold tkK
    rw [he]
    exact (b9 i _ he).1
set_option maxHeartbeats 4000000 in
set_option maxRecDepth 100000 in
theorem c_Rea_startOf (d : Nat) {M : xH} {sz h tg pos i : Nat} {t : List UInt8} {tk : List xTk} {ans : Option Nat} (hs : ReA M h t tk tg pos ans) (hi : i < 1000000) : xC d 0 0 Y_Rea_startOf [.ref h, .int (nI i)] M sz (qi sz (fun y M' => y = nI (tkA tk i) ∧ M' = M)) := by
  refine xC_of (by decide) (Nat.le_of_ble_eq_true rfl) (by simp [Value.category]) (vs := [some (.ref h), some (.int (nI i))]) rfl (fun K hX hE => ?_)
  obtain ⟨h1, b2, b3, b4, b5, fk, fs, fe, b6, b7, b8, b9⟩ := id hs
  refine xp_iload_1 (pc := 0) hX d_Rea_startOf_0 ?_
  refine xn_if_lt (pc := 1) hX 30 d_Rea_startOf_1 (by decide) (by omega) ?_
  refine xp_iload_1 (pc := 4) hX d_Rea_startOf_4 ?_
  refine xp_aload_0 (pc := 5) hX d_Rea_startOf_5 ?_
  refine xg_get (pc := 6) hX (j := 4) k_Rea d_Rea_startOf_6 l_Rea_30 (by decide) (by first | assumption | exact xup_s _ _ _ | exact xup_o (by omega) (by assumption) | exact xup_o (by omega) (xup_s _ _ _) | exact xup_o (by omega) (xup_o (by omega) (by assumption)) | exact xup_o (by omega) (xup_o (by omega) (xup_s _ _ _)) | exact xup_o (by omega) (xup_o (by omega) (xup_o (by omega) (by assumption)))) (by rfl) ?_
  refine xn_icmp_ge (pc := 9) hX 30 d_Rea_startOf_9 (by decide) (by omega) (by omega) (fun z => ?_) (fun z => ?_)
  · refine xg_iconst (pc := 30) hX (nI 0) d_Rea_startOf_30 ci_iconst_0 ?_
    refine xg_iret (pc := 31) hX hE d_Rea_startOf_31 rfl rfl (by omega) (by omega) ?_
    refine ⟨rfl, _, rfl, ?_, rfl⟩
    unfold tkA
    rw [List.getElem?_eq_none z]
  · refine xp_iload_1 (pc := 12) hX d_Rea_startOf_12 ?_
    refine xp_aload_0 (pc := 13) hX d_Rea_startOf_13 ?_
    refine xg_get (pc := 14) hX (j := 2) k_Rea d_Rea_startOf_14 l_Rea_24 (by decide) (by first | assumption | exact xup_s _ _ _ | exact xup_o (by omega) (by assumption) | exact xup_o (by omega) (xup_s _ _ _) | exact xup_o (by omega) (xup_o (by omega) (by assumption)) | exact xup_o (by omega) (xup_o (by omega) (xup_s _ _ _)) | exact xup_o (by omega) (xup_o (by omega) (xup_o (by omega) (by assumption)))) (by rfl) ?_
    refine xn_alen (pc := 17) hX (t := 1) d_Rea_startOf_17 rfl (by first | assumption | exact xup_s _ _ _ | exact xup_o (by omega) (by assumption) | exact xup_o (by omega) (xup_s _ _ _) | exact xup_o (by omega) (xup_o (by omega) (by assumption)) | exact xup_o (by omega) (xup_o (by omega) (xup_s _ _ _)) | exact xup_o (by omega) (xup_o (by omega) (xup_o (by omega) (by assumption)))) ?_
    refine xn_icmp_ge (pc := 18) hX 30 d_Rea_startOf_18 (by decide) (by omega) (by omega) (fun z => absurd z (by omega)) (fun _ => ?_)
    refine xp_aload_0 (pc := 21) hX d_Rea_startOf_21 ?_
    refine xg_get (pc := 22) hX (j := 2) k_Rea d_Rea_startOf_22 l_Rea_24 (by decide) (by first | assumption | exact xup_s _ _ _ | exact xup_o (by omega) (by assumption) | exact xup_o (by omega) (xup_s _ _ _) | exact xup_o (by omega) (xup_o (by omega) (by assumption)) | exact xup_o (by omega) (xup_o (by omega) (xup_s _ _ _)) | exact xup_o (by omega) (xup_o (by omega) (xup_o (by omega) (by assumption)))) (by rfl) ?_
    refine xp_iload_1 (pc := 25) hX d_Rea_startOf_25 ?_
    refine xn_iald (pc := 26) hX d_Rea_startOf_26 rfl (by first | assumption | exact xup_s _ _ _ | exact xup_o (by omega) (by assumption) | exact xup_o (by omega) (xup_s _ _ _) | exact xup_o (by omega) (xup_o (by omega) (by assumption)) | exact xup_o (by omega) (xup_o (by omega) (xup_s _ _ _)) | exact xup_o (by omega) (xup_o (by omega) (xup_o (by omega) (by assumption)))) (by omega) (by omega) ?_
    refine xg_goto (pc := 27) hX 31 d_Rea_startOf_27 (by decide) ?_
    refine xg_iret (pc := 31) hX hE d_Rea_startOf_31 rfl rfl (by omega) (by omega) ?_
    refine ⟨rfl, _, rfl, ?_, rfl⟩
    have he : tk[i]? = some tk[i] := List.getElem?_eq_getElem z
    unfold tkA
    rw [he]
    exact (b9 i _ he).2.1
set_option maxHeartbeats 4000000 in
set_option maxRecDepth 100000 in
theorem c_Rea_stopOf (d : Nat) {M : xH} {sz h tg pos i : Nat} {t : List UInt8} {tk : List xTk} {ans : Option Nat} (hs : ReA M h t tk tg pos ans) (hi : i < 1000000) : xC d 0 0 Y_Rea_stopOf [.ref h, .int (nI i)] M sz (qi sz (fun y M' => y = nI (tkB tk i) ∧ M' = M)) := by
  refine xC_of (by decide) (Nat.le_of_ble_eq_true rfl) (by simp [Value.category]) (vs := [some (.ref h), some (.int (nI i))]) rfl (fun K hX hE => ?_)
  obtain ⟨h1, b2, b3, b4, b5, fk, fs, fe, b6, b7, b8, b9⟩ := id hs
  refine xp_iload_1 (pc := 0) hX d_Rea_stopOf_0 ?_
  refine xn_if_lt (pc := 1) hX 30 d_Rea_stopOf_1 (by decide) (by omega) ?_
  refine xp_iload_1 (pc := 4) hX d_Rea_stopOf_4 ?_
  refine xp_aload_0 (pc := 5) hX d_Rea_stopOf_5 ?_
  refine xg_get (pc := 6) hX (j := 4) k_Rea d_Rea_stopOf_6 l_Rea_30 (by decide) (by first | assumption | exact xup_s _ _ _ | exact xup_o (by omega) (by assumption) | exact xup_o (by omega) (xup_s _ _ _) | exact xup_o (by omega) (xup_o (by omega) (by assumption)) | exact xup_o (by omega) (xup_o (by omega) (xup_s _ _ _)) | exact xup_o (by omega) (xup_o (by omega) (xup_o (by omega) (by assumption)))) (by rfl) ?_
  refine xn_icmp_ge (pc := 9) hX 30 d_Rea_stopOf_9 (by decide) (by omega) (by omega) (fun z => ?_) (fun z => ?_)
  · refine xg_iconst (pc := 30) hX (nI 0) d_Rea_stopOf_30 ci_iconst_0 ?_
    refine xg_iret (pc := 31) hX hE d_Rea_stopOf_31 rfl rfl (by omega) (by omega) ?_
    refine ⟨rfl, _, rfl, ?_, rfl⟩
    unfold tkB
    rw [List.getElem?_eq_none z]
  · refine xp_iload_1 (pc := 12) hX d_Rea_stopOf_12 ?_
    refine xp_aload_0 (pc := 13) hX d_Rea_stopOf_13 ?_
    refine xg_get (pc := 14) hX (j := 3) k_Rea d_Rea_stopOf_14 l_Rea_27 (by decide) (by first | assumption | exact xup_s _ _ _ | exact xup_o (by omega) (by assumption) | exact xup_o (by omega) (xup_s _ _ _) | exact xup_o (by omega) (xup_o (by omega) (by assumption)) | exact xup_o (by omega) (xup_o (by omega) (xup_s _ _ _)) | exact xup_o (by omega) (xup_o (by omega) (xup_o (by omega) (by assumption)))) (by rfl) ?_
    refine xn_alen (pc := 17) hX (t := 1) d_Rea_stopOf_17 rfl (by first | assumption | exact xup_s _ _ _ | exact xup_o (by omega) (by assumption) | exact xup_o (by omega) (xup_s _ _ _) | exact xup_o (by omega) (xup_o (by omega) (by assumption)) | exact xup_o (by omega) (xup_o (by omega) (xup_s _ _ _)) | exact xup_o (by omega) (xup_o (by omega) (xup_o (by omega) (by assumption)))) ?_
    refine xn_icmp_ge (pc := 18) hX 30 d_Rea_stopOf_18 (by decide) (by omega) (by omega) (fun z => absurd z (by omega)) (fun _ => ?_)
    refine xp_aload_0 (pc := 21) hX d_Rea_stopOf_21 ?_
    refine xg_get (pc := 22) hX (j := 3) k_Rea d_Rea_stopOf_22 l_Rea_27 (by decide) (by first | assumption | exact xup_s _ _ _ | exact xup_o (by omega) (by assumption) | exact xup_o (by omega) (xup_s _ _ _) | exact xup_o (by omega) (xup_o (by omega) (by assumption)) | exact xup_o (by omega) (xup_o (by omega) (xup_s _ _ _)) | exact xup_o (by omega) (xup_o (by omega) (xup_o (by omega) (by assumption)))) (by rfl) ?_
    refine xp_iload_1 (pc := 25) hX d_Rea_stopOf_25 ?_
    refine xn_iald (pc := 26) hX d_Rea_stopOf_26 rfl (by first | assumption | exact xup_s _ _ _ | exact xup_o (by omega) (by assumption) | exact xup_o (by omega) (xup_s _ _ _) | exact xup_o (by omega) (xup_o (by omega) (by assumption)) | exact xup_o (by omega) (xup_o (by omega) (xup_s _ _ _)) | exact xup_o (by omega) (xup_o (by omega) (xup_o (by omega) (by assumption)))) (by omega) (by omega) ?_
    refine xg_goto (pc := 27) hX 31 d_Rea_stopOf_27 (by decide) ?_
    refine xg_iret (pc := 31) hX hE d_Rea_stopOf_31 rfl rfl (by omega) (by omega) ?_
    refine ⟨rfl, _, rfl, ?_, rfl⟩
    have he : tk[i]? = some tk[i] := List.getElem?_eq_getElem z
    unfold tkB
    rw [he]
    exact (b9 i _ he).2.2
/-- the targets: VARIABLES and periods -/
def isTg (k : Nat) : Bool := k == 1 || k == 2
set_option maxHeartbeats 4000000 in
set_option maxRecDepth 100000 in
theorem c_Rea_isTarget (d : Nat) {M : xH} {sz h tg pos i : Nat} {t : List UInt8} {tk : List xTk} {ans : Option Nat} (hs : ReA M h t tk tg pos ans) (hi : i < 1000000) (hk : ∀ e ∈ tk, e.1 < 100) : xC (d + 1) 0 0 Y_Rea_isTarget [.ref h, .int (nI i)] M sz (qi sz (fun y M' => y = bI (isTg (tkK tk i)) ∧ M' = M)) := by
  refine xC_of (by decide) (Nat.le_of_ble_eq_true rfl) (by simp [Value.category]) (vs := [some (.ref h), some (.int (nI i)), none]) rfl (fun K hX hE => ?_)
  obtain ⟨h1, -⟩ := id hs
  have hlt : tkK tk i < 100 := by
    unfold tkK
    cases he : tk[i]? with
    | none => simp
    | some e => exact hk e (List.mem_of_getElem? he)
  have k21 : ∀ (vs : List (Option Value)) (v : Bool), isTg (tkK tk i) = v → xG K 21 vs [.int (bI v)] M sz 0 0 := by
    intro vs v hv
    refine xg_iret (pc := 21) hX hE d_Rea_isTarget_21 rfl (by cases v <;> rfl) (by omega) (by omega) ?_
    exact ⟨rfl, _, rfl, by rw [hv], rfl⟩
  have k16 : ∀ (vs : List (Option Value)), isTg (tkK tk i) = true → xG K 16 vs [] M sz 0 0 := by
    intro vs hv
    refine xg_iconst (pc := 16) hX (nI 1) d_Rea_isTarget_16 ci_iconst_1 ?_
    refine xg_goto (pc := 17) hX 21 d_Rea_isTarget_17 (by decide) ?_
    exact k21 _ true hv
  refine xp_aload_0 (pc := 0) hX d_Rea_isTarget_0 ?_
  refine xp_iload_1 (pc := 1) hX d_Rea_isTarget_1 ?_
  refine xi_V (Y2 := Y_Rea_kindOf) (pc := 2) hX [_] k_Rea m_Rea_kindOf d_Rea_isTarget_2 l_Rea_43 rfl rfl (by simp [Value.category]) (by first | assumption | exact xup_s _ _ _ | exact xup_o (by omega) (by assumption) | exact xup_o (by omega) (xup_s _ _ _) | exact xup_o (by omega) (xup_o (by omega) (by assumption)) | exact xup_o (by omega) (xup_o (by omega) (xup_s _ _ _)) | exact xup_o (by omega) (xup_o (by omega) (xup_o (by omega) (by assumption)))) (c_Rea_kindOf d hs hi) (by omega) (by omega) ?_
  rintro y M' ⟨rfl, rfl⟩
  refine xp_istore_2 (pc := 5) hX d_Rea_isTarget_5 (by decide) ?_
  refine xp_iload_2 (pc := 6) hX d_Rea_isTarget_6 ?_
  refine xg_iconst (pc := 7) hX (nI 1) d_Rea_isTarget_7 ci_iconst_1 ?_
  refine xn_icmp_eq (pc := 8) hX 16 d_Rea_isTarget_8 (by decide) (by omega) (by omega) (fun z => ?_) (fun z => ?_)
  · exact k16 _ (by simp [isTg, z])
  · refine xp_iload_2 (pc := 11) hX d_Rea_isTarget_11 ?_
    refine xg_iconst (pc := 12) hX (nI 2) d_Rea_isTarget_12 ci_iconst_2 ?_
    refine xn_icmp_ne (pc := 13) hX 20 d_Rea_isTarget_13 (by decide) (by omega) (by omega) (fun z1 => ?_) (fun z1 => ?_)
    · refine xg_iconst (pc := 20) hX (nI 0) d_Rea_isTarget_20 ci_iconst_0 ?_
      exact k21 _ false (by simp [isTg, z, z1])
    · exact k16 _ (by simp [isTg, z1])
