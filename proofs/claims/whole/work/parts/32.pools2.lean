/-! NameRoom$Pools: the rest -/
def cnt (se : List xSe) (q : Nat) : Nat := (se.filter (fun s => s.1 == q)).length
theorem cnt_le (se : List xSe) (q : Nat) : cnt se q ≤ se.length := List.length_filter_le _ _
set_option maxHeartbeats 4000000 in
set_option maxRecDepth 100000 in
theorem c_Poo_enter (d : Nat) {M : xH} {sz h dp : Nat} {se : List xSe} (hs : PoA M h dp se) (hdp : dp < 100) : xC d 0 0 Y_Poo_enter [.ref h] M sz (qv sz (fun M' => PoA M' h (dp + 1) se ∧ ∀ q, q ≠ h → M' q = M q)) := by
  refine xC_of (by decide) (Nat.le_of_ble_eq_true rfl) (by simp [Value.category]) (vs := [some (.ref h)]) rfl (fun K hX hE => ?_)
  obtain ⟨S, ⟨h1, h2, h3, h4, ⟨f, h5, h6⟩, h7⟩, h8⟩ := hs
  refine xp_aload_0 (pc := 0) hX d_Poo_enter_0 ?_
  refine xg_dup (pc := 1) hX d_Poo_enter_1 rfl ?_
  refine xg_get (pc := 2) hX (j := 2) k_Poo d_Poo_enter_2 l_Poo_22 (by decide) (by first | assumption | exact xup_s _ _ _ | exact xup_o (by omega) (by assumption) | exact xup_o (by omega) (xup_s _ _ _) | exact xup_o (by omega) (xup_o (by omega) (by assumption)) | exact xup_o (by omega) (xup_o (by omega) (xup_s _ _ _)) | exact xup_o (by omega) (xup_o (by omega) (xup_o (by omega) (by assumption)))) (by rfl) ?_
  refine xg_iconst (pc := 5) hX (nI 1) d_Poo_enter_5 ci_iconst_1 ?_
  first | refine xn_iadd (pc := 6) hX d_Poo_enter_6 ?_ | refine xg_iadd (pc := 6) hX d_Poo_enter_6 ?_
  refine xg_put (pc := 7) hX (j := 2) k_Poo d_Poo_enter_7 l_Poo_22 (by decide) rfl (by first | assumption | exact xup_s _ _ _ | exact xup_o (by omega) (by assumption) | exact xup_o (by omega) (xup_s _ _ _) | exact xup_o (by omega) (xup_o (by omega) (by assumption)) | exact xup_o (by omega) (xup_o (by omega) (xup_s _ _ _)) | exact xup_o (by omega) (xup_o (by omega) (xup_o (by omega) (by assumption)))) (Nat.le_of_ble_eq_true rfl) rfl rfl (by simp only [List.set_cons_zero, List.set_cons_succ]; exact rfl) ?_
  refine xg_vret (pc := 10) hX hE d_Poo_enter_10 rfl (by omega) (by omega) ?_
  refine ⟨rfl, rfl, ⟨S, ⟨xup_s _ _ _, h2, by omega, by omega, ⟨f, xup_o (by omega) h5, h6⟩, fun j hj => (h7 j hj).kept (fun q _ _ => xup_n _ _ (by omega))⟩, h8⟩, fun q hq => xup_n _ _ hq⟩
set_option maxHeartbeats 4000000 in
set_option maxRecDepth 100000 in
theorem c_Poo_seenByInnermost (d : Nat) {M : xH} {sz h dp : Nat} {se : List xSe} (hs : PoA M h dp se) : xC (d + 1) 0 0 Y_Poo_seenByInnermost [.ref h] M sz (qi sz (fun y M' => y = nI (cnt se (dp - 1)) ∧ M' = M)) := by
  refine xC_of (by decide) (Nat.le_of_ble_eq_true rfl) (by simp [Value.category]) (vs := [some (.ref h), none, none, none]) rfl (fun K hX hE => ?_)
  obtain ⟨S, ⟨h1, h2, h3, h4, ⟨f, h5, h6⟩, h7⟩, h8⟩ := id hs
  have loop : ∀ (m i : Nat), i + m = se.length → xG K 4 [some (.ref h), some (.int (nI (cnt (se.take i) (dp - 1)))), some (.int (nI i)), none] [] M sz 0 0 := by
    intro m
    induction m with
    | zero =>
      intro i hi
      refine xp_iload_2 (pc := 4) hX d_Poo_seenByInnermost_4 ?_
      refine xp_aload_0 (pc := 5) hX d_Poo_seenByInnermost_5 ?_
      refine xg_get (pc := 6) hX (j := 1) k_Poo d_Poo_seenByInnermost_6 l_Poo_18 (by decide) (by first | assumption | exact xup_s _ _ _ | exact xup_o (by omega) (by assumption) | exact xup_o (by omega) (xup_s _ _ _) | exact xup_o (by omega) (xup_o (by omega) (by assumption)) | exact xup_o (by omega) (xup_o (by omega) (xup_s _ _ _)) | exact xup_o (by omega) (xup_o (by omega) (xup_o (by omega) (by assumption)))) (by rfl) ?_
      refine xn_icmp_ge (pc := 9) hX 52 d_Poo_seenByInnermost_9 (by decide) (by omega) (by omega) (fun _ => ?_) (fun z => absurd z (by omega))
      refine xp_iload_1 (pc := 52) hX d_Poo_seenByInnermost_52 ?_
      refine xg_iret (pc := 53) hX hE d_Poo_seenByInnermost_53 rfl rfl (by omega) (by omega) ?_
      rw [List.take_of_length_le (by omega)]
      exact ⟨rfl, _, rfl, rfl, rfl⟩
    | succ m ih =>
      intro i hi
      have hS : se[i]? = some (se[i]'(by omega)) := List.getElem?_eq_getElem (by omega)
      have hSm := h8 i _ hS
      have ht : cnt (se.take (i + 1)) (dp - 1) = cnt (se.take i) (dp - 1) + if (se[i]'(by omega)).1 == dp - 1 then 1 else 0 := by
        unfold cnt
        rw [List.take_succ, hS, List.filter_append, List.length_append]
        congr 1
        simp only [Option.toList, List.filter_cons, List.filter_nil]
        split <;> rfl
      generalize se[i]'(by omega) = s at hS hSm ht
      have hSi := h7 i (by omega)
      rw [hSm] at hSi
      obtain ⟨s1, s2, s3⟩ := id hSi
      have e0 : va_rf (f i) = .ref (h + 2 + 3 * i) := by rw [h6 i (by omega)]; rfl
      refine xp_iload_2 (pc := 4) hX d_Poo_seenByInnermost_4 ?_
      refine xp_aload_0 (pc := 5) hX d_Poo_seenByInnermost_5 ?_
      refine xg_get (pc := 6) hX (j := 1) k_Poo d_Poo_seenByInnermost_6 l_Poo_18 (by decide) (by first | assumption | exact xup_s _ _ _ | exact xup_o (by omega) (by assumption) | exact xup_o (by omega) (xup_s _ _ _) | exact xup_o (by omega) (xup_o (by omega) (by assumption)) | exact xup_o (by omega) (xup_o (by omega) (xup_s _ _ _)) | exact xup_o (by omega) (xup_o (by omega) (xup_o (by omega) (by assumption)))) (by rfl) ?_
      refine xn_icmp_ge (pc := 9) hX 52 d_Poo_seenByInnermost_9 (by decide) (by omega) (by omega) (fun z => absurd z (by omega)) (fun _ => ?_)
      refine xp_iload_2 (pc := 12) hX d_Poo_seenByInnermost_12 ?_
      refine xp_aload_0 (pc := 13) hX d_Poo_seenByInnermost_13 ?_
      refine xg_get (pc := 14) hX (j := 0) k_Poo d_Poo_seenByInnermost_14 l_Poo_11 (by decide) (by first | assumption | exact xup_s _ _ _ | exact xup_o (by omega) (by assumption) | exact xup_o (by omega) (xup_s _ _ _) | exact xup_o (by omega) (xup_o (by omega) (by assumption)) | exact xup_o (by omega) (xup_o (by omega) (xup_s _ _ _)) | exact xup_o (by omega) (xup_o (by omega) (xup_o (by omega) (by assumption)))) (by rfl) ?_
      refine xn_alen (pc := 17) hX (t := 3) d_Poo_seenByInnermost_17 rfl (by first | assumption | exact xup_s _ _ _ | exact xup_o (by omega) (by assumption) | exact xup_o (by omega) (xup_s _ _ _) | exact xup_o (by omega) (xup_o (by omega) (by assumption)) | exact xup_o (by omega) (xup_o (by omega) (xup_s _ _ _)) | exact xup_o (by omega) (xup_o (by omega) (xup_o (by omega) (by assumption)))) ?_
      refine xn_icmp_ge (pc := 18) hX 52 d_Poo_seenByInnermost_18 (by decide) (by omega) (by omega) (fun z => absurd z (by omega)) (fun _ => ?_)
      refine xp_aload_0 (pc := 21) hX d_Poo_seenByInnermost_21 ?_
      refine xg_get (pc := 22) hX (j := 0) k_Poo d_Poo_seenByInnermost_22 l_Poo_11 (by decide) (by first | assumption | exact xup_s _ _ _ | exact xup_o (by omega) (by assumption) | exact xup_o (by omega) (xup_s _ _ _) | exact xup_o (by omega) (xup_o (by omega) (by assumption)) | exact xup_o (by omega) (xup_o (by omega) (xup_s _ _ _)) | exact xup_o (by omega) (xup_o (by omega) (xup_o (by omega) (by assumption)))) (by rfl) ?_
      refine xp_iload_2 (pc := 25) hX d_Poo_seenByInnermost_25 ?_
      refine xn_aald (pc := 26) hX (t := 3) d_Poo_seenByInnermost_26 rfl (by first | assumption | exact xup_s _ _ _ | exact xup_o (by omega) (by assumption) | exact xup_o (by omega) (xup_s _ _ _) | exact xup_o (by omega) (xup_o (by omega) (by assumption)) | exact xup_o (by omega) (xup_o (by omega) (xup_s _ _ _)) | exact xup_o (by omega) (xup_o (by omega) (xup_o (by omega) (by assumption)))) (by omega) (by omega) (by first | assumption | rfl) ?_
      first | refine xp_astore_3 (pc := 27) hX d_Poo_seenByInnermost_27 (by decide) ?_ | refine xp_astoreN_3 (pc := 27) hX d_Poo_seenByInnermost_27 (by decide) ?_
      refine xp_aload_3 (pc := 28) hX d_Poo_seenByInnermost_28 ?_
      refine xg_ifnull (pc := 29) hX d_Poo_seenByInnermost_29 ?_
      refine xp_aload_3 (pc := 32) hX d_Poo_seenByInnermost_32 ?_
      refine xg_get (pc := 33) hX (j := 1) k_Sig d_Poo_seenByInnermost_33 l_Poo_35 (by decide) (by first | assumption | exact xup_s _ _ _ | exact xup_o (by omega) (by assumption) | exact xup_o (by omega) (xup_s _ _ _) | exact xup_o (by omega) (xup_o (by omega) (by assumption)) | exact xup_o (by omega) (xup_o (by omega) (xup_s _ _ _)) | exact xup_o (by omega) (xup_o (by omega) (xup_o (by omega) (by assumption)))) (by rfl) ?_
      refine xp_aload_0 (pc := 36) hX d_Poo_seenByInnermost_36 ?_
      refine xi_V (Y2 := Y_Poo_innermost) (pc := 37) hX [] k_Poo m_Poo_innermost d_Poo_seenByInnermost_37 l_Poo_55 rfl rfl (by simp [Value.category]) (by first | assumption | exact xup_s _ _ _ | exact xup_o (by omega) (by assumption) | exact xup_o (by omega) (xup_s _ _ _) | exact xup_o (by omega) (xup_o (by omega) (by assumption)) | exact xup_o (by omega) (xup_o (by omega) (xup_s _ _ _)) | exact xup_o (by omega) (xup_o (by omega) (xup_o (by omega) (by assumption)))) (c_Poo_innermost d hs) (by omega) (by omega) ?_
      rintro y M' ⟨rfl, rfl⟩
      refine xn_icmp_ne (pc := 40) hX 46 d_Poo_seenByInnermost_40 (by decide) (by omega) (by omega) (fun z => ?_) (fun z => ?_)
      · refine xp_inc_2 (pc := 46) hX d_Poo_seenByInnermost_46 (by decide) ?_
        refine xg_goto (pc := 49) hX 4 d_Poo_seenByInnermost_49 (by decide) ?_
        refine xp_drop_3 ?_
        have h9 := ih (i + 1) (by omega)
        rw [ht, if_neg (by simpa using z)] at h9
        exact h9
      · refine xp_inc_1 (pc := 43) hX d_Poo_seenByInnermost_43 (by decide) ?_
        refine xp_inc_2 (pc := 46) hX d_Poo_seenByInnermost_46 (by decide) ?_
        refine xg_goto (pc := 49) hX 4 d_Poo_seenByInnermost_49 (by decide) ?_
        refine xp_drop_3 ?_
        have h9 := ih (i + 1) (by omega)
        rw [ht, if_pos (by simpa using z)] at h9
        exact h9
  refine xg_iconst (pc := 0) hX (nI 0) d_Poo_seenByInnermost_0 ci_iconst_0 ?_
  refine xp_istore_1 (pc := 1) hX d_Poo_seenByInnermost_1 (by decide) ?_
  refine xg_iconst (pc := 2) hX (nI 0) d_Poo_seenByInnermost_2 ci_iconst_0 ?_
  refine xp_istore_2 (pc := 3) hX d_Poo_seenByInnermost_3 (by decide) ?_
  exact loop se.length 0 (by omega)
set_option maxHeartbeats 4000000 in
set_option maxRecDepth 100000 in
theorem c_Poo_leave (d : Nat) {M : xH} {sz h dp : Nat} {se : List xSe} (hs : PoA M h dp se) (hdp : 2 ≤ dp) : xC (d + 2) 0 0 Y_Poo_leave [.ref h] M sz (qv sz (fun M' => PoA M' h (dp - 1) (se.take (se.length - cnt se (dp - 1))) ∧ ∀ q, q ≠ h → M' q = M q)) := by
  refine xC_of (by decide) (Nat.le_of_ble_eq_true rfl) (by simp [Value.category]) (vs := [some (.ref h)]) rfl (fun K hX hE => ?_)
  obtain ⟨S, ⟨h1, h2, h3, h4, ⟨f, h5, h6⟩, h7⟩, h8⟩ := id hs
  have hc := cnt_le se (dp - 1)
  refine xp_aload_0 (pc := 0) hX d_Poo_leave_0 ?_
  refine xg_dup (pc := 1) hX d_Poo_leave_1 rfl ?_
  refine xg_get (pc := 2) hX (j := 1) k_Poo d_Poo_leave_2 l_Poo_18 (by decide) (by first | assumption | exact xup_s _ _ _ | exact xup_o (by omega) (by assumption) | exact xup_o (by omega) (xup_s _ _ _) | exact xup_o (by omega) (xup_o (by omega) (by assumption)) | exact xup_o (by omega) (xup_o (by omega) (xup_s _ _ _)) | exact xup_o (by omega) (xup_o (by omega) (xup_o (by omega) (by assumption)))) (by rfl) ?_
  refine xp_aload_0 (pc := 5) hX d_Poo_leave_5 ?_
  refine xi_V (Y2 := Y_Poo_seenByInnermost) (pc := 6) hX [] k_Poo m_Poo_seenByInnermost d_Poo_leave_6 l_Poo_25 rfl rfl (by simp [Value.category]) (by first | assumption | exact xup_s _ _ _ | exact xup_o (by omega) (by assumption) | exact xup_o (by omega) (xup_s _ _ _) | exact xup_o (by omega) (xup_o (by omega) (by assumption)) | exact xup_o (by omega) (xup_o (by omega) (xup_s _ _ _)) | exact xup_o (by omega) (xup_o (by omega) (xup_o (by omega) (by assumption)))) (c_Poo_seenByInnermost d hs) (by omega) (by omega) ?_
  rintro y M' ⟨rfl, rfl⟩
  first | refine xn_isub (pc := 9) hX d_Poo_leave_9 (by omega) ?_ | refine xg_isub (pc := 9) hX d_Poo_leave_9 ?_
  refine xg_put (pc := 10) hX (j := 1) k_Poo d_Poo_leave_10 l_Poo_18 (by decide) rfl (by first | assumption | exact xup_s _ _ _ | exact xup_o (by omega) (by assumption) | exact xup_o (by omega) (xup_s _ _ _) | exact xup_o (by omega) (xup_o (by omega) (by assumption)) | exact xup_o (by omega) (xup_o (by omega) (xup_s _ _ _)) | exact xup_o (by omega) (xup_o (by omega) (xup_o (by omega) (by assumption)))) (Nat.le_of_ble_eq_true rfl) rfl rfl (by simp only [List.set_cons_zero, List.set_cons_succ]; exact rfl) ?_
  refine xp_aload_0 (pc := 13) hX d_Poo_leave_13 ?_
  refine xg_dup (pc := 14) hX d_Poo_leave_14 rfl ?_
  refine xg_get (pc := 15) hX (j := 2) k_Poo d_Poo_leave_15 l_Poo_22 (by decide) (by first | assumption | exact xup_s _ _ _ | exact xup_o (by omega) (by assumption) | exact xup_o (by omega) (xup_s _ _ _) | exact xup_o (by omega) (xup_o (by omega) (by assumption)) | exact xup_o (by omega) (xup_o (by omega) (xup_s _ _ _)) | exact xup_o (by omega) (xup_o (by omega) (xup_o (by omega) (by assumption)))) (by rfl) ?_
  refine xg_iconst (pc := 18) hX (nI 1) d_Poo_leave_18 ci_iconst_1 ?_
  first | refine xn_isub (pc := 19) hX d_Poo_leave_19 (by omega) ?_ | refine xg_isub (pc := 19) hX d_Poo_leave_19 ?_
  refine xg_put (pc := 20) hX (j := 2) k_Poo d_Poo_leave_20 l_Poo_22 (by decide) rfl (by first | assumption | exact xup_s _ _ _ | exact xup_o (by omega) (by assumption) | exact xup_o (by omega) (xup_s _ _ _) | exact xup_o (by omega) (xup_o (by omega) (by assumption)) | exact xup_o (by omega) (xup_o (by omega) (xup_s _ _ _)) | exact xup_o (by omega) (xup_o (by omega) (xup_o (by omega) (by assumption)))) (Nat.le_of_ble_eq_true rfl) rfl rfl (by simp only [List.set_cons_zero, List.set_cons_succ]; exact rfl) ?_
  refine xg_vret (pc := 23) hX hE d_Poo_leave_23 rfl (by omega) (by omega) ?_
  refine ⟨rfl, rfl, ⟨S, ⟨?_, by simp; omega, by omega, by omega, ⟨f, xup_o (by omega) (xup_o (by omega) h5), h6⟩, fun j hj => (h7 j hj).kept (fun q _ _ => by rw [xup_n _ _ (by omega), xup_n _ _ (by omega)])⟩, fun j s hj => ?_⟩, fun q hq => by rw [xup_n _ _ hq, xup_n _ _ hq]⟩
  · rw [xup_s, List.length_take, Nat.min_eq_left (by omega)]
  · refine h8 j s ?_
    have := (List.getElem?_eq_some_iff.mp hj).1
    rw [List.length_take] at this
    rw [List.getElem?_take_of_lt (by omega)] at hj
    exact hj
/-- the innermost pool was told this very name -/
def told1 (se : List xSe) (q : Nat) (nm : List UInt8) : Bool := se.any (fun s => s.1 == q && s.2 == nm)
set_option maxHeartbeats 4000000 in
set_option maxRecDepth 100000 in
theorem c_Poo_sees (d : Nat) {M : xH} {sz h dp t wt : Nat} {se : List xSe} {nm : List UInt8} (hs : PoA M h dp se) (ht : RowAt M t wt nm) (hwt : wt < 1000000) : xC (d + 1) 0 0 Y_Poo_sees [.ref h, .ref t] M sz (qi sz (fun y M' => y = bI (told1 se (dp - 1) nm) ∧ M' = M)) := by
  refine xC_of (by decide) (Nat.le_of_ble_eq_true rfl) (by simp [Value.category]) (vs := [some (.ref h), some (.ref t), none, none]) rfl (fun K hX hE => ?_)
  obtain ⟨S, ⟨h1, h2, h3, h4, ⟨f, h5, h6⟩, h7⟩, h8⟩ := id hs
  obtain ⟨t1, t2, -⟩ := id ht
  have loop : ∀ (m i : Nat), i + m = se.length → (∀ (j : Nat) (s : xSe), j < i → se[j]? = some s → (s.1 == dp - 1 && s.2 == nm) = false) → xG K 2 [some (.ref h), some (.ref t), some (.int (nI i)), none] [] M sz 0 0 := by
    intro m
    induction m with
    | zero =>
      intro i hi hn
      refine xp_iload_2 (pc := 2) hX d_Poo_sees_2 ?_
      refine xp_aload_0 (pc := 3) hX d_Poo_sees_3 ?_
      refine xg_get (pc := 4) hX (j := 1) k_Poo d_Poo_sees_4 l_Poo_18 (by decide) (by first | assumption | exact xup_s _ _ _ | exact xup_o (by omega) (by assumption) | exact xup_o (by omega) (xup_s _ _ _) | exact xup_o (by omega) (xup_o (by omega) (by assumption)) | exact xup_o (by omega) (xup_o (by omega) (xup_s _ _ _)) | exact xup_o (by omega) (xup_o (by omega) (xup_o (by omega) (by assumption)))) (by rfl) ?_
      refine xn_icmp_ge (pc := 7) hX 74 d_Poo_sees_7 (by decide) (by omega) (by omega) (fun _ => ?_) (fun z => absurd z (by omega))
      refine xg_iconst (pc := 74) hX (nI 0) d_Poo_sees_74 ci_iconst_0 ?_
      refine xg_iret (pc := 75) hX hE d_Poo_sees_75 rfl rfl (by omega) (by omega) ?_
      refine ⟨rfl, _, rfl, ?_, rfl⟩
      have : told1 se (dp - 1) nm = false := by
        unfold told1
        rw [List.any_eq_false]
        intro s hs
        obtain ⟨j, hj⟩ := List.getElem?_of_mem hs
        have := hn j s (by have := (List.getElem?_eq_some_iff.mp hj).1; omega) hj
        simp [this]
      rw [this]; rfl
    | succ m ih =>
      intro i hi hn
      have hS : se[i]? = some (se[i]'(by omega)) := List.getElem?_eq_getElem (by omega)
      have hSm := h8 i _ hS
      have hmem := List.getElem_mem (show i < se.length by omega)
      generalize se[i]'(by omega) = s at hS hSm hmem
      have hSi := h7 i (by omega)
      rw [hSm] at hSi
      obtain ⟨s1, s2, s3⟩ := id hSi
      obtain ⟨r1, r2, -⟩ := id s3
      have e0 : va_rf (f i) = .ref (h + 2 + 3 * i) := by rw [h6 i (by omega)]; rfl
      have next : (s.1 == dp - 1 && s.2 == nm) = false → xG K 68 [some (.ref h), some (.ref t), some (.int (nI i)), some (.ref (h + 2 + 3 * i))] [] M sz 0 0 := by
        intro hno
        refine xp_inc_2 (pc := 68) hX d_Poo_sees_68 (by decide) ?_
        refine xg_goto (pc := 71) hX 2 d_Poo_sees_71 (by decide) ?_
        refine xp_drop_3 ?_
        refine ih (i + 1) (by omega) (fun j s' hj hs' => ?_)
        rcases Nat.lt_or_ge j i with z | z
        · exact hn j s' z hs'
        · rw [show j = i by omega, hS] at hs'
          cases hs'
          exact hno
      refine xp_iload_2 (pc := 2) hX d_Poo_sees_2 ?_
      refine xp_aload_0 (pc := 3) hX d_Poo_sees_3 ?_
      refine xg_get (pc := 4) hX (j := 1) k_Poo d_Poo_sees_4 l_Poo_18 (by decide) (by first | assumption | exact xup_s _ _ _ | exact xup_o (by omega) (by assumption) | exact xup_o (by omega) (xup_s _ _ _) | exact xup_o (by omega) (xup_o (by omega) (by assumption)) | exact xup_o (by omega) (xup_o (by omega) (xup_s _ _ _)) | exact xup_o (by omega) (xup_o (by omega) (xup_o (by omega) (by assumption)))) (by rfl) ?_
      refine xn_icmp_ge (pc := 7) hX 74 d_Poo_sees_7 (by decide) (by omega) (by omega) (fun z => absurd z (by omega)) (fun _ => ?_)
      refine xp_iload_2 (pc := 10) hX d_Poo_sees_10 ?_
      refine xp_aload_0 (pc := 11) hX d_Poo_sees_11 ?_
      refine xg_get (pc := 12) hX (j := 0) k_Poo d_Poo_sees_12 l_Poo_11 (by decide) (by first | assumption | exact xup_s _ _ _ | exact xup_o (by omega) (by assumption) | exact xup_o (by omega) (xup_s _ _ _) | exact xup_o (by omega) (xup_o (by omega) (by assumption)) | exact xup_o (by omega) (xup_o (by omega) (xup_s _ _ _)) | exact xup_o (by omega) (xup_o (by omega) (xup_o (by omega) (by assumption)))) (by rfl) ?_
      refine xn_alen (pc := 15) hX (t := 3) d_Poo_sees_15 rfl (by first | assumption | exact xup_s _ _ _ | exact xup_o (by omega) (by assumption) | exact xup_o (by omega) (xup_s _ _ _) | exact xup_o (by omega) (xup_o (by omega) (by assumption)) | exact xup_o (by omega) (xup_o (by omega) (xup_s _ _ _)) | exact xup_o (by omega) (xup_o (by omega) (xup_o (by omega) (by assumption)))) ?_
      refine xn_icmp_ge (pc := 16) hX 74 d_Poo_sees_16 (by decide) (by omega) (by omega) (fun z => absurd z (by omega)) (fun _ => ?_)
      refine xp_aload_0 (pc := 19) hX d_Poo_sees_19 ?_
      refine xg_get (pc := 20) hX (j := 0) k_Poo d_Poo_sees_20 l_Poo_11 (by decide) (by first | assumption | exact xup_s _ _ _ | exact xup_o (by omega) (by assumption) | exact xup_o (by omega) (xup_s _ _ _) | exact xup_o (by omega) (xup_o (by omega) (by assumption)) | exact xup_o (by omega) (xup_o (by omega) (xup_s _ _ _)) | exact xup_o (by omega) (xup_o (by omega) (xup_o (by omega) (by assumption)))) (by rfl) ?_
      refine xp_iload_2 (pc := 23) hX d_Poo_sees_23 ?_
      refine xn_aald (pc := 24) hX (t := 3) d_Poo_sees_24 rfl (by first | assumption | exact xup_s _ _ _ | exact xup_o (by omega) (by assumption) | exact xup_o (by omega) (xup_s _ _ _) | exact xup_o (by omega) (xup_o (by omega) (by assumption)) | exact xup_o (by omega) (xup_o (by omega) (xup_s _ _ _)) | exact xup_o (by omega) (xup_o (by omega) (xup_o (by omega) (by assumption)))) (by omega) (by omega) (by first | assumption | rfl) ?_
      first | refine xp_astore_3 (pc := 25) hX d_Poo_sees_25 (by decide) ?_ | refine xp_astoreN_3 (pc := 25) hX d_Poo_sees_25 (by decide) ?_
      refine xp_aload_3 (pc := 26) hX d_Poo_sees_26 ?_
      refine xg_ifnull (pc := 27) hX d_Poo_sees_27 ?_
      refine xp_aload_3 (pc := 30) hX d_Poo_sees_30 ?_
      refine xg_get (pc := 31) hX (j := 1) k_Sig d_Poo_sees_31 l_Poo_35 (by decide) (by first | assumption | exact xup_s _ _ _ | exact xup_o (by omega) (by assumption) | exact xup_o (by omega) (xup_s _ _ _) | exact xup_o (by omega) (xup_o (by omega) (by assumption)) | exact xup_o (by omega) (xup_o (by omega) (xup_s _ _ _)) | exact xup_o (by omega) (xup_o (by omega) (xup_o (by omega) (by assumption)))) (by rfl) ?_
      refine xp_aload_0 (pc := 34) hX d_Poo_sees_34 ?_
      refine xi_V (Y2 := Y_Poo_innermost) (pc := 35) hX [] k_Poo m_Poo_innermost d_Poo_sees_35 l_Poo_55 rfl rfl (by simp [Value.category]) (by first | assumption | exact xup_s _ _ _ | exact xup_o (by omega) (by assumption) | exact xup_o (by omega) (xup_s _ _ _) | exact xup_o (by omega) (xup_o (by omega) (by assumption)) | exact xup_o (by omega) (xup_o (by omega) (xup_s _ _ _)) | exact xup_o (by omega) (xup_o (by omega) (xup_o (by omega) (by assumption)))) (c_Poo_innermost d hs) (by omega) (by omega) ?_
      rintro y M' ⟨rfl, rfl⟩
      refine xn_icmp_ne (pc := 38) hX 68 d_Poo_sees_38 (by decide) (by omega) (by omega) (fun z => ?_) (fun z => ?_)
      · exact next (by simp [z])
      · refine xp_aload_3 (pc := 41) hX d_Poo_sees_41 ?_
        refine xg_get (pc := 42) hX (j := 0) k_Sig d_Poo_sees_42 l_Poo_45 (by decide) (by first | assumption | exact xup_s _ _ _ | exact xup_o (by omega) (by assumption) | exact xup_o (by omega) (xup_s _ _ _) | exact xup_o (by omega) (xup_o (by omega) (by assumption)) | exact xup_o (by omega) (xup_o (by omega) (xup_s _ _ _)) | exact xup_o (by omega) (xup_o (by omega) (xup_o (by omega) (by assumption)))) (by rfl) ?_
        refine xg_get (pc := 45) hX (j := 1) k_Row d_Poo_sees_45 l_Poo_66 (by decide) (by first | assumption | exact xup_s _ _ _ | exact xup_o (by omega) (by assumption) | exact xup_o (by omega) (xup_s _ _ _) | exact xup_o (by omega) (xup_o (by omega) (by assumption)) | exact xup_o (by omega) (xup_o (by omega) (xup_s _ _ _)) | exact xup_o (by omega) (xup_o (by omega) (xup_o (by omega) (by assumption)))) (by rfl) ?_
        refine xp_aload_1 (pc := 48) hX d_Poo_sees_48 ?_
        refine xg_get (pc := 49) hX (j := 1) k_Row d_Poo_sees_49 l_Poo_66 (by decide) (by first | assumption | exact xup_s _ _ _ | exact xup_o (by omega) (by assumption) | exact xup_o (by omega) (xup_s _ _ _) | exact xup_o (by omega) (xup_o (by omega) (by assumption)) | exact xup_o (by omega) (xup_o (by omega) (xup_s _ _ _)) | exact xup_o (by omega) (xup_o (by omega) (xup_o (by omega) (by assumption)))) (by rfl) ?_
        refine xn_icmp_ne (pc := 52) hX 68 d_Poo_sees_52 (by decide) (by omega) (by omega) (fun z1 => ?_) (fun z1 => ?_)
        · exact next (by
            have : (s.2 == nm) = false := by
              rw [beq_eq_false_iff_ne]
              intro w; rw [w] at z1; exact z1 rfl
            simp [this])
        · refine xp_aload_3 (pc := 55) hX d_Poo_sees_55 ?_
          refine xg_get (pc := 56) hX (j := 0) k_Sig d_Poo_sees_56 l_Poo_45 (by decide) (by first | assumption | exact xup_s _ _ _ | exact xup_o (by omega) (by assumption) | exact xup_o (by omega) (xup_s _ _ _) | exact xup_o (by omega) (xup_o (by omega) (by assumption)) | exact xup_o (by omega) (xup_o (by omega) (xup_s _ _ _)) | exact xup_o (by omega) (xup_o (by omega) (xup_o (by omega) (by assumption)))) (by rfl) ?_
          refine xp_aload_1 (pc := 59) hX d_Poo_sees_59 ?_
          refine xi_V (Y2 := Y_Row_beginsWith) (pc := 60) hX [_] k_Row m_Row_beginsWith d_Poo_sees_60 l_Poo_69 rfl rfl (by simp [Value.category]) (by first | assumption | exact xup_s _ _ _ | exact xup_o (by omega) (by assumption) | exact xup_o (by omega) (xup_s _ _ _) | exact xup_o (by omega) (xup_o (by omega) (by assumption)) | exact xup_o (by omega) (xup_o (by omega) (xup_s _ _ _)) | exact xup_o (by omega) (xup_o (by omega) (xup_o (by omega) (by assumption)))) (c_Row_beginsWith d s3 ht (by omega) (by omega)) (by omega) (by omega) ?_
          rintro y M' ⟨rfl, rfl⟩
          rw [pre_eq z1]
          refine xg_if_eq (pc := 63) hX 68 d_Poo_sees_63 (by decide) (fun q2 => ?_) (fun q2 => ?_)
          · exact next (by simp [bI_eq0.mp q2])
          · refine xg_iconst (pc := 66) hX (nI 1) d_Poo_sees_66 ci_iconst_1 ?_
            refine xg_iret (pc := 67) hX hE d_Poo_sees_67 rfl rfl (by omega) (by omega) ?_
            refine ⟨rfl, _, rfl, ?_, rfl⟩
            have : told1 se (dp - 1) nm = true := by
              unfold told1
              rw [List.any_eq_true]
              exact ⟨s, hmem, by simp [z, bI_ne0.mp q2]⟩
            rw [this]; rfl
  refine xg_iconst (pc := 0) hX (nI 0) d_Poo_sees_0 ci_iconst_0 ?_
  refine xp_istore_2 (pc := 1) hX d_Poo_sees_1 (by decide) ?_
  exact loop se.length 0 (by omega) (fun j s hj => absurd hj (by omega))
set_option maxHeartbeats 4000000 in
set_option maxRecDepth 100000 in
theorem c_Poo_innermost0 (d : Nat) {M : xH} {sz h dp : Nat} {u v : Value} (h1 : M h = some (.inr (4, [u, v, .int (nI dp)]))) (h3 : 1 ≤ dp) (h4 : dp ≤ 100) : xC d 0 0 Y_Poo_innermost [.ref h] M sz (qi sz (fun y M' => y = nI (dp - 1) ∧ M' = M)) := by
  refine xC_of (by decide) (Nat.le_of_ble_eq_true rfl) (by simp [Value.category]) (vs := [some (.ref h)]) rfl (fun K hX hE => ?_)
  refine xp_aload_0 (pc := 0) hX d_Poo_innermost_0 ?_
  refine xg_get (pc := 1) hX (j := 2) k_Poo d_Poo_innermost_1 l_Poo_22 (by decide) (by first | assumption | exact xup_s _ _ _ | exact xup_o (by omega) (by assumption) | exact xup_o (by omega) (xup_s _ _ _) | exact xup_o (by omega) (xup_o (by omega) (by assumption)) | exact xup_o (by omega) (xup_o (by omega) (xup_s _ _ _)) | exact xup_o (by omega) (xup_o (by omega) (xup_o (by omega) (by assumption)))) (by rfl) ?_
  refine xg_iconst (pc := 4) hX (nI 1) d_Poo_innermost_4 ci_iconst_1 ?_
  first | refine xn_isub (pc := 5) hX d_Poo_innermost_5 (by omega) ?_ | refine xg_isub (pc := 5) hX d_Poo_innermost_5 ?_
  refine xg_iret (pc := 6) hX hE d_Poo_innermost_6 rfl rfl (by omega) (by omega) ?_
  exact ⟨rfl, _, rfl, rfl, rfl⟩
set_option maxHeartbeats 4000000 in
set_option maxRecDepth 100000 in
theorem c_Poo_see (d : Nat) {M : xH} {sz h dp t wt : Nat} {se : List xSe} {nm : List UInt8} (hs : PoA M h dp se) (ht : RowAt M t wt nm) (htd : t + 1 < h ∨ h + 254 ≤ t) (hnm : nm.length ≤ 200) (hroom : se.length < 84) (hwt : wt < 1000000) : xC (d + 3) 0 0 Y_Poo_see [.ref h, .ref t] M sz (qv sz (fun M' => PoA M' h dp (if told1 se (dp - 1) nm then se else se ++ [(dp - 1, nm)]) ∧ FrR M M' h (h + 254))) := by
  refine xC_of (by decide) (Nat.le_of_ble_eq_true rfl) (by simp [Value.category]) (vs := [some (.ref h), some (.ref t), none]) rfl (fun K hX hE => ?_)
  obtain ⟨S, ⟨h1, h2, h3, h4, ⟨f, h5, h6⟩, h7⟩, h8⟩ := id hs
  refine xp_aload_0 (pc := 0) hX d_Poo_see_0 ?_
  refine xp_aload_1 (pc := 1) hX d_Poo_see_1 ?_
  refine xi_V (Y2 := Y_Poo_sees) (pc := 2) hX [_] k_Poo m_Poo_sees d_Poo_see_2 l_Poo_42 rfl rfl (by simp [Value.category]) (by first | assumption | exact xup_s _ _ _ | exact xup_o (by omega) (by assumption) | exact xup_o (by omega) (xup_s _ _ _) | exact xup_o (by omega) (xup_o (by omega) (by assumption)) | exact xup_o (by omega) (xup_o (by omega) (xup_s _ _ _)) | exact xup_o (by omega) (xup_o (by omega) (xup_o (by omega) (by assumption)))) (c_Poo_sees (d + 1) hs ht hwt) (by omega) (by omega) ?_
  rintro y M' ⟨rfl, rfl⟩
  refine xg_if_ne (pc := 5) hX 27 d_Poo_see_5 (by decide) (fun q => ?_) (fun q => ?_)
  · refine xg_vret (pc := 27) hX hE d_Poo_see_27 rfl (by omega) (by omega) ?_
    refine ⟨rfl, rfl, ?_, FrR.rf _ _ _⟩
    rw [if_pos (bI_ne0.mp q)]
    exact hs
  · have q := bI_eq0.mp q
    obtain ⟨s1, s2, s3⟩ := h7 se.length hroom
    generalize S se.length = s at s1 s2 s3
    obtain ⟨r1, -⟩ := id s3
    have e0 : va_rf (f se.length) = .ref (h + 2 + 3 * se.length) := by rw [h6 _ hroom]; rfl
    generalize ha : h + 2 + 3 * se.length = a at e0 s1 s3 r1
    refine xp_aload_0 (pc := 8) hX d_Poo_see_8 ?_
    refine xg_get (pc := 9) hX (j := 1) k_Poo d_Poo_see_9 l_Poo_18 (by decide) (by first | assumption | exact xup_s _ _ _ | exact xup_o (by omega) (by assumption) | exact xup_o (by omega) (xup_s _ _ _) | exact xup_o (by omega) (xup_o (by omega) (by assumption)) | exact xup_o (by omega) (xup_o (by omega) (xup_s _ _ _)) | exact xup_o (by omega) (xup_o (by omega) (xup_o (by omega) (by assumption)))) (by rfl) ?_
    refine xn_if_lt (pc := 12) hX 27 d_Poo_see_12 (by decide) (by omega) ?_
    refine xp_aload_0 (pc := 15) hX d_Poo_see_15 ?_
    refine xg_get (pc := 16) hX (j := 1) k_Poo d_Poo_see_16 l_Poo_18 (by decide) (by first | assumption | exact xup_s _ _ _ | exact xup_o (by omega) (by assumption) | exact xup_o (by omega) (xup_s _ _ _) | exact xup_o (by omega) (xup_o (by omega) (by assumption)) | exact xup_o (by omega) (xup_o (by omega) (xup_s _ _ _)) | exact xup_o (by omega) (xup_o (by omega) (xup_o (by omega) (by assumption)))) (by rfl) ?_
    refine xp_aload_0 (pc := 19) hX d_Poo_see_19 ?_
    refine xg_get (pc := 20) hX (j := 0) k_Poo d_Poo_see_20 l_Poo_11 (by decide) (by first | assumption | exact xup_s _ _ _ | exact xup_o (by omega) (by assumption) | exact xup_o (by omega) (xup_s _ _ _) | exact xup_o (by omega) (xup_o (by omega) (by assumption)) | exact xup_o (by omega) (xup_o (by omega) (xup_s _ _ _)) | exact xup_o (by omega) (xup_o (by omega) (xup_o (by omega) (by assumption)))) (by rfl) ?_
    refine xn_alen (pc := 23) hX (t := 3) d_Poo_see_23 rfl (by first | assumption | exact xup_s _ _ _ | exact xup_o (by omega) (by assumption) | exact xup_o (by omega) (xup_s _ _ _) | exact xup_o (by omega) (xup_o (by omega) (by assumption)) | exact xup_o (by omega) (xup_o (by omega) (xup_s _ _ _)) | exact xup_o (by omega) (xup_o (by omega) (xup_o (by omega) (by assumption)))) ?_
    refine xn_icmp_lt (pc := 24) hX 28 d_Poo_see_24 (by decide) (by omega) (by omega) (fun _ => ?_) (fun z => absurd z (by omega))
    refine xp_aload_0 (pc := 28) hX d_Poo_see_28 ?_
    refine xg_get (pc := 29) hX (j := 0) k_Poo d_Poo_see_29 l_Poo_11 (by decide) (by first | assumption | exact xup_s _ _ _ | exact xup_o (by omega) (by assumption) | exact xup_o (by omega) (xup_s _ _ _) | exact xup_o (by omega) (xup_o (by omega) (by assumption)) | exact xup_o (by omega) (xup_o (by omega) (xup_s _ _ _)) | exact xup_o (by omega) (xup_o (by omega) (xup_o (by omega) (by assumption)))) (by rfl) ?_
    refine xp_aload_0 (pc := 32) hX d_Poo_see_32 ?_
    refine xg_get (pc := 33) hX (j := 1) k_Poo d_Poo_see_33 l_Poo_18 (by decide) (by first | assumption | exact xup_s _ _ _ | exact xup_o (by omega) (by assumption) | exact xup_o (by omega) (xup_s _ _ _) | exact xup_o (by omega) (xup_o (by omega) (by assumption)) | exact xup_o (by omega) (xup_o (by omega) (xup_s _ _ _)) | exact xup_o (by omega) (xup_o (by omega) (xup_o (by omega) (by assumption)))) (by rfl) ?_
    refine xn_aald (pc := 36) hX (t := 3) d_Poo_see_36 rfl (by first | assumption | exact xup_s _ _ _ | exact xup_o (by omega) (by assumption) | exact xup_o (by omega) (xup_s _ _ _) | exact xup_o (by omega) (xup_o (by omega) (by assumption)) | exact xup_o (by omega) (xup_o (by omega) (xup_s _ _ _)) | exact xup_o (by omega) (xup_o (by omega) (xup_o (by omega) (by assumption)))) (by omega) (by omega) (by first | assumption | rfl) ?_
    first | refine xp_astore_2 (pc := 37) hX d_Poo_see_37 (by decide) ?_ | refine xp_astoreN_2 (pc := 37) hX d_Poo_see_37 (by decide) ?_
    refine xp_aload_2 (pc := 38) hX d_Poo_see_38 ?_
    refine xg_ifnull (pc := 39) hX d_Poo_see_39 ?_
    refine xp_aload_2 (pc := 42) hX d_Poo_see_42 ?_
    refine xg_get (pc := 43) hX (j := 0) k_Sig d_Poo_see_43 l_Poo_45 (by decide) (by first | assumption | exact xup_s _ _ _ | exact xup_o (by omega) (by assumption) | exact xup_o (by omega) (xup_s _ _ _) | exact xup_o (by omega) (xup_o (by omega) (by assumption)) | exact xup_o (by omega) (xup_o (by omega) (xup_s _ _ _)) | exact xup_o (by omega) (xup_o (by omega) (xup_o (by omega) (by assumption)))) (by rfl) ?_
    refine xp_aload_1 (pc := 46) hX d_Poo_see_46 ?_
    refine xv_V (Y2 := Y_Row_become) (pc := 47) hX [_] k_Row m_Row_become d_Poo_see_47 l_Poo_49 rfl rfl (by simp [Value.category]) (by first | assumption | exact xup_s _ _ _ | exact xup_o (by omega) (by assumption) | exact xup_o (by omega) (xup_s _ _ _) | exact xup_o (by omega) (xup_o (by omega) (by assumption)) | exact xup_o (by omega) (xup_o (by omega) (xup_s _ _ _)) | exact xup_o (by omega) (xup_o (by omega) (xup_o (by omega) (by assumption)))) (c_Row_become d s3 ht (by omega) (by omega) (by omega) (by omega)) (by omega) (by omega) ?_
    rintro M2 ⟨a1, a2⟩
    have h1' : M2 h = some (.inr (4, [.ref (h + 1), .int (nI se.length), .int (nI dp)])) := by rw [a2 h (by omega) (by omega)]; exact h1
    have s1' : M2 a = some (.inr (3, [.ref (a + 1), .int (nI s.1), .int (bI (isSt s.2))])) := by rw [a2 a (by omega) (by omega)]; exact s1
    have ht' : RowAt M2 t wt nm := ht.kept (a2 _ (by omega) (by omega)) (a2 _ (by omega) (by omega))
    refine xp_aload_2 (pc := 50) hX d_Poo_see_50 ?_
    refine xp_aload_0 (pc := 51) hX d_Poo_see_51 ?_
    refine xi_V (Y2 := Y_Poo_innermost) (pc := 52) hX [] k_Poo m_Poo_innermost d_Poo_see_52 l_Poo_55 rfl rfl (by simp [Value.category]) (by first | assumption | exact xup_s _ _ _ | exact xup_o (by omega) (by assumption) | exact xup_o (by omega) (xup_s _ _ _) | exact xup_o (by omega) (xup_o (by omega) (by assumption)) | exact xup_o (by omega) (xup_o (by omega) (xup_s _ _ _)) | exact xup_o (by omega) (xup_o (by omega) (xup_o (by omega) (by assumption)))) (c_Poo_innermost0 (d + 2) h1' h3 h4) (by omega) (by omega) ?_
    rintro y M3 ⟨rfl, rfl⟩
    refine xg_put (pc := 55) hX (j := 1) k_Sig d_Poo_see_55 l_Poo_35 (by decide) rfl (by first | assumption | exact xup_s _ _ _ | exact xup_o (by omega) (by assumption) | exact xup_o (by omega) (xup_s _ _ _) | exact xup_o (by omega) (xup_o (by omega) (by assumption)) | exact xup_o (by omega) (xup_o (by omega) (xup_s _ _ _)) | exact xup_o (by omega) (xup_o (by omega) (xup_o (by omega) (by assumption)))) (Nat.le_of_ble_eq_true rfl) rfl rfl (by simp only [List.set_cons_zero, List.set_cons_succ]; exact rfl) ?_
    refine xp_aload_2 (pc := 58) hX d_Poo_see_58 ?_
    refine xp_aload_1 (pc := 59) hX d_Poo_see_59 ?_
    have ht'' : RowAt (xup M3 a (.inr (3, [.ref (a + 1), .int (nI (dp - 1)), .int (bI (isSt s.2))]))) t wt nm := ht'.kept (xup_n _ _ (by omega)) (xup_n _ _ (by omega))
    obtain ⟨t1, -⟩ := id ht''
    refine xi_V (Y2 := Y_Row_isStem) (pc := 60) hX [] k_Row m_Row_isStem d_Poo_see_60 l_Poo_58 rfl rfl (by simp [Value.category]) (by first | assumption | exact xup_s _ _ _ | exact xup_o (by omega) (by assumption) | exact xup_o (by omega) (xup_s _ _ _) | exact xup_o (by omega) (xup_o (by omega) (by assumption)) | exact xup_o (by omega) (xup_o (by omega) (xup_s _ _ _)) | exact xup_o (by omega) (xup_o (by omega) (xup_o (by omega) (by assumption)))) (c_Row_isStem (d + 1) ht'' (by omega)) (by omega) (by omega) ?_
    rintro y M4 ⟨rfl, rfl⟩
    refine xg_put (pc := 63) hX (j := 2) k_Sig d_Poo_see_63 l_Poo_62 (by decide) rfl (xup_s _ _ _) (Nat.le_of_ble_eq_true rfl) (by show narrow .boolean _ = _; cases isSt nm <;> rfl) (by show fits .boolean _ = _; cases isSt nm <;> rfl) (by simp only [List.set_cons_zero, List.set_cons_succ]; exact rfl) ?_
    have h1'' : xup (xup M3 a (.inr (3, [.ref (a + 1), .int (nI (dp - 1)), .int (bI (isSt s.2))]))) a (.inr (3, [.ref (a + 1), .int (nI (dp - 1)), .int (bI (isSt nm))])) h = some (.inr (4, [.ref (h + 1), .int (nI se.length), .int (nI dp)])) := xup_o (by omega) (xup_o (by omega) h1')
    refine xp_aload_0 (pc := 66) hX d_Poo_see_66 ?_
    refine xg_dup (pc := 67) hX d_Poo_see_67 rfl ?_
    refine xg_get (pc := 68) hX (j := 1) k_Poo d_Poo_see_68 l_Poo_18 (by decide) (by first | assumption | exact xup_s _ _ _ | exact xup_o (by omega) (by assumption) | exact xup_o (by omega) (xup_s _ _ _) | exact xup_o (by omega) (xup_o (by omega) (by assumption)) | exact xup_o (by omega) (xup_o (by omega) (xup_s _ _ _)) | exact xup_o (by omega) (xup_o (by omega) (xup_o (by omega) (by assumption)))) (by rfl) ?_
    refine xg_iconst (pc := 71) hX (nI 1) d_Poo_see_71 ci_iconst_1 ?_
    first | refine xn_iadd (pc := 72) hX d_Poo_see_72 ?_ | refine xg_iadd (pc := 72) hX d_Poo_see_72 ?_
    refine xg_put (pc := 73) hX (j := 1) k_Poo d_Poo_see_73 l_Poo_18 (by decide) rfl (by first | assumption | exact xup_s _ _ _ | exact xup_o (by omega) (by assumption) | exact xup_o (by omega) (xup_s _ _ _) | exact xup_o (by omega) (xup_o (by omega) (by assumption)) | exact xup_o (by omega) (xup_o (by omega) (xup_s _ _ _)) | exact xup_o (by omega) (xup_o (by omega) (xup_o (by omega) (by assumption)))) (Nat.le_of_ble_eq_true rfl) rfl rfl (by simp only [List.set_cons_zero, List.set_cons_succ]; exact rfl) ?_
    refine xg_vret (pc := 76) hX hE d_Poo_see_76 rfl (by omega) (by omega) ?_
    have hn : ∀ q, q ≠ a → q ≠ a + 1 → q ≠ a + 2 → q ≠ h → xup (xup (xup M3 a (.inr (3, [.ref (a + 1), .int (nI (dp - 1)), .int (bI (isSt s.2))]))) a (.inr (3, [.ref (a + 1), .int (nI (dp - 1)), .int (bI (isSt nm))]))) h (.inr (4, [.ref (h + 1), .int (nI (se.length + 1)), .int (nI dp)])) q = M' q := fun q b1 b2 b3 b4 => by
      rw [xup_n _ _ b4, xup_n _ _ b1, xup_n _ _ b1, a2 q b2 b3]
    refine ⟨rfl, rfl, ?_, fun q hq => hn q (by omega) (by omega) (by omega) (by omega)⟩
    rw [if_neg (by rw [q]; decide)]
    refine ⟨fun j => if j = se.length then (dp - 1, nm) else S j, ⟨?_, by simp; omega, h3, h4, ⟨f, ?_, h6⟩, fun j hj => ?_⟩, fun j s' hj => ?_⟩
    · rw [xup_s, List.length_append]; rfl
    · rw [hn _ (by omega) (by omega) (by omega) (by omega)]; exact h5
    · by_cases hjn : j = se.length
      · subst hjn
        simp only [if_true]
        rw [ha]
        exact ⟨xup_o (by omega) (xup_s _ _ _), by show dp - 1 < 1000; omega, a1.kept (by rw [xup_n _ _ (by omega), xup_n _ _ (by omega), xup_n _ _ (by omega)]) (by rw [xup_n _ _ (by omega), xup_n _ _ (by omega), xup_n _ _ (by omega)])⟩
      · simp only [if_neg hjn]
        exact (h7 j hj).kept (fun q b1 b2 => hn q (by omega) (by omega) (by omega) (by omega))
    · by_cases hjn : j = se.length
      · subst hjn
        simp at hj
        simp [hj]
      · rw [List.getElem?_append] at hj
        split at hj
        · simp only [if_neg hjn]
          exact h8 j s' hj
        · have := (List.getElem?_eq_some_iff.mp hj).1
          simp at this
          omega
