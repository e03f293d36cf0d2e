/-! NameRoom$Cutter: patterns, words -/
/-- the first place at or behind fr at which the pattern stands -/
def fnd (sub pat : List UInt8) (fr : Nat) : Option Nat := (List.range (sub.length + 2)).find? (fun p => decide (fr ≤ p) && (decide (p + pat.length ≤ sub.length + 1) && pat.isPrefixOf (sub.drop (p - 1))))
def plc (sub pat : List UInt8) (fr : Nat) : Nat := if pat.length = 0 then sub.length + 1 else (fnd sub pat fr).getD (sub.length + 1)
theorem fnd_le {sub pat : List UInt8} {fr p : Nat} (h : fnd sub pat fr = some p) : fr ≤ p ∧ p + pat.length ≤ sub.length + 1 := by
  have := List.find?_range_eq_some.mp h
  simp at this
  omega
theorem plc_in {sub pat : List UInt8} {fr : Nat} (hf : fr ≤ sub.length + 1) : fr ≤ plc sub pat fr ∧ plc sub pat fr ≤ sub.length + 1 := by
  unfold plc
  split
  · omega
  · cases h : fnd sub pat fr with
    | none => simp; omega
    | some p =>
      have := fnd_le h
      simp
      omega
set_option maxHeartbeats 4000000 in
set_option maxRecDepth 100000 in
theorem c_Cut_placeOf (d : Nat) {M : xH} {sz h fr bg sf st pf pt t wt : Nat} {sub pat : List UInt8} (hs : CuA M h sub fr bg sf st pf pt) (ht : RowAt M t wt pat) (hfr1 : 1 ≤ fr) (hfr : fr ≤ sub.length + 1) (hwt : wt < 1000000) : xC (d + 2) 0 0 Y_Cut_placeOf [.ref h, .ref t] M sz (qi sz (fun y M' => y = nI (plc sub pat fr) ∧ M' = M)) := by
  refine xC_of (by decide) (Nat.le_of_ble_eq_true rfl) (by simp [Value.category]) (vs := [some (.ref h), some (.ref t), none, none]) rfl (fun K hX hE => ?_)
  obtain ⟨h1, h2⟩ := id hs
  obtain ⟨r1, r2, -⟩ := id h2
  obtain ⟨t1, t2, -⟩ := id ht
  refine xp_aload_0 (pc := 0) hX d_Cut_placeOf_0 ?_
  refine xg_get (pc := 1) hX (j := 0) k_Cut d_Cut_placeOf_1 l_Cut_14 (by decide) (by first | assumption | exact xup_s _ _ _ | exact xup_o (by omega) (by assumption) | exact xup_o (by omega) (xup_s _ _ _) | exact xup_o (by omega) (xup_o (by omega) (by assumption)) | exact xup_o (by omega) (xup_o (by omega) (xup_s _ _ _)) | exact xup_o (by omega) (xup_o (by omega) (xup_o (by omega) (by assumption)))) (by rfl) ?_
  refine xg_get (pc := 4) hX (j := 1) k_Row d_Cut_placeOf_4 l_Cut_42 (by decide) (by first | assumption | exact xup_s _ _ _ | exact xup_o (by omega) (by assumption) | exact xup_o (by omega) (xup_s _ _ _) | exact xup_o (by omega) (xup_o (by omega) (by assumption)) | exact xup_o (by omega) (xup_o (by omega) (xup_s _ _ _)) | exact xup_o (by omega) (xup_o (by omega) (xup_o (by omega) (by assumption)))) (by rfl) ?_
  refine xg_iconst (pc := 7) hX (nI 1) d_Cut_placeOf_7 ci_iconst_1 ?_
  first | refine xn_iadd (pc := 8) hX d_Cut_placeOf_8 ?_ | refine xg_iadd (pc := 8) hX d_Cut_placeOf_8 ?_
  refine xp_istore_2 (pc := 9) hX d_Cut_placeOf_9 (by decide) ?_
  refine xp_aload_1 (pc := 10) hX d_Cut_placeOf_10 ?_
  refine xg_get (pc := 11) hX (j := 1) k_Row d_Cut_placeOf_11 l_Cut_42 (by decide) (by first | assumption | exact xup_s _ _ _ | exact xup_o (by omega) (by assumption) | exact xup_o (by omega) (xup_s _ _ _) | exact xup_o (by omega) (xup_o (by omega) (by assumption)) | exact xup_o (by omega) (xup_o (by omega) (xup_s _ _ _)) | exact xup_o (by omega) (xup_o (by omega) (xup_o (by omega) (by assumption)))) (by rfl) ?_
  refine xn_if_ne (pc := 14) hX 19 d_Cut_placeOf_14 (by decide) (by omega) (fun q => ?_) (fun q => ?_)
  · have loop : ∀ (m i : Nat), i + m = sub.length + 2 → fr ≤ i → (∀ j, fr ≤ j → j < i → j + pat.length ≤ sub.length + 1 → pat.isPrefixOf (sub.drop (j - 1)) = false) → xG K 24 [some (.ref h), some (.ref t), some (.int (nI (sub.length + 1))), some (.int (nI i))] [] M sz 0 0 := by
      intro m
      induction m with
      | zero =>
        intro i hi hf hn
        refine xp_iload_3 (pc := 24) hX d_Cut_placeOf_24 ?_
        refine xp_aload_1 (pc := 25) hX d_Cut_placeOf_25 ?_
        refine xg_get (pc := 26) hX (j := 1) k_Row d_Cut_placeOf_26 l_Cut_42 (by decide) (by first | assumption | exact xup_s _ _ _ | exact xup_o (by omega) (by assumption) | exact xup_o (by omega) (xup_s _ _ _) | exact xup_o (by omega) (xup_o (by omega) (by assumption)) | exact xup_o (by omega) (xup_o (by omega) (xup_s _ _ _)) | exact xup_o (by omega) (xup_o (by omega) (xup_o (by omega) (by assumption)))) (by rfl) ?_
        first | refine xn_iadd (pc := 29) hX d_Cut_placeOf_29 ?_ | refine xg_iadd (pc := 29) hX d_Cut_placeOf_29 ?_
        refine xp_iload_2 (pc := 30) hX d_Cut_placeOf_30 ?_
        refine xn_icmp_gt (pc := 31) hX 56 d_Cut_placeOf_31 (by decide) (by omega) (by omega) (fun _ => ?_) (fun z => absurd z (by omega))
        refine xp_iload_2 (pc := 56) hX d_Cut_placeOf_56 ?_
        refine xg_iret (pc := 57) hX hE d_Cut_placeOf_57 rfl rfl (by omega) (by omega) ?_
        refine ⟨rfl, _, rfl, ?_, rfl⟩
        have : fnd sub pat fr = none := List.find?_range_eq_none.mpr (fun j hj => by
          by_cases a1 : fr ≤ j
          · by_cases a2 : j + pat.length ≤ sub.length + 1
            · simp only [hn j a1 (by omega) a2]; simp
            · simp [a2]
          · simp [a1])
        unfold plc
        rw [if_neg (by omega), this]; rfl
      | succ m ih =>
        intro i hi hf hn
        refine xp_iload_3 (pc := 24) hX d_Cut_placeOf_24 ?_
        refine xp_aload_1 (pc := 25) hX d_Cut_placeOf_25 ?_
        refine xg_get (pc := 26) hX (j := 1) k_Row d_Cut_placeOf_26 l_Cut_42 (by decide) (by first | assumption | exact xup_s _ _ _ | exact xup_o (by omega) (by assumption) | exact xup_o (by omega) (xup_s _ _ _) | exact xup_o (by omega) (xup_o (by omega) (by assumption)) | exact xup_o (by omega) (xup_o (by omega) (xup_s _ _ _)) | exact xup_o (by omega) (xup_o (by omega) (xup_o (by omega) (by assumption)))) (by rfl) ?_
        first | refine xn_iadd (pc := 29) hX d_Cut_placeOf_29 ?_ | refine xg_iadd (pc := 29) hX d_Cut_placeOf_29 ?_
        refine xp_iload_2 (pc := 30) hX d_Cut_placeOf_30 ?_
        refine xn_icmp_gt (pc := 31) hX 56 d_Cut_placeOf_31 (by decide) (by omega) (by omega) (fun z => ?_) (fun z => ?_)
        · refine xp_iload_2 (pc := 56) hX d_Cut_placeOf_56 ?_
          refine xg_iret (pc := 57) hX hE d_Cut_placeOf_57 rfl rfl (by omega) (by omega) ?_
          refine ⟨rfl, _, rfl, ?_, rfl⟩
          have : fnd sub pat fr = none := List.find?_range_eq_none.mpr (fun j hj => by
            by_cases a1 : fr ≤ j
            · by_cases a2 : j + pat.length ≤ sub.length + 1
              · simp only [hn j a1 (by omega) a2]; simp
              · simp [a2]
            · simp [a1])
          unfold plc
          rw [if_neg (by omega), this]; rfl
        · refine xp_aload_0 (pc := 34) hX d_Cut_placeOf_34 ?_
          refine xg_get (pc := 35) hX (j := 0) k_Cut d_Cut_placeOf_35 l_Cut_14 (by decide) (by first | assumption | exact xup_s _ _ _ | exact xup_o (by omega) (by assumption) | exact xup_o (by omega) (xup_s _ _ _) | exact xup_o (by omega) (xup_o (by omega) (by assumption)) | exact xup_o (by omega) (xup_o (by omega) (xup_s _ _ _)) | exact xup_o (by omega) (xup_o (by omega) (xup_o (by omega) (by assumption)))) (by rfl) ?_
          refine xp_iload_3 (pc := 38) hX d_Cut_placeOf_38 ?_
          refine xg_iconst (pc := 39) hX (nI 1) d_Cut_placeOf_39 ci_iconst_1 ?_
          first | refine xn_isub (pc := 40) hX d_Cut_placeOf_40 (by omega) ?_ | refine xg_isub (pc := 40) hX d_Cut_placeOf_40 ?_
          refine xp_aload_1 (pc := 41) hX d_Cut_placeOf_41 ?_
          refine xi_V (Y2 := Y_Row_standsAt) (pc := 42) hX [_, _] k_Row m_Row_standsAt d_Cut_placeOf_42 l_Cut_62 rfl rfl (by simp [Value.category]) (by first | assumption | exact xup_s _ _ _ | exact xup_o (by omega) (by assumption) | exact xup_o (by omega) (xup_s _ _ _) | exact xup_o (by omega) (xup_o (by omega) (by assumption)) | exact xup_o (by omega) (xup_o (by omega) (xup_s _ _ _)) | exact xup_o (by omega) (xup_o (by omega) (xup_o (by omega) (by assumption)))) (c_Row_standsAt d h2 ht (by omega) (by omega) (by omega)) (by omega) (by omega) ?_
          rintro y M' ⟨rfl, rfl⟩
          refine xg_if_eq (pc := 45) hX 50 d_Cut_placeOf_45 (by decide) (fun w => ?_) (fun w => ?_)
          · refine xp_inc_3 (pc := 50) hX d_Cut_placeOf_50 (by decide) ?_
            refine xg_goto (pc := 53) hX 24 d_Cut_placeOf_53 (by decide) ?_
            refine ih (i + 1) (by omega) (by omega) (fun j a1 a2 a3 => ?_)
            rcases Nat.lt_or_ge j i with b | b
            · exact hn j a1 b a3
            · rw [show j = i by omega]; exact bI_eq0.mp w
          · refine xp_iload_3 (pc := 48) hX d_Cut_placeOf_48 ?_
            refine xg_iret (pc := 49) hX hE d_Cut_placeOf_49 rfl rfl (by omega) (by omega) ?_
            refine ⟨rfl, _, rfl, ?_, rfl⟩
            have : fnd sub pat fr = some i := List.find?_range_eq_some.mpr ⟨by simp [hf, z]; exact List.isPrefixOf_iff_prefix.mp (bI_ne0.mp w), List.mem_range.mpr (by omega), fun j hj => by
              by_cases a1 : fr ≤ j
              · by_cases a2 : j + pat.length ≤ sub.length + 1
                · simp only [hn j a1 (by omega) a2]; simp
                · simp [a2]
              · simp [a1]⟩
            unfold plc
            rw [if_neg (by omega), this]; rfl
    refine xp_aload_0 (pc := 19) hX d_Cut_placeOf_19 ?_
    refine xg_get (pc := 20) hX (j := 1) k_Cut d_Cut_placeOf_20 l_Cut_20 (by decide) (by first | assumption | exact xup_s _ _ _ | exact xup_o (by omega) (by assumption) | exact xup_o (by omega) (xup_s _ _ _) | exact xup_o (by omega) (xup_o (by omega) (by assumption)) | exact xup_o (by omega) (xup_o (by omega) (xup_s _ _ _)) | exact xup_o (by omega) (xup_o (by omega) (xup_o (by omega) (by assumption)))) (by rfl) ?_
    refine xp_istore_3 (pc := 23) hX d_Cut_placeOf_23 (by decide) ?_
    exact loop (sub.length + 2 - fr) fr (by omega) (Nat.le_refl _) (fun j a1 a2 => absurd a2 (by omega))
  · refine xp_iload_2 (pc := 17) hX d_Cut_placeOf_17 ?_
    refine xg_iret (pc := 18) hX hE d_Cut_placeOf_18 rfl rfl (by omega) (by omega) ?_
    refine ⟨rfl, _, rfl, ?_, rfl⟩
    unfold plc
    rw [if_pos q]
set_option maxHeartbeats 4000000 in
set_option maxRecDepth 100000 in
theorem c_Cut_cutAtPattern (d : Nat) {M : xH} {sz h fr bg sf st pf pt t wt : Nat} {sub pat : List UInt8} (hs : CuA M h sub fr bg sf st pf pt) (ht : RowAt M t wt pat) (htd : t ≠ h) (hfr1 : 1 ≤ fr) (hfr : fr ≤ sub.length + 1) (hwt : wt < 1000000) : xC (d + 3) 0 0 Y_Cut_cutAtPattern [.ref h, .ref t] M sz (qv sz (fun M' => CuA M' h sub (min (plc sub pat fr + pat.length) (sub.length + 1)) (plc sub pat fr) sf st fr (plc sub pat fr) ∧ Fr1 M M' h)) := by
  refine xC_of (by decide) (Nat.le_of_ble_eq_true rfl) (by simp [Value.category]) (vs := [some (.ref h), some (.ref t), none]) rfl (fun K hX hE => ?_)
  obtain ⟨h1, h2⟩ := id hs
  obtain ⟨r1, r2, -⟩ := id h2
  obtain ⟨t1, t2, -⟩ := id ht
  have hk := plc_in (pat := pat) hfr
  refine xp_aload_0 (pc := 0) hX d_Cut_cutAtPattern_0 ?_
  refine xp_aload_1 (pc := 1) hX d_Cut_cutAtPattern_1 ?_
  refine xi_V (Y2 := Y_Cut_placeOf) (pc := 2) hX [_] k_Cut m_Cut_placeOf d_Cut_cutAtPattern_2 l_Cut_52 rfl rfl (by simp [Value.category]) (by first | assumption | exact xup_s _ _ _ | exact xup_o (by omega) (by assumption) | exact xup_o (by omega) (xup_s _ _ _) | exact xup_o (by omega) (xup_o (by omega) (by assumption)) | exact xup_o (by omega) (xup_o (by omega) (xup_s _ _ _)) | exact xup_o (by omega) (xup_o (by omega) (xup_o (by omega) (by assumption)))) (c_Cut_placeOf d hs ht hfr1 hfr hwt) (by omega) (by omega) ?_
  rintro y M' ⟨rfl, rfl⟩
  generalize plc sub pat fr = k at hk hE ⊢
  refine xp_istore_2 (pc := 5) hX d_Cut_cutAtPattern_5 (by decide) ?_
  refine xp_aload_0 (pc := 6) hX d_Cut_cutAtPattern_6 ?_
  refine xp_aload_0 (pc := 7) hX d_Cut_cutAtPattern_7 ?_
  refine xg_get (pc := 8) hX (j := 1) k_Cut d_Cut_cutAtPattern_8 l_Cut_20 (by decide) (by first | assumption | exact xup_s _ _ _ | exact xup_o (by omega) (by assumption) | exact xup_o (by omega) (xup_s _ _ _) | exact xup_o (by omega) (xup_o (by omega) (by assumption)) | exact xup_o (by omega) (xup_o (by omega) (xup_s _ _ _)) | exact xup_o (by omega) (xup_o (by omega) (xup_o (by omega) (by assumption)))) (by rfl) ?_
  refine xg_put (pc := 11) hX (j := 5) k_Cut d_Cut_cutAtPattern_11 l_Cut_27 (by decide) rfl (by first | assumption | exact xup_s _ _ _ | exact xup_o (by omega) (by assumption) | exact xup_o (by omega) (xup_s _ _ _) | exact xup_o (by omega) (xup_o (by omega) (by assumption)) | exact xup_o (by omega) (xup_o (by omega) (xup_s _ _ _)) | exact xup_o (by omega) (xup_o (by omega) (xup_o (by omega) (by assumption)))) (Nat.le_of_ble_eq_true rfl) rfl rfl (by simp only [List.set_cons_zero, List.set_cons_succ]; exact rfl) ?_
  refine xp_aload_0 (pc := 14) hX d_Cut_cutAtPattern_14 ?_
  refine xp_iload_2 (pc := 15) hX d_Cut_cutAtPattern_15 ?_
  refine xg_put (pc := 16) hX (j := 6) k_Cut d_Cut_cutAtPattern_16 l_Cut_30 (by decide) rfl (by first | assumption | exact xup_s _ _ _ | exact xup_o (by omega) (by assumption) | exact xup_o (by omega) (xup_s _ _ _) | exact xup_o (by omega) (xup_o (by omega) (by assumption)) | exact xup_o (by omega) (xup_o (by omega) (xup_s _ _ _)) | exact xup_o (by omega) (xup_o (by omega) (xup_o (by omega) (by assumption)))) (Nat.le_of_ble_eq_true rfl) rfl rfl (by simp only [List.set_cons_zero, List.set_cons_succ]; exact rfl) ?_
  refine xp_aload_0 (pc := 19) hX d_Cut_cutAtPattern_19 ?_
  refine xp_iload_2 (pc := 20) hX d_Cut_cutAtPattern_20 ?_
  refine xg_put (pc := 21) hX (j := 2) k_Cut d_Cut_cutAtPattern_21 l_Cut_24 (by decide) rfl (by first | assumption | exact xup_s _ _ _ | exact xup_o (by omega) (by assumption) | exact xup_o (by omega) (xup_s _ _ _) | exact xup_o (by omega) (xup_o (by omega) (by assumption)) | exact xup_o (by omega) (xup_o (by omega) (xup_s _ _ _)) | exact xup_o (by omega) (xup_o (by omega) (xup_o (by omega) (by assumption)))) (Nat.le_of_ble_eq_true rfl) rfl rfl (by simp only [List.set_cons_zero, List.set_cons_succ]; exact rfl) ?_
  refine xp_aload_0 (pc := 24) hX d_Cut_cutAtPattern_24 ?_
  refine xp_iload_2 (pc := 25) hX d_Cut_cutAtPattern_25 ?_
  refine xp_aload_1 (pc := 26) hX d_Cut_cutAtPattern_26 ?_
  refine xg_get (pc := 27) hX (j := 1) k_Row d_Cut_cutAtPattern_27 l_Cut_42 (by decide) (by first | assumption | exact xup_s _ _ _ | exact xup_o (by omega) (by assumption) | exact xup_o (by omega) (xup_s _ _ _) | exact xup_o (by omega) (xup_o (by omega) (by assumption)) | exact xup_o (by omega) (xup_o (by omega) (xup_s _ _ _)) | exact xup_o (by omega) (xup_o (by omega) (xup_o (by omega) (by assumption)))) (by rfl) ?_
  first | refine xn_iadd (pc := 30) hX d_Cut_cutAtPattern_30 ?_ | refine xg_iadd (pc := 30) hX d_Cut_cutAtPattern_30 ?_
  refine xp_aload_0 (pc := 31) hX d_Cut_cutAtPattern_31 ?_
  refine xg_get (pc := 32) hX (j := 0) k_Cut d_Cut_cutAtPattern_32 l_Cut_14 (by decide) (by first | assumption | exact xup_s _ _ _ | exact xup_o (by omega) (by assumption) | exact xup_o (by omega) (xup_s _ _ _) | exact xup_o (by omega) (xup_o (by omega) (by assumption)) | exact xup_o (by omega) (xup_o (by omega) (xup_s _ _ _)) | exact xup_o (by omega) (xup_o (by omega) (xup_o (by omega) (by assumption)))) (by rfl) ?_
  refine xg_get (pc := 35) hX (j := 1) k_Row d_Cut_cutAtPattern_35 l_Cut_42 (by decide) (by first | assumption | exact xup_s _ _ _ | exact xup_o (by omega) (by assumption) | exact xup_o (by omega) (xup_s _ _ _) | exact xup_o (by omega) (xup_o (by omega) (by assumption)) | exact xup_o (by omega) (xup_o (by omega) (xup_s _ _ _)) | exact xup_o (by omega) (xup_o (by omega) (xup_o (by omega) (by assumption)))) (by rfl) ?_
  refine xg_iconst (pc := 38) hX (nI 1) d_Cut_cutAtPattern_38 ci_iconst_1 ?_
  first | refine xn_iadd (pc := 39) hX d_Cut_cutAtPattern_39 ?_ | refine xg_iadd (pc := 39) hX d_Cut_cutAtPattern_39 ?_
  refine xg_min (pc := 40) hX d_Cut_cutAtPattern_40 l_Cut_56 wj_minS wj_mathI wj_minC (by show 1 ≤ d + 3; omega) (by show _ ≤ 40 * (d + 3); simp [Value.category]; omega) (Nat.zero_le _) (Nat.zero_le _) ?_
  have e1 : (if nI (sub.length + 1) < nI (k + pat.length) then nI (sub.length + 1) else nI (k + pat.length)) = nI (min (k + pat.length) (sub.length + 1)) := by
    by_cases z : sub.length + 1 < k + pat.length
    · rw [if_pos ((nI_ltI (by omega) (by omega)).mpr z), Nat.min_eq_right (by omega)]
    · rw [if_neg (fun w => z ((nI_ltI (by omega) (by omega)).mp w)), Nat.min_eq_left (by omega)]
  rw [e1]
  refine xg_put (pc := 43) hX (j := 1) k_Cut d_Cut_cutAtPattern_43 l_Cut_20 (by decide) rfl (by first | assumption | exact xup_s _ _ _ | exact xup_o (by omega) (by assumption) | exact xup_o (by omega) (xup_s _ _ _) | exact xup_o (by omega) (xup_o (by omega) (by assumption)) | exact xup_o (by omega) (xup_o (by omega) (xup_s _ _ _)) | exact xup_o (by omega) (xup_o (by omega) (xup_o (by omega) (by assumption)))) (Nat.le_of_ble_eq_true rfl) rfl rfl (by simp only [List.set_cons_zero, List.set_cons_succ]; exact rfl) ?_
  refine xg_vret (pc := 46) hX hE d_Cut_cutAtPattern_46 rfl (by omega) (by omega) ?_
  exact ⟨rfl, rfl, (((hs.put (pf' := fr) (pt' := pt)).put (pt' := k) (bg' := bg)).put (bg' := k) (fr' := fr)).put, (((Fr1.up _ _ _).tr (Fr1.up _ _ _)).tr (Fr1.up _ _ _)).tr (Fr1.up _ _ _)⟩
set_option maxHeartbeats 4000000 in
set_option maxRecDepth 100000 in
theorem c_Cut_take (d : Nat) {M : xH} {sz h fr bg sf st pf pt t wt : Nat} {sub src : List UInt8} {cp : Bool} (hs : CuA M h sub fr bg sf st pf pt) (ht : RowAt M t wt src) (htd : t + 1 < h ∨ h + 3 ≤ t) (hl : src.length ≤ 200) (hwt : wt < 1000000) : xC (d + 2) 0 0 Y_Cut_take [.ref h, .ref t, .int (bI cp)] M sz (qv sz (fun M' => CuA M' h (if cp then src.map cap else src) fr bg sf st pf pt ∧ FrR M M' h (h + 3))) := by
  refine xC_of (by decide) (Nat.le_of_ble_eq_true rfl) (by simp [Value.category]) (vs := [some (.ref h), some (.ref t), some (.int (bI cp))]) rfl (fun K hX hE => ?_)
  obtain ⟨h1, h2⟩ := id hs
  obtain ⟨r1, r2, -⟩ := id h2
  refine xp_aload_0 (pc := 0) hX d_Cut_take_0 ?_
  refine xg_get (pc := 1) hX (j := 0) k_Cut d_Cut_take_1 l_Cut_14 (by decide) (by first | assumption | exact xup_s _ _ _ | exact xup_o (by omega) (by assumption) | exact xup_o (by omega) (xup_s _ _ _) | exact xup_o (by omega) (xup_o (by omega) (by assumption)) | exact xup_o (by omega) (xup_o (by omega) (xup_s _ _ _)) | exact xup_o (by omega) (xup_o (by omega) (xup_o (by omega) (by assumption)))) (by rfl) ?_
  refine xv_V (Y2 := Y_Row_clear) (pc := 4) hX [] k_Row m_Row_clear d_Cut_take_4 l_Cut_39 rfl rfl (by simp [Value.category]) (by first | assumption | exact xup_s _ _ _ | exact xup_o (by omega) (by assumption) | exact xup_o (by omega) (xup_s _ _ _) | exact xup_o (by omega) (xup_o (by omega) (by assumption)) | exact xup_o (by omega) (xup_o (by omega) (xup_s _ _ _)) | exact xup_o (by omega) (xup_o (by omega) (xup_o (by omega) (by assumption)))) (c_Row_clear (d + 1) h2) (by omega) (by omega) ?_
  rintro M1 ⟨a1, a2⟩
  have h1' := (a2 h (by omega) (by omega)).trans h1
  have ht' : RowAt M1 t wt src := ht.kept (a2 _ (by omega) (by omega)) (a2 _ (by omega) (by omega))
  obtain ⟨t1, t2, -⟩ := id ht'
  obtain ⟨r1', -⟩ := id a1
  refine xp_iload_2 (pc := 7) hX d_Cut_take_7 ?_
  refine xg_if_eq (pc := 8) hX 28 d_Cut_take_8 (by decide) (fun q => ?_) (fun q => ?_)
  · rw [bI_eq0.mp q] at hE
    refine xp_aload_0 (pc := 28) hX d_Cut_take_28 ?_
    refine xg_get (pc := 29) hX (j := 0) k_Cut d_Cut_take_29 l_Cut_14 (by decide) (by first | assumption | exact xup_s _ _ _ | exact xup_o (by omega) (by assumption) | exact xup_o (by omega) (xup_s _ _ _) | exact xup_o (by omega) (xup_o (by omega) (by assumption)) | exact xup_o (by omega) (xup_o (by omega) (xup_s _ _ _)) | exact xup_o (by omega) (xup_o (by omega) (xup_o (by omega) (by assumption)))) (by rfl) ?_
    refine xp_aload_1 (pc := 32) hX d_Cut_take_32 ?_
    refine xg_iconst (pc := 33) hX (nI 0) d_Cut_take_33 ci_iconst_0 ?_
    refine xp_aload_1 (pc := 34) hX d_Cut_take_34 ?_
    refine xg_get (pc := 35) hX (j := 1) k_Row d_Cut_take_35 l_Cut_42 (by decide) (by first | assumption | exact xup_s _ _ _ | exact xup_o (by omega) (by assumption) | exact xup_o (by omega) (xup_s _ _ _) | exact xup_o (by omega) (xup_o (by omega) (by assumption)) | exact xup_o (by omega) (xup_o (by omega) (xup_s _ _ _)) | exact xup_o (by omega) (xup_o (by omega) (xup_o (by omega) (by assumption)))) (by rfl) ?_
    refine xi_V (Y2 := Y_Row_addPart) (pc := 38) hX [_, _, _] k_Row m_Row_addPart d_Cut_take_38 l_Cut_49 rfl rfl (by simp [Value.category]) (by first | assumption | exact xup_s _ _ _ | exact xup_o (by omega) (by assumption) | exact xup_o (by omega) (xup_s _ _ _) | exact xup_o (by omega) (xup_o (by omega) (by assumption)) | exact xup_o (by omega) (xup_o (by omega) (xup_s _ _ _)) | exact xup_o (by omega) (xup_o (by omega) (xup_o (by omega) (by assumption)))) (c_Row_addPart d (a := 0) (b := src.length) a1 ht' (by omega) (Nat.zero_le _) (Nat.le_refl _) (by omega) (by omega)) (by omega) (by omega) ?_
    intro y M2 z
    rcases z with ⟨-, -, b1, b2⟩ | ⟨z, -, -⟩
    · refine xg_pop (pc := 41) hX d_Cut_take_41 rfl ?_
      refine xg_vret (pc := 42) hX hE d_Cut_take_42 rfl (by omega) (by omega) ?_
      rw [sl_all] at b1
      refine ⟨rfl, rfl, ⟨by rw [b2 h (by omega) (by omega)]; exact h1', b1⟩, fun q hq => (b2 q (by omega) (by omega)).trans (a2 q (by omega) (by omega))⟩
    · simp at z
      omega
  · rw [bI_ne0.mp q] at hE
    refine xp_aload_0 (pc := 11) hX d_Cut_take_11 ?_
    refine xg_get (pc := 12) hX (j := 0) k_Cut d_Cut_take_12 l_Cut_14 (by decide) (by first | assumption | exact xup_s _ _ _ | exact xup_o (by omega) (by assumption) | exact xup_o (by omega) (xup_s _ _ _) | exact xup_o (by omega) (xup_o (by omega) (by assumption)) | exact xup_o (by omega) (xup_o (by omega) (xup_s _ _ _)) | exact xup_o (by omega) (xup_o (by omega) (xup_o (by omega) (by assumption)))) (by rfl) ?_
    refine xp_aload_1 (pc := 15) hX d_Cut_take_15 ?_
    refine xg_iconst (pc := 16) hX (nI 0) d_Cut_take_16 ci_iconst_0 ?_
    refine xp_aload_1 (pc := 17) hX d_Cut_take_17 ?_
    refine xg_get (pc := 18) hX (j := 1) k_Row d_Cut_take_18 l_Cut_42 (by decide) (by first | assumption | exact xup_s _ _ _ | exact xup_o (by omega) (by assumption) | exact xup_o (by omega) (xup_s _ _ _) | exact xup_o (by omega) (xup_o (by omega) (by assumption)) | exact xup_o (by omega) (xup_o (by omega) (xup_s _ _ _)) | exact xup_o (by omega) (xup_o (by omega) (xup_o (by omega) (by assumption)))) (by rfl) ?_
    refine xi_V (Y2 := Y_Row_addCapitals) (pc := 21) hX [_, _, _] k_Row m_Row_addCapitals d_Cut_take_21 l_Cut_45 rfl rfl (by simp [Value.category]) (by first | assumption | exact xup_s _ _ _ | exact xup_o (by omega) (by assumption) | exact xup_o (by omega) (xup_s _ _ _) | exact xup_o (by omega) (xup_o (by omega) (by assumption)) | exact xup_o (by omega) (xup_o (by omega) (xup_s _ _ _)) | exact xup_o (by omega) (xup_o (by omega) (xup_o (by omega) (by assumption)))) (c_Row_addCapitals d (a := 0) (b := src.length) a1 ht' (by omega) (Nat.zero_le _) (Nat.le_refl _) (by simp; omega) (by omega) (by omega)) (by omega) (by omega) ?_
    rintro y M2 ⟨-, b1, b2⟩
    refine xg_pop (pc := 24) hX d_Cut_take_24 rfl ?_
    refine xg_goto (pc := 25) hX 42 d_Cut_take_25 (by decide) ?_
    refine xg_vret (pc := 42) hX hE d_Cut_take_42 rfl (by omega) (by omega) ?_
    rw [sl_all] at b1
    refine ⟨rfl, rfl, ⟨by rw [b2 h (by omega) (by omega)]; exact h1', b1⟩, fun q hq => (b2 q (by omega) (by omega)).trans (a2 q (by omega) (by omega))⟩
set_option maxHeartbeats 4000000 in
set_option maxRecDepth 100000 in
theorem c_Cut_takeWord (d : Nat) {M : xH} {sz h fr bg sf st pf pt : Nat} {sub : List UInt8} (hs : CuA M h sub fr bg sf st pf pt) (hp1 : 1 ≤ pf) (hp2 : pf ≤ pt) (hp3 : pt ≤ sub.length + 1) : xC (d + 1) 0 0 Y_Cut_takeWord [.ref h] M sz (qv sz (fun M' => (∃ s e, s = sc bl sub (pf - 1) (pt - 1) + 1 ∧ e = sc nbl sub (s - 1) (pt - 1) + 1 ∧ CuA M' h sub fr bg s e (min (e + 1) pt) pt) ∧ Fr1 M M' h)) := by
  refine xC_of (by decide) (Nat.le_of_ble_eq_true rfl) (by simp [Value.category]) (vs := [some (.ref h)]) rfl (fun K hX hE => ?_)
  have hlen : sub.length ≤ 200 := hs.2.2.1
  have k92 : ∀ (M1 : xH) (s e : Nat), s = sc bl sub (pf - 1) (pt - 1) + 1 → e = sc nbl sub (s - 1) (pt - 1) + 1 → e ≤ pt → CuA M1 h sub fr bg s st e pt → Fr1 M M1 h → xG K 92 [some (.ref h)] [] M1 sz 0 0 := by
    intro M1 s e hs1 he1 hle hs2 hf
    obtain ⟨h1, h2⟩ := id hs2
    refine xp_aload_0 (pc := 92) hX d_Cut_takeWord_92 ?_
    refine xp_aload_0 (pc := 93) hX d_Cut_takeWord_93 ?_
    refine xg_get (pc := 94) hX (j := 5) k_Cut d_Cut_takeWord_94 l_Cut_27 (by decide) (by first | assumption | exact xup_s _ _ _ | exact xup_o (by omega) (by assumption) | exact xup_o (by omega) (xup_s _ _ _) | exact xup_o (by omega) (xup_o (by omega) (by assumption)) | exact xup_o (by omega) (xup_o (by omega) (xup_s _ _ _)) | exact xup_o (by omega) (xup_o (by omega) (xup_o (by omega) (by assumption)))) (by rfl) ?_
    refine xg_put (pc := 97) hX (j := 4) k_Cut d_Cut_takeWord_97 l_Cut_36 (by decide) rfl (by first | assumption | exact xup_s _ _ _ | exact xup_o (by omega) (by assumption) | exact xup_o (by omega) (xup_s _ _ _) | exact xup_o (by omega) (xup_o (by omega) (by assumption)) | exact xup_o (by omega) (xup_o (by omega) (xup_s _ _ _)) | exact xup_o (by omega) (xup_o (by omega) (xup_o (by omega) (by assumption)))) (Nat.le_of_ble_eq_true rfl) rfl rfl (by simp only [List.set_cons_zero, List.set_cons_succ]; exact rfl) ?_
    refine xp_aload_0 (pc := 100) hX d_Cut_takeWord_100 ?_
    refine xp_aload_0 (pc := 101) hX d_Cut_takeWord_101 ?_
    refine xg_get (pc := 102) hX (j := 5) k_Cut d_Cut_takeWord_102 l_Cut_27 (by decide) (by first | assumption | exact xup_s _ _ _ | exact xup_o (by omega) (by assumption) | exact xup_o (by omega) (xup_s _ _ _) | exact xup_o (by omega) (xup_o (by omega) (by assumption)) | exact xup_o (by omega) (xup_o (by omega) (xup_s _ _ _)) | exact xup_o (by omega) (xup_o (by omega) (xup_o (by omega) (by assumption)))) (by rfl) ?_
    refine xg_iconst (pc := 105) hX (nI 1) d_Cut_takeWord_105 ci_iconst_1 ?_
    first | refine xn_iadd (pc := 106) hX d_Cut_takeWord_106 ?_ | refine xg_iadd (pc := 106) hX d_Cut_takeWord_106 ?_
    refine xp_aload_0 (pc := 107) hX d_Cut_takeWord_107 ?_
    refine xg_get (pc := 108) hX (j := 6) k_Cut d_Cut_takeWord_108 l_Cut_30 (by decide) (by first | assumption | exact xup_s _ _ _ | exact xup_o (by omega) (by assumption) | exact xup_o (by omega) (xup_s _ _ _) | exact xup_o (by omega) (xup_o (by omega) (by assumption)) | exact xup_o (by omega) (xup_o (by omega) (xup_s _ _ _)) | exact xup_o (by omega) (xup_o (by omega) (xup_o (by omega) (by assumption)))) (by rfl) ?_
    refine xg_min (pc := 111) hX d_Cut_takeWord_111 l_Cut_56 wj_minS wj_mathI wj_minC (by show 1 ≤ d + 1; omega) (by show _ ≤ 40 * (d + 1); simp [Value.category]; omega) (Nat.zero_le _) (Nat.zero_le _) ?_
    have e1 : (if nI pt < nI (e + 1) then nI pt else nI (e + 1)) = nI (min (e + 1) pt) := by
      by_cases z : pt < e + 1
      · rw [if_pos ((nI_ltI (by omega) (by omega)).mpr z), Nat.min_eq_right (by omega)]
      · rw [if_neg (fun w => z ((nI_ltI (by omega) (by omega)).mp w)), Nat.min_eq_left (by omega)]
    rw [e1]
    refine xg_put (pc := 114) hX (j := 5) k_Cut d_Cut_takeWord_114 l_Cut_27 (by decide) rfl (by first | assumption | exact xup_s _ _ _ | exact xup_o (by omega) (by assumption) | exact xup_o (by omega) (xup_s _ _ _) | exact xup_o (by omega) (xup_o (by omega) (by assumption)) | exact xup_o (by omega) (xup_o (by omega) (xup_s _ _ _)) | exact xup_o (by omega) (xup_o (by omega) (xup_o (by omega) (by assumption)))) (Nat.le_of_ble_eq_true rfl) rfl rfl (by simp only [List.set_cons_zero, List.set_cons_succ]; exact rfl) ?_
    refine xg_vret (pc := 117) hX hE d_Cut_takeWord_117 rfl (by omega) (by omega) ?_
    exact ⟨rfl, rfl, ⟨s, e, hs1, he1, (hs2.put (st' := e) (pf' := e)).put⟩, hf.tr ((Fr1.up _ _ _).tr (Fr1.up _ _ _))⟩
  have k50 : ∀ (m i : Nat) (M1 : xH) (s : Nat), i + m = pt → s ≤ i → 1 ≤ s → s = sc bl sub (pf - 1) (pt - 1) + 1 → sc nbl sub (s - 1) (pt - 1) = sc nbl sub (i - 1) (pt - 1) → CuA M1 h sub fr bg s st i pt → Fr1 M M1 h → xG K 50 [some (.ref h)] [] M1 sz 0 0 := by
    intro m
    induction m with
    | zero =>
      intro i M1 s hi hsi hs1 hss hsc hs2 hf
      obtain ⟨h1, h2⟩ := id hs2
      refine xp_aload_0 (pc := 50) hX d_Cut_takeWord_50 ?_
      refine xg_get (pc := 51) hX (j := 5) k_Cut d_Cut_takeWord_51 l_Cut_27 (by decide) (by first | assumption | exact xup_s _ _ _ | exact xup_o (by omega) (by assumption) | exact xup_o (by omega) (xup_s _ _ _) | exact xup_o (by omega) (xup_o (by omega) (by assumption)) | exact xup_o (by omega) (xup_o (by omega) (xup_s _ _ _)) | exact xup_o (by omega) (xup_o (by omega) (xup_o (by omega) (by assumption)))) (by rfl) ?_
      refine xp_aload_0 (pc := 54) hX d_Cut_takeWord_54 ?_
      refine xg_get (pc := 55) hX (j := 6) k_Cut d_Cut_takeWord_55 l_Cut_30 (by decide) (by first | assumption | exact xup_s _ _ _ | exact xup_o (by omega) (by assumption) | exact xup_o (by omega) (xup_s _ _ _) | exact xup_o (by omega) (xup_o (by omega) (by assumption)) | exact xup_o (by omega) (xup_o (by omega) (xup_s _ _ _)) | exact xup_o (by omega) (xup_o (by omega) (xup_o (by omega) (by assumption)))) (by rfl) ?_
      refine xn_icmp_ge (pc := 58) hX 92 d_Cut_takeWord_58 (by decide) (by omega) (by omega) (fun _ => ?_) (fun z => absurd z (by omega))
      refine k92 M1 s i hss ?_ (by omega) hs2 hf
      rw [hsc, show i = pt by omega, sc_end]; omega
    | succ m ih =>
      intro i M1 s hi hsi hs1 hss hsc hs2 hf
      obtain ⟨h1, h2⟩ := id hs2
      obtain ⟨r1, -⟩ := id h2
      have hlt : i - 1 < sub.length := by omega
      refine xp_aload_0 (pc := 50) hX d_Cut_takeWord_50 ?_
      refine xg_get (pc := 51) hX (j := 5) k_Cut d_Cut_takeWord_51 l_Cut_27 (by decide) (by first | assumption | exact xup_s _ _ _ | exact xup_o (by omega) (by assumption) | exact xup_o (by omega) (xup_s _ _ _) | exact xup_o (by omega) (xup_o (by omega) (by assumption)) | exact xup_o (by omega) (xup_o (by omega) (xup_s _ _ _)) | exact xup_o (by omega) (xup_o (by omega) (xup_o (by omega) (by assumption)))) (by rfl) ?_
      refine xp_aload_0 (pc := 54) hX d_Cut_takeWord_54 ?_
      refine xg_get (pc := 55) hX (j := 6) k_Cut d_Cut_takeWord_55 l_Cut_30 (by decide) (by first | assumption | exact xup_s _ _ _ | exact xup_o (by omega) (by assumption) | exact xup_o (by omega) (xup_s _ _ _) | exact xup_o (by omega) (xup_o (by omega) (by assumption)) | exact xup_o (by omega) (xup_o (by omega) (xup_s _ _ _)) | exact xup_o (by omega) (xup_o (by omega) (xup_o (by omega) (by assumption)))) (by rfl) ?_
      refine xn_icmp_ge (pc := 58) hX 92 d_Cut_takeWord_58 (by decide) (by omega) (by omega) (fun z => absurd z (by omega)) (fun _ => ?_)
      refine xp_aload_0 (pc := 61) hX d_Cut_takeWord_61 ?_
      refine xg_get (pc := 62) hX (j := 0) k_Cut d_Cut_takeWord_62 l_Cut_14 (by decide) (by first | assumption | exact xup_s _ _ _ | exact xup_o (by omega) (by assumption) | exact xup_o (by omega) (xup_s _ _ _) | exact xup_o (by omega) (xup_o (by omega) (by assumption)) | exact xup_o (by omega) (xup_o (by omega) (xup_s _ _ _)) | exact xup_o (by omega) (xup_o (by omega) (xup_o (by omega) (by assumption)))) (by rfl) ?_
      refine xp_aload_0 (pc := 65) hX d_Cut_takeWord_65 ?_
      refine xg_get (pc := 66) hX (j := 5) k_Cut d_Cut_takeWord_66 l_Cut_27 (by decide) (by first | assumption | exact xup_s _ _ _ | exact xup_o (by omega) (by assumption) | exact xup_o (by omega) (xup_s _ _ _) | exact xup_o (by omega) (xup_o (by omega) (by assumption)) | exact xup_o (by omega) (xup_o (by omega) (xup_s _ _ _)) | exact xup_o (by omega) (xup_o (by omega) (xup_o (by omega) (by assumption)))) (by rfl) ?_
      refine xg_iconst (pc := 69) hX (nI 1) d_Cut_takeWord_69 ci_iconst_1 ?_
      first | refine xn_isub (pc := 70) hX d_Cut_takeWord_70 (by omega) ?_ | refine xg_isub (pc := 70) hX d_Cut_takeWord_70 ?_
      refine xi_V (Y2 := Y_Row_at) (pc := 71) hX [_] k_Row m_Row_at d_Cut_takeWord_71 l_Cut_69 rfl rfl (by simp [Value.category]) (by first | assumption | exact xup_s _ _ _ | exact xup_o (by omega) (by assumption) | exact xup_o (by omega) (xup_s _ _ _) | exact xup_o (by omega) (xup_o (by omega) (by assumption)) | exact xup_o (by omega) (xup_o (by omega) (xup_s _ _ _)) | exact xup_o (by omega) (xup_o (by omega) (xup_o (by omega) (by assumption)))) (c_Row_at d (nI (i - 1)) h2 (by omega)) (by omega) (by omega) ?_
      rintro y M' ⟨rfl, rfl⟩
      rw [rAt_nI (by omega), List.getElem?_eq_getElem hlt]
      refine xg_bipush (pc := 74) hX (nI 32) d_Cut_takeWord_74 ci_bipush_32 ?_
      refine xg_icmp_eq (pc := 76) hX 92 d_Cut_takeWord_76 (by decide) (fun z => ?_) (fun z => ?_)
      · have z := (oI_eq (by decide)).mp z
        refine k92 M' s i hss ?_ (by omega) hs2 hf
        rw [hsc, sc_hit (by omega) (by omega) (by
          have := Option.some.inj z
          simp [nbl, this])]
        omega
      · have z : sub[i - 1] ≠ 32 := fun w => z ((oI_eq (by decide)).mpr (by rw [w]; rfl))
        refine xp_aload_0 (pc := 79) hX d_Cut_takeWord_79 ?_
        refine xg_dup (pc := 80) hX d_Cut_takeWord_80 rfl ?_
        refine xg_get (pc := 81) hX (j := 5) k_Cut d_Cut_takeWord_81 l_Cut_27 (by decide) (by first | assumption | exact xup_s _ _ _ | exact xup_o (by omega) (by assumption) | exact xup_o (by omega) (xup_s _ _ _) | exact xup_o (by omega) (xup_o (by omega) (by assumption)) | exact xup_o (by omega) (xup_o (by omega) (xup_s _ _ _)) | exact xup_o (by omega) (xup_o (by omega) (xup_o (by omega) (by assumption)))) (by rfl) ?_
        refine xg_iconst (pc := 84) hX (nI 1) d_Cut_takeWord_84 ci_iconst_1 ?_
        first | refine xn_iadd (pc := 85) hX d_Cut_takeWord_85 ?_ | refine xg_iadd (pc := 85) hX d_Cut_takeWord_85 ?_
        refine xg_put (pc := 86) hX (j := 5) k_Cut d_Cut_takeWord_86 l_Cut_27 (by decide) rfl (by first | assumption | exact xup_s _ _ _ | exact xup_o (by omega) (by assumption) | exact xup_o (by omega) (xup_s _ _ _) | exact xup_o (by omega) (xup_o (by omega) (by assumption)) | exact xup_o (by omega) (xup_o (by omega) (xup_s _ _ _)) | exact xup_o (by omega) (xup_o (by omega) (xup_o (by omega) (by assumption)))) (Nat.le_of_ble_eq_true rfl) rfl rfl (by simp only [List.set_cons_zero, List.set_cons_succ]; exact rfl) ?_
        refine xg_goto (pc := 89) hX 50 d_Cut_takeWord_89 (by decide) ?_
        refine ih (i + 1) _ s (by omega) (by omega) hs1 hss ?_ hs2.put (hf.tr (Fr1.up _ _ _))
        rw [hsc, sc_miss (by omega) (by omega) (by simp [nbl, z]), show i - 1 + 1 = i + 1 - 1 by omega]
  have k42 : ∀ (M1 : xH) (i : Nat), 1 ≤ i → i ≤ pt → i = sc bl sub (pf - 1) (pt - 1) + 1 → CuA M1 h sub fr bg sf st i pt → Fr1 M M1 h → xG K 42 [some (.ref h)] [] M1 sz 0 0 := by
    intro M1 i hi1 hi2 hss hs2 hf
    obtain ⟨h1, h2⟩ := id hs2
    refine xp_aload_0 (pc := 42) hX d_Cut_takeWord_42 ?_
    refine xp_aload_0 (pc := 43) hX d_Cut_takeWord_43 ?_
    refine xg_get (pc := 44) hX (j := 5) k_Cut d_Cut_takeWord_44 l_Cut_27 (by decide) (by first | assumption | exact xup_s _ _ _ | exact xup_o (by omega) (by assumption) | exact xup_o (by omega) (xup_s _ _ _) | exact xup_o (by omega) (xup_o (by omega) (by assumption)) | exact xup_o (by omega) (xup_o (by omega) (xup_s _ _ _)) | exact xup_o (by omega) (xup_o (by omega) (xup_o (by omega) (by assumption)))) (by rfl) ?_
    refine xg_put (pc := 47) hX (j := 3) k_Cut d_Cut_takeWord_47 l_Cut_33 (by decide) rfl (by first | assumption | exact xup_s _ _ _ | exact xup_o (by omega) (by assumption) | exact xup_o (by omega) (xup_s _ _ _) | exact xup_o (by omega) (xup_o (by omega) (by assumption)) | exact xup_o (by omega) (xup_o (by omega) (xup_s _ _ _)) | exact xup_o (by omega) (xup_o (by omega) (xup_o (by omega) (by assumption)))) (Nat.le_of_ble_eq_true rfl) rfl rfl (by simp only [List.set_cons_zero, List.set_cons_succ]; exact rfl) ?_
    exact k50 (pt - i) i _ i (by omega) (Nat.le_refl _) hi1 hss rfl hs2.put (hf.tr (Fr1.up _ _ _))
  have k0 : ∀ (m i : Nat) (M1 : xH), i + m = pt → 1 ≤ i → sc bl sub (pf - 1) (pt - 1) = sc bl sub (i - 1) (pt - 1) → CuA M1 h sub fr bg sf st i pt → Fr1 M M1 h → xG K 0 [some (.ref h)] [] M1 sz 0 0 := by
    intro m
    induction m with
    | zero =>
      intro i M1 hi hi1 hsc hs2 hf
      obtain ⟨h1, h2⟩ := id hs2
      refine xp_aload_0 (pc := 0) hX d_Cut_takeWord_0 ?_
      refine xg_get (pc := 1) hX (j := 5) k_Cut d_Cut_takeWord_1 l_Cut_27 (by decide) (by first | assumption | exact xup_s _ _ _ | exact xup_o (by omega) (by assumption) | exact xup_o (by omega) (xup_s _ _ _) | exact xup_o (by omega) (xup_o (by omega) (by assumption)) | exact xup_o (by omega) (xup_o (by omega) (xup_s _ _ _)) | exact xup_o (by omega) (xup_o (by omega) (xup_o (by omega) (by assumption)))) (by rfl) ?_
      refine xp_aload_0 (pc := 4) hX d_Cut_takeWord_4 ?_
      refine xg_get (pc := 5) hX (j := 6) k_Cut d_Cut_takeWord_5 l_Cut_30 (by decide) (by first | assumption | exact xup_s _ _ _ | exact xup_o (by omega) (by assumption) | exact xup_o (by omega) (xup_s _ _ _) | exact xup_o (by omega) (xup_o (by omega) (by assumption)) | exact xup_o (by omega) (xup_o (by omega) (xup_s _ _ _)) | exact xup_o (by omega) (xup_o (by omega) (xup_o (by omega) (by assumption)))) (by rfl) ?_
      refine xn_icmp_ge (pc := 8) hX 42 d_Cut_takeWord_8 (by decide) (by omega) (by omega) (fun _ => ?_) (fun z => absurd z (by omega))
      refine k42 M1 i hi1 (by omega) ?_ hs2 hf
      rw [hsc, show i = pt by omega, sc_end]; omega
    | succ m ih =>
      intro i M1 hi hi1 hsc hs2 hf
      obtain ⟨h1, h2⟩ := id hs2
      obtain ⟨r1, -⟩ := id h2
      have hlt : i - 1 < sub.length := by omega
      refine xp_aload_0 (pc := 0) hX d_Cut_takeWord_0 ?_
      refine xg_get (pc := 1) hX (j := 5) k_Cut d_Cut_takeWord_1 l_Cut_27 (by decide) (by first | assumption | exact xup_s _ _ _ | exact xup_o (by omega) (by assumption) | exact xup_o (by omega) (xup_s _ _ _) | exact xup_o (by omega) (xup_o (by omega) (by assumption)) | exact xup_o (by omega) (xup_o (by omega) (xup_s _ _ _)) | exact xup_o (by omega) (xup_o (by omega) (xup_o (by omega) (by assumption)))) (by rfl) ?_
      refine xp_aload_0 (pc := 4) hX d_Cut_takeWord_4 ?_
      refine xg_get (pc := 5) hX (j := 6) k_Cut d_Cut_takeWord_5 l_Cut_30 (by decide) (by first | assumption | exact xup_s _ _ _ | exact xup_o (by omega) (by assumption) | exact xup_o (by omega) (xup_s _ _ _) | exact xup_o (by omega) (xup_o (by omega) (by assumption)) | exact xup_o (by omega) (xup_o (by omega) (xup_s _ _ _)) | exact xup_o (by omega) (xup_o (by omega) (xup_o (by omega) (by assumption)))) (by rfl) ?_
      refine xn_icmp_ge (pc := 8) hX 42 d_Cut_takeWord_8 (by decide) (by omega) (by omega) (fun z => absurd z (by omega)) (fun _ => ?_)
      refine xp_aload_0 (pc := 11) hX d_Cut_takeWord_11 ?_
      refine xg_get (pc := 12) hX (j := 0) k_Cut d_Cut_takeWord_12 l_Cut_14 (by decide) (by first | assumption | exact xup_s _ _ _ | exact xup_o (by omega) (by assumption) | exact xup_o (by omega) (xup_s _ _ _) | exact xup_o (by omega) (xup_o (by omega) (by assumption)) | exact xup_o (by omega) (xup_o (by omega) (xup_s _ _ _)) | exact xup_o (by omega) (xup_o (by omega) (xup_o (by omega) (by assumption)))) (by rfl) ?_
      refine xp_aload_0 (pc := 15) hX d_Cut_takeWord_15 ?_
      refine xg_get (pc := 16) hX (j := 5) k_Cut d_Cut_takeWord_16 l_Cut_27 (by decide) (by first | assumption | exact xup_s _ _ _ | exact xup_o (by omega) (by assumption) | exact xup_o (by omega) (xup_s _ _ _) | exact xup_o (by omega) (xup_o (by omega) (by assumption)) | exact xup_o (by omega) (xup_o (by omega) (xup_s _ _ _)) | exact xup_o (by omega) (xup_o (by omega) (xup_o (by omega) (by assumption)))) (by rfl) ?_
      refine xg_iconst (pc := 19) hX (nI 1) d_Cut_takeWord_19 ci_iconst_1 ?_
      first | refine xn_isub (pc := 20) hX d_Cut_takeWord_20 (by omega) ?_ | refine xg_isub (pc := 20) hX d_Cut_takeWord_20 ?_
      refine xi_V (Y2 := Y_Row_at) (pc := 21) hX [_] k_Row m_Row_at d_Cut_takeWord_21 l_Cut_69 rfl rfl (by simp [Value.category]) (by first | assumption | exact xup_s _ _ _ | exact xup_o (by omega) (by assumption) | exact xup_o (by omega) (xup_s _ _ _) | exact xup_o (by omega) (xup_o (by omega) (by assumption)) | exact xup_o (by omega) (xup_o (by omega) (xup_s _ _ _)) | exact xup_o (by omega) (xup_o (by omega) (xup_o (by omega) (by assumption)))) (c_Row_at d (nI (i - 1)) h2 (by omega)) (by omega) (by omega) ?_
      rintro y M' ⟨rfl, rfl⟩
      rw [rAt_nI (by omega), List.getElem?_eq_getElem hlt]
      refine xg_bipush (pc := 24) hX (nI 32) d_Cut_takeWord_24 ci_bipush_32 ?_
      refine xg_icmp_ne (pc := 26) hX 42 d_Cut_takeWord_26 (by decide) (fun z => ?_) (fun z => ?_)
      · have z : sub[i - 1] ≠ 32 := fun w => z ((oI_eq (by decide)).mpr (by rw [w]; rfl))
        refine k42 M' i hi1 (by omega) ?_ hs2 hf
        rw [hsc, sc_hit (by omega) (by omega) (by simp [bl, z])]
        omega
      · have z := (oI_eq (by decide)).mp z
        refine xp_aload_0 (pc := 29) hX d_Cut_takeWord_29 ?_
        refine xg_dup (pc := 30) hX d_Cut_takeWord_30 rfl ?_
        refine xg_get (pc := 31) hX (j := 5) k_Cut d_Cut_takeWord_31 l_Cut_27 (by decide) (by first | assumption | exact xup_s _ _ _ | exact xup_o (by omega) (by assumption) | exact xup_o (by omega) (xup_s _ _ _) | exact xup_o (by omega) (xup_o (by omega) (by assumption)) | exact xup_o (by omega) (xup_o (by omega) (xup_s _ _ _)) | exact xup_o (by omega) (xup_o (by omega) (xup_o (by omega) (by assumption)))) (by rfl) ?_
        refine xg_iconst (pc := 34) hX (nI 1) d_Cut_takeWord_34 ci_iconst_1 ?_
        first | refine xn_iadd (pc := 35) hX d_Cut_takeWord_35 ?_ | refine xg_iadd (pc := 35) hX d_Cut_takeWord_35 ?_
        refine xg_put (pc := 36) hX (j := 5) k_Cut d_Cut_takeWord_36 l_Cut_27 (by decide) rfl (by first | assumption | exact xup_s _ _ _ | exact xup_o (by omega) (by assumption) | exact xup_o (by omega) (xup_s _ _ _) | exact xup_o (by omega) (xup_o (by omega) (by assumption)) | exact xup_o (by omega) (xup_o (by omega) (xup_s _ _ _)) | exact xup_o (by omega) (xup_o (by omega) (xup_o (by omega) (by assumption)))) (Nat.le_of_ble_eq_true rfl) rfl rfl (by simp only [List.set_cons_zero, List.set_cons_succ]; exact rfl) ?_
        refine xg_goto (pc := 39) hX 0 d_Cut_takeWord_39 (by decide) ?_
        refine ih (i + 1) _ (by omega) (by omega) ?_ hs2.put (hf.tr (Fr1.up _ _ _))
        rw [hsc, sc_miss (by omega) (by omega) (by
          have := Option.some.inj z
          simp [bl, this]), show i - 1 + 1 = i + 1 - 1 by omega]
  exact k0 (pt - pf) pf M (by omega) hp1 rfl hs (Fr1.rf _ _)
