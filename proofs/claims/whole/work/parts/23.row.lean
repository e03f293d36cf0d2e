/-! NameRoom$Row -/
def Fr2 (M M' : xH) (r : Nat) : Prop := ∀ q, q ≠ r → q ≠ r + 1 → M' q = M q
theorem Fr2.rf (M : xH) (r : Nat) : Fr2 M M r := fun _ _ _ => rfl
theorem Fr2.tr {M M' M'' : xH} {r : Nat} (h : Fr2 M M' r) (h' : Fr2 M' M'' r) : Fr2 M M'' r := fun q a b => (h' q a b).trans (h q a b)
set_option maxHeartbeats 4000000 in
set_option maxRecDepth 100000 in
theorem c_Row_at (d : Nat) {M : xH} {sz r w : Nat} {bs : List UInt8} (x : Int32) (hr : RowAt M r w bs) (hw : w < 2147483648) : xC d 0 0 Y_Row_at [.ref r, .int x] M sz (qi sz (fun y M' => y = oI (rAt bs x) ∧ M' = M)) := by
  refine xC_of (by decide) (Nat.le_of_ble_eq_true rfl) (by simp [Value.category]) (vs := [some (.ref r), some (.int x)]) rfl (fun K hX hE => ?_)
  obtain ⟨h1, h2, f, h3, h4⟩ := hr
  have k34 : ∀ vs, rAt bs x = none → xG K 34 vs [] M sz 0 0 := by
    intro vs hv
    refine xg_iconst (pc := 34) hX (-1) d_Row_at_34 ci_iconst_m1 ?_
    refine xg_iret (pc := 35) hX hE d_Row_at_35 rfl rfl (by omega) (by omega) ?_
    exact ⟨rfl, _, rfl, by rw [hv]; rfl, rfl⟩
  by_cases hx : x < 0
  · refine xp_iload_1 (pc := 0) hX d_Row_at_0 ?_
    refine xg_if_lt (pc := 1) hX 34 d_Row_at_1 (by decide) (fun _ => k34 _ (by unfold rAt; rw [if_pos hx])) (fun h => absurd hx h)
  · obtain ⟨i, hi, rfl⟩ := nI_of hx
    have hi : i < 2147483648 := hi
    rw [rAt_nI hi] at *
    refine xp_iload_1 (pc := 0) hX d_Row_at_0 ?_
    refine xn_if_lt (pc := 1) hX 34 d_Row_at_1 (by decide) hi ?_
    refine xp_iload_1 (pc := 4) hX d_Row_at_4 ?_
    refine xp_aload_0 (pc := 5) hX d_Row_at_5 ?_
    refine xg_get (pc := 6) hX (j := 1) k_Row d_Row_at_6 l_Row_21 (by decide) (by first | assumption | exact xup_s _ _ _ | exact xup_o (by omega) (by assumption) | exact xup_o (by omega) (xup_s _ _ _) | exact xup_o (by omega) (xup_o (by omega) (by assumption)) | exact xup_o (by omega) (xup_o (by omega) (xup_s _ _ _)) | exact xup_o (by omega) (xup_o (by omega) (xup_o (by omega) (by assumption)))) (by rfl) ?_
    first | refine xn_icmp_ge (pc := 9) hX 34 d_Row_at_9 (by decide) (by omega) (by omega) (fun h9 => ?_) (fun h9 => ?_) | refine xg_icmp_ge (pc := 9) hX 34 d_Row_at_9 (by decide) (fun h9 => ?_) (fun h9 => ?_)
    · exact k34 _ (List.getElem?_eq_none h9)
    · refine xp_iload_1 (pc := 12) hX d_Row_at_12 ?_
      refine xp_aload_0 (pc := 13) hX d_Row_at_13 ?_
      refine xg_get (pc := 14) hX (j := 0) k_Row d_Row_at_14 l_Row_15 (by decide) (by first | assumption | exact xup_s _ _ _ | exact xup_o (by omega) (by assumption) | exact xup_o (by omega) (xup_s _ _ _) | exact xup_o (by omega) (xup_o (by omega) (by assumption)) | exact xup_o (by omega) (xup_o (by omega) (xup_s _ _ _)) | exact xup_o (by omega) (xup_o (by omega) (xup_o (by omega) (by assumption)))) (by rfl) ?_
      refine xn_alen (pc := 17) hX (t := 0) d_Row_at_17 rfl (by first | assumption | exact xup_s _ _ _ | exact xup_o (by omega) (by assumption) | exact xup_o (by omega) (xup_s _ _ _) | exact xup_o (by omega) (xup_o (by omega) (by assumption)) | exact xup_o (by omega) (xup_o (by omega) (xup_s _ _ _)) | exact xup_o (by omega) (xup_o (by omega) (xup_o (by omega) (by assumption)))) ?_
      refine xn_icmp_ge (pc := 18) hX 34 d_Row_at_18 (by decide) hi (by show w < _; omega) (fun h => absurd h (by show ¬ w ≤ i; omega)) (fun _ => ?_)
      refine xp_aload_0 (pc := 21) hX d_Row_at_21 ?_
      refine xg_get (pc := 22) hX (j := 0) k_Row d_Row_at_22 l_Row_15 (by decide) (by first | assumption | exact xup_s _ _ _ | exact xup_o (by omega) (by assumption) | exact xup_o (by omega) (xup_s _ _ _) | exact xup_o (by omega) (xup_o (by omega) (by assumption)) | exact xup_o (by omega) (xup_o (by omega) (xup_s _ _ _)) | exact xup_o (by omega) (xup_o (by omega) (xup_o (by omega) (by assumption)))) (by rfl) ?_
      refine xp_iload_1 (pc := 25) hX d_Row_at_25 ?_
      refine xn_bald (pc := 26) hX d_Row_at_26 rfl (by first | assumption | exact xup_s _ _ _ | exact xup_o (by omega) (by assumption) | exact xup_o (by omega) (xup_s _ _ _) | exact xup_o (by omega) (xup_o (by omega) (by assumption)) | exact xup_o (by omega) (xup_o (by omega) (xup_s _ _ _)) | exact xup_o (by omega) (xup_o (by omega) (xup_o (by omega) (by assumption)))) (by omega) (by omega) ?_
      refine xg_sipush (pc := 27) hX (nI 255) d_Row_at_27 ci_sipush_255 ?_
      refine xg_iand (pc := 30) hX d_Row_at_30 ?_
      refine xg_goto (pc := 31) hX 35 d_Row_at_31 (by decide) ?_
      refine xg_iret (pc := 35) hX hE d_Row_at_35 rfl rfl (by omega) (by omega) ?_
      have hb : bs[i]? = some bs[i] := List.getElem?_eq_getElem h9
      exact ⟨rfl, _, rfl, by rw [h4 i _ hb, hb]; exact sb_and _, rfl⟩
set_option maxHeartbeats 4000000 in
set_option maxRecDepth 100000 in
theorem c_Row_clear (d : Nat) {M : xH} {sz r w : Nat} {bs : List UInt8} (hr : RowAt M r w bs) : xC d 0 0 Y_Row_clear [.ref r] M sz (qv sz (fun M' => RowAt M' r w [] ∧ Fr2 M M' r)) := by
  refine xC_of (by decide) (Nat.le_of_ble_eq_true rfl) (by simp [Value.category]) (vs := [some (.ref r)]) rfl (fun K hX hE => ?_)
  obtain ⟨h1, h2, f, h3, h4⟩ := hr
  refine xp_aload_0 (pc := 0) hX d_Row_clear_0 ?_
  refine xg_iconst (pc := 1) hX (nI 0) d_Row_clear_1 ci_iconst_0 ?_
  refine xg_put (pc := 2) hX (j := 1) k_Row d_Row_clear_2 l_Row_21 (by decide) rfl (by first | assumption | exact xup_s _ _ _ | exact xup_o (by omega) (by assumption) | exact xup_o (by omega) (xup_s _ _ _) | exact xup_o (by omega) (xup_o (by omega) (by assumption)) | exact xup_o (by omega) (xup_o (by omega) (xup_s _ _ _)) | exact xup_o (by omega) (xup_o (by omega) (xup_o (by omega) (by assumption)))) (Nat.le_of_ble_eq_true rfl) rfl rfl (by simp only [List.set_cons_zero, List.set_cons_succ]; exact rfl) ?_
  refine xg_vret (pc := 5) hX hE d_Row_clear_5 rfl (by omega) (by omega) ?_
  refine ⟨rfl, rfl, ⟨xup_s _ _ _, Nat.zero_le _, f, xup_o (by omega) h3, fun j b h => by simp at h⟩, fun q hq _ => xup_n _ _ hq⟩
set_option maxHeartbeats 4000000 in
set_option maxRecDepth 100000 in
theorem c_Row_add (d : Nat) {M : xH} {sz r w : Nat} {bs : List UInt8} (x : Int32) (b : UInt8) (hx : x.toInt8.toInt32 = sb_b b.toNat) (hr : RowAt M r w bs) (hw : w < 2147483647) : xC d 0 0 Y_Row_add [.ref r, .int x] M sz (qi sz (fun y M' => (bs.length < w ∧ y = nI 1 ∧ RowAt M' r w (bs ++ [b]) ∧ Fr2 M M' r) ∨ (w ≤ bs.length ∧ y = nI 0 ∧ M' = M))) := by
  refine xC_of (by decide) (Nat.le_of_ble_eq_true rfl) (by simp [Value.category]) (vs := [some (.ref r), some (.int x)]) rfl (fun K hX hE => ?_)
  obtain ⟨h1, h2, f, h3, h4⟩ := hr
  refine xp_aload_0 (pc := 0) hX d_Row_add_0 ?_
  refine xg_get (pc := 1) hX (j := 1) k_Row d_Row_add_1 l_Row_21 (by decide) (by first | assumption | exact xup_s _ _ _ | exact xup_o (by omega) (by assumption) | exact xup_o (by omega) (xup_s _ _ _) | exact xup_o (by omega) (xup_o (by omega) (by assumption)) | exact xup_o (by omega) (xup_o (by omega) (xup_s _ _ _)) | exact xup_o (by omega) (xup_o (by omega) (xup_o (by omega) (by assumption)))) (by rfl) ?_
  refine xn_if_lt (pc := 4) hX 19 d_Row_add_4 (by decide) (by omega) ?_
  refine xp_aload_0 (pc := 7) hX d_Row_add_7 ?_
  refine xg_get (pc := 8) hX (j := 1) k_Row d_Row_add_8 l_Row_21 (by decide) (by first | assumption | exact xup_s _ _ _ | exact xup_o (by omega) (by assumption) | exact xup_o (by omega) (xup_s _ _ _) | exact xup_o (by omega) (xup_o (by omega) (by assumption)) | exact xup_o (by omega) (xup_o (by omega) (xup_s _ _ _)) | exact xup_o (by omega) (xup_o (by omega) (xup_o (by omega) (by assumption)))) (by rfl) ?_
  refine xp_aload_0 (pc := 11) hX d_Row_add_11 ?_
  refine xg_get (pc := 12) hX (j := 0) k_Row d_Row_add_12 l_Row_15 (by decide) (by first | assumption | exact xup_s _ _ _ | exact xup_o (by omega) (by assumption) | exact xup_o (by omega) (xup_s _ _ _) | exact xup_o (by omega) (xup_o (by omega) (by assumption)) | exact xup_o (by omega) (xup_o (by omega) (xup_s _ _ _)) | exact xup_o (by omega) (xup_o (by omega) (xup_o (by omega) (by assumption)))) (by rfl) ?_
  refine xn_alen (pc := 15) hX (t := 0) d_Row_add_15 rfl (by first | assumption | exact xup_s _ _ _ | exact xup_o (by omega) (by assumption) | exact xup_o (by omega) (xup_s _ _ _) | exact xup_o (by omega) (xup_o (by omega) (by assumption)) | exact xup_o (by omega) (xup_o (by omega) (xup_s _ _ _)) | exact xup_o (by omega) (xup_o (by omega) (xup_o (by omega) (by assumption)))) ?_
  refine xn_icmp_lt (pc := 16) hX 21 d_Row_add_16 (by decide) (by omega) (by show w < _; omega) (fun h => ?_) (fun h => ?_)
  · have h : bs.length < w := h
    refine xp_aload_0 (pc := 21) hX d_Row_add_21 ?_
    refine xg_get (pc := 22) hX (j := 0) k_Row d_Row_add_22 l_Row_15 (by decide) (by first | assumption | exact xup_s _ _ _ | exact xup_o (by omega) (by assumption) | exact xup_o (by omega) (xup_s _ _ _) | exact xup_o (by omega) (xup_o (by omega) (by assumption)) | exact xup_o (by omega) (xup_o (by omega) (xup_s _ _ _)) | exact xup_o (by omega) (xup_o (by omega) (xup_o (by omega) (by assumption)))) (by rfl) ?_
    refine xp_aload_0 (pc := 25) hX d_Row_add_25 ?_
    refine xg_get (pc := 26) hX (j := 1) k_Row d_Row_add_26 l_Row_21 (by decide) (by first | assumption | exact xup_s _ _ _ | exact xup_o (by omega) (by assumption) | exact xup_o (by omega) (xup_s _ _ _) | exact xup_o (by omega) (xup_o (by omega) (by assumption)) | exact xup_o (by omega) (xup_o (by omega) (xup_s _ _ _)) | exact xup_o (by omega) (xup_o (by omega) (xup_o (by omega) (by assumption)))) (by rfl) ?_
    refine xp_iload_1 (pc := 29) hX d_Row_add_29 ?_
    refine xg_i2b (pc := 30) hX d_Row_add_30 ?_
    refine xn_bast (pc := 31) hX d_Row_add_31 rfl (by first | assumption | exact xup_s _ _ _ | exact xup_o (by omega) (by assumption) | exact xup_o (by omega) (xup_s _ _ _) | exact xup_o (by omega) (xup_o (by omega) (by assumption)) | exact xup_o (by omega) (xup_o (by omega) (xup_s _ _ _)) | exact xup_o (by omega) (xup_o (by omega) (xup_o (by omega) (by assumption)))) (by omega) (by omega) ?_
    refine xp_aload_0 (pc := 32) hX d_Row_add_32 ?_
    refine xg_dup (pc := 33) hX d_Row_add_33 rfl ?_
    refine xg_get (pc := 34) hX (j := 1) k_Row d_Row_add_34 l_Row_21 (by decide) (by first | assumption | exact xup_s _ _ _ | exact xup_o (by omega) (by assumption) | exact xup_o (by omega) (xup_s _ _ _) | exact xup_o (by omega) (xup_o (by omega) (by assumption)) | exact xup_o (by omega) (xup_o (by omega) (xup_s _ _ _)) | exact xup_o (by omega) (xup_o (by omega) (xup_o (by omega) (by assumption)))) (by rfl) ?_
    refine xg_iconst (pc := 37) hX (nI 1) d_Row_add_37 ci_iconst_1 ?_
    first | refine xn_iadd (pc := 38) hX d_Row_add_38 ?_ | refine xg_iadd (pc := 38) hX d_Row_add_38 ?_
    refine xg_put (pc := 39) hX (j := 1) k_Row d_Row_add_39 l_Row_21 (by decide) rfl (by first | assumption | exact xup_s _ _ _ | exact xup_o (by omega) (by assumption) | exact xup_o (by omega) (xup_s _ _ _) | exact xup_o (by omega) (xup_o (by omega) (by assumption)) | exact xup_o (by omega) (xup_o (by omega) (xup_s _ _ _)) | exact xup_o (by omega) (xup_o (by omega) (xup_o (by omega) (by assumption)))) (Nat.le_of_ble_eq_true rfl) rfl rfl (by simp only [List.set_cons_zero, List.set_cons_succ]; exact rfl) ?_
    refine xg_iconst (pc := 42) hX (nI 1) d_Row_add_42 ci_iconst_1 ?_
    refine xg_iret (pc := 43) hX hE d_Row_add_43 rfl rfl (by omega) (by omega) ?_
    refine ⟨rfl, _, rfl, Or.inl ⟨h, rfl, ⟨?_, ?_, upd f bs.length (vp_nar .byte x.toInt8.toInt32), ?_, ?_⟩, ?_⟩⟩
    · rw [xup_s]; simp
    · simp; omega
    · exact xup_o (by omega) (xup_s _ _ _)
    · intro j c hj
      by_cases hl : j < bs.length
      · rw [List.getElem?_append_left hl] at hj
        rw [pk_un (by omega)]
        exact h4 j c hj
      · rw [List.getElem?_append_right (by omega)] at hj
        have : j = bs.length := by
          have := (List.getElem?_eq_some_iff.mp hj).1
          simp at this
          omega
        subst this
        simp at hj
        subst hj
        rw [pk_us, pk_vb, hx]
    · intro q hq hq1
      rw [xup_n _ _ hq, xup_n _ _ hq1]
  · have h : w ≤ bs.length := h
    refine xg_iconst (pc := 19) hX (nI 0) d_Row_add_19 ci_iconst_0 ?_
    refine xg_iret (pc := 20) hX hE d_Row_add_20 rfl rfl (by omega) (by omega) ?_
    exact ⟨rfl, _, rfl, Or.inr ⟨h, rfl, rfl⟩⟩
