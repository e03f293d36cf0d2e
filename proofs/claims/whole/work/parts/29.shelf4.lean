/-! NameRoom$Shelf: the rest -/
def rIx (n : Nat) (x : Int32) : Option Nat := if x < 0 then none else if x.toNatClampNeg < n then some x.toNatClampNeg else none
theorem rIx_nI {n i : Nat} (h : i < 2147483648) : rIx n (nI i) = if i < n then some i else none := by
  unfold rIx
  rw [if_neg (nI_pos h), nI_clamp h]
set_option maxHeartbeats 4000000 in
set_option maxRecDepth 100000 in
theorem c_She_entryAt (d : Nat) {M : xH} {sz h n : Nat} {g : Nat → Nat} {L : Nat → xEn × Bool} (x : Int32) (hs : ShR M h n g L) : xC d 0 0 Y_She_entryAt [.ref h, .int x] M sz (qr sz (fun o M' => o = (rIx n x).map (fun i => h + 2 + 5 * g i) ∧ M' = M)) := by
  refine xC_of (by decide) (Nat.le_of_ble_eq_true rfl) (by simp [Value.category]) (vs := [some (.ref h), some (.int x)]) rfl (fun K hX hE => ?_)
  obtain ⟨h1, h2, ⟨f, h3, h4⟩, h5, h6, h7⟩ := hs
  have k30 : ∀ vs, rIx n x = none → xG K 30 vs [] M sz 0 0 := by
    intro vs hv
    refine xg_null (pc := 30) hX d_She_entryAt_30 ?_
    refine xg_aret (pc := 31) hX hE d_She_entryAt_31 rfl (Or.inl rfl) (by omega) (by omega) ?_
    exact ⟨rfl, none, rfl, by rw [hv]; rfl, rfl⟩
  by_cases hx : x < 0
  · refine xp_iload_1 (pc := 0) hX d_She_entryAt_0 ?_
    refine xg_if_lt (pc := 1) hX 30 d_She_entryAt_1 (by decide) (fun _ => k30 _ (by unfold rIx; rw [if_pos hx])) (fun q => absurd hx q)
  · obtain ⟨i, hi, rfl⟩ := nI_of hx
    have hi : i < 2147483648 := hi
    rw [rIx_nI hi] at *
    refine xp_iload_1 (pc := 0) hX d_She_entryAt_0 ?_
    refine xn_if_lt (pc := 1) hX 30 d_She_entryAt_1 (by decide) hi ?_
    refine xp_iload_1 (pc := 4) hX d_She_entryAt_4 ?_
    refine xp_aload_0 (pc := 5) hX d_She_entryAt_5 ?_
    refine xg_get (pc := 6) hX (j := 1) k_She d_She_entryAt_6 l_She_18 (by decide) (by first | assumption | exact xup_s _ _ _ | exact xup_o (by omega) (by assumption) | exact xup_o (by omega) (xup_s _ _ _) | exact xup_o (by omega) (xup_o (by omega) (by assumption)) | exact xup_o (by omega) (xup_o (by omega) (xup_s _ _ _)) | exact xup_o (by omega) (xup_o (by omega) (xup_o (by omega) (by assumption)))) (by rfl) ?_
    refine xn_icmp_ge (pc := 9) hX 30 d_She_entryAt_9 (by decide) (by omega) (by omega) (fun q => k30 _ (by rw [if_neg (by omega)])) (fun q => ?_)
    refine xp_iload_1 (pc := 12) hX d_She_entryAt_12 ?_
    refine xp_aload_0 (pc := 13) hX d_She_entryAt_13 ?_
    refine xg_get (pc := 14) hX (j := 0) k_She d_She_entryAt_14 l_She_11 (by decide) (by first | assumption | exact xup_s _ _ _ | exact xup_o (by omega) (by assumption) | exact xup_o (by omega) (xup_s _ _ _) | exact xup_o (by omega) (xup_o (by omega) (by assumption)) | exact xup_o (by omega) (xup_o (by omega) (xup_s _ _ _)) | exact xup_o (by omega) (xup_o (by omega) (xup_o (by omega) (by assumption)))) (by rfl) ?_
    refine xn_alen (pc := 17) hX (t := 2) d_She_entryAt_17 rfl (by first | assumption | exact xup_s _ _ _ | exact xup_o (by omega) (by assumption) | exact xup_o (by omega) (xup_s _ _ _) | exact xup_o (by omega) (xup_o (by omega) (by assumption)) | exact xup_o (by omega) (xup_o (by omega) (xup_s _ _ _)) | exact xup_o (by omega) (xup_o (by omega) (xup_o (by omega) (by assumption)))) ?_
    refine xn_icmp_ge (pc := 18) hX 30 d_She_entryAt_18 (by decide) (by omega) (by decide) (fun q => absurd q (by omega)) (fun _ => ?_)
    have e0 : va_rf (f i) = .ref (h + 2 + 5 * g i) := by rw [h4 i (by omega)]; rfl
    refine xp_aload_0 (pc := 21) hX d_She_entryAt_21 ?_
    refine xg_get (pc := 22) hX (j := 0) k_She d_She_entryAt_22 l_She_11 (by decide) (by first | assumption | exact xup_s _ _ _ | exact xup_o (by omega) (by assumption) | exact xup_o (by omega) (xup_s _ _ _) | exact xup_o (by omega) (xup_o (by omega) (by assumption)) | exact xup_o (by omega) (xup_o (by omega) (xup_s _ _ _)) | exact xup_o (by omega) (xup_o (by omega) (xup_o (by omega) (by assumption)))) (by rfl) ?_
    refine xp_iload_1 (pc := 25) hX d_She_entryAt_25 ?_
    refine xn_aald (pc := 26) hX (t := 2) d_She_entryAt_26 rfl (by first | assumption | exact xup_s _ _ _ | exact xup_o (by omega) (by assumption) | exact xup_o (by omega) (xup_s _ _ _) | exact xup_o (by omega) (xup_o (by omega) (by assumption)) | exact xup_o (by omega) (xup_o (by omega) (xup_s _ _ _)) | exact xup_o (by omega) (xup_o (by omega) (xup_o (by omega) (by assumption)))) (by omega) (by omega) (by first | assumption | rfl) ?_
    refine xg_goto (pc := 27) hX 31 d_She_entryAt_27 (by decide) ?_
    refine xg_aret (pc := 31) hX hE d_She_entryAt_31 rfl (Or.inr ⟨_, rfl⟩) (by omega) (by omega) ?_
    exact ⟨rfl, some _, rfl, by rw [if_pos q]; rfl, rfl⟩
set_option maxHeartbeats 4000000 in
set_option maxRecDepth 100000 in
theorem c_She_clearPool (d : Nat) {M : xH} {sz h p : Nat} {g : Nat → Nat} {L : Nat → xEn × Bool} {es : List xEn} (hs : ShA M h g L es) (hp : p < 1000000) : xC (d + 1) 0 0 Y_She_clearPool [.ref h, .int (nI p)] M sz (qv sz (fun M' => (∃ g' L', ShA M' h g' L' (es.filter (fun e => !(e.1 == p)))) ∧ FrR M M' h (h + 502))) := by
  refine xC_of (by decide) (Nat.le_of_ble_eq_true rfl) (by simp [Value.category]) (vs := [some (.ref h), some (.int (nI p)), none, none]) rfl (fun K hX hE => ?_)
  have hn : es.length ≤ 100 := hs.1.2.1
  have loop : ∀ (m i : Nat) (M1 : xH) (L1 : Nat → xEn × Bool), i + m = es.length → ShR M1 h es.length g L1 → FrR M M1 h (h + 502) → (∀ j e, es[j]? = some e → L1 j = (e, if j < i then e.1 == p else false)) → xG K 2 [some (.ref h), some (.int (nI p)), some (.int (nI i)), none] [] M1 sz 0 0 := by
    intro m
    induction m with
    | zero =>
      intro i M1 L1 hi hs1 hf hL
      obtain ⟨h1, h2, ⟨f, h3, h4⟩, h5, h6, h7⟩ := id hs1
      refine xp_iload_2 (pc := 2) hX d_She_clearPool_2 ?_
      refine xp_aload_0 (pc := 3) hX d_She_clearPool_3 ?_
      refine xg_get (pc := 4) hX (j := 1) k_She d_She_clearPool_4 l_She_18 (by decide) (by first | assumption | exact xup_s _ _ _ | exact xup_o (by omega) (by assumption) | exact xup_o (by omega) (xup_s _ _ _) | exact xup_o (by omega) (xup_o (by omega) (by assumption)) | exact xup_o (by omega) (xup_o (by omega) (xup_s _ _ _)) | exact xup_o (by omega) (xup_o (by omega) (xup_o (by omega) (by assumption)))) (by rfl) ?_
      refine xn_icmp_ge (pc := 7) hX 49 d_She_clearPool_7 (by decide) (by omega) (by omega) (fun _ => ?_) (fun q => absurd q (by omega))
      refine xp_aload_0 (pc := 49) hX d_She_clearPool_49 ?_
      refine xv_V (Y2 := Y_She_sweep) (pc := 50) hX [] k_She m_She_sweep d_She_clearPool_50 l_She_59 rfl rfl (by simp [Value.category]) (by first | assumption | exact xup_s _ _ _ | exact xup_o (by omega) (by assumption) | exact xup_o (by omega) (xup_s _ _ _) | exact xup_o (by omega) (xup_o (by omega) (by assumption)) | exact xup_o (by omega) (xup_o (by omega) (xup_s _ _ _)) | exact xup_o (by omega) (xup_o (by omega) (xup_o (by omega) (by assumption)))) (c_She_sweep d hs1) (by omega) (by omega) ?_
      rintro M2 ⟨⟨k, g', L', a1, a2⟩, a3⟩
      refine xg_vret (pc := 53) hX hE d_She_clearPool_53 rfl (by omega) (by omega) ?_
      refine ⟨rfl, rfl, ⟨g', L', ShA.of a1 ?_⟩, hf.tr (a3.R.wide (Nat.le_refl _) (by omega))⟩
      rw [a2, ← flt_map (fun e => e.1 == p)]
      congr 1
      apply List.ext_getElem?
      intro j
      by_cases hj : j < es.length
      · rw [lst_at L1 hj, List.getElem?_map, List.getElem?_eq_getElem hj, hL j _ (List.getElem?_eq_getElem hj), if_pos (by omega)]
        rfl
      · rw [List.getElem?_eq_none (by rw [lst_len]; omega), List.getElem?_eq_none (by simp; omega)]
    | succ m ih =>
      intro i M1 L1 hi hs1 hf hL
      obtain ⟨h1, h2, ⟨f, h3, h4⟩, h5, h6, h7⟩ := id hs1
      have hie : es[i]? = some (es[i]'(by omega)) := List.getElem?_eq_getElem (by omega)
      have hLi := hL i _ hie
      rw [if_neg (Nat.lt_irrefl _)] at hLi
      generalize es[i]'(by omega) = e at hie hLi
      obtain ⟨e1, e2, e3, v, e4, e5⟩ := h7 i (by omega)
      rw [hLi] at e1 e2 e3 e5
      dsimp only at e1 e2 e3 e5
      have e0 : va_rf (f i) = .ref (h + 2 + 5 * g i) := by rw [h4 i (by omega)]; rfl
      have gi := h5 i (by omega)
      have next : ∀ (M2 : xH) (L2 : Nat → xEn × Bool), ShR M2 h es.length g L2 → FrR M M2 h (h + 502) → (∀ j, j ≠ i → L2 j = L1 j) → L2 i = (e, e.1 == p) → xG K 43 [some (.ref h), some (.int (nI p)), some (.int (nI i)), some (.ref (h + 2 + 5 * g i))] [] M2 sz 0 0 := by
        intro M2 L2 s2 f2 l2 l3
        refine xp_inc_2 (pc := 43) hX d_She_clearPool_43 (by decide) ?_
        refine xg_goto (pc := 46) hX 2 d_She_clearPool_46 (by decide) ?_
        refine xp_drop_3 ?_
        refine ih (i + 1) M2 L2 (by omega) s2 f2 (fun j e' he' => ?_)
        by_cases hj : j = i
        · subst hj
          rw [hie] at he'
          cases he'
          rw [l3, if_pos (by omega)]
        · rw [l2 j hj, hL j e' he']
          by_cases hlt : j < i
          · rw [if_pos hlt, if_pos (by omega)]
          · rw [if_neg hlt, if_neg (by omega)]
      refine xp_iload_2 (pc := 2) hX d_She_clearPool_2 ?_
      refine xp_aload_0 (pc := 3) hX d_She_clearPool_3 ?_
      refine xg_get (pc := 4) hX (j := 1) k_She d_She_clearPool_4 l_She_18 (by decide) (by first | assumption | exact xup_s _ _ _ | exact xup_o (by omega) (by assumption) | exact xup_o (by omega) (xup_s _ _ _) | exact xup_o (by omega) (xup_o (by omega) (by assumption)) | exact xup_o (by omega) (xup_o (by omega) (xup_s _ _ _)) | exact xup_o (by omega) (xup_o (by omega) (xup_o (by omega) (by assumption)))) (by rfl) ?_
      refine xn_icmp_ge (pc := 7) hX 49 d_She_clearPool_7 (by decide) (by omega) (by omega) (fun q => absurd q (by omega)) (fun _ => ?_)
      refine xp_iload_2 (pc := 10) hX d_She_clearPool_10 ?_
      refine xp_aload_0 (pc := 11) hX d_She_clearPool_11 ?_
      refine xg_get (pc := 12) hX (j := 0) k_She d_She_clearPool_12 l_She_11 (by decide) (by first | assumption | exact xup_s _ _ _ | exact xup_o (by omega) (by assumption) | exact xup_o (by omega) (xup_s _ _ _) | exact xup_o (by omega) (xup_o (by omega) (by assumption)) | exact xup_o (by omega) (xup_o (by omega) (xup_s _ _ _)) | exact xup_o (by omega) (xup_o (by omega) (xup_o (by omega) (by assumption)))) (by rfl) ?_
      refine xn_alen (pc := 15) hX (t := 2) d_She_clearPool_15 rfl (by first | assumption | exact xup_s _ _ _ | exact xup_o (by omega) (by assumption) | exact xup_o (by omega) (xup_s _ _ _) | exact xup_o (by omega) (xup_o (by omega) (by assumption)) | exact xup_o (by omega) (xup_o (by omega) (xup_s _ _ _)) | exact xup_o (by omega) (xup_o (by omega) (xup_o (by omega) (by assumption)))) ?_
      refine xn_icmp_ge (pc := 16) hX 49 d_She_clearPool_16 (by decide) (by omega) (by decide) (fun q => absurd q (by omega)) (fun _ => ?_)
      refine xp_aload_0 (pc := 19) hX d_She_clearPool_19 ?_
      refine xg_get (pc := 20) hX (j := 0) k_She d_She_clearPool_20 l_She_11 (by decide) (by first | assumption | exact xup_s _ _ _ | exact xup_o (by omega) (by assumption) | exact xup_o (by omega) (xup_s _ _ _) | exact xup_o (by omega) (xup_o (by omega) (by assumption)) | exact xup_o (by omega) (xup_o (by omega) (xup_s _ _ _)) | exact xup_o (by omega) (xup_o (by omega) (xup_o (by omega) (by assumption)))) (by rfl) ?_
      refine xp_iload_2 (pc := 23) hX d_She_clearPool_23 ?_
      refine xn_aald (pc := 24) hX (t := 2) d_She_clearPool_24 rfl (by first | assumption | exact xup_s _ _ _ | exact xup_o (by omega) (by assumption) | exact xup_o (by omega) (xup_s _ _ _) | exact xup_o (by omega) (xup_o (by omega) (by assumption)) | exact xup_o (by omega) (xup_o (by omega) (xup_s _ _ _)) | exact xup_o (by omega) (xup_o (by omega) (xup_o (by omega) (by assumption)))) (by omega) (by omega) (by first | assumption | rfl) ?_
      first | refine xp_astore_3 (pc := 25) hX d_She_clearPool_25 (by decide) ?_ | refine xp_astoreN_3 (pc := 25) hX d_She_clearPool_25 (by decide) ?_
      refine xp_aload_3 (pc := 26) hX d_She_clearPool_26 ?_
      refine xg_ifnull (pc := 27) hX d_She_clearPool_27 ?_
      refine xp_aload_3 (pc := 30) hX d_She_clearPool_30 ?_
      refine xg_get (pc := 31) hX (j := 2) k_Ent d_She_clearPool_31 l_She_22 (by decide) (by first | assumption | exact xup_s _ _ _ | exact xup_o (by omega) (by assumption) | exact xup_o (by omega) (xup_s _ _ _) | exact xup_o (by omega) (xup_o (by omega) (by assumption)) | exact xup_o (by omega) (xup_o (by omega) (xup_s _ _ _)) | exact xup_o (by omega) (xup_o (by omega) (xup_o (by omega) (by assumption)))) (by rfl) ?_
      refine xp_iload_1 (pc := 34) hX d_She_clearPool_34 ?_
      refine xn_icmp_ne (pc := 35) hX 43 d_She_clearPool_35 (by decide) (by omega) (by omega) (fun q => ?_) (fun q => ?_)
      · exact next M1 L1 hs1 hf (fun _ _ => rfl) (by rw [hLi]; simp [q])
      · refine xp_aload_3 (pc := 38) hX d_She_clearPool_38 ?_
        refine xg_iconst (pc := 39) hX (nI 1) d_She_clearPool_39 ci_iconst_1 ?_
        refine xg_put (pc := 40) hX (j := 4) k_Ent d_She_clearPool_40 l_She_56 (by decide) rfl (by first | assumption | exact xup_s _ _ _ | exact xup_o (by omega) (by assumption) | exact xup_o (by omega) (xup_s _ _ _) | exact xup_o (by omega) (xup_o (by omega) (by assumption)) | exact xup_o (by omega) (xup_o (by omega) (xup_s _ _ _)) | exact xup_o (by omega) (xup_o (by omega) (xup_o (by omega) (by assumption)))) (Nat.le_of_ble_eq_true rfl) (by first | rfl | decide) (by first | rfl | decide) (by simp only [List.set_cons_zero, List.set_cons_succ]; exact rfl) ?_
        have hfr : FrR M1 (xup M1 (h + 2 + 5 * g i) (.inr (1, [.ref (h + 2 + 5 * g i + 1), .ref (h + 2 + 5 * g i + 3), .int (nI e.1), .int (bI e.2.2.isNone), .int (nI 1)]))) (h + 2 + 5 * g i) (h + 2 + 5 * g i + 5) := xup_R _ _ (by omega) (by omega)
        refine next _ _ (hs1.set (i := i) (e' := (e, true)) (by omega) hfr ⟨xup_s _ _ _, e2, e3.kept (xup_n _ _ (by omega)) (xup_n _ _ (by omega)), v, e4.kept (xup_n _ _ (by omega)) (xup_n _ _ (by omega)), e5⟩) (hf.tr (hfr.wide (by omega) (by omega))) (fun j hj => by simp only [if_neg hj]) ?_
        simp only [if_true]
        simp [q]
  refine xg_iconst (pc := 0) hX (nI 0) d_She_clearPool_0 ci_iconst_0 ?_
  refine xp_istore_2 (pc := 1) hX d_She_clearPool_1 (by decide) ?_
  refine loop es.length 0 M L (by omega) hs.1 (FrR.rf M _ _) (fun j e he => ?_)
  rw [hs.2 j e he, if_neg (by omega)]
theorem ers {es : List xEn} : ∀ (i k : Nat), ((es.mapIdx (fun j e => (e, j + k == i + k))).filter (fun e => !e.2)) = (es.eraseIdx i).map (fun e => (e, false)) := by
  induction es with
  | nil => intro i k; simp
  | cons a l ih =>
    intro i k
    rw [List.mapIdx_cons]
    cases i with
    | zero =>
      simp only [Nat.zero_add, beq_self_eq_true, List.filter_cons, Bool.not_true, List.eraseIdx_cons_zero]
      have h0 := flt_map (es := l) (fun _ => false)
      simp at h0 ⊢
      rw [List.filter_eq_self.mpr]
      · apply List.ext_getElem?
        intro j
        simp [List.getElem?_mapIdx]
        cases l[j]? <;> simp
      · intro x hx
        rw [List.mem_mapIdx] at hx
        obtain ⟨j, hj, rfl⟩ := hx
        simp
    | succ i =>
      have h1 := ih i (k + 1)
      simp only [List.filter_cons, List.eraseIdx_cons_succ, List.map_cons]
      have h2 : (0 + k == i + 1 + k) = false := by simp
      rw [h2]
      simp only [Bool.not_false, if_true]
      congr 1
      rw [← h1]
      congr 1
      apply List.ext_getElem?
      intro j
      simp only [List.getElem?_mapIdx]
      cases l[j]? with
      | none => rfl
      | some e =>
        simp only [Option.map_some]
        rw [show j + 1 + k = j + (k + 1) by omega, show i + 1 + k = i + (k + 1) by omega]
set_option maxHeartbeats 4000000 in
set_option maxRecDepth 100000 in
theorem c_She_remove (d : Nat) {M : xH} {sz h t wt p : Nat} {g : Nat → Nat} {L : Nat → xEn × Bool} {es : List xEn} {nm : List UInt8} (hs : ShA M h g L es) (ht : RowAt M t wt nm) (hwt : wt < 1000000) (hp : p < 1000000) : xC (d + 2) 0 0 Y_She_remove [.ref h, .ref t, .int (nI p)] M sz (qv sz (fun M' => (∃ g' L', ShA M' h g' L' (match eIdx es p nm with | none => es | some i => es.eraseIdx i)) ∧ FrR M M' h (h + 502))) := by
  refine xC_of (by decide) (Nat.le_of_ble_eq_true rfl) (by simp [Value.category]) (vs := [some (.ref h), some (.ref t), some (.int (nI p)), none]) rfl (fun K hX hE => ?_)
  have hn : es.length ≤ 100 := hs.1.2.1
  obtain ⟨h1, h2, ⟨f, h3, h4⟩, h5, h6, h7⟩ := id hs.1
  refine xp_aload_0 (pc := 0) hX d_She_remove_0 ?_
  refine xp_aload_1 (pc := 1) hX d_She_remove_1 ?_
  refine xp_iload_2 (pc := 2) hX d_She_remove_2 ?_
  refine xr_V (Y2 := Y_She_find) (pc := 3) hX [_, _] k_She m_She_find d_She_remove_3 l_She_38 rfl rfl (by simp [Value.category]) (by first | assumption | exact xup_s _ _ _ | exact xup_o (by omega) (by assumption) | exact xup_o (by omega) (xup_s _ _ _) | exact xup_o (by omega) (xup_o (by omega) (by assumption)) | exact xup_o (by omega) (xup_o (by omega) (xup_s _ _ _)) | exact xup_o (by omega) (xup_o (by omega) (xup_o (by omega) (by assumption)))) (c_She_find' d hs ht hwt hp) (by omega) (by omega) ?_
  rintro o M' ⟨rfl, rfl⟩
  cases he : eIdx es p nm with
  | none =>
    refine xp_astoreN_3 (pc := 6) hX d_She_remove_6 (by decide) ?_
    refine xp_aloadN_3 (pc := 7) hX d_She_remove_7 ?_
    refine xg_ifnullN (pc := 8) hX 20 d_She_remove_8 (by decide) ?_
    refine xg_vret (pc := 20) hX hE d_She_remove_20 rfl (by omega) (by omega) ?_
    refine ⟨rfl, rfl, ⟨g, L, ?_⟩, FrR.rf _ _ _⟩
    rw [he]; exact hs
  | some i =>
    have hi := eIdx_lt he
    have hie : es[i]? = some es[i] := List.getElem?_eq_getElem hi
    have hLi := hs.2 i _ hie
    generalize es[i] = e at hie hLi
    obtain ⟨e1, e2, e3, v, e4, e5⟩ := h7 i (by omega)
    rw [hLi] at e1 e2 e3 e5
    dsimp only at e1 e2 e3 e5
    have gi := h5 i (by omega)
    refine xp_astore_3 (x := h + 2 + 5 * g i) (pc := 6) hX d_She_remove_6 (by decide) ?_
    refine xp_aload_3 (pc := 7) hX d_She_remove_7 ?_
    refine xg_ifnull (pc := 8) hX d_She_remove_8 ?_
    refine xp_aload_3 (pc := 11) hX d_She_remove_11 ?_
    refine xg_iconst (pc := 12) hX (nI 1) d_She_remove_12 ci_iconst_1 ?_
    refine xg_put (pc := 13) hX (j := 4) k_Ent d_She_remove_13 l_She_56 (by decide) rfl (by first | assumption | exact xup_s _ _ _ | exact xup_o (by omega) (by assumption) | exact xup_o (by omega) (xup_s _ _ _) | exact xup_o (by omega) (xup_o (by omega) (by assumption)) | exact xup_o (by omega) (xup_o (by omega) (xup_s _ _ _)) | exact xup_o (by omega) (xup_o (by omega) (xup_o (by omega) (by assumption)))) (Nat.le_of_ble_eq_true rfl) (by first | rfl | decide) (by first | rfl | decide) (by simp only [List.set_cons_zero, List.set_cons_succ]; exact rfl) ?_
    refine xp_aload_0 (pc := 16) hX d_She_remove_16 ?_
    have hfr : FrR M' (xup M' (h + 2 + 5 * g i) (.inr (1, [.ref (h + 2 + 5 * g i + 1), .ref (h + 2 + 5 * g i + 3), .int (nI e.1), .int (bI e.2.2.isNone), .int (nI 1)]))) (h + 2 + 5 * g i) (h + 2 + 5 * g i + 5) := xup_R _ _ (by omega) (by omega)
    have hs2 := hs.1.set (i := i) (e' := (e, true)) (by omega) hfr ⟨xup_s _ _ _, e2, e3.kept (xup_n _ _ (by omega)) (xup_n _ _ (by omega)), v, e4.kept (xup_n _ _ (by omega)) (xup_n _ _ (by omega)), e5⟩
    refine xv_V (Y2 := Y_She_sweep) (pc := 17) hX [] k_She m_She_sweep d_She_remove_17 l_She_59 rfl rfl (by simp [Value.category]) (by first | assumption | exact xup_s _ _ _ | exact xup_o (by omega) (by assumption) | exact xup_o (by omega) (xup_s _ _ _) | exact xup_o (by omega) (xup_o (by omega) (by assumption)) | exact xup_o (by omega) (xup_o (by omega) (xup_s _ _ _)) | exact xup_o (by omega) (xup_o (by omega) (xup_o (by omega) (by assumption)))) (c_She_sweep (d + 1) hs2) (by omega) (by omega) ?_
    rintro M2 ⟨⟨k, g', L', a1, a2⟩, a3⟩
    refine xg_vret (pc := 20) hX hE d_She_remove_20 rfl (by omega) (by omega) ?_
    refine ⟨rfl, rfl, ⟨g', L', ?_⟩, (hfr.wide (by omega) (by omega)).tr (a3.R.wide (Nat.le_refl _) (by omega))⟩
    rw [he]
    refine ShA.of a1 ?_
    rw [a2]
    have h9 := ers (es := es) i 0
    rw [← h9]
    congr 1
    apply List.ext_getElem?
    intro j
    by_cases hj : j < es.length
    · rw [lst_at _ hj, List.getElem?_mapIdx, List.getElem?_eq_getElem hj]
      by_cases hji : j = i
      · subst hji
        rw [List.getElem?_eq_getElem hj] at hie
        cases hie
        simp
      · simp [hji, hs.2 j _ (List.getElem?_eq_getElem hj)]
    · rw [List.getElem?_eq_none (by rw [lst_len]; omega), List.getElem?_eq_none (by simp; omega)]
