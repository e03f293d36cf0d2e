/-! NameRoom$Shelf: a place for a name -/
set_option maxHeartbeats 4000000 in
set_option maxRecDepth 100000 in
theorem c_She_findOrAdd (d : Nat) {M : xH} {sz h t wt p : Nat} {g : Nat → Nat} {L : Nat → xEn × Bool} {es : List xEn} {nm : List UInt8} (hs : ShA M h g L es) (ht : RowAt M t wt nm) (htd : t + 1 < h ∨ h + 502 ≤ t) (hnm : nm.length ≤ 200) (hwt : wt < 1000000) (hp : p < 1000) : xC (d + 3) 0 0 Y_She_findOrAdd [.ref h, .ref t, .int (nI p)] M sz (qr sz (fun o M' => (∃ i, eIdx es p nm = some i ∧ o = some (h + 2 + 5 * g i) ∧ M' = M) ∨ (eIdx es p nm = none ∧ es.length < 100 ∧ o = some (h + 2 + 5 * g es.length) ∧ (∃ L', ShA M' h g L' (es ++ [(p, nm, some [])])) ∧ FrR M M' h (h + 502)) ∨ (eIdx es p nm = none ∧ 100 ≤ es.length ∧ o = none ∧ M' = M))) := by
  refine xC_of (by decide) (Nat.le_of_ble_eq_true rfl) (by simp [Value.category]) (vs := [some (.ref h), some (.ref t), some (.int (nI p)), none, none]) rfl (fun K hX hE => ?_)
  have hn : es.length ≤ 100 := hs.1.2.1
  obtain ⟨h1, h2, ⟨f, h3, h4⟩, h5, h6, h7⟩ := id hs.1
  refine xp_aload_0 (pc := 0) hX d_She_findOrAdd_0 ?_
  refine xp_aload_1 (pc := 1) hX d_She_findOrAdd_1 ?_
  refine xp_iload_2 (pc := 2) hX d_She_findOrAdd_2 ?_
  refine xr_V (Y2 := Y_She_find) (pc := 3) hX [_, _] k_She m_She_find d_She_findOrAdd_3 l_She_38 rfl rfl (by simp [Value.category]) (by first | assumption | exact xup_s _ _ _ | exact xup_o (by omega) (by assumption) | exact xup_o (by omega) (xup_s _ _ _) | exact xup_o (by omega) (xup_o (by omega) (by assumption)) | exact xup_o (by omega) (xup_o (by omega) (xup_s _ _ _)) | exact xup_o (by omega) (xup_o (by omega) (xup_o (by omega) (by assumption)))) (c_She_find' (d + 1) hs ht hwt (by omega)) (by omega) (by omega) ?_
  rintro o M' ⟨rfl, rfl⟩
  cases he : eIdx es p nm with
  | some i =>
    refine xp_astore_3 (x := h + 2 + 5 * g i) (pc := 6) hX d_She_findOrAdd_6 (by decide) ?_
    refine xp_aload_3 (pc := 7) hX d_She_findOrAdd_7 ?_
    refine xg_ifnonnull (pc := 8) hX 30 d_She_findOrAdd_8 (by decide) ?_
    refine xp_aload_3 (pc := 30) hX d_She_findOrAdd_30 ?_
    refine xg_aret (pc := 31) hX hE d_She_findOrAdd_31 rfl (Or.inr ⟨_, rfl⟩) (by omega) (by omega) ?_
    exact ⟨rfl, some _, rfl, Or.inl ⟨i, he, rfl, rfl⟩⟩
  | none =>
    refine xp_astoreN_3 (pc := 6) hX d_She_findOrAdd_6 (by decide) ?_
    refine xp_aloadN_3 (pc := 7) hX d_She_findOrAdd_7 ?_
    refine xg_ifnonnullN (pc := 8) hX d_She_findOrAdd_8 ?_
    refine xp_aload_0 (pc := 11) hX d_She_findOrAdd_11 ?_
    refine xg_get (pc := 12) hX (j := 1) k_She d_She_findOrAdd_12 l_She_18 (by decide) (by first | assumption | exact xup_s _ _ _ | exact xup_o (by omega) (by assumption) | exact xup_o (by omega) (xup_s _ _ _) | exact xup_o (by omega) (xup_o (by omega) (by assumption)) | exact xup_o (by omega) (xup_o (by omega) (xup_s _ _ _)) | exact xup_o (by omega) (xup_o (by omega) (xup_o (by omega) (by assumption)))) (by rfl) ?_
    refine xn_if_lt (pc := 15) hX 30 d_She_findOrAdd_15 (by decide) (by omega) ?_
    refine xp_aload_0 (pc := 18) hX d_She_findOrAdd_18 ?_
    refine xg_get (pc := 19) hX (j := 1) k_She d_She_findOrAdd_19 l_She_18 (by decide) (by first | assumption | exact xup_s _ _ _ | exact xup_o (by omega) (by assumption) | exact xup_o (by omega) (xup_s _ _ _) | exact xup_o (by omega) (xup_o (by omega) (by assumption)) | exact xup_o (by omega) (xup_o (by omega) (xup_s _ _ _)) | exact xup_o (by omega) (xup_o (by omega) (xup_o (by omega) (by assumption)))) (by rfl) ?_
    refine xp_aload_0 (pc := 22) hX d_She_findOrAdd_22 ?_
    refine xg_get (pc := 23) hX (j := 0) k_She d_She_findOrAdd_23 l_She_11 (by decide) (by first | assumption | exact xup_s _ _ _ | exact xup_o (by omega) (by assumption) | exact xup_o (by omega) (xup_s _ _ _) | exact xup_o (by omega) (xup_o (by omega) (by assumption)) | exact xup_o (by omega) (xup_o (by omega) (xup_s _ _ _)) | exact xup_o (by omega) (xup_o (by omega) (xup_o (by omega) (by assumption)))) (by rfl) ?_
    refine xn_alen (pc := 26) hX (t := 2) d_She_findOrAdd_26 rfl (by first | assumption | exact xup_s _ _ _ | exact xup_o (by omega) (by assumption) | exact xup_o (by omega) (xup_s _ _ _) | exact xup_o (by omega) (xup_o (by omega) (by assumption)) | exact xup_o (by omega) (xup_o (by omega) (xup_s _ _ _)) | exact xup_o (by omega) (xup_o (by omega) (xup_o (by omega) (by assumption)))) ?_
    refine xn_icmp_lt (pc := 27) hX 32 d_She_findOrAdd_27 (by decide) (by omega) (by decide) (fun q => ?_) (fun q => ?_)
    · obtain ⟨e1, e2, e3, v, e4, e5⟩ := h7 es.length q
      generalize hL : L es.length = e at e1 e2 e3 e5
      have gi := h5 es.length q
      have e0 : va_rf (f es.length) = .ref (h + 2 + 5 * g es.length) := by rw [h4 _ q]; rfl
      generalize ha : h + 2 + 5 * g es.length = a at e0 e1 e3 e4
      obtain ⟨r3, -⟩ := id e3
      refine xp_aload_0 (pc := 32) hX d_She_findOrAdd_32 ?_
      refine xg_get (pc := 33) hX (j := 0) k_She d_She_findOrAdd_33 l_She_11 (by decide) (by first | assumption | exact xup_s _ _ _ | exact xup_o (by omega) (by assumption) | exact xup_o (by omega) (xup_s _ _ _) | exact xup_o (by omega) (xup_o (by omega) (by assumption)) | exact xup_o (by omega) (xup_o (by omega) (xup_s _ _ _)) | exact xup_o (by omega) (xup_o (by omega) (xup_o (by omega) (by assumption)))) (by rfl) ?_
      refine xp_aload_0 (pc := 36) hX d_She_findOrAdd_36 ?_
      refine xg_get (pc := 37) hX (j := 1) k_She d_She_findOrAdd_37 l_She_18 (by decide) (by first | assumption | exact xup_s _ _ _ | exact xup_o (by omega) (by assumption) | exact xup_o (by omega) (xup_s _ _ _) | exact xup_o (by omega) (xup_o (by omega) (by assumption)) | exact xup_o (by omega) (xup_o (by omega) (xup_s _ _ _)) | exact xup_o (by omega) (xup_o (by omega) (xup_o (by omega) (by assumption)))) (by rfl) ?_
      refine xn_aald (pc := 40) hX (t := 2) d_She_findOrAdd_40 rfl (by first | assumption | exact xup_s _ _ _ | exact xup_o (by omega) (by assumption) | exact xup_o (by omega) (xup_s _ _ _) | exact xup_o (by omega) (xup_o (by omega) (by assumption)) | exact xup_o (by omega) (xup_o (by omega) (xup_s _ _ _)) | exact xup_o (by omega) (xup_o (by omega) (xup_o (by omega) (by assumption)))) (by omega) (by omega) (by first | assumption | rfl) ?_
      first | refine xp_astore_4 (pc := 41) hX d_She_findOrAdd_41 (by decide) ?_ | refine xp_astoreN_4 (pc := 41) hX d_She_findOrAdd_41 (by decide) ?_
      refine xp_aload_4 (pc := 43) hX d_She_findOrAdd_43 ?_
      refine xg_ifnull (pc := 45) hX d_She_findOrAdd_45 ?_
      refine xp_aload_4 (pc := 48) hX d_She_findOrAdd_48 ?_
      refine xg_get (pc := 50) hX (j := 0) k_Ent d_She_findOrAdd_50 l_She_25 (by decide) (by first | assumption | exact xup_s _ _ _ | exact xup_o (by omega) (by assumption) | exact xup_o (by omega) (xup_s _ _ _) | exact xup_o (by omega) (xup_o (by omega) (by assumption)) | exact xup_o (by omega) (xup_o (by omega) (xup_s _ _ _)) | exact xup_o (by omega) (xup_o (by omega) (xup_o (by omega) (by assumption)))) (by rfl) ?_
      refine xp_aload_1 (pc := 53) hX d_She_findOrAdd_53 ?_
      refine xv_V (Y2 := Y_Row_become) (pc := 54) hX [_] k_Row m_Row_become d_She_findOrAdd_54 l_She_42 rfl rfl (by simp [Value.category]) (by first | assumption | exact xup_s _ _ _ | exact xup_o (by omega) (by assumption) | exact xup_o (by omega) (xup_s _ _ _) | exact xup_o (by omega) (xup_o (by omega) (by assumption)) | exact xup_o (by omega) (xup_o (by omega) (xup_s _ _ _)) | exact xup_o (by omega) (xup_o (by omega) (xup_o (by omega) (by assumption)))) (c_Row_become d e3 ht (by omega) (by omega) (by omega) (by omega)) (by omega) (by omega) ?_
      rintro M2 ⟨a1, a2⟩
      have e1' : M2 a = some (.inr (1, [.ref (a + 1), .ref (a + 3), .int (nI e.1.1), .int (bI e.1.2.2.isNone), .int (bI e.2)])) := by rw [a2 a (by omega) (by omega)]; exact e1
      have e4' : RowAt M2 (a + 3) 200 v := e4.kept (a2 _ (by omega) (by omega)) (a2 _ (by omega) (by omega))
      obtain ⟨r1, r2, -⟩ := id e4'
      refine xp_aload_4 (pc := 57) hX d_She_findOrAdd_57 ?_
      refine xg_get (pc := 59) hX (j := 1) k_Ent d_She_findOrAdd_59 l_She_46 (by decide) (by first | assumption | exact xup_s _ _ _ | exact xup_o (by omega) (by assumption) | exact xup_o (by omega) (xup_s _ _ _) | exact xup_o (by omega) (xup_o (by omega) (by assumption)) | exact xup_o (by omega) (xup_o (by omega) (xup_s _ _ _)) | exact xup_o (by omega) (xup_o (by omega) (xup_o (by omega) (by assumption)))) (by rfl) ?_
      refine xv_V (Y2 := Y_Row_clear) (pc := 62) hX [] k_Row m_Row_clear d_She_findOrAdd_62 l_She_49 rfl rfl (by simp [Value.category]) (by first | assumption | exact xup_s _ _ _ | exact xup_o (by omega) (by assumption) | exact xup_o (by omega) (xup_s _ _ _) | exact xup_o (by omega) (xup_o (by omega) (by assumption)) | exact xup_o (by omega) (xup_o (by omega) (xup_s _ _ _)) | exact xup_o (by omega) (xup_o (by omega) (xup_o (by omega) (by assumption)))) (c_Row_clear (d + 2) e4') (by omega) (by omega) ?_
      rintro M3 ⟨b1, b2⟩
      have e1'' : M3 a = some (.inr (1, [.ref (a + 1), .ref (a + 3), .int (nI e.1.1), .int (bI e.1.2.2.isNone), .int (bI e.2)])) := by rw [b2 a (by omega) (by omega)]; exact e1'
      have h1' : M3 h = some (.inr (2, [.ref (h + 1), .int (nI es.length)])) := by rw [b2 h (by omega) (by omega), a2 h (by omega) (by omega)]; exact h1
      have a1' : RowAt M3 (a + 1) 200 nm := a1.kept (b2 _ (by omega) (by omega)) (b2 _ (by omega) (by omega))
      refine xp_aload_4 (pc := 65) hX d_She_findOrAdd_65 ?_
      refine xp_iload_2 (pc := 67) hX d_She_findOrAdd_67 ?_
      refine xg_put (pc := 68) hX (j := 2) k_Ent d_She_findOrAdd_68 l_She_22 (by decide) rfl (by first | assumption | exact xup_s _ _ _ | exact xup_o (by omega) (by assumption) | exact xup_o (by omega) (xup_s _ _ _) | exact xup_o (by omega) (xup_o (by omega) (by assumption)) | exact xup_o (by omega) (xup_o (by omega) (xup_s _ _ _)) | exact xup_o (by omega) (xup_o (by omega) (xup_o (by omega) (by assumption)))) (Nat.le_of_ble_eq_true rfl) rfl rfl (by simp only [List.set_cons_zero, List.set_cons_succ]; exact rfl) ?_
      refine xp_aload_4 (pc := 71) hX d_She_findOrAdd_71 ?_
      refine xg_iconst (pc := 73) hX (nI 0) d_She_findOrAdd_73 ci_iconst_0 ?_
      refine xg_put (pc := 74) hX (j := 3) k_Ent d_She_findOrAdd_74 l_She_52 (by decide) rfl (by first | assumption | exact xup_s _ _ _ | exact xup_o (by omega) (by assumption) | exact xup_o (by omega) (xup_s _ _ _) | exact xup_o (by omega) (xup_o (by omega) (by assumption)) | exact xup_o (by omega) (xup_o (by omega) (xup_s _ _ _)) | exact xup_o (by omega) (xup_o (by omega) (xup_o (by omega) (by assumption)))) (Nat.le_of_ble_eq_true rfl) (by first | rfl | decide) (by first | rfl | decide) (by simp only [List.set_cons_zero, List.set_cons_succ]; exact rfl) ?_
      refine xp_aload_4 (pc := 77) hX d_She_findOrAdd_77 ?_
      refine xg_iconst (pc := 79) hX (nI 0) d_She_findOrAdd_79 ci_iconst_0 ?_
      refine xg_put (pc := 80) hX (j := 4) k_Ent d_She_findOrAdd_80 l_She_56 (by decide) rfl (by first | assumption | exact xup_s _ _ _ | exact xup_o (by omega) (by assumption) | exact xup_o (by omega) (xup_s _ _ _) | exact xup_o (by omega) (xup_o (by omega) (by assumption)) | exact xup_o (by omega) (xup_o (by omega) (xup_s _ _ _)) | exact xup_o (by omega) (xup_o (by omega) (xup_o (by omega) (by assumption)))) (Nat.le_of_ble_eq_true rfl) (by first | rfl | decide) (by first | rfl | decide) (by simp only [List.set_cons_zero, List.set_cons_succ]; exact rfl) ?_
      refine xp_aload_0 (pc := 83) hX d_She_findOrAdd_83 ?_
      refine xg_dup (pc := 84) hX d_She_findOrAdd_84 rfl ?_
      refine xg_get (pc := 85) hX (j := 1) k_She d_She_findOrAdd_85 l_She_18 (by decide) (by first | assumption | exact xup_s _ _ _ | exact xup_o (by omega) (by assumption) | exact xup_o (by omega) (xup_s _ _ _) | exact xup_o (by omega) (xup_o (by omega) (by assumption)) | exact xup_o (by omega) (xup_o (by omega) (xup_s _ _ _)) | exact xup_o (by omega) (xup_o (by omega) (xup_o (by omega) (by assumption)))) (by rfl) ?_
      refine xg_iconst (pc := 88) hX (nI 1) d_She_findOrAdd_88 ci_iconst_1 ?_
      first | refine xn_iadd (pc := 89) hX d_She_findOrAdd_89 ?_ | refine xg_iadd (pc := 89) hX d_She_findOrAdd_89 ?_
      refine xg_put (pc := 90) hX (j := 1) k_She d_She_findOrAdd_90 l_She_18 (by decide) rfl (by first | assumption | exact xup_s _ _ _ | exact xup_o (by omega) (by assumption) | exact xup_o (by omega) (xup_s _ _ _) | exact xup_o (by omega) (xup_o (by omega) (by assumption)) | exact xup_o (by omega) (xup_o (by omega) (xup_s _ _ _)) | exact xup_o (by omega) (xup_o (by omega) (xup_o (by omega) (by assumption)))) (Nat.le_of_ble_eq_true rfl) rfl rfl (by simp only [List.set_cons_zero, List.set_cons_succ]; exact rfl) ?_
      refine xp_aload_4 (pc := 93) hX d_She_findOrAdd_93 ?_
      refine xg_aret (pc := 95) hX hE d_She_findOrAdd_95 rfl (Or.inr ⟨_, rfl⟩) (by omega) (by omega) ?_
      refine ⟨rfl, some _, rfl, Or.inr (Or.inl ⟨he, q, by rw [ha], ?_, ?_⟩)⟩
      · generalize hM4 : xup (xup (xup M3 a (.inr (1, [.ref (a + 1), .ref (a + 3), .int (nI p), .int (bI e.1.2.2.isNone), .int (bI e.2)]))) a (.inr (1, [.ref (a + 1), .ref (a + 3), .int (nI p), .int (nI 0), .int (bI e.2)]))) a (.inr (1, [.ref (a + 1), .ref (a + 3), .int (nI p), .int (nI 0), .int (nI 0)])) = M4
        have hM4a : M4 a = some (.inr (1, [.ref (a + 1), .ref (a + 3), .int (nI p), .int (nI 0), .int (nI 0)])) := by rw [← hM4]; exact xup_s _ _ _
        have hM4n : ∀ q, q ≠ a → M4 q = M3 q := fun q hq => by rw [← hM4, xup_n _ _ hq, xup_n _ _ hq, xup_n _ _ hq]
        have hfr : FrR M' M4 (h + 2 + 5 * g es.length) (h + 2 + 5 * g es.length + 5) := fun q hq => by
          rw [ha] at hq
          rw [hM4n q (by omega), b2 q (by omega) (by omega), a2 q (by omega) (by omega)]
        have hen : EnA M4 (h + 2 + 5 * g es.length) ((p, nm, some []), false) := by
          rw [ha]
          exact ⟨hM4a, hp, a1'.kept (hM4n _ (by omega)) (hM4n _ (by omega)), [], b1.kept (hM4n _ (by omega)) (hM4n _ (by omega)), fun u hu => Option.some.inj hu⟩
        obtain ⟨c1, c2, ⟨f', c3, c4⟩, c5, c6, c7⟩ := hs.1.set (i := es.length) q hfr hen
        refine ⟨fun j => if j = es.length then ((p, nm, some []), false) else L j, ⟨?_, by simp; omega, ⟨f', ?_, c4⟩, c5, c6, fun j hj => (c7 j hj).kept (fun q x _ => xup_n _ _ (by omega))⟩, ?_⟩
        · rw [xup_s]; simp
        · rw [xup_n _ _ (by omega)]; exact c3
        · intro j e' he'
          by_cases hj : j = es.length
          · subst hj
            simp at he'
            simp [he']
          · rw [List.getElem?_append] at he'
            split at he'
            · simp only [if_neg hj]
              exact hs.2 j e' he'
            · rename_i hlt
              have := (List.getElem?_eq_some_iff.mp he').1
              simp at this
              omega
      · intro q hq
        rw [xup_n _ _ (by omega), xup_n _ _ (by omega), xup_n _ _ (by omega), xup_n _ _ (by omega), b2 q (by omega) (by omega), a2 q (by omega) (by omega)]
    · refine xp_aloadN_3 (pc := 30) hX d_She_findOrAdd_30 ?_
      refine xg_aret (pc := 31) hX hE d_She_findOrAdd_31 rfl (Or.inl rfl) (by omega) (by omega) ?_
      exact ⟨rfl, none, rfl, Or.inr (Or.inr ⟨he, q, rfl, rfl⟩)⟩
