/-! constructors -/
theorem dv_Row : ∀ j, j < 2 → defaultValue (t_Row j) = vp_V [.null, .int 0] j := by decide
set_option maxHeartbeats 4000000 in
set_option maxRecDepth 100000 in
theorem c_Row_init (d : Nat) {M : xH} {sz r w : Nat} (hM : M r = some (.inr (0, [.null, .int 0]))) (hsz : sz = r + 1) (hw : w ≤ 1000) : xC (d + 1) 1 w Y_Row_init [.ref r, .int (nI w)] M sz (fun v M' sz' => v = none ∧ sz' = r + 2 ∧ RowAt M' r w [] ∧ FrR M M' r (r + 2)) := by
  refine xC_of (by decide) (Nat.le_of_ble_eq_true rfl) (by simp [Value.category]) (vs := [some (.ref r), some (.int (nI w))]) rfl (fun K hX hE => ?_)
  subst hsz
  refine xp_aload_0 (pc := 0) hX d_Row_init_0 ?_
  refine xg_oinit (pc := 1) hX d_Row_init_1 l_Row_3 wj_objM wj_objC (by show _ ≤ _ + _; omega) (by show _ ≤ 40 * _; simp [Value.category]; omega) ?_
  refine xp_aload_0 (pc := 4) hX d_Row_init_4 ?_
  refine xp_iload_1 (pc := 5) hX d_Row_init_5 ?_
  refine xg_iconst (pc := 6) hX (nI 0) d_Row_init_6 ci_iconst_0 ?_
  refine xg_max (pc := 7) hX d_Row_init_7 l_Row_9 wj_maxS wj_mathI wj_maxC (by show _ ≤ _ + _; omega) (by show _ ≤ 40 * _; simp [Value.category]; omega) (Nat.zero_le _) (Nat.zero_le _) ?_
  rw [if_neg (by rw [nI_ltI (by omega) (by omega)]; omega)]
  refine xg_newa (pc := 10) hX (t := 0) w d_Row_init_10 wa_byte rfl rfl ⟨0, rfl, rfl⟩ (fun C hC => by cases hC) (nI_pos (by omega)) (nI_clamp (by omega)) (by show w * 1 ≤ _; omega) (by simp only [xR]; omega) (by simp only [xR]; omega) (fun _ => ?_)
  refine xg_putF (pc := 12) hX (j := 0) k_Row d_Row_init_12 l_Row_15 (by decide) rfl rfl rfl (by first | assumption | exact xup_s _ _ _ | exact xup_o (by omega) (by assumption) | exact xup_o (by omega) (xup_s _ _ _) | exact xup_o (by omega) (xup_o (by omega) (by assumption)) | exact xup_o (by omega) (xup_o (by omega) (xup_s _ _ _)) | exact xup_o (by omega) (xup_o (by omega) (xup_o (by omega) (by assumption)))) (Nat.le_of_ble_eq_true rfl) rfl rfl (by simp only [List.set_cons_zero, List.set_cons_succ]; exact rfl) ?_
  refine xp_aload_0 (pc := 15) hX d_Row_init_15 ?_
  refine xg_iconst (pc := 16) hX (nI 0) d_Row_init_16 ci_iconst_0 ?_
  refine xg_put (pc := 17) hX (j := 1) k_Row d_Row_init_17 l_Row_21 (by decide) rfl (by first | assumption | exact xup_s _ _ _ | exact xup_o (by omega) (by assumption) | exact xup_o (by omega) (xup_s _ _ _) | exact xup_o (by omega) (xup_o (by omega) (by assumption)) | exact xup_o (by omega) (xup_o (by omega) (xup_s _ _ _)) | exact xup_o (by omega) (xup_o (by omega) (xup_o (by omega) (by assumption)))) (Nat.le_of_ble_eq_true rfl) rfl rfl (by simp only [List.set_cons_zero, List.set_cons_succ]; exact rfl) ?_
  refine xg_vret (pc := 20) hX hE d_Row_init_20 rfl (by omega) (by omega) ?_
  refine ⟨rfl, rfl, ⟨xup_s _ _ _, Nat.zero_le _, fun _ => 0, ?_, fun j b hj => by simp at hj⟩, fun q hq => ?_⟩
  · rw [xup_n _ _ (by omega), xup_n _ _ (by omega), xup_s]
  · rw [xup_n _ _ (by omega), xup_n _ _ (by omega), xup_n _ _ (by omega)]
theorem dv_Ent : ∀ j, j < 5 → defaultValue (t_Ent j) = vp_V [.null, .null, .int 0, .int 0, .int 0] j := by decide
theorem dv_She : ∀ j, j < 2 → defaultValue (t_She j) = vp_V [.null, .int 0] j := by decide
theorem dv_Sig : ∀ j, j < 3 → defaultValue (t_Sig j) = vp_V [.null, .int 0, .int 0] j := by decide
theorem dv_Poo : ∀ j, j < 3 → defaultValue (t_Poo j) = vp_V [.null, .int 0, .int 0] j := by decide
theorem dv_Rea : ∀ j, j < 8 → defaultValue (t_Rea j) = vp_V [.null, .null, .null, .null, .int 0, .int 0, .int 0, .int 0] j := by decide
theorem dv_Cut : ∀ j, j < 7 → defaultValue (t_Cut j) = vp_V [.null, .int 0, .int 0, .int 0, .int 0, .int 0, .int 0] j := by decide
set_option maxHeartbeats 4000000 in
set_option maxRecDepth 100000 in
theorem c_Ent_init (d : Nat) {M : xH} {sz a : Nat} (hM : M a = some (.inr (1, [.null, .null, .int 0, .int 0, .int 0]))) (hsz : sz = a + 1) : xC (d + 2) 4 404 Y_Ent_init [.ref a] M sz (fun v M' sz' => v = none ∧ sz' = a + 5 ∧ EnA M' a ((0, [], some []), false) ∧ FrR M M' a (a + 5)) := by
  refine xC_of (by decide) (Nat.le_of_ble_eq_true rfl) (by simp [Value.category]) (vs := [some (.ref a)]) rfl (fun K hX hE => ?_)
  subst hsz
  refine xp_aload_0 (pc := 0) hX d_Ent_init_0 ?_
  refine xg_oinit (pc := 1) hX d_Ent_init_1 l_Ent_3 wj_objM wj_objC (by show _ ≤ _ + _; omega) (by show _ ≤ 40 * _; simp [Value.category]; omega) ?_
  refine xp_aload_0 (pc := 4) hX d_Ent_init_4 ?_
  refine xg_new (pc := 5) hX [.null, .int 0] k_Row d_Ent_init_5 lc_Ent_9 kw_Row kz_Row dv_Row (by simp only [xR]; omega) (by simp only [xR]; omega) (fun _ => ?_)
  refine xg_dup (pc := 8) hX d_Ent_init_8 rfl ?_
  refine xg_sipush (pc := 9) hX (nI 200) d_Ent_init_9 ci_sipush_200 ?_
  refine xg_callI (Y2 := Y_Row_init) (pc := 12) hX [_] m_Row_init d_Ent_init_12 l_Ent_11 rfl rfl (by simp [Value.category]) (c_Row_init d (r := a + 1) (w := 200) (xup_s _ _ _) rfl (by omega)) (by omega) (by omega) ?_
  rintro v M1 sz1 ⟨rfl, rfl, a1, a2⟩
  have h1 := (a2 a (by omega)).trans ((xup_n _ _ (by omega)).trans hM)
  refine xg_putF (pc := 15) hX (j := 0) k_Ent d_Ent_init_15 l_Ent_14 (by decide) rfl rfl rfl (by first | assumption | exact xup_s _ _ _ | exact xup_o (by omega) (by assumption) | exact xup_o (by omega) (xup_s _ _ _) | exact xup_o (by omega) (xup_o (by omega) (by assumption)) | exact xup_o (by omega) (xup_o (by omega) (xup_s _ _ _)) | exact xup_o (by omega) (xup_o (by omega) (xup_o (by omega) (by assumption)))) (Nat.le_of_ble_eq_true rfl) rfl rfl (by simp only [List.set_cons_zero, List.set_cons_succ]; exact rfl) ?_
  refine xp_aload_0 (pc := 18) hX d_Ent_init_18 ?_
  refine xg_new (pc := 19) hX [.null, .int 0] k_Row d_Ent_init_19 lc_Ent_9 kw_Row kz_Row dv_Row (by simp only [xR]; omega) (by simp only [xR]; omega) (fun _ => ?_)
  refine xg_dup (pc := 22) hX d_Ent_init_22 rfl ?_
  refine xg_sipush (pc := 23) hX (nI 200) d_Ent_init_23 ci_sipush_200 ?_
  refine xg_callI (Y2 := Y_Row_init) (pc := 26) hX [_] m_Row_init d_Ent_init_26 l_Ent_11 rfl rfl (by simp [Value.category]) (c_Row_init d (r := a + 3) (w := 200) (xup_s _ _ _) rfl (by omega)) (by omega) (by omega) ?_
  rintro v M2 sz2 ⟨rfl, rfl, b1, b2⟩
  have h2 := (b2 a (by omega)).trans ((xup_n _ _ (by omega)).trans (xup_s _ _ _))
  refine xg_putF (pc := 29) hX (j := 1) k_Ent d_Ent_init_29 l_Ent_20 (by decide) rfl rfl rfl (by first | assumption | exact xup_s _ _ _ | exact xup_o (by omega) (by assumption) | exact xup_o (by omega) (xup_s _ _ _) | exact xup_o (by omega) (xup_o (by omega) (by assumption)) | exact xup_o (by omega) (xup_o (by omega) (xup_s _ _ _)) | exact xup_o (by omega) (xup_o (by omega) (xup_o (by omega) (by assumption)))) (Nat.le_of_ble_eq_true rfl) rfl rfl (by simp only [List.set_cons_zero, List.set_cons_succ]; exact rfl) ?_
  refine xp_aload_0 (pc := 32) hX d_Ent_init_32 ?_
  refine xg_iconst (pc := 33) hX (nI 0) d_Ent_init_33 ci_iconst_0 ?_
  refine xg_put (pc := 34) hX (j := 2) k_Ent d_Ent_init_34 l_Ent_23 (by decide) rfl (by first | assumption | exact xup_s _ _ _ | exact xup_o (by omega) (by assumption) | exact xup_o (by omega) (xup_s _ _ _) | exact xup_o (by omega) (xup_o (by omega) (by assumption)) | exact xup_o (by omega) (xup_o (by omega) (xup_s _ _ _)) | exact xup_o (by omega) (xup_o (by omega) (xup_o (by omega) (by assumption)))) (Nat.le_of_ble_eq_true rfl) rfl rfl (by simp only [List.set_cons_zero, List.set_cons_succ]; exact rfl) ?_
  refine xp_aload_0 (pc := 37) hX d_Ent_init_37 ?_
  refine xg_iconst (pc := 38) hX (nI 0) d_Ent_init_38 ci_iconst_0 ?_
  refine xg_put (pc := 39) hX (j := 3) k_Ent d_Ent_init_39 l_Ent_27 (by decide) rfl (by first | assumption | exact xup_s _ _ _ | exact xup_o (by omega) (by assumption) | exact xup_o (by omega) (xup_s _ _ _) | exact xup_o (by omega) (xup_o (by omega) (by assumption)) | exact xup_o (by omega) (xup_o (by omega) (xup_s _ _ _)) | exact xup_o (by omega) (xup_o (by omega) (xup_o (by omega) (by assumption)))) (Nat.le_of_ble_eq_true rfl) (by first | rfl | decide) (by first | rfl | decide) (by simp only [List.set_cons_zero, List.set_cons_succ]; exact rfl) ?_
  refine xp_aload_0 (pc := 42) hX d_Ent_init_42 ?_
  refine xg_iconst (pc := 43) hX (nI 0) d_Ent_init_43 ci_iconst_0 ?_
  refine xg_put (pc := 44) hX (j := 4) k_Ent d_Ent_init_44 l_Ent_31 (by decide) rfl (by first | assumption | exact xup_s _ _ _ | exact xup_o (by omega) (by assumption) | exact xup_o (by omega) (xup_s _ _ _) | exact xup_o (by omega) (xup_o (by omega) (by assumption)) | exact xup_o (by omega) (xup_o (by omega) (xup_s _ _ _)) | exact xup_o (by omega) (xup_o (by omega) (xup_o (by omega) (by assumption)))) (Nat.le_of_ble_eq_true rfl) (by first | rfl | decide) (by first | rfl | decide) (by simp only [List.set_cons_zero, List.set_cons_succ]; exact rfl) ?_
  refine xg_vret (pc := 47) hX hE d_Ent_init_47 rfl (by omega) (by omega) ?_
  refine ⟨rfl, rfl, ⟨xup_s _ _ _, by show 0 < 1000; omega, ?_, [], ?_, fun u hu => by cases hu; rfl⟩, fun q hq => ?_⟩
  · have c1 : RowAt M2 (a + 1) 200 [] := a1.kept (by rw [b2 _ (by omega), xup_n _ _ (by omega), xup_n _ _ (by omega)]) (by rw [b2 _ (by omega), xup_n _ _ (by omega), xup_n _ _ (by omega)])
    exact c1.kept (by rw [xup_n _ _ (by omega), xup_n _ _ (by omega), xup_n _ _ (by omega), xup_n _ _ (by omega)]) (by rw [xup_n _ _ (by omega), xup_n _ _ (by omega), xup_n _ _ (by omega), xup_n _ _ (by omega)])
  · exact b1.kept (by rw [xup_n _ _ (by omega), xup_n _ _ (by omega), xup_n _ _ (by omega), xup_n _ _ (by omega)]) (by rw [xup_n _ _ (by omega), xup_n _ _ (by omega), xup_n _ _ (by omega), xup_n _ _ (by omega)])
  · rw [xup_n _ _ (by omega), xup_n _ _ (by omega), xup_n _ _ (by omega), xup_n _ _ (by omega), b2 q (by omega), xup_n _ _ (by omega), xup_n _ _ (by omega), a2 q (by omega), xup_n _ _ (by omega)]
set_option maxHeartbeats 4000000 in
set_option maxRecDepth 100000 in
theorem c_Sig_init (d : Nat) {M : xH} {sz a : Nat} (hM : M a = some (.inr (3, [.null, .int 0, .int 0]))) (hsz : sz = a + 1) : xC (d + 2) 2 202 Y_Sig_init [.ref a] M sz (fun v M' sz' => v = none ∧ sz' = a + 3 ∧ SiA M' a (0, []) ∧ FrR M M' a (a + 3)) := by
  refine xC_of (by decide) (Nat.le_of_ble_eq_true rfl) (by simp [Value.category]) (vs := [some (.ref a)]) rfl (fun K hX hE => ?_)
  subst hsz
  refine xp_aload_0 (pc := 0) hX d_Sig_init_0 ?_
  refine xg_oinit (pc := 1) hX d_Sig_init_1 l_Sig_3 wj_objM wj_objC (by show _ ≤ _ + _; omega) (by show _ ≤ 40 * _; simp [Value.category]; omega) ?_
  refine xp_aload_0 (pc := 4) hX d_Sig_init_4 ?_
  refine xg_new (pc := 5) hX [.null, .int 0] k_Row d_Sig_init_5 lc_Sig_9 kw_Row kz_Row dv_Row (by simp only [xR]; omega) (by simp only [xR]; omega) (fun _ => ?_)
  refine xg_dup (pc := 8) hX d_Sig_init_8 rfl ?_
  refine xg_sipush (pc := 9) hX (nI 200) d_Sig_init_9 ci_sipush_200 ?_
  refine xg_callI (Y2 := Y_Row_init) (pc := 12) hX [_] m_Row_init d_Sig_init_12 l_Sig_11 rfl rfl (by simp [Value.category]) (c_Row_init d (r := a + 1) (w := 200) (xup_s _ _ _) rfl (by omega)) (by omega) (by omega) ?_
  rintro v M1 sz1 ⟨rfl, rfl, a1, a2⟩
  have h1 := (a2 a (by omega)).trans ((xup_n _ _ (by omega)).trans hM)
  refine xg_putF (pc := 15) hX (j := 0) k_Sig d_Sig_init_15 l_Sig_14 (by decide) rfl rfl rfl (by first | assumption | exact xup_s _ _ _ | exact xup_o (by omega) (by assumption) | exact xup_o (by omega) (xup_s _ _ _) | exact xup_o (by omega) (xup_o (by omega) (by assumption)) | exact xup_o (by omega) (xup_o (by omega) (xup_s _ _ _)) | exact xup_o (by omega) (xup_o (by omega) (xup_o (by omega) (by assumption)))) (Nat.le_of_ble_eq_true rfl) rfl rfl (by simp only [List.set_cons_zero, List.set_cons_succ]; exact rfl) ?_
  refine xp_aload_0 (pc := 18) hX d_Sig_init_18 ?_
  refine xg_iconst (pc := 19) hX (nI 0) d_Sig_init_19 ci_iconst_0 ?_
  refine xg_put (pc := 20) hX (j := 1) k_Sig d_Sig_init_20 l_Sig_20 (by decide) rfl (by first | assumption | exact xup_s _ _ _ | exact xup_o (by omega) (by assumption) | exact xup_o (by omega) (xup_s _ _ _) | exact xup_o (by omega) (xup_o (by omega) (by assumption)) | exact xup_o (by omega) (xup_o (by omega) (xup_s _ _ _)) | exact xup_o (by omega) (xup_o (by omega) (xup_o (by omega) (by assumption)))) (Nat.le_of_ble_eq_true rfl) rfl rfl (by simp only [List.set_cons_zero, List.set_cons_succ]; exact rfl) ?_
  refine xp_aload_0 (pc := 23) hX d_Sig_init_23 ?_
  refine xg_iconst (pc := 24) hX (nI 0) d_Sig_init_24 ci_iconst_0 ?_
  refine xg_put (pc := 25) hX (j := 2) k_Sig d_Sig_init_25 l_Sig_24 (by decide) rfl (by first | assumption | exact xup_s _ _ _ | exact xup_o (by omega) (by assumption) | exact xup_o (by omega) (xup_s _ _ _) | exact xup_o (by omega) (xup_o (by omega) (by assumption)) | exact xup_o (by omega) (xup_o (by omega) (xup_s _ _ _)) | exact xup_o (by omega) (xup_o (by omega) (xup_o (by omega) (by assumption)))) (Nat.le_of_ble_eq_true rfl) (by first | rfl | decide) (by first | rfl | decide) (by simp only [List.set_cons_zero, List.set_cons_succ]; exact rfl) ?_
  refine xg_vret (pc := 28) hX hE d_Sig_init_28 rfl (by omega) (by omega) ?_
  refine ⟨rfl, rfl, ⟨xup_s _ _ _, by show 0 < 1000; omega, ?_⟩, fun q hq => ?_⟩
  · exact a1.kept (by rw [xup_n _ _ (by omega), xup_n _ _ (by omega), xup_n _ _ (by omega)]) (by rw [xup_n _ _ (by omega), xup_n _ _ (by omega), xup_n _ _ (by omega)])
  · rw [xup_n _ _ (by omega), xup_n _ _ (by omega), xup_n _ _ (by omega), a2 q (by omega), xup_n _ _ (by omega)]
set_option maxHeartbeats 4000000 in
set_option maxRecDepth 100000 in
theorem c_Cut_init (d : Nat) {M : xH} {sz a : Nat} (hM : M a = some (.inr (6, [.null, .int 0, .int 0, .int 0, .int 0, .int 0, .int 0]))) (hsz : sz = a + 1) : xC (d + 2) 2 202 Y_Cut_init [.ref a] M sz (fun v M' sz' => v = none ∧ sz' = a + 3 ∧ CuA M' a [] 1 1 1 1 1 1 ∧ FrR M M' a (a + 3)) := by
  refine xC_of (by decide) (Nat.le_of_ble_eq_true rfl) (by simp [Value.category]) (vs := [some (.ref a)]) rfl (fun K hX hE => ?_)
  subst hsz
  refine xp_aload_0 (pc := 0) hX d_Cut_init_0 ?_
  refine xg_oinit (pc := 1) hX d_Cut_init_1 l_Cut_3 wj_objM wj_objC (by show _ ≤ _ + _; omega) (by show _ ≤ 40 * _; simp [Value.category]; omega) ?_
  refine xp_aload_0 (pc := 4) hX d_Cut_init_4 ?_
  refine xg_new (pc := 5) hX [.null, .int 0] k_Row d_Cut_init_5 lc_Cut_9 kw_Row kz_Row dv_Row (by simp only [xR]; omega) (by simp only [xR]; omega) (fun _ => ?_)
  refine xg_dup (pc := 8) hX d_Cut_init_8 rfl ?_
  refine xg_sipush (pc := 9) hX (nI 200) d_Cut_init_9 ci_sipush_200 ?_
  refine xg_callI (Y2 := Y_Row_init) (pc := 12) hX [_] m_Row_init d_Cut_init_12 l_Cut_11 rfl rfl (by simp [Value.category]) (c_Row_init d (r := a + 1) (w := 200) (xup_s _ _ _) rfl (by omega)) (by omega) (by omega) ?_
  rintro v M1 sz1 ⟨rfl, rfl, a1, a2⟩
  have h1 := (a2 a (by omega)).trans ((xup_n _ _ (by omega)).trans hM)
  refine xg_putF (pc := 15) hX (j := 0) k_Cut d_Cut_init_15 l_Cut_14 (by decide) rfl rfl rfl (by first | assumption | exact xup_s _ _ _ | exact xup_o (by omega) (by assumption) | exact xup_o (by omega) (xup_s _ _ _) | exact xup_o (by omega) (xup_o (by omega) (by assumption)) | exact xup_o (by omega) (xup_o (by omega) (xup_s _ _ _)) | exact xup_o (by omega) (xup_o (by omega) (xup_o (by omega) (by assumption)))) (Nat.le_of_ble_eq_true rfl) rfl rfl (by simp only [List.set_cons_zero, List.set_cons_succ]; exact rfl) ?_
  refine xp_aload_0 (pc := 18) hX d_Cut_init_18 ?_
  refine xg_iconst (pc := 19) hX (nI 1) d_Cut_init_19 ci_iconst_1 ?_
  refine xg_put (pc := 20) hX (j := 1) k_Cut d_Cut_init_20 l_Cut_20 (by decide) rfl (by first | assumption | exact xup_s _ _ _ | exact xup_o (by omega) (by assumption) | exact xup_o (by omega) (xup_s _ _ _) | exact xup_o (by omega) (xup_o (by omega) (by assumption)) | exact xup_o (by omega) (xup_o (by omega) (xup_s _ _ _)) | exact xup_o (by omega) (xup_o (by omega) (xup_o (by omega) (by assumption)))) (Nat.le_of_ble_eq_true rfl) rfl rfl (by simp only [List.set_cons_zero, List.set_cons_succ]; exact rfl) ?_
  refine xp_aload_0 (pc := 23) hX d_Cut_init_23 ?_
  refine xg_iconst (pc := 24) hX (nI 1) d_Cut_init_24 ci_iconst_1 ?_
  refine xg_put (pc := 25) hX (j := 2) k_Cut d_Cut_init_25 l_Cut_24 (by decide) rfl (by first | assumption | exact xup_s _ _ _ | exact xup_o (by omega) (by assumption) | exact xup_o (by omega) (xup_s _ _ _) | exact xup_o (by omega) (xup_o (by omega) (by assumption)) | exact xup_o (by omega) (xup_o (by omega) (xup_s _ _ _)) | exact xup_o (by omega) (xup_o (by omega) (xup_o (by omega) (by assumption)))) (Nat.le_of_ble_eq_true rfl) rfl rfl (by simp only [List.set_cons_zero, List.set_cons_succ]; exact rfl) ?_
  refine xp_aload_0 (pc := 28) hX d_Cut_init_28 ?_
  refine xg_iconst (pc := 29) hX (nI 1) d_Cut_init_29 ci_iconst_1 ?_
  refine xg_put (pc := 30) hX (j := 5) k_Cut d_Cut_init_30 l_Cut_27 (by decide) rfl (by first | assumption | exact xup_s _ _ _ | exact xup_o (by omega) (by assumption) | exact xup_o (by omega) (xup_s _ _ _) | exact xup_o (by omega) (xup_o (by omega) (by assumption)) | exact xup_o (by omega) (xup_o (by omega) (xup_s _ _ _)) | exact xup_o (by omega) (xup_o (by omega) (xup_o (by omega) (by assumption)))) (Nat.le_of_ble_eq_true rfl) rfl rfl (by simp only [List.set_cons_zero, List.set_cons_succ]; exact rfl) ?_
  refine xp_aload_0 (pc := 33) hX d_Cut_init_33 ?_
  refine xg_iconst (pc := 34) hX (nI 1) d_Cut_init_34 ci_iconst_1 ?_
  refine xg_put (pc := 35) hX (j := 6) k_Cut d_Cut_init_35 l_Cut_30 (by decide) rfl (by first | assumption | exact xup_s _ _ _ | exact xup_o (by omega) (by assumption) | exact xup_o (by omega) (xup_s _ _ _) | exact xup_o (by omega) (xup_o (by omega) (by assumption)) | exact xup_o (by omega) (xup_o (by omega) (xup_s _ _ _)) | exact xup_o (by omega) (xup_o (by omega) (xup_o (by omega) (by assumption)))) (Nat.le_of_ble_eq_true rfl) rfl rfl (by simp only [List.set_cons_zero, List.set_cons_succ]; exact rfl) ?_
  refine xp_aload_0 (pc := 38) hX d_Cut_init_38 ?_
  refine xg_iconst (pc := 39) hX (nI 1) d_Cut_init_39 ci_iconst_1 ?_
  refine xg_put (pc := 40) hX (j := 3) k_Cut d_Cut_init_40 l_Cut_33 (by decide) rfl (by first | assumption | exact xup_s _ _ _ | exact xup_o (by omega) (by assumption) | exact xup_o (by omega) (xup_s _ _ _) | exact xup_o (by omega) (xup_o (by omega) (by assumption)) | exact xup_o (by omega) (xup_o (by omega) (xup_s _ _ _)) | exact xup_o (by omega) (xup_o (by omega) (xup_o (by omega) (by assumption)))) (Nat.le_of_ble_eq_true rfl) rfl rfl (by simp only [List.set_cons_zero, List.set_cons_succ]; exact rfl) ?_
  refine xp_aload_0 (pc := 43) hX d_Cut_init_43 ?_
  refine xg_iconst (pc := 44) hX (nI 1) d_Cut_init_44 ci_iconst_1 ?_
  refine xg_put (pc := 45) hX (j := 4) k_Cut d_Cut_init_45 l_Cut_36 (by decide) rfl (by first | assumption | exact xup_s _ _ _ | exact xup_o (by omega) (by assumption) | exact xup_o (by omega) (xup_s _ _ _) | exact xup_o (by omega) (xup_o (by omega) (by assumption)) | exact xup_o (by omega) (xup_o (by omega) (xup_s _ _ _)) | exact xup_o (by omega) (xup_o (by omega) (xup_o (by omega) (by assumption)))) (Nat.le_of_ble_eq_true rfl) rfl rfl (by simp only [List.set_cons_zero, List.set_cons_succ]; exact rfl) ?_
  refine xg_vret (pc := 48) hX hE d_Cut_init_48 rfl (by omega) (by omega) ?_
  refine ⟨rfl, rfl, ⟨xup_s _ _ _, ?_⟩, fun q hq => ?_⟩
  · exact a1.kept (by repeat rw [xup_n _ _ (by omega)]) (by repeat rw [xup_n _ _ (by omega)])
  · repeat rw [xup_n _ _ (by omega)]
    rw [a2 q (by omega), xup_n _ _ (by omega)]
set_option maxHeartbeats 4000000 in
set_option maxRecDepth 100000 in
theorem c_Rea_init (d : Nat) {M : xH} {sz a : Nat} (hM : M a = some (.inr (5, [.null, .null, .null, .null, .int 0, .int 0, .int 0, .int 0]))) (hsz : sz = a + 1) : xC (d + 2) 5 2402 Y_Rea_init [.ref a] M sz (fun v M' sz' => v = none ∧ sz' = a + 6 ∧ ReA M' a [] [] 0 0 none ∧ FrR M M' a (a + 6)) := by
  refine xC_of (by decide) (Nat.le_of_ble_eq_true rfl) (by simp [Value.category]) (vs := [some (.ref a)]) rfl (fun K hX hE => ?_)
  subst hsz
  refine xp_aload_0 (pc := 0) hX d_Rea_init_0 ?_
  refine xg_oinit (pc := 1) hX d_Rea_init_1 l_Rea_3 wj_objM wj_objC (by show _ ≤ _ + _; omega) (by show _ ≤ 40 * _; simp [Value.category]; omega) ?_
  refine xp_aload_0 (pc := 4) hX d_Rea_init_4 ?_
  refine xg_new (pc := 5) hX [.null, .int 0] k_Row d_Rea_init_5 lc_Rea_9 kw_Row kz_Row dv_Row (by simp only [xR]; omega) (by simp only [xR]; omega) (fun _ => ?_)
  refine xg_dup (pc := 8) hX d_Rea_init_8 rfl ?_
  refine xg_sipush (pc := 9) hX (nI 600) d_Rea_init_9 ci_sipush_600 ?_
  refine xg_callI (Y2 := Y_Row_init) (pc := 12) hX [_] m_Row_init d_Rea_init_12 l_Rea_11 rfl rfl (by simp [Value.category]) (c_Row_init d (r := a + 1) (w := 600) (xup_s _ _ _) rfl (by omega)) (by omega) (by omega) ?_
  rintro v M1 sz1 ⟨rfl, rfl, a1, a2⟩
  have h1 := (a2 a (by omega)).trans ((xup_n _ _ (by omega)).trans hM)
  refine xg_putF (pc := 15) hX (j := 0) k_Rea d_Rea_init_15 l_Rea_14 (by decide) rfl rfl rfl (by first | assumption | exact xup_s _ _ _ | exact xup_o (by omega) (by assumption) | exact xup_o (by omega) (xup_s _ _ _) | exact xup_o (by omega) (xup_o (by omega) (by assumption)) | exact xup_o (by omega) (xup_o (by omega) (xup_s _ _ _)) | exact xup_o (by omega) (xup_o (by omega) (xup_o (by omega) (by assumption)))) (Nat.le_of_ble_eq_true rfl) rfl rfl (by simp only [List.set_cons_zero, List.set_cons_succ]; exact rfl) ?_
  refine xp_aload_0 (pc := 18) hX d_Rea_init_18 ?_
  refine xg_sipush (pc := 19) hX (nI 600) d_Rea_init_19 ci_sipush_600 ?_
  refine xg_newa (pc := 22) hX (t := 1) 600 d_Rea_init_22 wa_int rfl rfl ⟨0, rfl, rfl⟩ (fun C hC => by cases hC) (nI_pos (by omega)) (nI_clamp (by omega)) (by show 600 * 4 ≤ _; omega) (by simp only [xR]; omega) (by simp only [xR]; omega) (fun _ => ?_)
  refine xg_putF (pc := 24) hX (j := 1) k_Rea d_Rea_init_24 l_Rea_20 (by decide) rfl rfl rfl (by first | assumption | exact xup_s _ _ _ | exact xup_o (by omega) (by assumption) | exact xup_o (by omega) (xup_s _ _ _) | exact xup_o (by omega) (xup_o (by omega) (by assumption)) | exact xup_o (by omega) (xup_o (by omega) (xup_s _ _ _)) | exact xup_o (by omega) (xup_o (by omega) (xup_o (by omega) (by assumption)))) (Nat.le_of_ble_eq_true rfl) rfl rfl (by simp only [List.set_cons_zero, List.set_cons_succ]; exact rfl) ?_
  refine xp_aload_0 (pc := 27) hX d_Rea_init_27 ?_
  refine xg_sipush (pc := 28) hX (nI 600) d_Rea_init_28 ci_sipush_600 ?_
  refine xg_newa (pc := 31) hX (t := 1) 600 d_Rea_init_31 wa_int rfl rfl ⟨0, rfl, rfl⟩ (fun C hC => by cases hC) (nI_pos (by omega)) (nI_clamp (by omega)) (by show 600 * 4 ≤ _; omega) (by simp only [xR]; omega) (by simp only [xR]; omega) (fun _ => ?_)
  refine xg_putF (pc := 33) hX (j := 2) k_Rea d_Rea_init_33 l_Rea_24 (by decide) rfl rfl rfl (by first | assumption | exact xup_s _ _ _ | exact xup_o (by omega) (by assumption) | exact xup_o (by omega) (xup_s _ _ _) | exact xup_o (by omega) (xup_o (by omega) (by assumption)) | exact xup_o (by omega) (xup_o (by omega) (xup_s _ _ _)) | exact xup_o (by omega) (xup_o (by omega) (xup_o (by omega) (by assumption)))) (Nat.le_of_ble_eq_true rfl) rfl rfl (by simp only [List.set_cons_zero, List.set_cons_succ]; exact rfl) ?_
  refine xp_aload_0 (pc := 36) hX d_Rea_init_36 ?_
  refine xg_sipush (pc := 37) hX (nI 600) d_Rea_init_37 ci_sipush_600 ?_
  refine xg_newa (pc := 40) hX (t := 1) 600 d_Rea_init_40 wa_int rfl rfl ⟨0, rfl, rfl⟩ (fun C hC => by cases hC) (nI_pos (by omega)) (nI_clamp (by omega)) (by show 600 * 4 ≤ _; omega) (by simp only [xR]; omega) (by simp only [xR]; omega) (fun _ => ?_)
  refine xg_putF (pc := 42) hX (j := 3) k_Rea d_Rea_init_42 l_Rea_27 (by decide) rfl rfl rfl (by first | assumption | exact xup_s _ _ _ | exact xup_o (by omega) (by assumption) | exact xup_o (by omega) (xup_s _ _ _) | exact xup_o (by omega) (xup_o (by omega) (by assumption)) | exact xup_o (by omega) (xup_o (by omega) (xup_s _ _ _)) | exact xup_o (by omega) (xup_o (by omega) (xup_o (by omega) (by assumption)))) (Nat.le_of_ble_eq_true rfl) rfl rfl (by simp only [List.set_cons_zero, List.set_cons_succ]; exact rfl) ?_
  refine xp_aload_0 (pc := 45) hX d_Rea_init_45 ?_
  refine xg_iconst (pc := 46) hX (nI 0) d_Rea_init_46 ci_iconst_0 ?_
  refine xg_put (pc := 47) hX (j := 4) k_Rea d_Rea_init_47 l_Rea_30 (by decide) rfl (by first | assumption | exact xup_s _ _ _ | exact xup_o (by omega) (by assumption) | exact xup_o (by omega) (xup_s _ _ _) | exact xup_o (by omega) (xup_o (by omega) (by assumption)) | exact xup_o (by omega) (xup_o (by omega) (xup_s _ _ _)) | exact xup_o (by omega) (xup_o (by omega) (xup_o (by omega) (by assumption)))) (Nat.le_of_ble_eq_true rfl) rfl rfl (by simp only [List.set_cons_zero, List.set_cons_succ]; exact rfl) ?_
  refine xp_aload_0 (pc := 50) hX d_Rea_init_50 ?_
  refine xg_iconst (pc := 51) hX (nI 0) d_Rea_init_51 ci_iconst_0 ?_
  refine xg_put (pc := 52) hX (j := 5) k_Rea d_Rea_init_52 l_Rea_34 (by decide) rfl (by first | assumption | exact xup_s _ _ _ | exact xup_o (by omega) (by assumption) | exact xup_o (by omega) (xup_s _ _ _) | exact xup_o (by omega) (xup_o (by omega) (by assumption)) | exact xup_o (by omega) (xup_o (by omega) (xup_s _ _ _)) | exact xup_o (by omega) (xup_o (by omega) (xup_o (by omega) (by assumption)))) (Nat.le_of_ble_eq_true rfl) rfl rfl (by simp only [List.set_cons_zero, List.set_cons_succ]; exact rfl) ?_
  refine xp_aload_0 (pc := 55) hX d_Rea_init_55 ?_
  refine xg_iconst (pc := 56) hX (nI 0) d_Rea_init_56 ci_iconst_0 ?_
  refine xg_put (pc := 57) hX (j := 6) k_Rea d_Rea_init_57 l_Rea_37 (by decide) rfl (by first | assumption | exact xup_s _ _ _ | exact xup_o (by omega) (by assumption) | exact xup_o (by omega) (xup_s _ _ _) | exact xup_o (by omega) (xup_o (by omega) (by assumption)) | exact xup_o (by omega) (xup_o (by omega) (xup_s _ _ _)) | exact xup_o (by omega) (xup_o (by omega) (xup_o (by omega) (by assumption)))) (Nat.le_of_ble_eq_true rfl) rfl rfl (by simp only [List.set_cons_zero, List.set_cons_succ]; exact rfl) ?_
  refine xp_aload_0 (pc := 60) hX d_Rea_init_60 ?_
  refine xg_iconst (pc := 61) hX (nI 0) d_Rea_init_61 ci_iconst_0 ?_
  refine xg_put (pc := 62) hX (j := 7) k_Rea d_Rea_init_62 l_Rea_40 (by decide) rfl (by first | assumption | exact xup_s _ _ _ | exact xup_o (by omega) (by assumption) | exact xup_o (by omega) (xup_s _ _ _) | exact xup_o (by omega) (xup_o (by omega) (by assumption)) | exact xup_o (by omega) (xup_o (by omega) (xup_s _ _ _)) | exact xup_o (by omega) (xup_o (by omega) (xup_o (by omega) (by assumption)))) (Nat.le_of_ble_eq_true rfl) rfl rfl (by simp only [List.set_cons_zero, List.set_cons_succ]; exact rfl) ?_
  refine xg_vret (pc := 65) hX hE d_Rea_init_65 rfl (by omega) (by omega) ?_
  refine ⟨rfl, rfl, ⟨xup_s _ _ _, ?_, Nat.zero_le _, Nat.zero_le _, Nat.zero_le _, fun _ => 0, fun _ => 0, fun _ => 0, ?_, ?_, ?_, fun j e he => by simp at he⟩, fun q hq => ?_⟩
  · exact a1.kept (by repeat rw [xup_n _ _ (by omega)]) (by repeat rw [xup_n _ _ (by omega)])
  · repeat rw [xup_n _ _ (by omega)]
    exact xup_s _ _ _
  · repeat rw [xup_n _ _ (by omega)]
    exact xup_s _ _ _
  · repeat rw [xup_n _ _ (by omega)]
    exact xup_s _ _ _
  · repeat rw [xup_n _ _ (by omega)]
    rw [a2 q (by omega), xup_n _ _ (by omega)]
