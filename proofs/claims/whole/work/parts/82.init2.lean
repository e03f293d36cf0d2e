/-! constructors that make many -/
set_option maxHeartbeats 8000000 in
set_option maxRecDepth 100000 in
theorem c_She_init (d : Nat) {M : xH} {sz h : Nat} (hM : M h = some (.inr (2, [.null, .int 0]))) (hsz : sz = h + 1) : xC (d + 3) 501 41000 Y_She_init [.ref h] M sz (fun v M' sz' => v = none ∧ sz' = h + 502 ∧ ShA M' h (fun j => j) (fun _ => ((0, [], some []), false)) [] ∧ FrR M M' h (h + 502)) := by
  refine xC_of (by decide) (Nat.le_of_ble_eq_true rfl) (by simp [Value.category]) (vs := [some (.ref h), none]) rfl (fun K hX hE => ?_)
  subst hsz
  have loop : ∀ (r i : Nat) (M1 : xH) (f : Nat → Option Nat), 100 - i = r → i ≤ 100 → M1 h = some (.inr (2, [.ref (h + 1), .int 0])) → M1 (h + 1) = some (.inl (2, 100, .inr (.inr (.inr (.inr f))))) → (∀ j, j < i → f j = some (h + 2 + 5 * j)) → (∀ j, j < i → EnA M1 (h + 2 + 5 * j) ((0, [], some []), false)) → (∀ q, (q < h ∨ h + 2 + 5 * i ≤ q) → M1 q = M q) → xG K 15 [some (.ref h), some (.int (nI i))] [] M1 (h + 2 + 5 * i) (1 + 5 * i) (100 + 409 * i) := by
    intro r
    induction r with
    | zero =>
      intro i M1 f hr hi h0 h1 hf hen hq
      have hi2 : i = 100 := by omega
      subst hi2
      refine xp_iload_1 (pc := 15) hX d_She_init_15 ?_
      refine xp_aload_0 (pc := 16) hX d_She_init_16 ?_
      refine xg_get (pc := 17) hX (j := 0) k_She d_She_init_17 l_She_11 (by decide) (by first | assumption | exact xup_s _ _ _ | exact xup_o (by omega) (by assumption) | exact xup_o (by omega) (xup_s _ _ _) | exact xup_o (by omega) (xup_o (by omega) (by assumption)) | exact xup_o (by omega) (xup_o (by omega) (xup_s _ _ _)) | exact xup_o (by omega) (xup_o (by omega) (xup_o (by omega) (by assumption)))) (by rfl) ?_
      refine xn_alen (pc := 20) hX (t := 2) d_She_init_20 rfl (by first | assumption | exact xup_s _ _ _ | exact xup_o (by omega) (by assumption) | exact xup_o (by omega) (xup_s _ _ _) | exact xup_o (by omega) (xup_o (by omega) (by assumption)) | exact xup_o (by omega) (xup_o (by omega) (xup_s _ _ _)) | exact xup_o (by omega) (xup_o (by omega) (xup_o (by omega) (by assumption)))) ?_
      refine xn_icmp_ge (pc := 21) hX 43 d_She_init_21 (by decide) (by omega) (by omega) (fun _ => ?_) (fun z => absurd z (by omega))
      refine xp_aload_0 (pc := 43) hX d_She_init_43 ?_
      refine xg_iconst (pc := 44) hX (nI 0) d_She_init_44 ci_iconst_0 ?_
      refine xg_put (pc := 45) hX (j := 1) k_She d_She_init_45 l_She_18 (by decide) rfl (by first | assumption | exact xup_s _ _ _ | exact xup_o (by omega) (by assumption) | exact xup_o (by omega) (xup_s _ _ _) | exact xup_o (by omega) (xup_o (by omega) (by assumption)) | exact xup_o (by omega) (xup_o (by omega) (xup_s _ _ _)) | exact xup_o (by omega) (xup_o (by omega) (xup_o (by omega) (by assumption)))) (Nat.le_of_ble_eq_true rfl) rfl rfl (by simp only [List.set_cons_zero, List.set_cons_succ]; exact rfl) ?_
      refine xg_vret (pc := 48) hX hE d_She_init_48 rfl (by omega) (by omega) ?_
      refine ⟨rfl, rfl, ⟨⟨xup_s _ _ _, by simp, ⟨f, by rw [xup_n _ _ (by omega)]; exact h1, hf⟩, fun j hj => hj, fun a b _ _ e => e, fun j hj => (hen j hj).kept (fun q a b => xup_n _ _ (by omega))⟩, fun j e he => by simp at he⟩, fun q hq1 => ?_⟩
      rw [xup_n _ _ (by omega)]
      exact hq q (by omega)
    | succ r ih =>
      intro i M1 f hr hi h0 h1 hf hen hq
      refine xp_iload_1 (pc := 15) hX d_She_init_15 ?_
      refine xp_aload_0 (pc := 16) hX d_She_init_16 ?_
      refine xg_get (pc := 17) hX (j := 0) k_She d_She_init_17 l_She_11 (by decide) (by first | assumption | exact xup_s _ _ _ | exact xup_o (by omega) (by assumption) | exact xup_o (by omega) (xup_s _ _ _) | exact xup_o (by omega) (xup_o (by omega) (by assumption)) | exact xup_o (by omega) (xup_o (by omega) (xup_s _ _ _)) | exact xup_o (by omega) (xup_o (by omega) (xup_o (by omega) (by assumption)))) (by rfl) ?_
      refine xn_alen (pc := 20) hX (t := 2) d_She_init_20 rfl (by first | assumption | exact xup_s _ _ _ | exact xup_o (by omega) (by assumption) | exact xup_o (by omega) (xup_s _ _ _) | exact xup_o (by omega) (xup_o (by omega) (by assumption)) | exact xup_o (by omega) (xup_o (by omega) (xup_s _ _ _)) | exact xup_o (by omega) (xup_o (by omega) (xup_o (by omega) (by assumption)))) ?_
      refine xn_icmp_ge (pc := 21) hX 43 d_She_init_21 (by decide) (by omega) (by omega) (fun z => absurd z (by omega)) (fun _ => ?_)
      refine xp_aload_0 (pc := 24) hX d_She_init_24 ?_
      refine xg_get (pc := 25) hX (j := 0) k_She d_She_init_25 l_She_11 (by decide) (by first | assumption | exact xup_s _ _ _ | exact xup_o (by omega) (by assumption) | exact xup_o (by omega) (xup_s _ _ _) | exact xup_o (by omega) (xup_o (by omega) (by assumption)) | exact xup_o (by omega) (xup_o (by omega) (xup_s _ _ _)) | exact xup_o (by omega) (xup_o (by omega) (xup_o (by omega) (by assumption)))) (by rfl) ?_
      refine xp_iload_1 (pc := 28) hX d_She_init_28 ?_
      refine xg_new (pc := 29) hX [.null, .null, .int 0, .int 0, .int 0] k_Ent d_She_init_29 lc_She_9 kw_Ent kz_Ent dv_Ent (by simp only [xR]; omega) (by simp only [xR]; omega) (fun _ => ?_)
      refine xg_dup (pc := 32) hX d_She_init_32 rfl ?_
      refine xg_callI (Y2 := Y_Ent_init) (pc := 33) hX [] m_Ent_init d_She_init_33 l_She_17 rfl rfl (by simp [Value.category]) (c_Ent_init d (a := h + 2 + 5 * i) (xup_s _ _ _) rfl) (by omega) (by omega) ?_
      rintro v M2 sz2 ⟨rfl, rfl, a1, a2⟩
      have g0 := (a2 h (by omega)).trans ((xup_n _ _ (by omega)).trans h0)
      have g1 := (a2 (h + 1) (by omega)).trans ((xup_n _ _ (by omega)).trans h1)
      have g2 := a1.1
      refine xn_aast (pc := 36) hX (t := 2) k_Ent d_She_init_36 rfl (by first | assumption | exact xup_s _ _ _ | exact xup_o (by omega) (by assumption) | exact xup_o (by omega) (xup_s _ _ _) | exact xup_o (by omega) (xup_o (by omega) (by assumption)) | exact xup_o (by omega) (xup_o (by omega) (xup_s _ _ _)) | exact xup_o (by omega) (xup_o (by omega) (xup_o (by omega) (by assumption)))) (by first | assumption | exact xup_s _ _ _ | exact xup_o (by omega) (by assumption) | exact xup_o (by omega) (xup_s _ _ _) | exact xup_o (by omega) (xup_o (by omega) (by assumption)) | exact xup_o (by omega) (xup_o (by omega) (xup_s _ _ _)) | exact xup_o (by omega) (xup_o (by omega) (xup_o (by omega) (by assumption)))) (by omega) (by omega) ?_
      refine xp_inc_1 (pc := 37) hX d_She_init_37 (by decide) ?_
      refine xg_goto (pc := 40) hX 15 d_She_init_40 (by decide) ?_
      have := ih (i + 1) (xup M2 (h + 1) (.inl (2, 100, .inr (.inr (.inr (.inr (va_up f i (some (h + 2 + 5 * i))))))))) (va_up f i (some (h + 2 + 5 * i))) (by omega) (by omega) (by rw [xup_n _ _ (by omega)]; exact g0) (xup_s _ _ _) (fun j hj => by
        unfold va_up
        by_cases e : j = i
        · subst e; simp
        · have := hf j (by omega)
          simp [e, this]) (fun j hj => by
        by_cases e : j = i
        · subst e
          exact a1.kept (fun q a b => xup_n _ _ (by omega))
        · refine (hen j (by omega)).kept (fun q a b => ?_)
          rw [xup_n _ _ (by omega), a2 q (by omega), xup_n _ _ (by omega)]) (fun q hq1 => by
        rw [xup_n _ _ (by omega), a2 q (by omega), xup_n _ _ (by omega)]
        exact hq q (by omega))
      rw [show h + 2 + 5 * (i + 1) = h + 2 + 5 * i + 5 by omega, show 1 + 5 * (i + 1) = 1 + 5 * i + 1 + 4 by omega, show 100 + 409 * (i + 1) = 100 + 409 * i + 5 + 404 by omega] at this
      exact this
  refine xp_aload_0 (pc := 0) hX d_She_init_0 ?_
  refine xg_oinit (pc := 1) hX d_She_init_1 l_She_3 wj_objM wj_objC (by show _ ≤ _ + _; omega) (by show _ ≤ 40 * _; simp [Value.category]; omega) ?_
  refine xp_aload_0 (pc := 4) hX d_She_init_4 ?_
  refine xg_bipush (pc := 5) hX (nI 100) d_She_init_5 ci_bipush_100 ?_
  refine xg_newq (pc := 7) hX (t := 2) 100 d_She_init_7 lc_She_9 (by decide) rfl (nI_pos (by omega)) (nI_clamp (by omega)) (by omega) (by simp only [xR]; omega) (by simp only [xR]; omega) (fun _ => ?_)
  refine xg_putF (pc := 10) hX (j := 0) k_She d_She_init_10 l_She_11 (by decide) rfl rfl rfl (by first | assumption | exact xup_s _ _ _ | exact xup_o (by omega) (by assumption) | exact xup_o (by omega) (xup_s _ _ _) | exact xup_o (by omega) (xup_o (by omega) (by assumption)) | exact xup_o (by omega) (xup_o (by omega) (xup_s _ _ _)) | exact xup_o (by omega) (xup_o (by omega) (xup_o (by omega) (by assumption)))) (Nat.le_of_ble_eq_true rfl) rfl rfl (by simp only [List.set_cons_zero, List.set_cons_succ]; exact rfl) ?_
  refine xg_iconst (pc := 13) hX (nI 0) d_She_init_13 ci_iconst_0 ?_
  refine xp_istore_1 (pc := 14) hX d_She_init_14 (by decide) ?_
  have := loop 100 0 (xup (xup M (h + 1) (.inl (2, 100, .inr (.inr (.inr (.inr (fun _ => none))))))) h (.inr (2, [.ref (h + 1), .int 0]))) (fun _ => none) (by omega) (by omega) (xup_s _ _ _) (by rw [xup_n _ _ (by omega), xup_s]) (fun j hj => absurd hj (by omega)) (fun j hj => absurd hj (by omega)) (fun q hq => by rw [xup_n _ _ (by omega), xup_n _ _ (by omega)])
  exact this
set_option maxHeartbeats 8000000 in
set_option maxRecDepth 100000 in
theorem c_Poo_init (d : Nat) {M : xH} {sz h : Nat} (hM : M h = some (.inr (4, [.null, .int 0, .int 0]))) (hsz : sz = h + 1) : xC (d + 3) 253 17304 Y_Poo_init [.ref h] M sz (fun v M' sz' => v = none ∧ sz' = h + 254 ∧ PoA M' h 1 [] ∧ FrR M M' h (h + 254)) := by
  refine xC_of (by decide) (Nat.le_of_ble_eq_true rfl) (by simp [Value.category]) (vs := [some (.ref h), none]) rfl (fun K hX hE => ?_)
  subst hsz
  have loop : ∀ (r i : Nat) (M1 : xH) (f : Nat → Option Nat), 84 - i = r → i ≤ 84 → M1 h = some (.inr (4, [.ref (h + 1), .int 0, .int 0])) → M1 (h + 1) = some (.inl (3, 84, .inr (.inr (.inr (.inr f))))) → (∀ j, j < i → f j = some (h + 2 + 3 * j)) → (∀ j, j < i → SiA M1 (h + 2 + 3 * j) (0, [])) → (∀ q, (q < h ∨ h + 2 + 3 * i ≤ q) → M1 q = M q) → xG K 15 [some (.ref h), some (.int (nI i))] [] M1 (h + 2 + 3 * i) (1 + 3 * i) (84 + 205 * i) := by
    intro r
    induction r with
    | zero =>
      intro i M1 f hr hi h0 h1 hf hen hq
      have hi2 : i = 84 := by omega
      subst hi2
      refine xp_iload_1 (pc := 15) hX d_Poo_init_15 ?_
      refine xp_aload_0 (pc := 16) hX d_Poo_init_16 ?_
      refine xg_get (pc := 17) hX (j := 0) k_Poo d_Poo_init_17 l_Poo_11 (by decide) (by first | assumption | exact xup_s _ _ _ | exact xup_o (by omega) (by assumption) | exact xup_o (by omega) (xup_s _ _ _) | exact xup_o (by omega) (xup_o (by omega) (by assumption)) | exact xup_o (by omega) (xup_o (by omega) (xup_s _ _ _)) | exact xup_o (by omega) (xup_o (by omega) (xup_o (by omega) (by assumption)))) (by rfl) ?_
      refine xn_alen (pc := 20) hX (t := 3) d_Poo_init_20 rfl (by first | assumption | exact xup_s _ _ _ | exact xup_o (by omega) (by assumption) | exact xup_o (by omega) (xup_s _ _ _) | exact xup_o (by omega) (xup_o (by omega) (by assumption)) | exact xup_o (by omega) (xup_o (by omega) (xup_s _ _ _)) | exact xup_o (by omega) (xup_o (by omega) (xup_o (by omega) (by assumption)))) ?_
      refine xn_icmp_ge (pc := 21) hX 43 d_Poo_init_21 (by decide) (by omega) (by omega) (fun _ => ?_) (fun z => absurd z (by omega))
      refine xp_aload_0 (pc := 43) hX d_Poo_init_43 ?_
      refine xg_iconst (pc := 44) hX (nI 0) d_Poo_init_44 ci_iconst_0 ?_
      refine xg_put (pc := 45) hX (j := 1) k_Poo d_Poo_init_45 l_Poo_18 (by decide) rfl (by first | assumption | exact xup_s _ _ _ | exact xup_o (by omega) (by assumption) | exact xup_o (by omega) (xup_s _ _ _) | exact xup_o (by omega) (xup_o (by omega) (by assumption)) | exact xup_o (by omega) (xup_o (by omega) (xup_s _ _ _)) | exact xup_o (by omega) (xup_o (by omega) (xup_o (by omega) (by assumption)))) (Nat.le_of_ble_eq_true rfl) rfl rfl (by simp only [List.set_cons_zero, List.set_cons_succ]; exact rfl) ?_
      refine xp_aload_0 (pc := 48) hX d_Poo_init_48 ?_
      refine xg_iconst (pc := 49) hX (nI 1) d_Poo_init_49 ci_iconst_1 ?_
      refine xg_put (pc := 50) hX (j := 2) k_Poo d_Poo_init_50 l_Poo_22 (by decide) rfl (by first | assumption | exact xup_s _ _ _ | exact xup_o (by omega) (by assumption) | exact xup_o (by omega) (xup_s _ _ _) | exact xup_o (by omega) (xup_o (by omega) (by assumption)) | exact xup_o (by omega) (xup_o (by omega) (xup_s _ _ _)) | exact xup_o (by omega) (xup_o (by omega) (xup_o (by omega) (by assumption)))) (Nat.le_of_ble_eq_true rfl) rfl rfl (by simp only [List.set_cons_zero, List.set_cons_succ]; exact rfl) ?_
      refine xg_vret (pc := 53) hX hE d_Poo_init_53 rfl (by omega) (by omega) ?_
      refine ⟨rfl, rfl, ⟨fun _ => (0, []), ⟨xup_s _ _ _, by simp, by omega, by omega, ⟨f, by rw [xup_n _ _ (by omega), xup_n _ _ (by omega)]; exact h1, hf⟩, fun j hj => (hen j hj).kept (fun q a b => by rw [xup_n _ _ (by omega), xup_n _ _ (by omega)])⟩, fun j e he => by simp at he⟩, fun q hq1 => ?_⟩
      rw [xup_n _ _ (by omega), xup_n _ _ (by omega)]
      exact hq q (by omega)
    | succ r ih =>
      intro i M1 f hr hi h0 h1 hf hen hq
      refine xp_iload_1 (pc := 15) hX d_Poo_init_15 ?_
      refine xp_aload_0 (pc := 16) hX d_Poo_init_16 ?_
      refine xg_get (pc := 17) hX (j := 0) k_Poo d_Poo_init_17 l_Poo_11 (by decide) (by first | assumption | exact xup_s _ _ _ | exact xup_o (by omega) (by assumption) | exact xup_o (by omega) (xup_s _ _ _) | exact xup_o (by omega) (xup_o (by omega) (by assumption)) | exact xup_o (by omega) (xup_o (by omega) (xup_s _ _ _)) | exact xup_o (by omega) (xup_o (by omega) (xup_o (by omega) (by assumption)))) (by rfl) ?_
      refine xn_alen (pc := 20) hX (t := 3) d_Poo_init_20 rfl (by first | assumption | exact xup_s _ _ _ | exact xup_o (by omega) (by assumption) | exact xup_o (by omega) (xup_s _ _ _) | exact xup_o (by omega) (xup_o (by omega) (by assumption)) | exact xup_o (by omega) (xup_o (by omega) (xup_s _ _ _)) | exact xup_o (by omega) (xup_o (by omega) (xup_o (by omega) (by assumption)))) ?_
      refine xn_icmp_ge (pc := 21) hX 43 d_Poo_init_21 (by decide) (by omega) (by omega) (fun z => absurd z (by omega)) (fun _ => ?_)
      refine xp_aload_0 (pc := 24) hX d_Poo_init_24 ?_
      refine xg_get (pc := 25) hX (j := 0) k_Poo d_Poo_init_25 l_Poo_11 (by decide) (by first | assumption | exact xup_s _ _ _ | exact xup_o (by omega) (by assumption) | exact xup_o (by omega) (xup_s _ _ _) | exact xup_o (by omega) (xup_o (by omega) (by assumption)) | exact xup_o (by omega) (xup_o (by omega) (xup_s _ _ _)) | exact xup_o (by omega) (xup_o (by omega) (xup_o (by omega) (by assumption)))) (by rfl) ?_
      refine xp_iload_1 (pc := 28) hX d_Poo_init_28 ?_
      refine xg_new (pc := 29) hX [.null, .int 0, .int 0] k_Sig d_Poo_init_29 lc_Poo_9 kw_Sig kz_Sig dv_Sig (by simp only [xR]; omega) (by simp only [xR]; omega) (fun _ => ?_)
      refine xg_dup (pc := 32) hX d_Poo_init_32 rfl ?_
      refine xg_callI (Y2 := Y_Sig_init) (pc := 33) hX [] m_Sig_init d_Poo_init_33 l_Poo_17 rfl rfl (by simp [Value.category]) (c_Sig_init d (a := h + 2 + 3 * i) (xup_s _ _ _) rfl) (by omega) (by omega) ?_
      rintro v M2 sz2 ⟨rfl, rfl, a1, a2⟩
      have g0 := (a2 h (by omega)).trans ((xup_n _ _ (by omega)).trans h0)
      have g1 := (a2 (h + 1) (by omega)).trans ((xup_n _ _ (by omega)).trans h1)
      have g2 := a1.1
      refine xn_aast (pc := 36) hX (t := 3) k_Sig d_Poo_init_36 rfl (by first | assumption | exact xup_s _ _ _ | exact xup_o (by omega) (by assumption) | exact xup_o (by omega) (xup_s _ _ _) | exact xup_o (by omega) (xup_o (by omega) (by assumption)) | exact xup_o (by omega) (xup_o (by omega) (xup_s _ _ _)) | exact xup_o (by omega) (xup_o (by omega) (xup_o (by omega) (by assumption)))) (by first | assumption | exact xup_s _ _ _ | exact xup_o (by omega) (by assumption) | exact xup_o (by omega) (xup_s _ _ _) | exact xup_o (by omega) (xup_o (by omega) (by assumption)) | exact xup_o (by omega) (xup_o (by omega) (xup_s _ _ _)) | exact xup_o (by omega) (xup_o (by omega) (xup_o (by omega) (by assumption)))) (by omega) (by omega) ?_
      refine xp_inc_1 (pc := 37) hX d_Poo_init_37 (by decide) ?_
      refine xg_goto (pc := 40) hX 15 d_Poo_init_40 (by decide) ?_
      have := ih (i + 1) (xup M2 (h + 1) (.inl (3, 84, .inr (.inr (.inr (.inr (va_up f i (some (h + 2 + 3 * i))))))))) (va_up f i (some (h + 2 + 3 * i))) (by omega) (by omega) (by rw [xup_n _ _ (by omega)]; exact g0) (xup_s _ _ _) (fun j hj => by
        unfold va_up
        by_cases e : j = i
        · subst e; simp
        · have := hf j (by omega)
          simp [e, this]) (fun j hj => by
        by_cases e : j = i
        · subst e
          exact a1.kept (fun q a b => xup_n _ _ (by omega))
        · refine (hen j (by omega)).kept (fun q a b => ?_)
          rw [xup_n _ _ (by omega), a2 q (by omega), xup_n _ _ (by omega)]) (fun q hq1 => by
        rw [xup_n _ _ (by omega), a2 q (by omega), xup_n _ _ (by omega)]
        exact hq q (by omega))
      rw [show h + 2 + 3 * (i + 1) = h + 2 + 3 * i + 3 by omega, show 1 + 3 * (i + 1) = 1 + 3 * i + 1 + 2 by omega, show 84 + 205 * (i + 1) = 84 + 205 * i + 3 + 202 by omega] at this
      exact this
  refine xp_aload_0 (pc := 0) hX d_Poo_init_0 ?_
  refine xg_oinit (pc := 1) hX d_Poo_init_1 l_Poo_3 wj_objM wj_objC (by show _ ≤ _ + _; omega) (by show _ ≤ 40 * _; simp [Value.category]; omega) ?_
  refine xp_aload_0 (pc := 4) hX d_Poo_init_4 ?_
  refine xg_bipush (pc := 5) hX (nI 84) d_Poo_init_5 ci_bipush_84 ?_
  refine xg_newq (pc := 7) hX (t := 3) 84 d_Poo_init_7 lc_Poo_9 (by decide) rfl (nI_pos (by omega)) (nI_clamp (by omega)) (by omega) (by simp only [xR]; omega) (by simp only [xR]; omega) (fun _ => ?_)
  refine xg_putF (pc := 10) hX (j := 0) k_Poo d_Poo_init_10 l_Poo_11 (by decide) rfl rfl rfl (by first | assumption | exact xup_s _ _ _ | exact xup_o (by omega) (by assumption) | exact xup_o (by omega) (xup_s _ _ _) | exact xup_o (by omega) (xup_o (by omega) (by assumption)) | exact xup_o (by omega) (xup_o (by omega) (xup_s _ _ _)) | exact xup_o (by omega) (xup_o (by omega) (xup_o (by omega) (by assumption)))) (Nat.le_of_ble_eq_true rfl) rfl rfl (by simp only [List.set_cons_zero, List.set_cons_succ]; exact rfl) ?_
  refine xg_iconst (pc := 13) hX (nI 0) d_Poo_init_13 ci_iconst_0 ?_
  refine xp_istore_1 (pc := 14) hX d_Poo_init_14 (by decide) ?_
  have := loop 84 0 (xup (xup M (h + 1) (.inl (3, 84, .inr (.inr (.inr (.inr (fun _ => none))))))) h (.inr (4, [.ref (h + 1), .int 0, .int 0]))) (fun _ => none) (by omega) (by omega) (xup_s _ _ _) (by rw [xup_n _ _ (by omega), xup_s]) (fun j hj => absurd hj (by omega)) (fun j hj => absurd hj (by omega)) (fun q hq => by rw [xup_n _ _ (by omega), xup_n _ _ (by omega)])
  exact this
