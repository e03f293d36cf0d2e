/-! NameRoom$Shelf: sweeping -/
def lst {α : Type} (L : Nat → α) (n : Nat) : List α := (List.range n).map L
theorem lst_0 {α : Type} (L : Nat → α) : lst L 0 = [] := rfl
theorem lst_s {α : Type} (L : Nat → α) (n : Nat) : lst L (n + 1) = lst L n ++ [L n] := by simp [lst, List.range_succ]
theorem lst_len {α : Type} (L : Nat → α) (n : Nat) : (lst L n).length = n := by simp [lst]
theorem lst_at {α : Type} (L : Nat → α) {n j : Nat} (h : j < n) : (lst L n)[j]? = some (L j) := by simp [lst, h]
theorem lst_ext {α : Type} {L L' : Nat → α} {n : Nat} (h : ∀ j, j < n → L j = L' j) : lst L n = lst L' n := by
  unfold lst
  exact List.map_congr_left (fun j hj => h j (List.mem_range.mp hj))
theorem ShR.set {M M' : xH} {h n i : Nat} {g : Nat → Nat} {L : Nat → xEn × Bool} {e' : xEn × Bool} (hs : ShR M h n g L) (hi : i < 100) (hf : FrR M M' (h + 2 + 5 * g i) (h + 2 + 5 * g i + 5)) (he : EnA M' (h + 2 + 5 * g i) e') : ShR M' h n g (fun j => if j = i then e' else L j) := by
  obtain ⟨h1, h2, ⟨f, h3, h4⟩, h5, h6, h7⟩ := hs
  refine ⟨by rw [hf h (by omega)]; exact h1, h2, ⟨f, by rw [hf _ (by omega)]; exact h3, h4⟩, h5, h6, fun j hj => ?_⟩
  by_cases hji : j = i
  · subst hji
    simp only [if_true]
    exact he
  · simp only [if_neg hji]
    refine (h7 j hj).kept (fun q a b => hf q ?_)
    have : g j ≠ g i := fun q => hji (h6 j i hj hi q)
    omega
set_option maxHeartbeats 4000000 in
set_option maxRecDepth 100000 in
theorem c_She_sweep (d : Nat) {M : xH} {sz h n : Nat} {g : Nat → Nat} {L : Nat → xEn × Bool} (hs : ShR M h n g L) : xC d 0 0 Y_She_sweep [.ref h] M sz (qv sz (fun M' => (∃ k g' L', ShR M' h k g' L' ∧ lst L' k = (lst L n).filter (fun e => !e.2)) ∧ Fr2 M M' h)) := by
  refine xC_of (by decide) (Nat.le_of_ble_eq_true rfl) (by simp [Value.category]) (vs := [some (.ref h), none, none, none]) rfl (fun K hX hE => ?_)
  have hn : n ≤ 100 := hs.2.1
  have loop : ∀ (m i k : Nat) (M1 : xH) (g1 : Nat → Nat) (L1 : Nat → xEn × Bool), i + m = n → k ≤ i → ShR M1 h n g1 L1 → (∀ q, q ≠ h + 1 → M1 q = M q) → (∀ j, i ≤ j → L1 j = L j) → lst L1 k = (lst L i).filter (fun e => !e.2) → xG K 4 [some (.ref h), some (.int (nI k)), some (.int (nI i)), none] [] M1 sz 0 0 := by
    intro m
    induction m with
    | zero =>
      intro i k M1 g1 L1 hi hk hs1 hf hL hl
      obtain ⟨h1, h2, ⟨f, h3, h4⟩, h5, h6, h7⟩ := hs1
      refine xp_iload_2 (pc := 4) hX d_She_sweep_4 ?_
      refine xp_aload_0 (pc := 5) hX d_She_sweep_5 ?_
      refine xg_get (pc := 6) hX (j := 1) k_She d_She_sweep_6 l_She_18 (by decide) (by first | assumption | exact xup_s _ _ _ | exact xup_o (by omega) (by assumption) | exact xup_o (by omega) (xup_s _ _ _) | exact xup_o (by omega) (xup_o (by omega) (by assumption)) | exact xup_o (by omega) (xup_o (by omega) (xup_s _ _ _)) | exact xup_o (by omega) (xup_o (by omega) (xup_o (by omega) (by assumption)))) (by rfl) ?_
      refine xn_icmp_ge (pc := 9) hX 67 d_She_sweep_9 (by decide) (by omega) (by omega) (fun _ => ?_) (fun q => absurd q (by omega))
      refine xp_aload_0 (pc := 67) hX d_She_sweep_67 ?_
      refine xp_iload_1 (pc := 68) hX d_She_sweep_68 ?_
      refine xg_put (pc := 69) hX (j := 1) k_She d_She_sweep_69 l_She_18 (by decide) rfl (by first | assumption | exact xup_s _ _ _ | exact xup_o (by omega) (by assumption) | exact xup_o (by omega) (xup_s _ _ _) | exact xup_o (by omega) (xup_o (by omega) (by assumption)) | exact xup_o (by omega) (xup_o (by omega) (xup_s _ _ _)) | exact xup_o (by omega) (xup_o (by omega) (xup_o (by omega) (by assumption)))) (Nat.le_of_ble_eq_true rfl) rfl rfl (by simp only [List.set_cons_zero, List.set_cons_succ]; exact rfl) ?_
      refine xg_vret (pc := 72) hX hE d_She_sweep_72 rfl (by omega) (by omega) ?_
      have hi : i = n := by omega
      subst hi
      refine ⟨rfl, rfl, ⟨k, g1, L1, ⟨xup_s _ _ _, by omega, ⟨f, xup_o (by omega) h3, h4⟩, h5, h6, fun j hj => (h7 j hj).kept (fun q a _ => xup_n _ _ (by omega))⟩, hl⟩, fun q a b => (xup_n _ _ a).trans (hf q b)⟩
    | succ m ih =>
      intro i k M1 g1 L1 hi hk hs1 hf hL hl
      obtain ⟨h1, h2, ⟨f, h3, h4⟩, h5, h6, h7⟩ := id hs1
      obtain ⟨e1, e2, e3, v, e4, e5⟩ := h7 i (by omega)
      obtain ⟨k1, -⟩ := h7 k (by omega)
      have e0 : va_rf (f i) = .ref (h + 2 + 5 * g1 i) := by rw [h4 i (by omega)]; rfl
      have k0 : va_rf (f k) = .ref (h + 2 + 5 * g1 k) := by rw [h4 k (by omega)]; rfl
      refine xp_iload_2 (pc := 4) hX d_She_sweep_4 ?_
      refine xp_aload_0 (pc := 5) hX d_She_sweep_5 ?_
      refine xg_get (pc := 6) hX (j := 1) k_She d_She_sweep_6 l_She_18 (by decide) (by first | assumption | exact xup_s _ _ _ | exact xup_o (by omega) (by assumption) | exact xup_o (by omega) (xup_s _ _ _) | exact xup_o (by omega) (xup_o (by omega) (by assumption)) | exact xup_o (by omega) (xup_o (by omega) (xup_s _ _ _)) | exact xup_o (by omega) (xup_o (by omega) (xup_o (by omega) (by assumption)))) (by rfl) ?_
      refine xn_icmp_ge (pc := 9) hX 67 d_She_sweep_9 (by decide) (by omega) (by omega) (fun q => absurd q (by omega)) (fun _ => ?_)
      refine xp_iload_2 (pc := 12) hX d_She_sweep_12 ?_
      refine xp_aload_0 (pc := 13) hX d_She_sweep_13 ?_
      refine xg_get (pc := 14) hX (j := 0) k_She d_She_sweep_14 l_She_11 (by decide) (by first | assumption | exact xup_s _ _ _ | exact xup_o (by omega) (by assumption) | exact xup_o (by omega) (xup_s _ _ _) | exact xup_o (by omega) (xup_o (by omega) (by assumption)) | exact xup_o (by omega) (xup_o (by omega) (xup_s _ _ _)) | exact xup_o (by omega) (xup_o (by omega) (xup_o (by omega) (by assumption)))) (by rfl) ?_
      refine xn_alen (pc := 17) hX (t := 2) d_She_sweep_17 rfl (by first | assumption | exact xup_s _ _ _ | exact xup_o (by omega) (by assumption) | exact xup_o (by omega) (xup_s _ _ _) | exact xup_o (by omega) (xup_o (by omega) (by assumption)) | exact xup_o (by omega) (xup_o (by omega) (xup_s _ _ _)) | exact xup_o (by omega) (xup_o (by omega) (xup_o (by omega) (by assumption)))) ?_
      refine xn_icmp_ge (pc := 18) hX 67 d_She_sweep_18 (by decide) (by omega) (by decide) (fun q => absurd q (by omega)) (fun _ => ?_)
      refine xp_aload_0 (pc := 21) hX d_She_sweep_21 ?_
      refine xg_get (pc := 22) hX (j := 0) k_She d_She_sweep_22 l_She_11 (by decide) (by first | assumption | exact xup_s _ _ _ | exact xup_o (by omega) (by assumption) | exact xup_o (by omega) (xup_s _ _ _) | exact xup_o (by omega) (xup_o (by omega) (by assumption)) | exact xup_o (by omega) (xup_o (by omega) (xup_s _ _ _)) | exact xup_o (by omega) (xup_o (by omega) (xup_o (by omega) (by assumption)))) (by rfl) ?_
      refine xp_iload_2 (pc := 25) hX d_She_sweep_25 ?_
      refine xn_aald (pc := 26) hX (t := 2) d_She_sweep_26 rfl (by first | assumption | exact xup_s _ _ _ | exact xup_o (by omega) (by assumption) | exact xup_o (by omega) (xup_s _ _ _) | exact xup_o (by omega) (xup_o (by omega) (by assumption)) | exact xup_o (by omega) (xup_o (by omega) (xup_s _ _ _)) | exact xup_o (by omega) (xup_o (by omega) (xup_o (by omega) (by assumption)))) (by omega) (by omega) (by first | assumption | rfl) ?_
      first | refine xp_astore_3 (pc := 27) hX d_She_sweep_27 (by decide) ?_ | refine xp_astoreN_3 (pc := 27) hX d_She_sweep_27 (by decide) ?_
      refine xp_aload_3 (pc := 28) hX d_She_sweep_28 ?_
      refine xg_ifnull (pc := 29) hX d_She_sweep_29 ?_
      refine xp_aload_3 (pc := 32) hX d_She_sweep_32 ?_
      refine xg_get (pc := 33) hX (j := 4) k_Ent d_She_sweep_33 l_She_56 (by decide) (by first | assumption | exact xup_s _ _ _ | exact xup_o (by omega) (by assumption) | exact xup_o (by omega) (xup_s _ _ _) | exact xup_o (by omega) (xup_o (by omega) (by assumption)) | exact xup_o (by omega) (xup_o (by omega) (xup_s _ _ _)) | exact xup_o (by omega) (xup_o (by omega) (xup_o (by omega) (by assumption)))) (by rfl) ?_
      rw [hL i (Nat.le_refl _)]
      refine xg_if_ne (pc := 36) hX 61 d_She_sweep_36 (by decide) (fun q => ?_) (fun q => ?_)
      · refine xp_inc_2 (pc := 61) hX d_She_sweep_61 (by decide) ?_
        refine xg_goto (pc := 64) hX 4 d_She_sweep_64 (by decide) ?_
        refine xp_drop_3 ?_
        refine ih (i + 1) k M1 g1 L1 (by omega) (by omega) hs1 hf (fun j hj => hL j (by omega)) ?_
        rw [lst_s, List.filter_append, hl]
        simp [bI_ne0.mp q]
      · have q := bI_eq0.mp q
        refine xp_aload_0 (pc := 39) hX d_She_sweep_39 ?_
        refine xg_get (pc := 40) hX (j := 0) k_She d_She_sweep_40 l_She_11 (by decide) (by first | assumption | exact xup_s _ _ _ | exact xup_o (by omega) (by assumption) | exact xup_o (by omega) (xup_s _ _ _) | exact xup_o (by omega) (xup_o (by omega) (by assumption)) | exact xup_o (by omega) (xup_o (by omega) (xup_s _ _ _)) | exact xup_o (by omega) (xup_o (by omega) (xup_o (by omega) (by assumption)))) (by rfl) ?_
        refine xp_iload_2 (pc := 43) hX d_She_sweep_43 ?_
        refine xp_aload_0 (pc := 44) hX d_She_sweep_44 ?_
        refine xg_get (pc := 45) hX (j := 0) k_She d_She_sweep_45 l_She_11 (by decide) (by first | assumption | exact xup_s _ _ _ | exact xup_o (by omega) (by assumption) | exact xup_o (by omega) (xup_s _ _ _) | exact xup_o (by omega) (xup_o (by omega) (by assumption)) | exact xup_o (by omega) (xup_o (by omega) (xup_s _ _ _)) | exact xup_o (by omega) (xup_o (by omega) (xup_o (by omega) (by assumption)))) (by rfl) ?_
        refine xp_iload_1 (pc := 48) hX d_She_sweep_48 ?_
        refine xn_aald (pc := 49) hX (t := 2) d_She_sweep_49 rfl (by first | assumption | exact xup_s _ _ _ | exact xup_o (by omega) (by assumption) | exact xup_o (by omega) (xup_s _ _ _) | exact xup_o (by omega) (xup_o (by omega) (by assumption)) | exact xup_o (by omega) (xup_o (by omega) (xup_s _ _ _)) | exact xup_o (by omega) (xup_o (by omega) (xup_o (by omega) (by assumption)))) (by omega) (by omega) (by first | assumption | rfl) ?_
        refine xn_aast (pc := 50) (t := 2) hX k_Ent d_She_sweep_50 rfl h3 k1 (by omega) (by omega) ?_
        refine xp_aload_0 (pc := 51) hX d_She_sweep_51 ?_
        refine xg_get (pc := 52) hX (j := 0) k_She d_She_sweep_52 l_She_11 (by decide) (by first | assumption | exact xup_s _ _ _ | exact xup_o (by omega) (by assumption) | exact xup_o (by omega) (xup_s _ _ _) | exact xup_o (by omega) (xup_o (by omega) (by assumption)) | exact xup_o (by omega) (xup_o (by omega) (xup_s _ _ _)) | exact xup_o (by omega) (xup_o (by omega) (xup_o (by omega) (by assumption)))) (by rfl) ?_
        refine xp_iload_1 (pc := 55) hX d_She_sweep_55 ?_
        refine xp_aload_3 (pc := 56) hX d_She_sweep_56 ?_
        refine xn_aast (pc := 57) (t := 2) hX k_Ent d_She_sweep_57 rfl (xup_s _ _ _) (xup_o (by omega) e1) (by omega) (by omega) ?_
        refine xp_inc_1 (pc := 58) hX d_She_sweep_58 (by decide) ?_
        refine xp_inc_2 (pc := 61) hX d_She_sweep_61 (by decide) ?_
        refine xg_goto (pc := 64) hX 4 d_She_sweep_64 (by decide) ?_
        refine xp_drop_3 ?_
        have hfr : ∀ q, q ≠ h + 1 → (xup (xup M1 (h + 1) (.inl (2, 100, .inr (.inr (.inr (.inr (va_up f i (some (h + 2 + 5 * g1 k))))))))) (h + 1) (.inl (2, 100, .inr (.inr (.inr (.inr (va_up (va_up f i (some (h + 2 + 5 * g1 k))) k (some (h + 2 + 5 * g1 i))))))))) q = M1 q := fun q hq => by rw [xup_n _ _ hq, xup_n _ _ hq]
        refine ih (i + 1) (k + 1) _ (fun j => if j = k then g1 i else if j = i then g1 k else g1 j) (fun j => if j = k then L1 i else if j = i then L1 k else L1 j) (by omega) (by omega) ?_ (fun q hq => (hfr q hq).trans (hf q hq)) ?_ ?_
        · refine ⟨by rw [hfr _ (by omega)]; exact h1, h2, ⟨_, xup_s _ _ _, ?_⟩, ?_, ?_, ?_⟩
          · intro j hj
            unfold va_up
            by_cases c1 : j = k
            · simp [c1]
            · by_cases c2 : j = i
              · subst c2
                simp [c1]
              · simp [c1, c2, h4 j hj]
          · intro j hj
            have a1 := h5 i (by omega)
            have a2 := h5 k (by omega)
            have a3 := h5 j hj
            dsimp only
            split
            · exact a1
            · split
              · exact a2
              · exact a3
          · intro a b ha hb hab
            have z : ∀ x y, x < 100 → y < 100 → g1 x = g1 y → x = y := h6
            dsimp only at hab
            split at hab <;> split at hab <;> (try split at hab) <;> (try split at hab) <;> (have := z _ _ (by omega) (by omega) hab; omega)
          · intro j hj
            have a1 := (h7 i (by omega)).kept (M' := (xup (xup M1 (h + 1) (.inl (2, 100, .inr (.inr (.inr (.inr (va_up f i (some (h + 2 + 5 * g1 k))))))))) (h + 1) (.inl (2, 100, .inr (.inr (.inr (.inr (va_up (va_up f i (some (h + 2 + 5 * g1 k))) k (some (h + 2 + 5 * g1 i)))))))))) (fun q x _ => hfr q (by omega))
            have a2 := (h7 k (by omega)).kept (M' := (xup (xup M1 (h + 1) (.inl (2, 100, .inr (.inr (.inr (.inr (va_up f i (some (h + 2 + 5 * g1 k))))))))) (h + 1) (.inl (2, 100, .inr (.inr (.inr (.inr (va_up (va_up f i (some (h + 2 + 5 * g1 k))) k (some (h + 2 + 5 * g1 i)))))))))) (fun q x _ => hfr q (by omega))
            have a3 := (h7 j hj).kept (M' := (xup (xup M1 (h + 1) (.inl (2, 100, .inr (.inr (.inr (.inr (va_up f i (some (h + 2 + 5 * g1 k))))))))) (h + 1) (.inl (2, 100, .inr (.inr (.inr (.inr (va_up (va_up f i (some (h + 2 + 5 * g1 k))) k (some (h + 2 + 5 * g1 i)))))))))) (fun q x _ => hfr q (by omega))
            by_cases c1 : j = k
            · simp only [c1, if_true]; exact a1
            · by_cases c2 : j = i
              · simp only [if_neg c1, if_pos c2]; exact a2
              · simp only [if_neg c1, if_neg c2]; exact a3
        · intro j hj
          simp only [if_neg (show j ≠ k by omega), if_neg (show j ≠ i by omega)]
          exact hL j (by omega)
        · rw [lst_s, lst_s, List.filter_append, ← hl]
          congr 1
          · exact lst_ext (fun j hj => by simp only [if_neg (show j ≠ k by omega), if_neg (show j ≠ i by omega)])
          · simp [hL i (Nat.le_refl _), q]
  refine xg_iconst (pc := 0) hX (nI 0) d_She_sweep_0 ci_iconst_0 ?_
  refine xp_istore_1 (pc := 1) hX d_She_sweep_1 (by decide) ?_
  refine xg_iconst (pc := 2) hX (nI 0) d_She_sweep_2 ci_iconst_0 ?_
  refine xp_istore_2 (pc := 3) hX d_She_sweep_3 (by decide) ?_
  exact loop n 0 0 M g L (by omega) (Nat.le_refl _) hs (fun _ _ => rfl) (fun _ _ => rfl) rfl
