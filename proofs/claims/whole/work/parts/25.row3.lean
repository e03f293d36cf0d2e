/-! NameRoom$Row, third part -/
set_option maxHeartbeats 4000000 in
set_option maxRecDepth 100000 in
theorem c_Row_become (d : Nat) {M : xH} {sz r w s ws : Nat} {bs src : List UInt8} (hr : RowAt M r w bs) (hs : RowAt M s ws src) (hrs : r ≠ s) (hl : src.length ≤ w) (hw : w < 2147483647) (hws : ws < 2147483647) : xC (d + 2) 0 0 Y_Row_become [.ref r, .ref s] M sz (qv sz (fun M' => RowAt M' r w src ∧ Fr2 M M' r)) := by
  refine xC_of (by decide) (Nat.le_of_ble_eq_true rfl) (by simp [Value.category]) (vs := [some (.ref r), some (.ref s)]) rfl (fun K hX hE => ?_)
  obtain ⟨h1, h2, f, h3, h4⟩ := id hr
  obtain ⟨g1, g2, g, g3, g4⟩ := id hs
  have hne : s + 1 ≠ r := fun q => by rw [q] at g3; rw [g3] at h1; cases h1
  refine xp_aload_0 (pc := 0) hX d_Row_become_0 ?_
  refine xg_iconst (pc := 1) hX (nI 0) d_Row_become_1 ci_iconst_0 ?_
  refine xg_put (pc := 2) hX (j := 1) k_Row d_Row_become_2 l_Row_21 (by decide) rfl (by first | assumption | exact xup_s _ _ _ | exact xup_o (by omega) (by assumption) | exact xup_o (by omega) (xup_s _ _ _) | exact xup_o (by omega) (xup_o (by omega) (by assumption)) | exact xup_o (by omega) (xup_o (by omega) (xup_s _ _ _)) | exact xup_o (by omega) (xup_o (by omega) (xup_o (by omega) (by assumption)))) (Nat.le_of_ble_eq_true rfl) rfl rfl (by simp only [List.set_cons_zero, List.set_cons_succ]; exact rfl) ?_
  refine xp_aload_0 (pc := 5) hX d_Row_become_5 ?_
  refine xp_aload_1 (pc := 6) hX d_Row_become_6 ?_
  refine xg_iconst (pc := 7) hX (nI 0) d_Row_become_7 ci_iconst_0 ?_
  refine xp_aload_1 (pc := 8) hX d_Row_become_8 ?_
  refine xg_get (pc := 9) hX (j := 1) k_Row d_Row_become_9 l_Row_21 (by decide) (by first | assumption | exact xup_s _ _ _ | exact xup_o (by omega) (by assumption) | exact xup_o (by omega) (xup_s _ _ _) | exact xup_o (by omega) (xup_o (by omega) (by assumption)) | exact xup_o (by omega) (xup_o (by omega) (xup_s _ _ _)) | exact xup_o (by omega) (xup_o (by omega) (xup_o (by omega) (by assumption)))) (by rfl) ?_
  have hr' : RowAt (xup M r (.inr (0, [.ref (r + 1), .int (nI 0)]))) r w [] := ⟨xup_s _ _ _, Nat.zero_le _, f, xup_o (by omega) h3, fun j b h => by simp at h⟩
  have hs' : RowAt (xup M r (.inr (0, [.ref (r + 1), .int (nI 0)]))) s ws src := hs.kept (xup_n _ _ (by omega)) (xup_n _ _ (by omega))
  refine xi_V (Y2 := Y_Row_addPart) (pc := 12) hX [_, _, _] k_Row m_Row_addPart d_Row_become_12 l_Row_42 rfl rfl (by simp [Value.category]) (by first | assumption | exact xup_s _ _ _ | exact xup_o (by omega) (by assumption) | exact xup_o (by omega) (xup_s _ _ _) | exact xup_o (by omega) (xup_o (by omega) (by assumption)) | exact xup_o (by omega) (xup_o (by omega) (xup_s _ _ _)) | exact xup_o (by omega) (xup_o (by omega) (xup_o (by omega) (by assumption)))) (c_Row_addPart d (a := 0) (b := src.length) hr' hs' hrs (Nat.zero_le _) (Nat.le_refl _) hw hws) (by omega) (by omega) ?_
  intro y M2 h
  rcases h with ⟨-, -, h5, h6⟩ | ⟨h, -, -⟩
  · refine xg_pop (pc := 15) hX d_Row_become_15 rfl ?_
    refine xg_vret (pc := 16) hX hE d_Row_become_16 rfl (by omega) (by omega) ?_
    refine ⟨rfl, rfl, ?_, fun q a b => (h6 q a b).trans (xup_n _ _ a)⟩
    rw [sl_all] at h5
    exact h5
  · simp at h
    omega
set_option maxHeartbeats 4000000 in
set_option maxRecDepth 100000 in
theorem c_Row_addCapitals (d : Nat) {M : xH} {sz r w s ws : Nat} {bs src : List UInt8} {a b : Nat} (hr : RowAt M r w bs) (hs : RowAt M s ws src) (hrs : r ≠ s) (hab : a ≤ b) (hb : b ≤ src.length) (hl : bs.length + (b - a) ≤ w) (hw : w < 2147483647) (hws : ws < 2147483647) : xC (d + 1) 0 0 Y_Row_addCapitals [.ref r, .ref s, .int (nI a), .int (nI b)] M sz (qi sz (fun y M' => y = nI 1 ∧ RowAt M' r w (bs ++ (sl src a b).map cap) ∧ Fr2 M M' r)) := by
  refine xC_of (by decide) (Nat.le_of_ble_eq_true rfl) (by simp [Value.category]) (vs := [some (.ref r), some (.ref s), some (.int (nI a)), some (.int (nI b)), none, none]) rfl (fun K hX hE => ?_)
  have hne : s + 1 ≠ r := fun q => by
    obtain ⟨h1, -⟩ := hr
    obtain ⟨-, -, g, g3, -⟩ := hs
    rw [q] at g3; rw [g3] at h1; cases h1
  have hne2 : r + 1 ≠ s := fun q => by
    obtain ⟨-, -, f, h3, -⟩ := hr
    obtain ⟨g1, -⟩ := hs
    rw [q] at h3; rw [h3] at g1; cases g1
  have hsl : src.length ≤ ws := hs.2.1
  have loop : ∀ (n i : Nat) (M1 : xH), i + n = b → a ≤ i → RowAt M1 r w (bs ++ (sl src a i).map cap) → Fr2 M M1 r → xG K 6 [some (.ref r), some (.ref s), some (.int (nI a)), some (.int (nI b)), some (.int (nI 1)), some (.int (nI i))] [] M1 sz 0 0 := by
    intro n
    induction n with
    | zero =>
      intro i M1 hi ha h1 hf
      have hi : i = b := by omega
      subst hi
      refine xp_iload_5 (pc := 6) hX d_Row_addCapitals_6 ?_
      refine xp_iload_3 (pc := 8) hX d_Row_addCapitals_8 ?_
      refine xn_icmp_ge (pc := 9) hX 38 d_Row_addCapitals_9 (by decide) (by omega) (by omega) (fun _ => ?_) (fun h => absurd h (by omega))
      refine xp_iload_4 (pc := 38) hX d_Row_addCapitals_38 ?_
      refine xg_iret (pc := 40) hX hE d_Row_addCapitals_40 rfl rfl (by omega) (by omega) ?_
      exact ⟨rfl, _, rfl, rfl, h1, hf⟩
    | succ n ih =>
      intro i M1 hi ha h1 hf
      have hs1 : RowAt M1 s ws src := hs.kept (hf _ (by omega) (by omega)) (hf _ (by omega) (by omega))
      have hlt : i < src.length := by omega
      have hlen : (bs ++ (sl src a i).map cap).length = bs.length + (i - a) := by simp [sl_len (show i ≤ src.length by omega)]
      obtain ⟨hr0, -⟩ := id h1
      obtain ⟨hs0, -⟩ := id hs1
      refine xp_iload_5 (pc := 6) hX d_Row_addCapitals_6 ?_
      refine xp_iload_3 (pc := 8) hX d_Row_addCapitals_8 ?_
      refine xn_icmp_ge (pc := 9) hX 38 d_Row_addCapitals_9 (by decide) (by omega) (by omega) (fun h => absurd h (by omega)) (fun _ => ?_)
      refine xp_iload_4 (pc := 12) hX d_Row_addCapitals_12 ?_
      refine xn_if_eq (pc := 14) hX 38 d_Row_addCapitals_14 (by decide) (by decide) (fun h => absurd h (by decide)) (fun _ => ?_)
      refine xp_aload_0 (pc := 17) hX d_Row_addCapitals_17 ?_
      refine xp_aload_1 (pc := 18) hX d_Row_addCapitals_18 ?_
      refine xp_iload_5 (pc := 19) hX d_Row_addCapitals_19 ?_
      refine xi_V (Y2 := Y_Row_at) (pc := 21) hX [_] k_Row m_Row_at d_Row_addCapitals_21 l_Row_35 rfl rfl (by simp [Value.category]) (by first | assumption | exact xup_s _ _ _ | exact xup_o (by omega) (by assumption) | exact xup_o (by omega) (xup_s _ _ _) | exact xup_o (by omega) (xup_o (by omega) (by assumption)) | exact xup_o (by omega) (xup_o (by omega) (xup_s _ _ _)) | exact xup_o (by omega) (xup_o (by omega) (xup_o (by omega) (by assumption)))) (c_Row_at d (nI i) hs1 (by omega)) (by omega) (by omega) ?_
      rintro y M' ⟨rfl, rfl⟩
      rw [rAt_nI (by omega), List.getElem?_eq_getElem hlt]
      refine xi_SN (Y2 := Y_Nam_capital) (pc := 24) hX [_] m_Nam_capital d_Row_addCapitals_24 l_Row_39 rfl rfl (by simp [Value.category]) (c_Nam_capital d src[i]) (by omega) (by omega) ?_
      rintro y M' ⟨rfl, rfl⟩
      refine xi_V (Y2 := Y_Row_add) (pc := 27) hX [_] k_Row m_Row_add d_Row_addCapitals_27 l_Row_25 rfl rfl (by simp [Value.category]) (by first | assumption | exact xup_s _ _ _ | exact xup_o (by omega) (by assumption) | exact xup_o (by omega) (xup_s _ _ _) | exact xup_o (by omega) (xup_o (by omega) (by assumption)) | exact xup_o (by omega) (xup_o (by omega) (xup_s _ _ _)) | exact xup_o (by omega) (xup_o (by omega) (xup_o (by omega) (by assumption)))) (c_Row_add d _ (cap src[i]) rfl h1 hw) (by omega) (by omega) ?_
      intro y M2 h
      rcases h with ⟨-, rfl, h2, h3⟩ | ⟨h, -, -⟩
      · refine xp_istore_4 (pc := 30) hX d_Row_addCapitals_30 (by decide) ?_
        refine xp_inc_5 (pc := 32) hX d_Row_addCapitals_32 (by decide) ?_
        refine xg_goto (pc := 35) hX 6 d_Row_addCapitals_35 (by decide) ?_
        refine ih (i + 1) M2 (by omega) (by omega) ?_ (hf.tr h3)
        rw [sl_succ ha hlt]
        simpa using h2
      · rw [hlen] at h
        exact absurd h (by omega)
  refine xg_iconst (pc := 0) hX (nI 1) d_Row_addCapitals_0 ci_iconst_1 ?_
  refine xp_istore_4 (pc := 1) hX d_Row_addCapitals_1 (by decide) ?_
  refine xp_iload_2 (pc := 3) hX d_Row_addCapitals_3 ?_
  refine xp_istore_5 (pc := 4) hX d_Row_addCapitals_4 (by decide) ?_
  refine loop (b - a) a M (by omega) (Nat.le_refl _) ?_ (Fr2.rf M r)
  rw [sl_same]
  simpa using hr
theorem pre_step {src bs : List UInt8} {i : Nat} (hi : i < src.length) (hb : i < bs.length) (h : (src.take i) <+: bs) (e : bs[i] = src[i]) : (src.take (i + 1)) <+: bs := by
  rw [List.prefix_iff_eq_take] at h ⊢
  have h1 : (src.take i).length = i := by simp; omega
  have h2 : (src.take (i + 1)).length = i + 1 := by simp; omega
  rw [h1] at h
  rw [h2, List.take_succ, List.take_succ, h, List.getElem?_eq_getElem hi, List.getElem?_eq_getElem hb, e]
theorem pre_ne {src bs : List UInt8} {i : Nat} (hi : i < src.length) (hb : i < bs.length) (h : src <+: bs) : bs[i] = src[i] := by
  obtain ⟨t, rfl⟩ := h
  rw [List.getElem_append_left hi]
set_option maxHeartbeats 4000000 in
set_option maxRecDepth 100000 in
theorem c_Row_beginsWith (d : Nat) {M : xH} {sz r w s ws : Nat} {bs src : List UInt8} (hr : RowAt M r w bs) (hs : RowAt M s ws src) (hw : w < 2147483647) (hws : ws < 2147483647) : xC d 0 0 Y_Row_beginsWith [.ref r, .ref s] M sz (qi sz (fun y M' => y = bI (src.isPrefixOf bs) ∧ M' = M)) := by
  refine xC_of (by decide) (Nat.le_of_ble_eq_true rfl) (by simp [Value.category]) (vs := [some (.ref r), some (.ref s), none, none]) rfl (fun K hX hE => ?_)
  obtain ⟨h1, h2, f, h3, h4⟩ := id hr
  obtain ⟨g1, g2, g, g3, g4⟩ := id hs
  have kf : ∀ (v : Bool), src.isPrefixOf bs = v → qi sz (fun y M' => y = bI (src.isPrefixOf bs) ∧ M' = M) (some (.int (bI v))) M sz := fun v hv => ⟨rfl, _, rfl, by rw [hv], rfl⟩
  have loop : ∀ (n i : Nat), i + n = src.length → src.length ≤ bs.length → src.take i <+: bs → xG K 35 [some (.ref r), some (.ref s), some (.int (nI src.length)), some (.int (nI i))] [] M sz 0 0 := by
    intro n
    induction n with
    | zero =>
      intro i hi hl hp
      refine xp_iload_3 (pc := 35) hX d_Row_beginsWith_35 ?_
      refine xp_iload_2 (pc := 36) hX d_Row_beginsWith_36 ?_
      refine xn_icmp_ge (pc := 37) hX 63 d_Row_beginsWith_37 (by decide) (by omega) (by omega) (fun _ => ?_) (fun h => absurd h (by omega))
      refine xg_iconst (pc := 63) hX (nI 1) d_Row_beginsWith_63 ci_iconst_1 ?_
      refine xg_iret (pc := 64) hX hE d_Row_beginsWith_64 rfl rfl (by omega) (by omega) ?_
      refine kf true ?_
      rw [List.isPrefixOf_iff_prefix]
      rw [List.take_of_length_le (by omega)] at hp
      exact hp
    | succ n ih =>
      intro i hi hl hp
      have e1 : bs[i]? = some bs[i] := List.getElem?_eq_getElem (by omega)
      have e2 : src[i]? = some src[i] := List.getElem?_eq_getElem (by omega)
      refine xp_iload_3 (pc := 35) hX d_Row_beginsWith_35 ?_
      refine xp_iload_2 (pc := 36) hX d_Row_beginsWith_36 ?_
      refine xn_icmp_ge (pc := 37) hX 63 d_Row_beginsWith_37 (by decide) (by omega) (by omega) (fun h => absurd h (by omega)) (fun _ => ?_)
      refine xp_aload_0 (pc := 40) hX d_Row_beginsWith_40 ?_
      refine xg_get (pc := 41) hX (j := 0) k_Row d_Row_beginsWith_41 l_Row_15 (by decide) (by first | assumption | exact xup_s _ _ _ | exact xup_o (by omega) (by assumption) | exact xup_o (by omega) (xup_s _ _ _) | exact xup_o (by omega) (xup_o (by omega) (by assumption)) | exact xup_o (by omega) (xup_o (by omega) (xup_s _ _ _)) | exact xup_o (by omega) (xup_o (by omega) (xup_o (by omega) (by assumption)))) (by rfl) ?_
      refine xp_iload_3 (pc := 44) hX d_Row_beginsWith_44 ?_
      refine xn_bald (pc := 45) hX d_Row_beginsWith_45 rfl (by first | assumption | exact xup_s _ _ _ | exact xup_o (by omega) (by assumption) | exact xup_o (by omega) (xup_s _ _ _) | exact xup_o (by omega) (xup_o (by omega) (by assumption)) | exact xup_o (by omega) (xup_o (by omega) (xup_s _ _ _)) | exact xup_o (by omega) (xup_o (by omega) (xup_o (by omega) (by assumption)))) (by omega) (by omega) ?_
      refine xp_aload_1 (pc := 46) hX d_Row_beginsWith_46 ?_
      refine xg_get (pc := 47) hX (j := 0) k_Row d_Row_beginsWith_47 l_Row_15 (by decide) (by first | assumption | exact xup_s _ _ _ | exact xup_o (by omega) (by assumption) | exact xup_o (by omega) (xup_s _ _ _) | exact xup_o (by omega) (xup_o (by omega) (by assumption)) | exact xup_o (by omega) (xup_o (by omega) (xup_s _ _ _)) | exact xup_o (by omega) (xup_o (by omega) (xup_o (by omega) (by assumption)))) (by rfl) ?_
      refine xp_iload_3 (pc := 50) hX d_Row_beginsWith_50 ?_
      refine xn_bald (pc := 51) hX d_Row_beginsWith_51 rfl (by first | assumption | exact xup_s _ _ _ | exact xup_o (by omega) (by assumption) | exact xup_o (by omega) (xup_s _ _ _) | exact xup_o (by omega) (xup_o (by omega) (by assumption)) | exact xup_o (by omega) (xup_o (by omega) (xup_s _ _ _)) | exact xup_o (by omega) (xup_o (by omega) (xup_o (by omega) (by assumption)))) (by omega) (by omega) ?_
      rw [h4 i _ e1, g4 i _ e2]
      refine xg_icmp_eq (pc := 52) hX 57 d_Row_beginsWith_52 (by decide) (fun h => ?_) (fun h => ?_)
      · refine xp_inc_3 (pc := 57) hX d_Row_beginsWith_57 (by decide) ?_
        refine xg_goto (pc := 60) hX 35 d_Row_beginsWith_60 (by decide) ?_
        exact ih (i + 1) (by omega) hl (pre_step (by omega) (by omega) hp (sb_inj.mp h))
      · refine xg_iconst (pc := 55) hX (nI 0) d_Row_beginsWith_55 ci_iconst_0 ?_
        refine xg_iret (pc := 56) hX hE d_Row_beginsWith_56 rfl rfl (by omega) (by omega) ?_
        refine kf false ?_
        rw [← Bool.not_eq_true, List.isPrefixOf_iff_prefix]
        exact fun q => h (sb_inj.mpr (pre_ne (by omega) (by omega) q))
  refine xp_aload_1 (pc := 0) hX d_Row_beginsWith_0 ?_
  refine xg_get (pc := 1) hX (j := 1) k_Row d_Row_beginsWith_1 l_Row_21 (by decide) (by first | assumption | exact xup_s _ _ _ | exact xup_o (by omega) (by assumption) | exact xup_o (by omega) (xup_s _ _ _) | exact xup_o (by omega) (xup_o (by omega) (by assumption)) | exact xup_o (by omega) (xup_o (by omega) (xup_s _ _ _)) | exact xup_o (by omega) (xup_o (by omega) (xup_o (by omega) (by assumption)))) (by rfl) ?_
  refine xp_istore_2 (pc := 4) hX d_Row_beginsWith_4 (by decide) ?_
  refine xp_iload_2 (pc := 5) hX d_Row_beginsWith_5 ?_
  refine xp_aload_0 (pc := 6) hX d_Row_beginsWith_6 ?_
  refine xg_get (pc := 7) hX (j := 1) k_Row d_Row_beginsWith_7 l_Row_21 (by decide) (by first | assumption | exact xup_s _ _ _ | exact xup_o (by omega) (by assumption) | exact xup_o (by omega) (xup_s _ _ _) | exact xup_o (by omega) (xup_o (by omega) (by assumption)) | exact xup_o (by omega) (xup_o (by omega) (xup_s _ _ _)) | exact xup_o (by omega) (xup_o (by omega) (xup_o (by omega) (by assumption)))) (by rfl) ?_
  refine xn_icmp_gt (pc := 10) hX 31 d_Row_beginsWith_10 (by decide) (by omega) (by omega) (fun h => ?_) (fun h => ?_)
  · refine xg_iconst (pc := 31) hX (nI 0) d_Row_beginsWith_31 ci_iconst_0 ?_
    refine xg_iret (pc := 32) hX hE d_Row_beginsWith_32 rfl rfl (by omega) (by omega) ?_
    refine kf false ?_
    rw [← Bool.not_eq_true, List.isPrefixOf_iff_prefix]
    exact fun q => absurd q.length_le (by omega)
  · refine xp_iload_2 (pc := 13) hX d_Row_beginsWith_13 ?_
    refine xp_aload_0 (pc := 14) hX d_Row_beginsWith_14 ?_
    refine xg_get (pc := 15) hX (j := 0) k_Row d_Row_beginsWith_15 l_Row_15 (by decide) (by first | assumption | exact xup_s _ _ _ | exact xup_o (by omega) (by assumption) | exact xup_o (by omega) (xup_s _ _ _) | exact xup_o (by omega) (xup_o (by omega) (by assumption)) | exact xup_o (by omega) (xup_o (by omega) (xup_s _ _ _)) | exact xup_o (by omega) (xup_o (by omega) (xup_o (by omega) (by assumption)))) (by rfl) ?_
    refine xn_alen (pc := 18) hX (t := 0) d_Row_beginsWith_18 rfl (by first | assumption | exact xup_s _ _ _ | exact xup_o (by omega) (by assumption) | exact xup_o (by omega) (xup_s _ _ _) | exact xup_o (by omega) (xup_o (by omega) (by assumption)) | exact xup_o (by omega) (xup_o (by omega) (xup_s _ _ _)) | exact xup_o (by omega) (xup_o (by omega) (xup_o (by omega) (by assumption)))) ?_
    refine xn_icmp_gt (pc := 19) hX 31 d_Row_beginsWith_19 (by decide) (by omega) (by show w < _; omega) (fun h => absurd h (by show ¬ w < _; omega)) (fun _ => ?_)
    refine xp_iload_2 (pc := 22) hX d_Row_beginsWith_22 ?_
    refine xp_aload_1 (pc := 23) hX d_Row_beginsWith_23 ?_
    refine xg_get (pc := 24) hX (j := 0) k_Row d_Row_beginsWith_24 l_Row_15 (by decide) (by first | assumption | exact xup_s _ _ _ | exact xup_o (by omega) (by assumption) | exact xup_o (by omega) (xup_s _ _ _) | exact xup_o (by omega) (xup_o (by omega) (by assumption)) | exact xup_o (by omega) (xup_o (by omega) (xup_s _ _ _)) | exact xup_o (by omega) (xup_o (by omega) (xup_o (by omega) (by assumption)))) (by rfl) ?_
    refine xn_alen (pc := 27) hX (t := 0) d_Row_beginsWith_27 rfl (by first | assumption | exact xup_s _ _ _ | exact xup_o (by omega) (by assumption) | exact xup_o (by omega) (xup_s _ _ _) | exact xup_o (by omega) (xup_o (by omega) (by assumption)) | exact xup_o (by omega) (xup_o (by omega) (xup_s _ _ _)) | exact xup_o (by omega) (xup_o (by omega) (xup_o (by omega) (by assumption)))) ?_
    refine xn_icmp_le (pc := 28) hX 33 d_Row_beginsWith_28 (by decide) (by omega) (by show ws < _; omega) (fun _ => ?_) (fun h => absurd h (by show ¬ ws < _; omega))
    refine xg_iconst (pc := 33) hX (nI 0) d_Row_beginsWith_33 ci_iconst_0 ?_
    refine xp_istore_3 (pc := 34) hX d_Row_beginsWith_34 (by decide) ?_
    exact loop src.length 0 (by omega) h (by simp)
set_option maxHeartbeats 4000000 in
set_option maxRecDepth 100000 in
theorem c_Row_standsAt (d : Nat) {M : xH} {sz r w s ws : Nat} {bs src : List UInt8} {a : Nat} (hr : RowAt M r w bs) (hs : RowAt M s ws src) (hw : w < 1000000) (hws : ws < 1000000) (ha : a < 1000000) : xC (d + 1) 0 0 Y_Row_standsAt [.ref r, .int (nI a), .ref s] M sz (qi sz (fun y M' => y = bI (src.isPrefixOf (bs.drop a)) ∧ M' = M)) := by
  refine xC_of (by decide) (Nat.le_of_ble_eq_true rfl) (by simp [Value.category]) (vs := [some (.ref r), some (.int (nI a)), some (.ref s), none]) rfl (fun K hX hE => ?_)
  obtain ⟨h1, h2, -⟩ := id hr
  obtain ⟨g1, g2, -⟩ := id hs
  have kf : ∀ (v : Bool), src.isPrefixOf (bs.drop a) = v → qi sz (fun y M' => y = bI (src.isPrefixOf (bs.drop a)) ∧ M' = M) (some (.int (bI v))) M sz := fun v hv => ⟨rfl, _, rfl, by rw [hv], rfl⟩
  have loop : ∀ (n i : Nat), i + n = src.length → src.take i <+: bs.drop a → xG K 2 [some (.ref r), some (.int (nI a)), some (.ref s), some (.int (nI i))] [] M sz 0 0 := by
    intro n
    induction n with
    | zero =>
      intro i hi hp
      refine xp_iload_3 (pc := 2) hX d_Row_standsAt_2 ?_
      refine xp_aload_2 (pc := 3) hX d_Row_standsAt_3 ?_
      refine xg_get (pc := 4) hX (j := 1) k_Row d_Row_standsAt_4 l_Row_21 (by decide) (by first | assumption | exact xup_s _ _ _ | exact xup_o (by omega) (by assumption) | exact xup_o (by omega) (xup_s _ _ _) | exact xup_o (by omega) (xup_o (by omega) (by assumption)) | exact xup_o (by omega) (xup_o (by omega) (xup_s _ _ _)) | exact xup_o (by omega) (xup_o (by omega) (xup_o (by omega) (by assumption)))) (by rfl) ?_
      refine xn_icmp_ge (pc := 7) hX 33 d_Row_standsAt_7 (by decide) (by omega) (by omega) (fun _ => ?_) (fun h => absurd h (by omega))
      refine xg_iconst (pc := 33) hX (nI 1) d_Row_standsAt_33 ci_iconst_1 ?_
      refine xg_iret (pc := 34) hX hE d_Row_standsAt_34 rfl rfl (by omega) (by omega) ?_
      refine kf true ?_
      rw [List.isPrefixOf_iff_prefix]
      rw [List.take_of_length_le (by omega)] at hp
      exact hp
    | succ n ih =>
      intro i hi hp
      have e2 : src[i]? = some src[i] := List.getElem?_eq_getElem (by omega)
      refine xp_iload_3 (pc := 2) hX d_Row_standsAt_2 ?_
      refine xp_aload_2 (pc := 3) hX d_Row_standsAt_3 ?_
      refine xg_get (pc := 4) hX (j := 1) k_Row d_Row_standsAt_4 l_Row_21 (by decide) (by first | assumption | exact xup_s _ _ _ | exact xup_o (by omega) (by assumption) | exact xup_o (by omega) (xup_s _ _ _) | exact xup_o (by omega) (xup_o (by omega) (by assumption)) | exact xup_o (by omega) (xup_o (by omega) (xup_s _ _ _)) | exact xup_o (by omega) (xup_o (by omega) (xup_o (by omega) (by assumption)))) (by rfl) ?_
      refine xn_icmp_ge (pc := 7) hX 33 d_Row_standsAt_7 (by decide) (by omega) (by omega) (fun h => absurd h (by omega)) (fun _ => ?_)
      refine xp_aload_0 (pc := 10) hX d_Row_standsAt_10 ?_
      refine xp_iload_1 (pc := 11) hX d_Row_standsAt_11 ?_
      refine xp_iload_3 (pc := 12) hX d_Row_standsAt_12 ?_
      first | refine xn_iadd (pc := 13) hX d_Row_standsAt_13 ?_ | refine xg_iadd (pc := 13) hX d_Row_standsAt_13 ?_
      refine xi_V (Y2 := Y_Row_at) (pc := 14) hX [_] k_Row m_Row_at d_Row_standsAt_14 l_Row_35 rfl rfl (by simp [Value.category]) (by first | assumption | exact xup_s _ _ _ | exact xup_o (by omega) (by assumption) | exact xup_o (by omega) (xup_s _ _ _) | exact xup_o (by omega) (xup_o (by omega) (by assumption)) | exact xup_o (by omega) (xup_o (by omega) (xup_s _ _ _)) | exact xup_o (by omega) (xup_o (by omega) (xup_o (by omega) (by assumption)))) (c_Row_at d (nI (a + i)) hr (by omega)) (by omega) (by omega) ?_
      rintro y M' ⟨rfl, rfl⟩
      refine xp_aload_2 (pc := 17) hX d_Row_standsAt_17 ?_
      refine xp_iload_3 (pc := 18) hX d_Row_standsAt_18 ?_
      refine xi_V (Y2 := Y_Row_at) (pc := 19) hX [_] k_Row m_Row_at d_Row_standsAt_19 l_Row_35 rfl rfl (by simp [Value.category]) (by first | assumption | exact xup_s _ _ _ | exact xup_o (by omega) (by assumption) | exact xup_o (by omega) (xup_s _ _ _) | exact xup_o (by omega) (xup_o (by omega) (by assumption)) | exact xup_o (by omega) (xup_o (by omega) (xup_s _ _ _)) | exact xup_o (by omega) (xup_o (by omega) (xup_o (by omega) (by assumption)))) (c_Row_at d (nI i) hs (by omega)) (by omega) (by omega) ?_
      rintro y M' ⟨rfl, rfl⟩
      rw [rAt_nI (by omega), rAt_nI (by omega)]
      refine xg_icmp_eq (pc := 22) hX 27 d_Row_standsAt_22 (by decide) (fun h => ?_) (fun h => ?_)
      · have h := oI_inj.mp h
        rw [e2] at h
        have hl := (List.getElem?_eq_some_iff.mp h).1
        refine xp_inc_3 (pc := 27) hX d_Row_standsAt_27 (by decide) ?_
        refine xg_goto (pc := 30) hX 2 d_Row_standsAt_30 (by decide) ?_
        refine ih (i + 1) (by omega) (pre_step (by omega) (by rw [List.length_drop]; omega) hp ?_)
        rw [List.getElem_drop]
        rw [List.getElem?_eq_getElem hl] at h
        exact Option.some.inj h
      · refine xg_iconst (pc := 25) hX (nI 0) d_Row_standsAt_25 ci_iconst_0 ?_
        refine xg_iret (pc := 26) hX hE d_Row_standsAt_26 rfl rfl (by omega) (by omega) ?_
        refine kf false ?_
        rw [← Bool.not_eq_true, List.isPrefixOf_iff_prefix]
        intro q
        apply h
        have ql := q.length_le
        rw [List.length_drop] at ql
        have := pre_ne (i := i) (by omega) (by rw [List.length_drop]; omega) q
        rw [List.getElem_drop] at this
        rw [e2, List.getElem?_eq_getElem (by omega), this]
  refine xg_iconst (pc := 0) hX (nI 0) d_Row_standsAt_0 ci_iconst_0 ?_
  refine xp_istore_3 (pc := 1) hX d_Row_standsAt_1 (by decide) ?_
  exact loop src.length 0 (by omega) (by simp)
/-- the first period from a on ahead of b, or b -/
def dotF (bs : List UInt8) (a b : Nat) : Nat := a + (sl bs a b).idxOf 46
theorem dotF_le {bs : List UInt8} {a b : Nat} (hab : a ≤ b) (hb : b ≤ bs.length) : a ≤ dotF bs a b ∧ dotF bs a b ≤ b := by
  unfold dotF
  have := List.idxOf_le_length (a := (46 : UInt8)) (l := sl bs a b)
  rw [sl_len hb] at this
  omega
theorem sl_cons {bs : List UInt8} {a b : Nat} (hab : a < b) (hb : b ≤ bs.length) : sl bs a b = bs[a]'(by omega) :: sl bs (a + 1) b := by
  unfold sl
  rw [List.drop_eq_getElem_cons (by omega), show b - a = (b - (a + 1)) + 1 by omega, List.take_succ_cons]
theorem dotF_hit {bs : List UInt8} {a b : Nat} (hab : a < b) (hb : b ≤ bs.length) (h : bs[a]'(by omega) = 46) : dotF bs a b = a := by
  unfold dotF
  rw [sl_cons hab hb, h]
  simp [List.idxOf_cons]
theorem dotF_miss {bs : List UInt8} {a b : Nat} (hab : a < b) (hb : b ≤ bs.length) (h : bs[a]'(by omega) ≠ 46) : dotF bs a b = dotF bs (a + 1) b := by
  unfold dotF
  rw [sl_cons hab hb, List.idxOf_cons]
  have : (bs[a]'(by omega) == (46 : UInt8)) = false := by simpa using h
  rw [this]
  simp
  omega
theorem dotF_end {bs : List UInt8} {a : Nat} : dotF bs a a = a := by simp [dotF, sl_same]
theorem sb46 : nI 46 = sb_b (46 : UInt8).toNat := by decide +kernel
set_option maxHeartbeats 4000000 in
set_option maxRecDepth 100000 in
theorem c_Row_dotFrom (d : Nat) {M : xH} {sz r w : Nat} {bs : List UInt8} {a b : Nat} (hr : RowAt M r w bs) (hab : a ≤ b) (hb : b ≤ bs.length) (hw : w < 2147483647) : xC d 0 0 Y_Row_dotFrom [.ref r, .int (nI a), .int (nI b)] M sz (qi sz (fun y M' => y = nI (dotF bs a b) ∧ M' = M)) := by
  refine xC_of (by decide) (Nat.le_of_ble_eq_true rfl) (by simp [Value.category]) (vs := [some (.ref r), some (.int (nI a)), some (.int (nI b)), none]) rfl (fun K hX hE => ?_)
  obtain ⟨h1, h2, f, h3, h4⟩ := id hr
  have loop : ∀ (n i : Nat), i + n = b → a ≤ i → dotF bs a b = dotF bs i b → xG K 2 [some (.ref r), some (.int (nI a)), some (.int (nI b)), some (.int (nI i))] [] M sz 0 0 := by
    intro n
    induction n with
    | zero =>
      intro i hi ha hd
      refine xp_iload_3 (pc := 2) hX d_Row_dotFrom_2 ?_
      refine xp_iload_2 (pc := 3) hX d_Row_dotFrom_3 ?_
      refine xn_icmp_ge (pc := 4) hX 39 d_Row_dotFrom_4 (by decide) (by omega) (by omega) (fun _ => ?_) (fun h => absurd h (by omega))
      refine xp_iload_2 (pc := 39) hX d_Row_dotFrom_39 ?_
      refine xg_iret (pc := 40) hX hE d_Row_dotFrom_40 rfl rfl (by omega) (by omega) ?_
      have hi : i = b := by omega
      subst hi
      exact ⟨rfl, _, rfl, by rw [hd, dotF_end], rfl⟩
    | succ n ih =>
      intro i hi ha hd
      have e1 : bs[i]? = some bs[i] := List.getElem?_eq_getElem (by omega)
      refine xp_iload_3 (pc := 2) hX d_Row_dotFrom_2 ?_
      refine xp_iload_2 (pc := 3) hX d_Row_dotFrom_3 ?_
      refine xn_icmp_ge (pc := 4) hX 39 d_Row_dotFrom_4 (by decide) (by omega) (by omega) (fun h => absurd h (by omega)) (fun _ => ?_)
      refine xp_iload_3 (pc := 7) hX d_Row_dotFrom_7 ?_
      refine xp_aload_0 (pc := 8) hX d_Row_dotFrom_8 ?_
      refine xg_get (pc := 9) hX (j := 0) k_Row d_Row_dotFrom_9 l_Row_15 (by decide) (by first | assumption | exact xup_s _ _ _ | exact xup_o (by omega) (by assumption) | exact xup_o (by omega) (xup_s _ _ _) | exact xup_o (by omega) (xup_o (by omega) (by assumption)) | exact xup_o (by omega) (xup_o (by omega) (xup_s _ _ _)) | exact xup_o (by omega) (xup_o (by omega) (xup_o (by omega) (by assumption)))) (by rfl) ?_
      refine xn_alen (pc := 12) hX (t := 0) d_Row_dotFrom_12 rfl (by first | assumption | exact xup_s _ _ _ | exact xup_o (by omega) (by assumption) | exact xup_o (by omega) (xup_s _ _ _) | exact xup_o (by omega) (xup_o (by omega) (by assumption)) | exact xup_o (by omega) (xup_o (by omega) (xup_s _ _ _)) | exact xup_o (by omega) (xup_o (by omega) (xup_o (by omega) (by assumption)))) ?_
      refine xn_icmp_ge (pc := 13) hX 39 d_Row_dotFrom_13 (by decide) (by omega) (by show w < _; omega) (fun h => absurd h (by show ¬ w ≤ i; omega)) (fun _ => ?_)
      refine xp_iload_3 (pc := 16) hX d_Row_dotFrom_16 ?_
      refine xn_if_lt (pc := 17) hX 33 d_Row_dotFrom_17 (by decide) (by omega) ?_
      refine xp_aload_0 (pc := 20) hX d_Row_dotFrom_20 ?_
      refine xg_get (pc := 21) hX (j := 0) k_Row d_Row_dotFrom_21 l_Row_15 (by decide) (by first | assumption | exact xup_s _ _ _ | exact xup_o (by omega) (by assumption) | exact xup_o (by omega) (xup_s _ _ _) | exact xup_o (by omega) (xup_o (by omega) (by assumption)) | exact xup_o (by omega) (xup_o (by omega) (xup_s _ _ _)) | exact xup_o (by omega) (xup_o (by omega) (xup_o (by omega) (by assumption)))) (by rfl) ?_
      refine xp_iload_3 (pc := 24) hX d_Row_dotFrom_24 ?_
      refine xn_bald (pc := 25) hX d_Row_dotFrom_25 rfl (by first | assumption | exact xup_s _ _ _ | exact xup_o (by omega) (by assumption) | exact xup_o (by omega) (xup_s _ _ _) | exact xup_o (by omega) (xup_o (by omega) (by assumption)) | exact xup_o (by omega) (xup_o (by omega) (xup_s _ _ _)) | exact xup_o (by omega) (xup_o (by omega) (xup_o (by omega) (by assumption)))) (by omega) (by omega) ?_
      refine xg_bipush (pc := 26) hX (nI 46) d_Row_dotFrom_26 ci_bipush_46 ?_
      rw [h4 i _ e1, sb46]
      refine xg_icmp_ne (pc := 28) hX 33 d_Row_dotFrom_28 (by decide) (fun h => ?_) (fun h => ?_)
      · refine xp_inc_3 (pc := 33) hX d_Row_dotFrom_33 (by decide) ?_
        refine xg_goto (pc := 36) hX 2 d_Row_dotFrom_36 (by decide) ?_
        exact ih (i + 1) (by omega) (by omega) (by rw [hd, dotF_miss (by omega) hb (fun q => h (sb_inj.mpr q))])
      · refine xp_iload_3 (pc := 31) hX d_Row_dotFrom_31 ?_
        refine xg_iret (pc := 32) hX hE d_Row_dotFrom_32 rfl rfl (by omega) (by omega) ?_
        exact ⟨rfl, _, rfl, by rw [hd, dotF_hit (by omega) hb (sb_inj.mp h)], rfl⟩
  refine xp_iload_1 (pc := 0) hX d_Row_dotFrom_0 ?_
  refine xp_istore_3 (pc := 1) hX d_Row_dotFrom_1 (by decide) ?_
  exact loop (b - a) a (by omega) (Nat.le_refl _) rfl
/-- a STEM; a COMPOUND name: by where the first period stands -/
def isSt (bs : List UInt8) : Bool := bs.idxOf 46 + 1 == bs.length
def isCo (bs : List UInt8) : Bool := decide (bs.idxOf 46 + 1 < bs.length)
theorem dotF_all (bs : List UInt8) : dotF bs 0 bs.length = bs.idxOf 46 := by simp [dotF, sl_all]
set_option maxHeartbeats 4000000 in
set_option maxRecDepth 100000 in
theorem c_Row_isStem (d : Nat) {M : xH} {sz r w : Nat} {bs : List UInt8} (hr : RowAt M r w bs) (hw : w < 2147483647) : xC (d + 1) 0 0 Y_Row_isStem [.ref r] M sz (qi sz (fun y M' => y = bI (isSt bs) ∧ M' = M)) := by
  refine xC_of (by decide) (Nat.le_of_ble_eq_true rfl) (by simp [Value.category]) (vs := [some (.ref r)]) rfl (fun K hX hE => ?_)
  obtain ⟨h1, h2, f, h3, h4⟩ := id hr
  have k30 : ∀ v, isSt bs = v → xG K 30 [some (.ref r)] [.int (bI v)] M sz 0 0 := by
    intro v hv
    refine xg_iret (pc := 30) hX hE d_Row_isStem_30 rfl (by cases v <;> rfl) (by omega) (by omega) ?_
    exact ⟨rfl, _, rfl, by rw [hv], rfl⟩
  have hi := List.idxOf_le_length (a := (46 : UInt8)) (l := bs)
  refine xp_aload_0 (pc := 0) hX d_Row_isStem_0 ?_
  refine xg_get (pc := 1) hX (j := 1) k_Row d_Row_isStem_1 l_Row_21 (by decide) (by first | assumption | exact xup_s _ _ _ | exact xup_o (by omega) (by assumption) | exact xup_o (by omega) (xup_s _ _ _) | exact xup_o (by omega) (xup_o (by omega) (by assumption)) | exact xup_o (by omega) (xup_o (by omega) (xup_s _ _ _)) | exact xup_o (by omega) (xup_o (by omega) (xup_o (by omega) (by assumption)))) (by rfl) ?_
  refine xn_if_le (pc := 4) hX 29 d_Row_isStem_4 (by decide) (by omega) (fun h => ?_) (fun h => ?_)
  · refine xg_iconst (pc := 29) hX (nI 0) d_Row_isStem_29 ci_iconst_0 ?_
    exact k30 false (by simp [isSt]; omega)
  · refine xp_aload_0 (pc := 7) hX d_Row_isStem_7 ?_
    refine xg_iconst (pc := 8) hX (nI 0) d_Row_isStem_8 ci_iconst_0 ?_
    refine xp_aload_0 (pc := 9) hX d_Row_isStem_9 ?_
    refine xg_get (pc := 10) hX (j := 1) k_Row d_Row_isStem_10 l_Row_21 (by decide) (by first | assumption | exact xup_s _ _ _ | exact xup_o (by omega) (by assumption) | exact xup_o (by omega) (xup_s _ _ _) | exact xup_o (by omega) (xup_o (by omega) (by assumption)) | exact xup_o (by omega) (xup_o (by omega) (xup_s _ _ _)) | exact xup_o (by omega) (xup_o (by omega) (xup_o (by omega) (by assumption)))) (by rfl) ?_
    refine xi_V (Y2 := Y_Row_dotFrom) (pc := 13) hX [_, _] k_Row m_Row_dotFrom d_Row_isStem_13 l_Row_46 rfl rfl (by simp [Value.category]) (by first | assumption | exact xup_s _ _ _ | exact xup_o (by omega) (by assumption) | exact xup_o (by omega) (xup_s _ _ _) | exact xup_o (by omega) (xup_o (by omega) (by assumption)) | exact xup_o (by omega) (xup_o (by omega) (xup_s _ _ _)) | exact xup_o (by omega) (xup_o (by omega) (xup_o (by omega) (by assumption)))) (c_Row_dotFrom d (a := 0) (b := bs.length) hr (Nat.zero_le _) (Nat.le_refl _) hw) (by omega) (by omega) ?_
    rintro y M' ⟨rfl, rfl⟩
    rw [dotF_all]
    refine xp_aload_0 (pc := 16) hX d_Row_isStem_16 ?_
    refine xg_get (pc := 17) hX (j := 1) k_Row d_Row_isStem_17 l_Row_21 (by decide) (by first | assumption | exact xup_s _ _ _ | exact xup_o (by omega) (by assumption) | exact xup_o (by omega) (xup_s _ _ _) | exact xup_o (by omega) (xup_o (by omega) (by assumption)) | exact xup_o (by omega) (xup_o (by omega) (xup_s _ _ _)) | exact xup_o (by omega) (xup_o (by omega) (xup_o (by omega) (by assumption)))) (by rfl) ?_
    refine xg_iconst (pc := 20) hX (nI 1) d_Row_isStem_20 ci_iconst_1 ?_
    first | refine xn_isub (pc := 21) hX d_Row_isStem_21 (by omega) ?_ | refine xg_isub (pc := 21) hX d_Row_isStem_21 ?_
    refine xn_icmp_ne (pc := 22) hX 29 d_Row_isStem_22 (by decide) (by omega) (by omega) (fun h => ?_) (fun h => ?_)
    · refine xg_iconst (pc := 29) hX (nI 0) d_Row_isStem_29 ci_iconst_0 ?_
      exact k30 false (by simp [isSt]; omega)
    · refine xg_iconst (pc := 25) hX (nI 1) d_Row_isStem_25 ci_iconst_1 ?_
      refine xg_goto (pc := 26) hX 30 d_Row_isStem_26 (by decide) ?_
      exact k30 true (by simp [isSt]; omega)
set_option maxHeartbeats 4000000 in
set_option maxRecDepth 100000 in
theorem c_Row_isCompound (d : Nat) {M : xH} {sz r w : Nat} {bs : List UInt8} (hr : RowAt M r w bs) (hne : 0 < bs.length) (hw : w < 2147483647) : xC (d + 1) 0 0 Y_Row_isCompound [.ref r] M sz (qi sz (fun y M' => y = bI (isCo bs) ∧ M' = M)) := by
  refine xC_of (by decide) (Nat.le_of_ble_eq_true rfl) (by simp [Value.category]) (vs := [some (.ref r)]) rfl (fun K hX hE => ?_)
  obtain ⟨h1, h2, f, h3, h4⟩ := id hr
  have k23 : ∀ v, isCo bs = v → xG K 23 [some (.ref r)] [.int (bI v)] M sz 0 0 := by
    intro v hv
    refine xg_iret (pc := 23) hX hE d_Row_isCompound_23 rfl (by cases v <;> rfl) (by omega) (by omega) ?_
    exact ⟨rfl, _, rfl, by rw [hv], rfl⟩
  have hi := List.idxOf_le_length (a := (46 : UInt8)) (l := bs)
  refine xp_aload_0 (pc := 0) hX d_Row_isCompound_0 ?_
  refine xg_iconst (pc := 1) hX (nI 0) d_Row_isCompound_1 ci_iconst_0 ?_
  refine xp_aload_0 (pc := 2) hX d_Row_isCompound_2 ?_
  refine xg_get (pc := 3) hX (j := 1) k_Row d_Row_isCompound_3 l_Row_21 (by decide) (by first | assumption | exact xup_s _ _ _ | exact xup_o (by omega) (by assumption) | exact xup_o (by omega) (xup_s _ _ _) | exact xup_o (by omega) (xup_o (by omega) (by assumption)) | exact xup_o (by omega) (xup_o (by omega) (xup_s _ _ _)) | exact xup_o (by omega) (xup_o (by omega) (xup_o (by omega) (by assumption)))) (by rfl) ?_
  refine xi_V (Y2 := Y_Row_dotFrom) (pc := 6) hX [_, _] k_Row m_Row_dotFrom d_Row_isCompound_6 l_Row_46 rfl rfl (by simp [Value.category]) (by first | assumption | exact xup_s _ _ _ | exact xup_o (by omega) (by assumption) | exact xup_o (by omega) (xup_s _ _ _) | exact xup_o (by omega) (xup_o (by omega) (by assumption)) | exact xup_o (by omega) (xup_o (by omega) (xup_s _ _ _)) | exact xup_o (by omega) (xup_o (by omega) (xup_o (by omega) (by assumption)))) (c_Row_dotFrom d (a := 0) (b := bs.length) hr (Nat.zero_le _) (Nat.le_refl _) hw) (by omega) (by omega) ?_
  rintro y M' ⟨rfl, rfl⟩
  rw [dotF_all]
  refine xp_aload_0 (pc := 9) hX d_Row_isCompound_9 ?_
  refine xg_get (pc := 10) hX (j := 1) k_Row d_Row_isCompound_10 l_Row_21 (by decide) (by first | assumption | exact xup_s _ _ _ | exact xup_o (by omega) (by assumption) | exact xup_o (by omega) (xup_s _ _ _) | exact xup_o (by omega) (xup_o (by omega) (by assumption)) | exact xup_o (by omega) (xup_o (by omega) (xup_s _ _ _)) | exact xup_o (by omega) (xup_o (by omega) (xup_o (by omega) (by assumption)))) (by rfl) ?_
  refine xg_iconst (pc := 13) hX (nI 1) d_Row_isCompound_13 ci_iconst_1 ?_
  first | refine xn_isub (pc := 14) hX d_Row_isCompound_14 (by omega) ?_ | refine xg_isub (pc := 14) hX d_Row_isCompound_14 ?_
  refine xn_icmp_ge (pc := 15) hX 22 d_Row_isCompound_15 (by decide) (by omega) (by omega) (fun h => ?_) (fun h => ?_)
  · refine xg_iconst (pc := 22) hX (nI 0) d_Row_isCompound_22 ci_iconst_0 ?_
    exact k23 false (by simp [isCo]; omega)
  · refine xg_iconst (pc := 18) hX (nI 1) d_Row_isCompound_18 ci_iconst_1 ?_
    refine xg_goto (pc := 19) hX 23 d_Row_isCompound_19 (by decide) ?_
    exact k23 true (by simp [isCo]; omega)
