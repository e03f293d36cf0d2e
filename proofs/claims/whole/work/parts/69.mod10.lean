/-! the reference: place, assign -/
section XM10
variable {t x out full : List UInt8} {es : List xEn} {pool : Nat} {se : List xSe} {sub fd : List UInt8} {fr bg : Nat} {wr : Option Nat} {nx kd fi la va : Nat}
set_option maxHeartbeats 16000000 in
set_option maxRecDepth 100000 in
theorem c_Mod_place (d : Nat) {M : xH} {sz O p : Nat} (h : Wd M O t x out full es pool se sub fd fr bg wr nx kd fi la va) (hp : p < 8) (hl : full.length ≤ 200) : xC (d + 1) 0 0 Y_Mod_place [.ref O, .int (nI p)] M sz (qi sz (fun y M' => (∃ k es' vo, y = nI k ∧ es'[k]? = some (p, full, vo) ∧ es'.length ≤ 100 ∧ (∀ u, putE es p full u = some (es'.set k (p, full, u))) ∧ M' O = some (moC O t x out full es' pool se sub fd fr bg wr nx kd fi la va) ∧ EnQ (fun j => j ≠ k) M' O es' ∧ (∀ q, q ≠ O → (q < O + 5 ∨ O + 10 ≤ q) → M' q = M q)) ∨ (y = -1 ∧ M' = M ∧ ∀ u, putE es p full u = none))) := by
  refine xC_of (by decide) (Nat.le_of_ble_eq_true rfl) (by simp [Value.category]) (vs := [some (.ref O), some (.int (nI p)), none, none]) rfl (fun K hX hE => ?_)
  obtain ⟨h0, -, -, -, ⟨h4l, f, h4a, h4b⟩, ⟨h5l, fn, fz, fv, fvz, fp, h5, h6, h7, h8, h9, h10⟩, -⟩ := id h
  refine xp_aload_0 (pc := 0) hX d_Mod_place_0 ?_
  refine xp_iload_1 (pc := 1) hX d_Mod_place_1 ?_
  refine xp_aload_0 (pc := 2) hX d_Mod_place_2 ?_
  refine xg_get (pc := 3) hX (j := 7) k_Mod d_Mod_place_3 l_Mod_95 (by decide) (by first | assumption | exact xup_s _ _ _ | exact xup_o (by omega) (by assumption) | exact xup_o (by omega) (xup_s _ _ _) | exact xup_o (by omega) (xup_o (by omega) (by assumption)) | exact xup_o (by omega) (xup_o (by omega) (xup_s _ _ _)) | exact xup_o (by omega) (xup_o (by omega) (xup_o (by omega) (by assumption)))) (by rfl) ?_
  refine xi_V (Y2 := Y_Mod_entry) (pc := 6) hX [_, _] k_Mod m_Mod_entry d_Mod_place_6 l_Mod_115 rfl rfl (by simp [Value.category]) (by first | assumption | exact xup_s _ _ _ | exact xup_o (by omega) (by assumption) | exact xup_o (by omega) (xup_s _ _ _) | exact xup_o (by omega) (xup_o (by omega) (by assumption)) | exact xup_o (by omega) (xup_o (by omega) (xup_s _ _ _)) | exact xup_o (by omega) (xup_o (by omega) (xup_o (by omega) (by assumption)))) (c_Mod_entry d h (Nat.le_refl _) (by omega)) (by omega) (by omega) ?_
  rintro y M1 ⟨rfl, rfl⟩
  rw [List.take_length]
  refine xp_istore_2 (pc := 9) hX d_Mod_place_9 (by decide) ?_
  refine xp_iload_2 (pc := 10) hX d_Mod_place_10 ?_
  refine xg_iconst (pc := 11) hX (-1) d_Mod_place_11 ci_iconst_m1 ?_
  cases hi : eIdx es p full with
  | some k =>
    obtain ⟨vo, hvo⟩ := eIdx_get hi
    have hk := (List.getElem?_eq_some_iff.mp hvo).1
    refine xg_icmp_eq (pc := 12) hX 17 d_Mod_place_12 (by decide) (fun z => absurd z (nI_nm1 (by omega))) (fun _ => ?_)
    refine xp_iload_2 (pc := 15) hX d_Mod_place_15 ?_
    refine xg_iret (pc := 16) hX hE d_Mod_place_16 rfl rfl (by omega) (by omega) ?_
    refine ⟨rfl, _, rfl, Or.inl ⟨k, es, vo, rfl, hvo, h5l, fun u => by unfold putE; rw [hi], h0, ⟨h5l, fn, fz, fv, fvz, fp, h5, h6, h7, h8, h9, fun j e he => ⟨(h10 j e he).1, fun _ => (h10 j e he).2 trivial⟩⟩, fun _ _ _ => rfl⟩⟩
  | none =>
    refine xg_icmp_eq (pc := 12) hX 17 d_Mod_place_12 (by decide) (fun _ => ?_) (fun z => absurd rfl z)
    refine xp_aload_0 (pc := 17) hX d_Mod_place_17 ?_
    refine xg_get (pc := 18) hX (j := 13) k_Mod d_Mod_place_18 l_Mod_105 (by decide) (by first | assumption | exact xup_s _ _ _ | exact xup_o (by omega) (by assumption) | exact xup_o (by omega) (xup_s _ _ _) | exact xup_o (by omega) (xup_o (by omega) (by assumption)) | exact xup_o (by omega) (xup_o (by omega) (xup_s _ _ _)) | exact xup_o (by omega) (xup_o (by omega) (xup_o (by omega) (by assumption)))) (by rfl) ?_
    refine xg_bipush (pc := 21) hX (nI 100) d_Mod_place_21 ci_bipush_100 ?_
    refine xn_icmp_ne (pc := 23) hX 28 d_Mod_place_23 (by decide) (by omega) (by omega) (fun z => ?_) (fun z => ?_)
    · refine xp_aload_0 (pc := 28) hX d_Mod_place_28 ?_
      refine xg_get (pc := 29) hX (j := 12) k_Mod d_Mod_place_29 l_Mod_34 (by decide) (by first | assumption | exact xup_s _ _ _ | exact xup_o (by omega) (by assumption) | exact xup_o (by omega) (xup_s _ _ _) | exact xup_o (by omega) (xup_o (by omega) (by assumption)) | exact xup_o (by omega) (xup_o (by omega) (xup_s _ _ _)) | exact xup_o (by omega) (xup_o (by omega) (xup_o (by omega) (by assumption)))) (by rfl) ?_
      refine xp_aload_0 (pc := 32) hX d_Mod_place_32 ?_
      refine xg_get (pc := 33) hX (j := 13) k_Mod d_Mod_place_33 l_Mod_105 (by decide) (by first | assumption | exact xup_s _ _ _ | exact xup_o (by omega) (by assumption) | exact xup_o (by omega) (xup_s _ _ _) | exact xup_o (by omega) (xup_o (by omega) (by assumption)) | exact xup_o (by omega) (xup_o (by omega) (xup_s _ _ _)) | exact xup_o (by omega) (xup_o (by omega) (xup_o (by omega) (by assumption)))) (by rfl) ?_
      refine xp_iload_1 (pc := 36) hX d_Mod_place_36 ?_
      refine xn_iast (pc := 37) hX d_Mod_place_37 rfl (by first | assumption | exact xup_s _ _ _ | exact xup_o (by omega) (by assumption) | exact xup_o (by omega) (xup_s _ _ _) | exact xup_o (by omega) (xup_o (by omega) (by assumption)) | exact xup_o (by omega) (xup_o (by omega) (xup_s _ _ _)) | exact xup_o (by omega) (xup_o (by omega) (xup_o (by omega) (by assumption)))) (by omega) (by omega) ?_
      refine xp_aload_0 (pc := 38) hX d_Mod_place_38 ?_
      refine xg_get (pc := 39) hX (j := 9) k_Mod d_Mod_place_39 l_Mod_25 (by decide) (by first | assumption | exact xup_s _ _ _ | exact xup_o (by omega) (by assumption) | exact xup_o (by omega) (xup_s _ _ _) | exact xup_o (by omega) (xup_o (by omega) (by assumption)) | exact xup_o (by omega) (xup_o (by omega) (xup_s _ _ _)) | exact xup_o (by omega) (xup_o (by omega) (xup_o (by omega) (by assumption)))) (by rfl) ?_
      refine xp_aload_0 (pc := 42) hX d_Mod_place_42 ?_
      refine xg_get (pc := 43) hX (j := 13) k_Mod d_Mod_place_43 l_Mod_105 (by decide) (by first | assumption | exact xup_s _ _ _ | exact xup_o (by omega) (by assumption) | exact xup_o (by omega) (xup_s _ _ _) | exact xup_o (by omega) (xup_o (by omega) (by assumption)) | exact xup_o (by omega) (xup_o (by omega) (xup_s _ _ _)) | exact xup_o (by omega) (xup_o (by omega) (xup_o (by omega) (by assumption)))) (by rfl) ?_
      refine xp_aload_0 (pc := 46) hX d_Mod_place_46 ?_
      refine xg_get (pc := 47) hX (j := 7) k_Mod d_Mod_place_47 l_Mod_95 (by decide) (by first | assumption | exact xup_s _ _ _ | exact xup_o (by omega) (by assumption) | exact xup_o (by omega) (xup_s _ _ _) | exact xup_o (by omega) (xup_o (by omega) (by assumption)) | exact xup_o (by omega) (xup_o (by omega) (xup_s _ _ _)) | exact xup_o (by omega) (xup_o (by omega) (xup_o (by omega) (by assumption)))) (by rfl) ?_
      refine xn_iast (pc := 50) hX d_Mod_place_50 rfl (by first | assumption | exact xup_s _ _ _ | exact xup_o (by omega) (by assumption) | exact xup_o (by omega) (xup_s _ _ _) | exact xup_o (by omega) (xup_o (by omega) (by assumption)) | exact xup_o (by omega) (xup_o (by omega) (xup_s _ _ _)) | exact xup_o (by omega) (xup_o (by omega) (xup_o (by omega) (by assumption)))) (by omega) (by omega) ?_
      refine xg_iconst (pc := 51) hX (nI 0) d_Mod_place_51 ci_iconst_0 ?_
      refine xp_istore_3 (pc := 52) hX d_Mod_place_52 (by decide) ?_
      have loop : ∀ (r i : Nat) (M2 : xH) (fn2 : Nat → Int32), full.length - i = r → i ≤ full.length → M2 O = some (moC O t x out full es pool se sub fd fr bg wr nx kd fi la va) → M2 (O + 4) = some (.inl (1, 201, .inl f)) → M2 (O + 5) = some (.inl (1, 20200, .inl fn2)) → M2 (O + 6) = some (.inl (1, 101, .inl (upd fz es.length (nI full.length)))) → M2 (O + 7) = some (.inl (1, 20200, .inl fv)) → M2 (O + 8) = some (.inl (1, 101, .inl fvz)) → M2 (O + 9) = some (.inl (1, 101, .inl (upd fp es.length (nI p)))) → (∀ (j : Nat) (c : UInt8), j < i → full[j]? = some c → fn2 (200 * es.length + j) = nI c.toNat) → (∀ q, q < 200 * es.length → fn2 q = fn q) → (∀ q, q ≠ O → (q < O + 5 ∨ O + 10 ≤ q) → M2 q = M1 q) → xG K 53 [some (.ref O), some (.int (nI p)), some (.int (wI none)), some (.int (nI i))] [] M2 sz 0 0 := by
        intro r
        induction r with
        | zero =>
          intro i M2 fn2 hr hi1 h0 h4 h5 h6 h7 h8 h9 hn1 hn2 hq
          refine xp_iload_3 (pc := 53) hX d_Mod_place_53 ?_
          refine xp_aload_0 (pc := 54) hX d_Mod_place_54 ?_
          refine xg_get (pc := 55) hX (j := 7) k_Mod d_Mod_place_55 l_Mod_95 (by decide) (by first | assumption | exact xup_s _ _ _ | exact xup_o (by omega) (by assumption) | exact xup_o (by omega) (xup_s _ _ _) | exact xup_o (by omega) (xup_o (by omega) (by assumption)) | exact xup_o (by omega) (xup_o (by omega) (xup_s _ _ _)) | exact xup_o (by omega) (xup_o (by omega) (xup_o (by omega) (by assumption)))) (by rfl) ?_
          refine xn_icmp_ge (pc := 58) hX 88 d_Mod_place_58 (by decide) (by omega) (by omega) (fun _ => ?_) (fun z => absurd z (by omega))
          refine xp_aload_0 (pc := 88) hX d_Mod_place_88 ?_
          refine xg_dup (pc := 89) hX d_Mod_place_89 rfl ?_
          refine xg_get (pc := 90) hX (j := 13) k_Mod d_Mod_place_90 l_Mod_105 (by decide) (by first | assumption | exact xup_s _ _ _ | exact xup_o (by omega) (by assumption) | exact xup_o (by omega) (xup_s _ _ _) | exact xup_o (by omega) (xup_o (by omega) (by assumption)) | exact xup_o (by omega) (xup_o (by omega) (xup_s _ _ _)) | exact xup_o (by omega) (xup_o (by omega) (xup_o (by omega) (by assumption)))) (by rfl) ?_
          refine xg_iconst (pc := 93) hX (nI 1) d_Mod_place_93 ci_iconst_1 ?_
          first | refine xn_iadd (pc := 94) hX d_Mod_place_94 ?_ | refine xg_iadd (pc := 94) hX d_Mod_place_94 ?_
          refine xg_put (pc := 95) hX (j := 13) k_Mod d_Mod_place_95 l_Mod_105 (by decide) rfl (by first | assumption | exact xup_s _ _ _ | exact xup_o (by omega) (by assumption) | exact xup_o (by omega) (xup_s _ _ _) | exact xup_o (by omega) (xup_o (by omega) (by assumption)) | exact xup_o (by omega) (xup_o (by omega) (xup_s _ _ _)) | exact xup_o (by omega) (xup_o (by omega) (xup_o (by omega) (by assumption)))) (Nat.le_of_ble_eq_true rfl) rfl rfl (by simp only [List.set_cons_zero, List.set_cons_succ]; exact rfl) ?_
          refine xp_aload_0 (pc := 98) hX d_Mod_place_98 ?_
          refine xg_get (pc := 99) hX (j := 13) k_Mod d_Mod_place_99 l_Mod_105 (by decide) (by first | assumption | exact xup_s _ _ _ | exact xup_o (by omega) (by assumption) | exact xup_o (by omega) (xup_s _ _ _) | exact xup_o (by omega) (xup_o (by omega) (by assumption)) | exact xup_o (by omega) (xup_o (by omega) (xup_s _ _ _)) | exact xup_o (by omega) (xup_o (by omega) (xup_o (by omega) (by assumption)))) (by rfl) ?_
          refine xg_iconst (pc := 102) hX (nI 1) d_Mod_place_102 ci_iconst_1 ?_
          first | refine xn_isub (pc := 103) hX d_Mod_place_103 (by omega) ?_ | refine xg_isub (pc := 103) hX d_Mod_place_103 ?_
          refine xg_iret (pc := 104) hX hE d_Mod_place_104 rfl rfl (by omega) (by omega) ?_
          refine ⟨rfl, _, rfl, Or.inl ⟨es.length, es ++ [(p, full, some [])], some [], by rw [show es.length + 1 - 1 = es.length by omega], by simp, by simp; omega, fun u => ?_, ?_, ⟨by simp; omega, fn2, upd fz es.length (nI full.length), fv, fvz, upd fp es.length (nI p), ?_, ?_, ?_, ?_, ?_, fun j e he => ?_⟩, fun q a b => ?_⟩⟩
          · unfold putE
            rw [hi]
            dsimp only
            rw [if_pos (by omega)]
            simp
          · rw [xup_s]
            simp only [moC, List.length_append, List.length_cons, List.length_nil]
          · rw [xup_n _ _ (by omega)]; exact h5
          · rw [xup_n _ _ (by omega)]; exact h6
          · rw [xup_n _ _ (by omega)]; exact h7
          · rw [xup_n _ _ (by omega)]; exact h8
          · rw [xup_n _ _ (by omega)]; exact h9
          · by_cases hj : j = es.length
            · subst hj
              simp at he
              subst he
              exact ⟨⟨pk_us, hp, pk_us, hl, fun q c hc => hn1 q c (by have := (List.getElem?_eq_some_iff.mp hc).1; dsimp only at this; omega) hc⟩, fun q => absurd rfl q⟩
            · rw [List.getElem?_append] at he
              split at he
              · obtain ⟨w1, w2⟩ := h10 j e he
                exact ⟨w1.moved (pk_un hj) (pk_un hj) (fun q hq => hn2 _ (by omega)), fun _ => w2 trivial⟩
              · have := (List.getElem?_eq_some_iff.mp he).1
                simp at this
                omega
          · rw [xup_n _ _ a]; exact hq q a b
        | succ r ih =>
          intro i M2 fn2 hr hi1 h0 h4 h5 h6 h7 h8 h9 hn1 hn2 hq
          refine xp_iload_3 (pc := 53) hX d_Mod_place_53 ?_
          refine xp_aload_0 (pc := 54) hX d_Mod_place_54 ?_
          refine xg_get (pc := 55) hX (j := 7) k_Mod d_Mod_place_55 l_Mod_95 (by decide) (by first | assumption | exact xup_s _ _ _ | exact xup_o (by omega) (by assumption) | exact xup_o (by omega) (xup_s _ _ _) | exact xup_o (by omega) (xup_o (by omega) (by assumption)) | exact xup_o (by omega) (xup_o (by omega) (xup_s _ _ _)) | exact xup_o (by omega) (xup_o (by omega) (xup_o (by omega) (by assumption)))) (by rfl) ?_
          refine xn_icmp_ge (pc := 58) hX 88 d_Mod_place_58 (by decide) (by omega) (by omega) (fun z => absurd z (by omega)) (fun _ => ?_)
          refine xp_aload_0 (pc := 61) hX d_Mod_place_61 ?_
          refine xg_get (pc := 62) hX (j := 8) k_Mod d_Mod_place_62 l_Mod_22 (by decide) (by first | assumption | exact xup_s _ _ _ | exact xup_o (by omega) (by assumption) | exact xup_o (by omega) (xup_s _ _ _) | exact xup_o (by omega) (xup_o (by omega) (by assumption)) | exact xup_o (by omega) (xup_o (by omega) (xup_s _ _ _)) | exact xup_o (by omega) (xup_o (by omega) (xup_o (by omega) (by assumption)))) (by rfl) ?_
          refine xg_sipush (pc := 65) hX (nI 200) d_Mod_place_65 ci_sipush_200 ?_
          refine xp_aload_0 (pc := 68) hX d_Mod_place_68 ?_
          refine xg_get (pc := 69) hX (j := 13) k_Mod d_Mod_place_69 l_Mod_105 (by decide) (by first | assumption | exact xup_s _ _ _ | exact xup_o (by omega) (by assumption) | exact xup_o (by omega) (xup_s _ _ _) | exact xup_o (by omega) (xup_o (by omega) (by assumption)) | exact xup_o (by omega) (xup_o (by omega) (xup_s _ _ _)) | exact xup_o (by omega) (xup_o (by omega) (xup_o (by omega) (by assumption)))) (by rfl) ?_
          first | refine xn_imul (pc := 72) hX d_Mod_place_72 ?_ | refine xg_imul (pc := 72) hX d_Mod_place_72 ?_
          refine xp_iload_3 (pc := 73) hX d_Mod_place_73 ?_
          first | refine xn_iadd (pc := 74) hX d_Mod_place_74 ?_ | refine xg_iadd (pc := 74) hX d_Mod_place_74 ?_
          refine xp_aload_0 (pc := 75) hX d_Mod_place_75 ?_
          refine xg_get (pc := 76) hX (j := 3) k_Mod d_Mod_place_76 l_Mod_19 (by decide) (by first | assumption | exact xup_s _ _ _ | exact xup_o (by omega) (by assumption) | exact xup_o (by omega) (xup_s _ _ _) | exact xup_o (by omega) (xup_o (by omega) (by assumption)) | exact xup_o (by omega) (xup_o (by omega) (xup_s _ _ _)) | exact xup_o (by omega) (xup_o (by omega) (xup_o (by omega) (by assumption)))) (by rfl) ?_
          refine xp_iload_3 (pc := 79) hX d_Mod_place_79 ?_
          refine xn_iald (pc := 80) hX d_Mod_place_80 rfl (by first | assumption | exact xup_s _ _ _ | exact xup_o (by omega) (by assumption) | exact xup_o (by omega) (xup_s _ _ _) | exact xup_o (by omega) (xup_o (by omega) (by assumption)) | exact xup_o (by omega) (xup_o (by omega) (xup_s _ _ _)) | exact xup_o (by omega) (xup_o (by omega) (xup_o (by omega) (by assumption)))) (by omega) (by omega) ?_
          refine xn_iast (pc := 81) hX d_Mod_place_81 rfl (by first | assumption | exact xup_s _ _ _ | exact xup_o (by omega) (by assumption) | exact xup_o (by omega) (xup_s _ _ _) | exact xup_o (by omega) (xup_o (by omega) (by assumption)) | exact xup_o (by omega) (xup_o (by omega) (xup_s _ _ _)) | exact xup_o (by omega) (xup_o (by omega) (xup_o (by omega) (by assumption)))) (by omega) (by omega) ?_
          refine xp_inc_3 (pc := 82) hX d_Mod_place_82 (by decide) ?_
          refine xg_goto (pc := 85) hX 53 d_Mod_place_85 (by decide) ?_
          refine ih (i + 1) _ _ (by omega) (by omega) ?_ ?_ (xup_s _ _ _) ?_ ?_ ?_ ?_ (fun j c hj hc => ?_) (fun q hq1 => ?_) (fun q a b => ?_)
          · rw [xup_n _ _ (by omega)]; exact h0
          · rw [xup_n _ _ (by omega)]; exact h4
          · rw [xup_n _ _ (by omega)]; exact h6
          · rw [xup_n _ _ (by omega)]; exact h7
          · rw [xup_n _ _ (by omega)]; exact h8
          · rw [xup_n _ _ (by omega)]; exact h9
          · by_cases e : j = i
            · subst e
              rw [pk_us]
              exact h4b j c hc
            · rw [pk_un (by omega)]
              exact hn1 j c (by omega) hc
          · rw [pk_un (by omega)]
            exact hn2 q hq1
          · rw [xup_n _ _ (by omega)]; exact hq q a b
      refine loop _ 0 _ fn rfl (by omega) ?_ ?_ ?_ (xup_s _ _ _) ?_ ?_ ?_ (fun j c hj => absurd hj (by omega)) (fun _ _ => rfl) (fun q a b => ?_)
      · rw [xup_n _ _ (by omega), xup_n _ _ (by omega)]; exact h0
      · rw [xup_n _ _ (by omega), xup_n _ _ (by omega)]; exact h4a
      · rw [xup_n _ _ (by omega), xup_n _ _ (by omega)]; exact h5
      · rw [xup_n _ _ (by omega), xup_n _ _ (by omega)]; exact h7
      · rw [xup_n _ _ (by omega), xup_n _ _ (by omega)]; exact h8
      · rw [xup_n _ _ (by omega), xup_s]
      · rw [xup_n _ _ (by omega), xup_n _ _ (by omega)]
    · refine xg_iconst (pc := 26) hX (-1) d_Mod_place_26 ci_iconst_m1 ?_
      refine xg_iret (pc := 27) hX hE d_Mod_place_27 rfl rfl (by omega) (by omega) ?_
      refine ⟨rfl, _, rfl, Or.inr ⟨rfl, rfl, fun u => ?_⟩⟩
      unfold putE
      rw [hi]
      dsimp only
      rw [if_neg (by omega)]
set_option maxHeartbeats 16000000 in
set_option maxRecDepth 100000 in
theorem c_Mod_assign (d : Nat) {M : xH} {sz O a b : Nat} {sb : Bool} {src : List UInt8} (h : Wd M O t x out full es pool se sub fd fr bg wr nx kd fi la va) (hso : SeO se) (hf1 : 0 < full.length) (hl : full.length ≤ 200) (hsrc : src = if sb then sub else x) (hab : a ≤ b) (hb : b ≤ src.length) (hba : b - a ≤ 200) : xC (d + 2) 0 0 Y_Mod_assign [.ref O, .int (bI sb), .int (nI a), .int (nI b)] M sz (qi sz (fun y M' => ((∃ es2, putE (clE es (own se full pool) full) (own se full pool) full (some (sl src a b)) = some es2 ∧ y = nI 1 ∧ Wd M' O t x out full es2 pool se sub fd fr bg wr nx kd fi la va) ∨ (putE (clE es (own se full pool) full) (own se full pool) full (some (sl src a b)) = none ∧ y = nI 0 ∧ Wd M' O t x out full (clE es (own se full pool) full) pool se sub fd fr bg wr nx kd fi la va)) ∧ FrO M M' O)) := by
  refine xC_of (by decide) (Nat.le_of_ble_eq_true rfl) (by simp [Value.category]) (vs := [some (.ref O), some (.int (bI sb)), some (.int (nI a)), some (.int (nI b)), none, none, none]) rfl (fun K hX hE => ?_)
  obtain ⟨h0, -⟩ := id h
  obtain ⟨hx1, hx2, hx3, hx4, hx5, hx6, hx7, -⟩ := h.xl
  have hpl := own_le se full pool
  have ho := own_eq hso full pool
  have hsll : (sl src a b).length = b - a := sl_len hb
  have hs6 : src.length ≤ 600 := by rw [hsrc]; split <;> omega
  refine xp_aload_0 (pc := 0) hX d_Mod_assign_0 ?_
  refine xp_aload_0 (pc := 1) hX d_Mod_assign_1 ?_
  refine xg_get (pc := 2) hX (j := 7) k_Mod d_Mod_assign_2 l_Mod_95 (by decide) (by first | assumption | exact xup_s _ _ _ | exact xup_o (by omega) (by assumption) | exact xup_o (by omega) (xup_s _ _ _) | exact xup_o (by omega) (xup_o (by omega) (by assumption)) | exact xup_o (by omega) (xup_o (by omega) (xup_s _ _ _)) | exact xup_o (by omega) (xup_o (by omega) (xup_o (by omega) (by assumption)))) (by rfl) ?_
  refine xp_aload_0 (pc := 5) hX d_Mod_assign_5 ?_
  refine xg_get (pc := 6) hX (j := 17) k_Mod d_Mod_assign_6 l_Mod_108 (by decide) (by first | assumption | exact xup_s _ _ _ | exact xup_o (by omega) (by assumption) | exact xup_o (by omega) (xup_s _ _ _) | exact xup_o (by omega) (xup_o (by omega) (by assumption)) | exact xup_o (by omega) (xup_o (by omega) (xup_s _ _ _)) | exact xup_o (by omega) (xup_o (by omega) (xup_o (by omega) (by assumption)))) (by rfl) ?_
  refine xi_V (Y2 := Y_Mod_poolOf) (pc := 9) hX [_, _] k_Mod m_Mod_poolOf d_Mod_assign_9 l_Mod_111 rfl rfl (by simp [Value.category]) (by first | assumption | exact xup_s _ _ _ | exact xup_o (by omega) (by assumption) | exact xup_o (by omega) (xup_s _ _ _) | exact xup_o (by omega) (xup_o (by omega) (by assumption)) | exact xup_o (by omega) (xup_o (by omega) (xup_s _ _ _)) | exact xup_o (by omega) (xup_o (by omega) (xup_o (by omega) (by assumption)))) (c_Mod_poolOf d h (Nat.le_refl _) (Nat.le_refl _)) (by omega) (by omega) ?_
  rintro y M1 ⟨rfl, rfl⟩
  rw [List.take_length, ← ho]
  generalize own se full pool = p at *
  refine xp_istore_4 (pc := 12) hX d_Mod_assign_12 (by decide) ?_
  refine xp_aload_0 (pc := 14) hX d_Mod_assign_14 ?_
  refine xi_V (Y2 := Y_Mod_stem) (pc := 15) hX [] k_Mod m_Mod_stem d_Mod_assign_15 l_Mod_118 rfl rfl (by simp [Value.category]) (by first | assumption | exact xup_s _ _ _ | exact xup_o (by omega) (by assumption) | exact xup_o (by omega) (xup_s _ _ _) | exact xup_o (by omega) (xup_o (by omega) (by assumption)) | exact xup_o (by omega) (xup_o (by omega) (xup_s _ _ _)) | exact xup_o (by omega) (xup_o (by omega) (xup_o (by omega) (by assumption)))) (c_Mod_stem (d + 1) h) (by omega) (by omega) ?_
  rintro y M2 ⟨rfl, rfl⟩
  have hsl : stN full ≤ full.length := by unfold stN; split <;> omega
  have k31 : ∀ (M1 : xH) (v5 v6 : Option Value), Wd M1 O t x out full (clE es p full) pool se sub fd fr bg wr nx kd fi la va → FrO M2 M1 O → xG K 31 [some (.ref O), some (.int (bI sb)), some (.int (nI a)), some (.int (nI b)), some (.int (nI p)), v5, v6] [] M1 sz 0 0 := by
    intro M1 v5 v6 w1 f1
    generalize clE es p full = es1 at *
    obtain ⟨h0, -⟩ := id w1
    refine xp_aload_0 (pc := 31) hX d_Mod_assign_31 ?_
    refine xp_iload_4 (pc := 32) hX d_Mod_assign_32 ?_
    refine xi_V (Y2 := Y_Mod_place) (pc := 34) hX [_] k_Mod m_Mod_place d_Mod_assign_34 l_Mod_140 rfl rfl (by simp [Value.category]) (by first | assumption | exact xup_s _ _ _ | exact xup_o (by omega) (by assumption) | exact xup_o (by omega) (xup_s _ _ _) | exact xup_o (by omega) (xup_o (by omega) (by assumption)) | exact xup_o (by omega) (xup_o (by omega) (xup_s _ _ _)) | exact xup_o (by omega) (xup_o (by omega) (xup_o (by omega) (by assumption)))) (c_Mod_place d w1 (by omega) hl) (by omega) (by omega) ?_
    rintro y M3 (⟨k, es', vo, rfl, e1, e2, e3, e4, ⟨-, fn, fz, fv, fvz, fp, h5, h6, h7, h8, h9, h10⟩, e6⟩ | ⟨rfl, rfl, e1⟩)
    · have hk := (List.getElem?_eq_some_iff.mp e1).1
      refine xp_istore_5 (pc := 37) hX d_Mod_assign_37 (by decide) ?_
      refine xp_iload_5 (pc := 39) hX d_Mod_assign_39 ?_
      refine xg_iconst (pc := 41) hX (-1) d_Mod_assign_41 ci_iconst_m1 ?_
      refine xg_icmp_ne (pc := 42) hX 47 d_Mod_assign_42 (by decide) (fun _ => ?_) (fun z => absurd z (nI_nm1 (by omega)))
      refine xp_aload_0 (pc := 47) hX d_Mod_assign_47 ?_
      refine xg_get (pc := 48) hX (j := 11) k_Mod d_Mod_assign_48 l_Mod_31 (by decide) (by first | assumption | exact xup_s _ _ _ | exact xup_o (by omega) (by assumption) | exact xup_o (by omega) (xup_s _ _ _) | exact xup_o (by omega) (xup_o (by omega) (by assumption)) | exact xup_o (by omega) (xup_o (by omega) (xup_s _ _ _)) | exact xup_o (by omega) (xup_o (by omega) (xup_o (by omega) (by assumption)))) (by rfl) ?_
      refine xp_iload_5 (pc := 51) hX d_Mod_assign_51 ?_
      refine xp_iload_3 (pc := 53) hX d_Mod_assign_53 ?_
      refine xp_iload_2 (pc := 54) hX d_Mod_assign_54 ?_
      first | refine xn_isub (pc := 55) hX d_Mod_assign_55 (by omega) ?_ | refine xg_isub (pc := 55) hX d_Mod_assign_55 ?_
      refine xn_iast (pc := 56) hX d_Mod_assign_56 rfl (by first | assumption | exact xup_s _ _ _ | exact xup_o (by omega) (by assumption) | exact xup_o (by omega) (xup_s _ _ _) | exact xup_o (by omega) (xup_o (by omega) (by assumption)) | exact xup_o (by omega) (xup_o (by omega) (xup_s _ _ _)) | exact xup_o (by omega) (xup_o (by omega) (xup_o (by omega) (by assumption)))) (by omega) (by omega) ?_
      refine xp_iload_2 (pc := 57) hX d_Mod_assign_57 ?_
      refine xp_istore_6 (pc := 58) hX d_Mod_assign_58 (by decide) ?_
      obtain ⟨-, -, ⟨hxl, gx, hx, hxb⟩, -, -, -, -, ⟨hsl2, gs, hs, hsb⟩, -⟩ := id w1
      have hx' := (e6 (O + 2) (by omega) (by omega)).trans hx
      have hs' := (e6 (O + 13) (by omega) (by omega)).trans hs
      have loop : ∀ (r i : Nat) (M4 : xH) (fv2 : Nat → Int32), b - i = r → a ≤ i → i ≤ b → M4 O = some (moC O t x out full es' pool se sub fd fr bg wr nx kd fi la va) → M4 (O + 2) = some (.inl (1, 600, .inl gx)) → M4 (O + 13) = some (.inl (1, 200, .inl gs)) → M4 (O + 5) = some (.inl (1, 20200, .inl fn)) → M4 (O + 6) = some (.inl (1, 101, .inl fz)) → M4 (O + 7) = some (.inl (1, 20200, .inl fv2)) → M4 (O + 8) = some (.inl (1, 101, .inl (upd fvz k (nI (b - a))))) → M4 (O + 9) = some (.inl (1, 101, .inl fp)) → (∀ (j : Nat) (c : UInt8), j < i - a → (sl src a b)[j]? = some c → fv2 (200 * k + j) = nI c.toNat) → (∀ q, (q < 200 * k ∨ 200 * k + 200 ≤ q) → fv2 q = fv q) → (∀ q, q ≠ O → (q < O + 5 ∨ O + 10 ≤ q) → M4 q = M1 q) → xG K 60 [some (.ref O), some (.int (bI sb)), some (.int (nI a)), some (.int (nI b)), some (.int (nI p)), some (.int (nI k)), some (.int (nI i))] [] M4 sz 0 0 := by
        intro r
        induction r with
        | zero =>
          intro i M4 fv2 hr hi1 hi2 h0 hgx hgs h5 h6 h7 h8 h9 hv1 hv2 hq
          refine xp_iload_6 (pc := 60) hX d_Mod_assign_60 ?_
          refine xp_iload_3 (pc := 62) hX d_Mod_assign_62 ?_
          refine xn_icmp_ge (pc := 63) hX 109 d_Mod_assign_63 (by decide) (by omega) (by omega) (fun _ => ?_) (fun z => absurd z (by omega))
          refine xg_iconst (pc := 109) hX (nI 1) d_Mod_assign_109 ci_iconst_1 ?_
          refine xg_iret (pc := 110) hX hE d_Mod_assign_110 rfl rfl (by omega) (by omega) ?_
          refine ⟨rfl, _, rfl, Or.inl ⟨_, e3 _, rfl, w1.sn (es' := es'.set k (p, full, some (sl src a b))) ?_ ⟨by rw [List.length_set]; exact e2, fn, fz, fv2, upd fvz k (nI (b - a)), fp, h5, h6, h7, h8, h9, fun j e he => ?_⟩ hq⟩, f1.tr (fun q hq1 => hq q (by omega) (by omega))⟩
          · rw [h0]
            simp only [moC, List.length_set]
          · by_cases hj : k = j
            · subst hj
              rw [List.getElem?_set_self hk] at he
              cases he
              obtain ⟨w2, -⟩ := h10 k _ e1
              refine ⟨w2, fun _ => ⟨by rw [pk_us]; show _ = nI _; rw [hsll], fun u hu => ?_⟩⟩
              cases hu
              exact ⟨by omega, fun q c hc => hv1 q c (by have := (List.getElem?_eq_some_iff.mp hc).1; omega) hc⟩
            · rw [List.getElem?_set_ne hj] at he
              obtain ⟨w2, w3⟩ := h10 j e he
              exact ⟨w2, fun _ => (w3 (fun q => hj q.symm)).moved (pk_un (fun q => hj q.symm)) (fun q hq1 => hv2 _ (by omega))⟩
        | succ r ih =>
          intro i M4 fv2 hr hi1 hi2 h0 hgx hgs h5 h6 h7 h8 h9 hv1 hv2 hq
          have hix : i < src.length := by omega
          have k102 : ∀ (y : Int32), y = nI src[i].toNat → xG K 102 [some (.ref O), some (.int (bI sb)), some (.int (nI a)), some (.int (nI b)), some (.int (nI p)), some (.int (nI k)), some (.int (nI i))] [.int y, .int (nI (200 * k + i - a)), .ref (O + 7)] M4 sz 0 0 := by
            rintro y rfl
            refine xn_iast (pc := 102) hX d_Mod_assign_102 rfl (by first | assumption | exact xup_s _ _ _ | exact xup_o (by omega) (by assumption) | exact xup_o (by omega) (xup_s _ _ _) | exact xup_o (by omega) (xup_o (by omega) (by assumption)) | exact xup_o (by omega) (xup_o (by omega) (xup_s _ _ _)) | exact xup_o (by omega) (xup_o (by omega) (xup_o (by omega) (by assumption)))) (by omega) (by omega) ?_
            refine xp_inc_6 (pc := 103) hX d_Mod_assign_103 (by decide) ?_
            refine xg_goto (pc := 106) hX 60 d_Mod_assign_106 (by decide) ?_
            refine ih (i + 1) _ _ (by omega) (by omega) (by omega) ?_ ?_ ?_ ?_ ?_ (xup_s _ _ _) ?_ ?_ (fun j c hj hc => ?_) (fun q hq1 => ?_) (fun q a1 b1 => ?_)
            · rw [xup_n _ _ (by omega)]; exact h0
            · rw [xup_n _ _ (by omega)]; exact hgx
            · rw [xup_n _ _ (by omega)]; exact hgs
            · rw [xup_n _ _ (by omega)]; exact h5
            · rw [xup_n _ _ (by omega)]; exact h6
            · rw [xup_n _ _ (by omega)]; exact h8
            · rw [xup_n _ _ (by omega)]; exact h9
            · by_cases e : j = i - a
              · subst e
                rw [show 200 * k + (i - a) = 200 * k + i - a by omega, pk_us]
                rw [sl_at (by omega), show a + (i - a) = i by omega, List.getElem?_eq_getElem hix] at hc
                rw [Option.some.inj hc]
              · rw [pk_un (by omega)]
                exact hv1 j c (by omega) hc
            · rw [pk_un (by omega)]
              exact hv2 q hq1
            · rw [xup_n _ _ (by omega)]; exact hq q a1 b1
          refine xp_iload_6 (pc := 60) hX d_Mod_assign_60 ?_
          refine xp_iload_3 (pc := 62) hX d_Mod_assign_62 ?_
          refine xn_icmp_ge (pc := 63) hX 109 d_Mod_assign_63 (by decide) (by omega) (by omega) (fun z => absurd z (by omega)) (fun _ => ?_)
          refine xp_aload_0 (pc := 66) hX d_Mod_assign_66 ?_
          refine xg_get (pc := 67) hX (j := 10) k_Mod d_Mod_assign_67 l_Mod_28 (by decide) (by first | assumption | exact xup_s _ _ _ | exact xup_o (by omega) (by assumption) | exact xup_o (by omega) (xup_s _ _ _) | exact xup_o (by omega) (xup_o (by omega) (by assumption)) | exact xup_o (by omega) (xup_o (by omega) (xup_s _ _ _)) | exact xup_o (by omega) (xup_o (by omega) (xup_o (by omega) (by assumption)))) (by rfl) ?_
          refine xg_sipush (pc := 70) hX (nI 200) d_Mod_assign_70 ci_sipush_200 ?_
          refine xp_iload_5 (pc := 73) hX d_Mod_assign_73 ?_
          first | refine xn_imul (pc := 75) hX d_Mod_assign_75 ?_ | refine xg_imul (pc := 75) hX d_Mod_assign_75 ?_
          refine xp_iload_6 (pc := 76) hX d_Mod_assign_76 ?_
          first | refine xn_iadd (pc := 78) hX d_Mod_assign_78 ?_ | refine xg_iadd (pc := 78) hX d_Mod_assign_78 ?_
          refine xp_iload_2 (pc := 79) hX d_Mod_assign_79 ?_
          first | refine xn_isub (pc := 80) hX d_Mod_assign_80 (by omega) ?_ | refine xg_isub (pc := 80) hX d_Mod_assign_80 ?_
          refine xp_iload_1 (pc := 81) hX d_Mod_assign_81 ?_
          refine xg_if_eq (pc := 82) hX 95 d_Mod_assign_82 (by decide) (fun z => ?_) (fun z => ?_)
          · have z := bI_eq0.mp z
            subst z
            have hsrc : src = x := hsrc
            refine xp_aload_0 (pc := 95) hX d_Mod_assign_95 ?_
            refine xg_get (pc := 96) hX (j := 1) k_Mod d_Mod_assign_96 l_Mod_13 (by decide) (by first | assumption | exact xup_s _ _ _ | exact xup_o (by omega) (by assumption) | exact xup_o (by omega) (xup_s _ _ _) | exact xup_o (by omega) (xup_o (by omega) (by assumption)) | exact xup_o (by omega) (xup_o (by omega) (xup_s _ _ _)) | exact xup_o (by omega) (xup_o (by omega) (xup_o (by omega) (by assumption)))) (by rfl) ?_
            refine xp_iload_6 (pc := 99) hX d_Mod_assign_99 ?_
            refine xn_iald (pc := 101) hX d_Mod_assign_101 rfl (by first | assumption | exact xup_s _ _ _ | exact xup_o (by omega) (by assumption) | exact xup_o (by omega) (xup_s _ _ _) | exact xup_o (by omega) (xup_o (by omega) (by assumption)) | exact xup_o (by omega) (xup_o (by omega) (xup_s _ _ _)) | exact xup_o (by omega) (xup_o (by omega) (xup_o (by omega) (by assumption)))) (by omega) (by omega) ?_
            refine k102 _ ?_
            exact hxb i _ (by rw [← hsrc, List.getElem?_eq_getElem hix])
          · have z := bI_ne0.mp z
            subst z
            have hsrc : src = sub := hsrc
            have : i < 200 := by rw [hsrc] at hix; omega
            refine xp_aload_0 (pc := 85) hX d_Mod_assign_85 ?_
            refine xg_get (pc := 86) hX (j := 18) k_Mod d_Mod_assign_86 l_Mod_46 (by decide) (by first | assumption | exact xup_s _ _ _ | exact xup_o (by omega) (by assumption) | exact xup_o (by omega) (xup_s _ _ _) | exact xup_o (by omega) (xup_o (by omega) (by assumption)) | exact xup_o (by omega) (xup_o (by omega) (xup_s _ _ _)) | exact xup_o (by omega) (xup_o (by omega) (xup_o (by omega) (by assumption)))) (by rfl) ?_
            refine xp_iload_6 (pc := 89) hX d_Mod_assign_89 ?_
            refine xn_iald (pc := 91) hX d_Mod_assign_91 rfl (by first | assumption | exact xup_s _ _ _ | exact xup_o (by omega) (by assumption) | exact xup_o (by omega) (xup_s _ _ _) | exact xup_o (by omega) (xup_o (by omega) (by assumption)) | exact xup_o (by omega) (xup_o (by omega) (xup_s _ _ _)) | exact xup_o (by omega) (xup_o (by omega) (xup_o (by omega) (by assumption)))) (by omega) (by omega) ?_
            refine xg_goto (pc := 92) hX 102 d_Mod_assign_92 (by decide) ?_
            refine k102 _ ?_
            exact hsb i _ (by rw [← hsrc, List.getElem?_eq_getElem hix])
      refine loop _ a _ fv rfl (by omega) hab ?_ ?_ ?_ ?_ ?_ ?_ ?_ ?_ (fun j c hj => absurd hj (by omega)) (fun _ _ => rfl) (fun q a b => ?_)
      · rw [xup_n _ _ (by omega)]; exact e4
      · rw [xup_n _ _ (by omega)]; exact hx'
      · rw [xup_n _ _ (by omega)]; exact hs'
      · rw [xup_n _ _ (by omega)]; exact h5
      · rw [xup_n _ _ (by omega)]; exact h6
      · rw [xup_n _ _ (by omega)]; exact h7
      · rw [xup_s]
      · rw [xup_n _ _ (by omega)]; exact h9
      · rw [xup_n _ _ (by omega)]; exact e6 q a b
    · refine xp_istore_5 (pc := 37) hX d_Mod_assign_37 (by decide) ?_
      refine xp_iload_5 (pc := 39) hX d_Mod_assign_39 ?_
      refine xg_iconst (pc := 41) hX (-1) d_Mod_assign_41 ci_iconst_m1 ?_
      refine xg_icmp_ne (pc := 42) hX 47 d_Mod_assign_42 (by decide) (fun z => absurd rfl z) (fun _ => ?_)
      refine xg_iconst (pc := 45) hX (nI 0) d_Mod_assign_45 ci_iconst_0 ?_
      refine xg_iret (pc := 46) hX hE d_Mod_assign_46 rfl rfl (by omega) (by omega) ?_
      exact ⟨rfl, _, rfl, Or.inr ⟨e1 _, rfl, w1⟩, f1⟩
  refine xp_aload_0 (pc := 18) hX d_Mod_assign_18 ?_
  refine xg_get (pc := 19) hX (j := 7) k_Mod d_Mod_assign_19 l_Mod_95 (by decide) (by first | assumption | exact xup_s _ _ _ | exact xup_o (by omega) (by assumption) | exact xup_o (by omega) (xup_s _ _ _) | exact xup_o (by omega) (xup_o (by omega) (by assumption)) | exact xup_o (by omega) (xup_o (by omega) (xup_s _ _ _)) | exact xup_o (by omega) (xup_o (by omega) (xup_o (by omega) (by assumption)))) (by rfl) ?_
  refine xn_icmp_ne (pc := 22) hX 31 d_Mod_assign_22 (by decide) (by omega) (by omega) (fun z => ?_) (fun z => ?_)
  · refine k31 M2 _ _ ?_ (FrO.rf _ _)
    unfold clE
    rw [if_neg (fun q => z ((stN_st hf1).mp q))]
    exact h
  · refine xp_aload_0 (pc := 25) hX d_Mod_assign_25 ?_
    refine xp_iload_4 (pc := 26) hX d_Mod_assign_26 ?_
    refine xv_V (Y2 := Y_Mod_clear) (pc := 28) hX [_] k_Mod m_Mod_clear d_Mod_assign_28 l_Mod_137 rfl rfl (by simp [Value.category]) (by first | assumption | exact xup_s _ _ _ | exact xup_o (by omega) (by assumption) | exact xup_o (by omega) (xup_s _ _ _) | exact xup_o (by omega) (xup_o (by omega) (by assumption)) | exact xup_o (by omega) (xup_o (by omega) (xup_s _ _ _)) | exact xup_o (by omega) (xup_o (by omega) (xup_o (by omega) (by assumption)))) (c_Mod_clear d h (by omega)) (by omega) (by omega) ?_
    rintro M3 ⟨a1, a2⟩
    refine k31 M3 _ _ ?_ a2
    unfold clE
    rw [if_pos ((stN_st hf1).mpr z)]
    exact a1
end XM10
