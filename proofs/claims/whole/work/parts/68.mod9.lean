/-! the reference: remove, clear, close -/
section XM9
variable {t x out full : List UInt8} {es : List xEn} {pool : Nat} {se : List xSe} {sub fd : List UInt8} {fr bg : Nat} {wr : Option Nat} {nx kd fi la va : Nat}
theorem EnN.moved {fn fz fp fn' fz' fp' : Nat → Int32} {k k' : Nat} {e : xEn} (h : EnN fn fz fp k e) (h1 : fp' k' = fp k) (h2 : fz' k' = fz k) (h3 : ∀ i, i < 200 → fn' (200 * k' + i) = fn (200 * k + i)) : EnN fn' fz' fp' k' e := by
  obtain ⟨a, b, c, d, f⟩ := h
  exact ⟨h1.trans a, b, h2.trans c, d, fun i y hi => (h3 i (by have := (List.getElem?_eq_some_iff.mp hi).1; omega)).trans (f i y hi)⟩
theorem EnV.moved {fv fvz fv' fvz' : Nat → Int32} {k k' : Nat} {e : xEn} (h : EnV fv fvz k e) (h1 : fvz' k' = fvz k) (h3 : ∀ i, i < 200 → fv' (200 * k' + i) = fv (200 * k + i)) : EnV fv' fvz' k' e := by
  obtain ⟨a, b⟩ := h
  refine ⟨h1.trans a, fun u hu => ⟨(b u hu).1, fun i y hi => (h3 i ?_).trans ((b u hu).2 i y hi)⟩⟩
  have := (List.getElem?_eq_some_iff.mp hi).1
  have := (b u hu).1
  omega
set_option maxHeartbeats 16000000 in
set_option maxRecDepth 100000 in
theorem c_Mod_remove (d : Nat) {M : xH} {sz O k : Nat} (h : Wd M O t x out full es pool se sub fd fr bg wr nx kd fi la va) (hk : k < es.length) : xC d 0 0 Y_Mod_remove [.ref O, .int (nI k)] M sz (qv sz (fun M' => Wd M' O t x out full (es.eraseIdx k) pool se sub fd fr bg wr nx kd fi la va ∧ FrO M M' O)) := by
  refine xC_of (by decide) (Nat.le_of_ble_eq_true rfl) (by simp [Value.category]) (vs := [some (.ref O), some (.int (nI k)), none, none]) rfl (fun K hX hE => ?_)
  obtain ⟨-, -, -, -, hes, -⟩ := h.xl
  have hel : (es.eraseIdx k).length = es.length - 1 := List.length_eraseIdx_of_lt hk
  refine xp_iload_1 (pc := 0) hX d_Mod_remove_0 ?_
  refine xp_istore_2 (pc := 1) hX d_Mod_remove_1 (by decide) ?_
  have loop : ∀ (r i : Nat) (M1 : xH) (v3 : Option Value) (fn fz fv fvz fp : Nat → Int32), es.length - 1 - i = r → k ≤ i → i ≤ es.length - 1 → M1 O = some (moC O t x out full es pool se sub fd fr bg wr nx kd fi la va) → M1 (O + 5) = some (.inl (1, 20200, .inl fn)) → M1 (O + 6) = some (.inl (1, 101, .inl fz)) → M1 (O + 7) = some (.inl (1, 20200, .inl fv)) → M1 (O + 8) = some (.inl (1, 101, .inl fvz)) → M1 (O + 9) = some (.inl (1, 101, .inl fp)) → (∀ (j : Nat) (e : xEn), ((j < i ∧ (es.eraseIdx k)[j]? = some e) ∨ (i ≤ j ∧ es[j]? = some e)) → EnN fn fz fp j e ∧ EnV fv fvz j e) → (∀ q, (q < O + 5 ∨ O + 10 ≤ q) → M1 q = M q) → xG K 2 [some (.ref O), some (.int (nI k)), some (.int (nI i)), v3] [] M1 sz 0 0 := by
    intro r
    induction r with
    | zero =>
      intro i M1 v3 fn fz fv fvz fp hr hi1 hi2 h0 h5 h6 h7 h8 h9 hE1 hq
      refine xp_iload_2 (pc := 2) hX d_Mod_remove_2 ?_
      refine xg_iconst (pc := 3) hX (nI 1) d_Mod_remove_3 ci_iconst_1 ?_
      first | refine xn_iadd (pc := 4) hX d_Mod_remove_4 ?_ | refine xg_iadd (pc := 4) hX d_Mod_remove_4 ?_
      refine xp_aload_0 (pc := 5) hX d_Mod_remove_5 ?_
      refine xg_get (pc := 6) hX (j := 13) k_Mod d_Mod_remove_6 l_Mod_105 (by decide) (by first | assumption | exact xup_s _ _ _ | exact xup_o (by omega) (by assumption) | exact xup_o (by omega) (xup_s _ _ _) | exact xup_o (by omega) (xup_o (by omega) (by assumption)) | exact xup_o (by omega) (xup_o (by omega) (xup_s _ _ _)) | exact xup_o (by omega) (xup_o (by omega) (xup_o (by omega) (by assumption)))) (by rfl) ?_
      refine xn_icmp_ge (pc := 9) hX 127 d_Mod_remove_9 (by decide) (by omega) (by omega) (fun _ => ?_) (fun z => absurd z (by omega))
      refine xp_aload_0 (pc := 127) hX d_Mod_remove_127 ?_
      refine xg_dup (pc := 128) hX d_Mod_remove_128 rfl ?_
      refine xg_get (pc := 129) hX (j := 13) k_Mod d_Mod_remove_129 l_Mod_105 (by decide) (by first | assumption | exact xup_s _ _ _ | exact xup_o (by omega) (by assumption) | exact xup_o (by omega) (xup_s _ _ _) | exact xup_o (by omega) (xup_o (by omega) (by assumption)) | exact xup_o (by omega) (xup_o (by omega) (xup_s _ _ _)) | exact xup_o (by omega) (xup_o (by omega) (xup_o (by omega) (by assumption)))) (by rfl) ?_
      refine xg_iconst (pc := 132) hX (nI 1) d_Mod_remove_132 ci_iconst_1 ?_
      first | refine xn_isub (pc := 133) hX d_Mod_remove_133 (by omega) ?_ | refine xg_isub (pc := 133) hX d_Mod_remove_133 ?_
      refine xg_put (pc := 134) hX (j := 13) k_Mod d_Mod_remove_134 l_Mod_105 (by decide) rfl (by first | assumption | exact xup_s _ _ _ | exact xup_o (by omega) (by assumption) | exact xup_o (by omega) (xup_s _ _ _) | exact xup_o (by omega) (xup_o (by omega) (by assumption)) | exact xup_o (by omega) (xup_o (by omega) (xup_s _ _ _)) | exact xup_o (by omega) (xup_o (by omega) (xup_o (by omega) (by assumption)))) (Nat.le_of_ble_eq_true rfl) rfl rfl (by simp only [List.set_cons_zero, List.set_cons_succ]; exact rfl) ?_
      refine xg_vret (pc := 137) hX hE d_Mod_remove_137 rfl (by omega) (by omega) ?_
      refine ⟨rfl, rfl, h.sn (es' := es.eraseIdx k) ?_ ⟨by omega, fn, fz, fv, fvz, fp, ?_, ?_, ?_, ?_, ?_, fun j e he => ?_⟩ (fun q a b => ?_), fun q hq1 => ?_⟩
      · rw [xup_s]
        simp only [moC, hel]
      · rw [xup_n _ _ (by omega)]; exact h5
      · rw [xup_n _ _ (by omega)]; exact h6
      · rw [xup_n _ _ (by omega)]; exact h7
      · rw [xup_n _ _ (by omega)]; exact h8
      · rw [xup_n _ _ (by omega)]; exact h9
      · have hj := (List.getElem?_eq_some_iff.mp he).1
        have := hE1 j e (Or.inl ⟨by omega, he⟩)
        exact ⟨this.1, fun _ => this.2⟩
      · rw [xup_n _ _ a]; exact hq q b
      · rw [xup_n _ _ (by omega)]; exact hq q (by omega)
    | succ r ih =>
      intro i M1 v3 fn fz fv fvz fp hr hi1 hi2 h0 h5 h6 h7 h8 h9 hE1 hq
      refine xp_iload_2 (pc := 2) hX d_Mod_remove_2 ?_
      refine xg_iconst (pc := 3) hX (nI 1) d_Mod_remove_3 ci_iconst_1 ?_
      first | refine xn_iadd (pc := 4) hX d_Mod_remove_4 ?_ | refine xg_iadd (pc := 4) hX d_Mod_remove_4 ?_
      refine xp_aload_0 (pc := 5) hX d_Mod_remove_5 ?_
      refine xg_get (pc := 6) hX (j := 13) k_Mod d_Mod_remove_6 l_Mod_105 (by decide) (by first | assumption | exact xup_s _ _ _ | exact xup_o (by omega) (by assumption) | exact xup_o (by omega) (xup_s _ _ _) | exact xup_o (by omega) (xup_o (by omega) (by assumption)) | exact xup_o (by omega) (xup_o (by omega) (xup_s _ _ _)) | exact xup_o (by omega) (xup_o (by omega) (xup_o (by omega) (by assumption)))) (by rfl) ?_
      refine xn_icmp_ge (pc := 9) hX 127 d_Mod_remove_9 (by decide) (by omega) (by omega) (fun z => absurd z (by omega)) (fun _ => ?_)
      refine xp_aload_0 (pc := 12) hX d_Mod_remove_12 ?_
      refine xg_get (pc := 13) hX (j := 12) k_Mod d_Mod_remove_13 l_Mod_34 (by decide) (by first | assumption | exact xup_s _ _ _ | exact xup_o (by omega) (by assumption) | exact xup_o (by omega) (xup_s _ _ _) | exact xup_o (by omega) (xup_o (by omega) (by assumption)) | exact xup_o (by omega) (xup_o (by omega) (xup_s _ _ _)) | exact xup_o (by omega) (xup_o (by omega) (xup_o (by omega) (by assumption)))) (by rfl) ?_
      refine xp_iload_2 (pc := 16) hX d_Mod_remove_16 ?_
      refine xp_aload_0 (pc := 17) hX d_Mod_remove_17 ?_
      refine xg_get (pc := 18) hX (j := 12) k_Mod d_Mod_remove_18 l_Mod_34 (by decide) (by first | assumption | exact xup_s _ _ _ | exact xup_o (by omega) (by assumption) | exact xup_o (by omega) (xup_s _ _ _) | exact xup_o (by omega) (xup_o (by omega) (by assumption)) | exact xup_o (by omega) (xup_o (by omega) (xup_s _ _ _)) | exact xup_o (by omega) (xup_o (by omega) (xup_o (by omega) (by assumption)))) (by rfl) ?_
      refine xp_iload_2 (pc := 21) hX d_Mod_remove_21 ?_
      refine xg_iconst (pc := 22) hX (nI 1) d_Mod_remove_22 ci_iconst_1 ?_
      first | refine xn_iadd (pc := 23) hX d_Mod_remove_23 ?_ | refine xg_iadd (pc := 23) hX d_Mod_remove_23 ?_
      refine xn_iald (pc := 24) hX d_Mod_remove_24 rfl (by first | assumption | exact xup_s _ _ _ | exact xup_o (by omega) (by assumption) | exact xup_o (by omega) (xup_s _ _ _) | exact xup_o (by omega) (xup_o (by omega) (by assumption)) | exact xup_o (by omega) (xup_o (by omega) (xup_s _ _ _)) | exact xup_o (by omega) (xup_o (by omega) (xup_o (by omega) (by assumption)))) (by omega) (by omega) ?_
      refine xn_iast (pc := 25) hX d_Mod_remove_25 rfl (by first | assumption | exact xup_s _ _ _ | exact xup_o (by omega) (by assumption) | exact xup_o (by omega) (xup_s _ _ _) | exact xup_o (by omega) (xup_o (by omega) (by assumption)) | exact xup_o (by omega) (xup_o (by omega) (xup_s _ _ _)) | exact xup_o (by omega) (xup_o (by omega) (xup_o (by omega) (by assumption)))) (by omega) (by omega) ?_
      refine xp_aload_0 (pc := 26) hX d_Mod_remove_26 ?_
      refine xg_get (pc := 27) hX (j := 9) k_Mod d_Mod_remove_27 l_Mod_25 (by decide) (by first | assumption | exact xup_s _ _ _ | exact xup_o (by omega) (by assumption) | exact xup_o (by omega) (xup_s _ _ _) | exact xup_o (by omega) (xup_o (by omega) (by assumption)) | exact xup_o (by omega) (xup_o (by omega) (xup_s _ _ _)) | exact xup_o (by omega) (xup_o (by omega) (xup_o (by omega) (by assumption)))) (by rfl) ?_
      refine xp_iload_2 (pc := 30) hX d_Mod_remove_30 ?_
      refine xp_aload_0 (pc := 31) hX d_Mod_remove_31 ?_
      refine xg_get (pc := 32) hX (j := 9) k_Mod d_Mod_remove_32 l_Mod_25 (by decide) (by first | assumption | exact xup_s _ _ _ | exact xup_o (by omega) (by assumption) | exact xup_o (by omega) (xup_s _ _ _) | exact xup_o (by omega) (xup_o (by omega) (by assumption)) | exact xup_o (by omega) (xup_o (by omega) (xup_s _ _ _)) | exact xup_o (by omega) (xup_o (by omega) (xup_o (by omega) (by assumption)))) (by rfl) ?_
      refine xp_iload_2 (pc := 35) hX d_Mod_remove_35 ?_
      refine xg_iconst (pc := 36) hX (nI 1) d_Mod_remove_36 ci_iconst_1 ?_
      first | refine xn_iadd (pc := 37) hX d_Mod_remove_37 ?_ | refine xg_iadd (pc := 37) hX d_Mod_remove_37 ?_
      refine xn_iald (pc := 38) hX d_Mod_remove_38 rfl (by first | assumption | exact xup_s _ _ _ | exact xup_o (by omega) (by assumption) | exact xup_o (by omega) (xup_s _ _ _) | exact xup_o (by omega) (xup_o (by omega) (by assumption)) | exact xup_o (by omega) (xup_o (by omega) (xup_s _ _ _)) | exact xup_o (by omega) (xup_o (by omega) (xup_o (by omega) (by assumption)))) (by omega) (by omega) ?_
      refine xn_iast (pc := 39) hX d_Mod_remove_39 rfl (by first | assumption | exact xup_s _ _ _ | exact xup_o (by omega) (by assumption) | exact xup_o (by omega) (xup_s _ _ _) | exact xup_o (by omega) (xup_o (by omega) (by assumption)) | exact xup_o (by omega) (xup_o (by omega) (xup_s _ _ _)) | exact xup_o (by omega) (xup_o (by omega) (xup_o (by omega) (by assumption)))) (by omega) (by omega) ?_
      refine xp_aload_0 (pc := 40) hX d_Mod_remove_40 ?_
      refine xg_get (pc := 41) hX (j := 11) k_Mod d_Mod_remove_41 l_Mod_31 (by decide) (by first | assumption | exact xup_s _ _ _ | exact xup_o (by omega) (by assumption) | exact xup_o (by omega) (xup_s _ _ _) | exact xup_o (by omega) (xup_o (by omega) (by assumption)) | exact xup_o (by omega) (xup_o (by omega) (xup_s _ _ _)) | exact xup_o (by omega) (xup_o (by omega) (xup_o (by omega) (by assumption)))) (by rfl) ?_
      refine xp_iload_2 (pc := 44) hX d_Mod_remove_44 ?_
      refine xp_aload_0 (pc := 45) hX d_Mod_remove_45 ?_
      refine xg_get (pc := 46) hX (j := 11) k_Mod d_Mod_remove_46 l_Mod_31 (by decide) (by first | assumption | exact xup_s _ _ _ | exact xup_o (by omega) (by assumption) | exact xup_o (by omega) (xup_s _ _ _) | exact xup_o (by omega) (xup_o (by omega) (by assumption)) | exact xup_o (by omega) (xup_o (by omega) (xup_s _ _ _)) | exact xup_o (by omega) (xup_o (by omega) (xup_o (by omega) (by assumption)))) (by rfl) ?_
      refine xp_iload_2 (pc := 49) hX d_Mod_remove_49 ?_
      refine xg_iconst (pc := 50) hX (nI 1) d_Mod_remove_50 ci_iconst_1 ?_
      first | refine xn_iadd (pc := 51) hX d_Mod_remove_51 ?_ | refine xg_iadd (pc := 51) hX d_Mod_remove_51 ?_
      refine xn_iald (pc := 52) hX d_Mod_remove_52 rfl (by first | assumption | exact xup_s _ _ _ | exact xup_o (by omega) (by assumption) | exact xup_o (by omega) (xup_s _ _ _) | exact xup_o (by omega) (xup_o (by omega) (by assumption)) | exact xup_o (by omega) (xup_o (by omega) (xup_s _ _ _)) | exact xup_o (by omega) (xup_o (by omega) (xup_o (by omega) (by assumption)))) (by omega) (by omega) ?_
      refine xn_iast (pc := 53) hX d_Mod_remove_53 rfl (by first | assumption | exact xup_s _ _ _ | exact xup_o (by omega) (by assumption) | exact xup_o (by omega) (xup_s _ _ _) | exact xup_o (by omega) (xup_o (by omega) (by assumption)) | exact xup_o (by omega) (xup_o (by omega) (xup_s _ _ _)) | exact xup_o (by omega) (xup_o (by omega) (xup_o (by omega) (by assumption)))) (by omega) (by omega) ?_
      refine xg_iconst (pc := 54) hX (nI 0) d_Mod_remove_54 ci_iconst_0 ?_
      refine xp_istore_3 (pc := 55) hX d_Mod_remove_55 (by decide) ?_
      have inner : ∀ (s j : Nat) (M2 : xH) (fn2 fv2 : Nat → Int32), 200 - j = s → j ≤ 200 → M2 O = some (moC O t x out full es pool se sub fd fr bg wr nx kd fi la va) → M2 (O + 5) = some (.inl (1, 20200, .inl fn2)) → M2 (O + 6) = some (.inl (1, 101, .inl (upd fz i (fz (i + 1))))) → M2 (O + 7) = some (.inl (1, 20200, .inl fv2)) → M2 (O + 8) = some (.inl (1, 101, .inl (upd fvz i (fvz (i + 1))))) → M2 (O + 9) = some (.inl (1, 101, .inl (upd fp i (fp (i + 1))))) → (∀ q, fn2 q = if 200 * i ≤ q ∧ q < 200 * i + j then fn (q + 200) else fn q) → (∀ q, fv2 q = if 200 * i ≤ q ∧ q < 200 * i + j then fv (q + 200) else fv q) → (∀ q, (q < O + 5 ∨ O + 10 ≤ q) → M2 q = M q) → xG K 56 [some (.ref O), some (.int (nI k)), some (.int (nI i)), some (.int (nI j))] [] M2 sz 0 0 := by
        intro s
        induction s with
        | zero =>
          intro j M2 fn2 fv2 hs hj h0 h5 h6 h7 h8 h9 hn2 hv2 hq2
          have hj2 : j = 200 := by omega
          subst hj2
          refine xp_iload_3 (pc := 56) hX d_Mod_remove_56 ?_
          refine xg_sipush (pc := 57) hX (nI 200) d_Mod_remove_57 ci_sipush_200 ?_
          refine xn_icmp_ge (pc := 60) hX 121 d_Mod_remove_60 (by decide) (by omega) (by omega) (fun _ => ?_) (fun z => absurd z (by omega))
          refine xp_inc_2 (pc := 121) hX d_Mod_remove_121 (by decide) ?_
          refine xg_goto (pc := 124) hX 2 d_Mod_remove_124 (by decide) ?_
          refine ih (i + 1) M2 _ fn2 _ fv2 _ _ (by omega) (by omega) (by omega) h0 h5 h6 h7 h8 h9 (fun j e he => ?_) hq2
          by_cases hji : j = i
          · subst hji
            have he2 : es[j + 1]? = some e := by
              rcases he with ⟨-, he⟩ | ⟨q, -⟩
              · rw [List.getElem?_eraseIdx_of_ge (by omega)] at he
                exact he
              · omega
            obtain ⟨w1, w2⟩ := hE1 (j + 1) e (Or.inr ⟨by omega, he2⟩)
            exact ⟨w1.moved pk_us pk_us (fun q hq => by rw [hn2, if_pos (by omega)]; congr 1; omega), w2.moved pk_us (fun q hq => by rw [hv2, if_pos (by omega)]; congr 1; omega)⟩
          · have he2 : (j < i ∧ (es.eraseIdx k)[j]? = some e) ∨ (i ≤ j ∧ es[j]? = some e) := by
              rcases he with ⟨q, he⟩ | ⟨q, he⟩
              · exact Or.inl ⟨by omega, he⟩
              · exact Or.inr ⟨by omega, he⟩
            obtain ⟨w1, w2⟩ := hE1 j e he2
            exact ⟨w1.moved (pk_un hji) (pk_un hji) (fun q hq => by rw [hn2, if_neg (by omega)]), w2.moved (pk_un hji) (fun q hq => by rw [hv2, if_neg (by omega)])⟩
        | succ s ihs =>
          intro j M2 fn2 fv2 hs hj h0 h5 h6 h7 h8 h9 hn2 hv2 hq2
          refine xp_iload_3 (pc := 56) hX d_Mod_remove_56 ?_
          refine xg_sipush (pc := 57) hX (nI 200) d_Mod_remove_57 ci_sipush_200 ?_
          refine xn_icmp_ge (pc := 60) hX 121 d_Mod_remove_60 (by decide) (by omega) (by omega) (fun z => absurd z (by omega)) (fun _ => ?_)
          refine xp_aload_0 (pc := 63) hX d_Mod_remove_63 ?_
          refine xg_get (pc := 64) hX (j := 8) k_Mod d_Mod_remove_64 l_Mod_22 (by decide) (by first | assumption | exact xup_s _ _ _ | exact xup_o (by omega) (by assumption) | exact xup_o (by omega) (xup_s _ _ _) | exact xup_o (by omega) (xup_o (by omega) (by assumption)) | exact xup_o (by omega) (xup_o (by omega) (xup_s _ _ _)) | exact xup_o (by omega) (xup_o (by omega) (xup_o (by omega) (by assumption)))) (by rfl) ?_
          refine xg_sipush (pc := 67) hX (nI 200) d_Mod_remove_67 ci_sipush_200 ?_
          refine xp_iload_2 (pc := 70) hX d_Mod_remove_70 ?_
          first | refine xn_imul (pc := 71) hX d_Mod_remove_71 ?_ | refine xg_imul (pc := 71) hX d_Mod_remove_71 ?_
          refine xp_iload_3 (pc := 72) hX d_Mod_remove_72 ?_
          first | refine xn_iadd (pc := 73) hX d_Mod_remove_73 ?_ | refine xg_iadd (pc := 73) hX d_Mod_remove_73 ?_
          refine xp_aload_0 (pc := 74) hX d_Mod_remove_74 ?_
          refine xg_get (pc := 75) hX (j := 8) k_Mod d_Mod_remove_75 l_Mod_22 (by decide) (by first | assumption | exact xup_s _ _ _ | exact xup_o (by omega) (by assumption) | exact xup_o (by omega) (xup_s _ _ _) | exact xup_o (by omega) (xup_o (by omega) (by assumption)) | exact xup_o (by omega) (xup_o (by omega) (xup_s _ _ _)) | exact xup_o (by omega) (xup_o (by omega) (xup_o (by omega) (by assumption)))) (by rfl) ?_
          refine xg_sipush (pc := 78) hX (nI 200) d_Mod_remove_78 ci_sipush_200 ?_
          refine xp_iload_2 (pc := 81) hX d_Mod_remove_81 ?_
          refine xg_iconst (pc := 82) hX (nI 1) d_Mod_remove_82 ci_iconst_1 ?_
          first | refine xn_iadd (pc := 83) hX d_Mod_remove_83 ?_ | refine xg_iadd (pc := 83) hX d_Mod_remove_83 ?_
          first | refine xn_imul (pc := 84) hX d_Mod_remove_84 ?_ | refine xg_imul (pc := 84) hX d_Mod_remove_84 ?_
          refine xp_iload_3 (pc := 85) hX d_Mod_remove_85 ?_
          first | refine xn_iadd (pc := 86) hX d_Mod_remove_86 ?_ | refine xg_iadd (pc := 86) hX d_Mod_remove_86 ?_
          refine xn_iald (pc := 87) hX d_Mod_remove_87 rfl (by first | assumption | exact xup_s _ _ _ | exact xup_o (by omega) (by assumption) | exact xup_o (by omega) (xup_s _ _ _) | exact xup_o (by omega) (xup_o (by omega) (by assumption)) | exact xup_o (by omega) (xup_o (by omega) (xup_s _ _ _)) | exact xup_o (by omega) (xup_o (by omega) (xup_o (by omega) (by assumption)))) (by omega) (by omega) ?_
          refine xn_iast (pc := 88) hX d_Mod_remove_88 rfl (by first | assumption | exact xup_s _ _ _ | exact xup_o (by omega) (by assumption) | exact xup_o (by omega) (xup_s _ _ _) | exact xup_o (by omega) (xup_o (by omega) (by assumption)) | exact xup_o (by omega) (xup_o (by omega) (xup_s _ _ _)) | exact xup_o (by omega) (xup_o (by omega) (xup_o (by omega) (by assumption)))) (by omega) (by omega) ?_
          refine xp_aload_0 (pc := 89) hX d_Mod_remove_89 ?_
          refine xg_get (pc := 90) hX (j := 10) k_Mod d_Mod_remove_90 l_Mod_28 (by decide) (by first | assumption | exact xup_s _ _ _ | exact xup_o (by omega) (by assumption) | exact xup_o (by omega) (xup_s _ _ _) | exact xup_o (by omega) (xup_o (by omega) (by assumption)) | exact xup_o (by omega) (xup_o (by omega) (xup_s _ _ _)) | exact xup_o (by omega) (xup_o (by omega) (xup_o (by omega) (by assumption)))) (by rfl) ?_
          refine xg_sipush (pc := 93) hX (nI 200) d_Mod_remove_93 ci_sipush_200 ?_
          refine xp_iload_2 (pc := 96) hX d_Mod_remove_96 ?_
          first | refine xn_imul (pc := 97) hX d_Mod_remove_97 ?_ | refine xg_imul (pc := 97) hX d_Mod_remove_97 ?_
          refine xp_iload_3 (pc := 98) hX d_Mod_remove_98 ?_
          first | refine xn_iadd (pc := 99) hX d_Mod_remove_99 ?_ | refine xg_iadd (pc := 99) hX d_Mod_remove_99 ?_
          refine xp_aload_0 (pc := 100) hX d_Mod_remove_100 ?_
          refine xg_get (pc := 101) hX (j := 10) k_Mod d_Mod_remove_101 l_Mod_28 (by decide) (by first | assumption | exact xup_s _ _ _ | exact xup_o (by omega) (by assumption) | exact xup_o (by omega) (xup_s _ _ _) | exact xup_o (by omega) (xup_o (by omega) (by assumption)) | exact xup_o (by omega) (xup_o (by omega) (xup_s _ _ _)) | exact xup_o (by omega) (xup_o (by omega) (xup_o (by omega) (by assumption)))) (by rfl) ?_
          refine xg_sipush (pc := 104) hX (nI 200) d_Mod_remove_104 ci_sipush_200 ?_
          refine xp_iload_2 (pc := 107) hX d_Mod_remove_107 ?_
          refine xg_iconst (pc := 108) hX (nI 1) d_Mod_remove_108 ci_iconst_1 ?_
          first | refine xn_iadd (pc := 109) hX d_Mod_remove_109 ?_ | refine xg_iadd (pc := 109) hX d_Mod_remove_109 ?_
          first | refine xn_imul (pc := 110) hX d_Mod_remove_110 ?_ | refine xg_imul (pc := 110) hX d_Mod_remove_110 ?_
          refine xp_iload_3 (pc := 111) hX d_Mod_remove_111 ?_
          first | refine xn_iadd (pc := 112) hX d_Mod_remove_112 ?_ | refine xg_iadd (pc := 112) hX d_Mod_remove_112 ?_
          refine xn_iald (pc := 113) hX d_Mod_remove_113 rfl (by first | assumption | exact xup_s _ _ _ | exact xup_o (by omega) (by assumption) | exact xup_o (by omega) (xup_s _ _ _) | exact xup_o (by omega) (xup_o (by omega) (by assumption)) | exact xup_o (by omega) (xup_o (by omega) (xup_s _ _ _)) | exact xup_o (by omega) (xup_o (by omega) (xup_o (by omega) (by assumption)))) (by omega) (by omega) ?_
          refine xn_iast (pc := 114) hX d_Mod_remove_114 rfl (by first | assumption | exact xup_s _ _ _ | exact xup_o (by omega) (by assumption) | exact xup_o (by omega) (xup_s _ _ _) | exact xup_o (by omega) (xup_o (by omega) (by assumption)) | exact xup_o (by omega) (xup_o (by omega) (xup_s _ _ _)) | exact xup_o (by omega) (xup_o (by omega) (xup_o (by omega) (by assumption)))) (by omega) (by omega) ?_
          refine xp_inc_3 (pc := 115) hX d_Mod_remove_115 (by decide) ?_
          refine xg_goto (pc := 118) hX 56 d_Mod_remove_118 (by decide) ?_
          refine ihs (j + 1) _ (upd fn2 (200 * i + j) (fn2 (200 * (i + 1) + j))) (upd fv2 (200 * i + j) (fv2 (200 * (i + 1) + j))) (by omega) (by omega) ?_ ?_ ?_ (xup_s _ _ _) ?_ ?_ (fun q => ?_) (fun q => ?_) (fun q hq1 => ?_)
          · rw [xup_n _ _ (by omega), xup_n _ _ (by omega)]; exact h0
          · rw [xup_n _ _ (by omega), xup_s]
          · rw [xup_n _ _ (by omega), xup_n _ _ (by omega)]; exact h6
          · rw [xup_n _ _ (by omega), xup_n _ _ (by omega)]; exact h8
          · rw [xup_n _ _ (by omega), xup_n _ _ (by omega)]; exact h9
          · by_cases e : q = 200 * i + j
            · subst e
              rw [pk_us, if_pos (by omega), hn2, if_neg (by omega)]
              congr 1
              omega
            · rw [pk_un e, hn2]
              by_cases c : 200 * i ≤ q ∧ q < 200 * i + j
              · rw [if_pos c, if_pos (by omega)]
              · rw [if_neg c, if_neg (by omega)]
          · by_cases e : q = 200 * i + j
            · subst e
              rw [pk_us, if_pos (by omega), hv2, if_neg (by omega)]
              congr 1
              omega
            · rw [pk_un e, hv2]
              by_cases c : 200 * i ≤ q ∧ q < 200 * i + j
              · rw [if_pos c, if_pos (by omega)]
              · rw [if_neg c, if_neg (by omega)]
          · rw [xup_n _ _ (by omega), xup_n _ _ (by omega)]; exact hq2 q hq1
      refine inner 200 0 _ fn fv (by omega) (by omega) ?_ ?_ ?_ ?_ ?_ ?_ (fun q => by rw [if_neg (by omega)]) (fun q => by rw [if_neg (by omega)]) (fun q hq1 => ?_)
      · rw [xup_n _ _ (by omega), xup_n _ _ (by omega), xup_n _ _ (by omega)]; exact h0
      · rw [xup_n _ _ (by omega), xup_n _ _ (by omega), xup_n _ _ (by omega)]; exact h5
      · rw [xup_n _ _ (by omega), xup_s]
      · rw [xup_n _ _ (by omega), xup_n _ _ (by omega), xup_n _ _ (by omega)]; exact h7
      · rw [xup_s]
      · rw [xup_n _ _ (by omega), xup_n _ _ (by omega), xup_s]
      · rw [xup_n _ _ (by omega), xup_n _ _ (by omega), xup_n _ _ (by omega)]; exact hq q hq1
  obtain ⟨h0, -, -, -, -, ⟨h5l, fn, fz, fv, fvz, fp, h5, h6, h7, h8, h9, h10⟩, -⟩ := id h
  refine loop _ k M _ fn fz fv fvz fp rfl (by omega) (by omega) h0 h5 h6 h7 h8 h9 (fun j e he => ?_) (fun _ _ => rfl)
  have he2 : es[j]? = some e := by
    rcases he with ⟨q, he⟩ | ⟨q, he⟩
    · rw [List.getElem?_eraseIdx_of_lt q] at he
      exact he
    · exact he
  exact ⟨(h10 j e he2).1, (h10 j e he2).2 trivial⟩
/-- removing one by one from behind is filtering -/
theorem flt_step {P : xEn → Bool} {m : Nat} (hm : m < es.length) : (P es[m] = false → (es.take (m + 1) ++ (es.drop (m + 1)).filter P).eraseIdx m = es.take m ++ (es.drop m).filter P) ∧ (P es[m] = true → es.take (m + 1) ++ (es.drop (m + 1)).filter P = es.take m ++ (es.drop m).filter P) := by
  have h1 : es.drop m = es[m] :: es.drop (m + 1) := List.drop_eq_getElem_cons hm
  have h2 : es.take (m + 1) = es.take m ++ [es[m]] := List.take_succ_eq_append_getElem hm
  have h3 : (es.take m).length = m := by rw [List.length_take]; omega
  constructor
  · intro hp
    rw [h1, h2, List.filter_cons, if_neg (by rw [hp]; decide), List.append_assoc, List.eraseIdx_append_of_length_le (by omega), h3]
    simp
  · intro hp
    rw [h1, h2, List.filter_cons, if_pos hp, List.append_assoc]
    rfl
set_option maxHeartbeats 16000000 in
set_option maxRecDepth 100000 in
theorem c_Mod_clear (d : Nat) {M : xH} {sz O p : Nat} (h : Wd M O t x out full es pool se sub fd fr bg wr nx kd fi la va) (hp : p < 1000) : xC (d + 1) 0 0 Y_Mod_clear [.ref O, .int (nI p)] M sz (qv sz (fun M' => Wd M' O t x out full (es.filter (fun e => !beh p full e)) pool se sub fd fr bg wr nx kd fi la va ∧ FrO M M' O)) := by
  refine xC_of (by decide) (Nat.le_of_ble_eq_true rfl) (by simp [Value.category]) (vs := [some (.ref O), some (.int (nI p)), none, none, none]) rfl (fun K hX hE => ?_)
  obtain ⟨-, -, -, hfl, hes, -⟩ := h.xl
  obtain ⟨h0, -⟩ := id h
  refine xp_aload_0 (pc := 0) hX d_Mod_clear_0 ?_
  refine xg_get (pc := 1) hX (j := 13) k_Mod d_Mod_clear_1 l_Mod_105 (by decide) (by first | assumption | exact xup_s _ _ _ | exact xup_o (by omega) (by assumption) | exact xup_o (by omega) (xup_s _ _ _) | exact xup_o (by omega) (xup_o (by omega) (by assumption)) | exact xup_o (by omega) (xup_o (by omega) (xup_s _ _ _)) | exact xup_o (by omega) (xup_o (by omega) (xup_o (by omega) (by assumption)))) (by rfl) ?_
  refine xg_iconst (pc := 4) hX (nI 1) d_Mod_clear_4 ci_iconst_1 ?_
  refine xg_isub (pc := 5) hX d_Mod_clear_5 ?_
  rw [m1_sub]
  refine xp_istore_2 (pc := 6) hX d_Mod_clear_6 (by decide) ?_
  have loop : ∀ (m : Nat) (M1 : xH) (v3 v4 : Option Value), m ≤ es.length → Wd M1 O t x out full (es.take m ++ (es.drop m).filter (fun e => !beh p full e)) pool se sub fd fr bg wr nx kd fi la va → FrO M M1 O → xG K 7 [some (.ref O), some (.int (nI p)), some (.int (nI m + -1)), v3, v4] [] M1 sz 0 0 := by
    intro m
    induction m with
    | zero =>
      intro M1 v3 v4 hm w1 f1
      refine xp_iload_2 (pc := 7) hX d_Mod_clear_7 ?_
      refine xg_if_lt (pc := 8) hX 106 d_Mod_clear_8 (by decide) (fun _ => ?_) (fun z => absurd (by decide) z)
      refine xg_vret (pc := 106) hX hE d_Mod_clear_106 rfl (by omega) (by omega) ?_
      exact ⟨rfl, rfl, by simpa using w1, f1⟩
    | succ m ih =>
      intro M1 v3 v4 hm w1 f1
      have hm1 : m < es.length := by omega
      obtain ⟨st1, st2⟩ := flt_step (P := fun e => !beh p full e) hm1
      have hL : (es.take (m + 1) ++ (es.drop (m + 1)).filter (fun e => !beh p full e))[m]? = some es[m] := by
        rw [List.getElem?_append_left (by rw [List.length_take]; omega), List.getElem?_take_of_lt (by omega), List.getElem?_eq_getElem hm1]
      generalize es.take (m + 1) ++ (es.drop (m + 1)).filter (fun e => !beh p full e) = L at *
      have hLm := (List.getElem?_eq_some_iff.mp hL).1
      obtain ⟨h0, -, -, -, ⟨h4l, f, h4a, h4b⟩, ⟨h5l, fn, fz, fv, fvz, fp, h5, h6, h7, h8, h9, h10⟩, -⟩ := id w1
      obtain ⟨⟨e1, e2, e3, e4, e5⟩, -⟩ := h10 m _ hL
      generalize es[m] = e at *
      have k100 : ∀ (M2 : xH) (v3 v4 : Option Value), Wd M2 O t x out full (es.take m ++ (es.drop m).filter (fun e => !beh p full e)) pool se sub fd fr bg wr nx kd fi la va → FrO M M2 O → xG K 100 [some (.ref O), some (.int (nI p)), some (.int (nI m)), v3, v4] [] M2 sz 0 0 := by
        intro M2 v3 v4 w2 f2
        refine xg_iinc (pc := 100) hX d_Mod_clear_100 (by decide) rfl ci_iconst_m1 (by rfl) ?_
        refine xg_goto (pc := 103) hX 7 d_Mod_clear_103 (by decide) ?_
        exact ih M2 _ _ (by omega) w2 f2
      have k91 : ∀ (b : Bool) (v4 : Option Value), beh p full e = b → xG K 91 [some (.ref O), some (.int (nI p)), some (.int (nI m)), some (.int (bI b)), v4] [] M1 sz 0 0 := by
        intro b v4 hb
        refine xp_iload_3 (pc := 91) hX d_Mod_clear_91 ?_
        refine xg_if_eq (pc := 92) hX 100 d_Mod_clear_92 (by decide) (fun z => ?_) (fun z => ?_)
        · have z := bI_eq0.mp z
          refine k100 M1 _ _ ?_ f1
          rw [← st2 (by rw [hb, z]; rfl)]
          exact w1
        · have z := bI_ne0.mp z
          refine xp_aload_0 (pc := 95) hX d_Mod_clear_95 ?_
          refine xp_iload_2 (pc := 96) hX d_Mod_clear_96 ?_
          refine xv_V (Y2 := Y_Mod_remove) (pc := 97) hX [_] k_Mod m_Mod_remove d_Mod_clear_97 l_Mod_134 rfl rfl (by simp [Value.category]) (by first | assumption | exact xup_s _ _ _ | exact xup_o (by omega) (by assumption) | exact xup_o (by omega) (xup_s _ _ _) | exact xup_o (by omega) (xup_o (by omega) (by assumption)) | exact xup_o (by omega) (xup_o (by omega) (xup_s _ _ _)) | exact xup_o (by omega) (xup_o (by omega) (xup_o (by omega) (by assumption)))) (c_Mod_remove d w1 hLm) (by omega) (by omega) ?_
          rintro M2 ⟨a1, a2⟩
          refine k100 M2 _ _ ?_ (f1.tr a2)
          rw [← st1 (by rw [hb, z]; rfl)]
          exact a1
      have kout : ∀ (v4 : Option Value) (i : Nat), i ≤ full.length → beh p full e = false → xG K 43 [some (.ref O), some (.int (nI p)), some (.int (nI m)), some (.int (nI 0)), some (.int (nI i))] [] M1 sz 0 0 := by
        intro v4 i hi hb
        refine xp_iload_4 (pc := 43) hX d_Mod_clear_43 ?_
        refine xp_aload_0 (pc := 45) hX d_Mod_clear_45 ?_
        refine xg_get (pc := 46) hX (j := 7) k_Mod d_Mod_clear_46 l_Mod_95 (by decide) (by first | assumption | exact xup_s _ _ _ | exact xup_o (by omega) (by assumption) | exact xup_o (by omega) (xup_s _ _ _) | exact xup_o (by omega) (xup_o (by omega) (by assumption)) | exact xup_o (by omega) (xup_o (by omega) (xup_s _ _ _)) | exact xup_o (by omega) (xup_o (by omega) (xup_o (by omega) (by assumption)))) (by rfl) ?_
        refine xn_icmp_ge (pc := 49) hX 91 d_Mod_clear_49 (by decide) (by omega) (by omega) (fun _ => k91 false _ hb) (fun _ => ?_)
        refine xp_iload_3 (pc := 52) hX d_Mod_clear_52 ?_
        exact xn_if_eq (a := 0) (pc := 53) hX 91 d_Mod_clear_53 (by decide) (by decide) (fun _ => k91 false _ hb) (fun z => absurd z (by decide))
      have k38 : beh p full e = false → xG K 38 [some (.ref O), some (.int (nI p)), some (.int (nI m)), v3, v4] [] M1 sz 0 0 := by
        intro hb
        refine xg_iconst (pc := 38) hX (nI 0) d_Mod_clear_38 ci_iconst_0 ?_
        refine xp_istore_3 (pc := 39) hX d_Mod_clear_39 (by decide) ?_
        refine xg_iconst (pc := 40) hX (nI 0) d_Mod_clear_40 ci_iconst_0 ?_
        refine xp_istore_4 (pc := 41) hX d_Mod_clear_41 (by decide) ?_
        exact kout none 0 (by omega) hb
      have k43 : ∀ (s i : Nat), full.length - i = s → i ≤ full.length → e.1 = p → full.length < e.2.1.length → full.take i <+: e.2.1 → xG K 43 [some (.ref O), some (.int (nI p)), some (.int (nI m)), some (.int (nI 1)), some (.int (nI i))] [] M1 sz 0 0 := by
        intro s
        induction s with
        | zero =>
          intro i hs hi hep hel hpre
          rw [List.take_of_length_le (by omega)] at hpre
          have hb : beh p full e = true := by
            unfold beh
            rw [List.isPrefixOf_iff_prefix.mpr hpre, hep]
            simp [hel]
          refine xp_iload_4 (pc := 43) hX d_Mod_clear_43 ?_
          refine xp_aload_0 (pc := 45) hX d_Mod_clear_45 ?_
          refine xg_get (pc := 46) hX (j := 7) k_Mod d_Mod_clear_46 l_Mod_95 (by decide) (by first | assumption | exact xup_s _ _ _ | exact xup_o (by omega) (by assumption) | exact xup_o (by omega) (xup_s _ _ _) | exact xup_o (by omega) (xup_o (by omega) (by assumption)) | exact xup_o (by omega) (xup_o (by omega) (xup_s _ _ _)) | exact xup_o (by omega) (xup_o (by omega) (xup_o (by omega) (by assumption)))) (by rfl) ?_
          exact xn_icmp_ge (pc := 49) hX 91 d_Mod_clear_49 (by decide) (by omega) (by omega) (fun _ => k91 true _ hb) (fun z => absurd z (by omega))
        | succ s ihs =>
          intro i hs hi hep hel hpre
          have hi1 : i < full.length := by omega
          have hi2 : i < e.2.1.length := by omega
          have b1 := by_lt e.2.1[i]
          have b2 := by_lt full[i]
          refine xp_iload_4 (pc := 43) hX d_Mod_clear_43 ?_
          refine xp_aload_0 (pc := 45) hX d_Mod_clear_45 ?_
          refine xg_get (pc := 46) hX (j := 7) k_Mod d_Mod_clear_46 l_Mod_95 (by decide) (by first | assumption | exact xup_s _ _ _ | exact xup_o (by omega) (by assumption) | exact xup_o (by omega) (xup_s _ _ _) | exact xup_o (by omega) (xup_o (by omega) (by assumption)) | exact xup_o (by omega) (xup_o (by omega) (xup_s _ _ _)) | exact xup_o (by omega) (xup_o (by omega) (xup_o (by omega) (by assumption)))) (by rfl) ?_
          refine xn_icmp_ge (pc := 49) hX 91 d_Mod_clear_49 (by decide) (by omega) (by omega) (fun z => absurd z (by omega)) (fun _ => ?_)
          refine xp_iload_3 (pc := 52) hX d_Mod_clear_52 ?_
          refine xn_if_eq (a := 1) (pc := 53) hX 91 d_Mod_clear_53 (by decide) (by decide) (fun z => absurd z (by decide)) (fun _ => ?_)
          refine xp_aload_0 (pc := 56) hX d_Mod_clear_56 ?_
          refine xg_get (pc := 57) hX (j := 8) k_Mod d_Mod_clear_57 l_Mod_22 (by decide) (by first | assumption | exact xup_s _ _ _ | exact xup_o (by omega) (by assumption) | exact xup_o (by omega) (xup_s _ _ _) | exact xup_o (by omega) (xup_o (by omega) (by assumption)) | exact xup_o (by omega) (xup_o (by omega) (xup_s _ _ _)) | exact xup_o (by omega) (xup_o (by omega) (xup_o (by omega) (by assumption)))) (by rfl) ?_
          refine xg_sipush (pc := 60) hX (nI 200) d_Mod_clear_60 ci_sipush_200 ?_
          refine xp_iload_2 (pc := 63) hX d_Mod_clear_63 ?_
          first | refine xn_imul (pc := 64) hX d_Mod_clear_64 ?_ | refine xg_imul (pc := 64) hX d_Mod_clear_64 ?_
          refine xp_iload_4 (pc := 65) hX d_Mod_clear_65 ?_
          first | refine xn_iadd (pc := 67) hX d_Mod_clear_67 ?_ | refine xg_iadd (pc := 67) hX d_Mod_clear_67 ?_
          refine xn_iald (pc := 68) hX d_Mod_clear_68 rfl (by first | assumption | exact xup_s _ _ _ | exact xup_o (by omega) (by assumption) | exact xup_o (by omega) (xup_s _ _ _) | exact xup_o (by omega) (xup_o (by omega) (by assumption)) | exact xup_o (by omega) (xup_o (by omega) (xup_s _ _ _)) | exact xup_o (by omega) (xup_o (by omega) (xup_o (by omega) (by assumption)))) (by omega) (by omega) ?_
          refine xp_aload_0 (pc := 69) hX d_Mod_clear_69 ?_
          refine xg_get (pc := 70) hX (j := 3) k_Mod d_Mod_clear_70 l_Mod_19 (by decide) (by first | assumption | exact xup_s _ _ _ | exact xup_o (by omega) (by assumption) | exact xup_o (by omega) (xup_s _ _ _) | exact xup_o (by omega) (xup_o (by omega) (by assumption)) | exact xup_o (by omega) (xup_o (by omega) (xup_s _ _ _)) | exact xup_o (by omega) (xup_o (by omega) (xup_o (by omega) (by assumption)))) (by rfl) ?_
          refine xp_iload_4 (pc := 73) hX d_Mod_clear_73 ?_
          refine xn_iald (pc := 75) hX d_Mod_clear_75 rfl (by first | assumption | exact xup_s _ _ _ | exact xup_o (by omega) (by assumption) | exact xup_o (by omega) (xup_s _ _ _) | exact xup_o (by omega) (xup_o (by omega) (by assumption)) | exact xup_o (by omega) (xup_o (by omega) (xup_s _ _ _)) | exact xup_o (by omega) (xup_o (by omega) (xup_o (by omega) (by assumption)))) (by omega) (by omega) ?_
          rw [e5 i e.2.1[i] (List.getElem?_eq_getElem hi2), h4b i full[i] (List.getElem?_eq_getElem hi1)]
          refine xn_icmp_ne (pc := 76) hX 83 d_Mod_clear_76 (by decide) (by omega) (by omega) (fun z => ?_) (fun z => ?_)
          · refine xg_iconst (pc := 83) hX (nI 0) d_Mod_clear_83 ci_iconst_0 ?_
            refine xp_istore_3 (pc := 84) hX d_Mod_clear_84 (by decide) ?_
            refine xp_inc_4 (pc := 85) hX d_Mod_clear_85 (by decide) ?_
            refine xg_goto (pc := 88) hX 43 d_Mod_clear_88 (by decide) ?_
            refine kout none (i + 1) (by omega) ?_
            unfold beh
            rw [Bool.and_eq_false_iff]
            right
            rw [Bool.eq_false_iff]
            intro q
            exact z (by rw [pre_ne hi1 hi2 (List.isPrefixOf_iff_prefix.mp q)])
          · refine xg_iconst (pc := 79) hX (nI 1) d_Mod_clear_79 ci_iconst_1 ?_
            refine xg_goto (pc := 80) hX 84 d_Mod_clear_80 (by decide) ?_
            refine xp_istore_3 (pc := 84) hX d_Mod_clear_84 (by decide) ?_
            refine xp_inc_4 (pc := 85) hX d_Mod_clear_85 (by decide) ?_
            refine xg_goto (pc := 88) hX 43 d_Mod_clear_88 (by decide) ?_
            exact ihs (i + 1) (by omega) (by omega) hep hel (pre_step hi1 hi2 hpre (UInt8.toNat_inj.mp z))
      rw [pk_m1]
      refine xp_iload_2 (pc := 7) hX d_Mod_clear_7 ?_
      refine xn_if_lt (pc := 8) hX 106 d_Mod_clear_8 (by decide) (by omega) ?_
      refine xp_aload_0 (pc := 11) hX d_Mod_clear_11 ?_
      refine xg_get (pc := 12) hX (j := 12) k_Mod d_Mod_clear_12 l_Mod_34 (by decide) (by first | assumption | exact xup_s _ _ _ | exact xup_o (by omega) (by assumption) | exact xup_o (by omega) (xup_s _ _ _) | exact xup_o (by omega) (xup_o (by omega) (by assumption)) | exact xup_o (by omega) (xup_o (by omega) (xup_s _ _ _)) | exact xup_o (by omega) (xup_o (by omega) (xup_o (by omega) (by assumption)))) (by rfl) ?_
      refine xp_iload_2 (pc := 15) hX d_Mod_clear_15 ?_
      refine xn_iald (pc := 16) hX d_Mod_clear_16 rfl (by first | assumption | exact xup_s _ _ _ | exact xup_o (by omega) (by assumption) | exact xup_o (by omega) (xup_s _ _ _) | exact xup_o (by omega) (xup_o (by omega) (by assumption)) | exact xup_o (by omega) (xup_o (by omega) (xup_s _ _ _)) | exact xup_o (by omega) (xup_o (by omega) (xup_o (by omega) (by assumption)))) (by omega) (by omega) ?_
      rw [e1]
      refine xp_iload_1 (pc := 17) hX d_Mod_clear_17 ?_
      refine xn_icmp_ne (pc := 18) hX 38 d_Mod_clear_18 (by decide) (by omega) (by omega) (fun z => k38 (by unfold beh; rw [show (e.1 == p) = false by rw [beq_eq_false_iff_ne]; exact z]; rfl)) (fun z1 => ?_)
      refine xp_aload_0 (pc := 21) hX d_Mod_clear_21 ?_
      refine xg_get (pc := 22) hX (j := 9) k_Mod d_Mod_clear_22 l_Mod_25 (by decide) (by first | assumption | exact xup_s _ _ _ | exact xup_o (by omega) (by assumption) | exact xup_o (by omega) (xup_s _ _ _) | exact xup_o (by omega) (xup_o (by omega) (by assumption)) | exact xup_o (by omega) (xup_o (by omega) (xup_s _ _ _)) | exact xup_o (by omega) (xup_o (by omega) (xup_o (by omega) (by assumption)))) (by rfl) ?_
      refine xp_iload_2 (pc := 25) hX d_Mod_clear_25 ?_
      refine xn_iald (pc := 26) hX d_Mod_clear_26 rfl (by first | assumption | exact xup_s _ _ _ | exact xup_o (by omega) (by assumption) | exact xup_o (by omega) (xup_s _ _ _) | exact xup_o (by omega) (xup_o (by omega) (by assumption)) | exact xup_o (by omega) (xup_o (by omega) (xup_s _ _ _)) | exact xup_o (by omega) (xup_o (by omega) (xup_o (by omega) (by assumption)))) (by omega) (by omega) ?_
      rw [e3]
      refine xp_aload_0 (pc := 27) hX d_Mod_clear_27 ?_
      refine xg_get (pc := 28) hX (j := 7) k_Mod d_Mod_clear_28 l_Mod_95 (by decide) (by first | assumption | exact xup_s _ _ _ | exact xup_o (by omega) (by assumption) | exact xup_o (by omega) (xup_s _ _ _) | exact xup_o (by omega) (xup_o (by omega) (by assumption)) | exact xup_o (by omega) (xup_o (by omega) (xup_s _ _ _)) | exact xup_o (by omega) (xup_o (by omega) (xup_o (by omega) (by assumption)))) (by rfl) ?_
      refine xn_icmp_le (pc := 31) hX 38 d_Mod_clear_31 (by decide) (by omega) (by omega) (fun z => k38 (by unfold beh; rw [show decide (full.length < e.2.1.length) = false by rw [decide_eq_false_iff_not]; omega]; simp)) (fun z2 => ?_)
      refine xg_iconst (pc := 34) hX (nI 1) d_Mod_clear_34 ci_iconst_1 ?_
      refine xg_goto (pc := 35) hX 39 d_Mod_clear_35 (by decide) ?_
      refine xp_istore_3 (pc := 39) hX d_Mod_clear_39 (by decide) ?_
      refine xg_iconst (pc := 40) hX (nI 0) d_Mod_clear_40 ci_iconst_0 ?_
      refine xp_istore_4 (pc := 41) hX d_Mod_clear_41 (by decide) ?_
      exact k43 _ 0 rfl (by omega) z1 z2 (by simp)
  exact loop es.length M _ _ (Nat.le_refl _) (by simpa using h) (FrO.rf _ _)
end XM9
