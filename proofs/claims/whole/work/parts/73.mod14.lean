/-! the reference: variables, wordEnd, drop -/
/-- the words of a text that was read, from s on -/
def WC (x : List UInt8) : Nat → List xTk → Prop
  | s, [] => x.length < s
  | s, k :: r => k = (1, s, (rdV x s).1) ∧ (rdV x s).2 = true ∧ (x.length ≤ (rdV x s).1 ∨ x[(rdV x s).1]? = some 32) ∧ WC x ((rdV x s).1 + 1) r
theorem rdL_wc {x : List UInt8} : ∀ (n s : Nat) (acc : List xTk), (rdL x n s acc).1.2 = true → ∃ T, (rdL x n s acc).2 = acc ++ T ∧ WC x s T
  | 0, s, acc, h => absurd h (by simp [rdL])
  | n + 1, s, acc, h => by
    by_cases c : (rdV x s).2 = true
    · have hok := rdV_ok c
      unfold rdL at h ⊢
      rw [if_pos c] at h ⊢
      by_cases c2 : (rdV x s).1 < x.length
      · rw [if_pos c2] at h ⊢
        by_cases c3 : x[(rdV x s).1]? = some 32
        · rw [if_pos c3] at h ⊢
          obtain ⟨T, e1, e2⟩ := rdL_wc n _ _ h
          exact ⟨(1, s, (rdV x s).1) :: T, by rw [e1, List.append_assoc]; rfl, rfl, c, Or.inr c3, e2⟩
        · rw [if_neg c3] at h
          cases h
      · rw [if_neg c2]
        exact ⟨[(1, s, (rdV x s).1)], rfl, rfl, c, Or.inl (by omega), by show x.length < _; omega⟩
    · unfold rdL at h
      rw [if_neg c] at h
      exact absurd h c
theorem rdL_fuel {x : List UInt8} : ∀ (n m s : Nat) (acc : List xTk), s ≤ x.length → x.length + 1 ≤ 2 * n + s → x.length + 1 ≤ 2 * m + s → rdL x n s acc = rdL x m s acc
  | 0, _, s, _, h, h1, _ => by omega
  | n + 1, 0, s, _, h, _, h2 => by omega
  | n + 1, m + 1, s, acc, h, h1, h2 => by
    unfold rdL
    by_cases c : (rdV x s).2 = true
    · have hok := rdV_ok c
      rw [if_pos c, if_pos c]
      split
      · split
        · exact rdL_fuel n m _ _ (by omega) (by omega) (by omega)
        · rfl
      · rfl
    · rw [if_neg c, if_neg c]
theorem sc_run {P : UInt8 → Bool} {bs : List UInt8} {e : Nat} : ∀ (n s : Nat), e - s = n → s ≤ e → e ≤ bs.length → (∀ (j : Nat) (c : UInt8), s ≤ j → j < e → bs[j]? = some c → P c = true) → sc P bs s bs.length = sc P bs e bs.length
  | 0, s, h, h1, _, _ => by rw [show s = e by omega]
  | n + 1, s, h, h1, h2, h3 => by
    have hs : s < bs.length := by omega
    rw [sc_miss hs (Nat.le_refl _) (h3 s bs[s] (Nat.le_refl _) (by omega) (List.getElem?_eq_getElem hs))]
    exact sc_run n (s + 1) (by omega) (by omega) h2 (fun j c a b => h3 j c (by omega) b)
theorem sym_nbl {c : UInt8} (h : sym c = true) : nbl c = true := by
  unfold nbl
  by_cases e : c = 32
  · subst e
    exact absurd h (by decide)
  · simp [e]
theorem wEnd {x : List UInt8} {s : Nat} (h : (rdV x s).2 = true) (h2 : x.length ≤ (rdV x s).1 ∨ x[(rdV x s).1]? = some 32) : sc nbl x s x.length = (rdV x s).1 := by
  have hok := rdV_ok h
  have hv : vOK x[s]? = true := by
    cases hh : vOK x[s]? with
    | true => rfl
    | false => unfold rdV at h; rw [hh, if_neg (by decide)] at h; cases h
  have he : (rdV x s).1 = sc sym x s (min (s + 30) x.length) := by unfold rdV; rw [if_pos hv]
  have hall := sc_all (P := sym) (bs := x) (a := s) (b := min (s + 30) x.length)
  rw [← he] at hall
  generalize (rdV x s).1 = e at *
  rw [sc_run (e - s) s rfl (by omega) (by omega) (fun j c a b hj => sym_nbl (hall c (by
    refine List.mem_of_getElem? (i := j - s) ?_
    rw [sl_at (by omega), show s + (j - s) = j by omega]
    exact hj)))]
  rcases h2 with q | q
  · rw [show e = x.length by omega, sc_end]
  · have hl := (List.getElem?_eq_some_iff.mp q).1
    refine sc_hit hl (Nat.le_refl _) ?_
    rw [List.getElem?_eq_getElem hl] at q
    rw [Option.some.inj q]
    decide
theorem gI_dropE {es es2 : List xEn} {se : List xSe} {p : Nat} {nm : List UInt8} (h : gI es) (e : dropE es se p nm = some es2) : gI es2 := by
  unfold dropE at e
  cases hs : stI (clE es p nm) se p nm with
  | some i =>
    rw [hs] at e
    refine gI_putE (gI_clE h) (fun _ => ?_) e
    unfold stI at hs
    cases hc : isCo nm with
    | true => rfl
    | false => rw [hc] at hs; cases hs
  | none =>
    rw [hs] at e
    dsimp only at e
    cases hi : eIdx (clE es p nm) p nm with
    | none =>
      rw [hi] at e
      cases e
      exact gI_clE h
    | some i =>
      rw [hi] at e
      cases e
      exact fun a ha => gI_clE h a (List.mem_of_mem_eraseIdx ha)
section XM14
variable {t x out full : List UInt8} {es : List xEn} {pool : Nat} {se : List xSe} {sub fd : List UInt8} {fr bg : Nat} {wr : Option Nat} {nx kd fi la va : Nat}
set_option maxHeartbeats 4000000 in
set_option maxRecDepth 100000 in
theorem c_Mod_wordEnd (d : Nat) {M : xH} {sz O a : Nat} (h : Wd M O t x out full es pool se sub fd fr bg wr nx kd fi la va) (ha : a ≤ x.length) : xC d 0 0 Y_Mod_wordEnd [.ref O, .int (nI a)] M sz (qi sz (fun y M' => y = nI (sc nbl x a x.length) ∧ M' = M)) := by
  refine xC_of (by decide) (Nat.le_of_ble_eq_true rfl) (by simp [Value.category]) (vs := [some (.ref O), some (.int (nI a)), none]) rfl (fun K hX hE => ?_)
  obtain ⟨h0, -, ⟨h2l, g, h2a, h2b⟩, -⟩ := id h
  have k27 : xG K 27 [some (.ref O), some (.int (nI a)), some (.int (nI (sc nbl x a x.length)))] [] M sz 0 0 := by
    refine xp_iload_2 (pc := 27) hX d_Mod_wordEnd_27 ?_
    refine xg_iret (pc := 28) hX hE d_Mod_wordEnd_28 rfl rfl (by omega) (by omega) ?_
    exact ⟨rfl, _, rfl, rfl, rfl⟩
  refine xp_iload_1 (pc := 0) hX d_Mod_wordEnd_0 ?_
  refine xp_istore_2 (pc := 1) hX d_Mod_wordEnd_1 (by decide) ?_
  have loop : ∀ (r i : Nat), x.length - i = r → i ≤ x.length → sc nbl x a x.length = sc nbl x i x.length → xG K 2 [some (.ref O), some (.int (nI a)), some (.int (nI i))] [] M sz 0 0 := by
    intro r
    induction r with
    | zero =>
      intro i hr hi hs
      have hie : i = sc nbl x a x.length := by rw [hs, show i = x.length by omega, sc_end]
      refine xp_iload_2 (pc := 2) hX d_Mod_wordEnd_2 ?_
      refine xp_aload_0 (pc := 3) hX d_Mod_wordEnd_3 ?_
      refine xg_get (pc := 4) hX (j := 5) k_Mod d_Mod_wordEnd_4 l_Mod_72 (by decide) (by first | assumption | exact xup_s _ _ _ | exact xup_o (by omega) (by assumption) | exact xup_o (by omega) (xup_s _ _ _) | exact xup_o (by omega) (xup_o (by omega) (by assumption)) | exact xup_o (by omega) (xup_o (by omega) (xup_s _ _ _)) | exact xup_o (by omega) (xup_o (by omega) (xup_o (by omega) (by assumption)))) (by rfl) ?_
      refine xn_icmp_ge (pc := 7) hX 27 d_Mod_wordEnd_7 (by decide) (by omega) (by omega) (fun _ => ?_) (fun z => absurd z (by omega))
      rw [hie]
      exact k27
    | succ r ih =>
      intro i hr hi hs
      have hix : i < x.length := by omega
      have b1 := by_lt x[i]
      refine xp_iload_2 (pc := 2) hX d_Mod_wordEnd_2 ?_
      refine xp_aload_0 (pc := 3) hX d_Mod_wordEnd_3 ?_
      refine xg_get (pc := 4) hX (j := 5) k_Mod d_Mod_wordEnd_4 l_Mod_72 (by decide) (by first | assumption | exact xup_s _ _ _ | exact xup_o (by omega) (by assumption) | exact xup_o (by omega) (xup_s _ _ _) | exact xup_o (by omega) (xup_o (by omega) (by assumption)) | exact xup_o (by omega) (xup_o (by omega) (xup_s _ _ _)) | exact xup_o (by omega) (xup_o (by omega) (xup_o (by omega) (by assumption)))) (by rfl) ?_
      refine xn_icmp_ge (pc := 7) hX 27 d_Mod_wordEnd_7 (by decide) (by omega) (by omega) (fun z => absurd z (by omega)) (fun _ => ?_)
      refine xp_aload_0 (pc := 10) hX d_Mod_wordEnd_10 ?_
      refine xg_get (pc := 11) hX (j := 1) k_Mod d_Mod_wordEnd_11 l_Mod_13 (by decide) (by first | assumption | exact xup_s _ _ _ | exact xup_o (by omega) (by assumption) | exact xup_o (by omega) (xup_s _ _ _) | exact xup_o (by omega) (xup_o (by omega) (by assumption)) | exact xup_o (by omega) (xup_o (by omega) (xup_s _ _ _)) | exact xup_o (by omega) (xup_o (by omega) (xup_o (by omega) (by assumption)))) (by rfl) ?_
      refine xp_iload_2 (pc := 14) hX d_Mod_wordEnd_14 ?_
      refine xn_iald (pc := 15) hX d_Mod_wordEnd_15 rfl (by first | assumption | exact xup_s _ _ _ | exact xup_o (by omega) (by assumption) | exact xup_o (by omega) (xup_s _ _ _) | exact xup_o (by omega) (xup_o (by omega) (by assumption)) | exact xup_o (by omega) (xup_o (by omega) (xup_s _ _ _)) | exact xup_o (by omega) (xup_o (by omega) (xup_o (by omega) (by assumption)))) (by omega) (by omega) ?_
      rw [h2b i x[i] (List.getElem?_eq_getElem hix)]
      refine xg_bipush (pc := 16) hX (nI 32) d_Mod_wordEnd_16 ci_bipush_32 ?_
      refine xn_icmp_eq (pc := 18) hX 27 d_Mod_wordEnd_18 (by decide) (by omega) (by omega) (fun z => ?_) (fun z => ?_)
      · have hz : x[i] = 32 := UInt8.toNat_inj.mp z
        have hie : i = sc nbl x a x.length := by rw [hs, sc_hit hix (Nat.le_refl _) (by rw [hz]; decide)]
        rw [hie]
        exact k27
      · have hz : nbl x[i] = true := by
          unfold nbl
          simp only [Bool.not_eq_true', beq_eq_false_iff_ne, ne_eq]
          intro q
          exact z (by rw [q]; rfl)
        refine xp_inc_2 (pc := 21) hX d_Mod_wordEnd_21 (by decide) ?_
        refine xg_goto (pc := 24) hX 2 d_Mod_wordEnd_24 (by decide) ?_
        exact ih (i + 1) (by omega) (by omega) (by rw [hs, sc_miss hix (Nat.le_refl _) hz])
  exact loop _ a rfl ha rfl
set_option maxHeartbeats 4000000 in
set_option maxRecDepth 100000 in
theorem c_Mod_variables (d : Nat) {M : xH} {sz O most : Nat} (h : Wd M O t x out full es pool se sub fd fr bg none 0 kd fi la va) (hm : most ≤ 1000) : xC (d + 3) 0 0 Y_Mod_variables [.ref O, .int (nI most)] M sz (qi sz (fun _ M' => (∃ nx', Wd M' O t x out full es pool se sub fd fr bg (if (rdL x most 0 []).1.2 = true then none else some (rdL x most 0 []).1.1) nx' kd fi la va) ∧ FrO M M' O)) := by
  refine xC_of (by decide) (Nat.le_of_ble_eq_true rfl) (by simp [Value.category]) (vs := [some (.ref O), some (.int (nI most)), none, none]) rfl (fun K hX hE => ?_)
  have hx6 := h.xl.2.1
  generalize hL : rdL x most 0 [] = L at *
  -- the end
  have kfin : ∀ (M1 : xH) (n nx1 : Nat) (v3 : Option Value), n < 3000 → Wd M1 O t x out full es pool se sub fd fr bg (if L.1.2 = true then none else some L.1.1) nx1 kd fi la va → FrO M M1 O → xG K 114 [some (.ref O), some (.int (nI most)), some (.int (nI n)), v3] [] M1 sz 0 0 := by
    intro M1 n nx1 v3 hn w1 f1
    refine xp_iload_2 (pc := 114) hX d_Mod_variables_114 ?_
    refine xg_iret (pc := 115) hX hE d_Mod_variables_115 rfl rfl (by omega) (by omega) ?_
    exact ⟨rfl, _, rfl, ⟨_, w1⟩, f1⟩
  -- it is WRONG
  have kbad : ∀ (M1 : xH) (n nx1 p : Nat), n < 2000 → p ≤ x.length → L.1 = (p, false) → Wd M1 O t x out full es pool se sub fd fr bg (some p) nx1 kd fi la va → FrO M M1 O → xG K 46 [some (.ref O), some (.int (nI most)), some (.int (nI n)), some (.int (nI 1))] [] M1 sz 0 0 := by
    intro M1 n nx1 p hn hp hLp w1 f1
    obtain ⟨h0, -⟩ := id w1
    refine xp_inc_2 (pc := 46) hX d_Mod_variables_46 (by decide) ?_
    refine xp_aload_0 (pc := 49) hX d_Mod_variables_49 ?_
    refine xg_get (pc := 50) hX (j := 24) k_Mod d_Mod_variables_50 l_Mod_75 (by decide) (by first | assumption | exact xup_s _ _ _ | exact xup_o (by omega) (by assumption) | exact xup_o (by omega) (xup_s _ _ _) | exact xup_o (by omega) (xup_o (by omega) (by assumption)) | exact xup_o (by omega) (xup_o (by omega) (xup_s _ _ _)) | exact xup_o (by omega) (xup_o (by omega) (xup_o (by omega) (by assumption)))) (by rfl) ?_
    refine xn_if_ge (a := p) (pc := 53) hX 69 d_Mod_variables_53 (by decide) (by omega) ?_
    refine xg_iconst (pc := 69) hX (nI 0) d_Mod_variables_69 ci_iconst_0 ?_
    refine xp_istore_3 (pc := 70) hX d_Mod_variables_70 (by decide) ?_
    refine xp_iload_3 (pc := 71) hX d_Mod_variables_71 ?_
    refine xn_if_eq (a := 0) (pc := 72) hX 4 d_Mod_variables_72 (by decide) (by decide) (fun _ => ?_) (fun z => absurd z (by decide))
    refine xp_iload_3 (pc := 4) hX d_Mod_variables_4 ?_
    refine xn_if_eq (a := 0) (pc := 5) hX 88 d_Mod_variables_5 (by decide) (by decide) (fun _ => ?_) (fun z => absurd z (by decide))
    refine xp_aload_0 (pc := 88) hX d_Mod_variables_88 ?_
    refine xg_get (pc := 89) hX (j := 24) k_Mod d_Mod_variables_89 l_Mod_75 (by decide) (by first | assumption | exact xup_s _ _ _ | exact xup_o (by omega) (by assumption) | exact xup_o (by omega) (xup_s _ _ _) | exact xup_o (by omega) (xup_o (by omega) (by assumption)) | exact xup_o (by omega) (xup_o (by omega) (xup_s _ _ _)) | exact xup_o (by omega) (xup_o (by omega) (xup_o (by omega) (by assumption)))) (by rfl) ?_
    refine xn_if_ge (a := p) (pc := 92) hX 114 d_Mod_variables_92 (by decide) (by omega) ?_
    refine kfin M1 (n + 1) nx1 _ (by omega) ?_ f1
    rw [hLp, if_neg Bool.false_ne_true]
    exact w1
  refine xg_iconst (pc := 0) hX (nI 0) d_Mod_variables_0 ci_iconst_0 ?_
  refine xp_istore_2 (pc := 1) hX d_Mod_variables_1 (by decide) ?_
  refine xg_iconst (pc := 2) hX (nI 1) d_Mod_variables_2 ci_iconst_1 ?_
  refine xp_istore_3 (pc := 3) hX d_Mod_variables_3 (by decide) ?_
  have loop : ∀ (m n s : Nat) (M1 : xH) (acc : List xTk), n + m = most → s ≤ x.length → Wd M1 O t x out full es pool se sub fd fr bg none s kd fi la va → FrO M M1 O → L = rdL x m s acc → xG K 4 [some (.ref O), some (.int (nI most)), some (.int (nI n)), some (.int (nI 1))] [] M1 sz 0 0 := by
    intro m
    induction m with
    | zero =>
      intro n s M1 acc hn hs w1 f1 hLL
      obtain ⟨h0, -⟩ := id w1
      have hLp : L.1 = (s, false) := by rw [hLL]; rfl
      refine xp_iload_3 (pc := 4) hX d_Mod_variables_4 ?_
      refine xn_if_eq (a := 1) (pc := 5) hX 88 d_Mod_variables_5 (by decide) (by decide) (fun z => absurd z (by decide)) (fun _ => ?_)
      refine xp_aload_0 (pc := 8) hX d_Mod_variables_8 ?_
      refine xg_get (pc := 9) hX (j := 24) k_Mod d_Mod_variables_9 l_Mod_75 (by decide) (by first | assumption | exact xup_s _ _ _ | exact xup_o (by omega) (by assumption) | exact xup_o (by omega) (xup_s _ _ _) | exact xup_o (by omega) (xup_o (by omega) (by assumption)) | exact xup_o (by omega) (xup_o (by omega) (xup_s _ _ _)) | exact xup_o (by omega) (xup_o (by omega) (xup_o (by omega) (by assumption)))) (by rfl) ?_
      refine xg_if_ge (pc := 12) hX 88 d_Mod_variables_12 (by decide) (fun z => absurd z (by decide)) (fun _ => ?_)
      refine xp_iload_2 (pc := 15) hX d_Mod_variables_15 ?_
      refine xp_iload_1 (pc := 16) hX d_Mod_variables_16 ?_
      refine xn_icmp_ne (pc := 17) hX 42 d_Mod_variables_17 (by decide) (by omega) (by omega) (fun z => absurd z (by omega)) (fun _ => ?_)
      refine xp_aload_0 (pc := 20) hX d_Mod_variables_20 ?_
      refine xg_get (pc := 21) hX (j := 25) k_Mod d_Mod_variables_21 l_Mod_78 (by decide) (by first | assumption | exact xup_s _ _ _ | exact xup_o (by omega) (by assumption) | exact xup_o (by omega) (xup_s _ _ _) | exact xup_o (by omega) (xup_o (by omega) (by assumption)) | exact xup_o (by omega) (xup_o (by omega) (xup_s _ _ _)) | exact xup_o (by omega) (xup_o (by omega) (xup_o (by omega) (by assumption)))) (by rfl) ?_
      refine xp_aload_0 (pc := 24) hX d_Mod_variables_24 ?_
      refine xg_get (pc := 25) hX (j := 5) k_Mod d_Mod_variables_25 l_Mod_72 (by decide) (by first | assumption | exact xup_s _ _ _ | exact xup_o (by omega) (by assumption) | exact xup_o (by omega) (xup_s _ _ _) | exact xup_o (by omega) (xup_o (by omega) (by assumption)) | exact xup_o (by omega) (xup_o (by omega) (xup_s _ _ _)) | exact xup_o (by omega) (xup_o (by omega) (xup_o (by omega) (by assumption)))) (by rfl) ?_
      refine xn_icmp_ge (pc := 28) hX 42 d_Mod_variables_28 (by decide) (by omega) (by omega) (fun z => ?_) (fun z => ?_)
      · have hR : rdV x s = (s, false) := by
          unfold rdV
          rw [List.getElem?_eq_none z]
          rfl
        refine xp_aload_0 (pc := 42) hX d_Mod_variables_42 ?_
        refine xv_V (Y2 := Y_Mod_variable) (pc := 43) hX [] k_Mod m_Mod_variable d_Mod_variables_43 l_Mod_146 rfl rfl (by simp [Value.category]) (by first | assumption | exact xup_s _ _ _ | exact xup_o (by omega) (by assumption) | exact xup_o (by omega) (xup_s _ _ _) | exact xup_o (by omega) (xup_o (by omega) (by assumption)) | exact xup_o (by omega) (xup_o (by omega) (xup_s _ _ _)) | exact xup_o (by omega) (xup_o (by omega) (xup_o (by omega) (by assumption)))) (c_Mod_variable d w1 (by intro q hq; cases hq) hs) (by omega) (by omega) ?_
        rw [hR]
        rintro M2 ⟨w2, f2⟩
        exact kbad M2 n s s (by omega) hs hLp w2 (f1.tr f2)
      · refine xp_aload_0 (pc := 31) hX d_Mod_variables_31 ?_
        refine xp_aload_0 (pc := 32) hX d_Mod_variables_32 ?_
        refine xg_get (pc := 33) hX (j := 25) k_Mod d_Mod_variables_33 l_Mod_78 (by decide) (by first | assumption | exact xup_s _ _ _ | exact xup_o (by omega) (by assumption) | exact xup_o (by omega) (xup_s _ _ _) | exact xup_o (by omega) (xup_o (by omega) (by assumption)) | exact xup_o (by omega) (xup_o (by omega) (xup_s _ _ _)) | exact xup_o (by omega) (xup_o (by omega) (xup_o (by omega) (by assumption)))) (by rfl) ?_
        refine xv_V (Y2 := Y_Mod_fail) (pc := 36) hX [_] k_Mod m_Mod_fail d_Mod_variables_36 l_Mod_92 rfl rfl (by simp [Value.category]) (by first | assumption | exact xup_s _ _ _ | exact xup_o (by omega) (by assumption) | exact xup_o (by omega) (xup_s _ _ _) | exact xup_o (by omega) (xup_o (by omega) (by assumption)) | exact xup_o (by omega) (xup_o (by omega) (xup_s _ _ _)) | exact xup_o (by omega) (xup_o (by omega) (xup_o (by omega) (by assumption)))) (c_Mod_fail (d + 2) w1 (by intro q hq; cases hq)) (by omega) (by omega) ?_
        rintro M2 ⟨w2, f2⟩
        refine xg_goto (pc := 39) hX 46 d_Mod_variables_39 (by decide) ?_
        exact kbad M2 n s s (by omega) hs hLp w2 (f1.tr f2)
    | succ m ih =>
      intro n s M1 acc hn hs w1 f1 hLL
      obtain ⟨h0, -⟩ := id w1
      have hle := rdV_le hs
      unfold rdL at hLL
      refine xp_iload_3 (pc := 4) hX d_Mod_variables_4 ?_
      refine xn_if_eq (a := 1) (pc := 5) hX 88 d_Mod_variables_5 (by decide) (by decide) (fun z => absurd z (by decide)) (fun _ => ?_)
      refine xp_aload_0 (pc := 8) hX d_Mod_variables_8 ?_
      refine xg_get (pc := 9) hX (j := 24) k_Mod d_Mod_variables_9 l_Mod_75 (by decide) (by first | assumption | exact xup_s _ _ _ | exact xup_o (by omega) (by assumption) | exact xup_o (by omega) (xup_s _ _ _) | exact xup_o (by omega) (xup_o (by omega) (by assumption)) | exact xup_o (by omega) (xup_o (by omega) (xup_s _ _ _)) | exact xup_o (by omega) (xup_o (by omega) (xup_o (by omega) (by assumption)))) (by rfl) ?_
      refine xg_if_ge (pc := 12) hX 88 d_Mod_variables_12 (by decide) (fun z => absurd z (by decide)) (fun _ => ?_)
      refine xp_iload_2 (pc := 15) hX d_Mod_variables_15 ?_
      refine xp_iload_1 (pc := 16) hX d_Mod_variables_16 ?_
      refine xn_icmp_ne (pc := 17) hX 42 d_Mod_variables_17 (by decide) (by omega) (by omega) (fun _ => ?_) (fun z => absurd z (by omega))
      refine xp_aload_0 (pc := 42) hX d_Mod_variables_42 ?_
      refine xv_V (Y2 := Y_Mod_variable) (pc := 43) hX [] k_Mod m_Mod_variable d_Mod_variables_43 l_Mod_146 rfl rfl (by simp [Value.category]) (by first | assumption | exact xup_s _ _ _ | exact xup_o (by omega) (by assumption) | exact xup_o (by omega) (xup_s _ _ _) | exact xup_o (by omega) (xup_o (by omega) (by assumption)) | exact xup_o (by omega) (xup_o (by omega) (xup_s _ _ _)) | exact xup_o (by omega) (xup_o (by omega) (xup_o (by omega) (by assumption)))) (c_Mod_variable d w1 (by intro q hq; cases hq) hs) (by omega) (by omega) ?_
      generalize hRe : rdV x s = R at *
      rintro M2 ⟨w2, f2⟩
      by_cases c : R.2 = true
      · rw [if_pos c] at hLL
        have hwr : wrS none R = none := by unfold wrS; rw [if_pos c]
        rw [hwr] at w2
        obtain ⟨h0, -⟩ := id w2
        refine xp_inc_2 (pc := 46) hX d_Mod_variables_46 (by decide) ?_
        refine xp_aload_0 (pc := 49) hX d_Mod_variables_49 ?_
        refine xg_get (pc := 50) hX (j := 24) k_Mod d_Mod_variables_50 l_Mod_75 (by decide) (by first | assumption | exact xup_s _ _ _ | exact xup_o (by omega) (by assumption) | exact xup_o (by omega) (xup_s _ _ _) | exact xup_o (by omega) (xup_o (by omega) (by assumption)) | exact xup_o (by omega) (xup_o (by omega) (xup_s _ _ _)) | exact xup_o (by omega) (xup_o (by omega) (xup_o (by omega) (by assumption)))) (by rfl) ?_
        refine xg_if_ge (pc := 53) hX 69 d_Mod_variables_53 (by decide) (fun z => absurd z (by decide)) (fun _ => ?_)
        refine xp_aload_0 (pc := 56) hX d_Mod_variables_56 ?_
        refine xi_V (Y2 := Y_Mod_here) (pc := 57) hX [] k_Mod m_Mod_here d_Mod_variables_57 l_Mod_85 rfl rfl (by simp [Value.category]) (by first | assumption | exact xup_s _ _ _ | exact xup_o (by omega) (by assumption) | exact xup_o (by omega) (xup_s _ _ _) | exact xup_o (by omega) (xup_o (by omega) (by assumption)) | exact xup_o (by omega) (xup_o (by omega) (xup_s _ _ _)) | exact xup_o (by omega) (xup_o (by omega) (xup_o (by omega) (by assumption)))) (c_Mod_here (d + 2) w2 (by omega)) (by omega) (by omega) ?_
        rintro y M3 ⟨rfl, rfl⟩
        refine xg_bipush (pc := 60) hX (nI 32) d_Mod_variables_60 ci_bipush_32 ?_
        refine xg_icmp_ne (pc := 62) hX 69 d_Mod_variables_62 (by decide) (fun z => ?_) (fun z => ?_)
        · have hne : ¬ x[R.1]? = some 32 := fun q => z ((oI_eq (by decide)).mpr q)
          refine xg_iconst (pc := 69) hX (nI 0) d_Mod_variables_69 ci_iconst_0 ?_
          refine xp_istore_3 (pc := 70) hX d_Mod_variables_70 (by decide) ?_
          refine xp_iload_3 (pc := 71) hX d_Mod_variables_71 ?_
          refine xn_if_eq (a := 0) (pc := 72) hX 4 d_Mod_variables_72 (by decide) (by decide) (fun _ => ?_) (fun z => absurd z (by decide))
          refine xp_iload_3 (pc := 4) hX d_Mod_variables_4 ?_
          refine xn_if_eq (a := 0) (pc := 5) hX 88 d_Mod_variables_5 (by decide) (by decide) (fun _ => ?_) (fun z => absurd z (by decide))
          refine xp_aload_0 (pc := 88) hX d_Mod_variables_88 ?_
          refine xg_get (pc := 89) hX (j := 24) k_Mod d_Mod_variables_89 l_Mod_75 (by decide) (by first | assumption | exact xup_s _ _ _ | exact xup_o (by omega) (by assumption) | exact xup_o (by omega) (xup_s _ _ _) | exact xup_o (by omega) (xup_o (by omega) (by assumption)) | exact xup_o (by omega) (xup_o (by omega) (xup_s _ _ _)) | exact xup_o (by omega) (xup_o (by omega) (xup_o (by omega) (by assumption)))) (by rfl) ?_
          refine xg_if_ge (pc := 92) hX 114 d_Mod_variables_92 (by decide) (fun z => absurd z (by decide)) (fun _ => ?_)
          refine xp_aload_0 (pc := 95) hX d_Mod_variables_95 ?_
          refine xg_get (pc := 96) hX (j := 25) k_Mod d_Mod_variables_96 l_Mod_78 (by decide) (by first | assumption | exact xup_s _ _ _ | exact xup_o (by omega) (by assumption) | exact xup_o (by omega) (xup_s _ _ _) | exact xup_o (by omega) (xup_o (by omega) (by assumption)) | exact xup_o (by omega) (xup_o (by omega) (xup_s _ _ _)) | exact xup_o (by omega) (xup_o (by omega) (xup_o (by omega) (by assumption)))) (by rfl) ?_
          refine xp_aload_0 (pc := 99) hX d_Mod_variables_99 ?_
          refine xg_get (pc := 100) hX (j := 5) k_Mod d_Mod_variables_100 l_Mod_72 (by decide) (by first | assumption | exact xup_s _ _ _ | exact xup_o (by omega) (by assumption) | exact xup_o (by omega) (xup_s _ _ _) | exact xup_o (by omega) (xup_o (by omega) (by assumption)) | exact xup_o (by omega) (xup_o (by omega) (xup_s _ _ _)) | exact xup_o (by omega) (xup_o (by omega) (xup_o (by omega) (by assumption)))) (by rfl) ?_
          refine xn_icmp_ge (pc := 103) hX 114 d_Mod_variables_103 (by decide) (by omega) (by omega) (fun z1 => ?_) (fun z1 => ?_)
          · rw [if_neg (by omega)] at hLL
            refine kfin M3 (n + 1) R.1 _ (by omega) ?_ (f1.tr f2)
            rw [hLL, if_pos rfl]
            exact w2
          · rw [if_pos z1, if_neg hne] at hLL
            refine xp_aload_0 (pc := 106) hX d_Mod_variables_106 ?_
            refine xp_aload_0 (pc := 107) hX d_Mod_variables_107 ?_
            refine xg_get (pc := 108) hX (j := 25) k_Mod d_Mod_variables_108 l_Mod_78 (by decide) (by first | assumption | exact xup_s _ _ _ | exact xup_o (by omega) (by assumption) | exact xup_o (by omega) (xup_s _ _ _) | exact xup_o (by omega) (xup_o (by omega) (by assumption)) | exact xup_o (by omega) (xup_o (by omega) (xup_s _ _ _)) | exact xup_o (by omega) (xup_o (by omega) (xup_o (by omega) (by assumption)))) (by rfl) ?_
            refine xv_V (Y2 := Y_Mod_fail) (pc := 111) hX [_] k_Mod m_Mod_fail d_Mod_variables_111 l_Mod_92 rfl rfl (by simp [Value.category]) (by first | assumption | exact xup_s _ _ _ | exact xup_o (by omega) (by assumption) | exact xup_o (by omega) (xup_s _ _ _) | exact xup_o (by omega) (xup_o (by omega) (by assumption)) | exact xup_o (by omega) (xup_o (by omega) (xup_s _ _ _)) | exact xup_o (by omega) (xup_o (by omega) (xup_o (by omega) (by assumption)))) (c_Mod_fail (d + 2) w2 (by intro q hq; cases hq)) (by omega) (by omega) ?_
            rintro M4 ⟨w4, f4⟩
            refine kfin M4 (n + 1) R.1 _ (by omega) ?_ ((f1.tr f2).tr f4)
            rw [hLL, if_neg Bool.false_ne_true]
            exact w4
        · have z : x[R.1]? = some 32 := (oI_eq (by decide)).mp z
          have hlt := (List.getElem?_eq_some_iff.mp z).1
          rw [if_pos hlt, if_pos z] at hLL
          refine xg_iconst (pc := 65) hX (nI 1) d_Mod_variables_65 ci_iconst_1 ?_
          refine xg_goto (pc := 66) hX 70 d_Mod_variables_66 (by decide) ?_
          refine xp_istore_3 (pc := 70) hX d_Mod_variables_70 (by decide) ?_
          refine xp_iload_3 (pc := 71) hX d_Mod_variables_71 ?_
          refine xn_if_eq (a := 1) (pc := 72) hX 4 d_Mod_variables_72 (by decide) (by decide) (fun z => absurd z (by decide)) (fun _ => ?_)
          refine xp_aload_0 (pc := 75) hX d_Mod_variables_75 ?_
          refine xg_dup (pc := 76) hX d_Mod_variables_76 rfl ?_
          refine xg_get (pc := 77) hX (j := 25) k_Mod d_Mod_variables_77 l_Mod_78 (by decide) (by first | assumption | exact xup_s _ _ _ | exact xup_o (by omega) (by assumption) | exact xup_o (by omega) (xup_s _ _ _) | exact xup_o (by omega) (xup_o (by omega) (by assumption)) | exact xup_o (by omega) (xup_o (by omega) (xup_s _ _ _)) | exact xup_o (by omega) (xup_o (by omega) (xup_o (by omega) (by assumption)))) (by rfl) ?_
          refine xg_iconst (pc := 80) hX (nI 1) d_Mod_variables_80 ci_iconst_1 ?_
          first | refine xn_iadd (pc := 81) hX d_Mod_variables_81 ?_ | refine xg_iadd (pc := 81) hX d_Mod_variables_81 ?_
          refine xg_put (pc := 82) hX (j := 25) k_Mod d_Mod_variables_82 l_Mod_78 (by decide) rfl (by first | assumption | exact xup_s _ _ _ | exact xup_o (by omega) (by assumption) | exact xup_o (by omega) (xup_s _ _ _) | exact xup_o (by omega) (xup_o (by omega) (by assumption)) | exact xup_o (by omega) (xup_o (by omega) (xup_s _ _ _)) | exact xup_o (by omega) (xup_o (by omega) (xup_o (by omega) (by assumption)))) (Nat.le_of_ble_eq_true rfl) rfl rfl (by simp only [List.set_cons_zero, List.set_cons_succ]; exact rfl) ?_
          refine xg_goto (pc := 85) hX 4 d_Mod_variables_85 (by decide) ?_
          exact ih (n + 1) (R.1 + 1) _ _ (by omega) (by omega) w2.up ((f1.tr f2).up' _ (by omega) (by omega)) hLL
      · rw [if_neg c] at hLL
        have hwr : wrS none R = some R.1 := by unfold wrS; rw [if_neg c]; rfl
        rw [hwr] at w2
        refine kbad M2 n R.1 R.1 (by omega) (by omega) ?_ w2 (f1.tr f2)
        rw [hLL]
        show R = _
        rw [← Bool.eq_false_iff.mpr c]
  exact loop most 0 0 M [] (by omega) (by omega) h (FrO.rf _ _) hL.symm
set_option maxHeartbeats 16000000 in
set_option maxRecDepth 100000 in
theorem b_drop (d : Nat) {M : xH} {sz O : Nat} {S : xS} (h : MW M O S) (hI : InvF S) : xC (d + 5) 0 0 Y_Mod_drop [.ref O] M sz (qi sz (fun z M' => z = (sDrop S).1 ∧ MW M' O (sDrop S).2 ∧ FrO M M' O)) := by
  obtain ⟨t, out, es, dp, se, sub, fr, bg⟩ := S
  obtain ⟨hdp, x, full, fd, wr, nx, kd, fi, la, va, hw⟩ := id h
  obtain ⟨⟨hgI, -⟩, hso⟩ := hI
  refine xC_of (by decide) (Nat.le_of_ble_eq_true rfl) (by simp [Value.category]) (vs := [some (.ref O), none]) rfl (fun K hX hE => ?_)
  obtain ⟨h0, -⟩ := id hw
  have htl := hw.xl.1
  refine xp_aload_0 (pc := 0) hX d_Mod_drop_0 ?_
  refine xv_V (Y2 := Y_Mod_take) (pc := 1) hX [] k_Mod m_Mod_take d_Mod_drop_1 l_Mod_143 rfl rfl (by simp [Value.category]) (by first | assumption | exact xup_s _ _ _ | exact xup_o (by omega) (by assumption) | exact xup_o (by omega) (xup_s _ _ _) | exact xup_o (by omega) (xup_o (by omega) (by assumption)) | exact xup_o (by omega) (xup_o (by omega) (xup_s _ _ _)) | exact xup_o (by omega) (xup_o (by omega) (xup_o (by omega) (by assumption)))) (c_Mod_take (d + 4) hw) (by omega) (by omega) ?_
  rintro M1 ⟨w1, f1⟩
  obtain ⟨h0, -⟩ := id w1
  refine xp_aload_0 (pc := 4) hX d_Mod_drop_4 ?_
  refine xg_sipush (pc := 5) hX (nI 1000) d_Mod_drop_5 ci_sipush_1000 ?_
  refine xi_V (Y2 := Y_Mod_variables) (pc := 8) hX [_] k_Mod m_Mod_variables d_Mod_drop_8 l_Mod_163 rfl rfl (by simp [Value.category]) (by first | assumption | exact xup_s _ _ _ | exact xup_o (by omega) (by assumption) | exact xup_o (by omega) (xup_s _ _ _) | exact xup_o (by omega) (xup_o (by omega) (by assumption)) | exact xup_o (by omega) (xup_o (by omega) (xup_s _ _ _)) | exact xup_o (by omega) (xup_o (by omega) (xup_o (by omega) (by assumption)))) (c_Mod_variables (d + 1) w1 (by omega)) (by omega) (by omega) ?_
  rintro y M2 ⟨⟨nx2, w2⟩, f2⟩
  have hfu : rdL t 1000 0 [] = rdL t 600 0 [] := rdL_fuel 1000 600 0 [] (by omega) (by omega) (by omega)
  rw [hfu] at w2
  have hbd := rdL_bd (t := t) 600 0 [] (by omega)
  have hok := (rdL_ok (t := t) 600 0 [] (fun e he => absurd he List.not_mem_nil)).1
  have hwc := rdL_wc (x := t) 600 0 []
  have hbad : (rdL t 600 0 []).1.2 = false → (sDrop (t, out, es, dp, se, sub, fr, bg)) = (aI (some (rdL t 600 0 []).1.1), ([], out, es, dp, se, sub, fr, bg)) := by
    intro hb
    unfold sDrop
    dsimp only
    unfold rdM
    by_cases ht : t.length = 0
    · have ht0 := List.eq_nil_of_length_eq_zero ht
      subst ht0
      rfl
    · rw [if_neg ht, if_neg (by rw [hb]; decide)]
  have hgood : (rdL t 600 0 []).1.2 = true → ∀ T, (rdL t 600 0 []).2 = T → WC t 0 T → (sDrop (t, out, es, dp, se, sub, fr, bg)) = (if (drpL se (dp - 1) t T es).1 = nI 0 then nI (drpL se (dp - 1) t T es).2.length else (drpL se (dp - 1) t T es).1, ([], out, (drpL se (dp - 1) t T es).2, dp, se, sub, fr, bg)) := by
    intro hg T hT hw
    unfold sDrop
    dsimp only
    cases T with
    | nil => exact absurd (show t.length < 0 from hw) (by omega)
    | cons k r =>
      have := rdV_ok hw.2.1
      have hM : rdM t 600 = rdL t 600 0 [] := by unfold rdM; rw [if_neg (by omega)]
      rw [hM, if_pos hg, hT, if_neg (by simp)]
  generalize rdL t 600 0 [] = L at *
  obtain ⟨h0, -⟩ := id w2
  refine xg_pop (pc := 11) hX d_Mod_drop_11 rfl ?_
  refine xp_aload_0 (pc := 12) hX d_Mod_drop_12 ?_
  refine xg_get (pc := 13) hX (j := 24) k_Mod d_Mod_drop_13 l_Mod_75 (by decide) (by first | assumption | exact xup_s _ _ _ | exact xup_o (by omega) (by assumption) | exact xup_o (by omega) (xup_s _ _ _) | exact xup_o (by omega) (xup_o (by omega) (by assumption)) | exact xup_o (by omega) (xup_o (by omega) (xup_s _ _ _)) | exact xup_o (by omega) (xup_o (by omega) (xup_o (by omega) (by assumption)))) (by rfl) ?_
  by_cases c : L.1.2 = true
  · rw [if_pos c] at w2 h0 ⊢
    obtain ⟨T, hT, hWC⟩ := hwc c
    rw [List.nil_append] at hT
    have hS := hgood c T hT hWC
    rw [hT] at hok
    refine xg_if_lt (pc := 16) hX 28 d_Mod_drop_16 (by decide) (fun _ => ?_) (fun z => absurd (by decide) z)
    refine xg_iconst (pc := 28) hX (nI 0) d_Mod_drop_28 ci_iconst_0 ?_
    refine xp_istore_1 (pc := 29) hX d_Mod_drop_29 (by decide) ?_
    have loop : ∀ (T1 : List xTk) (a : Nat) (M3 : xH) (es1 : List xEn) (f : List UInt8), WC t a T1 → tkOK t T1 → gI es1 → Wd M3 O [] t out f es1 (dp - 1) se sub fd fr bg none nx2 kd fi la va → FrO M M3 O → drpL se (dp - 1) t T es = drpL se (dp - 1) t T1 es1 → a < 2000 → xG K 30 [some (.ref O), some (.int (nI a))] [] M3 sz 0 0 := by
      intro T1
      induction T1 with
      | nil =>
        intro a M3 es1 f hWC1 _ _ w3 f3 hd ha
        have hWC1 : t.length < a := hWC1
        have hd2 : drpL se (dp - 1) t T es = (nI 0, es1) := hd
        rw [hd2, if_pos rfl] at hS
        rw [hS] at hE
        obtain ⟨h0, -⟩ := id w3
        refine xp_iload_1 (pc := 30) hX d_Mod_drop_30 ?_
        refine xp_aload_0 (pc := 31) hX d_Mod_drop_31 ?_
        refine xg_get (pc := 32) hX (j := 5) k_Mod d_Mod_drop_32 l_Mod_72 (by decide) (by first | assumption | exact xup_s _ _ _ | exact xup_o (by omega) (by assumption) | exact xup_o (by omega) (xup_s _ _ _) | exact xup_o (by omega) (xup_o (by omega) (by assumption)) | exact xup_o (by omega) (xup_o (by omega) (xup_s _ _ _)) | exact xup_o (by omega) (xup_o (by omega) (xup_o (by omega) (by assumption)))) (by rfl) ?_
        refine xn_icmp_ge (pc := 35) hX 75 d_Mod_drop_35 (by decide) (by omega) (by omega) (fun _ => ?_) (fun z => absurd z (by omega))
        refine xp_aload_0 (pc := 75) hX d_Mod_drop_75 ?_
        refine xg_get (pc := 76) hX (j := 13) k_Mod d_Mod_drop_76 l_Mod_105 (by decide) (by first | assumption | exact xup_s _ _ _ | exact xup_o (by omega) (by assumption) | exact xup_o (by omega) (xup_s _ _ _) | exact xup_o (by omega) (xup_o (by omega) (by assumption)) | exact xup_o (by omega) (xup_o (by omega) (xup_s _ _ _)) | exact xup_o (by omega) (xup_o (by omega) (xup_o (by omega) (by assumption)))) (by rfl) ?_
        refine xg_iret (pc := 79) hX hE d_Mod_drop_79 rfl rfl (by omega) (by omega) ?_
        exact ⟨rfl, _, rfl, rfl, ⟨hdp, _, _, _, _, _, _, _, _, _, w3⟩, f3⟩
      | cons k r ih =>
        intro a M3 es1 f hWC1 hok1 hg1 w3 f3 hd ha
        obtain ⟨hk, hv, hor, hWC2⟩ := hWC1
        have hwe := wEnd hv hor
        have hvk := rdV_ok hv
        generalize (rdV t a).1 = e at *
        subst hk
        obtain ⟨h0, -⟩ := id w3
        have hnz := FN_pos (es := es1) (se := se) (ip := dp - 1) (t := t) hvk.1 hvk.2.1
        have hd2 : drpL se (dp - 1) t T es = (if (FN es1 se (dp - 1) t a e).length ≤ 200 then (match dropE es1 se (own se (FN es1 se (dp - 1) t a e) (dp - 1)) (FN es1 se (dp - 1) t a e) with | some es2 => drpL se (dp - 1) t r es2 | none => (-4, clE es1 (own se (FN es1 se (dp - 1) t a e) (dp - 1)) (FN es1 se (dp - 1) t a e))) else (-2, es1)) := by rw [hd]; rfl
        refine xp_iload_1 (pc := 30) hX d_Mod_drop_30 ?_
        refine xp_aload_0 (pc := 31) hX d_Mod_drop_31 ?_
        refine xg_get (pc := 32) hX (j := 5) k_Mod d_Mod_drop_32 l_Mod_72 (by decide) (by first | assumption | exact xup_s _ _ _ | exact xup_o (by omega) (by assumption) | exact xup_o (by omega) (xup_s _ _ _) | exact xup_o (by omega) (xup_o (by omega) (by assumption)) | exact xup_o (by omega) (xup_o (by omega) (xup_s _ _ _)) | exact xup_o (by omega) (xup_o (by omega) (xup_o (by omega) (by assumption)))) (by rfl) ?_
        refine xn_icmp_ge (pc := 35) hX 75 d_Mod_drop_35 (by decide) (by omega) (by omega) (fun z => absurd z (by omega)) (fun _ => ?_)
        refine xp_aload_0 (pc := 38) hX d_Mod_drop_38 ?_
        refine xp_iload_1 (pc := 39) hX d_Mod_drop_39 ?_
        refine xp_aload_0 (pc := 40) hX d_Mod_drop_40 ?_
        refine xp_iload_1 (pc := 41) hX d_Mod_drop_41 ?_
        refine xi_V (Y2 := Y_Mod_wordEnd) (pc := 42) hX [_] k_Mod m_Mod_wordEnd d_Mod_drop_42 l_Mod_166 rfl rfl (by simp [Value.category]) (by first | assumption | exact xup_s _ _ _ | exact xup_o (by omega) (by assumption) | exact xup_o (by omega) (xup_s _ _ _) | exact xup_o (by omega) (xup_o (by omega) (by assumption)) | exact xup_o (by omega) (xup_o (by omega) (xup_s _ _ _)) | exact xup_o (by omega) (xup_o (by omega) (xup_o (by omega) (by assumption)))) (c_Mod_wordEnd (d + 4) w3 (by omega)) (by omega) (by omega) ?_
        rintro y M4 ⟨rfl, rfl⟩
        rw [hwe]
        refine xi_V (Y2 := Y_Mod_nameOf) (pc := 45) hX [_, _] k_Mod m_Mod_nameOf d_Mod_drop_45 l_Mod_149 rfl rfl (by simp [Value.category]) (by first | assumption | exact xup_s _ _ _ | exact xup_o (by omega) (by assumption) | exact xup_o (by omega) (xup_s _ _ _) | exact xup_o (by omega) (xup_o (by omega) (by assumption)) | exact xup_o (by omega) (xup_o (by omega) (xup_s _ _ _)) | exact xup_o (by omega) (xup_o (by omega) (xup_o (by omega) (by assumption)))) (c_Mod_nameOf d w3 hso hg1 hvk.1 hvk.2.1 hvk.2.2) (by omega) (by omega) ?_
        generalize FN es1 se (dp - 1) t a e = nm at *
        rintro y M5 ⟨hc, f5⟩
        rcases hc with ⟨c1, rfl, w5⟩ | ⟨c1, rfl, f', w5⟩
        · rw [if_pos c1] at hd2
          refine xn_if_ne (a := 1) (pc := 48) hX 54 d_Mod_drop_48 (by decide) (by decide) (fun _ => ?_) (fun z => absurd z (by decide))
          obtain ⟨h0, -⟩ := id w5
          refine xp_aload_0 (pc := 54) hX d_Mod_drop_54 ?_
          refine xi_V (Y2 := Y_Mod_lose) (pc := 55) hX [] k_Mod m_Mod_lose d_Mod_drop_55 l_Mod_169 rfl rfl (by simp [Value.category]) (by first | assumption | exact xup_s _ _ _ | exact xup_o (by omega) (by assumption) | exact xup_o (by omega) (xup_s _ _ _) | exact xup_o (by omega) (xup_o (by omega) (by assumption)) | exact xup_o (by omega) (xup_o (by omega) (xup_s _ _ _)) | exact xup_o (by omega) (xup_o (by omega) (xup_o (by omega) (by assumption)))) (c_Mod_lose (d + 2) w5 hso hg1 hnz c1) (by omega) (by omega) ?_
          rintro y M6 ⟨hc, f6⟩
          have fe : FrO M M6 O := (f3.tr f5).tr f6
          rcases hc with ⟨es2, e1, rfl, w6⟩ | ⟨e1, rfl, w6⟩
          · rw [e1] at hd2
            refine xn_if_ne (a := 1) (pc := 58) hX 64 d_Mod_drop_58 (by decide) (by decide) (fun _ => ?_) (fun z => absurd z (by decide))
            obtain ⟨h0, -⟩ := id w6
            refine xp_aload_0 (pc := 64) hX d_Mod_drop_64 ?_
            refine xp_iload_1 (pc := 65) hX d_Mod_drop_65 ?_
            refine xi_V (Y2 := Y_Mod_wordEnd) (pc := 66) hX [_] k_Mod m_Mod_wordEnd d_Mod_drop_66 l_Mod_166 rfl rfl (by simp [Value.category]) (by first | assumption | exact xup_s _ _ _ | exact xup_o (by omega) (by assumption) | exact xup_o (by omega) (xup_s _ _ _) | exact xup_o (by omega) (xup_o (by omega) (by assumption)) | exact xup_o (by omega) (xup_o (by omega) (xup_s _ _ _)) | exact xup_o (by omega) (xup_o (by omega) (xup_o (by omega) (by assumption)))) (c_Mod_wordEnd (d + 4) w6 (by omega)) (by omega) (by omega) ?_
            rintro y M7 ⟨rfl, rfl⟩
            rw [hwe]
            refine xg_iconst (pc := 69) hX (nI 1) d_Mod_drop_69 ci_iconst_1 ?_
            first | refine xn_iadd (pc := 70) hX d_Mod_drop_70 ?_ | refine xg_iadd (pc := 70) hX d_Mod_drop_70 ?_
            refine xp_istore_1 (pc := 71) hX d_Mod_drop_71 (by decide) ?_
            refine xg_goto (pc := 72) hX 30 d_Mod_drop_72 (by decide) ?_
            exact ih (e + 1) M7 es2 nm hWC2 (fun q hq => hok1 q (List.mem_cons_of_mem _ hq)) (gI_dropE hg1 e1) w6 fe hd2 (by omega)
          · rw [e1] at hd2
            dsimp only at hd2
            rw [hd2] at hS
            dsimp only at hS
            rw [if_neg (by decide)] at hS
            rw [hS] at hE
            refine xn_if_ne (a := 0) (pc := 58) hX 64 d_Mod_drop_58 (by decide) (by decide) (fun z => absurd z (by decide)) (fun _ => ?_)
            refine xg_bipush (pc := 61) hX (-4) d_Mod_drop_61 ci_bipush_m4 ?_
            refine xg_iret (pc := 63) hX hE d_Mod_drop_63 rfl rfl (by omega) (by omega) ?_
            exact ⟨rfl, _, rfl, rfl, ⟨hdp, _, _, _, _, _, _, _, _, _, w6⟩, fe⟩
        · rw [if_neg (by omega)] at hd2
          rw [hd2] at hS
          dsimp only at hS
          rw [if_neg (by decide)] at hS
          rw [hS] at hE
          refine xn_if_ne (a := 0) (pc := 48) hX 54 d_Mod_drop_48 (by decide) (by decide) (fun z => absurd z (by decide)) (fun _ => ?_)
          refine xg_bipush (pc := 51) hX (-2) d_Mod_drop_51 ci_bipush_m2 ?_
          refine xg_iret (pc := 53) hX hE d_Mod_drop_53 rfl rfl (by omega) (by omega) ?_
          exact ⟨rfl, _, rfl, rfl, ⟨hdp, _, _, _, _, _, _, _, _, _, w5⟩, f3.tr f5⟩
    exact loop T 0 M2 es full hWC hok hgI w2 (f1.tr f2) rfl (by omega)
  · rw [if_neg c] at w2 h0 ⊢
    have hS := hbad (Bool.eq_false_iff.mpr c)
    rw [hS] at hE
    refine xn_if_lt (a := L.1.1) (pc := 16) hX 28 d_Mod_drop_16 (by decide) (by omega) ?_
    refine xg_sipush (pc := 19) hX (-1000) d_Mod_drop_19 ci_sipush_m1000 ?_
    refine xp_aload_0 (pc := 22) hX d_Mod_drop_22 ?_
    refine xg_get (pc := 23) hX (j := 24) k_Mod d_Mod_drop_23 l_Mod_75 (by decide) (by first | assumption | exact xup_s _ _ _ | exact xup_o (by omega) (by assumption) | exact xup_o (by omega) (xup_s _ _ _) | exact xup_o (by omega) (xup_o (by omega) (by assumption)) | exact xup_o (by omega) (xup_o (by omega) (xup_s _ _ _)) | exact xup_o (by omega) (xup_o (by omega) (xup_o (by omega) (by assumption)))) (by rfl) ?_
    refine xg_isub (pc := 26) hX d_Mod_drop_26 ?_
    refine xg_iret (pc := 27) hX hE d_Mod_drop_27 rfl rfl (by omega) (by omega) ?_
    exact ⟨rfl, _, rfl, rfl, ⟨hdp, _, _, _, _, _, _, _, _, _, w2⟩, f1.tr f2⟩
end XM14
