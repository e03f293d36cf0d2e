/-! NameRoom$Reader: whole texts -/
/-- reading a template: where it is WRONG (false), its tokens -/
def toks (t : List UInt8) : Nat → Nat → List xTk → (Nat × Bool) × List xTk
  | 0, s, acc => ((s, true), acc)
  | n + 1, s, acc => if s < t.length then (if (tok1 t s).1.2 then toks t n (tok1 t s).1.1 (acc ++ (tok1 t s).2.toList) else ((tok1 t s).1, acc)) else ((s, true), acc)
theorem rdS_in {t : List UInt8} {q : UInt8} {s : Nat} : ∀ (n i held : Nat), s < i → s < (rdS t q s n i held).1 ∨ (rdS t q s n i held).2 = false
  | 0, _, _, _ => Or.inr rfl
  | n + 1, i, held, h => by
    unfold rdS
    split
    · exact Or.inr rfl
    · split
      · exact Or.inl h
      · split
        · exact Or.inr rfl
        · exact rdS_in n _ _ (by split <;> omega)
theorem rdS_lt {t : List UInt8} {q : UInt8} {s : Nat} (hs : s < t.length) : ∀ (n i held : Nat), (rdS t q s n i held).1 < t.length
  | 0, _, _ => hs
  | n + 1, i, held => by
    unfold rdS
    split
    · exact hs
    · rename_i b hb
      have := (List.getElem?_eq_some_iff.mp hb).1
      split
      · exact this
      · split
        · exact this
        · exact rdS_lt hs n _ _
theorem tok1_le {t : List UInt8} {s : Nat} (hs : s < t.length) : (tok1 t s).1.1 ≤ t.length ∧ ((tok1 t s).1.2 = true → s < (tok1 t s).1.1) := by
  have hb : t[s]? = some t[s] := List.getElem?_eq_getElem hs
  have hV := rdV_le (t := t) (s := s) (by omega)
  have hP := rdP_le (t := t) (s := s) (by omega)
  have hA := sc_le (P := bl) (bs := t) (a := s + 1) (b := t.length) (by omega) (by omega)
  have hPA := rdP_le (t := t) (s := sc bl t (s + 1) t.length) (by omega)
  unfold tok1
  rw [hb]
  generalize t[s] = b at hb
  dsimp only
  split
  · exact ⟨hs, fun _ => Nat.lt_succ_self _⟩
  · split
    · have h1 := rdS_lt (q := b) hs (t.length - s) (s + 1) 0
      have h2 := rdS_in (t := t) (q := b) (s := s) (t.length - s) (s + 1) 0 (by (try dsimp only); omega)
      split
      · dsimp only
        rename_i z
        rcases h2 with h2 | h2
        · exact ⟨by (try dsimp only); omega, fun _ => by (try dsimp only); omega⟩
        · rw [h2] at z
          exact absurd z (by decide)
      · rename_i z
        dsimp only
        exact ⟨by (try dsimp only); omega, fun q => absurd q z⟩
    · split
      · have hVA := rdV_le (t := t) (s := sc bl t (s + 1) t.length) (by (try dsimp only); omega)
        have hB := sc_le (P := bl) (bs := t) (a := (rdV t (sc bl t (s + 1) t.length)).1) (b := t.length) (by (try dsimp only); omega) (by (try dsimp only); omega)
        have h3 : (rdB t s).1.1 ≤ t.length ∧ ((rdB t s).1.2 = true → s < (rdB t s).1.1) := by
          unfold rdB
          dsimp only
          split
          · split
            · rename_i z
              have := (List.getElem?_eq_some_iff.mp z).1
              dsimp only
              exact ⟨by (try dsimp only); omega, fun _ => by (try dsimp only); omega⟩
            · dsimp only
              exact ⟨by (try dsimp only); omega, fun q => absurd q (by decide)⟩
          · exact ⟨by (try dsimp only); omega, fun _ => by (try dsimp only); omega⟩
        split
        · exact h3
        · exact h3
      · split
        · split
          · exact ⟨by (try dsimp only); omega, fun _ => by (try dsimp only); omega⟩
          · exact ⟨by (try dsimp only); omega, fun _ => by (try dsimp only); omega⟩
        · split
          · split
            · rename_i z
              refine ⟨by (try dsimp only); omega, fun _ => ?_⟩
              unfold rdP at z ⊢
              dsimp only at z ⊢
              have h4 := sc_le (P := dig) (bs := t) (a := s) (b := min (s + 4) t.length) (by (try dsimp only); omega) (by (try dsimp only); omega)
              simp at z
              omega
            · rename_i z
              exact ⟨by (try dsimp only); omega, fun q => absurd q z⟩
          · split
            · exact ⟨hs, fun _ => by (try dsimp only); omega⟩
            · split
              · rename_i z
                refine ⟨by (try dsimp only); omega, fun _ => ?_⟩
                unfold rdV at z ⊢
                by_cases hv : vOK t[s]? = true
                · rw [if_pos hv] at z ⊢
                  dsimp only at z ⊢
                  have h5 : sym t[s] = true := by
                    unfold vOK at hv
                    rw [List.getElem?_eq_getElem hs] at hv
                    simp at hv
                    exact hv.1.1
                  rw [sc_miss (by (try dsimp only); omega) (by (try dsimp only); omega) h5]
                  have h4 := sc_le (P := sym) (bs := t) (a := s + 1) (b := min (s + 30) t.length) (by (try dsimp only); omega) (by (try dsimp only); omega)
                  omega
                · rw [if_neg hv] at z
                  exact absurd (show false = true from z) (by decide)
              · rename_i z
                exact ⟨by (try dsimp only); omega, fun q => absurd q z⟩
theorem toks_stop {t : List UInt8} {n s : Nat} {acc : List xTk} (h : t.length ≤ s) : toks t n s acc = ((s, true), acc) := by
  cases n with
  | zero => rfl
  | succ n => unfold toks; rw [if_neg (by omega)]
set_option maxHeartbeats 4000000 in
set_option maxRecDepth 100000 in
theorem c_Rea_readTemplate (d : Nat) {M : xH} {sz h tg pos : Nat} {t : List UInt8} {tk : List xTk} {ans : Option Nat} (hs : ReA M h t tk tg pos ans) : xC (d + 5) 0 0 Y_Rea_readTemplate [.ref h] M sz (qi sz (fun y M' => (((toks t 600 0 []).1.2 = true ∧ y = nI 0 ∧ ∃ pos', ReA M' h t (toks t 600 0 []).2 ((toks t 600 0 []).2.filter (fun e => isTg e.1)).length pos' none) ∨ ((toks t 600 0 []).1.2 = false ∧ y = aI (some (toks t 600 0 []).1.1) ∧ ∃ tk' tg' pos', ReA M' h t tk' tg' pos' (some (toks t 600 0 []).1.1))) ∧ FrA M M' h)) := by
  refine xC_of (by decide) (Nat.le_of_ble_eq_true rfl) (by simp [Value.category]) (vs := [some (.ref h), none]) rfl (fun K hX hE => ?_)
  have hl : t.length ≤ 600 := hs.2.1.2.1
  obtain ⟨h1, -⟩ := id hs
  generalize hR : toks t 600 0 [] = R at *
  have k44 : ∀ (vs : List (Option Value)) (M1 : xH) (tk : List xTk) (tg pos : Nat) (ans : Option Nat), ReA M1 h t tk tg pos ans → FrA M M1 h → ((R.1.2 = true ∧ ans = none ∧ R.2 = tk ∧ tg = (tk.filter (fun e => isTg e.1)).length) ∨ (R.1.2 = false ∧ ans = some R.1.1)) → xG K 44 (some (.ref h) :: vs) [] M1 sz 0 0 := by
    intro vs M1 tk tg pos ans hs1 hf hc
    obtain ⟨h1, -⟩ := id hs1
    refine xp_aload_0 (pc := 44) hX d_Rea_readTemplate_44 ?_
    refine xg_get (pc := 45) hX (j := 7) k_Rea d_Rea_readTemplate_45 l_Rea_40 (by decide) (by first | assumption | exact xup_s _ _ _ | exact xup_o (by omega) (by assumption) | exact xup_o (by omega) (xup_s _ _ _) | exact xup_o (by omega) (xup_o (by omega) (by assumption)) | exact xup_o (by omega) (xup_o (by omega) (xup_s _ _ _)) | exact xup_o (by omega) (xup_o (by omega) (xup_o (by omega) (by assumption)))) (by rfl) ?_
    refine xg_iret (pc := 48) hX hE d_Rea_readTemplate_48 rfl rfl (by omega) (by omega) ?_
    refine ⟨rfl, _, rfl, ?_, hf⟩
    rcases hc with ⟨c1, rfl, rfl, rfl⟩ | ⟨c1, rfl⟩
    · exact Or.inl ⟨c1, rfl, pos, hs1⟩
    · exact Or.inr ⟨c1, rfl, tk, tg, pos, hs1⟩
  have loop : ∀ (n i pos : Nat) (tk : List xTk) (M1 : xH), i + n = 600 → i ≤ pos → pos ≤ t.length → tk.length ≤ i → R = toks t n pos tk → ReA M1 h t tk (tk.filter (fun e => isTg e.1)).length pos none → FrA M M1 h → xG K 6 [some (.ref h), some (.int (nI i))] [] M1 sz 0 0 := by
    intro n
    induction n with
    | zero =>
      intro i pos tk M1 hi hip hp htk hr hs1 hf
      refine xp_iload_1 (pc := 6) hX d_Rea_readTemplate_6 ?_
      refine xg_sipush (pc := 7) hX (nI 600) d_Rea_readTemplate_7 ci_sipush_600 ?_
      refine xn_icmp_ge (pc := 10) hX 44 d_Rea_readTemplate_10 (by decide) (by omega) (by omega) (fun _ => ?_) (fun z => absurd z (by omega))
      refine k44 _ M1 tk _ pos none hs1 hf (Or.inl ?_)
      have : R = ((pos, true), tk) := hr
      rw [this]
      exact ⟨rfl, rfl, rfl, rfl⟩
    | succ n ih =>
      intro i pos tk M1 hi hip hp htk hr hs1 hf
      obtain ⟨h1, h2, -⟩ := id hs1
      obtain ⟨r1, -⟩ := id h2
      refine xp_iload_1 (pc := 6) hX d_Rea_readTemplate_6 ?_
      refine xg_sipush (pc := 7) hX (nI 600) d_Rea_readTemplate_7 ci_sipush_600 ?_
      refine xn_icmp_ge (pc := 10) hX 44 d_Rea_readTemplate_10 (by decide) (by omega) (by omega) (fun z => absurd z (by omega)) (fun _ => ?_)
      refine xp_aload_0 (pc := 13) hX d_Rea_readTemplate_13 ?_
      refine xg_get (pc := 14) hX (j := 6) k_Rea d_Rea_readTemplate_14 l_Rea_37 (by decide) (by first | assumption | exact xup_s _ _ _ | exact xup_o (by omega) (by assumption) | exact xup_o (by omega) (xup_s _ _ _) | exact xup_o (by omega) (xup_o (by omega) (by assumption)) | exact xup_o (by omega) (xup_o (by omega) (xup_s _ _ _)) | exact xup_o (by omega) (xup_o (by omega) (xup_o (by omega) (by assumption)))) (by rfl) ?_
      refine xp_aload_0 (pc := 17) hX d_Rea_readTemplate_17 ?_
      refine xg_get (pc := 18) hX (j := 0) k_Rea d_Rea_readTemplate_18 l_Rea_14 (by decide) (by first | assumption | exact xup_s _ _ _ | exact xup_o (by omega) (by assumption) | exact xup_o (by omega) (xup_s _ _ _) | exact xup_o (by omega) (xup_o (by omega) (by assumption)) | exact xup_o (by omega) (xup_o (by omega) (xup_s _ _ _)) | exact xup_o (by omega) (xup_o (by omega) (xup_o (by omega) (by assumption)))) (by rfl) ?_
      refine xg_get (pc := 21) hX (j := 1) k_Row d_Rea_readTemplate_21 l_Rea_68 (by decide) (by first | assumption | exact xup_s _ _ _ | exact xup_o (by omega) (by assumption) | exact xup_o (by omega) (xup_s _ _ _) | exact xup_o (by omega) (xup_o (by omega) (by assumption)) | exact xup_o (by omega) (xup_o (by omega) (xup_s _ _ _)) | exact xup_o (by omega) (xup_o (by omega) (xup_o (by omega) (by assumption)))) (by rfl) ?_
      refine xn_icmp_ge (pc := 24) hX 44 d_Rea_readTemplate_24 (by decide) (by omega) (by omega) (fun z => ?_) (fun z => ?_)
      · refine k44 _ M1 tk _ pos none hs1 hf (Or.inl ?_)
        rw [toks_stop z] at hr
        rw [hr]
        exact ⟨rfl, rfl, rfl, rfl⟩
      · refine xp_aload_0 (pc := 27) hX d_Rea_readTemplate_27 ?_
        refine xg_get (pc := 28) hX (j := 7) k_Rea d_Rea_readTemplate_28 l_Rea_40 (by decide) (by first | assumption | exact xup_s _ _ _ | exact xup_o (by omega) (by assumption) | exact xup_o (by omega) (xup_s _ _ _) | exact xup_o (by omega) (xup_o (by omega) (by assumption)) | exact xup_o (by omega) (xup_o (by omega) (xup_s _ _ _)) | exact xup_o (by omega) (xup_o (by omega) (xup_o (by omega) (by assumption)))) (by rfl) ?_
        refine xn_if_ne (pc := 31) hX 44 d_Rea_readTemplate_31 (by decide) (by decide) (fun w => absurd w (by decide)) (fun _ => ?_)
        have hft : (tk.filter (fun e => isTg e.1)).length ≤ tk.length := List.length_filter_le _ _
        have htl := tok1_le (t := t) z
        have hr2 : R = if (tok1 t pos).1.2 then toks t n (tok1 t pos).1.1 (tk ++ (tok1 t pos).2.toList) else ((tok1 t pos).1, tk) := by
          rw [hr]
          show (if pos < t.length then _ else _) = _
          rw [if_pos z]
        refine xp_aload_0 (pc := 34) hX d_Rea_readTemplate_34 ?_
        refine xv_V (Y2 := Y_Rea_readToken) (pc := 35) hX [] k_Rea m_Rea_readToken d_Rea_readTemplate_35 l_Rea_74 rfl rfl (by simp [Value.category]) (by first | assumption | exact xup_s _ _ _ | exact xup_o (by omega) (by assumption) | exact xup_o (by omega) (xup_s _ _ _) | exact xup_o (by omega) (xup_o (by omega) (by assumption)) | exact xup_o (by omega) (xup_o (by omega) (xup_s _ _ _)) | exact xup_o (by omega) (xup_o (by omega) (xup_o (by omega) (by assumption)))) (c_Rea_readToken d hs1 z (by omega) (by omega)) (by omega) (by omega) ?_
        rintro M2 ⟨a1, a2⟩
        generalize tok1 t pos = Q at *
        refine xp_inc_1 (pc := 38) hX d_Rea_readTemplate_38 (by decide) ?_
        refine xg_goto (pc := 41) hX 6 d_Rea_readTemplate_41 (by decide) ?_
        rcases a1 with ⟨b1, b2⟩ | ⟨b1, tk', tg', p', b2⟩
        · rw [if_pos b1] at hr2
          have hlt := htl.2 b1
          refine ih (i + 1) Q.1.1 (tk ++ Q.2.toList) M2 (by omega) (by omega) htl.1 ?_ hr2 ?_ (hf.tr a2)
          · rw [List.length_append]
            have : Q.2.toList.length ≤ 1 := by cases Q.2 <;> simp
            omega
          · rw [List.filter_append, List.length_append]
            exact b2
        · rw [if_neg (by rw [b1]; decide)] at hr2
          obtain ⟨g1, g2, -⟩ := id b2
          obtain ⟨s1, -⟩ := id g2
          have hd : aI (some Q.1.1) ≠ 0 := aI_some (by omega)
          have k6 : ∀ vs : List (Option Value), xG K 44 (some (.ref h) :: vs) [] M2 sz 0 0 := fun vs => k44 vs M2 tk' tg' p' (some Q.1.1) b2 (hf.tr a2) (Or.inr ⟨by rw [hr2]; exact b1, by rw [hr2]⟩)
          refine xp_iload_1 (pc := 6) hX d_Rea_readTemplate_6 ?_
          refine xg_sipush (pc := 7) hX (nI 600) d_Rea_readTemplate_7 ci_sipush_600 ?_
          refine xn_icmp_ge (pc := 10) hX 44 d_Rea_readTemplate_10 (by decide) (by omega) (by omega) (fun _ => k6 _) (fun _ => ?_)
          refine xp_aload_0 (pc := 13) hX d_Rea_readTemplate_13 ?_
          refine xg_get (pc := 14) hX (j := 6) k_Rea d_Rea_readTemplate_14 l_Rea_37 (by decide) (by first | assumption | exact xup_s _ _ _ | exact xup_o (by omega) (by assumption) | exact xup_o (by omega) (xup_s _ _ _) | exact xup_o (by omega) (xup_o (by omega) (by assumption)) | exact xup_o (by omega) (xup_o (by omega) (xup_s _ _ _)) | exact xup_o (by omega) (xup_o (by omega) (xup_o (by omega) (by assumption)))) (by rfl) ?_
          refine xp_aload_0 (pc := 17) hX d_Rea_readTemplate_17 ?_
          refine xg_get (pc := 18) hX (j := 0) k_Rea d_Rea_readTemplate_18 l_Rea_14 (by decide) (by first | assumption | exact xup_s _ _ _ | exact xup_o (by omega) (by assumption) | exact xup_o (by omega) (xup_s _ _ _) | exact xup_o (by omega) (xup_o (by omega) (by assumption)) | exact xup_o (by omega) (xup_o (by omega) (xup_s _ _ _)) | exact xup_o (by omega) (xup_o (by omega) (xup_o (by omega) (by assumption)))) (by rfl) ?_
          refine xg_get (pc := 21) hX (j := 1) k_Row d_Rea_readTemplate_21 l_Rea_68 (by decide) (by first | assumption | exact xup_s _ _ _ | exact xup_o (by omega) (by assumption) | exact xup_o (by omega) (xup_s _ _ _) | exact xup_o (by omega) (xup_o (by omega) (by assumption)) | exact xup_o (by omega) (xup_o (by omega) (xup_s _ _ _)) | exact xup_o (by omega) (xup_o (by omega) (xup_o (by omega) (by assumption)))) (by rfl) ?_
          have g5 : p' ≤ 700 := b2.2.2.2.2.1
          refine xn_icmp_ge (pc := 24) hX 44 d_Rea_readTemplate_24 (by decide) (by omega) (by omega) (fun _ => k6 _) (fun _ => ?_)
          refine xp_aload_0 (pc := 27) hX d_Rea_readTemplate_27 ?_
          refine xg_get (pc := 28) hX (j := 7) k_Rea d_Rea_readTemplate_28 l_Rea_40 (by decide) (by first | assumption | exact xup_s _ _ _ | exact xup_o (by omega) (by assumption) | exact xup_o (by omega) (xup_s _ _ _) | exact xup_o (by omega) (xup_o (by omega) (by assumption)) | exact xup_o (by omega) (xup_o (by omega) (xup_s _ _ _)) | exact xup_o (by omega) (xup_o (by omega) (xup_o (by omega) (by assumption)))) (by rfl) ?_
          refine xg_if_ne (pc := 31) hX 44 d_Rea_readTemplate_31 (by decide) (fun _ => k6 _) (fun w => absurd w hd)
  refine xp_aload_0 (pc := 0) hX d_Rea_readTemplate_0 ?_
  refine xv_V (Y2 := Y_Rea_begin) (pc := 1) hX [] k_Rea m_Rea_begin d_Rea_readTemplate_1 l_Rea_62 rfl rfl (by simp [Value.category]) (by first | assumption | exact xup_s _ _ _ | exact xup_o (by omega) (by assumption) | exact xup_o (by omega) (xup_s _ _ _) | exact xup_o (by omega) (xup_o (by omega) (by assumption)) | exact xup_o (by omega) (xup_o (by omega) (xup_s _ _ _)) | exact xup_o (by omega) (xup_o (by omega) (xup_o (by omega) (by assumption)))) (c_Rea_begin (d + 4) hs) (by omega) (by omega) ?_
  rintro M2 ⟨a1, a2⟩
  refine xg_iconst (pc := 4) hX (nI 0) d_Rea_readTemplate_4 ci_iconst_0 ?_
  refine xp_istore_1 (pc := 5) hX d_Rea_readTemplate_5 (by decide) ?_
  exact loop 600 0 0 [] M2 (by omega) (Nat.le_refl _) (Nat.zero_le _) (Nat.le_refl _) hR.symm a1 a2
