/-! the reference: poolOf, entry, add, tells, told -/
def see1 (se : List xSe) (nm : List UInt8) (p : Nat) : Bool := (sOf se p).any (fun s => hld s nm)
def polW (se : List xSe) (nm : List UInt8) : Nat → Nat
  | 0 => 0
  | p + 1 => if see1 se nm (p + 1) = true then polW se nm p else p + 1
theorem polW_le (se : List xSe) (nm : List UInt8) : ∀ p, polW se nm p ≤ p
  | 0 => Nat.le_refl _
  | p + 1 => by
    unfold polW
    split
    · have := polW_le se nm p; omega
    · exact Nat.le_refl _
theorem polW_congr {se se' : List xSe} {nm : List UInt8} : ∀ p, (∀ q, 1 ≤ q → q ≤ p → see1 se nm q = see1 se' nm q) → polW se nm p = polW se' nm p
  | 0, _ => rfl
  | p + 1, h => by
    unfold polW
    rw [h (p + 1) (by omega) (by omega), polW_congr p (fun q a b => h q a (by omega))]
theorem polW_fix {se : List xSe} {nm : List UInt8} : ∀ p, polW se nm p = 0 ∨ see1 se nm (polW se nm p) = false
  | 0 => Or.inl rfl
  | p + 1 => by
    unfold polW
    split
    · exact polW_fix p
    · rename_i h
      right
      cases hh : see1 se nm (p + 1)
      · rfl
      · exact absurd hh h
/-- the seen names stand pool by pool -/
def SeO (se : List xSe) : Prop := (∀ s ∈ se, 1 ≤ s.1) ∧ se.Pairwise (fun a b => a.1 ≤ b.1)
theorem see1_app {l : List xSe} {s : xSe} {nm : List UInt8} {q : Nat} : see1 (l ++ [s]) nm q = (see1 l nm q || (s.1 == q && hld s.2 nm)) := by
  unfold see1 sOf
  rw [List.filter_append, List.map_append, List.any_append]
  congr 1
  rw [List.filter_cons]
  cases s.1 == q <;> simp
theorem own_app {l : List xSe} {s : xSe} {nm : List UInt8} {p : Nat} : own (l ++ [s]) nm p = own l nm (own1 nm s p) := by
  unfold own
  rw [List.foldr_append]
  rfl
theorem own_len : ∀ (n : Nat) (se : List xSe) (nm : List UInt8) (p : Nat), se.length = n → SeO se → own se nm p = polW se nm p := by
  intro n
  induction n with
  | zero =>
    intro se nm p hl _
    have hse := List.eq_nil_of_length_eq_zero hl
    subst hse
    show p = _
    cases p with
    | zero => rfl
    | succ p => rfl
  | succ n ih =>
    intro se nm p hl hs
    have hne : se ≠ [] := fun q => by rw [q] at hl; cases hl
    obtain ⟨l, s, rfl⟩ : ∃ l s, se = l ++ [s] := ⟨se.dropLast, se.getLast hne, (List.dropLast_concat_getLast hne).symm⟩
    have hl2 : l.length = n := by simp at hl; omega
    obtain ⟨s1, s2⟩ := hs
    rw [List.pairwise_append] at s2
    obtain ⟨s3, -, s4⟩ := s2
    have hle : ∀ a ∈ l, a.1 ≤ s.1 := fun a ha => s4 a ha s (List.mem_singleton.mpr rfl)
    have hs1 : 1 ≤ s.1 := s1 s (List.mem_append_right _ (List.mem_singleton.mpr rfl))
    have ih2 := fun p => ih l nm p hl2 ⟨fun a ha => s1 a (List.mem_append_left _ ha), s3⟩
    rw [own_app]
    unfold own1
    by_cases c : (s.1 == p && hld s.2 nm) = true
    · rw [if_pos c, ih2]
      simp only [Bool.and_eq_true, beq_iff_eq] at c
      obtain ⟨c1, c2⟩ := c
      obtain ⟨p', rfl⟩ : ∃ p', p = p' + 1 := ⟨p - 1, by omega⟩
      have hsee : see1 (l ++ [s]) nm (p' + 1) = true := by
        rw [see1_app, c2, c1]; simp
      show polW l nm p' = polW (l ++ [s]) nm (p' + 1)
      rw [show polW (l ++ [s]) nm (p' + 1) = polW (l ++ [s]) nm p' by rw [polW, if_pos hsee]]
      apply polW_congr
      intro q _ hq
      rw [see1_app, show (s.1 == q) = false by rw [beq_eq_false_iff_ne]; omega]
      simp
    · rw [if_neg c, ih2]
      by_cases c1 : s.1 < p
      · have hz : ∀ (l' : List xSe), (∀ a ∈ l', a.1 < p) → polW l' nm p = p := by
          intro l' hl'
          obtain ⟨p', rfl⟩ : ∃ p', p = p' + 1 := ⟨p - 1, by omega⟩
          rw [polW, if_neg]
          unfold see1 sOf
          rw [List.filter_eq_nil_iff.mpr (fun a ha => by
            have := hl' a ha
            simp only [beq_iff_eq]
            omega)]
          simp
        rw [hz l (fun a ha => by have := hle a ha; omega), hz (l ++ [s]) (fun a ha => by
          rcases List.mem_append.mp ha with q | q
          · have := hle a q; omega
          · rw [List.mem_singleton.mp q]; exact c1)]
      · apply polW_congr
        intro q _ hq
        rw [see1_app]
        have : (s.1 == q && hld s.2 nm) = false := by
          by_cases e : q = p
          · subst e
            cases hh : (s.1 == q && hld s.2 nm)
            · rfl
            · exact absurd hh c
          · rw [show (s.1 == q) = false by rw [beq_eq_false_iff_ne]; omega]
            rfl
        rw [this]
        simp
theorem own_eq {se : List xSe} (hs : SeO se) (nm : List UInt8) (p : Nat) : own se nm p = polW se nm p := own_len _ se nm p rfl hs
theorem pre_take {s full : List UInt8} {n : Nat} (h : s.length ≤ n) : s.isPrefixOf (full.take n) = s.isPrefixOf full := by
  rw [Bool.eq_iff_iff, List.isPrefixOf_iff_prefix, List.isPrefixOf_iff_prefix, List.prefix_take_iff]
  exact ⟨fun q => q.1, fun q => ⟨q, h⟩⟩
theorem eIdx_hit {es : List xEn} {p k : Nat} {nm : List UInt8} {e : xEn} (he : es[k]? = some e) (hp : e.1 = p ∧ e.2.1 = nm) (hno : ∀ (j : Nat) (e : xEn), j < k → es[j]? = some e → ¬ (e.1 = p ∧ e.2.1 = nm)) : eIdx es p nm = some k := by
  unfold eIdx
  rw [List.findIdx?_eq_some_iff_getElem]
  obtain ⟨hk, hke⟩ := List.getElem?_eq_some_iff.mp he
  refine ⟨hk, ?_, ?_⟩
  · rw [hke]
    simp [hp.1, hp.2]
  · intro j hj
    have := hno j es[j] hj (List.getElem?_eq_getElem (by omega))
    simp
    intro q
    exact fun q2 => this ⟨q, q2⟩
theorem eIdx_no {es : List xEn} {p : Nat} {nm : List UInt8} (hno : ∀ (j : Nat) (e : xEn), es[j]? = some e → ¬ (e.1 = p ∧ e.2.1 = nm)) : eIdx es p nm = none := by
  unfold eIdx
  rw [List.findIdx?_eq_none_iff]
  intro e he
  obtain ⟨j, hj⟩ := List.getElem?_of_mem he
  have := hno j e hj
  simp
  exact fun q q2 => this ⟨q, q2⟩
section XM6
variable {t x out full : List UInt8} {es : List xEn} {pool : Nat} {se : List xSe} {sub fd : List UInt8} {fr bg : Nat} {wr : Option Nat} {nx kd fi la va : Nat}
set_option maxHeartbeats 8000000 in
set_option maxRecDepth 100000 in
theorem c_Mod_poolOf (d : Nat) {M : xH} {sz O n st : Nat} (h : Wd M O t x out full es pool se sub fd fr bg wr nx kd fi la va) (hn : n ≤ full.length) (hst : st ≤ pool) : xC (d + 1) 0 0 Y_Mod_poolOf [.ref O, .int (nI n), .int (nI st)] M sz (qi sz (fun y M' => y = nI (polW se (full.take n) st) ∧ M' = M)) := by
  refine xC_of (by decide) (Nat.le_of_ble_eq_true rfl) (by simp [Value.category]) (vs := [some (.ref O), some (.int (nI n)), some (.int (nI st)), none, none, none, none]) rfl (fun K hX hE => ?_)
  obtain ⟨h0, -, -, -, ⟨h4l, -⟩, -, ⟨g1, fs, fz, fc, g2, g3, g4, g5⟩, -⟩ := id h
  have hnl : (full.take n).length = n := by rw [List.length_take]; omega
  generalize hnm : full.take n = nm at *
  have k124 : ∀ (p : Nat) (v4 v5 v6 : Option Value), polW se nm st = p → xG K 124 [some (.ref O), some (.int (nI n)), some (.int (nI st)), some (.int (nI p)), v4, v5, v6] [] M sz 0 0 := by
    intro p v4 v5 v6 hp
    refine xp_iload_3 (pc := 124) hX d_Mod_poolOf_124 ?_
    refine xg_iret (pc := 125) hX hE d_Mod_poolOf_125 rfl rfl (by omega) (by omega) ?_
    exact ⟨rfl, _, rfl, by rw [hp], rfl⟩
  refine xp_iload_2 (pc := 0) hX d_Mod_poolOf_0 ?_
  refine xp_istore_3 (pc := 1) hX d_Mod_poolOf_1 (by decide) ?_
  refine xg_iconst (pc := 2) hX (nI 1) d_Mod_poolOf_2 ci_iconst_1 ?_
  refine xp_istore_4 (pc := 3) hX d_Mod_poolOf_3 (by decide) ?_
  have k5 : ∀ (p : Nat) (v5 v6 : Option Value), p ≤ pool → polW se nm st = polW se nm p → xG K 5 [some (.ref O), some (.int (nI n)), some (.int (nI st)), some (.int (nI p)), some (.int (nI 1)), v5, v6] [] M sz 0 0 := by
    intro p
    induction p with
    | zero =>
      intro v5 v6 hp hw
      refine xp_iload_4 (pc := 5) hX d_Mod_poolOf_5 ?_
      refine xn_if_eq (pc := 7) hX 124 d_Mod_poolOf_7 (by decide) (by decide) (fun z => absurd z (by decide)) (fun _ => ?_)
      refine xp_iload_3 (pc := 10) hX d_Mod_poolOf_10 ?_
      refine xn_if_le (pc := 11) hX 124 d_Mod_poolOf_11 (by decide) (by decide) (fun _ => k124 0 _ _ _ hw) (fun z => absurd z (by decide))
    | succ p ih =>
      intro v5 v6 hp hw
      obtain ⟨s1, s2, s3⟩ := g5 (p + 1) (by omega) hp
      have hsee : see1 se nm (p + 1) = (sOf se (p + 1)).any (fun s => hld s nm) := rfl
      generalize sOf se (p + 1) = L at *
      have k108 : ∀ (m : Bool) (v5 v6 : Option Value), see1 se nm (p + 1) = m → xG K 108 [some (.ref O), some (.int (nI n)), some (.int (nI st)), some (.int (nI (p + 1))), some (.int (bI m)), v5, v6] [] M sz 0 0 := by
        intro m v5 v6 hm
        refine xp_iload_3 (pc := 108) hX d_Mod_poolOf_108 ?_
        refine xp_iload_4 (pc := 109) hX d_Mod_poolOf_109 ?_
        cases m with
        | true =>
          refine xn_if_eq (a := 1) (pc := 111) hX 118 d_Mod_poolOf_111 (by decide) (by decide) (fun z => absurd z (by decide)) (fun _ => ?_)
          refine xg_iconst (pc := 114) hX (nI 1) d_Mod_poolOf_114 ci_iconst_1 ?_
          refine xg_goto (pc := 115) hX 119 d_Mod_poolOf_115 (by decide) ?_
          first | refine xn_isub (pc := 119) hX d_Mod_poolOf_119 (by omega) ?_ | refine xg_isub (pc := 119) hX d_Mod_poolOf_119 ?_
          refine xp_istore_3 (pc := 120) hX d_Mod_poolOf_120 (by decide) ?_
          refine xg_goto (pc := 121) hX 5 d_Mod_poolOf_121 (by decide) ?_
          exact ih _ _ (by omega) (by rw [hw, polW, if_pos hm])
        | false =>
          refine xn_if_eq (a := 0) (pc := 111) hX 118 d_Mod_poolOf_111 (by decide) (by decide) (fun _ => ?_) (fun z => absurd z (by decide))
          refine xg_iconst (pc := 118) hX (nI 0) d_Mod_poolOf_118 ci_iconst_0 ?_
          first | refine xn_isub (pc := 119) hX d_Mod_poolOf_119 (by omega) ?_ | refine xg_isub (pc := 119) hX d_Mod_poolOf_119 ?_
          refine xp_istore_3 (pc := 120) hX d_Mod_poolOf_120 (by decide) ?_
          refine xg_goto (pc := 121) hX 5 d_Mod_poolOf_121 (by decide) ?_
          refine xp_iload_4 (pc := 5) hX d_Mod_poolOf_5 ?_
          refine xn_if_eq (a := 0) (pc := 7) hX 124 d_Mod_poolOf_7 (by decide) (by decide) (fun _ => ?_) (fun z => absurd z (by decide))
          refine k124 _ _ _ _ ?_
          rw [hw, polW, if_neg (by rw [hm]; decide)]
          rfl
      refine xp_iload_4 (pc := 5) hX d_Mod_poolOf_5 ?_
      refine xn_if_eq (pc := 7) hX 124 d_Mod_poolOf_7 (by decide) (by decide) (fun z => absurd z (by decide)) (fun _ => ?_)
      refine xp_iload_3 (pc := 10) hX d_Mod_poolOf_10 ?_
      refine xn_if_le (pc := 11) hX 124 d_Mod_poolOf_11 (by decide) (by omega) (fun z => absurd z (by omega)) (fun _ => ?_)
      refine xg_iconst (pc := 14) hX (nI 0) d_Mod_poolOf_14 ci_iconst_0 ?_
      refine xp_istore_4 (pc := 15) hX d_Mod_poolOf_15 (by decide) ?_
      refine xg_bipush (pc := 17) hX (nI 12) d_Mod_poolOf_17 ci_bipush_12 ?_
      refine xp_iload_3 (pc := 19) hX d_Mod_poolOf_19 ?_
      first | refine xn_imul (pc := 20) hX d_Mod_poolOf_20 ?_ | refine xg_imul (pc := 20) hX d_Mod_poolOf_20 ?_
      refine xp_istore_5 (pc := 21) hX d_Mod_poolOf_21 (by decide) ?_
      -- the names that the pool sees, one by one
      have k23 : ∀ (r j : Nat) (v6 : Option Value), L.length - j = r → j ≤ L.length → (L.take j).any (fun s => hld s nm) = false → xG K 23 [some (.ref O), some (.int (nI n)), some (.int (nI st)), some (.int (nI (p + 1))), some (.int (nI 0)), some (.int (nI (12 * (p + 1) + j))), v6] [] M sz 0 0 := by
        intro r
        induction r with
        | zero =>
          intro j v6 hr hj hno
          refine xp_iload_5 (pc := 23) hX d_Mod_poolOf_23 ?_
          refine xg_bipush (pc := 25) hX (nI 12) d_Mod_poolOf_25 ci_bipush_12 ?_
          refine xp_iload_3 (pc := 27) hX d_Mod_poolOf_27 ?_
          first | refine xn_imul (pc := 28) hX d_Mod_poolOf_28 ?_ | refine xg_imul (pc := 28) hX d_Mod_poolOf_28 ?_
          refine xp_aload_0 (pc := 29) hX d_Mod_poolOf_29 ?_
          refine xg_get (pc := 30) hX (j := 16) k_Mod d_Mod_poolOf_30 l_Mod_43 (by decide) (by first | assumption | exact xup_s _ _ _ | exact xup_o (by omega) (by assumption) | exact xup_o (by omega) (xup_s _ _ _) | exact xup_o (by omega) (xup_o (by omega) (by assumption)) | exact xup_o (by omega) (xup_o (by omega) (xup_s _ _ _)) | exact xup_o (by omega) (xup_o (by omega) (xup_o (by omega) (by assumption)))) (by rfl) ?_
          refine xp_iload_3 (pc := 33) hX d_Mod_poolOf_33 ?_
          refine xn_iald (pc := 34) hX d_Mod_poolOf_34 rfl (by first | assumption | exact xup_s _ _ _ | exact xup_o (by omega) (by assumption) | exact xup_o (by omega) (xup_s _ _ _) | exact xup_o (by omega) (xup_o (by omega) (by assumption)) | exact xup_o (by omega) (xup_o (by omega) (xup_s _ _ _)) | exact xup_o (by omega) (xup_o (by omega) (xup_o (by omega) (by assumption)))) (by omega) (by omega) ?_
          rw [s2]
          first | refine xn_iadd (pc := 35) hX d_Mod_poolOf_35 ?_ | refine xg_iadd (pc := 35) hX d_Mod_poolOf_35 ?_
          refine xn_icmp_ge (pc := 36) hX 108 d_Mod_poolOf_36 (by decide) (by omega) (by omega) (fun z => ?_) (fun z => absurd z (by omega))
          refine k108 false _ _ ?_
          rw [hsee, ← hno, List.take_of_length_le (by omega)]
        | succ r ihr =>
          intro j v6 hr hj hno
          have hj1 : j < L.length := by omega
          obtain ⟨u1, ⟨u2, u3⟩, u4⟩ := s3 j L[j] (List.getElem?_eq_getElem hj1)
          have hsucc : ∀ b, hld L[j] nm = b → (L.take (j + 1)).any (fun s => hld s nm) = b := by
            intro b hb
            rw [List.take_succ_eq_append_getElem hj1, List.any_append, hno]
            simp [hb]
          have hany : hld L[j] nm = true → see1 se nm (p + 1) = true := by
            intro q
            rw [hsee, List.any_eq_true]
            exact ⟨L[j], List.getElem_mem hj1, q⟩
          generalize L[j] = s at *
          have k100 : ∀ (b : Bool) (v6 : Option Value), hld s nm = b → xG K 100 [some (.ref O), some (.int (nI n)), some (.int (nI st)), some (.int (nI (p + 1))), some (.int (nI 0)), some (.int (nI (12 * (p + 1) + j))), v6] [.int (bI b)] M sz 0 0 := by
            intro b v6 hb
            refine xp_istore_4 (pc := 100) hX d_Mod_poolOf_100 (by decide) ?_
            refine xp_inc_5 (pc := 102) hX d_Mod_poolOf_102 (by decide) ?_
            refine xg_goto (pc := 105) hX 23 d_Mod_poolOf_105 (by decide) ?_
            cases b with
            | false => exact ihr (j + 1) _ (by omega) (by omega) (hsucc false hb)
            | true =>
              refine xp_iload_5 (pc := 23) hX d_Mod_poolOf_23 ?_
              refine xg_bipush (pc := 25) hX (nI 12) d_Mod_poolOf_25 ci_bipush_12 ?_
              refine xp_iload_3 (pc := 27) hX d_Mod_poolOf_27 ?_
              first | refine xn_imul (pc := 28) hX d_Mod_poolOf_28 ?_ | refine xg_imul (pc := 28) hX d_Mod_poolOf_28 ?_
              refine xp_aload_0 (pc := 29) hX d_Mod_poolOf_29 ?_
              refine xg_get (pc := 30) hX (j := 16) k_Mod d_Mod_poolOf_30 l_Mod_43 (by decide) (by first | assumption | exact xup_s _ _ _ | exact xup_o (by omega) (by assumption) | exact xup_o (by omega) (xup_s _ _ _) | exact xup_o (by omega) (xup_o (by omega) (by assumption)) | exact xup_o (by omega) (xup_o (by omega) (xup_s _ _ _)) | exact xup_o (by omega) (xup_o (by omega) (xup_o (by omega) (by assumption)))) (by rfl) ?_
              refine xp_iload_3 (pc := 33) hX d_Mod_poolOf_33 ?_
              refine xn_iald (pc := 34) hX d_Mod_poolOf_34 rfl (by first | assumption | exact xup_s _ _ _ | exact xup_o (by omega) (by assumption) | exact xup_o (by omega) (xup_s _ _ _) | exact xup_o (by omega) (xup_o (by omega) (by assumption)) | exact xup_o (by omega) (xup_o (by omega) (xup_s _ _ _)) | exact xup_o (by omega) (xup_o (by omega) (xup_o (by omega) (by assumption)))) (by omega) (by omega) ?_
              rw [s2]
              first | refine xn_iadd (pc := 35) hX d_Mod_poolOf_35 ?_ | refine xg_iadd (pc := 35) hX d_Mod_poolOf_35 ?_
              refine xn_icmp_ge (pc := 36) hX 108 d_Mod_poolOf_36 (by decide) (by omega) (by omega) (fun z => k108 true _ _ (hany hb)) (fun z => ?_)
              refine xp_iload_4 (pc := 39) hX d_Mod_poolOf_39 ?_
              exact xn_if_ne (a := 1) (pc := 41) hX 108 d_Mod_poolOf_41 (by decide) (by decide) (fun _ => k108 true _ _ (hany hb)) (fun z => absurd z (by decide))
          have k99 : ∀ (v6 : Option Value), hld s nm = false → xG K 99 [some (.ref O), some (.int (nI n)), some (.int (nI st)), some (.int (nI (p + 1))), some (.int (nI 0)), some (.int (nI (12 * (p + 1) + j))), v6] [] M sz 0 0 := by
            intro v6 hb
            refine xg_iconst (pc := 99) hX (nI 0) d_Mod_poolOf_99 ci_iconst_0 ?_
            exact k100 false _ hb
          have k79 : ∀ (v6 : Option Value), s.length ≤ n → (isSt s = true ∨ s.length = n) → xG K 79 [some (.ref O), some (.int (nI n)), some (.int (nI st)), some (.int (nI (p + 1))), some (.int (nI 0)), some (.int (nI (12 * (p + 1) + j))), v6] [] M sz 0 0 := by
            intro v6 hsn hor
            have hh : hld s nm = s.isPrefixOf full := by
              unfold hld
              rw [← hnm, pre_take hsn, hnm]
              rcases hor with q | q
              · rw [q]; rfl
              · rw [hnl, q]; simp
            refine xp_aload_0 (pc := 79) hX d_Mod_poolOf_79 ?_
            refine xp_iload_5 (pc := 80) hX d_Mod_poolOf_80 ?_
            refine xp_aload_0 (pc := 82) hX d_Mod_poolOf_82 ?_
            refine xg_get (pc := 83) hX (j := 15) k_Mod d_Mod_poolOf_83 l_Mod_40 (by decide) (by first | assumption | exact xup_s _ _ _ | exact xup_o (by omega) (by assumption) | exact xup_o (by omega) (xup_s _ _ _) | exact xup_o (by omega) (xup_o (by omega) (by assumption)) | exact xup_o (by omega) (xup_o (by omega) (xup_s _ _ _)) | exact xup_o (by omega) (xup_o (by omega) (xup_o (by omega) (by assumption)))) (by rfl) ?_
            refine xp_iload_5 (pc := 86) hX d_Mod_poolOf_86 ?_
            refine xn_iald (pc := 88) hX d_Mod_poolOf_88 rfl (by first | assumption | exact xup_s _ _ _ | exact xup_o (by omega) (by assumption) | exact xup_o (by omega) (xup_s _ _ _) | exact xup_o (by omega) (xup_o (by omega) (by assumption)) | exact xup_o (by omega) (xup_o (by omega) (xup_s _ _ _)) | exact xup_o (by omega) (xup_o (by omega) (xup_o (by omega) (by assumption)))) (by omega) (by omega) ?_
            rw [u1]
            refine xi_V (Y2 := Y_Mod_isAlike) (pc := 89) hX [_, _] k_Mod m_Mod_isAlike d_Mod_poolOf_89 l_Mod_101 rfl rfl (by simp [Value.category]) (by first | assumption | exact xup_s _ _ _ | exact xup_o (by omega) (by assumption) | exact xup_o (by omega) (xup_s _ _ _) | exact xup_o (by omega) (xup_o (by omega) (by assumption)) | exact xup_o (by omega) (xup_o (by omega) (xup_s _ _ _)) | exact xup_o (by omega) (xup_o (by omega) (xup_o (by omega) (by assumption)))) (c_Mod_isAlike d h g2 (by omega) u3 (by omega) u4) (by omega) (by omega) ?_
            rintro y M1 ⟨rfl, rfl⟩
            refine xg_if_eq (pc := 92) hX 99 d_Mod_poolOf_92 (by decide) (fun z => ?_) (fun z => ?_)
            · exact k99 _ (by rw [hh]; exact bI_eq0.mp z)
            · refine xg_iconst (pc := 95) hX (nI 1) d_Mod_poolOf_95 ci_iconst_1 ?_
              refine xg_goto (pc := 96) hX 100 d_Mod_poolOf_96 (by decide) ?_
              exact k100 true _ (by rw [hh]; exact bI_ne0.mp z)
          refine xp_iload_5 (pc := 23) hX d_Mod_poolOf_23 ?_
          refine xg_bipush (pc := 25) hX (nI 12) d_Mod_poolOf_25 ci_bipush_12 ?_
          refine xp_iload_3 (pc := 27) hX d_Mod_poolOf_27 ?_
          first | refine xn_imul (pc := 28) hX d_Mod_poolOf_28 ?_ | refine xg_imul (pc := 28) hX d_Mod_poolOf_28 ?_
          refine xp_aload_0 (pc := 29) hX d_Mod_poolOf_29 ?_
          refine xg_get (pc := 30) hX (j := 16) k_Mod d_Mod_poolOf_30 l_Mod_43 (by decide) (by first | assumption | exact xup_s _ _ _ | exact xup_o (by omega) (by assumption) | exact xup_o (by omega) (xup_s _ _ _) | exact xup_o (by omega) (xup_o (by omega) (by assumption)) | exact xup_o (by omega) (xup_o (by omega) (xup_s _ _ _)) | exact xup_o (by omega) (xup_o (by omega) (xup_o (by omega) (by assumption)))) (by rfl) ?_
          refine xp_iload_3 (pc := 33) hX d_Mod_poolOf_33 ?_
          refine xn_iald (pc := 34) hX d_Mod_poolOf_34 rfl (by first | assumption | exact xup_s _ _ _ | exact xup_o (by omega) (by assumption) | exact xup_o (by omega) (xup_s _ _ _) | exact xup_o (by omega) (xup_o (by omega) (by assumption)) | exact xup_o (by omega) (xup_o (by omega) (xup_s _ _ _)) | exact xup_o (by omega) (xup_o (by omega) (xup_o (by omega) (by assumption)))) (by omega) (by omega) ?_
          rw [s2]
          first | refine xn_iadd (pc := 35) hX d_Mod_poolOf_35 ?_ | refine xg_iadd (pc := 35) hX d_Mod_poolOf_35 ?_
          refine xn_icmp_ge (pc := 36) hX 108 d_Mod_poolOf_36 (by decide) (by omega) (by omega) (fun z => absurd z (by omega)) (fun z => ?_)
          refine xp_iload_4 (pc := 39) hX d_Mod_poolOf_39 ?_
          refine xn_if_ne (a := 0) (pc := 41) hX 108 d_Mod_poolOf_41 (by decide) (by decide) (fun z => absurd z (by decide)) (fun _ => ?_)
          refine xp_aload_0 (pc := 44) hX d_Mod_poolOf_44 ?_
          refine xp_iload_5 (pc := 45) hX d_Mod_poolOf_45 ?_
          refine xi_V (Y2 := Y_Mod_isStem) (pc := 47) hX [_] k_Mod m_Mod_isStem d_Mod_poolOf_47 l_Mod_98 rfl rfl (by simp [Value.category]) (by first | assumption | exact xup_s _ _ _ | exact xup_o (by omega) (by assumption) | exact xup_o (by omega) (xup_s _ _ _) | exact xup_o (by omega) (xup_o (by omega) (by assumption)) | exact xup_o (by omega) (xup_o (by omega) (xup_s _ _ _)) | exact xup_o (by omega) (xup_o (by omega) (xup_o (by omega) (by assumption)))) (c_Mod_isStem d h g2 g3 (by omega) u1 u2 u3 u4) (by omega) (by omega) ?_
          rintro y M1 ⟨rfl, rfl⟩
          refine xp_istore_6 (pc := 50) hX d_Mod_poolOf_50 (by decide) ?_
          refine xp_aload_0 (pc := 52) hX d_Mod_poolOf_52 ?_
          refine xg_get (pc := 53) hX (j := 15) k_Mod d_Mod_poolOf_53 l_Mod_40 (by decide) (by first | assumption | exact xup_s _ _ _ | exact xup_o (by omega) (by assumption) | exact xup_o (by omega) (xup_s _ _ _) | exact xup_o (by omega) (xup_o (by omega) (by assumption)) | exact xup_o (by omega) (xup_o (by omega) (xup_s _ _ _)) | exact xup_o (by omega) (xup_o (by omega) (xup_o (by omega) (by assumption)))) (by rfl) ?_
          refine xp_iload_5 (pc := 56) hX d_Mod_poolOf_56 ?_
          refine xn_iald (pc := 58) hX d_Mod_poolOf_58 rfl (by first | assumption | exact xup_s _ _ _ | exact xup_o (by omega) (by assumption) | exact xup_o (by omega) (xup_s _ _ _) | exact xup_o (by omega) (xup_o (by omega) (by assumption)) | exact xup_o (by omega) (xup_o (by omega) (xup_s _ _ _)) | exact xup_o (by omega) (xup_o (by omega) (xup_o (by omega) (by assumption)))) (by omega) (by omega) ?_
          rw [u1]
          refine xp_iload_1 (pc := 59) hX d_Mod_poolOf_59 ?_
          refine xn_icmp_eq (pc := 60) hX 79 d_Mod_poolOf_60 (by decide) (by omega) (by omega) (fun z => k79 _ (by omega) (Or.inr z)) (fun z1 => ?_)
          refine xp_iload_6 (pc := 63) hX d_Mod_poolOf_63 ?_
          refine xg_if_eq (pc := 65) hX 99 d_Mod_poolOf_65 (by decide) (fun z => ?_) (fun z => ?_)
          · have z := bI_eq0.mp z
            refine k99 _ ?_
            unfold hld
            rw [z, hnl, show (n == s.length) = false by rw [beq_eq_false_iff_ne]; omega]
            rfl
          · have z := bI_ne0.mp z
            refine xp_aload_0 (pc := 68) hX d_Mod_poolOf_68 ?_
            refine xg_get (pc := 69) hX (j := 15) k_Mod d_Mod_poolOf_69 l_Mod_40 (by decide) (by first | assumption | exact xup_s _ _ _ | exact xup_o (by omega) (by assumption) | exact xup_o (by omega) (xup_s _ _ _) | exact xup_o (by omega) (xup_o (by omega) (by assumption)) | exact xup_o (by omega) (xup_o (by omega) (xup_s _ _ _)) | exact xup_o (by omega) (xup_o (by omega) (xup_o (by omega) (by assumption)))) (by rfl) ?_
            refine xp_iload_5 (pc := 72) hX d_Mod_poolOf_72 ?_
            refine xn_iald (pc := 74) hX d_Mod_poolOf_74 rfl (by first | assumption | exact xup_s _ _ _ | exact xup_o (by omega) (by assumption) | exact xup_o (by omega) (xup_s _ _ _) | exact xup_o (by omega) (xup_o (by omega) (by assumption)) | exact xup_o (by omega) (xup_o (by omega) (xup_s _ _ _)) | exact xup_o (by omega) (xup_o (by omega) (xup_o (by omega) (by assumption)))) (by omega) (by omega) ?_
            rw [u1]
            refine xp_iload_1 (pc := 75) hX d_Mod_poolOf_75 ?_
            refine xn_icmp_ge (pc := 76) hX 99 d_Mod_poolOf_76 (by decide) (by omega) (by omega) (fun z2 => ?_) (fun z2 => k79 _ (by omega) (Or.inl z))
            refine k99 _ ?_
            unfold hld
            rw [Bool.and_eq_false_iff]
            right
            rw [Bool.eq_false_iff]
            intro q
            have := (List.isPrefixOf_iff_prefix.mp q).length_le
            omega
      exact k23 L.length 0 _ (by omega) (by omega) (by simp)
  exact k5 st _ _ hst rfl
set_option maxHeartbeats 8000000 in
set_option maxRecDepth 100000 in
theorem c_Mod_entry (d : Nat) {M : xH} {sz O n p : Nat} (h : Wd M O t x out full es pool se sub fd fr bg wr nx kd fi la va) (hn : n ≤ full.length) (hp : p < 1000) : xC d 0 0 Y_Mod_entry [.ref O, .int (nI p), .int (nI n)] M sz (qi sz (fun y M' => y = wI (eIdx es p (full.take n)) ∧ M' = M)) := by
  refine xC_of (by decide) (Nat.le_of_ble_eq_true rfl) (by simp [Value.category]) (vs := [some (.ref O), some (.int (nI p)), some (.int (nI n)), none, none, none]) rfl (fun K hX hE => ?_)
  obtain ⟨h0, -, -, -, ⟨h4l, f, h4a, h4b⟩, ⟨h5l, fn, fz, fv, fvz, fp, h5, h6, h7, h8, h9, h10⟩, -⟩ := id h
  have hnl : (full.take n).length = n := by rw [List.length_take]; omega
  generalize hnm : full.take n = nm at *
  refine xg_iconst (pc := 0) hX (nI 0) d_Mod_entry_0 ci_iconst_0 ?_
  refine xp_istore_3 (pc := 1) hX d_Mod_entry_1 (by decide) ?_
  have k2 : ∀ (r k : Nat) (v4 v5 : Option Value), es.length - k = r → k ≤ es.length → (∀ (j : Nat) (e : xEn), j < k → es[j]? = some e → ¬ (e.1 = p ∧ e.2.1 = nm)) → xG K 2 [some (.ref O), some (.int (nI p)), some (.int (nI n)), some (.int (nI k)), v4, v5] [] M sz 0 0 := by
    intro r
    induction r with
    | zero =>
      intro k v4 v5 hr hk hno
      refine xp_iload_3 (pc := 2) hX d_Mod_entry_2 ?_
      refine xp_aload_0 (pc := 3) hX d_Mod_entry_3 ?_
      refine xg_get (pc := 4) hX (j := 13) k_Mod d_Mod_entry_4 l_Mod_105 (by decide) (by first | assumption | exact xup_s _ _ _ | exact xup_o (by omega) (by assumption) | exact xup_o (by omega) (xup_s _ _ _) | exact xup_o (by omega) (xup_o (by omega) (by assumption)) | exact xup_o (by omega) (xup_o (by omega) (xup_s _ _ _)) | exact xup_o (by omega) (xup_o (by omega) (xup_o (by omega) (by assumption)))) (by rfl) ?_
      refine xn_icmp_ge (pc := 7) hX 100 d_Mod_entry_7 (by decide) (by omega) (by omega) (fun z => ?_) (fun z => absurd z (by omega))
      refine xg_iconst (pc := 100) hX (-1) d_Mod_entry_100 ci_iconst_m1 ?_
      refine xg_iret (pc := 101) hX hE d_Mod_entry_101 rfl rfl (by omega) (by omega) ?_
      refine ⟨rfl, _, rfl, ?_, rfl⟩
      rw [eIdx_no (fun j e he => hno j e (by have := (List.getElem?_eq_some_iff.mp he).1; omega) he)]
      rfl
    | succ r ih =>
      intro k v4 v5 hr hk hno
      have hk1 : k < es.length := by omega
      have he : es[k]? = some es[k] := List.getElem?_eq_getElem hk1
      obtain ⟨⟨e1, e2, e3, e4, e5⟩, -⟩ := h10 k _ he
      generalize es[k] = e at *
      have k94 : ∀ (v4 v5 : Option Value), ¬ (e.1 = p ∧ e.2.1 = nm) → xG K 94 [some (.ref O), some (.int (nI p)), some (.int (nI n)), some (.int (nI k)), v4, v5] [] M sz 0 0 := by
        intro v4 v5 hne
        refine xp_inc_3 (pc := 94) hX d_Mod_entry_94 (by decide) ?_
        refine xg_goto (pc := 97) hX 2 d_Mod_entry_97 (by decide) ?_
        refine ih (k + 1) _ _ (by omega) (by omega) (fun j e' hj he' => ?_)
        by_cases q : j = k
        · subst q
          rw [he] at he'
          cases he'
          exact hne
        · exact hno j e' (by omega) he'
      have k87 : ∀ (b : Bool) (v5 : Option Value), ((e.1 = p ∧ e.2.1 = nm) ↔ b = true) → xG K 87 [some (.ref O), some (.int (nI p)), some (.int (nI n)), some (.int (nI k)), some (.int (bI b)), v5] [] M sz 0 0 := by
        intro b v5 hb
        refine xp_iload_4 (pc := 87) hX d_Mod_entry_87 ?_
        refine xg_if_eq (pc := 89) hX 94 d_Mod_entry_89 (by decide) (fun z => ?_) (fun z => ?_)
        · have z := bI_eq0.mp z
          exact k94 _ _ (fun q => by rw [hb.mp q] at z; cases z)
        · have z := bI_ne0.mp z
          refine xp_iload_3 (pc := 92) hX d_Mod_entry_92 ?_
          refine xg_iret (pc := 93) hX hE d_Mod_entry_93 rfl rfl (by omega) (by omega) ?_
          refine ⟨rfl, _, rfl, ?_, rfl⟩
          rw [eIdx_hit he (hb.mpr z) hno]
          rfl
      have k40 : ∀ (s i : Nat), n - i = s → i ≤ n → e.1 = p → e.2.1.length = n → nm.take i <+: e.2.1 → xG K 40 [some (.ref O), some (.int (nI p)), some (.int (nI n)), some (.int (nI k)), some (.int (nI 1)), some (.int (nI i))] [] M sz 0 0 := by
        intro s
        induction s with
        | zero =>
          intro i hs hi hep hel hpre
          refine xp_iload_5 (pc := 40) hX d_Mod_entry_40 ?_
          refine xp_iload_2 (pc := 42) hX d_Mod_entry_42 ?_
          refine xn_icmp_ge (pc := 43) hX 87 d_Mod_entry_43 (by decide) (by omega) (by omega) (fun z => ?_) (fun z => absurd z (by omega))
          refine k87 true _ (iff_of_true ⟨hep, ?_⟩ rfl)
          rw [List.take_of_length_le (by omega)] at hpre
          exact (hpre.eq_of_length (by omega)).symm
        | succ s ihs =>
          intro i hs hi hep hel hpre
          have hi1 : i < nm.length := by omega
          have hi2 : i < e.2.1.length := by omega
          have hi3 : i < full.length := by omega
          have hfi : full[i] = nm[i] := by
            have : nm[i]? = full[i]? := by rw [← hnm, List.getElem?_take_of_lt (by omega)]
            rw [List.getElem?_eq_getElem hi1, List.getElem?_eq_getElem hi3] at this
            exact (Option.some.inj this).symm
          have b1 := by_lt e.2.1[i]
          have b2 := by_lt nm[i]
          refine xp_iload_5 (pc := 40) hX d_Mod_entry_40 ?_
          refine xp_iload_2 (pc := 42) hX d_Mod_entry_42 ?_
          refine xn_icmp_ge (pc := 43) hX 87 d_Mod_entry_43 (by decide) (by omega) (by omega) (fun z => absurd z (by omega)) (fun z => ?_)
          refine xp_iload_4 (pc := 46) hX d_Mod_entry_46 ?_
          refine xn_if_eq (a := 1) (pc := 48) hX 87 d_Mod_entry_48 (by decide) (by decide) (fun z => absurd z (by decide)) (fun _ => ?_)
          refine xp_aload_0 (pc := 51) hX d_Mod_entry_51 ?_
          refine xg_get (pc := 52) hX (j := 8) k_Mod d_Mod_entry_52 l_Mod_22 (by decide) (by first | assumption | exact xup_s _ _ _ | exact xup_o (by omega) (by assumption) | exact xup_o (by omega) (xup_s _ _ _) | exact xup_o (by omega) (xup_o (by omega) (by assumption)) | exact xup_o (by omega) (xup_o (by omega) (xup_s _ _ _)) | exact xup_o (by omega) (xup_o (by omega) (xup_o (by omega) (by assumption)))) (by rfl) ?_
          refine xg_sipush (pc := 55) hX (nI 200) d_Mod_entry_55 ci_sipush_200 ?_
          refine xp_iload_3 (pc := 58) hX d_Mod_entry_58 ?_
          first | refine xn_imul (pc := 59) hX d_Mod_entry_59 ?_ | refine xg_imul (pc := 59) hX d_Mod_entry_59 ?_
          refine xp_iload_5 (pc := 60) hX d_Mod_entry_60 ?_
          first | refine xn_iadd (pc := 62) hX d_Mod_entry_62 ?_ | refine xg_iadd (pc := 62) hX d_Mod_entry_62 ?_
          refine xn_iald (pc := 63) hX d_Mod_entry_63 rfl (by first | assumption | exact xup_s _ _ _ | exact xup_o (by omega) (by assumption) | exact xup_o (by omega) (xup_s _ _ _) | exact xup_o (by omega) (xup_o (by omega) (by assumption)) | exact xup_o (by omega) (xup_o (by omega) (xup_s _ _ _)) | exact xup_o (by omega) (xup_o (by omega) (xup_o (by omega) (by assumption)))) (by omega) (by omega) ?_
          refine xp_aload_0 (pc := 64) hX d_Mod_entry_64 ?_
          refine xg_get (pc := 65) hX (j := 3) k_Mod d_Mod_entry_65 l_Mod_19 (by decide) (by first | assumption | exact xup_s _ _ _ | exact xup_o (by omega) (by assumption) | exact xup_o (by omega) (xup_s _ _ _) | exact xup_o (by omega) (xup_o (by omega) (by assumption)) | exact xup_o (by omega) (xup_o (by omega) (xup_s _ _ _)) | exact xup_o (by omega) (xup_o (by omega) (xup_o (by omega) (by assumption)))) (by rfl) ?_
          refine xp_iload_5 (pc := 68) hX d_Mod_entry_68 ?_
          refine xn_iald (pc := 70) hX d_Mod_entry_70 rfl (by first | assumption | exact xup_s _ _ _ | exact xup_o (by omega) (by assumption) | exact xup_o (by omega) (xup_s _ _ _) | exact xup_o (by omega) (xup_o (by omega) (by assumption)) | exact xup_o (by omega) (xup_o (by omega) (xup_s _ _ _)) | exact xup_o (by omega) (xup_o (by omega) (xup_o (by omega) (by assumption)))) (by omega) (by omega) ?_
          rw [e5 i e.2.1[i] (List.getElem?_eq_getElem hi2), h4b i full[i] (List.getElem?_eq_getElem hi3), hfi]
          refine xn_icmp_ne (pc := 71) hX 78 d_Mod_entry_71 (by decide) (by omega) (by omega) (fun z => ?_) (fun z => ?_)
          · refine xg_iconst (pc := 78) hX (nI 0) d_Mod_entry_78 ci_iconst_0 ?_
            refine xp_istore_4 (pc := 79) hX d_Mod_entry_79 (by decide) ?_
            refine xp_inc_5 (pc := 81) hX d_Mod_entry_81 (by decide) ?_
            refine xg_goto (pc := 84) hX 40 d_Mod_entry_84 (by decide) ?_
            have hno2 : ¬ (e.1 = p ∧ e.2.1 = nm) := fun q => z (by simp only [q.2])
            refine xp_iload_5 (pc := 40) hX d_Mod_entry_40 ?_
            refine xp_iload_2 (pc := 42) hX d_Mod_entry_42 ?_
            refine xn_icmp_ge (pc := 43) hX 87 d_Mod_entry_43 (by decide) (by omega) (by omega) (fun _ => k87 false _ (iff_of_false hno2 (by decide))) (fun _ => ?_)
            refine xp_iload_4 (pc := 46) hX d_Mod_entry_46 ?_
            exact xn_if_eq (a := 0) (pc := 48) hX 87 d_Mod_entry_48 (by decide) (by decide) (fun _ => k87 false _ (iff_of_false hno2 (by decide))) (fun z => absurd z (by decide))
          · refine xg_iconst (pc := 74) hX (nI 1) d_Mod_entry_74 ci_iconst_1 ?_
            refine xg_goto (pc := 75) hX 79 d_Mod_entry_75 (by decide) ?_
            refine xp_istore_4 (pc := 79) hX d_Mod_entry_79 (by decide) ?_
            refine xp_inc_5 (pc := 81) hX d_Mod_entry_81 (by decide) ?_
            refine xg_goto (pc := 84) hX 40 d_Mod_entry_84 (by decide) ?_
            exact ihs (i + 1) (by omega) (by omega) hep hel (pre_step hi1 hi2 hpre (UInt8.toNat_inj.mp z))
      have k34 : ¬ (e.1 = p ∧ e.2.1 = nm) → xG K 34 [some (.ref O), some (.int (nI p)), some (.int (nI n)), some (.int (nI k)), v4, v5] [] M sz 0 0 := by
        intro hno2
        refine xg_iconst (pc := 34) hX (nI 0) d_Mod_entry_34 ci_iconst_0 ?_
        refine xp_istore_4 (pc := 35) hX d_Mod_entry_35 (by decide) ?_
        refine xg_iconst (pc := 37) hX (nI 0) d_Mod_entry_37 ci_iconst_0 ?_
        refine xp_istore_5 (pc := 38) hX d_Mod_entry_38 (by decide) ?_
        refine xp_iload_5 (pc := 40) hX d_Mod_entry_40 ?_
        refine xp_iload_2 (pc := 42) hX d_Mod_entry_42 ?_
        refine xn_icmp_ge (pc := 43) hX 87 d_Mod_entry_43 (by decide) (by omega) (by omega) (fun _ => k87 false _ (iff_of_false hno2 (by decide))) (fun _ => ?_)
        refine xp_iload_4 (pc := 46) hX d_Mod_entry_46 ?_
        exact xn_if_eq (a := 0) (pc := 48) hX 87 d_Mod_entry_48 (by decide) (by decide) (fun _ => k87 false _ (iff_of_false hno2 (by decide))) (fun z => absurd z (by decide))
      refine xp_iload_3 (pc := 2) hX d_Mod_entry_2 ?_
      refine xp_aload_0 (pc := 3) hX d_Mod_entry_3 ?_
      refine xg_get (pc := 4) hX (j := 13) k_Mod d_Mod_entry_4 l_Mod_105 (by decide) (by first | assumption | exact xup_s _ _ _ | exact xup_o (by omega) (by assumption) | exact xup_o (by omega) (xup_s _ _ _) | exact xup_o (by omega) (xup_o (by omega) (by assumption)) | exact xup_o (by omega) (xup_o (by omega) (xup_s _ _ _)) | exact xup_o (by omega) (xup_o (by omega) (xup_o (by omega) (by assumption)))) (by rfl) ?_
      refine xn_icmp_ge (pc := 7) hX 100 d_Mod_entry_7 (by decide) (by omega) (by omega) (fun z => absurd z (by omega)) (fun z => ?_)
      refine xp_aload_0 (pc := 10) hX d_Mod_entry_10 ?_
      refine xg_get (pc := 11) hX (j := 12) k_Mod d_Mod_entry_11 l_Mod_34 (by decide) (by first | assumption | exact xup_s _ _ _ | exact xup_o (by omega) (by assumption) | exact xup_o (by omega) (xup_s _ _ _) | exact xup_o (by omega) (xup_o (by omega) (by assumption)) | exact xup_o (by omega) (xup_o (by omega) (xup_s _ _ _)) | exact xup_o (by omega) (xup_o (by omega) (xup_o (by omega) (by assumption)))) (by rfl) ?_
      refine xp_iload_3 (pc := 14) hX d_Mod_entry_14 ?_
      refine xn_iald (pc := 15) hX d_Mod_entry_15 rfl (by first | assumption | exact xup_s _ _ _ | exact xup_o (by omega) (by assumption) | exact xup_o (by omega) (xup_s _ _ _) | exact xup_o (by omega) (xup_o (by omega) (by assumption)) | exact xup_o (by omega) (xup_o (by omega) (xup_s _ _ _)) | exact xup_o (by omega) (xup_o (by omega) (xup_o (by omega) (by assumption)))) (by omega) (by omega) ?_
      rw [e1]
      refine xp_iload_1 (pc := 16) hX d_Mod_entry_16 ?_
      refine xn_icmp_ne (pc := 17) hX 34 d_Mod_entry_17 (by decide) (by omega) (by omega) (fun z => k34 (fun q => z q.1)) (fun z1 => ?_)
      refine xp_aload_0 (pc := 20) hX d_Mod_entry_20 ?_
      refine xg_get (pc := 21) hX (j := 9) k_Mod d_Mod_entry_21 l_Mod_25 (by decide) (by first | assumption | exact xup_s _ _ _ | exact xup_o (by omega) (by assumption) | exact xup_o (by omega) (xup_s _ _ _) | exact xup_o (by omega) (xup_o (by omega) (by assumption)) | exact xup_o (by omega) (xup_o (by omega) (xup_s _ _ _)) | exact xup_o (by omega) (xup_o (by omega) (xup_o (by omega) (by assumption)))) (by rfl) ?_
      refine xp_iload_3 (pc := 24) hX d_Mod_entry_24 ?_
      refine xn_iald (pc := 25) hX d_Mod_entry_25 rfl (by first | assumption | exact xup_s _ _ _ | exact xup_o (by omega) (by assumption) | exact xup_o (by omega) (xup_s _ _ _) | exact xup_o (by omega) (xup_o (by omega) (by assumption)) | exact xup_o (by omega) (xup_o (by omega) (xup_s _ _ _)) | exact xup_o (by omega) (xup_o (by omega) (xup_o (by omega) (by assumption)))) (by omega) (by omega) ?_
      rw [e3]
      refine xp_iload_2 (pc := 26) hX d_Mod_entry_26 ?_
      refine xn_icmp_ne (pc := 27) hX 34 d_Mod_entry_27 (by decide) (by omega) (by omega) (fun z => k34 (fun q => z (by rw [q.2]; exact hnl))) (fun z2 => ?_)
      refine xg_iconst (pc := 30) hX (nI 1) d_Mod_entry_30 ci_iconst_1 ?_
      refine xg_goto (pc := 31) hX 35 d_Mod_entry_31 (by decide) ?_
      refine xp_istore_4 (pc := 35) hX d_Mod_entry_35 (by decide) ?_
      refine xg_iconst (pc := 37) hX (nI 0) d_Mod_entry_37 ci_iconst_0 ?_
      refine xp_istore_5 (pc := 38) hX d_Mod_entry_38 (by decide) ?_
      exact k40 n 0 (by omega) (by omega) z1 z2 (by simp)
  exact k2 es.length 0 _ _ (by omega) (by omega) (fun j e hj => absurd hj (by omega))
end XM6
