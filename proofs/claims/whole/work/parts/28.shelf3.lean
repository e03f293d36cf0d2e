/-! NameRoom$Shelf: by the list of its entries -/
def ShA (M : xH) (h : Nat) (g : Nat → Nat) (L : Nat → xEn × Bool) (es : List xEn) : Prop := ShR M h es.length g L ∧ ∀ (j : Nat) (e : xEn), es[j]? = some e → L j = (e, false)
theorem ShA.kept {M M' : xH} {h : Nat} {g : Nat → Nat} {L : Nat → xEn × Bool} {es : List xEn} (hs : ShA M h g L es) (hk : ∀ q, h ≤ q → q < h + 502 → M' q = M q) : ShA M' h g L es := ⟨hs.1.kept hk, hs.2⟩
theorem ShA.ls {M : xH} {h : Nat} {g : Nat → Nat} {L : Nat → xEn × Bool} {es : List xEn} (hs : ShA M h g L es) : lst L es.length = es.map (fun e => (e, false)) := by
  apply List.ext_getElem?
  intro j
  by_cases hj : j < es.length
  · rw [lst_at L hj, List.getElem?_map, List.getElem?_eq_getElem hj, hs.2 j _ (List.getElem?_eq_getElem hj)]
    rfl
  · rw [List.getElem?_eq_none (by rw [lst_len]; omega), List.getElem?_eq_none (by simp; omega)]
theorem ShA.of {M : xH} {h n : Nat} {g : Nat → Nat} {L : Nat → xEn × Bool} {es : List xEn} (hs : ShR M h n g L) (hl : lst L n = es.map (fun e => (e, false))) : ShA M h g L es := by
  have hn : n = es.length := by
    have := congrArg List.length hl
    rw [lst_len, List.length_map] at this
    exact this
  subst hn
  refine ⟨hs, fun j e he => ?_⟩
  have hj := (List.getElem?_eq_some_iff.mp he).1
  have h1 := lst_at L hj
  rw [hl, List.getElem?_map, he] at h1
  exact (Option.some.inj h1).symm
/-- the place of a name of a pool among the entries -/
def eIdx (es : List xEn) (p : Nat) (nm : List UInt8) : Option Nat := es.findIdx? (fun e => e.1 == p && e.2.1 == nm)
theorem ShA.fi {M : xH} {h : Nat} {g : Nat → Nat} {L : Nat → xEn × Bool} {es : List xEn} (hs : ShA M h g L es) (p : Nat) (nm : List UInt8) : fIdx L es.length p nm = eIdx es p nm := by
  have key : ∀ j (hj : j < es.length), ((L j).1.1 == p && (L j).1.2.1 == nm) = (es[j].1 == p && es[j].2.1 == nm) := by
    intro j hj
    rw [hs.2 j _ (List.getElem?_eq_getElem hj)]
  cases he : eIdx es p nm with
  | none =>
    unfold eIdx at he
    rw [List.findIdx?_eq_none_iff] at he
    refine List.find?_range_eq_none.mpr (fun j hj => ?_)
    rw [key j hj, he es[j] (List.getElem_mem hj)]
    rfl
  | some i =>
    unfold eIdx at he
    rw [List.findIdx?_eq_some_iff_getElem] at he
    obtain ⟨h1, h2, h3⟩ := he
    refine List.find?_range_eq_some.mpr ⟨by rw [key i h1]; exact h2, List.mem_range.mpr h1, fun j hj => ?_⟩
    rw [key j (by omega), Bool.eq_false_iff.mpr (h3 j hj)]
    rfl
theorem eIdx_lt {es : List xEn} {p i : Nat} {nm : List UInt8} (h : eIdx es p nm = some i) : i < es.length := by
  unfold eIdx at h
  rw [List.findIdx?_eq_some_iff_getElem] at h
  exact h.1
theorem c_She_find' (d : Nat) {M : xH} {sz h t wt p : Nat} {g : Nat → Nat} {L : Nat → xEn × Bool} {es : List xEn} {nm : List UInt8} (hs : ShA M h g L es) (ht : RowAt M t wt nm) (hwt : wt < 1000000) (hp : p < 1000000) : xC (d + 1) 0 0 Y_She_find [.ref h, .ref t, .int (nI p)] M sz (qr sz (fun o M' => o = (eIdx es p nm).map (fun i => h + 2 + 5 * g i) ∧ M' = M)) := by
  have := c_She_find d (sz := sz) hs.1 ht hwt hp
  rw [hs.fi] at this
  exact this
/-- what begins with a stem, and is longer, in a pool -/
def beh (p : Nat) (nm : List UInt8) (e : xEn) : Bool := e.1 == p && decide (nm.length < e.2.1.length) && nm.isPrefixOf e.2.1
theorem flt_map {es : List xEn} (f : xEn → Bool) : ((es.map (fun e => (e, f e))).filter (fun e => !e.2)) = (es.filter (fun e => !f e)).map (fun e => (e, false)) := by
  induction es with
  | nil => rfl
  | cons a l ih =>
    rw [List.map_cons, List.filter_cons, List.filter_cons]
    by_cases h : f a = true
    · simp [h]; exact ih
    · have h : f a = false := by simpa using h
      simp [h]; exact ih
set_option maxHeartbeats 4000000 in
set_option maxRecDepth 100000 in
theorem c_She_clearBehind (d : Nat) {M : xH} {sz h t wt p : Nat} {g : Nat → Nat} {L : Nat → xEn × Bool} {es : List xEn} {nm : List UInt8} (hs : ShA M h g L es) (ht : RowAt M t wt nm) (htd : t + 1 < h ∨ h + 502 ≤ t) (hwt : wt < 1000000) (hp : p < 1000000) : xC (d + 1) 0 0 Y_She_clearBehind [.ref h, .ref t, .int (nI p)] M sz (qv sz (fun M' => (∃ g' L', ShA M' h g' L' (es.filter (fun e => !beh p nm e))) ∧ FrR M M' h (h + 502))) := by
  refine xC_of (by decide) (Nat.le_of_ble_eq_true rfl) (by simp [Value.category]) (vs := [some (.ref h), some (.ref t), some (.int (nI p)), none, none]) rfl (fun K hX hE => ?_)
  have hn : es.length ≤ 100 := hs.1.2.1
  have loop : ∀ (m i : Nat) (M1 : xH) (L1 : Nat → xEn × Bool), i + m = es.length → ShR M1 h es.length g L1 → FrR M M1 h (h + 502) → (∀ j e, es[j]? = some e → L1 j = (e, if j < i then beh p nm e else false)) → xG K 2 [some (.ref h), some (.ref t), some (.int (nI p)), some (.int (nI i)), none] [] M1 sz 0 0 := by
    intro m
    induction m with
    | zero =>
      intro i M1 L1 hi hs1 hf hL
      obtain ⟨h1, h2, ⟨f, h3, h4⟩, h5, h6, h7⟩ := id hs1
      refine xp_iload_3 (pc := 2) hX d_She_clearBehind_2 ?_
      refine xp_aload_0 (pc := 3) hX d_She_clearBehind_3 ?_
      refine xg_get (pc := 4) hX (j := 1) k_She d_She_clearBehind_4 l_She_18 (by decide) (by first | assumption | exact xup_s _ _ _ | exact xup_o (by omega) (by assumption) | exact xup_o (by omega) (xup_s _ _ _) | exact xup_o (by omega) (xup_o (by omega) (by assumption)) | exact xup_o (by omega) (xup_o (by omega) (xup_s _ _ _)) | exact xup_o (by omega) (xup_o (by omega) (xup_o (by omega) (by assumption)))) (by rfl) ?_
      refine xn_icmp_ge (pc := 7) hX 76 d_She_clearBehind_7 (by decide) (by omega) (by omega) (fun _ => ?_) (fun q => absurd q (by omega))
      refine xp_aload_0 (pc := 76) hX d_She_clearBehind_76 ?_
      refine xv_V (Y2 := Y_She_sweep) (pc := 77) hX [] k_She m_She_sweep d_She_clearBehind_77 l_She_59 rfl rfl (by simp [Value.category]) (by first | assumption | exact xup_s _ _ _ | exact xup_o (by omega) (by assumption) | exact xup_o (by omega) (xup_s _ _ _) | exact xup_o (by omega) (xup_o (by omega) (by assumption)) | exact xup_o (by omega) (xup_o (by omega) (xup_s _ _ _)) | exact xup_o (by omega) (xup_o (by omega) (xup_o (by omega) (by assumption)))) (c_She_sweep d hs1) (by omega) (by omega) ?_
      rintro M2 ⟨⟨k, g', L', a1, a2⟩, a3⟩
      refine xg_vret (pc := 80) hX hE d_She_clearBehind_80 rfl (by omega) (by omega) ?_
      refine ⟨rfl, rfl, ⟨g', L', ShA.of a1 ?_⟩, hf.tr (a3.R.wide (Nat.le_refl _) (by omega))⟩
      rw [a2, ← flt_map]
      congr 1
      apply List.ext_getElem?
      intro j
      by_cases hj : j < es.length
      · rw [lst_at L1 hj, List.getElem?_map, List.getElem?_eq_getElem hj, hL j _ (List.getElem?_eq_getElem hj), if_pos (by omega)]
        rfl
      · rw [List.getElem?_eq_none (by rw [lst_len]; omega), List.getElem?_eq_none (by simp; omega)]
    | succ m ih =>
      intro i M1 L1 hi hs1 hf hL
      obtain ⟨h1, h2, ⟨f, h3, h4⟩, h5, h6, h7⟩ := id hs1
      have hie : es[i]? = some (es[i]'(by omega)) := List.getElem?_eq_getElem (by omega)
      have hLi := hL i _ hie
      rw [if_neg (Nat.lt_irrefl _)] at hLi
      generalize es[i]'(by omega) = e at hie hLi
      obtain ⟨e1, e2, e3, v, e4, e5⟩ := h7 i (by omega)
      rw [hLi] at e1 e2 e3 e5
      dsimp only at e1 e2 e3 e5
      have ht1 : RowAt M1 t wt nm := ht.kept (hf _ (by omega)) (hf _ (by omega))
      obtain ⟨t1, t2, -⟩ := id ht1
      obtain ⟨r1, r2, -⟩ := id e3
      have e0 : va_rf (f i) = .ref (h + 2 + 5 * g i) := by rw [h4 i (by omega)]; rfl
      have gi := h5 i (by omega)
      have next : ∀ (M2 : xH) (L2 : Nat → xEn × Bool), ShR M2 h es.length g L2 → FrR M M2 h (h + 502) → (∀ j, j ≠ i → L2 j = L1 j) → L2 i = (e, beh p nm e) → xG K 70 [some (.ref h), some (.ref t), some (.int (nI p)), some (.int (nI i)), some (.ref (h + 2 + 5 * g i))] [] M2 sz 0 0 := by
        intro M2 L2 s2 f2 l2 l3
        refine xp_inc_3 (pc := 70) hX d_She_clearBehind_70 (by decide) ?_
        refine xg_goto (pc := 73) hX 2 d_She_clearBehind_73 (by decide) ?_
        refine xp_drop_4 ?_
        refine ih (i + 1) M2 L2 (by omega) s2 f2 (fun j e' he' => ?_)
        by_cases hj : j = i
        · subst hj
          rw [hie] at he'
          cases he'
          rw [l3, if_pos (by omega)]
        · rw [l2 j hj, hL j e' he']
          by_cases hlt : j < i
          · rw [if_pos hlt, if_pos (by omega)]
          · rw [if_neg hlt, if_neg (by omega)]
      refine xp_iload_3 (pc := 2) hX d_She_clearBehind_2 ?_
      refine xp_aload_0 (pc := 3) hX d_She_clearBehind_3 ?_
      refine xg_get (pc := 4) hX (j := 1) k_She d_She_clearBehind_4 l_She_18 (by decide) (by first | assumption | exact xup_s _ _ _ | exact xup_o (by omega) (by assumption) | exact xup_o (by omega) (xup_s _ _ _) | exact xup_o (by omega) (xup_o (by omega) (by assumption)) | exact xup_o (by omega) (xup_o (by omega) (xup_s _ _ _)) | exact xup_o (by omega) (xup_o (by omega) (xup_o (by omega) (by assumption)))) (by rfl) ?_
      refine xn_icmp_ge (pc := 7) hX 76 d_She_clearBehind_7 (by decide) (by omega) (by omega) (fun q => absurd q (by omega)) (fun _ => ?_)
      refine xp_iload_3 (pc := 10) hX d_She_clearBehind_10 ?_
      refine xp_aload_0 (pc := 11) hX d_She_clearBehind_11 ?_
      refine xg_get (pc := 12) hX (j := 0) k_She d_She_clearBehind_12 l_She_11 (by decide) (by first | assumption | exact xup_s _ _ _ | exact xup_o (by omega) (by assumption) | exact xup_o (by omega) (xup_s _ _ _) | exact xup_o (by omega) (xup_o (by omega) (by assumption)) | exact xup_o (by omega) (xup_o (by omega) (xup_s _ _ _)) | exact xup_o (by omega) (xup_o (by omega) (xup_o (by omega) (by assumption)))) (by rfl) ?_
      refine xn_alen (pc := 15) hX (t := 2) d_She_clearBehind_15 rfl (by first | assumption | exact xup_s _ _ _ | exact xup_o (by omega) (by assumption) | exact xup_o (by omega) (xup_s _ _ _) | exact xup_o (by omega) (xup_o (by omega) (by assumption)) | exact xup_o (by omega) (xup_o (by omega) (xup_s _ _ _)) | exact xup_o (by omega) (xup_o (by omega) (xup_o (by omega) (by assumption)))) ?_
      refine xn_icmp_ge (pc := 16) hX 76 d_She_clearBehind_16 (by decide) (by omega) (by decide) (fun q => absurd q (by omega)) (fun _ => ?_)
      refine xp_aload_0 (pc := 19) hX d_She_clearBehind_19 ?_
      refine xg_get (pc := 20) hX (j := 0) k_She d_She_clearBehind_20 l_She_11 (by decide) (by first | assumption | exact xup_s _ _ _ | exact xup_o (by omega) (by assumption) | exact xup_o (by omega) (xup_s _ _ _) | exact xup_o (by omega) (xup_o (by omega) (by assumption)) | exact xup_o (by omega) (xup_o (by omega) (xup_s _ _ _)) | exact xup_o (by omega) (xup_o (by omega) (xup_o (by omega) (by assumption)))) (by rfl) ?_
      refine xp_iload_3 (pc := 23) hX d_She_clearBehind_23 ?_
      refine xn_aald (pc := 24) hX (t := 2) d_She_clearBehind_24 rfl (by first | assumption | exact xup_s _ _ _ | exact xup_o (by omega) (by assumption) | exact xup_o (by omega) (xup_s _ _ _) | exact xup_o (by omega) (xup_o (by omega) (by assumption)) | exact xup_o (by omega) (xup_o (by omega) (xup_s _ _ _)) | exact xup_o (by omega) (xup_o (by omega) (xup_o (by omega) (by assumption)))) (by omega) (by omega) (by first | assumption | rfl) ?_
      first | refine xp_astore_4 (pc := 25) hX d_She_clearBehind_25 (by decide) ?_ | refine xp_astoreN_4 (pc := 25) hX d_She_clearBehind_25 (by decide) ?_
      refine xp_aload_4 (pc := 27) hX d_She_clearBehind_27 ?_
      refine xg_ifnull (pc := 29) hX d_She_clearBehind_29 ?_
      refine xp_aload_4 (pc := 32) hX d_She_clearBehind_32 ?_
      refine xg_get (pc := 34) hX (j := 2) k_Ent d_She_clearBehind_34 l_She_22 (by decide) (by first | assumption | exact xup_s _ _ _ | exact xup_o (by omega) (by assumption) | exact xup_o (by omega) (xup_s _ _ _) | exact xup_o (by omega) (xup_o (by omega) (by assumption)) | exact xup_o (by omega) (xup_o (by omega) (xup_s _ _ _)) | exact xup_o (by omega) (xup_o (by omega) (xup_o (by omega) (by assumption)))) (by rfl) ?_
      refine xp_iload_2 (pc := 37) hX d_She_clearBehind_37 ?_
      refine xn_icmp_ne (pc := 38) hX 70 d_She_clearBehind_38 (by decide) (by omega) (by omega) (fun q => ?_) (fun q => ?_)
      · exact next M1 L1 hs1 hf (fun _ _ => rfl) (by rw [hLi]; simp [beh, q])
      · refine xp_aload_4 (pc := 41) hX d_She_clearBehind_41 ?_
        refine xg_get (pc := 43) hX (j := 0) k_Ent d_She_clearBehind_43 l_She_25 (by decide) (by first | assumption | exact xup_s _ _ _ | exact xup_o (by omega) (by assumption) | exact xup_o (by omega) (xup_s _ _ _) | exact xup_o (by omega) (xup_o (by omega) (by assumption)) | exact xup_o (by omega) (xup_o (by omega) (xup_s _ _ _)) | exact xup_o (by omega) (xup_o (by omega) (xup_o (by omega) (by assumption)))) (by rfl) ?_
        refine xg_get (pc := 46) hX (j := 1) k_Row d_She_clearBehind_46 l_She_29 (by decide) (by first | assumption | exact xup_s _ _ _ | exact xup_o (by omega) (by assumption) | exact xup_o (by omega) (xup_s _ _ _) | exact xup_o (by omega) (xup_o (by omega) (by assumption)) | exact xup_o (by omega) (xup_o (by omega) (xup_s _ _ _)) | exact xup_o (by omega) (xup_o (by omega) (xup_o (by omega) (by assumption)))) (by rfl) ?_
        refine xp_aload_1 (pc := 49) hX d_She_clearBehind_49 ?_
        refine xg_get (pc := 50) hX (j := 1) k_Row d_She_clearBehind_50 l_She_29 (by decide) (by first | assumption | exact xup_s _ _ _ | exact xup_o (by omega) (by assumption) | exact xup_o (by omega) (xup_s _ _ _) | exact xup_o (by omega) (xup_o (by omega) (by assumption)) | exact xup_o (by omega) (xup_o (by omega) (xup_s _ _ _)) | exact xup_o (by omega) (xup_o (by omega) (xup_o (by omega) (by assumption)))) (by rfl) ?_
        refine xn_icmp_le (pc := 53) hX 70 d_She_clearBehind_53 (by decide) (by omega) (by omega) (fun q1 => ?_) (fun q1 => ?_)
        · exact next M1 L1 hs1 hf (fun _ _ => rfl) (by rw [hLi]; simp [beh]; omega)
        · refine xp_aload_4 (pc := 56) hX d_She_clearBehind_56 ?_
          refine xp_aload_4 (pc := 58) hX d_She_clearBehind_58 ?_
          refine xg_get (pc := 60) hX (j := 0) k_Ent d_She_clearBehind_60 l_She_25 (by decide) (by first | assumption | exact xup_s _ _ _ | exact xup_o (by omega) (by assumption) | exact xup_o (by omega) (xup_s _ _ _) | exact xup_o (by omega) (xup_o (by omega) (by assumption)) | exact xup_o (by omega) (xup_o (by omega) (xup_s _ _ _)) | exact xup_o (by omega) (xup_o (by omega) (xup_o (by omega) (by assumption)))) (by rfl) ?_
          refine xp_aload_1 (pc := 63) hX d_She_clearBehind_63 ?_
          refine xi_V (Y2 := Y_Row_beginsWith) (pc := 64) hX [_] k_Row m_Row_beginsWith d_She_clearBehind_64 l_She_34 rfl rfl (by simp [Value.category]) (by first | assumption | exact xup_s _ _ _ | exact xup_o (by omega) (by assumption) | exact xup_o (by omega) (xup_s _ _ _) | exact xup_o (by omega) (xup_o (by omega) (by assumption)) | exact xup_o (by omega) (xup_o (by omega) (xup_s _ _ _)) | exact xup_o (by omega) (xup_o (by omega) (xup_o (by omega) (by assumption)))) (c_Row_beginsWith d e3 ht1 (by omega) (by omega)) (by omega) (by omega) ?_
          rintro y M' ⟨rfl, rfl⟩
          refine xg_put (pc := 67) hX (j := 4) k_Ent d_She_clearBehind_67 l_She_56 (by decide) rfl e1 (Nat.le_of_ble_eq_true rfl) (by show narrow .boolean _ = _; cases List.isPrefixOf nm e.2.1 <;> rfl) (by show fits .boolean _ = _; cases List.isPrefixOf nm e.2.1 <;> rfl) (by simp only [List.set_cons_zero, List.set_cons_succ]; exact rfl) ?_
          have hfr : FrR M' (xup M' (h + 2 + 5 * g i) (.inr (1, [.ref (h + 2 + 5 * g i + 1), .ref (h + 2 + 5 * g i + 3), .int (nI e.1), .int (bI e.2.2.isNone), .int (bI (nm.isPrefixOf e.2.1))]))) (h + 2 + 5 * g i) (h + 2 + 5 * g i + 5) := xup_R _ _ (by omega) (by omega)
          refine next _ _ (hs1.set (i := i) (e' := (e, nm.isPrefixOf e.2.1)) (by omega) hfr ⟨xup_s _ _ _, e2, e3.kept (xup_n _ _ (by omega)) (xup_n _ _ (by omega)), v, e4.kept (xup_n _ _ (by omega)) (xup_n _ _ (by omega)), e5⟩) (hf.tr (hfr.wide (by omega) (by omega))) (fun j hj => by simp only [if_neg hj]) ?_
          simp only [if_true]
          simp [beh, q, q1]
  refine xg_iconst (pc := 0) hX (nI 0) d_She_clearBehind_0 ci_iconst_0 ?_
  refine xp_istore_3 (pc := 1) hX d_She_clearBehind_1 (by decide) ?_
  refine loop es.length 0 M L (by omega) hs.1 (FrR.rf M _ _) (fun j e he => ?_)
  rw [hs.2 j e he, if_neg (by omega)]
