/-! the reference: nameOf -/
theorem sl_idx {bs : List UInt8} {a b : Nat} (hb : b ≤ bs.length) (h : dotF bs a b < b) : bs[dotF bs a b]? = some 46 := by
  unfold dotF at h ⊢
  have hl := sl_len (a := a) hb
  have hi : (sl bs a b).idxOf 46 < (sl bs a b).length := by omega
  have h1 := List.getElem_idxOf hi
  have h2 := sl_at (bs := bs) (a := a) (b := b) (j := (sl bs a b).idxOf 46) (by omega)
  rw [← h2, List.getElem?_eq_getElem hi, h1]
theorem sl_nidx {bs : List UInt8} {a b i : Nat} (hb : b ≤ bs.length) (hi1 : a ≤ i) (hi2 : i < dotF bs a b) (hi3 : i < b) : ¬ bs[i]? = some 46 := by
  unfold dotF at hi2
  have hl := sl_len (a := a) hb
  intro h
  have h2 := sl_at (bs := bs) (a := a) (b := b) (j := i - a) (by omega)
  rw [show a + (i - a) = i by omega, h] at h2
  obtain ⟨q1, q2⟩ := List.getElem?_eq_some_iff.mp h2
  have h3 := List.not_of_lt_findIdx (p := fun c => c == (46 : UInt8)) (xs := sl bs a b) (i := i - a) (show i - a < (sl bs a b).idxOf 46 by omega)
  rw [q2] at h3
  exact absurd h3 (by decide)
theorem dig_cap (c : UInt8) : dig (cap c) = dig c := by
  have h := cap_toNat c
  unfold dig
  rw [h]
  split
  · rename_i q
    rw [show decide (c.toNat - 32 ≤ 57) = false by rw [decide_eq_false_iff_not]; omega, show decide (c.toNat ≤ 57) = false by rw [decide_eq_false_iff_not]; omega]
    simp
  · rfl
theorem cap_46 {c : UInt8} (h : cap c = 46) : c = 46 := by
  have h1 := cap_toNat c
  rw [h] at h1
  have h2 : (46 : UInt8).toNat = 46 := rfl
  rw [h2] at h1
  apply UInt8.toNat_inj.mp
  rw [h2]
  split at h1 <;> omega
theorem nco_no {l : List UInt8} (h : ¬ (46 : UInt8) ∈ l) : isCo l = false := by
  unfold isCo
  rw [decide_eq_false_iff_not]
  have : l.idxOf 46 = l.length := List.idxOf_eq_length h
  omega
/-- a tail without a period: what it stands for, by the entry that it tells -/
theorem tvE_tell {es : List xEn} {se : List xSe} {ip : Nat} {l : List UInt8} (hn : ¬ (46 : UInt8) ∈ l) : tvE es se ip l = if 0 < l.length ∧ odig l[0]? = false then (match tellI es se ip l with | none => l | some i => (match es[i]? with | none => l | some e => e.2.2.getD l)) else l := by
  unfold tvE
  split
  · cases hi : eIdx es (own se l ip) l with
    | none =>
      have : tellI es se ip l = none := by
        rw [tellI_st hi]
        unfold stI
        rw [if_neg (by rw [nco_no hn]; decide)]
      rw [this]
    | some i =>
      obtain ⟨vo, hvo⟩ := eIdx_get hi
      rw [tellI_own hi hvo]
      cases vo with
      | none => simp [hvo]
      | some u => simp [hvo]
  · rfl
/-- the scratch row's first bytes, as many as it has room for -/
def KpA (M : xH) (O : Nat) (acc : List UInt8) : Prop := ∃ f : Nat → Int32, M (O + 15) = some (.inl (1, 201, .inl f)) ∧ ∀ (j : Nat) (b : UInt8), j < 201 → acc[j]? = some b → f j = nI b.toNat
theorem KpA.ext {M : xH} {O : Nat} {acc z : List UInt8} (h : KpA M O acc) (hl : 201 ≤ acc.length) : KpA M O (acc ++ z) := by
  obtain ⟨f, h1, h2⟩ := h
  refine ⟨f, h1, fun j b hj hb => h2 j b hj ?_⟩
  rw [List.getElem?_append_left (by omega)] at hb
  exact hb
theorem KpA.push {M : xH} {O : Nat} {acc : List UInt8} {f : Nat → Int32} {b : UInt8} (h2 : ∀ (j : Nat) (b : UInt8), j < 201 → acc[j]? = some b → f j = nI b.toNat) : KpA (xup M (O + 15) (.inl (1, 201, .inl (upd f acc.length (nI b.toNat))))) O (acc ++ [b]) := by
  refine ⟨_, xup_s _ _ _, fun j c hj hc => ?_⟩
  by_cases e : j = acc.length
  · subst e
    simp at hc
    subst hc
    exact pk_us
  · rw [List.getElem?_append] at hc
    split at hc
    · rw [pk_un e]; exact h2 j c hj hc
    · have := (List.getElem?_eq_some_iff.mp hc).1
      simp at this
      omega
theorem KpA.ke {M : xH} {O : Nat} {acc : List UInt8} (h : KpA M O acc) : KeM M O := ⟨h.choose, h.choose_spec.1⟩
section XM8
variable {t x out full : List UInt8} {es : List xEn} {pool : Nat} {se : List xSe} {sub fd : List UInt8} {fr bg : Nat} {wr : Option Nat} {nx kd fi la va : Nat}
set_option maxHeartbeats 16000000 in
set_option maxRecDepth 100000 in
theorem c_Mod_nameOf (d : Nat) {M : xH} {sz O a b : Nat} (h : Wd M O t x out full es pool se sub fd fr bg wr nx kd fi la va) (hso : SeO se) (hgI : gI es) (hab : a < b) (hb : b ≤ x.length) (hba : b - a ≤ 30) : xC (d + 4) 0 0 Y_Mod_nameOf [.ref O, .int (nI a), .int (nI b)] M sz (qi sz (fun y M' => (((FN es se pool x a b).length ≤ 200 ∧ y = nI 1 ∧ Wd M' O t x out (FN es se pool x a b) es pool se sub fd fr bg wr nx kd fi la va) ∨ (200 < (FN es se pool x a b).length ∧ y = nI 0 ∧ ∃ f, Wd M' O t x out f es pool se sub fd fr bg wr nx kd fi la va)) ∧ FrO M M' O)) := by
  refine xC_of (by decide) (Nat.le_of_ble_eq_true rfl) (by simp [Value.category]) (vs := [some (.ref O), some (.int (nI a)), some (.int (nI b)), none, none, none, none, none, none, none]) rfl (fun K hX hE => ?_)
  have hx6 := h.xl.2.1
  have hdl := dotF_le (bs := x) (a := a) (b := b) (by omega) hb
  -- the end: the name goes into full
  have k320 : ∀ (acc full1 : List UInt8) (M1 : xH) (v4 v5 v6 v7 v8 v9 : Option Value), KpA M1 O acc → Wd M1 O t x out full1 es pool se sub fd fr bg wr nx kd fi la va → FrO M M1 O → FN es se pool x a b = acc → xG K 320 [some (.ref O), some (.int (nI a)), some (.int (nI b)), some (.int (nI (min acc.length 201))), v4, v5, v6, v7, v8, v9] [] M1 sz 0 0 := by
    rintro acc full1 M1 v4 v5 v6 v7 v8 v9 ⟨f, kp1, kp2⟩ w1 f1 hFN
    rw [hFN] at hE
    obtain ⟨h0, -, -, -, ⟨h4l, g0, h4a, h4b⟩, -⟩ := id w1
    have htl : (acc.take 201).length = min acc.length 201 := by rw [List.length_take]; omega
    refine xp_aload_0 (pc := 320) hX d_Mod_nameOf_320 ?_
    refine xp_iload_3 (pc := 321) hX d_Mod_nameOf_321 ?_
    refine xg_put (pc := 322) hX (j := 7) k_Mod d_Mod_nameOf_322 l_Mod_95 (by decide) rfl (by first | assumption | exact xup_s _ _ _ | exact xup_o (by omega) (by assumption) | exact xup_o (by omega) (xup_s _ _ _) | exact xup_o (by omega) (xup_o (by omega) (by assumption)) | exact xup_o (by omega) (xup_o (by omega) (xup_s _ _ _)) | exact xup_o (by omega) (xup_o (by omega) (xup_o (by omega) (by assumption)))) (Nat.le_of_ble_eq_true rfl) rfl rfl (by simp only [List.set_cons_zero, List.set_cons_succ]; exact rfl) ?_
    refine xg_iconst (pc := 325) hX (nI 0) d_Mod_nameOf_325 ci_iconst_0 ?_
    refine xp_istore_6 (pc := 326) hX d_Mod_nameOf_326 (by decide) ?_
    have loop : ∀ (r i : Nat) (M2 : xH) (g : Nat → Int32), min acc.length 201 - i = r → i ≤ min acc.length 201 → M2 O = some (moC O t x out (acc.take 201) es pool se sub fd fr bg wr nx kd fi la va) → M2 (O + 4) = some (.inl (1, 201, .inl g)) → (∀ j b, j < i → (acc.take 201)[j]? = some b → g j = nI b.toNat) → (∀ q, q ≠ O → q ≠ O + 4 → M2 q = M1 q) → xG K 328 [some (.ref O), some (.int (nI a)), some (.int (nI b)), some (.int (nI (min acc.length 201))), v4, v5, some (.int (nI i)), v7, v8, v9] [] M2 sz 0 0 := by
      intro r
      induction r with
      | zero =>
        intro i M2 g hr hi ho hg hgb hq
        have w2 : Wd M2 O t x out (acc.take 201) es pool se sub fd fr bg wr nx kd fi la va := w1.sf ho ⟨by omega, g, hg, fun j b hj => hgb j b (by have := (List.getElem?_eq_some_iff.mp hj).1; omega) hj⟩ hq
        have fe : FrO M M2 O := f1.tr (fun q hq1 => hq q (by omega) (by omega))
        refine xp_iload_6 (pc := 328) hX d_Mod_nameOf_328 ?_
        refine xp_iload_3 (pc := 330) hX d_Mod_nameOf_330 ?_
        refine xn_icmp_ge (pc := 331) hX 362 d_Mod_nameOf_331 (by decide) (by omega) (by omega) (fun _ => ?_) (fun z => absurd z (by omega))
        refine xp_iload_3 (pc := 362) hX d_Mod_nameOf_362 ?_
        refine xg_sipush (pc := 363) hX (nI 200) d_Mod_nameOf_363 ci_sipush_200 ?_
        refine xn_icmp_gt (pc := 366) hX 373 d_Mod_nameOf_366 (by decide) (by omega) (by omega) (fun z => ?_) (fun z => ?_)
        · refine xg_iconst (pc := 373) hX (nI 0) d_Mod_nameOf_373 ci_iconst_0 ?_
          refine xg_iret (pc := 374) hX hE d_Mod_nameOf_374 rfl rfl (by omega) (by omega) ?_
          exact ⟨rfl, _, rfl, Or.inr ⟨by omega, rfl, _, w2⟩, fe⟩
        · refine xg_iconst (pc := 369) hX (nI 1) d_Mod_nameOf_369 ci_iconst_1 ?_
          refine xg_goto (pc := 370) hX 374 d_Mod_nameOf_370 (by decide) ?_
          refine xg_iret (pc := 374) hX hE d_Mod_nameOf_374 rfl rfl (by omega) (by omega) ?_
          rw [List.take_of_length_le (by omega)] at w2
          exact ⟨rfl, _, rfl, Or.inl ⟨by omega, rfl, w2⟩, fe⟩
      | succ r ih =>
        intro i M2 g hr hi ho hg hgb hq
        have kp1' := (hq (O + 15) (by omega) (by omega)).trans kp1
        have hil : i < acc.length := by omega
        refine xp_iload_6 (pc := 328) hX d_Mod_nameOf_328 ?_
        refine xp_iload_3 (pc := 330) hX d_Mod_nameOf_330 ?_
        refine xn_icmp_ge (pc := 331) hX 362 d_Mod_nameOf_331 (by decide) (by omega) (by omega) (fun z => absurd z (by omega)) (fun _ => ?_)
        refine xp_iload_6 (pc := 334) hX d_Mod_nameOf_334 ?_
        refine xg_sipush (pc := 336) hX (nI 200) d_Mod_nameOf_336 ci_sipush_200 ?_
        refine xn_icmp_gt (pc := 339) hX 362 d_Mod_nameOf_339 (by decide) (by omega) (by omega) (fun z => absurd z (by omega)) (fun _ => ?_)
        refine xp_aload_0 (pc := 342) hX d_Mod_nameOf_342 ?_
        refine xg_get (pc := 343) hX (j := 3) k_Mod d_Mod_nameOf_343 l_Mod_19 (by decide) (by first | assumption | exact xup_s _ _ _ | exact xup_o (by omega) (by assumption) | exact xup_o (by omega) (xup_s _ _ _) | exact xup_o (by omega) (xup_o (by omega) (by assumption)) | exact xup_o (by omega) (xup_o (by omega) (xup_s _ _ _)) | exact xup_o (by omega) (xup_o (by omega) (xup_o (by omega) (by assumption)))) (by rfl) ?_
        refine xp_iload_6 (pc := 346) hX d_Mod_nameOf_346 ?_
        refine xp_aload_0 (pc := 348) hX d_Mod_nameOf_348 ?_
        refine xg_get (pc := 349) hX (j := 26) k_Mod d_Mod_nameOf_349 l_Mod_59 (by decide) (by first | assumption | exact xup_s _ _ _ | exact xup_o (by omega) (by assumption) | exact xup_o (by omega) (xup_s _ _ _) | exact xup_o (by omega) (xup_o (by omega) (by assumption)) | exact xup_o (by omega) (xup_o (by omega) (xup_s _ _ _)) | exact xup_o (by omega) (xup_o (by omega) (xup_o (by omega) (by assumption)))) (by rfl) ?_
        refine xp_iload_6 (pc := 352) hX d_Mod_nameOf_352 ?_
        refine xn_iald (pc := 354) hX d_Mod_nameOf_354 rfl (by first | assumption | exact xup_s _ _ _ | exact xup_o (by omega) (by assumption) | exact xup_o (by omega) (xup_s _ _ _) | exact xup_o (by omega) (xup_o (by omega) (by assumption)) | exact xup_o (by omega) (xup_o (by omega) (xup_s _ _ _)) | exact xup_o (by omega) (xup_o (by omega) (xup_o (by omega) (by assumption)))) (by omega) (by omega) ?_
        refine xn_iast (pc := 355) hX d_Mod_nameOf_355 rfl (by first | assumption | exact xup_s _ _ _ | exact xup_o (by omega) (by assumption) | exact xup_o (by omega) (xup_s _ _ _) | exact xup_o (by omega) (xup_o (by omega) (by assumption)) | exact xup_o (by omega) (xup_o (by omega) (xup_s _ _ _)) | exact xup_o (by omega) (xup_o (by omega) (xup_o (by omega) (by assumption)))) (by omega) (by omega) ?_
        refine xp_inc_6 (pc := 356) hX d_Mod_nameOf_356 (by decide) ?_
        refine xg_goto (pc := 359) hX 328 d_Mod_nameOf_359 (by decide) ?_
        refine ih (i + 1) _ _ (by omega) (by omega) ?_ (xup_s _ _ _) (fun j c hj hc => ?_) (fun q a b => ?_)
        · rw [xup_n _ _ (by omega)]; exact ho
        · by_cases e : j = i
          · subst e
            rw [pk_us]
            rw [List.getElem?_take_of_lt (by omega)] at hc
            exact kp2 j c (by omega) hc
          · rw [pk_un e]
            exact hgb j c (by omega) hc
        · rw [xup_n _ _ b]; exact hq q a b
    refine loop _ 0 _ g0 rfl (by omega) ?_ ?_ (fun j c hj => absurd hj (by omega)) (fun q a _ => xup_n _ _ a)
    · rw [xup_s]
      simp only [moC, htl]
    · rw [xup_n _ _ (by omega)]
      exact h4a
  -- a tail from k on
  have k120 : ∀ (fuel k : Nat) (acc full1 : List UInt8) (M1 : xH) (v5 v6 v7 v8 v9 : Option Value), a < k → k ≤ b → b - k + 1 ≤ fuel → KpA M1 O acc → Wd M1 O t x out full1 es pool se sub fd fr bg wr nx kd fi la va → FrO M M1 O → FN es se pool x a b = acc ++ tlS (tvE es se pool) x b fuel k → xG K 120 [some (.ref O), some (.int (nI a)), some (.int (nI b)), some (.int (nI (min acc.length 201))), some (.int (nI k)), v5, v6, v7, v8, v9] [] M1 sz 0 0 := by
    intro fuel
    induction fuel with
    | zero => intro k acc full1 M1 v5 v6 v7 v8 v9 h1 h2 h3; omega
    | succ fuel ih =>
      intro k acc full1 M1 v5 v6 v7 v8 v9 hk1 hk2 hfu hkp w1 f1 hFN
      have hel := dotF_le (bs := x) (a := k) (b := b) (by omega) hb
      have hFN2 : FN es se pool x a b = (if dotF x k b < b then acc ++ (tvE es se pool ((sl x k (dotF x k b)).map cap) ++ 46 :: tlS (tvE es se pool) x b fuel (dotF x k b + 1)) else acc ++ tvE es se pool ((sl x k b).map cap)) := by
        rw [hFN, tlS]
        split <;> rfl
      have hnodot : ¬ (46 : UInt8) ∈ (sl x k (dotF x k b)).map cap := by
        intro hm
        obtain ⟨c, hc1, hc2⟩ := List.mem_map.mp hm
        obtain ⟨j, hj⟩ := List.getElem?_of_mem hc1
        have hjl := (List.getElem?_eq_some_iff.mp hj).1
        rw [sl_len (by omega)] at hjl
        rw [sl_at (by omega), cap_46 hc2] at hj
        exact sl_nidx (a := k) (i := k + j) hb (by omega) (by omega) (by omega) hj
      have hed : dotF x k b < b → x[dotF x k b]? = some 46 := sl_idx hb
      generalize hee : dotF x k b = e at *
      have hxe : ((sl x k e).map cap).length = e - k := by rw [List.length_map, sl_len (by omega)]
      -- behind the tail
      have k273 : ∀ (full1 : List UInt8) (M2 : xH) (v5 v7 v8 v9 : Option Value), KpA M2 O (acc ++ tvE es se pool ((sl x k e).map cap)) → Wd M2 O t x out full1 es pool se sub fd fr bg wr nx kd fi la va → FrO M M2 O → xG K 273 [some (.ref O), some (.int (nI a)), some (.int (nI b)), some (.int (nI (min (acc ++ tvE es se pool ((sl x k e).map cap)).length 201))), some (.int (nI k)), v5, some (.int (nI e)), v7, v8, v9] [] M2 sz 0 0 := by
        intro full1 M2 v5 v7 v8 v9 hkp2 w2 f2
        generalize hTV : tvE es se pool ((sl x k e).map cap) = tv at *
        have kend : ∀ (M3 : xH) (acc3 : List UInt8), KpA M3 O acc3 → Wd M3 O t x out full1 es pool se sub fd fr bg wr nx kd fi la va → FrO M M3 O → acc3 = (if e < b then acc ++ tv ++ [46] else acc ++ tv) → xG K 300 [some (.ref O), some (.int (nI a)), some (.int (nI b)), some (.int (nI (min acc3.length 201))), some (.int (nI k)), some (.int (nI 0)), some (.int (nI e)), v7, v8, v9] [] M3 sz 0 0 := by
          intro M3 acc3 hkp3 w3 f3 hacc
          obtain ⟨h0, -, ⟨h2l, g, h2a, h2b⟩, -⟩ := id w3
          refine xp_iload_6 (pc := 300) hX d_Mod_nameOf_300 ?_
          refine xg_iconst (pc := 302) hX (nI 1) d_Mod_nameOf_302 ci_iconst_1 ?_
          first | refine xn_iadd (pc := 303) hX d_Mod_nameOf_303 ?_ | refine xg_iadd (pc := 303) hX d_Mod_nameOf_303 ?_
          refine xp_istore_4 (pc := 304) hX d_Mod_nameOf_304 (by decide) ?_
          refine xp_iload_6 (pc := 306) hX d_Mod_nameOf_306 ?_
          refine xp_iload_2 (pc := 308) hX d_Mod_nameOf_308 ?_
          refine xn_icmp_ne (pc := 309) hX 317 d_Mod_nameOf_309 (by decide) (by omega) (by omega) (fun z => ?_) (fun z => ?_)
          · have hlt : e < b := by omega
            rw [if_pos hlt] at hacc hFN2
            refine xg_goto (pc := 317) hX 83 d_Mod_nameOf_317 (by decide) ?_
            refine xp_iload_4 (pc := 83) hX d_Mod_nameOf_83 ?_
            refine xp_iload_2 (pc := 85) hX d_Mod_nameOf_85 ?_
            refine xn_icmp_gt (pc := 86) hX 320 d_Mod_nameOf_86 (by decide) (by omega) (by omega) (fun z => absurd z (by omega)) (fun _ => ?_)
            refine xp_iload_4 (pc := 89) hX d_Mod_nameOf_89 ?_
            refine xp_iload_1 (pc := 91) hX d_Mod_nameOf_91 ?_
            refine xn_icmp_le (pc := 92) hX 320 d_Mod_nameOf_92 (by decide) (by omega) (by omega) (fun z => absurd z (by omega)) (fun _ => ?_)
            refine xp_aload_0 (pc := 95) hX d_Mod_nameOf_95 ?_
            refine xg_get (pc := 96) hX (j := 1) k_Mod d_Mod_nameOf_96 l_Mod_13 (by decide) (by first | assumption | exact xup_s _ _ _ | exact xup_o (by omega) (by assumption) | exact xup_o (by omega) (xup_s _ _ _) | exact xup_o (by omega) (xup_o (by omega) (by assumption)) | exact xup_o (by omega) (xup_o (by omega) (xup_s _ _ _)) | exact xup_o (by omega) (xup_o (by omega) (xup_o (by omega) (by assumption)))) (by rfl) ?_
            refine xp_iload_4 (pc := 99) hX d_Mod_nameOf_99 ?_
            refine xg_iconst (pc := 101) hX (nI 1) d_Mod_nameOf_101 ci_iconst_1 ?_
            first | refine xn_isub (pc := 102) hX d_Mod_nameOf_102 (by omega) ?_ | refine xg_isub (pc := 102) hX d_Mod_nameOf_102 ?_
            refine xn_iald (pc := 103) hX d_Mod_nameOf_103 rfl (by first | assumption | exact xup_s _ _ _ | exact xup_o (by omega) (by assumption) | exact xup_o (by omega) (xup_s _ _ _) | exact xup_o (by omega) (xup_o (by omega) (by assumption)) | exact xup_o (by omega) (xup_o (by omega) (xup_s _ _ _)) | exact xup_o (by omega) (xup_o (by omega) (xup_o (by omega) (by assumption)))) (by omega) (by omega) ?_
            rw [show e + 1 - 1 = e by omega, h2b e 46 (hed hlt)]
            refine xg_bipush (pc := 104) hX (nI 46) d_Mod_nameOf_104 ci_bipush_46 ?_
            refine xn_icmp_ne (a := (46 : UInt8).toNat) (pc := 106) hX 320 d_Mod_nameOf_106 (by decide) (by decide) (by decide) (fun z => absurd rfl z) (fun _ => ?_)
            have go : xG K 120 [some (.ref O), some (.int (nI a)), some (.int (nI b)), some (.int (nI (min acc3.length 201))), some (.int (nI (e + 1))), some (.int (nI 0)), some (.int (nI e)), v7, v8, v9] [] M3 sz 0 0 := by
              refine ih (e + 1) acc3 full1 M3 _ _ _ _ _ (by omega) (by omega) (by omega) hkp3 w3 f3 ?_
              rw [hFN2, hacc]
              simp
            refine xp_iload_4 (pc := 109) hX d_Mod_nameOf_109 ?_
            refine xp_iload_2 (pc := 111) hX d_Mod_nameOf_111 ?_
            refine xn_icmp_lt (pc := 112) hX 120 d_Mod_nameOf_112 (by decide) (by omega) (by omega) (fun _ => go) (fun _ => ?_)
            refine xp_iload_5 (pc := 115) hX d_Mod_nameOf_115 ?_
            exact xn_if_ne (a := 0) (pc := 117) hX 320 d_Mod_nameOf_117 (by decide) (by decide) (fun z => absurd z (by decide)) (fun _ => go)
          · have hnl : ¬ e < b := by omega
            rw [if_neg hnl] at hacc hFN2
            refine xp_iload_2 (pc := 312) hX d_Mod_nameOf_312 ?_
            refine xg_iconst (pc := 313) hX (nI 1) d_Mod_nameOf_313 ci_iconst_1 ?_
            first | refine xn_iadd (pc := 314) hX d_Mod_nameOf_314 ?_ | refine xg_iadd (pc := 314) hX d_Mod_nameOf_314 ?_
            refine xp_istore_4 (pc := 315) hX d_Mod_nameOf_315 (by decide) ?_
            refine xg_goto (pc := 317) hX 83 d_Mod_nameOf_317 (by decide) ?_
            refine xp_iload_4 (pc := 83) hX d_Mod_nameOf_83 ?_
            refine xp_iload_2 (pc := 85) hX d_Mod_nameOf_85 ?_
            refine xn_icmp_gt (pc := 86) hX 320 d_Mod_nameOf_86 (by decide) (by omega) (by omega) (fun _ => ?_) (fun z => absurd z (by omega))
            exact k320 acc3 full1 M3 _ _ _ _ _ _ hkp3 w3 f3 (by rw [hFN2, hacc, ← hTV, z])
        obtain ⟨f, kp1, kp2⟩ := id hkp2
        obtain ⟨h0, -⟩ := id w2
        refine xg_iconst (pc := 273) hX (nI 0) d_Mod_nameOf_273 ci_iconst_0 ?_
        refine xp_istore_5 (pc := 274) hX d_Mod_nameOf_274 (by decide) ?_
        refine xp_iload_6 (pc := 276) hX d_Mod_nameOf_276 ?_
        refine xp_iload_2 (pc := 278) hX d_Mod_nameOf_278 ?_
        refine xn_icmp_ge (pc := 279) hX 300 d_Mod_nameOf_279 (by decide) (by omega) (by omega) (fun z => ?_) (fun z => ?_)
        · exact kend M2 _ hkp2 w2 f2 (by rw [if_neg (by omega)])
        · refine xp_iload_3 (pc := 282) hX d_Mod_nameOf_282 ?_
          refine xg_sipush (pc := 283) hX (nI 200) d_Mod_nameOf_283 ci_sipush_200 ?_
          refine xn_icmp_gt (pc := 286) hX 300 d_Mod_nameOf_286 (by decide) (by omega) (by omega) (fun z1 => ?_) (fun z1 => ?_)
          · have := kend M2 _ (hkp2.ext (z := [46]) (by omega)) w2 f2 (by rw [if_pos z])
            rw [List.length_append (bs := [46])] at this
            rw [show min ((acc ++ tv).length + [(46 : UInt8)].length) 201 = min (acc ++ tv).length 201 by simp only [List.length_cons, List.length_nil]; omega] at this
            exact this
          · have hml : min (acc ++ tv).length 201 = (acc ++ tv).length := by omega
            rw [hml]
            refine xp_aload_0 (pc := 289) hX d_Mod_nameOf_289 ?_
            refine xg_get (pc := 290) hX (j := 26) k_Mod d_Mod_nameOf_290 l_Mod_59 (by decide) (by first | assumption | exact xup_s _ _ _ | exact xup_o (by omega) (by assumption) | exact xup_o (by omega) (xup_s _ _ _) | exact xup_o (by omega) (xup_o (by omega) (by assumption)) | exact xup_o (by omega) (xup_o (by omega) (xup_s _ _ _)) | exact xup_o (by omega) (xup_o (by omega) (xup_o (by omega) (by assumption)))) (by rfl) ?_
            refine xp_iload_3 (pc := 293) hX d_Mod_nameOf_293 ?_
            refine xg_bipush (pc := 294) hX (nI 46) d_Mod_nameOf_294 ci_bipush_46 ?_
            refine xn_iast (pc := 296) hX d_Mod_nameOf_296 rfl (by first | assumption | exact xup_s _ _ _ | exact xup_o (by omega) (by assumption) | exact xup_o (by omega) (xup_s _ _ _) | exact xup_o (by omega) (xup_o (by omega) (by assumption)) | exact xup_o (by omega) (xup_o (by omega) (xup_s _ _ _)) | exact xup_o (by omega) (xup_o (by omega) (xup_o (by omega) (by assumption)))) (by omega) (by omega) ?_
            refine xp_inc_3 (pc := 297) hX d_Mod_nameOf_297 (by decide) ?_
            have hp := KpA.push (M := M2) (O := O) (b := 46) kp2
            have := kend _ _ hp (w2.sk hp.ke (fun q hq => xup_n _ _ hq)) (f2.up' _ (by omega) (by omega)) (by rw [if_pos z])
            rw [List.length_append (bs := [46])] at this
            rw [show min ((acc ++ tv).length + [(46 : UInt8)].length) 201 = (acc ++ tv).length + 1 by simp only [List.length_cons, List.length_nil]; omega] at this
            exact this
      -- the tail's bytes come, one by one
      have k208 : ∀ (vo : Option Nat) (full1 : List UInt8) (v5 : Option Value), (match vo with | none => tvE es se pool ((sl x k e).map cap) = (sl x k e).map cap | some i => ∃ p nm u, es[i]? = some (p, nm, some u) ∧ tvE es se pool ((sl x k e).map cap) = u) → ∀ (r i : Nat) (M2 : xH), (tvE es se pool ((sl x k e).map cap)).length - i = r → i ≤ (tvE es se pool ((sl x k e).map cap)).length → KpA M2 O (acc ++ (tvE es se pool ((sl x k e).map cap)).take i) → Wd M2 O t x out full1 es pool se sub fd fr bg wr nx kd fi la va → FrO M M2 O → xG K 208 [some (.ref O), some (.int (nI a)), some (.int (nI b)), some (.int (nI (min (acc ++ (tvE es se pool ((sl x k e).map cap)).take i).length 201))), some (.int (nI k)), v5, some (.int (nI e)), some (.int (wI vo)), some (.int (nI (tvE es se pool ((sl x k e).map cap)).length)), some (.int (nI i))] [] M2 sz 0 0 := by
        intro vo full1 v5 hvo r
        have htvl : (tvE es se pool ((sl x k e).map cap)).length ≤ 200 := by
          cases vo with
          | none =>
            rw [show tvE es se pool ((sl x k e).map cap) = (sl x k e).map cap from hvo, hxe]
            omega
          | some i0 =>
            obtain ⟨p, nm, u, e1, e2⟩ := hvo
            rw [e2]
            obtain ⟨_, _, _, _, _, -, -, -, -, -, w⟩ := (id h).2.2.2.2.2.1.2
            exact (((w i0 _ e1).2 trivial).2 u rfl).1
        generalize hTV : tvE es se pool ((sl x k e).map cap) = tv at *
        induction r with
        | zero =>
          intro i M2 hr hi hkp2 w2 f2
          rw [List.take_of_length_le (by omega)] at hkp2 ⊢
          refine xp_iload_9 (pc := 208) hX d_Mod_nameOf_208 ?_
          refine xp_iload_8 (pc := 210) hX d_Mod_nameOf_210 ?_
          exact xn_icmp_ge (pc := 212) hX 273 d_Mod_nameOf_212 (by decide) (by omega) (by omega) (fun _ => k273 full1 M2 _ _ _ _ hkp2 w2 f2) (fun z => absurd z (by omega))
        | succ r ihr =>
          intro i M2 hr hi hkp2 w2 f2
          have hi1 : i < tv.length := by omega
          refine xp_iload_9 (pc := 208) hX d_Mod_nameOf_208 ?_
          refine xp_iload_8 (pc := 210) hX d_Mod_nameOf_210 ?_
          refine xn_icmp_ge (pc := 212) hX 273 d_Mod_nameOf_212 (by decide) (by omega) (by omega) (fun z => absurd z (by omega)) (fun _ => ?_)
          refine xp_iload_3 (pc := 215) hX d_Mod_nameOf_215 ?_
          refine xg_sipush (pc := 216) hX (nI 200) d_Mod_nameOf_216 ci_sipush_200 ?_
          refine xn_icmp_gt (pc := 219) hX 273 d_Mod_nameOf_219 (by decide) (by omega) (by omega) (fun z => ?_) (fun z => ?_)
          · have hsp : acc ++ tv = (acc ++ tv.take i) ++ tv.drop i := by rw [List.append_assoc, List.take_append_drop]
            have hlen : min (acc ++ tv.take i).length 201 = min (acc ++ tv).length 201 := by
              rw [hsp, List.length_append (bs := tv.drop i)]
              omega
            have := k273 full1 M2 v5 (some (.int (wI vo))) (some (.int (nI tv.length))) (some (.int (nI i))) (by rw [hsp]; exact hkp2.ext (by omega)) w2 f2
            rw [hlen]
            exact this
          · have hml : min (acc ++ tv.take i).length 201 = (acc ++ tv.take i).length := by omega
            rw [hml]
            obtain ⟨f, kp1, kp2⟩ := id hkp2
            obtain ⟨h0, -, ⟨h2l, g, h2a, h2b⟩, -, -, ⟨h5l, fn, fz, fv, fvz, fp, h5, h6, h7, h8, h9, h10⟩, -⟩ := id w2
            have htk : acc ++ tv.take (i + 1) = acc ++ tv.take i ++ [tv[i]] := by
              rw [List.take_succ_eq_append_getElem hi1, List.append_assoc]
            have k263 : ∀ (y : Int32), y = nI tv[i].toNat → xG K 263 [some (.ref O), some (.int (nI a)), some (.int (nI b)), some (.int (nI (acc ++ tv.take i).length)), some (.int (nI k)), v5, some (.int (nI e)), some (.int (wI vo)), some (.int (nI tv.length)), some (.int (nI i))] [.int y, .int (nI (acc ++ tv.take i).length), .ref (O + 15)] M2 sz 0 0 := by
              rintro y rfl
              refine xn_iast (pc := 263) hX d_Mod_nameOf_263 rfl (by first | assumption | exact xup_s _ _ _ | exact xup_o (by omega) (by assumption) | exact xup_o (by omega) (xup_s _ _ _) | exact xup_o (by omega) (xup_o (by omega) (by assumption)) | exact xup_o (by omega) (xup_o (by omega) (xup_s _ _ _)) | exact xup_o (by omega) (xup_o (by omega) (xup_o (by omega) (by assumption)))) (by omega) (by omega) ?_
              refine xp_inc_3 (pc := 264) hX d_Mod_nameOf_264 (by decide) ?_
              refine xp_inc_9 (pc := 267) hX d_Mod_nameOf_267 (by decide) ?_
              refine xg_goto (pc := 270) hX 208 d_Mod_nameOf_270 (by decide) ?_
              have hp := KpA.push (M := M2) (O := O) (b := tv[i]) kp2
              have := ihr (i + 1) _ (by omega) (by omega) (by rw [htk]; exact hp) (w2.sk hp.ke (fun q hq => xup_n _ _ hq)) (f2.up' _ (by omega) (by omega))
              rw [htk, List.length_append (bs := [tv[i]]), show min ((acc ++ tv.take i).length + [tv[i]].length) 201 = (acc ++ tv.take i).length + 1 by simp only [List.length_cons, List.length_nil]; omega] at this
              exact this
            refine xp_aload_0 (pc := 222) hX d_Mod_nameOf_222 ?_
            refine xg_get (pc := 223) hX (j := 26) k_Mod d_Mod_nameOf_223 l_Mod_59 (by decide) (by first | assumption | exact xup_s _ _ _ | exact xup_o (by omega) (by assumption) | exact xup_o (by omega) (xup_s _ _ _) | exact xup_o (by omega) (xup_o (by omega) (by assumption)) | exact xup_o (by omega) (xup_o (by omega) (xup_s _ _ _)) | exact xup_o (by omega) (xup_o (by omega) (xup_o (by omega) (by assumption)))) (by rfl) ?_
            refine xp_iload_3 (pc := 226) hX d_Mod_nameOf_226 ?_
            refine xp_iload_7 (pc := 227) hX d_Mod_nameOf_227 ?_
            refine xg_iconst (pc := 229) hX (-1) d_Mod_nameOf_229 ci_iconst_m1 ?_
            cases vo with
            | none =>
              refine xg_icmp_ne (pc := 230) hX 249 d_Mod_nameOf_230 (by decide) (fun z => absurd rfl z) (fun _ => ?_)
              have hvo : tv = (sl x k e).map cap := hvo
              have hki : k + i < x.length := by rw [hvo, hxe] at hi1; omega
              have htvi : tv[i] = cap x[k + i] := by
                have h1 : tv[i]? = some (cap x[k + i]) := by
                  rw [hvo, List.getElem?_map, sl_at (by rw [hvo, hxe] at hi1; omega), List.getElem?_eq_getElem hki]
                  rfl
                rw [List.getElem?_eq_getElem hi1] at h1
                exact Option.some.inj h1
              refine xp_aload_0 (pc := 233) hX d_Mod_nameOf_233 ?_
              refine xg_get (pc := 234) hX (j := 1) k_Mod d_Mod_nameOf_234 l_Mod_13 (by decide) (by first | assumption | exact xup_s _ _ _ | exact xup_o (by omega) (by assumption) | exact xup_o (by omega) (xup_s _ _ _) | exact xup_o (by omega) (xup_o (by omega) (by assumption)) | exact xup_o (by omega) (xup_o (by omega) (xup_s _ _ _)) | exact xup_o (by omega) (xup_o (by omega) (xup_o (by omega) (by assumption)))) (by rfl) ?_
              refine xp_iload_4 (pc := 237) hX d_Mod_nameOf_237 ?_
              refine xp_iload_9 (pc := 239) hX d_Mod_nameOf_239 ?_
              first | refine xn_iadd (pc := 241) hX d_Mod_nameOf_241 ?_ | refine xg_iadd (pc := 241) hX d_Mod_nameOf_241 ?_
              refine xn_iald (pc := 242) hX d_Mod_nameOf_242 rfl (by first | assumption | exact xup_s _ _ _ | exact xup_o (by omega) (by assumption) | exact xup_o (by omega) (xup_s _ _ _) | exact xup_o (by omega) (xup_o (by omega) (by assumption)) | exact xup_o (by omega) (xup_o (by omega) (xup_s _ _ _)) | exact xup_o (by omega) (xup_o (by omega) (xup_o (by omega) (by assumption)))) (by omega) (by omega) ?_
              rw [h2b (k + i) x[k + i] (List.getElem?_eq_getElem hki)]
              refine xi_S (Y2 := Y_Mod_capital) (pc := 243) hX [_] m_Mod_capital d_Mod_nameOf_243 l_Mod_121 rfl rfl (by simp [Value.category]) (c_Mod_capital (d + 3) x[k + i]) (by omega) (by omega) ?_
              rintro y M3 ⟨rfl, rfl⟩
              refine xg_goto (pc := 246) hX 263 d_Mod_nameOf_246 (by decide) ?_
              exact k263 _ (by rw [htvi])
            | some i0 =>
              obtain ⟨p, nm, u, e1, e2⟩ := hvo
              have hi0 := (List.getElem?_eq_some_iff.mp e1).1
              obtain ⟨u1, u2⟩ := ((h10 i0 _ e1).2 trivial).2 u rfl
              refine xg_icmp_ne (pc := 230) hX 249 d_Mod_nameOf_230 (by decide) (fun _ => ?_) (fun z => absurd z (nI_nm1 (by omega)))
              refine xp_aload_0 (pc := 249) hX d_Mod_nameOf_249 ?_
              refine xg_get (pc := 250) hX (j := 10) k_Mod d_Mod_nameOf_250 l_Mod_28 (by decide) (by first | assumption | exact xup_s _ _ _ | exact xup_o (by omega) (by assumption) | exact xup_o (by omega) (xup_s _ _ _) | exact xup_o (by omega) (xup_o (by omega) (by assumption)) | exact xup_o (by omega) (xup_o (by omega) (xup_s _ _ _)) | exact xup_o (by omega) (xup_o (by omega) (xup_o (by omega) (by assumption)))) (by rfl) ?_
              refine xg_sipush (pc := 253) hX (nI 200) d_Mod_nameOf_253 ci_sipush_200 ?_
              refine xp_iload_7 (x := nI i0) (pc := 256) hX d_Mod_nameOf_256 ?_
              have hiu : u[i]? = some tv[i] := by
                rw [← e2, List.getElem?_eq_getElem hi1]
              have hul : i < u.length := (List.getElem?_eq_some_iff.mp hiu).1
              first | refine xn_imul (pc := 258) hX d_Mod_nameOf_258 ?_ | refine xg_imul (pc := 258) hX d_Mod_nameOf_258 ?_
              refine xp_iload_9 (pc := 259) hX d_Mod_nameOf_259 ?_
              first | refine xn_iadd (pc := 261) hX d_Mod_nameOf_261 ?_ | refine xg_iadd (pc := 261) hX d_Mod_nameOf_261 ?_
              refine xn_iald (pc := 262) hX d_Mod_nameOf_262 rfl (by first | assumption | exact xup_s _ _ _ | exact xup_o (by omega) (by assumption) | exact xup_o (by omega) (xup_s _ _ _) | exact xup_o (by omega) (xup_o (by omega) (by assumption)) | exact xup_o (by omega) (xup_o (by omega) (xup_s _ _ _)) | exact xup_o (by omega) (xup_o (by omega) (xup_o (by omega) (by assumption)))) (by omega) (by omega) ?_
              exact k263 _ (u2 i _ hiu)
      -- which entry the tail tells, if any
      have k180 : ∀ (vo : Option Nat) (full1 : List UInt8) (M2 : xH) (v5 v7 v8 v9 : Option Value), (match vo with | none => tvE es se pool ((sl x k e).map cap) = (sl x k e).map cap | some i => ∃ p nm u, es[i]? = some (p, nm, some u) ∧ tvE es se pool ((sl x k e).map cap) = u) → KpA M2 O acc → Wd M2 O t x out full1 es pool se sub fd fr bg wr nx kd fi la va → FrO M M2 O → xG K 180 [some (.ref O), some (.int (nI a)), some (.int (nI b)), some (.int (nI (min acc.length 201))), some (.int (nI k)), v5, some (.int (nI e)), v7, v8, v9] [.int (wI vo)] M2 sz 0 0 := by
        intro vo full1 M2 v5 v7 v8 v9 hvo hkp2 w2 f2
        have h208 := fun (v5 : Option Value) => k208 vo full1 v5 hvo _ 0 M2 rfl (Nat.zero_le _) (by simpa using hkp2) w2 f2
        simp only [List.take_zero, List.append_nil] at h208
        obtain ⟨fvz, hv1, hv2⟩ := w2.vz
        obtain ⟨h0, -⟩ := id w2
        refine xp_istore_7 (pc := 180) hX d_Mod_nameOf_180 (by decide) ?_
        refine xp_iload_7 (pc := 182) hX d_Mod_nameOf_182 ?_
        refine xg_iconst (pc := 184) hX (-1) d_Mod_nameOf_184 ci_iconst_m1 ?_
        cases vo with
        | none =>
          refine xg_icmp_ne (pc := 185) hX 196 d_Mod_nameOf_185 (by decide) (fun z => absurd rfl z) (fun _ => ?_)
          have hvo : tvE es se pool ((sl x k e).map cap) = (sl x k e).map cap := hvo
          rw [hvo, hxe] at h208
          refine xp_iload_6 (pc := 188) hX d_Mod_nameOf_188 ?_
          refine xp_iload_4 (pc := 190) hX d_Mod_nameOf_190 ?_
          first | refine xn_isub (pc := 192) hX d_Mod_nameOf_192 (by omega) ?_ | refine xg_isub (pc := 192) hX d_Mod_nameOf_192 ?_
          refine xg_goto (pc := 193) hX 203 d_Mod_nameOf_193 (by decide) ?_
          refine xp_istore_8 (pc := 203) hX d_Mod_nameOf_203 (by decide) ?_
          refine xg_iconst (pc := 205) hX (nI 0) d_Mod_nameOf_205 ci_iconst_0 ?_
          refine xp_istore_9 (pc := 206) hX d_Mod_nameOf_206 (by decide) ?_
          exact h208 _
        | some i0 =>
          obtain ⟨p, nm, u, e1, e2⟩ := hvo
          have hi0 := (List.getElem?_eq_some_iff.mp e1).1
          have hes := h.xl.2.2.2.2.1
          refine xg_icmp_ne (pc := 185) hX 196 d_Mod_nameOf_185 (by decide) (fun _ => ?_) (fun z => absurd z (nI_nm1 (by omega)))
          refine xp_aload_0 (pc := 196) hX d_Mod_nameOf_196 ?_
          refine xg_get (pc := 197) hX (j := 11) k_Mod d_Mod_nameOf_197 l_Mod_31 (by decide) (by first | assumption | exact xup_s _ _ _ | exact xup_o (by omega) (by assumption) | exact xup_o (by omega) (xup_s _ _ _) | exact xup_o (by omega) (xup_o (by omega) (by assumption)) | exact xup_o (by omega) (xup_o (by omega) (xup_s _ _ _)) | exact xup_o (by omega) (xup_o (by omega) (xup_o (by omega) (by assumption)))) (by rfl) ?_
          refine xp_iload_7 (x := nI i0) (pc := 200) hX d_Mod_nameOf_200 ?_
          refine xn_iald (pc := 202) hX d_Mod_nameOf_202 rfl (by first | assumption | exact xup_s _ _ _ | exact xup_o (by omega) (by assumption) | exact xup_o (by omega) (xup_s _ _ _) | exact xup_o (by omega) (xup_o (by omega) (by assumption)) | exact xup_o (by omega) (xup_o (by omega) (xup_s _ _ _)) | exact xup_o (by omega) (xup_o (by omega) (xup_o (by omega) (by assumption)))) (by omega) (by omega) ?_
          rw [hv2 i0 _ e1]
          rw [e2] at h208
          refine xp_istore_8 (pc := 203) hX d_Mod_nameOf_203 (by decide) ?_
          refine xg_iconst (pc := 205) hX (nI 0) d_Mod_nameOf_205 ci_iconst_0 ?_
          refine xp_istore_9 (pc := 206) hX d_Mod_nameOf_206 (by decide) ?_
          exact h208 _
      have hTVT := tvE_tell (es := es) (se := se) (ip := pool) hnodot
      obtain ⟨h0, -, ⟨h2l, g, h2a, h2b⟩, -⟩ := id w1
      -- the tail's end
      have k148 : ∀ (v5 v7 v8 v9 : Option Value), xG K 148 [some (.ref O), some (.int (nI a)), some (.int (nI b)), some (.int (nI (min acc.length 201))), some (.int (nI k)), v5, some (.int (nI e)), v7, v8, v9] [] M1 sz 0 0 := by
        intro v5 v7 v8 v9
        refine xp_iload_4 (pc := 148) hX d_Mod_nameOf_148 ?_
        refine xp_iload_6 (pc := 150) hX d_Mod_nameOf_150 ?_
        refine xn_icmp_ge (pc := 152) hX 179 d_Mod_nameOf_152 (by decide) (by omega) (by omega) (fun z => ?_) (fun z => ?_)
        · refine xg_iconst (pc := 179) hX (-1) d_Mod_nameOf_179 ci_iconst_m1 ?_
          refine k180 none full1 M1 _ _ _ _ ?_ hkp w1 f1
          show tvE es se pool ((sl x k e).map cap) = (sl x k e).map cap
          rw [hTVT, if_neg (by rw [hxe]; omega)]
        · have hkx : k < x.length := by omega
          have hfst : ((sl x k e).map cap)[0]? = some (cap x[k]) := by
            rw [List.getElem?_map, sl_at (by omega), Nat.add_zero, List.getElem?_eq_getElem hkx]
            rfl
          rw [hfst] at hTVT
          refine xp_aload_0 (pc := 155) hX d_Mod_nameOf_155 ?_
          refine xg_get (pc := 156) hX (j := 1) k_Mod d_Mod_nameOf_156 l_Mod_13 (by decide) (by first | assumption | exact xup_s _ _ _ | exact xup_o (by omega) (by assumption) | exact xup_o (by omega) (xup_s _ _ _) | exact xup_o (by omega) (xup_o (by omega) (by assumption)) | exact xup_o (by omega) (xup_o (by omega) (xup_s _ _ _)) | exact xup_o (by omega) (xup_o (by omega) (xup_o (by omega) (by assumption)))) (by rfl) ?_
          refine xp_iload_4 (pc := 159) hX d_Mod_nameOf_159 ?_
          refine xn_iald (pc := 161) hX d_Mod_nameOf_161 rfl (by first | assumption | exact xup_s _ _ _ | exact xup_o (by omega) (by assumption) | exact xup_o (by omega) (xup_s _ _ _) | exact xup_o (by omega) (xup_o (by omega) (by assumption)) | exact xup_o (by omega) (xup_o (by omega) (xup_s _ _ _)) | exact xup_o (by omega) (xup_o (by omega) (xup_o (by omega) (by assumption)))) (by omega) (by omega) ?_
          rw [h2b k x[k] (List.getElem?_eq_getElem hkx)]
          refine xi_S (Y2 := Y_Mod_isDigit) (pc := 162) hX [_] m_Mod_isDigit d_Mod_nameOf_162 l_Mod_81 rfl rfl (by simp [Value.category]) (c_Mod_isDigit (d + 3) (some x[k])) (by omega) (by omega) ?_
          rintro y M3 ⟨rfl, rfl⟩
          refine xg_if_ne (pc := 165) hX 179 d_Mod_nameOf_165 (by decide) (fun z1 => ?_) (fun z1 => ?_)
          · have z1 : dig x[k] = true := bI_ne0.mp z1
            refine xg_iconst (pc := 179) hX (-1) d_Mod_nameOf_179 ci_iconst_m1 ?_
            refine k180 none full1 M3 _ _ _ _ ?_ hkp w1 f1
            show tvE es se pool ((sl x k e).map cap) = (sl x k e).map cap
            rw [hTVT, if_neg (by rw [show odig (some (cap x[k])) = true from (dig_cap x[k]).trans z1]; simp)]
          · have z1 : dig x[k] = false := bI_eq0.mp z1
            rw [if_pos ⟨by rw [hxe]; omega, (dig_cap x[k]).trans z1⟩] at hTVT
            refine xp_aload_0 (pc := 168) hX d_Mod_nameOf_168 ?_
            refine xp_iload_4 (pc := 169) hX d_Mod_nameOf_169 ?_
            refine xp_iload_6 (pc := 171) hX d_Mod_nameOf_171 ?_
            refine xi_V (Y2 := Y_Mod_told) (pc := 173) hX [_, _] k_Mod m_Mod_told d_Mod_nameOf_173 l_Mod_131 rfl rfl (by simp [Value.category]) (by first | assumption | exact xup_s _ _ _ | exact xup_o (by omega) (by assumption) | exact xup_o (by omega) (xup_s _ _ _) | exact xup_o (by omega) (xup_o (by omega) (by assumption)) | exact xup_o (by omega) (xup_o (by omega) (xup_s _ _ _)) | exact xup_o (by omega) (xup_o (by omega) (xup_o (by omega) (by assumption)))) (c_Mod_told d w1 hso hgI (by omega) (by omega) (by omega)) (by omega) (by omega) ?_
            rintro y M4 ⟨rfl, w4, f4⟩
            refine xg_goto (pc := 176) hX 180 d_Mod_nameOf_176 (by decide) ?_
            refine k180 (tellI es se pool ((sl x k e).map cap)) _ M4 _ _ _ _ ?_ ?_ w4 (f1.tr f4.o)
            · cases htI : tellI es se pool ((sl x k e).map cap) with
              | none => rw [htI] at hTVT; exact hTVT
              | some i0 =>
                obtain ⟨⟨p, nm, vo⟩, u, q1, q2⟩ := tellI_some hgI htI
                dsimp only at q2
                subst q2
                rw [htI] at hTVT
                dsimp only at hTVT
                rw [q1] at hTVT
                exact ⟨p, nm, u, q1, hTVT⟩
            · obtain ⟨f, kp1, kp2⟩ := hkp
              exact ⟨f, by rw [f4 _ (by omega) (by omega)]; exact kp1, kp2⟩
      refine xp_iload_4 (pc := 120) hX d_Mod_nameOf_120 ?_
      refine xp_istore_6 (pc := 122) hX d_Mod_nameOf_122 (by decide) ?_
      have loop : ∀ (r i : Nat) (v5 v7 v8 v9 : Option Value), b - i = r → k ≤ i → i ≤ b → dotF x k b = dotF x i b → xG K 124 [some (.ref O), some (.int (nI a)), some (.int (nI b)), some (.int (nI (min acc.length 201))), some (.int (nI k)), v5, some (.int (nI i)), v7, v8, v9] [] M1 sz 0 0 := by
        intro r
        induction r with
        | zero =>
          intro i v5 v7 v8 v9 hr hi1 hi2 hd
          have hie : i = e := by
            rw [hee] at hd
            rw [hd, show i = b by omega, dotF_end]
          refine xp_iload_6 (pc := 124) hX d_Mod_nameOf_124 ?_
          refine xp_iload_2 (pc := 126) hX d_Mod_nameOf_126 ?_
          refine xn_icmp_ge (pc := 127) hX 148 d_Mod_nameOf_127 (by decide) (by omega) (by omega) (fun _ => ?_) (fun z => absurd z (by omega))
          rw [hie]
          exact k148 _ _ _ _
        | succ r ihr =>
          intro i v5 v7 v8 v9 hr hi1 hi2 hd
          have hix : i < x.length := by omega
          have b1 := by_lt x[i]
          refine xp_iload_6 (pc := 124) hX d_Mod_nameOf_124 ?_
          refine xp_iload_2 (pc := 126) hX d_Mod_nameOf_126 ?_
          refine xn_icmp_ge (pc := 127) hX 148 d_Mod_nameOf_127 (by decide) (by omega) (by omega) (fun z => absurd z (by omega)) (fun _ => ?_)
          refine xp_aload_0 (pc := 130) hX d_Mod_nameOf_130 ?_
          refine xg_get (pc := 131) hX (j := 1) k_Mod d_Mod_nameOf_131 l_Mod_13 (by decide) (by first | assumption | exact xup_s _ _ _ | exact xup_o (by omega) (by assumption) | exact xup_o (by omega) (xup_s _ _ _) | exact xup_o (by omega) (xup_o (by omega) (by assumption)) | exact xup_o (by omega) (xup_o (by omega) (xup_s _ _ _)) | exact xup_o (by omega) (xup_o (by omega) (xup_o (by omega) (by assumption)))) (by rfl) ?_
          refine xp_iload_6 (pc := 134) hX d_Mod_nameOf_134 ?_
          refine xn_iald (pc := 136) hX d_Mod_nameOf_136 rfl (by first | assumption | exact xup_s _ _ _ | exact xup_o (by omega) (by assumption) | exact xup_o (by omega) (xup_s _ _ _) | exact xup_o (by omega) (xup_o (by omega) (by assumption)) | exact xup_o (by omega) (xup_o (by omega) (xup_s _ _ _)) | exact xup_o (by omega) (xup_o (by omega) (xup_o (by omega) (by assumption)))) (by omega) (by omega) ?_
          rw [h2b i x[i] (List.getElem?_eq_getElem hix)]
          refine xg_bipush (pc := 137) hX (nI 46) d_Mod_nameOf_137 ci_bipush_46 ?_
          refine xn_icmp_eq (pc := 139) hX 148 d_Mod_nameOf_139 (by decide) (by omega) (by omega) (fun z => ?_) (fun z => ?_)
          · have hie : i = e := by
              rw [hee] at hd
              rw [hd, dotF_hit (by omega) hb (UInt8.toNat_inj.mp z)]
            rw [hie]
            exact k148 _ _ _ _
          · refine xp_inc_6 (pc := 142) hX d_Mod_nameOf_142 (by decide) ?_
            refine xg_goto (pc := 145) hX 124 d_Mod_nameOf_145 (by decide) ?_
            exact ihr (i + 1) _ _ _ _ (by omega) (by omega) (by omega) (by rw [hd]; exact dotF_miss (by omega) hb (fun q => z (by rw [q]; rfl)))
      exact loop _ k _ _ _ _ rfl (by omega) (by omega) rfl
  -- the first part
  have k83 : ∀ (M1 : xH) (k : Nat) (v6 v7 v8 v9 : Option Value), k = (if dotF x a b < b then dotF x a b + 1 else b) → KpA M1 O ((sl x a k).map cap) → Wd M1 O t x out full es pool se sub fd fr bg wr nx kd fi la va → FrO M M1 O → xG K 80 [some (.ref O), some (.int (nI a)), some (.int (nI b)), some (.int (nI (k - a))), some (.int (nI k)), some (.int (nI k)), v6, v7, v8, v9] [] M1 sz 0 0 := by
    intro M1 k v6 v7 v8 v9 hk hkp w1 f1
    have hkk : a < k ∧ k ≤ b := by split at hk <;> omega
    have hlen : ((sl x a k).map cap).length = k - a := by rw [List.length_map, sl_len (by omega)]
    have hmin : k - a = min ((sl x a k).map cap).length 201 := by omega
    obtain ⟨h0, -, ⟨h2l, g, h2a, h2b⟩, -⟩ := id w1
    have hkx : k - 1 < x.length := by omega
    have b1 := by_lt x[k - 1]
    rw [hmin]
    refine xg_iconst (pc := 80) hX (nI 1) d_Mod_nameOf_80 ci_iconst_1 ?_
    refine xp_istore_5 (pc := 81) hX d_Mod_nameOf_81 (by decide) ?_
    refine xp_iload_4 (pc := 83) hX d_Mod_nameOf_83 ?_
    refine xp_iload_2 (pc := 85) hX d_Mod_nameOf_85 ?_
    refine xn_icmp_gt (pc := 86) hX 320 d_Mod_nameOf_86 (by decide) (by omega) (by omega) (fun z => absurd z (by omega)) (fun _ => ?_)
    refine xp_iload_4 (pc := 89) hX d_Mod_nameOf_89 ?_
    refine xp_iload_1 (pc := 91) hX d_Mod_nameOf_91 ?_
    refine xn_icmp_le (pc := 92) hX 320 d_Mod_nameOf_92 (by decide) (by omega) (by omega) (fun z => absurd z (by omega)) (fun _ => ?_)
    refine xp_aload_0 (pc := 95) hX d_Mod_nameOf_95 ?_
    refine xg_get (pc := 96) hX (j := 1) k_Mod d_Mod_nameOf_96 l_Mod_13 (by decide) (by first | assumption | exact xup_s _ _ _ | exact xup_o (by omega) (by assumption) | exact xup_o (by omega) (xup_s _ _ _) | exact xup_o (by omega) (xup_o (by omega) (by assumption)) | exact xup_o (by omega) (xup_o (by omega) (xup_s _ _ _)) | exact xup_o (by omega) (xup_o (by omega) (xup_o (by omega) (by assumption)))) (by rfl) ?_
    refine xp_iload_4 (pc := 99) hX d_Mod_nameOf_99 ?_
    refine xg_iconst (pc := 101) hX (nI 1) d_Mod_nameOf_101 ci_iconst_1 ?_
    first | refine xn_isub (pc := 102) hX d_Mod_nameOf_102 (by omega) ?_ | refine xg_isub (pc := 102) hX d_Mod_nameOf_102 ?_
    refine xn_iald (pc := 103) hX d_Mod_nameOf_103 rfl (by first | assumption | exact xup_s _ _ _ | exact xup_o (by omega) (by assumption) | exact xup_o (by omega) (xup_s _ _ _) | exact xup_o (by omega) (xup_o (by omega) (by assumption)) | exact xup_o (by omega) (xup_o (by omega) (xup_s _ _ _)) | exact xup_o (by omega) (xup_o (by omega) (xup_o (by omega) (by assumption)))) (by omega) (by omega) ?_
    rw [h2b (k - 1) x[k - 1] (List.getElem?_eq_getElem hkx)]
    refine xg_bipush (pc := 104) hX (nI 46) d_Mod_nameOf_104 ci_bipush_46 ?_
    have hFN : FN es se pool x a b = if dotF x a b + 1 < b then (sl x a (dotF x a b + 1)).map cap ++ tlS (tvE es se pool) x b (b - dotF x a b) (dotF x a b + 1) else (sl x a b).map cap := rfl
    refine xn_icmp_ne (pc := 106) hX 320 d_Mod_nameOf_106 (by decide) (by omega) (by omega) (fun z => ?_) (fun z => ?_)
    · have hno : ¬ dotF x a b < b := by
        intro q
        rw [if_pos q] at hk
        have h1 := sl_idx hb q
        rw [show dotF x a b = k - 1 by omega, List.getElem?_eq_getElem hkx] at h1
        exact z (by rw [Option.some.inj h1]; rfl)
      rw [if_neg hno] at hk
      rw [if_neg (by omega)] at hFN
      exact k320 _ full M1 _ _ _ _ _ _ hkp w1 f1 (by rw [hFN, hk])
    · have hdd : dotF x a b = k - 1 := by
        rcases (show dotF x a b < b ∨ ¬ dotF x a b < b by omega) with q | q
        · rw [if_pos q] at hk; omega
        · exfalso
          refine sl_nidx (a := a) (i := k - 1) hb (by omega) (by omega) (by omega) ?_
          rw [List.getElem?_eq_getElem hkx]
          congr 1
          exact UInt8.toNat_inj.mp z
      refine xp_iload_4 (pc := 109) hX d_Mod_nameOf_109 ?_
      refine xp_iload_2 (pc := 111) hX d_Mod_nameOf_111 ?_
      refine xn_icmp_lt (pc := 112) hX 120 d_Mod_nameOf_112 (by decide) (by omega) (by omega) (fun z1 => ?_) (fun z1 => ?_)
      · rw [if_pos (by omega), show dotF x a b + 1 = k by omega] at hFN
        exact k120 (b - dotF x a b) k _ full M1 _ _ _ _ _ (by omega) (by omega) (by omega) hkp w1 f1 hFN
      · rw [if_neg (by omega)] at hFN
        refine xp_iload_5 (pc := 115) hX d_Mod_nameOf_115 ?_
        refine xn_if_ne (a := 1) (pc := 117) hX 320 d_Mod_nameOf_117 (by decide) (by decide) (fun _ => ?_) (fun z => absurd z (by decide))
        exact k320 _ full M1 _ _ _ _ _ _ hkp w1 f1 (by rw [hFN, show b = k by omega])
  have k48 : ∀ (k : Nat), k = (if dotF x a b < b then dotF x a b + 1 else b) → ∀ (r i : Nat) (M1 : xH) (v6 v7 v8 v9 : Option Value), k - i = r → a ≤ i → i ≤ k → KpA M1 O ((sl x a i).map cap) → Wd M1 O t x out full es pool se sub fd fr bg wr nx kd fi la va → FrO M M1 O → xG K 48 [some (.ref O), some (.int (nI a)), some (.int (nI b)), some (.int (nI (i - a))), some (.int (nI k)), some (.int (nI i)), v6, v7, v8, v9] [] M1 sz 0 0 := by
    intro k hk
    have hkk : a < k ∧ k ≤ b := by split at hk <;> omega
    intro r
    induction r with
    | zero =>
      intro i M1 v6 v7 v8 v9 hr hi1 hi2 hkp w1 f1
      have hie : i = k := by omega
      subst hie
      refine xp_iload_5 (pc := 48) hX d_Mod_nameOf_48 ?_
      refine xp_iload_4 (pc := 50) hX d_Mod_nameOf_50 ?_
      exact xn_icmp_ge (pc := 52) hX 80 d_Mod_nameOf_52 (by decide) (by omega) (by omega) (fun _ => k83 M1 i _ _ _ _ hk hkp w1 f1) (fun z => absurd z (by omega))
    | succ r ih =>
      intro i M1 v6 v7 v8 v9 hr hi1 hi2 hkp w1 f1
      have hix : i < x.length := by omega
      have hlen : ((sl x a i).map cap).length = i - a := by rw [List.length_map, sl_len (by omega)]
      obtain ⟨h0, -, ⟨h2l, g, h2a, h2b⟩, -⟩ := id w1
      obtain ⟨f, kp1, kp2⟩ := id hkp
      refine xp_iload_5 (pc := 48) hX d_Mod_nameOf_48 ?_
      refine xp_iload_4 (pc := 50) hX d_Mod_nameOf_50 ?_
      refine xn_icmp_ge (pc := 52) hX 80 d_Mod_nameOf_52 (by decide) (by omega) (by omega) (fun z => absurd z (by omega)) (fun _ => ?_)
      refine xp_aload_0 (pc := 55) hX d_Mod_nameOf_55 ?_
      refine xg_get (pc := 56) hX (j := 26) k_Mod d_Mod_nameOf_56 l_Mod_59 (by decide) (by first | assumption | exact xup_s _ _ _ | exact xup_o (by omega) (by assumption) | exact xup_o (by omega) (xup_s _ _ _) | exact xup_o (by omega) (xup_o (by omega) (by assumption)) | exact xup_o (by omega) (xup_o (by omega) (xup_s _ _ _)) | exact xup_o (by omega) (xup_o (by omega) (xup_o (by omega) (by assumption)))) (by rfl) ?_
      refine xp_iload_3 (pc := 59) hX d_Mod_nameOf_59 ?_
      refine xp_aload_0 (pc := 60) hX d_Mod_nameOf_60 ?_
      refine xg_get (pc := 61) hX (j := 1) k_Mod d_Mod_nameOf_61 l_Mod_13 (by decide) (by first | assumption | exact xup_s _ _ _ | exact xup_o (by omega) (by assumption) | exact xup_o (by omega) (xup_s _ _ _) | exact xup_o (by omega) (xup_o (by omega) (by assumption)) | exact xup_o (by omega) (xup_o (by omega) (xup_s _ _ _)) | exact xup_o (by omega) (xup_o (by omega) (xup_o (by omega) (by assumption)))) (by rfl) ?_
      refine xp_iload_5 (pc := 64) hX d_Mod_nameOf_64 ?_
      refine xn_iald (pc := 66) hX d_Mod_nameOf_66 rfl (by first | assumption | exact xup_s _ _ _ | exact xup_o (by omega) (by assumption) | exact xup_o (by omega) (xup_s _ _ _) | exact xup_o (by omega) (xup_o (by omega) (by assumption)) | exact xup_o (by omega) (xup_o (by omega) (xup_s _ _ _)) | exact xup_o (by omega) (xup_o (by omega) (xup_o (by omega) (by assumption)))) (by omega) (by omega) ?_
      rw [h2b i x[i] (List.getElem?_eq_getElem hix)]
      refine xi_S (Y2 := Y_Mod_capital) (pc := 67) hX [_] m_Mod_capital d_Mod_nameOf_67 l_Mod_121 rfl rfl (by simp [Value.category]) (c_Mod_capital (d + 3) x[i]) (by omega) (by omega) ?_
      rintro y M2 ⟨rfl, rfl⟩
      rw [← hlen]
      refine xn_iast (pc := 70) hX d_Mod_nameOf_70 rfl (by first | assumption | exact xup_s _ _ _ | exact xup_o (by omega) (by assumption) | exact xup_o (by omega) (xup_s _ _ _) | exact xup_o (by omega) (xup_o (by omega) (by assumption)) | exact xup_o (by omega) (xup_o (by omega) (xup_s _ _ _)) | exact xup_o (by omega) (xup_o (by omega) (xup_o (by omega) (by assumption)))) (by omega) (by omega) ?_
      refine xp_inc_3 (pc := 71) hX d_Mod_nameOf_71 (by decide) ?_
      refine xp_inc_5 (pc := 74) hX d_Mod_nameOf_74 (by decide) ?_
      refine xg_goto (pc := 77) hX 48 d_Mod_nameOf_77 (by decide) ?_
      have hp := KpA.push (M := M2) (O := O) (b := cap x[i]) kp2
      have hsl : (sl x a i).map cap ++ [cap x[i]] = (sl x a (i + 1)).map cap := by
        rw [sl_succ hi1 hix, List.map_append]
        rfl
      rw [hsl] at hp
      have := ih (i + 1) _ v6 v7 v8 v9 (by omega) (by omega) (by omega) hp (w1.sk hp.ke (fun q hq => xup_n _ _ hq)) (f1.up' _ (by omega) (by omega))
      rw [show i + 1 - a = ((sl x a i).map cap).length + 1 by omega] at this
      exact this
  have k29 : ∀ (v5 v6 v7 v8 v9 : Option Value), xG K 29 [some (.ref O), some (.int (nI a)), some (.int (nI b)), some (.int (nI 0)), some (.int (nI (dotF x a b))), v5, v6, v7, v8, v9] [] M sz 0 0 := by
    intro v5 v6 v7 v8 v9
    have hkp0 : KpA M O ((sl x a a).map cap) := by
      obtain ⟨-, -, -, -, -, -, -, -, -, f, h9⟩ := id h
      exact ⟨f, h9, fun j c _ hc => by rw [sl_same] at hc; simp at hc⟩
    have h48 := fun k hk => k48 k hk _ a M v6 v7 v8 v9 rfl (Nat.le_refl _) (by split at hk <;> omega) hkp0 h (FrO.rf _ _)
    rw [show a - a = 0 by omega] at h48
    refine xp_iload_4 (pc := 29) hX d_Mod_nameOf_29 ?_
    refine xp_iload_4 (pc := 31) hX d_Mod_nameOf_31 ?_
    refine xp_iload_2 (pc := 33) hX d_Mod_nameOf_33 ?_
    refine xn_icmp_ge (pc := 34) hX 41 d_Mod_nameOf_34 (by decide) (by omega) (by omega) (fun z => ?_) (fun z => ?_)
    · refine xg_iconst (pc := 41) hX (nI 0) d_Mod_nameOf_41 ci_iconst_0 ?_
      first | refine xn_iadd (pc := 42) hX d_Mod_nameOf_42 ?_ | refine xg_iadd (pc := 42) hX d_Mod_nameOf_42 ?_
      refine xp_istore_4 (pc := 43) hX d_Mod_nameOf_43 (by decide) ?_
      refine xp_iload_1 (pc := 45) hX d_Mod_nameOf_45 ?_
      refine xp_istore_5 (pc := 46) hX d_Mod_nameOf_46 (by decide) ?_
      exact h48 _ (by rw [if_neg (by omega)]; omega)
    · refine xg_iconst (pc := 37) hX (nI 1) d_Mod_nameOf_37 ci_iconst_1 ?_
      refine xg_goto (pc := 38) hX 42 d_Mod_nameOf_38 (by decide) ?_
      first | refine xn_iadd (pc := 42) hX d_Mod_nameOf_42 ?_ | refine xg_iadd (pc := 42) hX d_Mod_nameOf_42 ?_
      refine xp_istore_4 (pc := 43) hX d_Mod_nameOf_43 (by decide) ?_
      refine xp_iload_1 (pc := 45) hX d_Mod_nameOf_45 ?_
      refine xp_istore_5 (pc := 46) hX d_Mod_nameOf_46 (by decide) ?_
      exact h48 _ (by rw [if_pos z])
  obtain ⟨h0, -, ⟨h2l, g, h2a, h2b⟩, -⟩ := id h
  refine xg_iconst (pc := 0) hX (nI 0) d_Mod_nameOf_0 ci_iconst_0 ?_
  refine xp_istore_3 (pc := 1) hX d_Mod_nameOf_1 (by decide) ?_
  refine xp_iload_1 (pc := 2) hX d_Mod_nameOf_2 ?_
  refine xp_istore_4 (pc := 3) hX d_Mod_nameOf_3 (by decide) ?_
  have loop : ∀ (r i : Nat) (v5 v6 v7 v8 v9 : Option Value), b - i = r → a ≤ i → i ≤ b → dotF x a b = dotF x i b → xG K 5 [some (.ref O), some (.int (nI a)), some (.int (nI b)), some (.int (nI 0)), some (.int (nI i)), v5, v6, v7, v8, v9] [] M sz 0 0 := by
    intro r
    induction r with
    | zero =>
      intro i v5 v6 v7 v8 v9 hr hi1 hi2 hd
      have hie : i = dotF x a b := by
        rw [hd, show i = b by omega, dotF_end]
      refine xp_iload_4 (pc := 5) hX d_Mod_nameOf_5 ?_
      refine xp_iload_2 (pc := 7) hX d_Mod_nameOf_7 ?_
      refine xn_icmp_ge (pc := 8) hX 29 d_Mod_nameOf_8 (by decide) (by omega) (by omega) (fun _ => ?_) (fun z => absurd z (by omega))
      rw [hie]
      exact k29 _ _ _ _ _
    | succ r ihr =>
      intro i v5 v6 v7 v8 v9 hr hi1 hi2 hd
      have hix : i < x.length := by omega
      have b1 := by_lt x[i]
      refine xp_iload_4 (pc := 5) hX d_Mod_nameOf_5 ?_
      refine xp_iload_2 (pc := 7) hX d_Mod_nameOf_7 ?_
      refine xn_icmp_ge (pc := 8) hX 29 d_Mod_nameOf_8 (by decide) (by omega) (by omega) (fun z => absurd z (by omega)) (fun _ => ?_)
      refine xp_aload_0 (pc := 11) hX d_Mod_nameOf_11 ?_
      refine xg_get (pc := 12) hX (j := 1) k_Mod d_Mod_nameOf_12 l_Mod_13 (by decide) (by first | assumption | exact xup_s _ _ _ | exact xup_o (by omega) (by assumption) | exact xup_o (by omega) (xup_s _ _ _) | exact xup_o (by omega) (xup_o (by omega) (by assumption)) | exact xup_o (by omega) (xup_o (by omega) (xup_s _ _ _)) | exact xup_o (by omega) (xup_o (by omega) (xup_o (by omega) (by assumption)))) (by rfl) ?_
      refine xp_iload_4 (pc := 15) hX d_Mod_nameOf_15 ?_
      refine xn_iald (pc := 17) hX d_Mod_nameOf_17 rfl (by first | assumption | exact xup_s _ _ _ | exact xup_o (by omega) (by assumption) | exact xup_o (by omega) (xup_s _ _ _) | exact xup_o (by omega) (xup_o (by omega) (by assumption)) | exact xup_o (by omega) (xup_o (by omega) (xup_s _ _ _)) | exact xup_o (by omega) (xup_o (by omega) (xup_o (by omega) (by assumption)))) (by omega) (by omega) ?_
      rw [h2b i x[i] (List.getElem?_eq_getElem hix)]
      refine xg_bipush (pc := 18) hX (nI 46) d_Mod_nameOf_18 ci_bipush_46 ?_
      refine xn_icmp_eq (pc := 20) hX 29 d_Mod_nameOf_20 (by decide) (by omega) (by omega) (fun z => ?_) (fun z => ?_)
      · have hie : i = dotF x a b := by
          rw [hd, dotF_hit (by omega) hb (UInt8.toNat_inj.mp z)]
        rw [hie]
        exact k29 _ _ _ _ _
      · refine xp_inc_4 (pc := 23) hX d_Mod_nameOf_23 (by decide) ?_
        refine xg_goto (pc := 26) hX 5 d_Mod_nameOf_26 (by decide) ?_
        exact ihr (i + 1) _ _ _ _ _ (by omega) (by omega) (by omega) (by rw [hd]; exact dotF_miss (by omega) hb (fun q => z (by rw [q]; rfl)))
  exact loop _ a _ _ _ _ _ rfl (by omega) (by omega) rfl
end XM8
