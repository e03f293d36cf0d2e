/-! the reference: cut, parse -/
theorem ChP_skip {x : List UInt8} {e q : Nat} {L : List xTk} (he : e ≤ x.length) (h : ChP x e L q) : ChP x (sc bl x e x.length) L q := by
  cases L with
  | nil => show sc bl x _ _ = _; rw [sc_idem he]; exact h
  | cons k r =>
    obtain ⟨e', h1, h2, h3⟩ := h
    exact ⟨e', by rw [sc_idem he]; exact h1, by rw [sc_idem he]; exact h2, h3⟩
theorem ChP_snoc {x : List UInt8} {p e : Nat} {k : xTk} (h1 : sc bl x p x.length < x.length) (h2 : tok1 x (sc bl x p x.length) = ((e, true), some k)) : ∀ (L : List xTk) (b : Nat), ChP x b L p → ChP x b (L ++ [k]) e
  | [], b, h => ⟨e, by rw [show sc bl x b x.length = sc bl x p x.length from h]; exact h1, by rw [show sc bl x b x.length = sc bl x p x.length from h]; exact h2, rfl⟩
  | k2 :: r, b, ⟨e2, a1, a2, a3⟩ => ⟨e2, a1, a2, ChP_snoc h1 h2 r e2 a3⟩
theorem hndL_v {se : List xSe} {ip : Nat} {t sub : List UInt8} {pt : Nat} : ∀ (r : List xTk) (pf : Nat) (es : List xEn), (hndL se ip t sub pt r pf es).1 = nI 0 ∨ (hndL se ip t sub pt r pf es).1 = -2 ∨ (hndL se ip t sub pt r pf es).1 = -4
  | [], pf, es => Or.inl rfl
  | k :: r, pf, es => by
    unfold hndL
    split
    · exact hndL_v r _ _
    · exact hd1_nz
theorem keepIn_nI {e n : Nat} (h1 : 1 ≤ n) (h2 : n ≤ e) (he : e < 1000000) : keepIn e (nI n) = n := by
  unfold keepIn
  have h : (nI n).toInt = n := nI_toInt (by omega)
  rw [h, if_neg (by omega), if_neg (by omega)]
  omega
theorem tok1_nb {x : List UInt8} {s : Nat} {b : UInt8} (hb : x[s]? = some b) (hn : ¬ b.toNat = 32) (h : (tok1 x s).1.2 = true) : ∃ e k, tok1 x s = ((e, true), some k) := by
  have bf : ∀ (R : Nat × Bool), R.2 = true → R = (R.1, true) := fun R hR => by rw [← hR]
  unfold tok1 at h ⊢
  rw [hb] at h ⊢
  dsimp only at h ⊢
  rw [if_neg hn] at h ⊢
  by_cases c1 : b.toNat = 34 ∨ b.toNat = 39
  · rw [if_pos c1] at h ⊢
    by_cases c2 : (rdS x b s (x.length - s) (s + 1) 0).2 = true
    · rw [if_pos c2]; exact ⟨_, _, rfl⟩
    · rw [if_neg c2] at h; exact absurd h c2
  rw [if_neg c1] at h ⊢
  by_cases c3 : b.toNat = 40
  · rw [if_pos c3] at h ⊢
    by_cases c2 : (rdB x s).1.2 = true
    · rw [if_pos c2, bf _ c2]; exact ⟨_, _, rfl⟩
    · rw [if_neg c2] at h; exact absurd h c2
  rw [if_neg c3] at h ⊢
  by_cases c4 : b.toNat = 43 ∨ b.toNat = 45 ∨ b.toNat = 61
  · rw [if_pos c4] at h ⊢
    by_cases c2 : (rdP x (sc bl x (s + 1) x.length)).2 = true
    · rw [if_pos c2]; exact ⟨_, _, by rw [← bf _ c2]⟩
    · rw [if_neg c2] at h; exact absurd h c2
  rw [if_neg c4] at h ⊢
  by_cases c5 : dig b = true
  · rw [if_pos c5] at h ⊢
    by_cases c2 : (rdP x s).2 = true
    · rw [if_pos c2]; exact ⟨_, _, by rw [← bf _ c2]⟩
    · rw [if_neg c2] at h; exact absurd h c2
  rw [if_neg c5] at h ⊢
  by_cases c6 : b.toNat = 46 ∧ osym x[s + 1]? = false
  · rw [if_pos c6]; exact ⟨_, _, rfl⟩
  · rw [if_neg c6] at h ⊢
    by_cases c2 : (rdV x s).2 = true
    · rw [if_pos c2]; exact ⟨_, _, by rw [← bf _ c2]⟩
    · rw [if_neg c2] at h; exact absurd h c2
theorem tok1_b {x : List UInt8} {s : Nat} {b : UInt8} (hb : x[s]? = some b) (hn : b.toNat = 32) : tok1 x s = ((s + 1, true), none) := by
  unfold tok1
  rw [hb]
  dsimp only
  rw [if_pos hn]
/-- a template that was read is a chain of tokens; where it is WRONG the chain breaks -/
theorem toks_ch {x : List UInt8} : ∀ (n s : Nat) (acc : List xTk), x.length ≤ n + s → s ≤ x.length → ((toks x n s acc).1.2 = true → ∃ L q, (toks x n s acc).2 = acc ++ L ∧ ChP x s L q ∧ sc bl x q x.length = x.length) ∧ ((toks x n s acc).1.2 = false → ∃ L q, ChP x s L q ∧ q ≤ x.length ∧ sc bl x q x.length < x.length ∧ (tok1 x (sc bl x q x.length)).1 = ((toks x n s acc).1.1, false))
  | 0, s, acc, h1, h2 => by
    have hs : s = x.length := by omega
    refine ⟨fun _ => ⟨[], s, by rw [List.append_nil]; rfl, rfl, by rw [hs, sc_end]⟩, fun h => ?_⟩
    exact absurd (show true = false from h) (by decide)
  | n + 1, s, acc, h1, h2 => by
    by_cases hs : s < x.length
    · have hxs : x[s]? = some x[s] := List.getElem?_eq_getElem hs
      by_cases hb : (x[s]).toNat = 32
      · have ht := tok1_b hxs hb
        have hT : toks x (n + 1) s acc = toks x n (s + 1) acc := by
          rw [toks, if_pos hs, ht, if_pos rfl]
          simp
        have hsc : sc bl x s x.length = sc bl x (s + 1) x.length := sc_miss hs (Nat.le_refl _) (by
          have : x[s] = 32 := UInt8.toNat_inj.mp hb
          rw [this]
          decide)
        have hmv : ∀ L q, ChP x (s + 1) L q → ChP x s L q := by
          intro L q hc
          cases L with
          | nil => show sc bl x s _ = _; rw [hsc]; exact hc
          | cons k r =>
            obtain ⟨e', a1, a2, a3⟩ := hc
            exact ⟨e', by rw [hsc]; exact a1, by rw [hsc]; exact a2, a3⟩
        obtain ⟨i1, i2⟩ := toks_ch (x := x) n (s + 1) acc (by omega) (by omega)
        rw [hT]
        refine ⟨fun h => ?_, fun h => ?_⟩
        · obtain ⟨L, q, a1, a2, a3⟩ := i1 h
          exact ⟨L, q, a1, hmv L q a2, a3⟩
        · obtain ⟨L, q, a1, a2⟩ := i2 h
          exact ⟨L, q, hmv L q a1, a2⟩
      · have hsc : sc bl x s x.length = s := sc_hit hs (Nat.le_refl _) (by
          unfold bl
          rw [beq_eq_false_iff_ne]
          intro q
          exact hb (by rw [q]; rfl))
        by_cases hok : (tok1 x s).1.2 = true
        · obtain ⟨e, k, ht⟩ := tok1_nb hxs hb hok
          have hel := tok1_e hs ht
          have hlt := (tok1_le hs).2 hok
          rw [ht] at hlt
          dsimp only at hlt
          have hT : toks x (n + 1) s acc = toks x n e (acc ++ [k]) := by
            rw [toks, if_pos hs, ht, if_pos rfl]
            rfl
          obtain ⟨i1, i2⟩ := toks_ch (x := x) n e (acc ++ [k]) (by omega) hel
          rw [hT]
          refine ⟨fun h => ?_, fun h => ?_⟩
          · obtain ⟨L, q, a1, a2, a3⟩ := i1 h
            exact ⟨k :: L, q, by rw [a1, List.append_assoc]; rfl, ⟨e, by rw [hsc]; exact hs, by rw [hsc]; exact ht, a2⟩, a3⟩
          · obtain ⟨L, q, a1, a2⟩ := i2 h
            exact ⟨k :: L, q, ⟨e, by rw [hsc]; exact hs, by rw [hsc]; exact ht, a1⟩, a2⟩
        · have hT : toks x (n + 1) s acc = ((tok1 x s).1, acc) := by
            rw [toks, if_pos hs, if_neg hok]
          rw [hT]
          refine ⟨fun h => absurd h hok, fun h => ⟨[], s, rfl, h2, by rw [hsc]; exact hs, ?_⟩⟩
          rw [hsc]
          show _ = ((tok1 x s).1.1, false)
          rw [← Bool.eq_false_iff.mpr hok]
    · have hse : s = x.length := by omega
      have hT : toks x (n + 1) s acc = ((s, true), acc) := by rw [toks, if_neg hs]
      rw [hT]
      refine ⟨fun _ => ⟨[], s, by rw [List.append_nil], rfl, by rw [hse, sc_end]⟩, fun h => ?_⟩
      exact absurd (show true = false from h) (by decide)
section XM20
variable {t x out full : List UInt8} {es : List xEn} {pool : Nat} {se : List xSe} {sub fd : List UInt8} {fr bg : Nat} {wr : Option Nat} {nx kd fi la va : Nat}
set_option maxHeartbeats 16000000 in
set_option maxRecDepth 100000 in
theorem c_Mod_cut (d : Nat) {M : xH} {sz O q : Nat} {T : List xTk} (h : Wd M O t x out full es pool se sub fd fr bg none nx kd fi la va) (hso : SeO se) (hgI : gI es) (hch : ChP x 0 T q) (hq : sc bl x q x.length = x.length) (hgd : ∀ k ∈ T, tkG x k) (hTl : T.length ≤ 600) (hf1 : 1 ≤ fr) (hf2 : fr ≤ sub.length + 1) (hb1 : 1 ≤ bg) (hb2 : bg ≤ sub.length + 1) : xC (d + 6) 0 0 Y_Mod_cut [.ref O] M sz (qi sz (fun y M' => y = (prsS se pool x sub T [] es fr bg).1 ∧ (∃ full' nx' kd' fd' fi' la' va', Wd M' O t x out full' ((prsS se pool x sub T [] es fr bg).2.1) pool se sub fd' ((prsS se pool x sub T [] es fr bg).2.2.1) ((prsS se pool x sub T [] es fr bg).2.2.2) none nx' kd' fi' la' va') ∧ FrO M M' O)) := by
  refine xC_of (by decide) (Nat.le_of_ble_eq_true rfl) (by simp [Value.category]) (vs := [some (.ref O), none, none, none, none, none, none, none]) rfl (fun K hX hE => ?_)
  obtain ⟨h0, -⟩ := id h
  have hsl := h.xl.2.2.2.2.2.2.1
  have hx6 := h.xl.2.1
  generalize hP : prsS se pool x sub T [] es fr bg = P at *
  have fin : ∀ (M1 : xH) (y : Int32) (es1 : List xEn) (fr1 bg1 nx1 kd1 fi1 la1 va1 : Nat) (full1 fd1 : List UInt8), P = (y, es1, fr1, bg1) → Wd M1 O t x out full1 es1 pool se sub fd1 fr1 bg1 none nx1 kd1 fi1 la1 va1 → FrO M M1 O → qi sz (fun y M' => y = P.1 ∧ (∃ full' nx' kd' fd' fi' la' va', Wd M' O t x out full' (P.2.1) pool se sub fd' (P.2.2.1) (P.2.2.2) none nx' kd' fi' la' va') ∧ FrO M M' O) (some (.int y)) M1 sz := by
    intro M1 y es1 fr1 bg1 nx1 kd1 fi1 la1 va1 full1 fd1 hPe w1 f1
    subst hPe
    exact ⟨rfl, _, rfl, rfl, ⟨_, _, _, _, _, _, _, w1⟩, f1⟩
  have loop : ∀ (R pend : List xTk) (b0 p : Nat) (M1 : xH) (es1 : List xEn) (fr1 bg1 kd1 fi1 la1 va1 : Nat) (full1 fd1 : List UInt8) (v3 v4 v5 v6 v7 : Option Value), p ≤ x.length → ChP x p R q → b0 ≤ x.length → ChP x b0 pend p → (∀ k ∈ pend, isTg k.1 = true) → (∀ k ∈ pend, tkG x k) → (∀ k ∈ R, tkG x k) → pend.length + R.length ≤ 600 → gI es1 → 1 ≤ fr1 → fr1 ≤ sub.length + 1 → 1 ≤ bg1 → bg1 ≤ sub.length + 1 → P = prsS se pool x sub R pend es1 fr1 bg1 → Wd M1 O t x out full1 es1 pool se sub fd1 fr1 bg1 none (sc bl x p x.length) kd1 fi1 la1 va1 → FrO M M1 O → xG K 13 [some (.ref O), some (.int (nI b0)), some (.int (nI pend.length)), v3, v4, v5, v6, v7] [] M1 sz 0 0 := by
    intro R
    induction R with
    | nil =>
      intro pend b0 p M1 es1 fr1 bg1 kd1 fi1 la1 va1 full1 fd1 v3 v4 v5 v6 v7 hp hcR hb0 hcP htg hgP hgR hlen hg1 g1 g2 g3 g4 hPe w1 f1
      have hpe : sc bl x p x.length = x.length := (show sc bl x p x.length = sc bl x q x.length from hcR).trans hq
      rw [hpe] at w1
      have hPe2 : P = ((hndL se pool x sub (sub.length + 1) pend fr1 es1).1, (hndL se pool x sub (sub.length + 1) pend fr1 es1).2, fr1, bg1) := hPe
      obtain ⟨h0, -⟩ := id w1
      refine xp_aload_0 (pc := 13) hX d_Mod_cut_13 ?_
      refine xg_get (pc := 14) hX (j := 25) k_Mod d_Mod_cut_14 l_Mod_78 (by decide) (by first | assumption | exact xup_s _ _ _ | exact xup_o (by omega) (by assumption) | exact xup_o (by omega) (xup_s _ _ _) | exact xup_o (by omega) (xup_o (by omega) (by assumption)) | exact xup_o (by omega) (xup_o (by omega) (xup_s _ _ _)) | exact xup_o (by omega) (xup_o (by omega) (xup_o (by omega) (by assumption)))) (by rfl) ?_
      refine xp_aload_0 (pc := 17) hX d_Mod_cut_17 ?_
      refine xg_get (pc := 18) hX (j := 5) k_Mod d_Mod_cut_18 l_Mod_72 (by decide) (by first | assumption | exact xup_s _ _ _ | exact xup_o (by omega) (by assumption) | exact xup_o (by omega) (xup_s _ _ _) | exact xup_o (by omega) (xup_o (by omega) (by assumption)) | exact xup_o (by omega) (xup_o (by omega) (xup_s _ _ _)) | exact xup_o (by omega) (xup_o (by omega) (xup_o (by omega) (by assumption)))) (by rfl) ?_
      refine xn_icmp_ge (pc := 21) hX 287 d_Mod_cut_21 (by decide) (by omega) (by omega) (fun _ => ?_) (fun z => absurd z (by omega))
      refine xp_aload_0 (pc := 287) hX d_Mod_cut_287 ?_
      refine xp_iload_1 (pc := 288) hX d_Mod_cut_288 ?_
      refine xp_aload_0 (pc := 289) hX d_Mod_cut_289 ?_
      refine xg_get (pc := 290) hX (j := 25) k_Mod d_Mod_cut_290 l_Mod_78 (by decide) (by first | assumption | exact xup_s _ _ _ | exact xup_o (by omega) (by assumption) | exact xup_o (by omega) (xup_s _ _ _) | exact xup_o (by omega) (xup_o (by omega) (by assumption)) | exact xup_o (by omega) (xup_o (by omega) (xup_s _ _ _)) | exact xup_o (by omega) (xup_o (by omega) (xup_o (by omega) (by assumption)))) (by rfl) ?_
      refine xp_iload_2 (pc := 293) hX d_Mod_cut_293 ?_
      refine xp_aload_0 (pc := 294) hX d_Mod_cut_294 ?_
      refine xg_get (pc := 295) hX (j := 22) k_Mod d_Mod_cut_295 l_Mod_52 (by decide) (by first | assumption | exact xup_s _ _ _ | exact xup_o (by omega) (by assumption) | exact xup_o (by omega) (xup_s _ _ _) | exact xup_o (by omega) (xup_o (by omega) (by assumption)) | exact xup_o (by omega) (xup_o (by omega) (xup_s _ _ _)) | exact xup_o (by omega) (xup_o (by omega) (xup_o (by omega) (by assumption)))) (by rfl) ?_
      refine xp_aload_0 (pc := 298) hX d_Mod_cut_298 ?_
      refine xg_get (pc := 299) hX (j := 20) k_Mod d_Mod_cut_299 l_Mod_173 (by decide) (by first | assumption | exact xup_s _ _ _ | exact xup_o (by omega) (by assumption) | exact xup_o (by omega) (xup_s _ _ _) | exact xup_o (by omega) (xup_o (by omega) (by assumption)) | exact xup_o (by omega) (xup_o (by omega) (xup_s _ _ _)) | exact xup_o (by omega) (xup_o (by omega) (xup_o (by omega) (by assumption)))) (by rfl) ?_
      refine xg_iconst (pc := 302) hX (nI 1) d_Mod_cut_302 ci_iconst_1 ?_
      first | refine xn_iadd (pc := 303) hX d_Mod_cut_303 ?_ | refine xg_iadd (pc := 303) hX d_Mod_cut_303 ?_
      refine xi_V (Y2 := Y_Mod_give) (pc := 304) hX [_, _, _, _, _] k_Mod m_Mod_give d_Mod_cut_304 l_Mod_215 rfl rfl (by simp [Value.category]) (by first | assumption | exact xup_s _ _ _ | exact xup_o (by omega) (by assumption) | exact xup_o (by omega) (xup_s _ _ _) | exact xup_o (by omega) (xup_o (by omega) (by assumption)) | exact xup_o (by omega) (xup_o (by omega) (xup_s _ _ _)) | exact xup_o (by omega) (xup_o (by omega) (xup_o (by omega) (by assumption)))) (c_Mod_give d (L := pend) (q := p) w1 hso hg1 (by omega) hb0 hcP htg hgP (by omega) g1 g2 (Nat.le_refl _)) (by omega) (by omega) ?_
      rintro y M2 ⟨rfl, ⟨full', kd', fd', fi', la', va', w2⟩, f2⟩
      refine xg_iret (pc := 307) hX hE d_Mod_cut_307 rfl rfl (by omega) (by omega) ?_
      exact fin M2 _ _ fr1 bg1 _ _ _ _ _ _ _ hPe2 w2 (f1.tr f2)
    | cons k r ih =>
      intro pend b0 p M1 es1 fr1 bg1 kd1 fi1 la1 va1 full1 fd1 v3 v4 v5 v6 v7 hp hcR hb0 hcP htg hgP hgR hlen hg1 g1 g2 g3 g4 hPe w1 f1
      obtain ⟨e, hs1, hs2, hcr⟩ := hcR
      have hel := tok1_e hs1 hs2
      obtain ⟨b, hbb1, hbb2⟩ := sc_stop _ p rfl hp hs1
      have hkg := hgR k List.mem_cons_self
      have hlen2 : pend.length + r.length + 1 ≤ 600 := by simp at hlen; omega
      have hPe2 : P = (if isTg k.1 then prsS se pool x sub r (pend ++ [k]) es1 fr1 bg1 else match cutS es1 se pool x sub fr1 bg1 (some k) with
        | none => (-2, es1, fr1, bg1)
        | some R => if (hndL se pool x sub R.2.1 pend R.1 es1).1 = nI 0 then prsS se pool x sub r [] (hndL se pool x sub R.2.1 pend R.1 es1).2 R.2.2.2 R.2.2.1 else ((hndL se pool x sub R.2.1 pend R.1 es1).1, (hndL se pool x sub R.2.1 pend R.1 es1).2, R.2.2.2, R.2.2.1)) := by rw [hPe]; rfl
      have hse := sc_le (P := bl) (bs := x) (a := e) (b := x.length) hel (Nat.le_refl _)
      obtain ⟨h0, -⟩ := id w1
      refine xp_aload_0 (pc := 13) hX d_Mod_cut_13 ?_
      refine xg_get (pc := 14) hX (j := 25) k_Mod d_Mod_cut_14 l_Mod_78 (by decide) (by first | assumption | exact xup_s _ _ _ | exact xup_o (by omega) (by assumption) | exact xup_o (by omega) (xup_s _ _ _) | exact xup_o (by omega) (xup_o (by omega) (by assumption)) | exact xup_o (by omega) (xup_o (by omega) (xup_s _ _ _)) | exact xup_o (by omega) (xup_o (by omega) (xup_o (by omega) (by assumption)))) (by rfl) ?_
      refine xp_aload_0 (pc := 17) hX d_Mod_cut_17 ?_
      refine xg_get (pc := 18) hX (j := 5) k_Mod d_Mod_cut_18 l_Mod_72 (by decide) (by first | assumption | exact xup_s _ _ _ | exact xup_o (by omega) (by assumption) | exact xup_o (by omega) (xup_s _ _ _) | exact xup_o (by omega) (xup_o (by omega) (by assumption)) | exact xup_o (by omega) (xup_o (by omega) (xup_s _ _ _)) | exact xup_o (by omega) (xup_o (by omega) (xup_o (by omega) (by assumption)))) (by rfl) ?_
      refine xn_icmp_ge (pc := 21) hX 287 d_Mod_cut_21 (by decide) (by omega) (by omega) (fun z => absurd z (by omega)) (fun _ => ?_)
      refine xp_aload_0 (pc := 24) hX d_Mod_cut_24 ?_
      refine xv_V (Y2 := Y_Mod_token) (pc := 25) hX [] k_Mod m_Mod_token d_Mod_cut_25 l_Mod_200 rfl rfl (by simp [Value.category]) (by first | assumption | exact xup_s _ _ _ | exact xup_o (by omega) (by assumption) | exact xup_o (by omega) (xup_s _ _ _) | exact xup_o (by omega) (xup_o (by omega) (by assumption)) | exact xup_o (by omega) (xup_o (by omega) (xup_s _ _ _)) | exact xup_o (by omega) (xup_o (by omega) (xup_o (by omega) (by assumption)))) (c_Mod_token (d + 2) w1 hbb1 (bl_ne hbb2)) (by omega) (by omega) ?_
      rintro M2 ⟨hc, f2⟩
      rcases hc with ⟨p', k', fd', fi', la', va', t1, t2, w2⟩ | ⟨p', nx', kd', fd', fi', la', va', t1, -⟩
      rotate_left
      · rw [hs2] at t1
        cases t1
      rw [hs2] at t1
      cases t1
      obtain ⟨tv1, tv2, tv3, tv4, tv5⟩ := t2
      have fe : FrO M M2 O := f1.tr f2
      obtain ⟨h0, -⟩ := id w2
      refine xp_aload_0 (pc := 28) hX d_Mod_cut_28 ?_
      refine xg_get (pc := 29) hX (j := 27) k_Mod d_Mod_cut_29 l_Mod_182 (by decide) (by first | assumption | exact xup_s _ _ _ | exact xup_o (by omega) (by assumption) | exact xup_o (by omega) (xup_s _ _ _) | exact xup_o (by omega) (xup_o (by omega) (by assumption)) | exact xup_o (by omega) (xup_o (by omega) (xup_s _ _ _)) | exact xup_o (by omega) (xup_o (by omega) (xup_o (by omega) (by assumption)))) (by rfl) ?_
      refine xg_iconst (pc := 32) hX (nI 2) d_Mod_cut_32 ci_iconst_2 ?_
      refine xn_icmp_ge (pc := 33) hX 46 d_Mod_cut_33 (by decide) (by omega) (by omega) (fun z => ?_) (fun z => ?_)
      · have hnt : isTg k.1 = false := by
          unfold isTg
          simp only [Bool.or_eq_false_iff, beq_eq_false_iff_ne]
          omega
        rw [if_neg (by rw [hnt]; decide)] at hPe2
        -- the part is known
        have k232 : ∀ (M3 : xH) (en th mk : Nat) (full3 fd3 : List UInt8) (v6 v7 : Option Value), cutS es1 se pool x sub fr1 bg1 (some k) = some (fr1, en, mk, th) → Wd M3 O t x out full3 es1 pool se sub fd3 fr1 bg1 none e (k.1 - 1) fi' la' va' → FrO M M3 O → xG K 232 [some (.ref O), some (.int (nI b0)), some (.int (nI pend.length)), some (.int (nI en)), some (.int (nI th)), some (.int (nI mk)), v6, v7] [] M3 sz 0 0 := by
          intro M3 en th mk full3 fd3 v6 v7 hcs w3 f3
          obtain ⟨-, u2, u3, u4, u5, u6, u7⟩ := cutS_in g1 g2 g3 g4 hcs
          dsimp only at u2 u3 u4 u5 u6 u7
          rw [hcs] at hPe2
          dsimp only at hPe2
          obtain ⟨h0, -⟩ := id w3
          refine xp_aload_0 (pc := 232) hX d_Mod_cut_232 ?_
          refine xg_get (pc := 233) hX (j := 22) k_Mod d_Mod_cut_233 l_Mod_52 (by decide) (by first | assumption | exact xup_s _ _ _ | exact xup_o (by omega) (by assumption) | exact xup_o (by omega) (xup_s _ _ _) | exact xup_o (by omega) (xup_o (by omega) (by assumption)) | exact xup_o (by omega) (xup_o (by omega) (xup_s _ _ _)) | exact xup_o (by omega) (xup_o (by omega) (xup_o (by omega) (by assumption)))) (by rfl) ?_
          refine xp_istore_6 (pc := 236) hX d_Mod_cut_236 (by decide) ?_
          refine xp_aload_0 (pc := 238) hX d_Mod_cut_238 ?_
          refine xp_iload_5 (pc := 239) hX d_Mod_cut_239 ?_
          refine xg_put (pc := 241) hX (j := 23) k_Mod d_Mod_cut_241 l_Mod_56 (by decide) rfl (by first | assumption | exact xup_s _ _ _ | exact xup_o (by omega) (by assumption) | exact xup_o (by omega) (xup_s _ _ _) | exact xup_o (by omega) (xup_o (by omega) (by assumption)) | exact xup_o (by omega) (xup_o (by omega) (xup_s _ _ _)) | exact xup_o (by omega) (xup_o (by omega) (xup_o (by omega) (by assumption)))) (Nat.le_of_ble_eq_true rfl) rfl rfl (by simp only [List.set_cons_zero, List.set_cons_succ]; exact rfl) ?_
          refine xp_aload_0 (pc := 244) hX d_Mod_cut_244 ?_
          refine xp_iload_4 (pc := 245) hX d_Mod_cut_245 ?_
          refine xg_put (pc := 247) hX (j := 22) k_Mod d_Mod_cut_247 l_Mod_52 (by decide) rfl (by first | assumption | exact xup_s _ _ _ | exact xup_o (by omega) (by assumption) | exact xup_o (by omega) (xup_s _ _ _) | exact xup_o (by omega) (xup_o (by omega) (by assumption)) | exact xup_o (by omega) (xup_o (by omega) (xup_s _ _ _)) | exact xup_o (by omega) (xup_o (by omega) (xup_o (by omega) (by assumption)))) (Nat.le_of_ble_eq_true rfl) rfl rfl (by simp only [List.set_cons_zero, List.set_cons_succ]; exact rfl) ?_
          refine xp_aload_0 (pc := 250) hX d_Mod_cut_250 ?_
          refine xp_iload_1 (pc := 251) hX d_Mod_cut_251 ?_
          refine xp_aload_0 (pc := 252) hX d_Mod_cut_252 ?_
          refine xg_get (pc := 253) hX (j := 25) k_Mod d_Mod_cut_253 l_Mod_78 (by decide) (by first | assumption | exact xup_s _ _ _ | exact xup_o (by omega) (by assumption) | exact xup_o (by omega) (xup_s _ _ _) | exact xup_o (by omega) (xup_o (by omega) (by assumption)) | exact xup_o (by omega) (xup_o (by omega) (xup_s _ _ _)) | exact xup_o (by omega) (xup_o (by omega) (xup_o (by omega) (by assumption)))) (by rfl) ?_
          refine xp_iload_2 (pc := 256) hX d_Mod_cut_256 ?_
          refine xp_iload_6 (pc := 257) hX d_Mod_cut_257 ?_
          refine xp_iload_3 (pc := 259) hX d_Mod_cut_259 ?_
          have w4 : Wd (xup (xup M3 O (moC O t x out full3 es1 pool se sub fd3 fr1 mk none e (k.1 - 1) fi' la' va')) O (moC O t x out full3 es1 pool se sub fd3 th mk none e (k.1 - 1) fi' la' va')) O t x out full3 es1 pool se sub fd3 th mk none e (k.1 - 1) fi' la' va' := Wd.up (Wd.up w3)
          refine xi_V (Y2 := Y_Mod_give) (pc := 260) hX [_, _, _, _, _] k_Mod m_Mod_give d_Mod_cut_260 l_Mod_215 rfl rfl (by simp [Value.category]) (by first | assumption | exact xup_s _ _ _ | exact xup_o (by omega) (by assumption) | exact xup_o (by omega) (xup_s _ _ _) | exact xup_o (by omega) (xup_o (by omega) (by assumption)) | exact xup_o (by omega) (xup_o (by omega) (xup_s _ _ _)) | exact xup_o (by omega) (xup_o (by omega) (xup_o (by omega) (by assumption)))) (c_Mod_give d (L := pend) (q := p) w4 hso hg1 (by omega) hb0 hcP htg hgP (by omega) g1 u2 u3) (by omega) (by omega) ?_
          have hgH : gI (hndL se pool x sub en pend fr1 es1).2 := gI_hndL pend fr1 es1 hg1
          have hHv := hndL_v (se := se) (ip := pool) (t := x) (sub := sub) (pt := en) pend fr1 es1
          generalize hndL se pool x sub en pend fr1 es1 = HH at *
          rintro y M5 ⟨rfl, ⟨full5, kd5, fd5, fi5, la5, va5, w5⟩, f5⟩
          have fe5 : FrO M M5 O := ((f3.up' _ (by omega) (by omega)).up' _ (by omega) (by omega)).tr f5
          refine xp_istore_7 (pc := 263) hX d_Mod_cut_263 (by decide) ?_
          refine xp_iload_7 (pc := 265) hX d_Mod_cut_265 ?_
          have hbad : ¬ HH.1 = nI 0 → ¬ (0 : Int32) ≤ HH.1 → xG K 267 [some (.ref O), some (.int (nI b0)), some (.int (nI pend.length)), some (.int (nI en)), some (.int (nI th)), some (.int (nI mk)), some (.int (nI fr1)), some (.int HH.1)] [.int HH.1] M5 sz 0 0 := by
            intro hz1 hz2
            rw [if_neg hz1] at hPe2
            refine xg_if_ge (pc := 267) hX 273 d_Mod_cut_267 (by decide) (fun z => absurd z hz2) (fun _ => ?_)
            refine xp_iload_7 (pc := 270) hX d_Mod_cut_270 ?_
            refine xg_iret (pc := 272) hX hE d_Mod_cut_272 rfl rfl (by omega) (by omega) ?_
            exact fin M5 _ _ th mk _ _ _ _ _ _ _ hPe2 w5 fe5
          rcases hHv with hv | hv | hv
          · rw [if_pos hv] at hPe2
            refine xg_if_ge (pc := 267) hX 273 d_Mod_cut_267 (by decide) (fun _ => ?_) (fun z => absurd (by rw [hv]; decide) z)
            obtain ⟨h0, -⟩ := id w5
            refine xg_iconst (pc := 273) hX (nI 0) d_Mod_cut_273 ci_iconst_0 ?_
            refine xp_istore_2 (pc := 274) hX d_Mod_cut_274 (by decide) ?_
            refine xp_aload_0 (pc := 275) hX d_Mod_cut_275 ?_
            refine xv_V (Y2 := Y_Mod_blanks) (pc := 276) hX [] k_Mod m_Mod_blanks d_Mod_cut_276 l_Mod_188 rfl rfl (by simp [Value.category]) (by first | assumption | exact xup_s _ _ _ | exact xup_o (by omega) (by assumption) | exact xup_o (by omega) (xup_s _ _ _) | exact xup_o (by omega) (xup_o (by omega) (by assumption)) | exact xup_o (by omega) (xup_o (by omega) (xup_s _ _ _)) | exact xup_o (by omega) (xup_o (by omega) (xup_o (by omega) (by assumption)))) (c_Mod_blanks (d + 4) w5 hel) (by omega) (by omega) ?_
            rintro M6 ⟨w6, f6⟩
            obtain ⟨h0, -⟩ := id w6
            refine xp_aload_0 (pc := 279) hX d_Mod_cut_279 ?_
            refine xg_get (pc := 280) hX (j := 25) k_Mod d_Mod_cut_280 l_Mod_78 (by decide) (by first | assumption | exact xup_s _ _ _ | exact xup_o (by omega) (by assumption) | exact xup_o (by omega) (xup_s _ _ _) | exact xup_o (by omega) (xup_o (by omega) (by assumption)) | exact xup_o (by omega) (xup_o (by omega) (xup_s _ _ _)) | exact xup_o (by omega) (xup_o (by omega) (xup_o (by omega) (by assumption)))) (by rfl) ?_
            refine xp_istore_1 (pc := 283) hX d_Mod_cut_283 (by decide) ?_
            refine xg_goto (pc := 284) hX 13 d_Mod_cut_284 (by decide) ?_
            have hid := sc_idem (P := bl) (bs := x) hel
            refine ih [] (sc bl x e x.length) (sc bl x e x.length) M6 HH.2 th mk kd5 fi5 la5 va5 full5 fd5 _ _ _ _ _ hse.2 (ChP_skip hel hcr) hse.2 rfl (fun _ hh => absurd hh List.not_mem_nil) (fun _ hh => absurd hh List.not_mem_nil) (fun k2 hk2 => hgR k2 (List.mem_cons_of_mem _ hk2)) (by simp; omega) hgH u6 u7 u4 u5 hPe2 ?_ (fe5.tr f6)
            rw [hid]
            exact w6
          · exact hbad (by rw [hv]; decide) (by rw [hv]; decide)
          · exact hbad (by rw [hv]; decide) (by rw [hv]; decide)
        refine xp_aload_0 (pc := 46) hX d_Mod_cut_46 ?_
        refine xg_get (pc := 47) hX (j := 22) k_Mod d_Mod_cut_47 l_Mod_52 (by decide) (by first | assumption | exact xup_s _ _ _ | exact xup_o (by omega) (by assumption) | exact xup_o (by omega) (xup_s _ _ _) | exact xup_o (by omega) (xup_o (by omega) (by assumption)) | exact xup_o (by omega) (xup_o (by omega) (xup_s _ _ _)) | exact xup_o (by omega) (xup_o (by omega) (xup_o (by omega) (by assumption)))) (by rfl) ?_
        refine xp_istore_3 (pc := 50) hX d_Mod_cut_50 (by decide) ?_
        refine xp_aload_0 (pc := 51) hX d_Mod_cut_51 ?_
        refine xg_get (pc := 52) hX (j := 22) k_Mod d_Mod_cut_52 l_Mod_52 (by decide) (by first | assumption | exact xup_s _ _ _ | exact xup_o (by omega) (by assumption) | exact xup_o (by omega) (xup_s _ _ _) | exact xup_o (by omega) (xup_o (by omega) (by assumption)) | exact xup_o (by omega) (xup_o (by omega) (xup_s _ _ _)) | exact xup_o (by omega) (xup_o (by omega) (xup_o (by omega) (by assumption)))) (by rfl) ?_
        refine xp_istore_4 (pc := 55) hX d_Mod_cut_55 (by decide) ?_
        refine xp_aload_0 (pc := 57) hX d_Mod_cut_57 ?_
        refine xg_get (pc := 58) hX (j := 22) k_Mod d_Mod_cut_58 l_Mod_52 (by decide) (by first | assumption | exact xup_s _ _ _ | exact xup_o (by omega) (by assumption) | exact xup_o (by omega) (xup_s _ _ _) | exact xup_o (by omega) (xup_o (by omega) (by assumption)) | exact xup_o (by omega) (xup_o (by omega) (xup_s _ _ _)) | exact xup_o (by omega) (xup_o (by omega) (xup_o (by omega) (by assumption)))) (by rfl) ?_
        refine xp_istore_5 (pc := 61) hX d_Mod_cut_61 (by decide) ?_
        refine xp_aload_0 (pc := 63) hX d_Mod_cut_63 ?_
        refine xg_get (pc := 64) hX (j := 27) k_Mod d_Mod_cut_64 l_Mod_182 (by decide) (by first | assumption | exact xup_s _ _ _ | exact xup_o (by omega) (by assumption) | exact xup_o (by omega) (xup_s _ _ _) | exact xup_o (by omega) (xup_o (by omega) (by assumption)) | exact xup_o (by omega) (xup_o (by omega) (xup_s _ _ _)) | exact xup_o (by omega) (xup_o (by omega) (xup_o (by omega) (by assumption)))) (by rfl) ?_
        refine xg_iconst (pc := 67) hX (nI 4) d_Mod_cut_67 ci_iconst_4 ?_
        refine xn_icmp_ge (pc := 68) hX 157 d_Mod_cut_68 (by decide) (by omega) (by omega) (fun z4 => ?_) (fun z4 => ?_)
        · -- a place
          have hk5 : 5 ≤ k.1 := by omega
          have hva := tv5 hk5
          have kpl : ∀ (X : Int32) (v3 v4 v5 v6 v7 : Option Value), cutS es1 se pool x sub fr1 bg1 (some k) = some (plS sub fr1 X) → xG K 202 [some (.ref O), some (.int (nI b0)), some (.int (nI pend.length)), v3, v4, v5, v6, v7] [.int X, .ref O] M2 sz 0 0 := by
            intro X v3 v4 v5 v6 v7 hcs
            have hki := keepIn_in (e := sub.length + 1) (by omega) X
            have hcs2 : cutS es1 se pool x sub fr1 bg1 (some k) = some (fr1, if fr1 < keepIn (sub.length + 1) X then keepIn (sub.length + 1) X else sub.length + 1, keepIn (sub.length + 1) X, keepIn (sub.length + 1) X) := hcs
            refine xi_V (Y2 := Y_Mod_held) (pc := 202) hX [_] k_Mod m_Mod_held d_Mod_cut_202 l_Mod_212 rfl rfl (by simp [Value.category]) (by first | assumption | exact xup_s _ _ _ | exact xup_o (by omega) (by assumption) | exact xup_o (by omega) (xup_s _ _ _) | exact xup_o (by omega) (xup_o (by omega) (by assumption)) | exact xup_o (by omega) (xup_o (by omega) (xup_s _ _ _)) | exact xup_o (by omega) (xup_o (by omega) (xup_o (by omega) (by assumption)))) (c_Mod_held (d + 5) X w2) (by omega) (by omega) ?_
            rintro y M3 ⟨rfl, rfl⟩
            generalize keepIn (sub.length + 1) X = m at *
            refine xp_istore_5 (pc := 205) hX d_Mod_cut_205 (by decide) ?_
            refine xp_iload_5 (pc := 207) hX d_Mod_cut_207 ?_
            refine xp_aload_0 (pc := 209) hX d_Mod_cut_209 ?_
            refine xg_get (pc := 210) hX (j := 22) k_Mod d_Mod_cut_210 l_Mod_52 (by decide) (by first | assumption | exact xup_s _ _ _ | exact xup_o (by omega) (by assumption) | exact xup_o (by omega) (xup_s _ _ _) | exact xup_o (by omega) (xup_o (by omega) (by assumption)) | exact xup_o (by omega) (xup_o (by omega) (xup_s _ _ _)) | exact xup_o (by omega) (xup_o (by omega) (xup_o (by omega) (by assumption)))) (by rfl) ?_
            refine xn_icmp_le (pc := 213) hX 221 d_Mod_cut_213 (by decide) (by omega) (by omega) (fun z5 => ?_) (fun z5 => ?_)
            · rw [if_neg (by omega)] at hcs2
              refine xp_aload_0 (pc := 221) hX d_Mod_cut_221 ?_
              refine xg_get (pc := 222) hX (j := 20) k_Mod d_Mod_cut_222 l_Mod_173 (by decide) (by first | assumption | exact xup_s _ _ _ | exact xup_o (by omega) (by assumption) | exact xup_o (by omega) (xup_s _ _ _) | exact xup_o (by omega) (xup_o (by omega) (by assumption)) | exact xup_o (by omega) (xup_o (by omega) (xup_s _ _ _)) | exact xup_o (by omega) (xup_o (by omega) (xup_o (by omega) (by assumption)))) (by rfl) ?_
              refine xg_iconst (pc := 225) hX (nI 1) d_Mod_cut_225 ci_iconst_1 ?_
              first | refine xn_iadd (pc := 226) hX d_Mod_cut_226 ?_ | refine xg_iadd (pc := 226) hX d_Mod_cut_226 ?_
              refine xp_istore_3 (pc := 227) hX d_Mod_cut_227 (by decide) ?_
              refine xp_iload_5 (pc := 228) hX d_Mod_cut_228 ?_
              refine xp_istore_4 (pc := 230) hX d_Mod_cut_230 (by decide) ?_
              exact k232 M3 _ _ _ _ _ _ _ hcs2 w2 fe
            · rw [if_pos z5] at hcs2
              refine xp_iload_5 (pc := 216) hX d_Mod_cut_216 ?_
              refine xg_goto (pc := 218) hX 227 d_Mod_cut_218 (by decide) ?_
              refine xp_istore_3 (pc := 227) hX d_Mod_cut_227 (by decide) ?_
              refine xp_iload_5 (pc := 228) hX d_Mod_cut_228 ?_
              refine xp_istore_4 (pc := 230) hX d_Mod_cut_230 (by decide) ?_
              exact k232 M3 _ _ _ _ _ _ _ hcs2 w2 fe
          refine xp_aload_0 (pc := 157) hX d_Mod_cut_157 ?_
          refine xp_aload_0 (pc := 158) hX d_Mod_cut_158 ?_
          refine xg_get (pc := 159) hX (j := 27) k_Mod d_Mod_cut_159 l_Mod_182 (by decide) (by first | assumption | exact xup_s _ _ _ | exact xup_o (by omega) (by assumption) | exact xup_o (by omega) (xup_s _ _ _) | exact xup_o (by omega) (xup_o (by omega) (by assumption)) | exact xup_o (by omega) (xup_o (by omega) (xup_s _ _ _)) | exact xup_o (by omega) (xup_o (by omega) (xup_o (by omega) (by assumption)))) (by rfl) ?_
          refine xg_iconst (pc := 162) hX (nI 4) d_Mod_cut_162 ci_iconst_4 ?_
          refine xn_icmp_ne (pc := 163) hX 173 d_Mod_cut_163 (by decide) (by omega) (by omega) (fun z5 => ?_) (fun z5 => ?_)
          · refine xp_aload_0 (pc := 173) hX d_Mod_cut_173 ?_
            refine xg_get (pc := 174) hX (j := 27) k_Mod d_Mod_cut_174 l_Mod_182 (by decide) (by first | assumption | exact xup_s _ _ _ | exact xup_o (by omega) (by assumption) | exact xup_o (by omega) (xup_s _ _ _) | exact xup_o (by omega) (xup_o (by omega) (by assumption)) | exact xup_o (by omega) (xup_o (by omega) (xup_s _ _ _)) | exact xup_o (by omega) (xup_o (by omega) (xup_o (by omega) (by assumption)))) (by rfl) ?_
            refine xg_iconst (pc := 177) hX (nI 5) d_Mod_cut_177 ci_iconst_5 ?_
            refine xn_icmp_ne (pc := 178) hX 193 d_Mod_cut_178 (by decide) (by omega) (by omega) (fun z6 => ?_) (fun z6 => ?_)
            · have hk7 : k.1 = 7 := by omega
              refine xp_aload_0 (pc := 193) hX d_Mod_cut_193 ?_
              refine xg_get (pc := 194) hX (j := 23) k_Mod d_Mod_cut_194 l_Mod_56 (by decide) (by first | assumption | exact xup_s _ _ _ | exact xup_o (by omega) (by assumption) | exact xup_o (by omega) (xup_s _ _ _) | exact xup_o (by omega) (xup_o (by omega) (by assumption)) | exact xup_o (by omega) (xup_o (by omega) (xup_s _ _ _)) | exact xup_o (by omega) (xup_o (by omega) (xup_o (by omega) (by assumption)))) (by rfl) ?_
              refine xp_aload_0 (pc := 197) hX d_Mod_cut_197 ?_
              refine xg_get (pc := 198) hX (j := 30) k_Mod d_Mod_cut_198 l_Mod_197 (by decide) (by first | assumption | exact xup_s _ _ _ | exact xup_o (by omega) (by assumption) | exact xup_o (by omega) (xup_s _ _ _) | exact xup_o (by omega) (xup_o (by omega) (by assumption)) | exact xup_o (by omega) (xup_o (by omega) (xup_s _ _ _)) | exact xup_o (by omega) (xup_o (by omega) (xup_o (by omega) (by assumption)))) (by rfl) ?_
              refine xg_isub (pc := 201) hX d_Mod_cut_201 ?_
              refine kpl _ _ _ _ _ _ ?_
              rw [hva]
              unfold cutS
              simp only [hk7]
              rfl
            · have hk6 : k.1 = 6 := by omega
              refine xp_aload_0 (pc := 181) hX d_Mod_cut_181 ?_
              refine xg_get (pc := 182) hX (j := 23) k_Mod d_Mod_cut_182 l_Mod_56 (by decide) (by first | assumption | exact xup_s _ _ _ | exact xup_o (by omega) (by assumption) | exact xup_o (by omega) (xup_s _ _ _) | exact xup_o (by omega) (xup_o (by omega) (by assumption)) | exact xup_o (by omega) (xup_o (by omega) (xup_s _ _ _)) | exact xup_o (by omega) (xup_o (by omega) (xup_o (by omega) (by assumption)))) (by rfl) ?_
              refine xp_aload_0 (pc := 185) hX d_Mod_cut_185 ?_
              refine xg_get (pc := 186) hX (j := 30) k_Mod d_Mod_cut_186 l_Mod_197 (by decide) (by first | assumption | exact xup_s _ _ _ | exact xup_o (by omega) (by assumption) | exact xup_o (by omega) (xup_s _ _ _) | exact xup_o (by omega) (xup_o (by omega) (by assumption)) | exact xup_o (by omega) (xup_o (by omega) (xup_s _ _ _)) | exact xup_o (by omega) (xup_o (by omega) (xup_o (by omega) (by assumption)))) (by rfl) ?_
              refine xg_iadd (pc := 189) hX d_Mod_cut_189 ?_
              refine xg_goto (pc := 190) hX 202 d_Mod_cut_190 (by decide) ?_
              refine kpl _ _ _ _ _ _ ?_
              rw [hva]
              unfold cutS
              simp only [hk6]
              rfl
          · have hk5 : k.1 = 5 := by omega
            refine xp_aload_0 (pc := 166) hX d_Mod_cut_166 ?_
            refine xg_get (pc := 167) hX (j := 30) k_Mod d_Mod_cut_167 l_Mod_197 (by decide) (by first | assumption | exact xup_s _ _ _ | exact xup_o (by omega) (by assumption) | exact xup_o (by omega) (xup_s _ _ _) | exact xup_o (by omega) (xup_o (by omega) (by assumption)) | exact xup_o (by omega) (xup_o (by omega) (xup_s _ _ _)) | exact xup_o (by omega) (xup_o (by omega) (xup_o (by omega) (by assumption)))) (by rfl) ?_
            refine xg_goto (pc := 170) hX 202 d_Mod_cut_170 (by decide) ?_
            refine kpl _ _ _ _ _ _ ?_
            rw [hva]
            unfold cutS
            simp only [hk5]
            rfl
        · -- a pattern
          have kpat : ∀ (M3 : xH) (full3 pat : List UInt8) (v3 v4 v5 v6 v7 : Option Value), cutS es1 se pool x sub fr1 bg1 (some k) = some (patS sub fr1 pat) → Wd M3 O t x out full3 es1 pool se sub pat fr1 bg1 none e (k.1 - 1) fi' la' va' → FrO M M3 O → xG K 101 [some (.ref O), some (.int (nI b0)), some (.int (nI pend.length)), v3, v4, v5, v6, v7] [] M3 sz 0 0 := by
            intro M3 full3 pat v3 v4 v5 v6 v7 hcs w3 f3
            have hcs2 : cutS es1 se pool x sub fr1 bg1 (some k) = some (fr1, plc sub pat fr1, plc sub pat fr1, min (plc sub pat fr1 + pat.length) (sub.length + 1)) := hcs
            have hpl := w3.xl.2.2.2.2.2.2.2
            obtain ⟨h0, -⟩ := id w3
            refine xp_aload_0 (pc := 101) hX d_Mod_cut_101 ?_
            refine xp_aload_0 (pc := 102) hX d_Mod_cut_102 ?_
            refine xg_get (pc := 103) hX (j := 22) k_Mod d_Mod_cut_103 l_Mod_52 (by decide) (by first | assumption | exact xup_s _ _ _ | exact xup_o (by omega) (by assumption) | exact xup_o (by omega) (xup_s _ _ _) | exact xup_o (by omega) (xup_o (by omega) (by assumption)) | exact xup_o (by omega) (xup_o (by omega) (xup_s _ _ _)) | exact xup_o (by omega) (xup_o (by omega) (xup_o (by omega) (by assumption)))) (by rfl) ?_
            refine xi_V (Y2 := Y_Mod_pattern) (pc := 106) hX [_] k_Mod m_Mod_pattern d_Mod_cut_106 l_Mod_209 rfl rfl (by simp [Value.category]) (by first | assumption | exact xup_s _ _ _ | exact xup_o (by omega) (by assumption) | exact xup_o (by omega) (xup_s _ _ _) | exact xup_o (by omega) (xup_o (by omega) (by assumption)) | exact xup_o (by omega) (xup_o (by omega) (xup_s _ _ _)) | exact xup_o (by omega) (xup_o (by omega) (xup_o (by omega) (by assumption)))) (c_Mod_pattern (d + 5) w3 g1 g2) (by omega) (by omega) ?_
            rintro y M4 ⟨rfl, rfl⟩
            have hpa : (patA sub pat fr1 = 0 ∧ plc sub pat fr1 = sub.length + 1) ∨ (1 ≤ patA sub pat fr1 ∧ plc sub pat fr1 = patA sub pat fr1 ∧ patA sub pat fr1 + pat.length ≤ sub.length + 1) := by
              unfold patA plc
              by_cases c0 : pat.length = 0
              · rw [if_pos c0, if_pos c0]
                right
                omega
              · rw [if_neg c0, if_neg c0]
                cases hf : fnd sub pat fr1 with
                | none => left; exact ⟨rfl, rfl⟩
                | some p0 =>
                  have := fnd_le hf
                  right
                  refine ⟨?_, rfl, ?_⟩
                  · show 1 ≤ p0; omega
                  · show p0 + pat.length ≤ _; omega
            refine xp_istore_3 (pc := 109) hX d_Mod_cut_109 (by decide) ?_
            refine xp_iload_3 (pc := 110) hX d_Mod_cut_110 ?_
            rcases hpa with ⟨a1, a2⟩ | ⟨a1, a2, a3⟩
            · rw [a2, show min (sub.length + 1 + pat.length) (sub.length + 1) = sub.length + 1 by omega] at hcs2
              rw [a1]
              refine xn_if_ne (a := 0) (pc := 111) hX 123 d_Mod_cut_111 (by decide) (by decide) (fun z => absurd z (by decide)) (fun _ => ?_)
              refine xp_aload_0 (pc := 114) hX d_Mod_cut_114 ?_
              refine xg_get (pc := 115) hX (j := 20) k_Mod d_Mod_cut_115 l_Mod_173 (by decide) (by first | assumption | exact xup_s _ _ _ | exact xup_o (by omega) (by assumption) | exact xup_o (by omega) (xup_s _ _ _) | exact xup_o (by omega) (xup_o (by omega) (by assumption)) | exact xup_o (by omega) (xup_o (by omega) (xup_s _ _ _)) | exact xup_o (by omega) (xup_o (by omega) (xup_o (by omega) (by assumption)))) (by rfl) ?_
              refine xg_iconst (pc := 118) hX (nI 1) d_Mod_cut_118 ci_iconst_1 ?_
              first | refine xn_iadd (pc := 119) hX d_Mod_cut_119 ?_ | refine xg_iadd (pc := 119) hX d_Mod_cut_119 ?_
              refine xg_goto (pc := 120) hX 124 d_Mod_cut_120 (by decide) ?_
              refine xp_istore_5 (pc := 124) hX d_Mod_cut_124 (by decide) ?_
              refine xp_iload_3 (pc := 126) hX d_Mod_cut_126 ?_
              refine xn_if_ne (a := 0) (pc := 127) hX 139 d_Mod_cut_127 (by decide) (by decide) (fun z => absurd z (by decide)) (fun _ => ?_)
              refine xp_aload_0 (pc := 130) hX d_Mod_cut_130 ?_
              refine xg_get (pc := 131) hX (j := 20) k_Mod d_Mod_cut_131 l_Mod_173 (by decide) (by first | assumption | exact xup_s _ _ _ | exact xup_o (by omega) (by assumption) | exact xup_o (by omega) (xup_s _ _ _) | exact xup_o (by omega) (xup_o (by omega) (by assumption)) | exact xup_o (by omega) (xup_o (by omega) (xup_s _ _ _)) | exact xup_o (by omega) (xup_o (by omega) (xup_o (by omega) (by assumption)))) (by rfl) ?_
              refine xg_iconst (pc := 134) hX (nI 1) d_Mod_cut_134 ci_iconst_1 ?_
              first | refine xn_iadd (pc := 135) hX d_Mod_cut_135 ?_ | refine xg_iadd (pc := 135) hX d_Mod_cut_135 ?_
              refine xg_goto (pc := 136) hX 149 d_Mod_cut_136 (by decide) ?_
              refine xp_istore_4 (pc := 149) hX d_Mod_cut_149 (by decide) ?_
              refine xp_iload_5 (pc := 151) hX d_Mod_cut_151 ?_
              refine xp_istore_3 (pc := 153) hX d_Mod_cut_153 (by decide) ?_
              refine xg_goto (pc := 154) hX 232 d_Mod_cut_154 (by decide) ?_
              exact k232 M4 _ _ _ _ _ _ _ hcs2 w3 f3
            · rw [a2, show min (patA sub pat fr1 + pat.length) (sub.length + 1) = patA sub pat fr1 + pat.length by omega] at hcs2
              generalize patA sub pat fr1 = m at *
              refine xn_if_ne (pc := 111) hX 123 d_Mod_cut_111 (by decide) (by omega) (fun _ => ?_) (fun z => absurd z (by omega))
              refine xp_iload_3 (pc := 123) hX d_Mod_cut_123 ?_
              refine xp_istore_5 (pc := 124) hX d_Mod_cut_124 (by decide) ?_
              refine xp_iload_3 (pc := 126) hX d_Mod_cut_126 ?_
              refine xn_if_ne (pc := 127) hX 139 d_Mod_cut_127 (by decide) (by omega) (fun _ => ?_) (fun z => absurd z (by omega))
              refine xp_aload_0 (pc := 139) hX d_Mod_cut_139 ?_
              refine xp_iload_3 (pc := 140) hX d_Mod_cut_140 ?_
              refine xp_aload_0 (pc := 141) hX d_Mod_cut_141 ?_
              refine xg_get (pc := 142) hX (j := 21) k_Mod d_Mod_cut_142 l_Mod_176 (by decide) (by first | assumption | exact xup_s _ _ _ | exact xup_o (by omega) (by assumption) | exact xup_o (by omega) (xup_s _ _ _) | exact xup_o (by omega) (xup_o (by omega) (by assumption)) | exact xup_o (by omega) (xup_o (by omega) (xup_s _ _ _)) | exact xup_o (by omega) (xup_o (by omega) (xup_o (by omega) (by assumption)))) (by rfl) ?_
              first | refine xn_iadd (pc := 145) hX d_Mod_cut_145 ?_ | refine xg_iadd (pc := 145) hX d_Mod_cut_145 ?_
              refine xi_V (Y2 := Y_Mod_held) (pc := 146) hX [_] k_Mod m_Mod_held d_Mod_cut_146 l_Mod_212 rfl rfl (by simp [Value.category]) (by first | assumption | exact xup_s _ _ _ | exact xup_o (by omega) (by assumption) | exact xup_o (by omega) (xup_s _ _ _) | exact xup_o (by omega) (xup_o (by omega) (by assumption)) | exact xup_o (by omega) (xup_o (by omega) (xup_s _ _ _)) | exact xup_o (by omega) (xup_o (by omega) (xup_o (by omega) (by assumption)))) (c_Mod_held (d + 5) (nI (m + pat.length)) w3) (by omega) (by omega) ?_
              rintro y M5 ⟨rfl, rfl⟩
              rw [keepIn_nI (by omega) (by omega) (by omega)]
              refine xp_istore_4 (pc := 149) hX d_Mod_cut_149 (by decide) ?_
              refine xp_iload_5 (pc := 151) hX d_Mod_cut_151 ?_
              refine xp_istore_3 (pc := 153) hX d_Mod_cut_153 (by decide) ?_
              refine xg_goto (pc := 154) hX 232 d_Mod_cut_154 (by decide) ?_
              exact k232 M5 _ _ _ _ _ _ _ hcs2 w3 f3
          refine xp_aload_0 (pc := 71) hX d_Mod_cut_71 ?_
          refine xg_get (pc := 72) hX (j := 27) k_Mod d_Mod_cut_72 l_Mod_182 (by decide) (by first | assumption | exact xup_s _ _ _ | exact xup_o (by omega) (by assumption) | exact xup_o (by omega) (xup_s _ _ _) | exact xup_o (by omega) (xup_o (by omega) (by assumption)) | exact xup_o (by omega) (xup_o (by omega) (xup_s _ _ _)) | exact xup_o (by omega) (xup_o (by omega) (xup_o (by omega) (by assumption)))) (by rfl) ?_
          refine xg_iconst (pc := 75) hX (nI 3) d_Mod_cut_75 ci_iconst_3 ?_
          refine xn_icmp_ne (pc := 76) hX 101 d_Mod_cut_76 (by decide) (by omega) (by omega) (fun z5 => ?_) (fun z5 => ?_)
          · have hk3 : k.1 = 3 := by omega
            have hfd := tv4 hk3
            refine kpat M2 full1 fd' _ _ _ _ _ ?_ w2 fe
            rw [hfd]
            unfold cutS
            simp only [hk3]
            rfl
          · have hk4 : k.1 = 4 := by omega
            obtain ⟨rfl, rfl⟩ := tv3 (Or.inr hk4)
            obtain ⟨gg1, gg2⟩ := hkg.2.2.2.1 (Or.inr hk4)
            have gg3 := hkg.2.1
            have hcs : cutS es1 se pool x sub fr1 bg1 (some k) = (if (FN es1 se pool x k.2.1 k.2.2).length ≤ 200 then some (patS sub fr1 (tellT es1 se pool (FN es1 se pool x k.2.1 k.2.2))) else none) := by
              unfold cutS
              simp only [hk4]
              rfl
            refine xp_aload_0 (pc := 79) hX d_Mod_cut_79 ?_
            refine xp_aload_0 (pc := 80) hX d_Mod_cut_80 ?_
            refine xg_get (pc := 81) hX (j := 28) k_Mod d_Mod_cut_81 l_Mod_179 (by decide) (by first | assumption | exact xup_s _ _ _ | exact xup_o (by omega) (by assumption) | exact xup_o (by omega) (xup_s _ _ _) | exact xup_o (by omega) (xup_o (by omega) (by assumption)) | exact xup_o (by omega) (xup_o (by omega) (xup_s _ _ _)) | exact xup_o (by omega) (xup_o (by omega) (xup_o (by omega) (by assumption)))) (by rfl) ?_
            refine xp_aload_0 (pc := 84) hX d_Mod_cut_84 ?_
            refine xg_get (pc := 85) hX (j := 29) k_Mod d_Mod_cut_85 l_Mod_191 (by decide) (by first | assumption | exact xup_s _ _ _ | exact xup_o (by omega) (by assumption) | exact xup_o (by omega) (xup_s _ _ _) | exact xup_o (by omega) (xup_o (by omega) (by assumption)) | exact xup_o (by omega) (xup_o (by omega) (xup_s _ _ _)) | exact xup_o (by omega) (xup_o (by omega) (xup_o (by omega) (by assumption)))) (by rfl) ?_
            refine xi_V (Y2 := Y_Mod_nameOf) (pc := 88) hX [_, _] k_Mod m_Mod_nameOf d_Mod_cut_88 l_Mod_149 rfl rfl (by simp [Value.category]) (by first | assumption | exact xup_s _ _ _ | exact xup_o (by omega) (by assumption) | exact xup_o (by omega) (xup_s _ _ _) | exact xup_o (by omega) (xup_o (by omega) (by assumption)) | exact xup_o (by omega) (xup_o (by omega) (xup_s _ _ _)) | exact xup_o (by omega) (xup_o (by omega) (xup_o (by omega) (by assumption)))) (c_Mod_nameOf (d + 1) w2 hso hg1 gg1 gg3 gg2) (by omega) (by omega) ?_
            generalize FN es1 se pool x k.2.1 k.2.2 = nm at *
            rintro y M3 ⟨hc, f3⟩
            rcases hc with ⟨c1, rfl, w3⟩ | ⟨c1, rfl, f', w3⟩
            · rw [if_pos c1] at hcs
              refine xn_if_ne (a := 1) (pc := 91) hX 97 d_Mod_cut_91 (by decide) (by decide) (fun _ => ?_) (fun z => absurd z (by decide))
              obtain ⟨h0, -⟩ := id w3
              refine xp_aload_0 (pc := 97) hX d_Mod_cut_97 ?_
              refine xv_V (Y2 := Y_Mod_look) (pc := 98) hX [] k_Mod m_Mod_look d_Mod_cut_98 l_Mod_206 rfl rfl (by simp [Value.category]) (by first | assumption | exact xup_s _ _ _ | exact xup_o (by omega) (by assumption) | exact xup_o (by omega) (xup_s _ _ _) | exact xup_o (by omega) (xup_o (by omega) (by assumption)) | exact xup_o (by omega) (xup_o (by omega) (xup_s _ _ _)) | exact xup_o (by omega) (xup_o (by omega) (xup_o (by omega) (by assumption)))) (c_Mod_look (d + 2) w3 hso hg1 c1) (by omega) (by omega) ?_
              rintro M4 ⟨w4, f4⟩
              exact kpat M4 nm _ _ _ _ _ _ hcs w4 ((fe.tr f3).tr f4)
            · rw [if_neg (by omega)] at hcs
              rw [hcs] at hPe2
              dsimp only at hPe2
              refine xn_if_ne (a := 0) (pc := 91) hX 97 d_Mod_cut_91 (by decide) (by decide) (fun z => absurd z (by decide)) (fun _ => ?_)
              refine xg_bipush (pc := 94) hX (-2) d_Mod_cut_94 ci_bipush_m2 ?_
              refine xg_iret (pc := 96) hX hE d_Mod_cut_96 rfl rfl (by omega) (by omega) ?_
              exact fin M3 (-2) es1 fr1 bg1 _ _ _ _ _ _ _ hPe2 w3 (fe.tr f3)
      · have ht : isTg k.1 = true := by
          unfold isTg
          simp only [Bool.or_eq_true, beq_iff_eq]
          omega
        rw [if_pos ht] at hPe2
        refine xp_inc_2 (pc := 36) hX d_Mod_cut_36 (by decide) ?_
        refine xp_aload_0 (pc := 39) hX d_Mod_cut_39 ?_
        refine xv_V (Y2 := Y_Mod_blanks) (pc := 40) hX [] k_Mod m_Mod_blanks d_Mod_cut_40 l_Mod_188 rfl rfl (by simp [Value.category]) (by first | assumption | exact xup_s _ _ _ | exact xup_o (by omega) (by assumption) | exact xup_o (by omega) (xup_s _ _ _) | exact xup_o (by omega) (xup_o (by omega) (by assumption)) | exact xup_o (by omega) (xup_o (by omega) (xup_s _ _ _)) | exact xup_o (by omega) (xup_o (by omega) (xup_o (by omega) (by assumption)))) (c_Mod_blanks (d + 4) w2 hel) (by omega) (by omega) ?_
        rintro M3 ⟨w3, f3⟩
        refine xg_goto (pc := 43) hX 13 d_Mod_cut_43 (by decide) ?_
        have := ih (pend ++ [k]) b0 e M3 es1 fr1 bg1 (k.1 - 1) fi' la' va' full1 fd' v3 v4 v5 v6 v7 hel hcr hb0 (ChP_snoc hs1 hs2 pend b0 hcP) (fun k2 hk2 => by
          rcases List.mem_append.mp hk2 with c | c
          · exact htg k2 c
          · rw [List.mem_singleton.mp c]; exact ht) (fun k2 hk2 => by
          rcases List.mem_append.mp hk2 with c | c
          · exact hgP k2 c
          · rw [List.mem_singleton.mp c]; exact hkg) (fun k2 hk2 => hgR k2 (List.mem_cons_of_mem _ hk2)) (by simp; omega) hg1 g1 g2 g3 g4 hPe2 w3 (fe.tr f3)
        rw [List.length_append] at this
        exact this
  refine xg_iconst (pc := 0) hX (nI 0) d_Mod_cut_0 ci_iconst_0 ?_
  refine xp_istore_1 (pc := 1) hX d_Mod_cut_1 (by decide) ?_
  refine xg_iconst (pc := 2) hX (nI 0) d_Mod_cut_2 ci_iconst_0 ?_
  refine xp_istore_2 (pc := 3) hX d_Mod_cut_3 (by decide) ?_
  refine xp_aload_0 (pc := 4) hX d_Mod_cut_4 ?_
  refine xg_iconst (pc := 5) hX (nI 0) d_Mod_cut_5 ci_iconst_0 ?_
  refine xg_put (pc := 6) hX (j := 25) k_Mod d_Mod_cut_6 l_Mod_78 (by decide) rfl (by first | assumption | exact xup_s _ _ _ | exact xup_o (by omega) (by assumption) | exact xup_o (by omega) (xup_s _ _ _) | exact xup_o (by omega) (xup_o (by omega) (by assumption)) | exact xup_o (by omega) (xup_o (by omega) (xup_s _ _ _)) | exact xup_o (by omega) (xup_o (by omega) (xup_o (by omega) (by assumption)))) (Nat.le_of_ble_eq_true rfl) rfl rfl (by simp only [List.set_cons_zero, List.set_cons_succ]; exact rfl) ?_
  refine xp_aload_0 (pc := 9) hX d_Mod_cut_9 ?_
  have w1 : Wd (xup M O (moC O t x out full es pool se sub fd fr bg none 0 kd fi la va)) O t x out full es pool se sub fd fr bg none 0 kd fi la va := h.up
  refine xv_V (Y2 := Y_Mod_blanks) (pc := 10) hX [] k_Mod m_Mod_blanks d_Mod_cut_10 l_Mod_188 rfl rfl (by simp [Value.category]) (by first | assumption | exact xup_s _ _ _ | exact xup_o (by omega) (by assumption) | exact xup_o (by omega) (xup_s _ _ _) | exact xup_o (by omega) (xup_o (by omega) (by assumption)) | exact xup_o (by omega) (xup_o (by omega) (xup_s _ _ _)) | exact xup_o (by omega) (xup_o (by omega) (xup_o (by omega) (by assumption)))) (c_Mod_blanks (d + 4) w1 (by omega)) (by omega) (by omega) ?_
  rintro M2 ⟨w2, f2⟩
  exact loop T [] 0 0 M2 es fr bg kd fi la va full fd _ _ _ _ _ (by omega) hch (by omega) rfl (fun _ hh => absurd hh List.not_mem_nil) (fun _ hh => absurd hh List.not_mem_nil) hgd (by simpa using hTl) hgI hf1 hf2 hb1 hb2 hP.symm w2 ((FrO.up _ _ _ (by omega) (by omega)).tr f2)
end XM20
