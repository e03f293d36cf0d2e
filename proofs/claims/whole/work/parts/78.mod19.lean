/-! the reference: give -/
theorem tok1_e {x : List UInt8} {s e : Nat} {k : xTk} (hs : s < x.length) (h : tok1 x s = ((e, true), some k)) : e ≤ x.length := by
  have := (tok1_le hs).1
  rw [h] at this
  exact this
section XM19
variable {t x out full : List UInt8} {es : List xEn} {pool : Nat} {se : List xSe} {sub fd : List UInt8} {fr bg : Nat} {wr : Option Nat} {nx kd fi la va : Nat}
set_option maxHeartbeats 16000000 in
set_option maxRecDepth 100000 in
theorem c_Mod_give (d : Nat) {M : xH} {sz O a b2 pf pt q : Nat} {L : List xTk} (h : Wd M O t x out full es pool se sub fd fr bg none nx kd fi la va) (hso : SeO se) (hgI : gI es) (hnx : nx < 100000) (ha : a ≤ x.length) (hch : ChP x a L q) (htg : ∀ k ∈ L, isTg k.1 = true) (hgd : ∀ k ∈ L, tkG x k) (hLl : L.length < 100000) (hp1 : 1 ≤ pf) (hp2 : pf ≤ pt) (hp3 : pt ≤ sub.length + 1) : xC (d + 5) 0 0 Y_Mod_give [.ref O, .int (nI a), .int (nI b2), .int (nI L.length), .int (nI pf), .int (nI pt)] M sz (qi sz (fun y M' => y = (hndL se pool x sub pt L pf es).1 ∧ (∃ full' kd' fd' fi' la' va', Wd M' O t x out full' ((hndL se pool x sub pt L pf es).2) pool se sub fd' fr bg none nx kd' fi' la' va') ∧ FrO M M' O)) := by
  refine xC_of (by decide) (Nat.le_of_ble_eq_true rfl) (by simp [Value.category]) (vs := [some (.ref O), some (.int (nI a)), some (.int (nI b2)), some (.int (nI L.length)), some (.int (nI pf)), some (.int (nI pt)), none, none, none, none, none, none]) rfl (fun K hX hE => ?_)
  obtain ⟨h0, -⟩ := id h
  have hsl := h.xl.2.2.2.2.2.2.1
  have hx6 := h.xl.2.1
  generalize hH : hndL se pool x sub pt L pf es = H at *
  -- the end
  have k205 : ∀ (M1 : xH) (y : Int32) (es1 : List xEn) (nx1 kd1 fi1 la1 va1 : Nat) (full1 fd1 : List UInt8) (v6 v9 v10 v11 : Option Value), H = (y, es1) → Wd M1 O t x out full1 es1 pool se sub fd1 fr bg none nx1 kd1 fi1 la1 va1 → FrO M M1 O → xG K 205 [some (.ref O), some (.int (nI a)), some (.int (nI b2)), some (.int (nI L.length)), some (.int (nI pf)), some (.int (nI pt)), v6, some (.int (nI nx)), some (.int y), v9, v10, v11] [] M1 sz 0 0 := by
    intro M1 y es1 nx1 kd1 fi1 la1 va1 full1 fd1 v6 v9 v10 v11 hHe w1 f1
    obtain ⟨h0, -⟩ := id w1
    subst hHe
    refine xp_aload_0 (pc := 205) hX d_Mod_give_205 ?_
    refine xp_iload_7 (pc := 206) hX d_Mod_give_206 ?_
    refine xg_put (pc := 208) hX (j := 25) k_Mod d_Mod_give_208 l_Mod_78 (by decide) rfl (by first | assumption | exact xup_s _ _ _ | exact xup_o (by omega) (by assumption) | exact xup_o (by omega) (xup_s _ _ _) | exact xup_o (by omega) (xup_o (by omega) (by assumption)) | exact xup_o (by omega) (xup_o (by omega) (xup_s _ _ _)) | exact xup_o (by omega) (xup_o (by omega) (xup_o (by omega) (by assumption)))) (Nat.le_of_ble_eq_true rfl) rfl rfl (by simp only [List.set_cons_zero, List.set_cons_succ]; exact rfl) ?_
    refine xp_iload_8 (pc := 211) hX d_Mod_give_211 ?_
    refine xg_iret (pc := 213) hX hE d_Mod_give_213 rfl rfl (by omega) (by omega) ?_
    exact ⟨rfl, _, rfl, rfl, ⟨_, _, _, _, _, _, w1.up⟩, f1.up' _ (by omega) (by omega)⟩
  -- it ends with an answer that is not 0
  have kbad : ∀ (M1 : xH) (y : Int32) (i : Nat) (es1 : List xEn) (nx1 kd1 fi1 la1 va1 : Nat) (full1 fd1 : List UInt8) (v6 v10 v11 : Option Value), ¬ y = 0 → i < 200000 → H = (y, es1) → Wd M1 O t x out full1 es1 pool se sub fd1 fr bg none nx1 kd1 fi1 la1 va1 → FrO M M1 O → xG K 199 [some (.ref O), some (.int (nI a)), some (.int (nI b2)), some (.int (nI L.length)), some (.int (nI pf)), some (.int (nI pt)), v6, some (.int (nI nx)), some (.int y), some (.int (nI i)), v10, v11] [] M1 sz 0 0 := by
    intro M1 y i es1 nx1 kd1 fi1 la1 va1 full1 fd1 v6 v10 v11 hy hi hHe w1 f1
    refine xp_inc_9 (pc := 199) hX d_Mod_give_199 (by decide) ?_
    refine xg_goto (pc := 202) hX 21 d_Mod_give_202 (by decide) ?_
    refine xp_iload_9 (pc := 21) hX d_Mod_give_21 ?_
    refine xp_iload_3 (pc := 23) hX d_Mod_give_23 ?_
    refine xn_icmp_ge (pc := 24) hX 205 d_Mod_give_24 (by decide) (by omega) (by omega) (fun _ => k205 M1 y es1 nx1 kd1 fi1 la1 va1 full1 fd1 _ _ _ _ hHe w1 f1) (fun _ => ?_)
    refine xp_iload_8 (pc := 27) hX d_Mod_give_27 ?_
    exact xg_if_ne (pc := 29) hX 205 d_Mod_give_29 (by decide) (fun _ => k205 M1 y es1 nx1 kd1 fi1 la1 va1 full1 fd1 _ _ _ _ hHe w1 f1) (fun z => absurd z hy)
  have loop : ∀ (L1 : List xTk) (i p pf1 : Nat) (M1 : xH) (es1 : List xEn) (kd1 fi1 la1 va1 : Nat) (full1 fd1 : List UInt8) (v10 v11 : Option Value), i + L1.length = L.length → p ≤ x.length → ChP x p L1 q → (∀ k ∈ L1, isTg k.1 = true) → (∀ k ∈ L1, tkG x k) → gI es1 → 1 ≤ pf1 → pf1 ≤ pt → H = hndL se pool x sub pt L1 pf1 es1 → Wd M1 O t x out full1 es1 pool se sub fd1 fr bg none p kd1 fi1 la1 va1 → FrO M M1 O → xG K 21 [some (.ref O), some (.int (nI a)), some (.int (nI b2)), some (.int (nI L.length)), some (.int (nI pf)), some (.int (nI pt)), some (.int (nI pf1)), some (.int (nI nx)), some (.int (nI 0)), some (.int (nI i)), v10, v11] [] M1 sz 0 0 := by
    intro L1
    induction L1 with
    | nil =>
      intro i p pf1 M1 es1 kd1 fi1 la1 va1 full1 fd1 v10 v11 hi hp hch1 _ _ hg1 hq1 hq2 hHe w1 f1
      refine xp_iload_9 (pc := 21) hX d_Mod_give_21 ?_
      refine xp_iload_3 (pc := 23) hX d_Mod_give_23 ?_
      exact xn_icmp_ge (pc := 24) hX 205 d_Mod_give_24 (by decide) (by omega) (by omega) (fun _ => k205 M1 (nI 0) es1 p kd1 fi1 la1 va1 full1 fd1 _ _ _ _ hHe w1 f1) (fun z => absurd z (by simp at hi; omega))
    | cons k r ih =>
      intro i p pf1 M1 es1 kd1 fi1 la1 va1 full1 fd1 v10 v11 hi hp hch1 htg1 hgd1 hg1 hq1 hq2 hHe w1 f1
      have hil : i + r.length + 1 = L.length := by simp at hi; omega
      obtain ⟨e, hs1, hs2, hch2⟩ := hch1
      have hel := tok1_e hs1 hs2
      obtain ⟨b, hb1, hb2⟩ := sc_stop _ p rfl hp hs1
      have hkt := htg1 k List.mem_cons_self
      have hkg := hgd1 k List.mem_cons_self
      have hw := wrdS_in (last := r.isEmpty) hq1 hq2 hp3
      have hHH : H = (if (hd1 es1 se pool x sub (wrdS r.isEmpty sub pf1 pt).1 (wrdS r.isEmpty sub pf1 pt).2.1 k).1 = nI 0 then hndL se pool x sub pt r (wrdS r.isEmpty sub pf1 pt).2.2 (hd1 es1 se pool x sub (wrdS r.isEmpty sub pf1 pt).1 (wrdS r.isEmpty sub pf1 pt).2.1 k).2 else hd1 es1 se pool x sub (wrdS r.isEmpty sub pf1 pt).1 (wrdS r.isEmpty sub pf1 pt).2.1 k) := by rw [hHe]; rfl
      have hW : wrdS r.isEmpty sub pf1 pt = (if r.isEmpty then (pf1, pt, pt) else (sc bl sub (pf1 - 1) (pt - 1) + 1, sc nbl sub (sc bl sub (pf1 - 1) (pt - 1) + 1 - 1) (pt - 1) + 1, min (sc nbl sub (sc bl sub (pf1 - 1) (pt - 1) + 1 - 1) (pt - 1) + 1 + 1) pt)) := rfl
      generalize wrdS r.isEmpty sub pf1 pt = W at *
      obtain ⟨h0, -⟩ := id w1
      refine xp_iload_9 (pc := 21) hX d_Mod_give_21 ?_
      refine xp_iload_3 (pc := 23) hX d_Mod_give_23 ?_
      refine xn_icmp_ge (pc := 24) hX 205 d_Mod_give_24 (by decide) (by omega) (by omega) (fun z => absurd z (by omega)) (fun _ => ?_)
      refine xp_iload_8 (pc := 27) hX d_Mod_give_27 ?_
      refine xn_if_ne (a := 0) (pc := 29) hX 205 d_Mod_give_29 (by decide) (by decide) (fun z => absurd z (by decide)) (fun _ => ?_)
      refine xp_aload_0 (pc := 32) hX d_Mod_give_32 ?_
      refine xv_V (Y2 := Y_Mod_blanks) (pc := 33) hX [] k_Mod m_Mod_blanks d_Mod_give_33 l_Mod_188 rfl rfl (by simp [Value.category]) (by first | assumption | exact xup_s _ _ _ | exact xup_o (by omega) (by assumption) | exact xup_o (by omega) (xup_s _ _ _) | exact xup_o (by omega) (xup_o (by omega) (by assumption)) | exact xup_o (by omega) (xup_o (by omega) (xup_s _ _ _)) | exact xup_o (by omega) (xup_o (by omega) (xup_o (by omega) (by assumption)))) (c_Mod_blanks (d + 3) w1 hp) (by omega) (by omega) ?_
      rintro M2 ⟨w2, f2⟩
      obtain ⟨h0, -⟩ := id w2
      refine xp_aload_0 (pc := 36) hX d_Mod_give_36 ?_
      refine xv_V (Y2 := Y_Mod_token) (pc := 37) hX [] k_Mod m_Mod_token d_Mod_give_37 l_Mod_200 rfl rfl (by simp [Value.category]) (by first | assumption | exact xup_s _ _ _ | exact xup_o (by omega) (by assumption) | exact xup_o (by omega) (xup_s _ _ _) | exact xup_o (by omega) (xup_o (by omega) (by assumption)) | exact xup_o (by omega) (xup_o (by omega) (xup_s _ _ _)) | exact xup_o (by omega) (xup_o (by omega) (xup_o (by omega) (by assumption)))) (c_Mod_token (d + 1) w2 hb1 (bl_ne hb2)) (by omega) (by omega) ?_
      rintro M3 ⟨hc, f3⟩
      rcases hc with ⟨p', k', fd', fi', la', va', t1, t2, w3⟩ | ⟨p', nx', kd', fd', fi', la', va', t1, -⟩
      rotate_left
      · rw [hs2] at t1
        cases t1
      rw [hs2] at t1
      cases t1
      obtain ⟨tv1, tv2, tv3, -, -⟩ := t2
      have fe : FrO M M3 O := (f1.tr f2).tr f3
      obtain ⟨h0, -, -, -, -, -, -, ⟨hsl3, gs, hsa, hsb⟩, -⟩ := id w3
      have hk12 : k.1 = 1 ∨ k.1 = 2 := by
        unfold isTg at hkt
        simp only [Bool.or_eq_true, beq_iff_eq] at hkt
        exact hkt
      -- the share is known
      have k132 : ∀ (at6 : Nat), at6 = (if r.isEmpty then pf1 else W.2.2) → xG K 132 [some (.ref O), some (.int (nI a)), some (.int (nI b2)), some (.int (nI L.length)), some (.int (nI pf)), some (.int (nI pt)), some (.int (nI at6)), some (.int (nI nx)), some (.int (nI 0)), some (.int (nI i)), some (.int (nI W.1)), some (.int (nI W.2.1))] [] M3 sz 0 0 := by
        intro at6 hat
        have hat2 : 1 ≤ at6 ∧ at6 ≤ pt := by rw [hat]; split <;> omega
        have next : ∀ (M4 : xH) (es2 : List xEn) (full2 : List UInt8) (v10 v11 : Option Value), gI es2 → Wd M4 O t x out full2 es2 pool se sub fd' fr bg none e (k.1 - 1) fi' la' va' → FrO M M4 O → hd1 es1 se pool x sub W.1 W.2.1 k = (nI 0, es2) → xG K 199 [some (.ref O), some (.int (nI a)), some (.int (nI b2)), some (.int (nI L.length)), some (.int (nI pf)), some (.int (nI pt)), some (.int (nI at6)), some (.int (nI nx)), some (.int (nI 0)), some (.int (nI i)), v10, v11] [] M4 sz 0 0 := by
          intro M4 es2 full2 v10 v11 hg2 w4 f4 hd
          rw [hd, if_pos rfl] at hHH
          refine xp_inc_9 (pc := 199) hX d_Mod_give_199 (by decide) ?_
          refine xg_goto (pc := 202) hX 21 d_Mod_give_202 (by decide) ?_
          refine ih (i + 1) e at6 M4 es2 (k.1 - 1) fi' la' va' full2 fd' _ _ (by omega) hel hch2 (fun q hq => htg1 q (List.mem_cons_of_mem _ hq)) (fun q hq => hgd1 q (List.mem_cons_of_mem _ hq)) hg2 hat2.1 hat2.2 ?_ w4 f4
          rw [hHH]
          cases r with
          | nil => rfl
          | cons k2 r2 => rw [hat]; rfl
        refine xp_aload_0 (pc := 132) hX d_Mod_give_132 ?_
        refine xg_get (pc := 133) hX (j := 27) k_Mod d_Mod_give_133 l_Mod_182 (by decide) (by first | assumption | exact xup_s _ _ _ | exact xup_o (by omega) (by assumption) | exact xup_o (by omega) (xup_s _ _ _) | exact xup_o (by omega) (xup_o (by omega) (by assumption)) | exact xup_o (by omega) (xup_o (by omega) (xup_s _ _ _)) | exact xup_o (by omega) (xup_o (by omega) (xup_o (by omega) (by assumption)))) (by rfl) ?_
        refine xg_iconst (pc := 136) hX (nI 1) d_Mod_give_136 ci_iconst_1 ?_
        refine xn_icmp_ne (pc := 137) hX 143 d_Mod_give_137 (by decide) (by omega) (by omega) (fun z => ?_) (fun z => ?_)
        · have hk1 : k.1 = 1 := by omega
          obtain ⟨rfl, rfl⟩ := tv3 (Or.inl hk1)
          obtain ⟨g1, g2⟩ := hkg.2.2.2.1 (Or.inl hk1)
          have hg3 := hkg.2.1
          have hd : hd1 es1 se pool x sub W.1 W.2.1 k = (if (FN es1 se pool x k.2.1 k.2.2).length ≤ 200 then givE es1 se pool (FN es1 se pool x k.2.1 k.2.2) (sl sub (W.1 - 1) (W.2.1 - 1)) else (-2, es1)) := by unfold hd1; rw [if_pos hk1]
          have hnz := FN_pos (es := es1) (se := se) (ip := pool) (t := x) g1 hg3
          refine xp_aload_0 (pc := 143) hX d_Mod_give_143 ?_
          refine xp_aload_0 (pc := 144) hX d_Mod_give_144 ?_
          refine xg_get (pc := 145) hX (j := 28) k_Mod d_Mod_give_145 l_Mod_179 (by decide) (by first | assumption | exact xup_s _ _ _ | exact xup_o (by omega) (by assumption) | exact xup_o (by omega) (xup_s _ _ _) | exact xup_o (by omega) (xup_o (by omega) (by assumption)) | exact xup_o (by omega) (xup_o (by omega) (xup_s _ _ _)) | exact xup_o (by omega) (xup_o (by omega) (xup_o (by omega) (by assumption)))) (by rfl) ?_
          refine xp_aload_0 (pc := 148) hX d_Mod_give_148 ?_
          refine xg_get (pc := 149) hX (j := 29) k_Mod d_Mod_give_149 l_Mod_191 (by decide) (by first | assumption | exact xup_s _ _ _ | exact xup_o (by omega) (by assumption) | exact xup_o (by omega) (xup_s _ _ _) | exact xup_o (by omega) (xup_o (by omega) (by assumption)) | exact xup_o (by omega) (xup_o (by omega) (xup_s _ _ _)) | exact xup_o (by omega) (xup_o (by omega) (xup_o (by omega) (by assumption)))) (by rfl) ?_
          refine xi_V (Y2 := Y_Mod_nameOf) (pc := 152) hX [_, _] k_Mod m_Mod_nameOf d_Mod_give_152 l_Mod_149 rfl rfl (by simp [Value.category]) (by first | assumption | exact xup_s _ _ _ | exact xup_o (by omega) (by assumption) | exact xup_o (by omega) (xup_s _ _ _) | exact xup_o (by omega) (xup_o (by omega) (by assumption)) | exact xup_o (by omega) (xup_o (by omega) (xup_s _ _ _)) | exact xup_o (by omega) (xup_o (by omega) (xup_o (by omega) (by assumption)))) (c_Mod_nameOf d w3 hso hg1 g1 hg3 g2) (by omega) (by omega) ?_
          generalize FN es1 se pool x k.2.1 k.2.2 = nm at *
          rintro y M4 ⟨hc, f4⟩
          rcases hc with ⟨c1, rfl, w4⟩ | ⟨c1, rfl, f', w4⟩
          · rw [if_pos c1] at hd
            refine xn_if_ne (a := 1) (pc := 155) hX 165 d_Mod_give_155 (by decide) (by decide) (fun _ => ?_) (fun z => absurd z (by decide))
            have hgE : givE es1 se pool nm (sl sub (W.1 - 1) (W.2.1 - 1)) = (match putE (clE es1 (own se nm pool) nm) (own se nm pool) nm (some (sl sub (W.1 - 1) (W.2.1 - 1))) with | some es2 => (nI 0, es2) | none => (-4, clE es1 (own se nm pool) nm)) := rfl
            obtain ⟨h0, -⟩ := id w4
            have k189 : xG K 189 [some (.ref O), some (.int (nI a)), some (.int (nI b2)), some (.int (nI L.length)), some (.int (nI pf)), some (.int (nI pt)), some (.int (nI at6)), some (.int (nI nx)), some (.int (nI 0)), some (.int (nI i)), some (.int (nI W.1)), some (.int (nI W.2.1))] [.int (nI (W.2.1 - 1)), .int (nI (W.1 - 1)), .int (nI 1), .ref O] M4 sz 0 0 := by
              refine xi_V (Y2 := Y_Mod_assign) (pc := 189) hX [.int (bI true), _, _] k_Mod m_Mod_assign d_Mod_give_189 l_Mod_152 rfl rfl (by simp [Value.category]) (by assumption) (c_Mod_assign (d + 2) (sb := true) (src := sub) w4 hso hnz c1 rfl (by omega) (by omega) (by omega)) (by omega) (by omega) ?_
              rintro y M5 ⟨hc, f5⟩
              have fe5 : FrO M M5 O := (fe.tr f4).tr f5
              rcases hc with ⟨es2, e1, rfl, w5⟩ | ⟨e1, rfl, w5⟩
              · rw [e1] at hgE
                rw [hgE] at hd
                refine xn_if_ne (a := 1) (pc := 192) hX 199 d_Mod_give_192 (by decide) (by decide) (fun _ => ?_) (fun z => absurd z (by decide))
                have hg2 : gI es2 := by
                  have := gI_givE (se := se) (ip := pool) (nm := nm) (v := sl sub (W.1 - 1) (W.2.1 - 1)) hg1
                  rw [hgE] at this
                  exact this
                exact next M5 es2 nm _ _ hg2 w5 fe5 hd
              · rw [e1] at hgE
                rw [hgE] at hd
                refine xn_if_ne (a := 0) (pc := 192) hX 199 d_Mod_give_192 (by decide) (by decide) (fun z => absurd z (by decide)) (fun _ => ?_)
                refine xg_bipush (pc := 195) hX (-4) d_Mod_give_195 ci_bipush_m4 ?_
                refine xp_istore_8 (pc := 197) hX d_Mod_give_197 (by decide) ?_
                refine kbad M5 (-4) i _ _ _ _ _ _ _ _ _ _ _ (by decide) (by omega) ?_ w5 fe5
                rw [hHH, hd, if_neg (by simp only; decide)]
            refine xp_aload_0 (pc := 165) hX d_Mod_give_165 ?_
            refine xg_iconst (pc := 166) hX (nI 1) d_Mod_give_166 ci_iconst_1 ?_
            refine xp_iload_10 (pc := 167) hX d_Mod_give_167 ?_
            refine xg_iconst (pc := 169) hX (nI 1) d_Mod_give_169 ci_iconst_1 ?_
            first | refine xn_isub (pc := 170) hX d_Mod_give_170 (by omega) ?_ | refine xg_isub (pc := 170) hX d_Mod_give_170 ?_
            refine xp_iload_11 (pc := 171) hX d_Mod_give_171 ?_
            refine xp_iload_10 (pc := 173) hX d_Mod_give_173 ?_
            refine xn_icmp_le (pc := 175) hX 185 d_Mod_give_175 (by decide) (by omega) (by omega) (fun z1 => ?_) (fun z1 => ?_)
            · refine xp_iload_10 (pc := 185) hX d_Mod_give_185 ?_
              refine xg_iconst (pc := 187) hX (nI 1) d_Mod_give_187 ci_iconst_1 ?_
              first | refine xn_isub (pc := 188) hX d_Mod_give_188 (by omega) ?_ | refine xg_isub (pc := 188) hX d_Mod_give_188 ?_
              rw [show W.1 = W.2.1 by omega] at k189 ⊢
              exact k189
            · refine xp_iload_11 (pc := 178) hX d_Mod_give_178 ?_
              refine xg_iconst (pc := 180) hX (nI 1) d_Mod_give_180 ci_iconst_1 ?_
              first | refine xn_isub (pc := 181) hX d_Mod_give_181 (by omega) ?_ | refine xg_isub (pc := 181) hX d_Mod_give_181 ?_
              refine xg_goto (pc := 182) hX 189 d_Mod_give_182 (by decide) ?_
              exact k189
          · rw [if_neg (by omega)] at hd
            refine xn_if_ne (a := 0) (pc := 155) hX 165 d_Mod_give_155 (by decide) (by decide) (fun z => absurd z (by decide)) (fun _ => ?_)
            refine xg_bipush (pc := 158) hX (-2) d_Mod_give_158 ci_bipush_m2 ?_
            refine xp_istore_8 (pc := 160) hX d_Mod_give_160 (by decide) ?_
            refine xg_goto (pc := 162) hX 199 d_Mod_give_162 (by decide) ?_
            refine kbad M4 (-2) i es1 _ _ _ _ _ _ _ _ _ _ (by decide) (by omega) ?_ w4 (fe.tr f4)
            rw [hHH, hd, if_neg (by simp only; decide)]
        · have hk1 : ¬ k.1 = 1 := by omega
          have hd : hd1 es1 se pool x sub W.1 W.2.1 k = (nI 0, es1) := by unfold hd1; rw [if_neg hk1]
          refine xg_goto (pc := 140) hX 199 d_Mod_give_140 (by decide) ?_
          exact next M3 es1 full1 _ _ hg1 w3 fe hd
      refine xp_iload_6 (pc := 40) hX d_Mod_give_40 ?_
      refine xp_istore_10 (pc := 42) hX d_Mod_give_42 (by decide) ?_
      refine xp_iload_5 (pc := 44) hX d_Mod_give_44 ?_
      refine xp_istore_11 (pc := 46) hX d_Mod_give_46 (by decide) ?_
      refine xp_iload_9 (pc := 48) hX d_Mod_give_48 ?_
      refine xp_iload_3 (pc := 50) hX d_Mod_give_50 ?_
      refine xg_iconst (pc := 51) hX (nI 1) d_Mod_give_51 ci_iconst_1 ?_
      first | refine xn_isub (pc := 52) hX d_Mod_give_52 (by omega) ?_ | refine xg_isub (pc := 52) hX d_Mod_give_52 ?_
      cases hr : r with
      | nil =>
        rw [hr] at hW k132 hil
        have hWe : W = (pf1, pt, pt) := hW
        refine xn_icmp_ge (pc := 53) hX 132 d_Mod_give_53 (by decide) (by omega) (by omega) (fun _ => ?_) (fun z => absurd z (by simp at hil; omega))
        have := k132 pf1 rfl
        rw [hWe] at this
        exact this
      | cons k2 r2 =>
        rw [hr] at hW k132 hil
        have hWe : W = (sc bl sub (pf1 - 1) (pt - 1) + 1, sc nbl sub (sc bl sub (pf1 - 1) (pt - 1) + 1 - 1) (pt - 1) + 1, min (sc nbl sub (sc bl sub (pf1 - 1) (pt - 1) + 1 - 1) (pt - 1) + 1 + 1) pt) := hW
        have hil2 : i + r2.length + 2 = L.length := by simp at hil; omega
        have hW1 : W.1 = sc bl sub (pf1 - 1) (pt - 1) + 1 := by rw [hWe]
        have hW2 : W.2.1 = sc nbl sub (W.1 - 1) (pt - 1) + 1 := by rw [hWe]
        have hW3 : W.2.2 = min (W.2.1 + 1) pt := by rw [hWe]
        refine xn_icmp_ge (pc := 53) hX 132 d_Mod_give_53 (by decide) (by omega) (by omega) (fun z => absurd z (by omega)) (fun _ => ?_)
        -- behind the word
        have k114 : xG K 114 [some (.ref O), some (.int (nI a)), some (.int (nI b2)), some (.int (nI L.length)), some (.int (nI pf)), some (.int (nI pt)), some (.int (nI pf1)), some (.int (nI nx)), some (.int (nI 0)), some (.int (nI i)), some (.int (nI W.1)), some (.int (nI W.2.1))] [] M3 sz 0 0 := by
          refine xp_iload_11 (pc := 114) hX d_Mod_give_114 ?_
          refine xp_iload_5 (pc := 116) hX d_Mod_give_116 ?_
          refine xn_icmp_ge (pc := 118) hX 128 d_Mod_give_118 (by decide) (by omega) (by omega) (fun z => ?_) (fun z => ?_)
          · refine xp_iload_5 (pc := 128) hX d_Mod_give_128 ?_
            refine xp_istore_6 (pc := 130) hX d_Mod_give_130 (by decide) ?_
            exact k132 pt (by show pt = W.2.2; rw [hW3]; omega)
          · refine xp_iload_11 (pc := 121) hX d_Mod_give_121 ?_
            refine xg_iconst (pc := 123) hX (nI 1) d_Mod_give_123 ci_iconst_1 ?_
            first | refine xn_iadd (pc := 124) hX d_Mod_give_124 ?_ | refine xg_iadd (pc := 124) hX d_Mod_give_124 ?_
            refine xg_goto (pc := 125) hX 130 d_Mod_give_125 (by decide) ?_
            refine xp_istore_6 (pc := 130) hX d_Mod_give_130 (by decide) ?_
            exact k132 (W.2.1 + 1) (by show W.2.1 + 1 = W.2.2; rw [hW3]; omega)
        have k87 : ∀ (s j : Nat), pt - j = s → W.1 ≤ j → j ≤ pt → sc nbl sub (W.1 - 1) (pt - 1) = sc nbl sub (j - 1) (pt - 1) → xG K 87 [some (.ref O), some (.int (nI a)), some (.int (nI b2)), some (.int (nI L.length)), some (.int (nI pf)), some (.int (nI pt)), some (.int (nI pf1)), some (.int (nI nx)), some (.int (nI 0)), some (.int (nI i)), some (.int (nI W.1)), some (.int (nI j))] [] M3 sz 0 0 := by
          intro s
          induction s with
          | zero =>
            intro j hs hj1 hj2 hsc
            have hje : j = W.2.1 := by rw [hW2, hsc, show j - 1 = pt - 1 by omega, sc_end]; omega
            refine xp_iload_11 (pc := 87) hX d_Mod_give_87 ?_
            refine xp_iload_5 (pc := 89) hX d_Mod_give_89 ?_
            refine xn_icmp_ge (pc := 91) hX 114 d_Mod_give_91 (by decide) (by omega) (by omega) (fun _ => ?_) (fun z => absurd z (by omega))
            rw [hje]
            exact k114
          | succ s ihs =>
            intro j hs hj1 hj2 hsc
            have hjl : j - 1 < sub.length := by omega
            have bb := by_lt sub[j - 1]
            refine xp_iload_11 (pc := 87) hX d_Mod_give_87 ?_
            refine xp_iload_5 (pc := 89) hX d_Mod_give_89 ?_
            refine xn_icmp_ge (pc := 91) hX 114 d_Mod_give_91 (by decide) (by omega) (by omega) (fun z => absurd z (by omega)) (fun _ => ?_)
            refine xp_aload_0 (pc := 94) hX d_Mod_give_94 ?_
            refine xg_get (pc := 95) hX (j := 18) k_Mod d_Mod_give_95 l_Mod_46 (by decide) (by first | assumption | exact xup_s _ _ _ | exact xup_o (by omega) (by assumption) | exact xup_o (by omega) (xup_s _ _ _) | exact xup_o (by omega) (xup_o (by omega) (by assumption)) | exact xup_o (by omega) (xup_o (by omega) (xup_s _ _ _)) | exact xup_o (by omega) (xup_o (by omega) (xup_o (by omega) (by assumption)))) (by rfl) ?_
            refine xp_iload_11 (pc := 98) hX d_Mod_give_98 ?_
            refine xg_iconst (pc := 100) hX (nI 1) d_Mod_give_100 ci_iconst_1 ?_
            first | refine xn_isub (pc := 101) hX d_Mod_give_101 (by omega) ?_ | refine xg_isub (pc := 101) hX d_Mod_give_101 ?_
            refine xn_iald (pc := 102) hX d_Mod_give_102 rfl (by first | assumption | exact xup_s _ _ _ | exact xup_o (by omega) (by assumption) | exact xup_o (by omega) (xup_s _ _ _) | exact xup_o (by omega) (xup_o (by omega) (by assumption)) | exact xup_o (by omega) (xup_o (by omega) (xup_s _ _ _)) | exact xup_o (by omega) (xup_o (by omega) (xup_o (by omega) (by assumption)))) (by omega) (by omega) ?_
            rw [hsb (j - 1) sub[j - 1] (List.getElem?_eq_getElem hjl)]
            refine xg_bipush (pc := 103) hX (nI 32) d_Mod_give_103 ci_bipush_32 ?_
            refine xn_icmp_eq (pc := 105) hX 114 d_Mod_give_105 (by decide) (by omega) (by omega) (fun z => ?_) (fun z => ?_)
            · have hz : sub[j - 1] = 32 := UInt8.toNat_inj.mp z
              have hje : j = W.2.1 := by rw [hW2, hsc, sc_hit (by omega) (by omega) (by rw [hz]; decide)]; omega
              rw [hje]
              exact k114
            · have hz : nbl sub[j - 1] = true := by
                unfold nbl
                simp only [Bool.not_eq_true', beq_eq_false_iff_ne, ne_eq]
                intro q
                exact z (by rw [q]; rfl)
              refine xp_inc_11 (pc := 108) hX d_Mod_give_108 (by decide) ?_
              refine xg_goto (pc := 111) hX 87 d_Mod_give_111 (by decide) ?_
              refine ihs (j + 1) (by omega) (by omega) (by omega) ?_
              rw [hsc, sc_miss (by omega) (by omega) hz, show j + 1 - 1 = j - 1 + 1 by omega]
        have k56 : ∀ (s j : Nat), pt - j = s → pf1 ≤ j → j ≤ pt → sc bl sub (pf1 - 1) (pt - 1) = sc bl sub (j - 1) (pt - 1) → xG K 56 [some (.ref O), some (.int (nI a)), some (.int (nI b2)), some (.int (nI L.length)), some (.int (nI pf)), some (.int (nI pt)), some (.int (nI pf1)), some (.int (nI nx)), some (.int (nI 0)), some (.int (nI i)), some (.int (nI j)), some (.int (nI pt))] [] M3 sz 0 0 := by
          intro s
          have go : ∀ j, j = W.1 → xG K 83 [some (.ref O), some (.int (nI a)), some (.int (nI b2)), some (.int (nI L.length)), some (.int (nI pf)), some (.int (nI pt)), some (.int (nI pf1)), some (.int (nI nx)), some (.int (nI 0)), some (.int (nI i)), some (.int (nI j)), some (.int (nI pt))] [] M3 sz 0 0 := by
            rintro j rfl
            refine xp_iload_10 (pc := 83) hX d_Mod_give_83 ?_
            refine xp_istore_11 (pc := 85) hX d_Mod_give_85 (by decide) ?_
            exact k87 _ W.1 rfl (Nat.le_refl _) (by omega) rfl
          induction s with
          | zero =>
            intro j hs hj1 hj2 hsc
            have hje : j = W.1 := by rw [hW1, hsc, show j - 1 = pt - 1 by omega, sc_end]; omega
            refine xp_iload_10 (pc := 56) hX d_Mod_give_56 ?_
            refine xp_iload_5 (pc := 58) hX d_Mod_give_58 ?_
            exact xn_icmp_ge (pc := 60) hX 83 d_Mod_give_60 (by decide) (by omega) (by omega) (fun _ => go j hje) (fun z => absurd z (by omega))
          | succ s ihs =>
            intro j hs hj1 hj2 hsc
            have hjl : j - 1 < sub.length := by omega
            have bb := by_lt sub[j - 1]
            refine xp_iload_10 (pc := 56) hX d_Mod_give_56 ?_
            refine xp_iload_5 (pc := 58) hX d_Mod_give_58 ?_
            refine xn_icmp_ge (pc := 60) hX 83 d_Mod_give_60 (by decide) (by omega) (by omega) (fun z => absurd z (by omega)) (fun _ => ?_)
            refine xp_aload_0 (pc := 63) hX d_Mod_give_63 ?_
            refine xg_get (pc := 64) hX (j := 18) k_Mod d_Mod_give_64 l_Mod_46 (by decide) (by first | assumption | exact xup_s _ _ _ | exact xup_o (by omega) (by assumption) | exact xup_o (by omega) (xup_s _ _ _) | exact xup_o (by omega) (xup_o (by omega) (by assumption)) | exact xup_o (by omega) (xup_o (by omega) (xup_s _ _ _)) | exact xup_o (by omega) (xup_o (by omega) (xup_o (by omega) (by assumption)))) (by rfl) ?_
            refine xp_iload_10 (pc := 67) hX d_Mod_give_67 ?_
            refine xg_iconst (pc := 69) hX (nI 1) d_Mod_give_69 ci_iconst_1 ?_
            first | refine xn_isub (pc := 70) hX d_Mod_give_70 (by omega) ?_ | refine xg_isub (pc := 70) hX d_Mod_give_70 ?_
            refine xn_iald (pc := 71) hX d_Mod_give_71 rfl (by first | assumption | exact xup_s _ _ _ | exact xup_o (by omega) (by assumption) | exact xup_o (by omega) (xup_s _ _ _) | exact xup_o (by omega) (xup_o (by omega) (by assumption)) | exact xup_o (by omega) (xup_o (by omega) (xup_s _ _ _)) | exact xup_o (by omega) (xup_o (by omega) (xup_o (by omega) (by assumption)))) (by omega) (by omega) ?_
            rw [hsb (j - 1) sub[j - 1] (List.getElem?_eq_getElem hjl)]
            refine xg_bipush (pc := 72) hX (nI 32) d_Mod_give_72 ci_bipush_32 ?_
            refine xn_icmp_ne (pc := 74) hX 83 d_Mod_give_74 (by decide) (by omega) (by omega) (fun z => ?_) (fun z => ?_)
            · have hz : bl sub[j - 1] = false := by
                unfold bl
                simp only [beq_eq_false_iff_ne, ne_eq]
                intro q
                exact z (by rw [q]; rfl)
              exact go j (by rw [hW1, hsc, sc_hit (by omega) (by omega) hz]; omega)
            · have hz : sub[j - 1] = 32 := UInt8.toNat_inj.mp z
              refine xp_inc_10 (pc := 77) hX d_Mod_give_77 (by decide) ?_
              refine xg_goto (pc := 80) hX 56 d_Mod_give_80 (by decide) ?_
              refine ihs (j + 1) (by omega) (by omega) (by omega) ?_
              rw [hsc, sc_miss (by omega) (by omega) (by rw [hz]; decide), show j + 1 - 1 = j - 1 + 1 by omega]
        exact k56 _ pf1 rfl (Nat.le_refl _) hq2 rfl
  refine xp_iload_4 (pc := 0) hX d_Mod_give_0 ?_
  refine xp_istore_6 (pc := 2) hX d_Mod_give_2 (by decide) ?_
  refine xp_aload_0 (pc := 4) hX d_Mod_give_4 ?_
  refine xg_get (pc := 5) hX (j := 25) k_Mod d_Mod_give_5 l_Mod_78 (by decide) (by first | assumption | exact xup_s _ _ _ | exact xup_o (by omega) (by assumption) | exact xup_o (by omega) (xup_s _ _ _) | exact xup_o (by omega) (xup_o (by omega) (by assumption)) | exact xup_o (by omega) (xup_o (by omega) (xup_s _ _ _)) | exact xup_o (by omega) (xup_o (by omega) (xup_o (by omega) (by assumption)))) (by rfl) ?_
  refine xp_istore_7 (pc := 8) hX d_Mod_give_8 (by decide) ?_
  refine xg_iconst (pc := 10) hX (nI 0) d_Mod_give_10 ci_iconst_0 ?_
  refine xp_istore_8 (pc := 11) hX d_Mod_give_11 (by decide) ?_
  refine xp_aload_0 (pc := 13) hX d_Mod_give_13 ?_
  refine xp_iload_1 (pc := 14) hX d_Mod_give_14 ?_
  refine xg_put (pc := 15) hX (j := 25) k_Mod d_Mod_give_15 l_Mod_78 (by decide) rfl (by first | assumption | exact xup_s _ _ _ | exact xup_o (by omega) (by assumption) | exact xup_o (by omega) (xup_s _ _ _) | exact xup_o (by omega) (xup_o (by omega) (by assumption)) | exact xup_o (by omega) (xup_o (by omega) (xup_s _ _ _)) | exact xup_o (by omega) (xup_o (by omega) (xup_o (by omega) (by assumption)))) (Nat.le_of_ble_eq_true rfl) rfl rfl (by simp only [List.set_cons_zero, List.set_cons_succ]; exact rfl) ?_
  refine xg_iconst (pc := 18) hX (nI 0) d_Mod_give_18 ci_iconst_0 ?_
  refine xp_istore_9 (pc := 19) hX d_Mod_give_19 (by decide) ?_
  exact loop L 0 a pf _ es kd fi la va full fd _ _ (by omega) ha hch htg hgd hgI hp1 hp2 hH.symm h.up (FrO.up _ _ _ (by omega) (by omega))
end XM19
