/-! the reference: write, name, value; isAlike, isStem, stem -/
section XM5
variable {t x out full : List UInt8} {es : List xEn} {pool : Nat} {se : List xSe} {sub fd : List UInt8} {fr bg : Nat} {wr : Option Nat} {nx kd fi la va : Nat}
set_option maxHeartbeats 4000000 in
set_option maxRecDepth 100000 in
theorem c_Mod_write (d : Nat) {M : xH} {sz O a N p : Nat} {f : Nat → Int32} {src : List UInt8} (h : Wd M O t x out full es pool se sub fd fr bg wr nx kd fi la va) (ha : a ≠ O) (ha3 : a ≠ O + 3) (hM : M a = some (.inl (1, N, .inl f))) (hN : N < 1000000) (hl : src.length ≤ 200) (hp : p + src.length ≤ N) (hs : ∀ (j : Nat) (b : UInt8), src[j]? = some b → f (p + j) = nI b.toNat) : xC d 0 0 Y_Mod_write [.ref O, .ref a, .int (nI p), .int (nI src.length)] M sz (qv sz (fun M' => Wd M' O t x src full es pool se sub fd fr bg wr nx kd fi la va ∧ FrO M M' O)) := by
  refine xC_of (by decide) (Nat.le_of_ble_eq_true rfl) (by simp [Value.category]) (vs := [some (.ref O), some (.ref a), some (.int (nI p)), some (.int (nI src.length)), none]) rfl (fun K hX hE => ?_)
  obtain ⟨h0, -, -, ⟨h3l, f0, h3a, h3b⟩, -⟩ := id h
  refine xp_aload_0 (pc := 0) hX d_Mod_write_0 ?_
  refine xp_iload_3 (pc := 1) hX d_Mod_write_1 ?_
  refine xg_put (pc := 2) hX (j := 6) k_Mod d_Mod_write_2 l_Mod_69 (by decide) rfl (by first | assumption | exact xup_s _ _ _ | exact xup_o (by omega) (by assumption) | exact xup_o (by omega) (xup_s _ _ _) | exact xup_o (by omega) (xup_o (by omega) (by assumption)) | exact xup_o (by omega) (xup_o (by omega) (xup_s _ _ _)) | exact xup_o (by omega) (xup_o (by omega) (xup_o (by omega) (by assumption)))) (Nat.le_of_ble_eq_true rfl) rfl rfl (by simp only [List.set_cons_zero, List.set_cons_succ]; exact rfl) ?_
  refine xg_iconst (pc := 5) hX (nI 0) d_Mod_write_5 ci_iconst_0 ?_
  refine xp_istore_4 (pc := 6) hX d_Mod_write_6 (by decide) ?_
  have loop : ∀ (n i : Nat) (M1 : xH) (g : Nat → Int32), src.length - i = n → i ≤ src.length → M1 O = some (moC O t x src full es pool se sub fd fr bg wr nx kd fi la va) → M1 (O + 3) = some (.inl (1, 200, .inl g)) → (∀ j b, j < i → src[j]? = some b → g j = nI b.toNat) → (∀ q, q ≠ O → q ≠ O + 3 → M1 q = M q) → xG K 8 [some (.ref O), some (.ref a), some (.int (nI p)), some (.int (nI src.length)), some (.int (nI i))] [] M1 sz 0 0 := by
    intro n
    induction n with
    | zero =>
      intro i M1 g hn hi ho hg hb hq
      refine xp_iload_4 (pc := 8) hX d_Mod_write_8 ?_
      refine xp_iload_3 (pc := 10) hX d_Mod_write_10 ?_
      refine xn_icmp_ge (pc := 11) hX 33 d_Mod_write_11 (by decide) (by omega) (by omega) (fun z => ?_) (fun z => absurd z (by omega))
      refine xg_vret (pc := 33) hX hE d_Mod_write_33 rfl (by omega) (by omega) ?_
      refine ⟨rfl, rfl, h.so ho ⟨hl, g, hg, fun j b hj => hb j b (by have := (List.getElem?_eq_some_iff.mp hj).1; omega) hj⟩ hq, fun q hq1 => hq q (by omega) (by omega)⟩
    | succ n ih =>
      intro i M1 g hn hi ho hg hb hq
      have hM1 := (hq a ha ha3).trans hM
      refine xp_iload_4 (pc := 8) hX d_Mod_write_8 ?_
      refine xp_iload_3 (pc := 10) hX d_Mod_write_10 ?_
      refine xn_icmp_ge (pc := 11) hX 33 d_Mod_write_11 (by decide) (by omega) (by omega) (fun z => absurd z (by omega)) (fun z => ?_)
      refine xp_aload_0 (pc := 14) hX d_Mod_write_14 ?_
      refine xg_get (pc := 15) hX (j := 2) k_Mod d_Mod_write_15 l_Mod_16 (by decide) (by first | assumption | exact xup_s _ _ _ | exact xup_o (by omega) (by assumption) | exact xup_o (by omega) (xup_s _ _ _) | exact xup_o (by omega) (xup_o (by omega) (by assumption)) | exact xup_o (by omega) (xup_o (by omega) (xup_s _ _ _)) | exact xup_o (by omega) (xup_o (by omega) (xup_o (by omega) (by assumption)))) (by rfl) ?_
      refine xp_iload_4 (pc := 18) hX d_Mod_write_18 ?_
      refine xp_aload_1 (pc := 20) hX d_Mod_write_20 ?_
      refine xp_iload_2 (pc := 21) hX d_Mod_write_21 ?_
      refine xp_iload_4 (pc := 22) hX d_Mod_write_22 ?_
      first | refine xn_iadd (pc := 24) hX d_Mod_write_24 ?_ | refine xg_iadd (pc := 24) hX d_Mod_write_24 ?_
      refine xn_iald (pc := 25) hX d_Mod_write_25 rfl (by first | assumption | exact xup_s _ _ _ | exact xup_o (by omega) (by assumption) | exact xup_o (by omega) (xup_s _ _ _) | exact xup_o (by omega) (xup_o (by omega) (by assumption)) | exact xup_o (by omega) (xup_o (by omega) (xup_s _ _ _)) | exact xup_o (by omega) (xup_o (by omega) (xup_o (by omega) (by assumption)))) (by omega) (by omega) ?_
      refine xn_iast (pc := 26) hX d_Mod_write_26 rfl (by first | assumption | exact xup_s _ _ _ | exact xup_o (by omega) (by assumption) | exact xup_o (by omega) (xup_s _ _ _) | exact xup_o (by omega) (xup_o (by omega) (by assumption)) | exact xup_o (by omega) (xup_o (by omega) (xup_s _ _ _)) | exact xup_o (by omega) (xup_o (by omega) (xup_o (by omega) (by assumption)))) (by omega) (by omega) ?_
      refine xp_inc_4 (pc := 27) hX d_Mod_write_27 (by decide) ?_
      refine xg_goto (pc := 30) hX 8 d_Mod_write_30 (by decide) ?_
      refine ih (i + 1) _ _ (by omega) (by omega) ?_ (xup_s _ _ _) (fun j b hj hjb => ?_) (fun q a b => ?_)
      · rw [xup_n _ _ (by omega)]; exact ho
      · by_cases e : j = i
        · subst e
          rw [pk_us]
          exact hs j b hjb
        · rw [pk_un e]
          exact hb j b (by omega) hjb
      · rw [xup_n _ _ b]; exact hq q a b
  refine loop src.length 0 _ f0 (by omega) (by omega) (xup_s _ _ _) ?_ (fun j b hj => absurd hj (by omega)) (fun q a _ => xup_n _ _ a)
  rw [xup_n _ _ (by omega)]
  exact h3a
set_option maxHeartbeats 4000000 in
set_option maxRecDepth 100000 in
theorem b_name (d : Nat) {M : xH} {sz O : Nat} {S : xS} (y : Int32) (h : MW M O S) : xC (d + 1) 0 0 Y_Mod_name [.ref O, .int y] M sz (qi sz (fun z M' => z = (sName y S).1 ∧ MW M' O (sName y S).2 ∧ FrO M M' O)) := by
  obtain ⟨t, out, es, dp, se, sub, fr, bg⟩ := S
  obtain ⟨hdp, x, full, fd, wr, nx, kd, fi, la, va, hw⟩ := id h
  refine xC_of (by decide) (Nat.le_of_ble_eq_true rfl) (by simp [Value.category]) (vs := [some (.ref O), some (.int y)]) rfl (fun K hX hE => ?_)
  obtain ⟨h0, -, -, -, -, ⟨h5l, fn, fz, fv, fvz, fp, h5, h6, h7, h8, h9, h10⟩, -⟩ := id hw
  have k12 : rIx es.length y = none → xG K 12 [some (.ref O), some (.int y)] [] M sz 0 0 := by
    intro hb
    have hS : sName y (t, out, es, dp, se, sub, fr, bg) = (-1, (t, out, es, dp, se, sub, fr, bg)) := by
      unfold sName
      dsimp only
      rw [hb]
    rw [hS] at hE
    refine xg_iconst (pc := 12) hX (-1) d_Mod_name_12 ci_iconst_m1 ?_
    refine xg_iret (pc := 13) hX hE d_Mod_name_13 rfl rfl (by omega) (by omega) ?_
    exact ⟨rfl, _, rfl, rfl, h, FrO.rf _ _⟩
  refine xp_iload_1 (pc := 0) hX d_Mod_name_0 ?_
  refine xg_if_lt (pc := 1) hX 12 d_Mod_name_1 (by decide) (fun z => k12 (by unfold rIx; rw [if_pos z])) (fun z => ?_)
  obtain ⟨n, hn, rfl⟩ := nI_of z
  have hn : n < 2147483648 := hn
  refine xp_iload_1 (pc := 4) hX d_Mod_name_4 ?_
  refine xp_aload_0 (pc := 5) hX d_Mod_name_5 ?_
  refine xg_get (pc := 6) hX (j := 13) k_Mod d_Mod_name_6 l_Mod_105 (by decide) (by first | assumption | exact xup_s _ _ _ | exact xup_o (by omega) (by assumption) | exact xup_o (by omega) (xup_s _ _ _) | exact xup_o (by omega) (xup_o (by omega) (by assumption)) | exact xup_o (by omega) (xup_o (by omega) (xup_s _ _ _)) | exact xup_o (by omega) (xup_o (by omega) (xup_o (by omega) (by assumption)))) (by rfl) ?_
  refine xn_icmp_lt (pc := 9) hX 14 d_Mod_name_9 (by decide) (by omega) (by omega) (fun z1 => ?_) (fun z1 => k12 (by rw [rIx_nI hn, if_neg (by omega)]))
  have he : es[n]? = some es[n] := List.getElem?_eq_getElem z1
  obtain ⟨⟨e1, e2, e3, e4, e5⟩, -⟩ := h10 n _ he
  have hS : sName (nI n) (t, out, es, dp, se, sub, fr, bg) = (nI es[n].1, (t, es[n].2.1, es, dp, se, sub, fr, bg)) := by
    unfold sName
    dsimp only
    rw [rIx_nI hn, if_pos z1]
    dsimp only
    rw [he]
  rw [hS] at hE
  generalize es[n] = e at *
  refine xp_aload_0 (pc := 14) hX d_Mod_name_14 ?_
  refine xp_aload_0 (pc := 15) hX d_Mod_name_15 ?_
  refine xg_get (pc := 16) hX (j := 8) k_Mod d_Mod_name_16 l_Mod_22 (by decide) (by first | assumption | exact xup_s _ _ _ | exact xup_o (by omega) (by assumption) | exact xup_o (by omega) (xup_s _ _ _) | exact xup_o (by omega) (xup_o (by omega) (by assumption)) | exact xup_o (by omega) (xup_o (by omega) (xup_s _ _ _)) | exact xup_o (by omega) (xup_o (by omega) (xup_o (by omega) (by assumption)))) (by rfl) ?_
  refine xg_sipush (pc := 19) hX (nI 200) d_Mod_name_19 ci_sipush_200 ?_
  refine xp_iload_1 (pc := 22) hX d_Mod_name_22 ?_
  first | refine xn_imul (pc := 23) hX d_Mod_name_23 ?_ | refine xg_imul (pc := 23) hX d_Mod_name_23 ?_
  refine xp_aload_0 (pc := 24) hX d_Mod_name_24 ?_
  refine xg_get (pc := 25) hX (j := 9) k_Mod d_Mod_name_25 l_Mod_25 (by decide) (by first | assumption | exact xup_s _ _ _ | exact xup_o (by omega) (by assumption) | exact xup_o (by omega) (xup_s _ _ _) | exact xup_o (by omega) (xup_o (by omega) (by assumption)) | exact xup_o (by omega) (xup_o (by omega) (xup_s _ _ _)) | exact xup_o (by omega) (xup_o (by omega) (xup_o (by omega) (by assumption)))) (by rfl) ?_
  refine xp_iload_1 (pc := 28) hX d_Mod_name_28 ?_
  refine xn_iald (pc := 29) hX d_Mod_name_29 rfl (by first | assumption | exact xup_s _ _ _ | exact xup_o (by omega) (by assumption) | exact xup_o (by omega) (xup_s _ _ _) | exact xup_o (by omega) (xup_o (by omega) (by assumption)) | exact xup_o (by omega) (xup_o (by omega) (xup_s _ _ _)) | exact xup_o (by omega) (xup_o (by omega) (xup_o (by omega) (by assumption)))) (by omega) (by omega) ?_
  rw [e3]
  refine xv_V (Y2 := Y_Mod_write) (pc := 30) hX [_, _, _] k_Mod m_Mod_write d_Mod_name_30 l_Mod_159 rfl rfl (by simp [Value.category]) (by first | assumption | exact xup_s _ _ _ | exact xup_o (by omega) (by assumption) | exact xup_o (by omega) (xup_s _ _ _) | exact xup_o (by omega) (xup_o (by omega) (by assumption)) | exact xup_o (by omega) (xup_o (by omega) (xup_s _ _ _)) | exact xup_o (by omega) (xup_o (by omega) (xup_o (by omega) (by assumption)))) (c_Mod_write d hw (by omega) (by omega) h5 (by omega) e4 (by omega) e5) (by omega) (by omega) ?_
  rintro M1 ⟨a1, a2⟩
  obtain ⟨h0', -, -, -, -, ⟨h5l', fn', fz', fv', fvz', fp', h5', h6', h7', h8', h9', h10'⟩, -⟩ := id a1
  obtain ⟨⟨e1', -⟩, -⟩ := h10' n _ he
  refine xp_aload_0 (pc := 33) hX d_Mod_name_33 ?_
  refine xg_get (pc := 34) hX (j := 12) k_Mod d_Mod_name_34 l_Mod_34 (by decide) (by first | assumption | exact xup_s _ _ _ | exact xup_o (by omega) (by assumption) | exact xup_o (by omega) (xup_s _ _ _) | exact xup_o (by omega) (xup_o (by omega) (by assumption)) | exact xup_o (by omega) (xup_o (by omega) (xup_s _ _ _)) | exact xup_o (by omega) (xup_o (by omega) (xup_o (by omega) (by assumption)))) (by rfl) ?_
  refine xp_iload_1 (pc := 37) hX d_Mod_name_37 ?_
  refine xn_iald (pc := 38) hX d_Mod_name_38 rfl (by first | assumption | exact xup_s _ _ _ | exact xup_o (by omega) (by assumption) | exact xup_o (by omega) (xup_s _ _ _) | exact xup_o (by omega) (xup_o (by omega) (by assumption)) | exact xup_o (by omega) (xup_o (by omega) (xup_s _ _ _)) | exact xup_o (by omega) (xup_o (by omega) (xup_o (by omega) (by assumption)))) (by omega) (by omega) ?_
  refine xg_iret (pc := 39) hX hE d_Mod_name_39 rfl rfl (by omega) (by omega) ?_
  exact ⟨rfl, _, rfl, e1', ⟨hdp, _, _, _, _, _, _, _, _, _, a1⟩, a2⟩
set_option maxHeartbeats 4000000 in
set_option maxRecDepth 100000 in
theorem b_value (d : Nat) {M : xH} {sz O : Nat} {S : xS} (y : Int32) (h : MW M O S) : xC (d + 1) 0 0 Y_Mod_value [.ref O, .int y] M sz (qi sz (fun z M' => z = (sValue y S).1 ∧ MW M' O (sValue y S).2 ∧ FrO M M' O)) := by
  obtain ⟨t, out, es, dp, se, sub, fr, bg⟩ := S
  obtain ⟨hdp, x, full, fd, wr, nx, kd, fi, la, va, hw⟩ := id h
  refine xC_of (by decide) (Nat.le_of_ble_eq_true rfl) (by simp [Value.category]) (vs := [some (.ref O), some (.int y)]) rfl (fun K hX hE => ?_)
  obtain ⟨h0, -, -, -, -, ⟨h5l, fn, fz, fv, fvz, fp, h5, h6, h7, h8, h9, h10⟩, -⟩ := id hw
  have k12 : rIx es.length y = none → xG K 12 [some (.ref O), some (.int y)] [] M sz 0 0 := by
    intro hb
    have hS : sValue y (t, out, es, dp, se, sub, fr, bg) = (-1, (t, out, es, dp, se, sub, fr, bg)) := by
      unfold sValue
      dsimp only
      rw [hb]
    rw [hS] at hE
    refine xg_iconst (pc := 12) hX (-1) d_Mod_value_12 ci_iconst_m1 ?_
    refine xg_iret (pc := 13) hX hE d_Mod_value_13 rfl rfl (by omega) (by omega) ?_
    exact ⟨rfl, _, rfl, rfl, h, FrO.rf _ _⟩
  refine xp_iload_1 (pc := 0) hX d_Mod_value_0 ?_
  refine xg_if_lt (pc := 1) hX 12 d_Mod_value_1 (by decide) (fun z => k12 (by unfold rIx; rw [if_pos z])) (fun z => ?_)
  obtain ⟨n, hn, rfl⟩ := nI_of z
  have hn : n < 2147483648 := hn
  refine xp_iload_1 (pc := 4) hX d_Mod_value_4 ?_
  refine xp_aload_0 (pc := 5) hX d_Mod_value_5 ?_
  refine xg_get (pc := 6) hX (j := 13) k_Mod d_Mod_value_6 l_Mod_105 (by decide) (by first | assumption | exact xup_s _ _ _ | exact xup_o (by omega) (by assumption) | exact xup_o (by omega) (xup_s _ _ _) | exact xup_o (by omega) (xup_o (by omega) (by assumption)) | exact xup_o (by omega) (xup_o (by omega) (xup_s _ _ _)) | exact xup_o (by omega) (xup_o (by omega) (xup_o (by omega) (by assumption)))) (by rfl) ?_
  refine xn_icmp_lt (pc := 9) hX 14 d_Mod_value_9 (by decide) (by omega) (by omega) (fun z1 => ?_) (fun z1 => k12 (by rw [rIx_nI hn, if_neg (by omega)]))
  have he : es[n]? = some es[n] := List.getElem?_eq_getElem z1
  obtain ⟨-, hv⟩ := h10 n _ he
  obtain ⟨v1, v2⟩ := hv trivial
  generalize es[n] = e at *
  obtain ⟨p, nm, vo⟩ := e
  dsimp only at v1 v2
  refine xp_aload_0 (pc := 14) hX d_Mod_value_14 ?_
  refine xg_get (pc := 15) hX (j := 11) k_Mod d_Mod_value_15 l_Mod_31 (by decide) (by first | assumption | exact xup_s _ _ _ | exact xup_o (by omega) (by assumption) | exact xup_o (by omega) (xup_s _ _ _) | exact xup_o (by omega) (xup_o (by omega) (by assumption)) | exact xup_o (by omega) (xup_o (by omega) (xup_s _ _ _)) | exact xup_o (by omega) (xup_o (by omega) (xup_o (by omega) (by assumption)))) (by rfl) ?_
  refine xp_iload_1 (pc := 18) hX d_Mod_value_18 ?_
  refine xn_iald (pc := 19) hX d_Mod_value_19 rfl (by first | assumption | exact xup_s _ _ _ | exact xup_o (by omega) (by assumption) | exact xup_o (by omega) (xup_s _ _ _) | exact xup_o (by omega) (xup_o (by omega) (by assumption)) | exact xup_o (by omega) (xup_o (by omega) (xup_s _ _ _)) | exact xup_o (by omega) (xup_o (by omega) (xup_o (by omega) (by assumption)))) (by omega) (by omega) ?_
  rw [v1]
  cases vo with
  | none =>
    have hS : sValue (nI n) (t, out, es, dp, se, sub, fr, bg) = (-3, (t, out, es, dp, se, sub, fr, bg)) := by
      unfold sValue
      dsimp only
      rw [rIx_nI hn, if_pos z1]
      dsimp only
      rw [he]
    rw [hS] at hE
    refine xg_if_ge (pc := 20) hX 26 d_Mod_value_20 (by decide) (fun z => absurd z (by decide)) (fun _ => ?_)
    refine xg_bipush (pc := 23) hX (-3) d_Mod_value_23 ci_bipush_m3 ?_
    refine xg_iret (pc := 25) hX hE d_Mod_value_25 rfl rfl (by omega) (by omega) ?_
    exact ⟨rfl, _, rfl, rfl, h, FrO.rf _ _⟩
  | some u =>
    have hS : sValue (nI n) (t, out, es, dp, se, sub, fr, bg) = (nI u.length, (t, u, es, dp, se, sub, fr, bg)) := by
      unfold sValue
      dsimp only
      rw [rIx_nI hn, if_pos z1]
      dsimp only
      rw [he]
    rw [hS] at hE
    obtain ⟨v3, v4⟩ := v2 u rfl
    refine xn_if_ge (a := u.length) (pc := 20) hX 26 d_Mod_value_20 (by decide) (by omega) ?_
    refine xp_aload_0 (pc := 26) hX d_Mod_value_26 ?_
    refine xp_aload_0 (pc := 27) hX d_Mod_value_27 ?_
    refine xg_get (pc := 28) hX (j := 10) k_Mod d_Mod_value_28 l_Mod_28 (by decide) (by first | assumption | exact xup_s _ _ _ | exact xup_o (by omega) (by assumption) | exact xup_o (by omega) (xup_s _ _ _) | exact xup_o (by omega) (xup_o (by omega) (by assumption)) | exact xup_o (by omega) (xup_o (by omega) (xup_s _ _ _)) | exact xup_o (by omega) (xup_o (by omega) (xup_o (by omega) (by assumption)))) (by rfl) ?_
    refine xg_sipush (pc := 31) hX (nI 200) d_Mod_value_31 ci_sipush_200 ?_
    refine xp_iload_1 (pc := 34) hX d_Mod_value_34 ?_
    first | refine xn_imul (pc := 35) hX d_Mod_value_35 ?_ | refine xg_imul (pc := 35) hX d_Mod_value_35 ?_
    refine xp_aload_0 (pc := 36) hX d_Mod_value_36 ?_
    refine xg_get (pc := 37) hX (j := 11) k_Mod d_Mod_value_37 l_Mod_31 (by decide) (by first | assumption | exact xup_s _ _ _ | exact xup_o (by omega) (by assumption) | exact xup_o (by omega) (xup_s _ _ _) | exact xup_o (by omega) (xup_o (by omega) (by assumption)) | exact xup_o (by omega) (xup_o (by omega) (xup_s _ _ _)) | exact xup_o (by omega) (xup_o (by omega) (xup_o (by omega) (by assumption)))) (by rfl) ?_
    refine xp_iload_1 (pc := 40) hX d_Mod_value_40 ?_
    refine xn_iald (pc := 41) hX d_Mod_value_41 rfl (by first | assumption | exact xup_s _ _ _ | exact xup_o (by omega) (by assumption) | exact xup_o (by omega) (xup_s _ _ _) | exact xup_o (by omega) (xup_o (by omega) (by assumption)) | exact xup_o (by omega) (xup_o (by omega) (xup_s _ _ _)) | exact xup_o (by omega) (xup_o (by omega) (xup_o (by omega) (by assumption)))) (by omega) (by omega) ?_
    rw [v1]
    refine xv_V (Y2 := Y_Mod_write) (pc := 42) hX [_, _, _] k_Mod m_Mod_write d_Mod_value_42 l_Mod_159 rfl rfl (by simp [Value.category]) (by first | assumption | exact xup_s _ _ _ | exact xup_o (by omega) (by assumption) | exact xup_o (by omega) (xup_s _ _ _) | exact xup_o (by omega) (xup_o (by omega) (by assumption)) | exact xup_o (by omega) (xup_o (by omega) (xup_s _ _ _)) | exact xup_o (by omega) (xup_o (by omega) (xup_o (by omega) (by assumption)))) (c_Mod_write d hw (src := u) (by omega) (by omega) h7 (by omega) v3 (by omega) v4) (by omega) (by omega) ?_
    rintro M1 ⟨a1, a2⟩
    obtain ⟨h0', -⟩ := id a1
    refine xp_aload_0 (pc := 45) hX d_Mod_value_45 ?_
    refine xg_get (pc := 46) hX (j := 6) k_Mod d_Mod_value_46 l_Mod_69 (by decide) (by first | assumption | exact xup_s _ _ _ | exact xup_o (by omega) (by assumption) | exact xup_o (by omega) (xup_s _ _ _) | exact xup_o (by omega) (xup_o (by omega) (by assumption)) | exact xup_o (by omega) (xup_o (by omega) (xup_s _ _ _)) | exact xup_o (by omega) (xup_o (by omega) (xup_o (by omega) (by assumption)))) (by rfl) ?_
    refine xg_iret (pc := 49) hX hE d_Mod_value_49 rfl rfl (by omega) (by omega) ?_
    exact ⟨rfl, _, rfl, rfl, ⟨hdp, _, _, _, _, _, _, _, _, _, a1⟩, a2⟩
set_option maxHeartbeats 4000000 in
set_option maxRecDepth 100000 in
theorem c_Mod_isAlike (d : Nat) {M : xH} {sz O k : Nat} {fs : Nat → Int32} {s : List UInt8} (h : Wd M O t x out full es pool se sub fd fr bg wr nx kd fi la va) (hM : M (O + 10) = some (.inl (1, 19200, .inl fs))) (hk : k < 96) (hs2 : s.length ≤ 200) (hsl : s.length ≤ full.length) (hs : ∀ (i : Nat) (b : UInt8), s[i]? = some b → fs (200 * k + i) = nI b.toNat) : xC d 0 0 Y_Mod_isAlike [.ref O, .int (nI k), .int (nI s.length)] M sz (qi sz (fun y M' => y = bI (s.isPrefixOf full) ∧ M' = M)) := by
  refine xC_of (by decide) (Nat.le_of_ble_eq_true rfl) (by simp [Value.category]) (vs := [some (.ref O), some (.int (nI k)), some (.int (nI s.length)), none]) rfl (fun K hX hE => ?_)
  obtain ⟨h0, -, -, -, ⟨h4l, f, h4a, h4b⟩, -⟩ := id h
  refine xg_iconst (pc := 0) hX (nI 0) d_Mod_isAlike_0 ci_iconst_0 ?_
  refine xp_istore_3 (pc := 1) hX d_Mod_isAlike_1 (by decide) ?_
  have loop : ∀ (n i : Nat), s.length - i = n → i ≤ s.length → s.take i <+: full → xG K 2 [some (.ref O), some (.int (nI k)), some (.int (nI s.length)), some (.int (nI i))] [] M sz 0 0 := by
    intro n
    induction n with
    | zero =>
      intro i hn hi hp
      refine xp_iload_3 (pc := 2) hX d_Mod_isAlike_2 ?_
      refine xp_iload_2 (pc := 3) hX d_Mod_isAlike_3 ?_
      refine xn_icmp_ge (pc := 4) hX 36 d_Mod_isAlike_4 (by decide) (by omega) (by omega) (fun z => ?_) (fun z => absurd z (by omega))
      refine xg_iconst (pc := 36) hX (nI 1) d_Mod_isAlike_36 ci_iconst_1 ?_
      refine xg_iret (pc := 37) hX hE d_Mod_isAlike_37 rfl rfl (by omega) (by omega) ?_
      refine ⟨rfl, _, rfl, ?_, rfl⟩
      rw [List.take_of_length_le (by omega)] at hp
      rw [List.isPrefixOf_iff_prefix.mpr hp]
      rfl
    | succ n ih =>
      intro i hn hi hp
      have hi1 : i < s.length := by omega
      have hi2 : i < full.length := by omega
      refine xp_iload_3 (pc := 2) hX d_Mod_isAlike_2 ?_
      refine xp_iload_2 (pc := 3) hX d_Mod_isAlike_3 ?_
      refine xn_icmp_ge (pc := 4) hX 36 d_Mod_isAlike_4 (by decide) (by omega) (by omega) (fun z => absurd z (by omega)) (fun z => ?_)
      refine xp_aload_0 (pc := 7) hX d_Mod_isAlike_7 ?_
      refine xg_get (pc := 8) hX (j := 14) k_Mod d_Mod_isAlike_8 l_Mod_37 (by decide) (by first | assumption | exact xup_s _ _ _ | exact xup_o (by omega) (by assumption) | exact xup_o (by omega) (xup_s _ _ _) | exact xup_o (by omega) (xup_o (by omega) (by assumption)) | exact xup_o (by omega) (xup_o (by omega) (xup_s _ _ _)) | exact xup_o (by omega) (xup_o (by omega) (xup_o (by omega) (by assumption)))) (by rfl) ?_
      refine xg_sipush (pc := 11) hX (nI 200) d_Mod_isAlike_11 ci_sipush_200 ?_
      refine xp_iload_1 (pc := 14) hX d_Mod_isAlike_14 ?_
      first | refine xn_imul (pc := 15) hX d_Mod_isAlike_15 ?_ | refine xg_imul (pc := 15) hX d_Mod_isAlike_15 ?_
      refine xp_iload_3 (pc := 16) hX d_Mod_isAlike_16 ?_
      first | refine xn_iadd (pc := 17) hX d_Mod_isAlike_17 ?_ | refine xg_iadd (pc := 17) hX d_Mod_isAlike_17 ?_
      refine xn_iald (pc := 18) hX d_Mod_isAlike_18 rfl (by first | assumption | exact xup_s _ _ _ | exact xup_o (by omega) (by assumption) | exact xup_o (by omega) (xup_s _ _ _) | exact xup_o (by omega) (xup_o (by omega) (by assumption)) | exact xup_o (by omega) (xup_o (by omega) (xup_s _ _ _)) | exact xup_o (by omega) (xup_o (by omega) (xup_o (by omega) (by assumption)))) (by omega) (by omega) ?_
      refine xp_aload_0 (pc := 19) hX d_Mod_isAlike_19 ?_
      refine xg_get (pc := 20) hX (j := 3) k_Mod d_Mod_isAlike_20 l_Mod_19 (by decide) (by first | assumption | exact xup_s _ _ _ | exact xup_o (by omega) (by assumption) | exact xup_o (by omega) (xup_s _ _ _) | exact xup_o (by omega) (xup_o (by omega) (by assumption)) | exact xup_o (by omega) (xup_o (by omega) (xup_s _ _ _)) | exact xup_o (by omega) (xup_o (by omega) (xup_o (by omega) (by assumption)))) (by rfl) ?_
      refine xp_iload_3 (pc := 23) hX d_Mod_isAlike_23 ?_
      refine xn_iald (pc := 24) hX d_Mod_isAlike_24 rfl (by first | assumption | exact xup_s _ _ _ | exact xup_o (by omega) (by assumption) | exact xup_o (by omega) (xup_s _ _ _) | exact xup_o (by omega) (xup_o (by omega) (by assumption)) | exact xup_o (by omega) (xup_o (by omega) (xup_s _ _ _)) | exact xup_o (by omega) (xup_o (by omega) (xup_o (by omega) (by assumption)))) (by omega) (by omega) ?_
      rw [hs i s[i] (List.getElem?_eq_getElem hi1), h4b i full[i] (List.getElem?_eq_getElem hi2)]
      have b1 := by_lt s[i]
      have b2 := by_lt full[i]
      refine xn_icmp_eq (pc := 25) hX 30 d_Mod_isAlike_25 (by decide) (by omega) (by omega) (fun z => ?_) (fun z => ?_)
      · refine xp_inc_3 (pc := 30) hX d_Mod_isAlike_30 (by decide) ?_
        refine xg_goto (pc := 33) hX 2 d_Mod_isAlike_33 (by decide) ?_
        exact ih (i + 1) (by omega) (by omega) (pre_step hi1 hi2 hp (UInt8.toNat_inj.mp z.symm))
      · refine xg_iconst (pc := 28) hX (nI 0) d_Mod_isAlike_28 ci_iconst_0 ?_
        refine xg_iret (pc := 29) hX hE d_Mod_isAlike_29 rfl rfl (by omega) (by omega) ?_
        refine ⟨rfl, _, rfl, ?_, rfl⟩
        have : s.isPrefixOf full = false := by
          rw [Bool.eq_false_iff]
          intro q
          exact z (by rw [pre_ne hi1 hi2 (List.isPrefixOf_iff_prefix.mp q)])
        rw [this]
        rfl
  exact loop s.length 0 (by omega) (by omega) (by simp)
set_option maxHeartbeats 4000000 in
set_option maxRecDepth 100000 in
theorem c_Mod_isStem (d : Nat) {M : xH} {sz O k : Nat} {fs fz : Nat → Int32} {s : List UInt8} (h : Wd M O t x out full es pool se sub fd fr bg wr nx kd fi la va) (hM : M (O + 10) = some (.inl (1, 19200, .inl fs))) (hM1 : M (O + 11) = some (.inl (1, 96, .inl fz))) (hk : k < 96) (hz : fz k = nI s.length) (hs1 : 1 ≤ s.length) (hs2 : s.length ≤ 200) (hs : ∀ (i : Nat) (b : UInt8), s[i]? = some b → fs (200 * k + i) = nI b.toNat) : xC d 0 0 Y_Mod_isStem [.ref O, .int (nI k)] M sz (qi sz (fun y M' => y = bI (isSt s) ∧ M' = M)) := by
  refine xC_of (by decide) (Nat.le_of_ble_eq_true rfl) (by simp [Value.category]) (vs := [some (.ref O), some (.int (nI k)), none]) rfl (fun K hX hE => ?_)
  obtain ⟨h0, -⟩ := id h
  have hdl := dotF_le (bs := s) (a := 0) (b := s.length) (by omega) (by omega)
  have hdi := dotF_all s
  have k35 : xG K 35 [some (.ref O), some (.int (nI k)), some (.int (nI (dotF s 0 s.length)))] [] M sz 0 0 := by
    refine xp_iload_2 (pc := 35) hX d_Mod_isStem_35 ?_
    refine xp_aload_0 (pc := 36) hX d_Mod_isStem_36 ?_
    refine xg_get (pc := 37) hX (j := 15) k_Mod d_Mod_isStem_37 l_Mod_40 (by decide) (by first | assumption | exact xup_s _ _ _ | exact xup_o (by omega) (by assumption) | exact xup_o (by omega) (xup_s _ _ _) | exact xup_o (by omega) (xup_o (by omega) (by assumption)) | exact xup_o (by omega) (xup_o (by omega) (xup_s _ _ _)) | exact xup_o (by omega) (xup_o (by omega) (xup_o (by omega) (by assumption)))) (by rfl) ?_
    refine xp_iload_1 (pc := 40) hX d_Mod_isStem_40 ?_
    refine xn_iald (pc := 41) hX d_Mod_isStem_41 rfl (by first | assumption | exact xup_s _ _ _ | exact xup_o (by omega) (by assumption) | exact xup_o (by omega) (xup_s _ _ _) | exact xup_o (by omega) (xup_o (by omega) (by assumption)) | exact xup_o (by omega) (xup_o (by omega) (xup_s _ _ _)) | exact xup_o (by omega) (xup_o (by omega) (xup_o (by omega) (by assumption)))) (by omega) (by omega) ?_
    rw [hz]
    refine xg_iconst (pc := 42) hX (nI 1) d_Mod_isStem_42 ci_iconst_1 ?_
    first | refine xn_isub (pc := 43) hX d_Mod_isStem_43 (by omega) ?_ | refine xg_isub (pc := 43) hX d_Mod_isStem_43 ?_
    refine xn_icmp_ne (pc := 44) hX 51 d_Mod_isStem_44 (by decide) (by omega) (by omega) (fun z => ?_) (fun z => ?_)
    · refine xg_iconst (pc := 51) hX (nI 0) d_Mod_isStem_51 ci_iconst_0 ?_
      refine xg_iret (pc := 52) hX hE d_Mod_isStem_52 rfl rfl (by omega) (by omega) ?_
      refine ⟨rfl, _, rfl, ?_, rfl⟩
      have : isSt s = false := by
        unfold isSt
        rw [beq_eq_false_iff_ne]
        omega
      rw [this]
      rfl
    · refine xg_iconst (pc := 47) hX (nI 1) d_Mod_isStem_47 ci_iconst_1 ?_
      refine xg_goto (pc := 48) hX 52 d_Mod_isStem_48 (by decide) ?_
      refine xg_iret (pc := 52) hX hE d_Mod_isStem_52 rfl rfl (by omega) (by omega) ?_
      refine ⟨rfl, _, rfl, ?_, rfl⟩
      have : isSt s = true := by
        unfold isSt
        rw [beq_iff_eq]
        omega
      rw [this]
      rfl
  refine xg_iconst (pc := 0) hX (nI 0) d_Mod_isStem_0 ci_iconst_0 ?_
  refine xp_istore_2 (pc := 1) hX d_Mod_isStem_1 (by decide) ?_
  have loop : ∀ (n i : Nat), s.length - i = n → i ≤ s.length → dotF s 0 s.length = dotF s i s.length → xG K 2 [some (.ref O), some (.int (nI k)), some (.int (nI i))] [] M sz 0 0 := by
    intro n
    induction n with
    | zero =>
      intro i hn hi hd
      have hie : i = s.length := by omega
      have hd2 : dotF s 0 s.length = i := by rw [hd, hie, dotF_end]
      refine xp_iload_2 (pc := 2) hX d_Mod_isStem_2 ?_
      refine xp_aload_0 (pc := 3) hX d_Mod_isStem_3 ?_
      refine xg_get (pc := 4) hX (j := 15) k_Mod d_Mod_isStem_4 l_Mod_40 (by decide) (by first | assumption | exact xup_s _ _ _ | exact xup_o (by omega) (by assumption) | exact xup_o (by omega) (xup_s _ _ _) | exact xup_o (by omega) (xup_o (by omega) (by assumption)) | exact xup_o (by omega) (xup_o (by omega) (xup_s _ _ _)) | exact xup_o (by omega) (xup_o (by omega) (xup_o (by omega) (by assumption)))) (by rfl) ?_
      refine xp_iload_1 (pc := 7) hX d_Mod_isStem_7 ?_
      refine xn_iald (pc := 8) hX d_Mod_isStem_8 rfl (by first | assumption | exact xup_s _ _ _ | exact xup_o (by omega) (by assumption) | exact xup_o (by omega) (xup_s _ _ _) | exact xup_o (by omega) (xup_o (by omega) (by assumption)) | exact xup_o (by omega) (xup_o (by omega) (xup_s _ _ _)) | exact xup_o (by omega) (xup_o (by omega) (xup_o (by omega) (by assumption)))) (by omega) (by omega) ?_
      rw [hz]
      refine xn_icmp_ge (pc := 9) hX 35 d_Mod_isStem_9 (by decide) (by omega) (by omega) (fun z => ?_) (fun z => absurd z (by omega))
      rw [← hd2]
      exact k35
    | succ n ih =>
      intro i hn hi hd
      have hi1 : i < s.length := by omega
      have b1 := by_lt s[i]
      refine xp_iload_2 (pc := 2) hX d_Mod_isStem_2 ?_
      refine xp_aload_0 (pc := 3) hX d_Mod_isStem_3 ?_
      refine xg_get (pc := 4) hX (j := 15) k_Mod d_Mod_isStem_4 l_Mod_40 (by decide) (by first | assumption | exact xup_s _ _ _ | exact xup_o (by omega) (by assumption) | exact xup_o (by omega) (xup_s _ _ _) | exact xup_o (by omega) (xup_o (by omega) (by assumption)) | exact xup_o (by omega) (xup_o (by omega) (xup_s _ _ _)) | exact xup_o (by omega) (xup_o (by omega) (xup_o (by omega) (by assumption)))) (by rfl) ?_
      refine xp_iload_1 (pc := 7) hX d_Mod_isStem_7 ?_
      refine xn_iald (pc := 8) hX d_Mod_isStem_8 rfl (by first | assumption | exact xup_s _ _ _ | exact xup_o (by omega) (by assumption) | exact xup_o (by omega) (xup_s _ _ _) | exact xup_o (by omega) (xup_o (by omega) (by assumption)) | exact xup_o (by omega) (xup_o (by omega) (xup_s _ _ _)) | exact xup_o (by omega) (xup_o (by omega) (xup_o (by omega) (by assumption)))) (by omega) (by omega) ?_
      rw [hz]
      refine xn_icmp_ge (pc := 9) hX 35 d_Mod_isStem_9 (by decide) (by omega) (by omega) (fun z => absurd z (by omega)) (fun z => ?_)
      refine xp_aload_0 (pc := 12) hX d_Mod_isStem_12 ?_
      refine xg_get (pc := 13) hX (j := 14) k_Mod d_Mod_isStem_13 l_Mod_37 (by decide) (by first | assumption | exact xup_s _ _ _ | exact xup_o (by omega) (by assumption) | exact xup_o (by omega) (xup_s _ _ _) | exact xup_o (by omega) (xup_o (by omega) (by assumption)) | exact xup_o (by omega) (xup_o (by omega) (xup_s _ _ _)) | exact xup_o (by omega) (xup_o (by omega) (xup_o (by omega) (by assumption)))) (by rfl) ?_
      refine xg_sipush (pc := 16) hX (nI 200) d_Mod_isStem_16 ci_sipush_200 ?_
      refine xp_iload_1 (pc := 19) hX d_Mod_isStem_19 ?_
      first | refine xn_imul (pc := 20) hX d_Mod_isStem_20 ?_ | refine xg_imul (pc := 20) hX d_Mod_isStem_20 ?_
      refine xp_iload_2 (pc := 21) hX d_Mod_isStem_21 ?_
      first | refine xn_iadd (pc := 22) hX d_Mod_isStem_22 ?_ | refine xg_iadd (pc := 22) hX d_Mod_isStem_22 ?_
      refine xn_iald (pc := 23) hX d_Mod_isStem_23 rfl (by first | assumption | exact xup_s _ _ _ | exact xup_o (by omega) (by assumption) | exact xup_o (by omega) (xup_s _ _ _) | exact xup_o (by omega) (xup_o (by omega) (by assumption)) | exact xup_o (by omega) (xup_o (by omega) (xup_s _ _ _)) | exact xup_o (by omega) (xup_o (by omega) (xup_o (by omega) (by assumption)))) (by omega) (by omega) ?_
      rw [hs i s[i] (List.getElem?_eq_getElem hi1)]
      refine xg_bipush (pc := 24) hX (nI 46) d_Mod_isStem_24 ci_bipush_46 ?_
      refine xn_icmp_eq (pc := 26) hX 35 d_Mod_isStem_26 (by decide) (by omega) (by omega) (fun z => ?_) (fun z => ?_)
      · have hd2 : dotF s 0 s.length = i := by rw [hd]; exact dotF_hit hi1 (by omega) (UInt8.toNat_inj.mp z)
        rw [← hd2]
        exact k35
      · refine xp_inc_2 (pc := 29) hX d_Mod_isStem_29 (by decide) ?_
        refine xg_goto (pc := 32) hX 2 d_Mod_isStem_32 (by decide) ?_
        exact ih (i + 1) (by omega) (by omega) (by rw [hd]; exact dotF_miss hi1 (by omega) (fun q => z (by rw [q]; rfl)))
  exact loop s.length 0 (by omega) (by omega) rfl
/-- the STEM's length, or 0 -/
def stN (nm : List UInt8) : Nat := if nm.idxOf 46 < nm.length then nm.idxOf 46 + 1 else 0
set_option maxHeartbeats 4000000 in
set_option maxRecDepth 100000 in
theorem c_Mod_stem (d : Nat) {M : xH} {sz O : Nat} (h : Wd M O t x out full es pool se sub fd fr bg wr nx kd fi la va) : xC d 0 0 Y_Mod_stem [.ref O] M sz (qi sz (fun y M' => y = nI (stN full) ∧ M' = M)) := by
  refine xC_of (by decide) (Nat.le_of_ble_eq_true rfl) (by simp [Value.category]) (vs := [some (.ref O), none]) rfl (fun K hX hE => ?_)
  obtain ⟨h0, -, -, -, ⟨h4l, f, h4a, h4b⟩, -⟩ := id h
  have hdl := dotF_le (bs := full) (a := 0) (b := full.length) (by omega) (by omega)
  have hdi := dotF_all full
  have k27 : xG K 27 [some (.ref O), some (.int (nI (dotF full 0 full.length)))] [] M sz 0 0 := by
    refine xp_iload_1 (pc := 27) hX d_Mod_stem_27 ?_
    refine xp_aload_0 (pc := 28) hX d_Mod_stem_28 ?_
    refine xg_get (pc := 29) hX (j := 7) k_Mod d_Mod_stem_29 l_Mod_95 (by decide) (by first | assumption | exact xup_s _ _ _ | exact xup_o (by omega) (by assumption) | exact xup_o (by omega) (xup_s _ _ _) | exact xup_o (by omega) (xup_o (by omega) (by assumption)) | exact xup_o (by omega) (xup_o (by omega) (xup_s _ _ _)) | exact xup_o (by omega) (xup_o (by omega) (xup_o (by omega) (by assumption)))) (by rfl) ?_
    refine xn_icmp_ge (pc := 32) hX 41 d_Mod_stem_32 (by decide) (by omega) (by omega) (fun z => ?_) (fun z => ?_)
    · refine xg_iconst (pc := 41) hX (nI 0) d_Mod_stem_41 ci_iconst_0 ?_
      refine xg_iret (pc := 42) hX hE d_Mod_stem_42 rfl rfl (by omega) (by omega) ?_
      refine ⟨rfl, _, rfl, ?_, rfl⟩
      unfold stN
      rw [if_neg (by omega)]
    · refine xp_iload_1 (pc := 35) hX d_Mod_stem_35 ?_
      refine xg_iconst (pc := 36) hX (nI 1) d_Mod_stem_36 ci_iconst_1 ?_
      first | refine xn_iadd (pc := 37) hX d_Mod_stem_37 ?_ | refine xg_iadd (pc := 37) hX d_Mod_stem_37 ?_
      refine xg_goto (pc := 38) hX 42 d_Mod_stem_38 (by decide) ?_
      refine xg_iret (pc := 42) hX hE d_Mod_stem_42 rfl rfl (by omega) (by omega) ?_
      refine ⟨rfl, _, rfl, ?_, rfl⟩
      unfold stN
      rw [if_pos (by omega), hdi]
  refine xg_iconst (pc := 0) hX (nI 0) d_Mod_stem_0 ci_iconst_0 ?_
  refine xp_istore_1 (pc := 1) hX d_Mod_stem_1 (by decide) ?_
  have loop : ∀ (n i : Nat), full.length - i = n → i ≤ full.length → dotF full 0 full.length = dotF full i full.length → xG K 2 [some (.ref O), some (.int (nI i))] [] M sz 0 0 := by
    intro n
    induction n with
    | zero =>
      intro i hn hi hd
      have hie : i = full.length := by omega
      have hd2 : dotF full 0 full.length = i := by rw [hd, hie, dotF_end]
      refine xp_iload_1 (pc := 2) hX d_Mod_stem_2 ?_
      refine xp_aload_0 (pc := 3) hX d_Mod_stem_3 ?_
      refine xg_get (pc := 4) hX (j := 7) k_Mod d_Mod_stem_4 l_Mod_95 (by decide) (by first | assumption | exact xup_s _ _ _ | exact xup_o (by omega) (by assumption) | exact xup_o (by omega) (xup_s _ _ _) | exact xup_o (by omega) (xup_o (by omega) (by assumption)) | exact xup_o (by omega) (xup_o (by omega) (xup_s _ _ _)) | exact xup_o (by omega) (xup_o (by omega) (xup_o (by omega) (by assumption)))) (by rfl) ?_
      refine xn_icmp_ge (pc := 7) hX 27 d_Mod_stem_7 (by decide) (by omega) (by omega) (fun z => ?_) (fun z => absurd z (by omega))
      rw [← hd2]
      exact k27
    | succ n ih =>
      intro i hn hi hd
      have hi1 : i < full.length := by omega
      have b1 := by_lt full[i]
      refine xp_iload_1 (pc := 2) hX d_Mod_stem_2 ?_
      refine xp_aload_0 (pc := 3) hX d_Mod_stem_3 ?_
      refine xg_get (pc := 4) hX (j := 7) k_Mod d_Mod_stem_4 l_Mod_95 (by decide) (by first | assumption | exact xup_s _ _ _ | exact xup_o (by omega) (by assumption) | exact xup_o (by omega) (xup_s _ _ _) | exact xup_o (by omega) (xup_o (by omega) (by assumption)) | exact xup_o (by omega) (xup_o (by omega) (xup_s _ _ _)) | exact xup_o (by omega) (xup_o (by omega) (xup_o (by omega) (by assumption)))) (by rfl) ?_
      refine xn_icmp_ge (pc := 7) hX 27 d_Mod_stem_7 (by decide) (by omega) (by omega) (fun z => absurd z (by omega)) (fun z => ?_)
      refine xp_aload_0 (pc := 10) hX d_Mod_stem_10 ?_
      refine xg_get (pc := 11) hX (j := 3) k_Mod d_Mod_stem_11 l_Mod_19 (by decide) (by first | assumption | exact xup_s _ _ _ | exact xup_o (by omega) (by assumption) | exact xup_o (by omega) (xup_s _ _ _) | exact xup_o (by omega) (xup_o (by omega) (by assumption)) | exact xup_o (by omega) (xup_o (by omega) (xup_s _ _ _)) | exact xup_o (by omega) (xup_o (by omega) (xup_o (by omega) (by assumption)))) (by rfl) ?_
      refine xp_iload_1 (pc := 14) hX d_Mod_stem_14 ?_
      refine xn_iald (pc := 15) hX d_Mod_stem_15 rfl (by first | assumption | exact xup_s _ _ _ | exact xup_o (by omega) (by assumption) | exact xup_o (by omega) (xup_s _ _ _) | exact xup_o (by omega) (xup_o (by omega) (by assumption)) | exact xup_o (by omega) (xup_o (by omega) (xup_s _ _ _)) | exact xup_o (by omega) (xup_o (by omega) (xup_o (by omega) (by assumption)))) (by omega) (by omega) ?_
      rw [h4b i full[i] (List.getElem?_eq_getElem hi1)]
      refine xg_bipush (pc := 16) hX (nI 46) d_Mod_stem_16 ci_bipush_46 ?_
      refine xn_icmp_eq (pc := 18) hX 27 d_Mod_stem_18 (by decide) (by omega) (by omega) (fun z => ?_) (fun z => ?_)
      · have hd2 : dotF full 0 full.length = i := by rw [hd]; exact dotF_hit hi1 (by omega) (UInt8.toNat_inj.mp z)
        rw [← hd2]
        exact k27
      · refine xp_inc_1 (pc := 21) hX d_Mod_stem_21 (by decide) ?_
        refine xg_goto (pc := 24) hX 2 d_Mod_stem_24 (by decide) ?_
        exact ih (i + 1) (by omega) (by omega) (by rw [hd]; exact dotF_miss hi1 (by omega) (fun q => z (by rw [q]; rfl)))
  exact loop full.length 0 (by omega) (by omega) rfl
end XM5
