/-! the reference: feed, end, out, take, variable, blanks -/
def MW (M : xH) (O : Nat) (S : xS) : Prop := match S with
  | (t, out, es, dp, se, sub, fr, bg) => 1 ≤ dp ∧ ∃ x full fd wr nx kd fi la va, Wd M O t x out full es (dp - 1) se sub fd fr bg wr nx kd fi la va
section XM3
variable {t x out full : List UInt8} {es : List xEn} {pool : Nat} {se : List xSe} {sub fd : List UInt8} {fr bg : Nat} {wr : Option Nat} {nx kd fi la va : Nat}
set_option maxHeartbeats 4000000 in
set_option maxRecDepth 100000 in
theorem b_feed (d : Nat) {M : xH} {sz O : Nat} {S : xS} (a b c e f : Int32) (h : MW M O S) : xC (d + 1) 0 0 Y_Mod_feed [.ref O, .int a, .int b, .int c, .int e, .int f] M sz (qi sz (fun y M' => y = (sFeed a b c e f S).1 ∧ MW M' O (sFeed a b c e f S).2 ∧ FrO M M' O)) := by
  obtain ⟨t, out, es, dp, se, sub, fr, bg⟩ := S
  obtain ⟨hdp, x, full, fd, wr, nx, kd, fi, la, va, hw⟩ := id h
  refine xC_of (by decide) (Nat.le_of_ble_eq_true rfl) (by simp [Value.category]) (vs := [some (.ref O), some (.int a), some (.int b), some (.int c), some (.int e), some (.int f)]) rfl (fun K hX hE => ?_)
  obtain ⟨h0, ⟨h1, -⟩, -⟩ := id hw
  refine xp_aload_0 (pc := 0) hX d_Mod_feed_0 ?_
  refine xg_get (pc := 1) hX (j := 4) k_Mod d_Mod_feed_1 l_Mod_62 (by decide) (by first | assumption | exact xup_s _ _ _ | exact xup_o (by omega) (by assumption) | exact xup_o (by omega) (xup_s _ _ _) | exact xup_o (by omega) (xup_o (by omega) (by assumption)) | exact xup_o (by omega) (xup_o (by omega) (xup_s _ _ _)) | exact xup_o (by omega) (xup_o (by omega) (xup_o (by omega) (by assumption)))) (by rfl) ?_
  refine xg_bipush (pc := 4) hX (nI 20) d_Mod_feed_4 ci_bipush_20 ?_
  first | refine xn_iadd (pc := 6) hX d_Mod_feed_6 ?_ | refine xg_iadd (pc := 6) hX d_Mod_feed_6 ?_
  refine xg_sipush (pc := 7) hX (nI 600) d_Mod_feed_7 ci_sipush_600 ?_
  refine xn_icmp_le (pc := 10) hX 16 d_Mod_feed_10 (by decide) (by omega) (by omega) (fun z => ?_) (fun z => ?_)
  · have hS : sFeed a b c e f (t, out, es, dp, se, sub, fr, bg) = (nI (t.length + 20), (t ++ w4 a ++ w4 b ++ w4 c ++ w4 e ++ w4 f, out, es, dp, se, sub, fr, bg)) := by
      unfold sFeed
      dsimp only
      rw [if_pos z]
    rw [hS] at hE
    have l4 : ∀ x : Int32, (w4 x).length = 4 := fun _ => rfl
    refine xp_aload_0 (pc := 16) hX d_Mod_feed_16 ?_
    refine xp_iload_1 (pc := 17) hX d_Mod_feed_17 ?_
    refine xv_V (Y2 := Y_Mod_four) (pc := 18) hX [_] k_Mod m_Mod_four d_Mod_feed_18 l_Mod_65 rfl rfl (by simp [Value.category]) (by first | assumption | exact xup_s _ _ _ | exact xup_o (by omega) (by assumption) | exact xup_o (by omega) (xup_s _ _ _) | exact xup_o (by omega) (xup_o (by omega) (by assumption)) | exact xup_o (by omega) (xup_o (by omega) (xup_s _ _ _)) | exact xup_o (by omega) (xup_o (by omega) (xup_o (by omega) (by assumption)))) (c_Mod_four d a hw (by omega)) (by omega) (by omega) ?_
    rintro M1 ⟨a1, a2⟩
    obtain ⟨h0, -⟩ := id a1
    refine xp_aload_0 (pc := 21) hX d_Mod_feed_21 ?_
    refine xp_iload_2 (pc := 22) hX d_Mod_feed_22 ?_
    refine xv_V (Y2 := Y_Mod_four) (pc := 23) hX [_] k_Mod m_Mod_four d_Mod_feed_23 l_Mod_65 rfl rfl (by simp [Value.category]) (by first | assumption | exact xup_s _ _ _ | exact xup_o (by omega) (by assumption) | exact xup_o (by omega) (xup_s _ _ _) | exact xup_o (by omega) (xup_o (by omega) (by assumption)) | exact xup_o (by omega) (xup_o (by omega) (xup_s _ _ _)) | exact xup_o (by omega) (xup_o (by omega) (xup_o (by omega) (by assumption)))) (c_Mod_four d b a1 (by simp [l4]; omega)) (by omega) (by omega) ?_
    rintro M2 ⟨b1, b2⟩
    obtain ⟨h0, -⟩ := id b1
    refine xp_aload_0 (pc := 26) hX d_Mod_feed_26 ?_
    refine xp_iload_3 (pc := 27) hX d_Mod_feed_27 ?_
    refine xv_V (Y2 := Y_Mod_four) (pc := 28) hX [_] k_Mod m_Mod_four d_Mod_feed_28 l_Mod_65 rfl rfl (by simp [Value.category]) (by first | assumption | exact xup_s _ _ _ | exact xup_o (by omega) (by assumption) | exact xup_o (by omega) (xup_s _ _ _) | exact xup_o (by omega) (xup_o (by omega) (by assumption)) | exact xup_o (by omega) (xup_o (by omega) (xup_s _ _ _)) | exact xup_o (by omega) (xup_o (by omega) (xup_o (by omega) (by assumption)))) (c_Mod_four d c b1 (by simp [l4]; omega)) (by omega) (by omega) ?_
    rintro M3 ⟨c1, c2⟩
    obtain ⟨h0, -⟩ := id c1
    refine xp_aload_0 (pc := 31) hX d_Mod_feed_31 ?_
    refine xp_iload_4 (pc := 32) hX d_Mod_feed_32 ?_
    refine xv_V (Y2 := Y_Mod_four) (pc := 34) hX [_] k_Mod m_Mod_four d_Mod_feed_34 l_Mod_65 rfl rfl (by simp [Value.category]) (by first | assumption | exact xup_s _ _ _ | exact xup_o (by omega) (by assumption) | exact xup_o (by omega) (xup_s _ _ _) | exact xup_o (by omega) (xup_o (by omega) (by assumption)) | exact xup_o (by omega) (xup_o (by omega) (xup_s _ _ _)) | exact xup_o (by omega) (xup_o (by omega) (xup_o (by omega) (by assumption)))) (c_Mod_four d e c1 (by simp [l4]; omega)) (by omega) (by omega) ?_
    rintro M4 ⟨d1, d2⟩
    obtain ⟨h0, -⟩ := id d1
    refine xp_aload_0 (pc := 37) hX d_Mod_feed_37 ?_
    refine xp_iload_5 (pc := 38) hX d_Mod_feed_38 ?_
    refine xv_V (Y2 := Y_Mod_four) (pc := 40) hX [_] k_Mod m_Mod_four d_Mod_feed_40 l_Mod_65 rfl rfl (by simp [Value.category]) (by first | assumption | exact xup_s _ _ _ | exact xup_o (by omega) (by assumption) | exact xup_o (by omega) (xup_s _ _ _) | exact xup_o (by omega) (xup_o (by omega) (by assumption)) | exact xup_o (by omega) (xup_o (by omega) (xup_s _ _ _)) | exact xup_o (by omega) (xup_o (by omega) (xup_o (by omega) (by assumption)))) (c_Mod_four d f d1 (by simp [l4]; omega)) (by omega) (by omega) ?_
    rintro M5 ⟨e1, e2⟩
    obtain ⟨h0, -⟩ := id e1
    refine xp_aload_0 (pc := 43) hX d_Mod_feed_43 ?_
    refine xg_get (pc := 44) hX (j := 4) k_Mod d_Mod_feed_44 l_Mod_62 (by decide) (by first | assumption | exact xup_s _ _ _ | exact xup_o (by omega) (by assumption) | exact xup_o (by omega) (xup_s _ _ _) | exact xup_o (by omega) (xup_o (by omega) (by assumption)) | exact xup_o (by omega) (xup_o (by omega) (xup_s _ _ _)) | exact xup_o (by omega) (xup_o (by omega) (xup_o (by omega) (by assumption)))) (by rfl) ?_
    refine xg_iret (pc := 47) hX hE d_Mod_feed_47 rfl rfl (by omega) (by omega) ?_
    refine ⟨rfl, _, rfl, ?_, ⟨hdp, _, _, _, _, _, _, _, _, _, e1⟩, (((a2.tr b2).tr c2).tr d2).tr e2⟩
    congr 1
    simp [l4]
  · have hS : sFeed a b c e f (t, out, es, dp, se, sub, fr, bg) = (-4, (t, out, es, dp, se, sub, fr, bg)) := by
      unfold sFeed
      dsimp only
      rw [if_neg (by omega)]
    rw [hS] at hE
    refine xg_bipush (pc := 13) hX (-4) d_Mod_feed_13 ci_bipush_m4 ?_
    refine xg_iret (pc := 15) hX hE d_Mod_feed_15 rfl rfl (by omega) (by omega) ?_
    exact ⟨rfl, _, rfl, rfl, h, FrO.rf _ _⟩
set_option maxHeartbeats 4000000 in
set_option maxRecDepth 100000 in
theorem b_end (d : Nat) {M : xH} {sz O : Nat} {S : xS} (y : Int32) (h : MW M O S) : xC d 0 0 Y_Mod_end [.ref O, .int y] M sz (qi sz (fun z M' => z = (sEnd y S).1 ∧ MW M' O (sEnd y S).2 ∧ FrO M M' O)) := by
  obtain ⟨t, out, es, dp, se, sub, fr, bg⟩ := S
  obtain ⟨hdp, x, full, fd, wr, nx, kd, fi, la, va, hw⟩ := id h
  refine xC_of (by decide) (Nat.le_of_ble_eq_true rfl) (by simp [Value.category]) (vs := [some (.ref O), some (.int y)]) rfl (fun K hX hE => ?_)
  obtain ⟨h0, h1, -⟩ := id hw
  have h1l := h1.1
  have k12 : (y < 0 ∨ nI t.length < y) → xG K 12 [some (.ref O), some (.int y)] [] M sz 0 0 := by
    intro hb
    have hS : sEnd y (t, out, es, dp, se, sub, fr, bg) = (-1, (t, out, es, dp, se, sub, fr, bg)) := by
      unfold sEnd
      dsimp only
      rw [if_pos hb]
    rw [hS] at hE
    refine xg_iconst (pc := 12) hX (-1) d_Mod_end_12 ci_iconst_m1 ?_
    refine xg_iret (pc := 13) hX hE d_Mod_end_13 rfl rfl (by omega) (by omega) ?_
    exact ⟨rfl, _, rfl, rfl, h, FrO.rf _ _⟩
  refine xp_iload_1 (pc := 0) hX d_Mod_end_0 ?_
  refine xg_if_lt (pc := 1) hX 12 d_Mod_end_1 (by decide) (fun z => k12 (Or.inl z)) (fun z => ?_)
  obtain ⟨n, hn, rfl⟩ := nI_of z
  have hn : n < 2147483648 := hn
  refine xp_iload_1 (pc := 4) hX d_Mod_end_4 ?_
  refine xp_aload_0 (pc := 5) hX d_Mod_end_5 ?_
  refine xg_get (pc := 6) hX (j := 4) k_Mod d_Mod_end_6 l_Mod_62 (by decide) (by first | assumption | exact xup_s _ _ _ | exact xup_o (by omega) (by assumption) | exact xup_o (by omega) (xup_s _ _ _) | exact xup_o (by omega) (xup_o (by omega) (by assumption)) | exact xup_o (by omega) (xup_o (by omega) (xup_s _ _ _)) | exact xup_o (by omega) (xup_o (by omega) (xup_o (by omega) (by assumption)))) (by rfl) ?_
  refine xn_icmp_le (pc := 9) hX 14 d_Mod_end_9 (by decide) (by omega) (by omega) (fun z1 => ?_) (fun z1 => ?_)
  · have hS : sEnd (nI n) (t, out, es, dp, se, sub, fr, bg) = (nI n, (t.take n, out, es, dp, se, sub, fr, bg)) := by
      unfold sEnd
      dsimp only
      rw [if_neg (by
        rintro (q | q)
        · exact z q
        · have := (nI_ltI (by omega) (by omega)).mp q
          omega), nI_clamp hn]
    rw [hS] at hE
    refine xp_aload_0 (pc := 14) hX d_Mod_end_14 ?_
    refine xp_iload_1 (pc := 15) hX d_Mod_end_15 ?_
    refine xg_put (pc := 16) hX (j := 4) k_Mod d_Mod_end_16 l_Mod_62 (by decide) rfl (by first | assumption | exact xup_s _ _ _ | exact xup_o (by omega) (by assumption) | exact xup_o (by omega) (xup_s _ _ _) | exact xup_o (by omega) (xup_o (by omega) (by assumption)) | exact xup_o (by omega) (xup_o (by omega) (xup_s _ _ _)) | exact xup_o (by omega) (xup_o (by omega) (xup_o (by omega) (by assumption)))) (Nat.le_of_ble_eq_true rfl) rfl rfl (by simp only [List.set_cons_zero, List.set_cons_succ]; exact rfl) ?_
    refine xp_iload_1 (pc := 19) hX d_Mod_end_19 ?_
    refine xg_iret (pc := 20) hX hE d_Mod_end_20 rfl rfl (by omega) (by omega) ?_
    refine ⟨rfl, _, rfl, rfl, ⟨hdp, x, full, fd, wr, nx, kd, fi, la, va, hw.st (t' := t.take n) ?_ (h1.cut.kept (xup_n _ _ (by omega))) (fun q a _ => xup_n _ _ a)⟩, FrO.up M O _ (by omega) (by omega)⟩
    rw [xup_s]
    simp only [moC, show (t.take n).length = n by rw [List.length_take]; omega]
  · exact k12 (Or.inr ((nI_ltI (by omega) (by omega)).mpr z1))
set_option maxHeartbeats 4000000 in
set_option maxRecDepth 100000 in
theorem b_out (d : Nat) {M : xH} {sz O : Nat} {S : xS} (y : Int32) (h : MW M O S) : xC d 0 0 Y_Mod_out [.ref O, .int y] M sz (qi sz (fun z M' => z = (sOut y S).1 ∧ MW M' O (sOut y S).2 ∧ FrO M M' O)) := by
  obtain ⟨t, out, es, dp, se, sub, fr, bg⟩ := S
  obtain ⟨hdp, x, full, fd, wr, nx, kd, fi, la, va, hw⟩ := id h
  refine xC_of (by decide) (Nat.le_of_ble_eq_true rfl) (by simp [Value.category]) (vs := [some (.ref O), some (.int y)]) rfl (fun K hX hE => ?_)
  obtain ⟨h0, -, -, ⟨h1l, f, h3a, h3b⟩, -⟩ := id hw
  have k21 : rAt out y = none → xG K 21 [some (.ref O), some (.int y)] [] M sz 0 0 := by
    intro hb
    refine xg_iconst (pc := 21) hX (-1) d_Mod_out_21 ci_iconst_m1 ?_
    refine xg_iret (pc := 22) hX hE d_Mod_out_22 rfl rfl (by omega) (by omega) ?_
    exact ⟨rfl, _, rfl, by show _ = oI (rAt out y); rw [hb]; rfl, h, FrO.rf _ _⟩
  refine xp_iload_1 (pc := 0) hX d_Mod_out_0 ?_
  refine xg_if_lt (pc := 1) hX 21 d_Mod_out_1 (by decide) (fun z => k21 (by unfold rAt; rw [if_pos z])) (fun z => ?_)
  obtain ⟨n, hn, rfl⟩ := nI_of z
  have hn : n < 2147483648 := hn
  refine xp_iload_1 (pc := 4) hX d_Mod_out_4 ?_
  refine xp_aload_0 (pc := 5) hX d_Mod_out_5 ?_
  refine xg_get (pc := 6) hX (j := 6) k_Mod d_Mod_out_6 l_Mod_69 (by decide) (by first | assumption | exact xup_s _ _ _ | exact xup_o (by omega) (by assumption) | exact xup_o (by omega) (xup_s _ _ _) | exact xup_o (by omega) (xup_o (by omega) (by assumption)) | exact xup_o (by omega) (xup_o (by omega) (xup_s _ _ _)) | exact xup_o (by omega) (xup_o (by omega) (xup_o (by omega) (by assumption)))) (by rfl) ?_
  refine xn_icmp_ge (pc := 9) hX 21 d_Mod_out_9 (by decide) (by omega) (by omega) (fun z1 => k21 (by rw [rAt_nI hn, List.getElem?_eq_none z1])) (fun z1 => ?_)
  refine xp_aload_0 (pc := 12) hX d_Mod_out_12 ?_
  refine xg_get (pc := 13) hX (j := 2) k_Mod d_Mod_out_13 l_Mod_16 (by decide) (by first | assumption | exact xup_s _ _ _ | exact xup_o (by omega) (by assumption) | exact xup_o (by omega) (xup_s _ _ _) | exact xup_o (by omega) (xup_o (by omega) (by assumption)) | exact xup_o (by omega) (xup_o (by omega) (xup_s _ _ _)) | exact xup_o (by omega) (xup_o (by omega) (xup_o (by omega) (by assumption)))) (by rfl) ?_
  refine xp_iload_1 (pc := 16) hX d_Mod_out_16 ?_
  refine xn_iald (pc := 17) hX d_Mod_out_17 rfl (by first | assumption | exact xup_s _ _ _ | exact xup_o (by omega) (by assumption) | exact xup_o (by omega) (xup_s _ _ _) | exact xup_o (by omega) (xup_o (by omega) (by assumption)) | exact xup_o (by omega) (xup_o (by omega) (xup_s _ _ _)) | exact xup_o (by omega) (xup_o (by omega) (xup_o (by omega) (by assumption)))) (by omega) (by omega) ?_
  refine xg_goto (pc := 18) hX 22 d_Mod_out_18 (by decide) ?_
  refine xg_iret (pc := 22) hX hE d_Mod_out_22 rfl rfl (by omega) (by omega) ?_
  refine ⟨rfl, _, rfl, ?_, h, FrO.rf _ _⟩
  show _ = oI (rAt out (nI n))
  rw [rAt_nI hn, List.getElem?_eq_getElem z1, h3b n out[n] (List.getElem?_eq_getElem z1)]
  rfl
set_option maxHeartbeats 4000000 in
set_option maxRecDepth 100000 in
theorem c_Mod_take (d : Nat) {M : xH} {sz O : Nat} (h : Wd M O t x out full es pool se sub fd fr bg wr nx kd fi la va) : xC d 0 0 Y_Mod_take [.ref O] M sz (qv sz (fun M' => Wd M' O [] t out full es pool se sub fd fr bg none 0 kd fi la va ∧ FrO M M' O)) := by
  refine xC_of (by decide) (Nat.le_of_ble_eq_true rfl) (by simp [Value.category]) (vs := [some (.ref O), none]) rfl (fun K hX hE => ?_)
  obtain ⟨h0, ⟨h1l, g, h1a, h1b⟩, ⟨h2l, f0, h2a, h2b⟩, -⟩ := id h
  refine xp_aload_0 (pc := 0) hX d_Mod_take_0 ?_
  refine xp_aload_0 (pc := 1) hX d_Mod_take_1 ?_
  refine xg_get (pc := 2) hX (j := 4) k_Mod d_Mod_take_2 l_Mod_62 (by decide) (by first | assumption | exact xup_s _ _ _ | exact xup_o (by omega) (by assumption) | exact xup_o (by omega) (xup_s _ _ _) | exact xup_o (by omega) (xup_o (by omega) (by assumption)) | exact xup_o (by omega) (xup_o (by omega) (xup_s _ _ _)) | exact xup_o (by omega) (xup_o (by omega) (xup_o (by omega) (by assumption)))) (by rfl) ?_
  refine xg_put (pc := 5) hX (j := 5) k_Mod d_Mod_take_5 l_Mod_72 (by decide) rfl (by first | assumption | exact xup_s _ _ _ | exact xup_o (by omega) (by assumption) | exact xup_o (by omega) (xup_s _ _ _) | exact xup_o (by omega) (xup_o (by omega) (by assumption)) | exact xup_o (by omega) (xup_o (by omega) (xup_s _ _ _)) | exact xup_o (by omega) (xup_o (by omega) (xup_o (by omega) (by assumption)))) (Nat.le_of_ble_eq_true rfl) rfl rfl (by simp only [List.set_cons_zero, List.set_cons_succ]; exact rfl) ?_
  refine xg_iconst (pc := 8) hX (nI 0) d_Mod_take_8 ci_iconst_0 ?_
  refine xp_istore_1 (pc := 9) hX d_Mod_take_9 (by decide) ?_
  have loop : ∀ (n i : Nat) (M1 : xH) (f : Nat → Int32), t.length - i = n → i ≤ t.length → M1 O = some (moC O t t out full es pool se sub fd fr bg wr nx kd fi la va) → M1 (O + 2) = some (.inl (1, 600, .inl f)) → (∀ j b, j < i → t[j]? = some b → f j = nI b.toNat) → (∀ q, q ≠ O → q ≠ O + 2 → M1 q = M q) → xG K 10 [some (.ref O), some (.int (nI i))] [] M1 sz 0 0 := by
    intro n
    induction n with
    | zero =>
      intro i M1 f hn hi ho ha hb hq
      refine xp_iload_1 (pc := 10) hX d_Mod_take_10 ?_
      refine xp_aload_0 (pc := 11) hX d_Mod_take_11 ?_
      refine xg_get (pc := 12) hX (j := 5) k_Mod d_Mod_take_12 l_Mod_72 (by decide) (by first | assumption | exact xup_s _ _ _ | exact xup_o (by omega) (by assumption) | exact xup_o (by omega) (xup_s _ _ _) | exact xup_o (by omega) (xup_o (by omega) (by assumption)) | exact xup_o (by omega) (xup_o (by omega) (xup_s _ _ _)) | exact xup_o (by omega) (xup_o (by omega) (xup_o (by omega) (by assumption)))) (by rfl) ?_
      refine xn_icmp_ge (pc := 15) hX 36 d_Mod_take_15 (by decide) (by omega) (by omega) (fun z => ?_) (fun z => absurd z (by omega))
      refine xp_aload_0 (pc := 36) hX d_Mod_take_36 ?_
      refine xg_iconst (pc := 37) hX (nI 0) d_Mod_take_37 ci_iconst_0 ?_
      refine xg_put (pc := 38) hX (j := 4) k_Mod d_Mod_take_38 l_Mod_62 (by decide) rfl (by first | assumption | exact xup_s _ _ _ | exact xup_o (by omega) (by assumption) | exact xup_o (by omega) (xup_s _ _ _) | exact xup_o (by omega) (xup_o (by omega) (by assumption)) | exact xup_o (by omega) (xup_o (by omega) (xup_s _ _ _)) | exact xup_o (by omega) (xup_o (by omega) (xup_o (by omega) (by assumption)))) (Nat.le_of_ble_eq_true rfl) rfl rfl (by simp only [List.set_cons_zero, List.set_cons_succ]; exact rfl) ?_
      refine xp_aload_0 (pc := 41) hX d_Mod_take_41 ?_
      refine xg_iconst (pc := 42) hX (-1) d_Mod_take_42 ci_iconst_m1 ?_
      refine xg_put (pc := 43) hX (j := 24) k_Mod d_Mod_take_43 l_Mod_75 (by decide) rfl (by first | assumption | exact xup_s _ _ _ | exact xup_o (by omega) (by assumption) | exact xup_o (by omega) (xup_s _ _ _) | exact xup_o (by omega) (xup_o (by omega) (by assumption)) | exact xup_o (by omega) (xup_o (by omega) (xup_s _ _ _)) | exact xup_o (by omega) (xup_o (by omega) (xup_o (by omega) (by assumption)))) (Nat.le_of_ble_eq_true rfl) rfl rfl (by simp only [List.set_cons_zero, List.set_cons_succ]; exact rfl) ?_
      refine xp_aload_0 (pc := 46) hX d_Mod_take_46 ?_
      refine xg_iconst (pc := 47) hX (nI 0) d_Mod_take_47 ci_iconst_0 ?_
      refine xg_put (pc := 48) hX (j := 25) k_Mod d_Mod_take_48 l_Mod_78 (by decide) rfl (by first | assumption | exact xup_s _ _ _ | exact xup_o (by omega) (by assumption) | exact xup_o (by omega) (xup_s _ _ _) | exact xup_o (by omega) (xup_o (by omega) (by assumption)) | exact xup_o (by omega) (xup_o (by omega) (xup_s _ _ _)) | exact xup_o (by omega) (xup_o (by omega) (xup_o (by omega) (by assumption)))) (Nat.le_of_ble_eq_true rfl) rfl rfl (by simp only [List.set_cons_zero, List.set_cons_succ]; exact rfl) ?_
      refine xg_vret (pc := 51) hX hE d_Mod_take_51 rfl (by omega) (by omega) ?_
      have w1 : Wd M1 O t t out full es pool se sub fd fr bg wr nx kd fi la va := h.sx ho ⟨h1l, f, ha, fun j b hj => hb j b (by have := (List.getElem?_eq_some_iff.mp hj).1; omega) hj⟩ hq
      have w2 : Wd (xup M1 O (moC O [] t out full es pool se sub fd fr bg wr nx kd fi la va)) O [] t out full es pool se sub fd fr bg wr nx kd fi la va := w1.st (xup_s _ _ _) ⟨Nat.zero_le _, g, by rw [xup_n _ _ (by omega), hq _ (by omega) (by omega)]; exact h1a, fun j b hj => by simp at hj⟩ (fun q a _ => xup_n _ _ a)
      have w3 : Wd (xup (xup M1 O (moC O [] t out full es pool se sub fd fr bg wr nx kd fi la va)) O (moC O [] t out full es pool se sub fd fr bg none nx kd fi la va)) O [] t out full es pool se sub fd fr bg none nx kd fi la va := w2.up
      have w4 := w3.up (fr' := fr) (bg' := bg) (wr' := none) (nx' := 0) (kd' := kd) (fi' := fi) (la' := la) (va' := va)
      refine ⟨rfl, rfl, w4, fun q hq1 => ?_⟩
      rw [xup_n _ _ (by omega), xup_n _ _ (by omega), xup_n _ _ (by omega)]
      exact hq q (by omega) (by omega)
    | succ n ih =>
      intro i M1 f hn hi ho ha hb hq
      have h1a' := (hq (O + 1) (by omega) (by omega)).trans h1a
      refine xp_iload_1 (pc := 10) hX d_Mod_take_10 ?_
      refine xp_aload_0 (pc := 11) hX d_Mod_take_11 ?_
      refine xg_get (pc := 12) hX (j := 5) k_Mod d_Mod_take_12 l_Mod_72 (by decide) (by first | assumption | exact xup_s _ _ _ | exact xup_o (by omega) (by assumption) | exact xup_o (by omega) (xup_s _ _ _) | exact xup_o (by omega) (xup_o (by omega) (by assumption)) | exact xup_o (by omega) (xup_o (by omega) (xup_s _ _ _)) | exact xup_o (by omega) (xup_o (by omega) (xup_o (by omega) (by assumption)))) (by rfl) ?_
      refine xn_icmp_ge (pc := 15) hX 36 d_Mod_take_15 (by decide) (by omega) (by omega) (fun z => absurd z (by omega)) (fun z => ?_)
      refine xp_aload_0 (pc := 18) hX d_Mod_take_18 ?_
      refine xg_get (pc := 19) hX (j := 1) k_Mod d_Mod_take_19 l_Mod_13 (by decide) (by first | assumption | exact xup_s _ _ _ | exact xup_o (by omega) (by assumption) | exact xup_o (by omega) (xup_s _ _ _) | exact xup_o (by omega) (xup_o (by omega) (by assumption)) | exact xup_o (by omega) (xup_o (by omega) (xup_s _ _ _)) | exact xup_o (by omega) (xup_o (by omega) (xup_o (by omega) (by assumption)))) (by rfl) ?_
      refine xp_iload_1 (pc := 22) hX d_Mod_take_22 ?_
      refine xp_aload_0 (pc := 23) hX d_Mod_take_23 ?_
      refine xg_get (pc := 24) hX (j := 0) k_Mod d_Mod_take_24 l_Mod_7 (by decide) (by first | assumption | exact xup_s _ _ _ | exact xup_o (by omega) (by assumption) | exact xup_o (by omega) (xup_s _ _ _) | exact xup_o (by omega) (xup_o (by omega) (by assumption)) | exact xup_o (by omega) (xup_o (by omega) (xup_s _ _ _)) | exact xup_o (by omega) (xup_o (by omega) (xup_o (by omega) (by assumption)))) (by rfl) ?_
      refine xp_iload_1 (pc := 27) hX d_Mod_take_27 ?_
      refine xn_iald (pc := 28) hX d_Mod_take_28 rfl (by first | assumption | exact xup_s _ _ _ | exact xup_o (by omega) (by assumption) | exact xup_o (by omega) (xup_s _ _ _) | exact xup_o (by omega) (xup_o (by omega) (by assumption)) | exact xup_o (by omega) (xup_o (by omega) (xup_s _ _ _)) | exact xup_o (by omega) (xup_o (by omega) (xup_o (by omega) (by assumption)))) (by omega) (by omega) ?_
      refine xn_iast (pc := 29) hX d_Mod_take_29 rfl (by first | assumption | exact xup_s _ _ _ | exact xup_o (by omega) (by assumption) | exact xup_o (by omega) (xup_s _ _ _) | exact xup_o (by omega) (xup_o (by omega) (by assumption)) | exact xup_o (by omega) (xup_o (by omega) (xup_s _ _ _)) | exact xup_o (by omega) (xup_o (by omega) (xup_o (by omega) (by assumption)))) (by omega) (by omega) ?_
      refine xp_inc_1 (pc := 30) hX d_Mod_take_30 (by decide) ?_
      refine xg_goto (pc := 33) hX 10 d_Mod_take_33 (by decide) ?_
      refine ih (i + 1) _ _ (by omega) (by omega) ?_ (xup_s _ _ _) (fun j b hj hjb => ?_) (fun q a b => ?_)
      · rw [xup_n _ _ (by omega)]; exact ho
      · by_cases e : j = i
        · subst e
          rw [pk_us]
          exact h1b j b hjb
        · rw [pk_un e]
          exact hb j b (by omega) hjb
      · rw [xup_n _ _ b]; exact hq q a b
  refine loop t.length 0 _ f0 (by omega) (by omega) (xup_s _ _ _) ?_ (fun j b hj => absurd hj (by omega)) (fun q a _ => xup_n _ _ a)
  rw [xup_n _ _ (by omega)]
  exact h2a
end XM3
