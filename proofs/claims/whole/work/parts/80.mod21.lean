/-! the reference: parse -/
theorem toks_len {x : List UInt8} : ∀ (n s : Nat) (acc : List xTk), (toks x n s acc).2.length ≤ acc.length + n
  | 0, s, acc => by show acc.length ≤ _; omega
  | n + 1, s, acc => by
    unfold toks
    split
    · split
      · have := toks_len (x := x) n (tok1 x s).1.1 (acc ++ (tok1 x s).2.toList)
        rw [List.length_append] at this
        have h2 : (tok1 x s).2.toList.length ≤ 1 := by cases (tok1 x s).2 <;> simp
        omega
      · show acc.length ≤ _; omega
    · show acc.length ≤ _; omega
theorem prsS_v {se : List xSe} {ip : Nat} {t sub : List UInt8} : ∀ (T pend : List xTk) (es : List xEn) (fr bg : Nat), (prsS se ip t sub T pend es fr bg).1 = nI 0 ∨ (prsS se ip t sub T pend es fr bg).1 = -2 ∨ (prsS se ip t sub T pend es fr bg).1 = -4
  | [], pend, es, fr, bg => hndL_v pend fr es
  | k :: r, pend, es, fr, bg => by
    unfold prsS
    split
    · exact prsS_v r _ _ _ _
    · split
      · exact Or.inr (Or.inl rfl)
      · split
        · exact prsS_v r _ _ _ _
        · exact hndL_v pend _ es
theorem ChP_len {x : List UInt8} {q : Nat} : ∀ (L : List xTk) (p : Nat), p ≤ x.length → ChP x p L q → L.length + p ≤ x.length
  | [], p, hp, _ => by simpa using hp
  | k :: r, p, hp, ⟨e, h1, h2, h3⟩ => by
    have hel := tok1_e h1 h2
    have hlt := (tok1_le h1).2 (by rw [h2])
    rw [h2] at hlt
    have hsl := sc_le (P := bl) (bs := x) hp (Nat.le_refl _)
    have := ChP_len r e hel h3
    rw [List.length_cons]
    dsimp only at hlt
    omega
section XM21
variable {t x out full : List UInt8} {es : List xEn} {pool : Nat} {se : List xSe} {sub fd : List UInt8} {fr bg : Nat} {wr : Option Nat} {nx kd fi la va : Nat}
set_option maxHeartbeats 16000000 in
set_option maxRecDepth 100000 in
theorem b_parse (d : Nat) {M : xH} {sz O : Nat} {S : xS} (h : MW M O S) (hI : InvF S) : xC (d + 7) 0 0 Y_Mod_parse [.ref O] M sz (qi sz (fun z M' => z = (sParse S).1 ∧ MW M' O (sParse S).2 ∧ FrO M M' O)) := by
  obtain ⟨t, out, es, dp, se, sub, fr, bg⟩ := S
  obtain ⟨hdp, x, full, fd, wr, nx, kd, fi, la, va, hw⟩ := id h
  obtain ⟨⟨hgI, -⟩, hso⟩ := hI
  have hso : SeO se := hso
  refine xC_of (by decide) (Nat.le_of_ble_eq_true rfl) (by simp [Value.category]) (vs := [some (.ref O), none, none]) rfl (fun K hX hE => ?_)
  obtain ⟨h0, -⟩ := id hw
  have htl := hw.xl.1
  have hsl := hw.xl.2.2.2.2.2.2.1
  have hG := toks_G htl 600 0 [] (fun e he => absurd he List.not_mem_nil)
  have hLn := toks_len (x := t) 600 0 []
  obtain ⟨hok, hbad⟩ := toks_ch (x := t) 600 0 [] (by omega) (by omega)
  have hSb : (toks t 600 0 []).1.2 = false → sParse (t, out, es, dp, se, sub, fr, bg) = (aI (some (toks t 600 0 []).1.1), ([], out, es, dp, se, sub, fr, bg)) := by
    intro hb
    unfold sParse
    dsimp only
    rw [if_neg (by rw [hb]; decide)]
  have hSg : (toks t 600 0 []).1.2 = true → sParse (t, out, es, dp, se, sub, fr, bg) = (if (prsS se (dp - 1) t sub (toks t 600 0 []).2 [] es 1 1).1 = nI 0 then nI ((toks t 600 0 []).2.filter (fun e => isTg e.1)).length else (prsS se (dp - 1) t sub (toks t 600 0 []).2 [] es 1 1).1, ([], out, (prsS se (dp - 1) t sub (toks t 600 0 []).2 [] es 1 1).2.1, dp, se, sub, (prsS se (dp - 1) t sub (toks t 600 0 []).2 [] es 1 1).2.2.1, (prsS se (dp - 1) t sub (toks t 600 0 []).2 [] es 1 1).2.2.2)) := by
    intro hb
    unfold sParse
    dsimp only
    rw [if_pos hb]
  have htb := toks_bad (t := t) 600 0 []
  generalize toks t 600 0 [] = TT at *
  have hchain : ∃ L q, ChP t 0 L q ∧ ((TT.1.2 = true ∧ TT.2 = L ∧ sc bl t q t.length = t.length) ∨ (TT.1.2 = false ∧ q ≤ t.length ∧ sc bl t q t.length < t.length ∧ (tok1 t (sc bl t q t.length)).1 = (TT.1.1, false))) := by
    cases hh : TT.1.2 with
    | true =>
      obtain ⟨L, q, a1, a2, a3⟩ := hok hh
      exact ⟨L, q, a2, Or.inl ⟨rfl, by rw [a1]; rfl, a3⟩⟩
    | false =>
      obtain ⟨L, q, a1, a2⟩ := hbad hh
      exact ⟨L, q, a1, Or.inr ⟨rfl, a2⟩⟩
  obtain ⟨L, q, hch, hend⟩ := hchain
  -- it was WRONG
  have k62b : ∀ (M1 : xH) (nx1 kd1 fi1 la1 va1 : Nat) (fd1 : List UInt8) (v1 v2 : Option Value), TT.1.2 = false → Wd M1 O [] t out full es (dp - 1) se sub fd1 fr bg (some TT.1.1) nx1 kd1 fi1 la1 va1 → FrO M M1 O → xG K 62 [some (.ref O), v1, v2] [] M1 sz 0 0 := by
    intro M1 nx1 kd1 fi1 la1 va1 fd1 v1 v2 hb w1 f1
    rw [hSb hb] at hE
    have := htb hb
    obtain ⟨h0, -⟩ := id w1
    refine xp_aload_0 (pc := 62) hX d_Mod_parse_62 ?_
    refine xg_get (pc := 63) hX (j := 24) k_Mod d_Mod_parse_63 l_Mod_75 (by decide) (by first | assumption | exact xup_s _ _ _ | exact xup_o (by omega) (by assumption) | exact xup_o (by omega) (xup_s _ _ _) | exact xup_o (by omega) (xup_o (by omega) (by assumption)) | exact xup_o (by omega) (xup_o (by omega) (xup_s _ _ _)) | exact xup_o (by omega) (xup_o (by omega) (xup_o (by omega) (by assumption)))) (by rfl) ?_
    refine xn_if_lt (a := TT.1.1) (pc := 66) hX 78 d_Mod_parse_66 (by decide) (by omega) ?_
    refine xg_sipush (pc := 69) hX (-1000) d_Mod_parse_69 ci_sipush_m1000 ?_
    refine xp_aload_0 (pc := 72) hX d_Mod_parse_72 ?_
    refine xg_get (pc := 73) hX (j := 24) k_Mod d_Mod_parse_73 l_Mod_75 (by decide) (by first | assumption | exact xup_s _ _ _ | exact xup_o (by omega) (by assumption) | exact xup_o (by omega) (xup_s _ _ _) | exact xup_o (by omega) (xup_o (by omega) (by assumption)) | exact xup_o (by omega) (xup_o (by omega) (xup_s _ _ _)) | exact xup_o (by omega) (xup_o (by omega) (xup_o (by omega) (by assumption)))) (by rfl) ?_
    refine xg_isub (pc := 76) hX d_Mod_parse_76 ?_
    refine xg_iret (pc := 77) hX hE d_Mod_parse_77 rfl rfl (by omega) (by omega) ?_
    exact ⟨rfl, _, rfl, rfl, ⟨hdp, _, _, _, _, _, _, _, _, _, w1⟩, f1⟩
  -- it was right
  have k62g : ∀ (M1 : xH) (nx1 kd1 fi1 la1 va1 : Nat) (fd1 : List UInt8) (v2 : Option Value), TT.1.2 = true → TT.2 = L → sc bl t q t.length = t.length → Wd M1 O [] t out full es (dp - 1) se sub fd1 fr bg none nx1 kd1 fi1 la1 va1 → FrO M M1 O → xG K 62 [some (.ref O), some (.int (nI (L.filter (fun e => isTg e.1)).length)), v2] [] M1 sz 0 0 := by
    intro M1 nx1 kd1 fi1 la1 va1 fd1 v2 hg hTL hq w1 f1
    have hS := hSg hg
    rw [hTL] at hS hG hLn
    obtain ⟨h0, -⟩ := id w1
    have w2 : Wd (xup (xup M1 O (moC O [] t out full es (dp - 1) se sub fd1 1 bg none nx1 kd1 fi1 la1 va1)) O (moC O [] t out full es (dp - 1) se sub fd1 1 1 none nx1 kd1 fi1 la1 va1)) O [] t out full es (dp - 1) se sub fd1 1 1 none nx1 kd1 fi1 la1 va1 := Wd.up (Wd.up w1)
    have hv := prsS_v (se := se) (ip := dp - 1) (t := t) (sub := sub) L [] es 1 1
    refine xp_aload_0 (pc := 62) hX d_Mod_parse_62 ?_
    refine xg_get (pc := 63) hX (j := 24) k_Mod d_Mod_parse_63 l_Mod_75 (by decide) (by first | assumption | exact xup_s _ _ _ | exact xup_o (by omega) (by assumption) | exact xup_o (by omega) (xup_s _ _ _) | exact xup_o (by omega) (xup_o (by omega) (by assumption)) | exact xup_o (by omega) (xup_o (by omega) (xup_s _ _ _)) | exact xup_o (by omega) (xup_o (by omega) (xup_o (by omega) (by assumption)))) (by rfl) ?_
    refine xg_if_lt (pc := 66) hX 78 d_Mod_parse_66 (by decide) (fun _ => ?_) (fun z => absurd (by decide) z)
    refine xp_aload_0 (pc := 78) hX d_Mod_parse_78 ?_
    refine xg_iconst (pc := 79) hX (nI 1) d_Mod_parse_79 ci_iconst_1 ?_
    refine xg_put (pc := 80) hX (j := 22) k_Mod d_Mod_parse_80 l_Mod_52 (by decide) rfl (by first | assumption | exact xup_s _ _ _ | exact xup_o (by omega) (by assumption) | exact xup_o (by omega) (xup_s _ _ _) | exact xup_o (by omega) (xup_o (by omega) (by assumption)) | exact xup_o (by omega) (xup_o (by omega) (xup_s _ _ _)) | exact xup_o (by omega) (xup_o (by omega) (xup_o (by omega) (by assumption)))) (Nat.le_of_ble_eq_true rfl) rfl rfl (by simp only [List.set_cons_zero, List.set_cons_succ]; exact rfl) ?_
    refine xp_aload_0 (pc := 83) hX d_Mod_parse_83 ?_
    refine xg_iconst (pc := 84) hX (nI 1) d_Mod_parse_84 ci_iconst_1 ?_
    refine xg_put (pc := 85) hX (j := 23) k_Mod d_Mod_parse_85 l_Mod_56 (by decide) rfl (by first | assumption | exact xup_s _ _ _ | exact xup_o (by omega) (by assumption) | exact xup_o (by omega) (xup_s _ _ _) | exact xup_o (by omega) (xup_o (by omega) (by assumption)) | exact xup_o (by omega) (xup_o (by omega) (xup_s _ _ _)) | exact xup_o (by omega) (xup_o (by omega) (xup_o (by omega) (by assumption)))) (Nat.le_of_ble_eq_true rfl) rfl rfl (by simp only [List.set_cons_zero, List.set_cons_succ]; exact rfl) ?_
    refine xp_aload_0 (pc := 88) hX d_Mod_parse_88 ?_
    refine xi_V (Y2 := Y_Mod_cut) (pc := 89) hX [] k_Mod m_Mod_cut d_Mod_parse_89 l_Mod_203 rfl rfl (by simp [Value.category]) (by first | assumption | exact xup_s _ _ _ | exact xup_o (by omega) (by assumption) | exact xup_o (by omega) (xup_s _ _ _) | exact xup_o (by omega) (xup_o (by omega) (by assumption)) | exact xup_o (by omega) (xup_o (by omega) (xup_s _ _ _)) | exact xup_o (by omega) (xup_o (by omega) (xup_o (by omega) (by assumption)))) (c_Mod_cut d w2 hso hgI hch hq hG (by simpa using hLn) (by omega) (by omega) (by omega) (by omega)) (by omega) (by omega) ?_
    generalize prsS se (dp - 1) t sub L [] es 1 1 = P at *
    rintro y M3 ⟨rfl, ⟨full', nx', kd', fd', fi', la', va', w3⟩, f3⟩
    have fe : FrO M M3 O := ((f1.up' _ (by omega) (by omega)).up' _ (by omega) (by omega)).tr f3
    rw [hS] at hE
    refine xp_istore_2 (pc := 92) hX d_Mod_parse_92 (by decide) ?_
    refine xp_iload_2 (pc := 93) hX d_Mod_parse_93 ?_
    have kneg : ¬ P.1 = nI 0 → ¬ (0 : Int32) ≤ P.1 → xG K 94 [some (.ref O), some (.int (nI (L.filter (fun e => isTg e.1)).length)), some (.int P.1)] [.int P.1] M3 sz 0 0 := by
      intro z1 z2
      refine xg_if_ge (pc := 94) hX 101 d_Mod_parse_94 (by decide) (fun z => absurd z z2) (fun _ => ?_)
      refine xp_iload_2 (pc := 97) hX d_Mod_parse_97 ?_
      refine xg_goto (pc := 98) hX 102 d_Mod_parse_98 (by decide) ?_
      refine xg_iret (pc := 102) hX hE d_Mod_parse_102 rfl rfl (by omega) (by omega) ?_
      refine ⟨rfl, _, rfl, ?_, ⟨hdp, _, _, _, _, _, _, _, _, _, w3⟩, fe⟩
      dsimp only
      rw [if_neg z1]
    rcases hv with hv | hv | hv
    · refine xg_if_ge (pc := 94) hX 101 d_Mod_parse_94 (by decide) (fun _ => ?_) (fun z => absurd (by rw [hv]; decide) z)
      refine xp_iload_1 (pc := 101) hX d_Mod_parse_101 ?_
      refine xg_iret (pc := 102) hX hE d_Mod_parse_102 rfl rfl (by omega) (by omega) ?_
      refine ⟨rfl, _, rfl, ?_, ⟨hdp, _, _, _, _, _, _, _, _, _, w3⟩, fe⟩
      dsimp only
      rw [if_pos hv]
    · exact kneg (by rw [hv]; decide) (by rw [hv]; decide)
    · exact kneg (by rw [hv]; decide) (by rw [hv]; decide)
  have loop : ∀ (L1 : List xTk) (c p : Nat) (M1 : xH) (kd1 fi1 la1 va1 : Nat) (fd1 : List UInt8), p ≤ t.length → c + L1.length ≤ 100000 → ChP t p L1 q → (L.filter (fun e => isTg e.1)).length = c + (L1.filter (fun e => isTg e.1)).length → Wd M1 O [] t out full es (dp - 1) se sub fd1 fr bg none (sc bl t p t.length) kd1 fi1 la1 va1 → FrO M M1 O → xG K 10 [some (.ref O), some (.int (nI c)), none] [] M1 sz 0 0 := by
    intro L1
    induction L1 with
    | nil =>
      intro c p M1 kd1 fi1 la1 va1 fd1 hp hcl hc1 hcnt w1 f1
      have hc1 : sc bl t p t.length = sc bl t q t.length := hc1
      rw [hc1] at w1
      obtain ⟨h0, -⟩ := id w1
      rcases hend with ⟨e1, e2, e3⟩ | ⟨e1, e2, e3, e4⟩
      · rw [e3] at w1 h0
        have hcnt : (L.filter (fun e => isTg e.1)).length = c := by rw [hcnt]; rfl
        refine xp_aload_0 (pc := 10) hX d_Mod_parse_10 ?_
        refine xg_get (pc := 11) hX (j := 25) k_Mod d_Mod_parse_11 l_Mod_78 (by decide) (by first | assumption | exact xup_s _ _ _ | exact xup_o (by omega) (by assumption) | exact xup_o (by omega) (xup_s _ _ _) | exact xup_o (by omega) (xup_o (by omega) (by assumption)) | exact xup_o (by omega) (xup_o (by omega) (xup_s _ _ _)) | exact xup_o (by omega) (xup_o (by omega) (xup_o (by omega) (by assumption)))) (by rfl) ?_
        refine xp_aload_0 (pc := 14) hX d_Mod_parse_14 ?_
        refine xg_get (pc := 15) hX (j := 5) k_Mod d_Mod_parse_15 l_Mod_72 (by decide) (by first | assumption | exact xup_s _ _ _ | exact xup_o (by omega) (by assumption) | exact xup_o (by omega) (xup_s _ _ _) | exact xup_o (by omega) (xup_o (by omega) (by assumption)) | exact xup_o (by omega) (xup_o (by omega) (xup_s _ _ _)) | exact xup_o (by omega) (xup_o (by omega) (xup_o (by omega) (by assumption)))) (by rfl) ?_
        refine xn_icmp_ge (pc := 18) hX 62 d_Mod_parse_18 (by decide) (by omega) (by omega) (fun _ => ?_) (fun z => absurd z (by omega))
        rw [← hcnt]
        exact k62g M1 _ _ _ _ _ _ _ e1 e2 e3 w1 f1
      · obtain ⟨b, hbb1, hbb2⟩ := sc_stop _ q rfl e2 e3
        refine xp_aload_0 (pc := 10) hX d_Mod_parse_10 ?_
        refine xg_get (pc := 11) hX (j := 25) k_Mod d_Mod_parse_11 l_Mod_78 (by decide) (by first | assumption | exact xup_s _ _ _ | exact xup_o (by omega) (by assumption) | exact xup_o (by omega) (xup_s _ _ _) | exact xup_o (by omega) (xup_o (by omega) (by assumption)) | exact xup_o (by omega) (xup_o (by omega) (xup_s _ _ _)) | exact xup_o (by omega) (xup_o (by omega) (xup_o (by omega) (by assumption)))) (by rfl) ?_
        refine xp_aload_0 (pc := 14) hX d_Mod_parse_14 ?_
        refine xg_get (pc := 15) hX (j := 5) k_Mod d_Mod_parse_15 l_Mod_72 (by decide) (by first | assumption | exact xup_s _ _ _ | exact xup_o (by omega) (by assumption) | exact xup_o (by omega) (xup_s _ _ _) | exact xup_o (by omega) (xup_o (by omega) (by assumption)) | exact xup_o (by omega) (xup_o (by omega) (xup_s _ _ _)) | exact xup_o (by omega) (xup_o (by omega) (xup_o (by omega) (by assumption)))) (by rfl) ?_
        refine xn_icmp_ge (pc := 18) hX 62 d_Mod_parse_18 (by decide) (by omega) (by omega) (fun z => absurd z (by omega)) (fun _ => ?_)
        refine xp_aload_0 (pc := 21) hX d_Mod_parse_21 ?_
        refine xg_get (pc := 22) hX (j := 24) k_Mod d_Mod_parse_22 l_Mod_75 (by decide) (by first | assumption | exact xup_s _ _ _ | exact xup_o (by omega) (by assumption) | exact xup_o (by omega) (xup_s _ _ _) | exact xup_o (by omega) (xup_o (by omega) (by assumption)) | exact xup_o (by omega) (xup_o (by omega) (xup_s _ _ _)) | exact xup_o (by omega) (xup_o (by omega) (xup_o (by omega) (by assumption)))) (by rfl) ?_
        refine xg_if_ge (pc := 25) hX 62 d_Mod_parse_25 (by decide) (fun z => absurd z (by decide)) (fun _ => ?_)
        refine xp_aload_0 (pc := 28) hX d_Mod_parse_28 ?_
        refine xv_V (Y2 := Y_Mod_token) (pc := 29) hX [] k_Mod m_Mod_token d_Mod_parse_29 l_Mod_200 rfl rfl (by simp [Value.category]) (by first | assumption | exact xup_s _ _ _ | exact xup_o (by omega) (by assumption) | exact xup_o (by omega) (xup_s _ _ _) | exact xup_o (by omega) (xup_o (by omega) (by assumption)) | exact xup_o (by omega) (xup_o (by omega) (xup_s _ _ _)) | exact xup_o (by omega) (xup_o (by omega) (xup_o (by omega) (by assumption)))) (c_Mod_token (d + 3) w1 hbb1 (bl_ne hbb2)) (by omega) (by omega) ?_
        rintro M2 ⟨hc, f2⟩
        rcases hc with ⟨p', k', fd', fi', la', va', t1, -⟩ | ⟨p', nx', kd', fd', fi', la', va', t1, t2, t3, w2⟩
        · rw [t1] at e4
          cases e4
        rw [e4] at t1
        cases t1
        have hTb := htb e1
        have fe : FrO M M2 O := f1.tr f2
        obtain ⟨h0, -⟩ := id w2
        have k46 : ∀ (v : Nat), v ≤ 1 → xG K 46 [some (.ref O), some (.int (nI c)), none] [.int (nI v), .int (nI c)] M2 sz 0 0 := by
          intro v hv
          first | refine xn_iadd (pc := 46) hX d_Mod_parse_46 ?_ | refine xg_iadd (pc := 46) hX d_Mod_parse_46 ?_
          refine xp_istore_1 (pc := 47) hX d_Mod_parse_47 (by decide) ?_
          refine xp_aload_0 (pc := 48) hX d_Mod_parse_48 ?_
          refine xg_get (pc := 49) hX (j := 24) k_Mod d_Mod_parse_49 l_Mod_75 (by decide) (by first | assumption | exact xup_s _ _ _ | exact xup_o (by omega) (by assumption) | exact xup_o (by omega) (xup_s _ _ _) | exact xup_o (by omega) (xup_o (by omega) (by assumption)) | exact xup_o (by omega) (xup_o (by omega) (xup_s _ _ _)) | exact xup_o (by omega) (xup_o (by omega) (xup_o (by omega) (by assumption)))) (by rfl) ?_
          refine xn_if_ge (a := TT.1.1) (pc := 52) hX 10 d_Mod_parse_52 (by decide) (by omega) ?_
          refine xp_aload_0 (pc := 10) hX d_Mod_parse_10 ?_
          refine xg_get (pc := 11) hX (j := 25) k_Mod d_Mod_parse_11 l_Mod_78 (by decide) (by first | assumption | exact xup_s _ _ _ | exact xup_o (by omega) (by assumption) | exact xup_o (by omega) (xup_s _ _ _) | exact xup_o (by omega) (xup_o (by omega) (by assumption)) | exact xup_o (by omega) (xup_o (by omega) (xup_s _ _ _)) | exact xup_o (by omega) (xup_o (by omega) (xup_o (by omega) (by assumption)))) (by rfl) ?_
          refine xp_aload_0 (pc := 14) hX d_Mod_parse_14 ?_
          refine xg_get (pc := 15) hX (j := 5) k_Mod d_Mod_parse_15 l_Mod_72 (by decide) (by first | assumption | exact xup_s _ _ _ | exact xup_o (by omega) (by assumption) | exact xup_o (by omega) (xup_s _ _ _) | exact xup_o (by omega) (xup_o (by omega) (by assumption)) | exact xup_o (by omega) (xup_o (by omega) (xup_s _ _ _)) | exact xup_o (by omega) (xup_o (by omega) (xup_o (by omega) (by assumption)))) (by rfl) ?_
          refine xn_icmp_ge (pc := 18) hX 62 d_Mod_parse_18 (by decide) (by omega) (by omega) (fun _ => k62b M2 _ _ _ _ _ _ _ _ e1 w2 fe) (fun _ => ?_)
          refine xp_aload_0 (pc := 21) hX d_Mod_parse_21 ?_
          refine xg_get (pc := 22) hX (j := 24) k_Mod d_Mod_parse_22 l_Mod_75 (by decide) (by first | assumption | exact xup_s _ _ _ | exact xup_o (by omega) (by assumption) | exact xup_o (by omega) (xup_s _ _ _) | exact xup_o (by omega) (xup_o (by omega) (by assumption)) | exact xup_o (by omega) (xup_o (by omega) (xup_s _ _ _)) | exact xup_o (by omega) (xup_o (by omega) (xup_o (by omega) (by assumption)))) (by rfl) ?_
          exact xn_if_ge (a := TT.1.1) (pc := 25) hX 62 d_Mod_parse_25 (by decide) (by omega) (k62b M2 _ _ _ _ _ _ _ _ e1 w2 fe)
        refine xp_iload_1 (pc := 32) hX d_Mod_parse_32 ?_
        refine xp_aload_0 (pc := 33) hX d_Mod_parse_33 ?_
        refine xg_get (pc := 34) hX (j := 27) k_Mod d_Mod_parse_34 l_Mod_182 (by decide) (by first | assumption | exact xup_s _ _ _ | exact xup_o (by omega) (by assumption) | exact xup_o (by omega) (xup_s _ _ _) | exact xup_o (by omega) (xup_o (by omega) (by assumption)) | exact xup_o (by omega) (xup_o (by omega) (xup_s _ _ _)) | exact xup_o (by omega) (xup_o (by omega) (xup_o (by omega) (by assumption)))) (by rfl) ?_
        refine xg_iconst (pc := 37) hX (nI 2) d_Mod_parse_37 ci_iconst_2 ?_
        refine xn_icmp_ge (pc := 38) hX 45 d_Mod_parse_38 (by decide) (by omega) (by omega) (fun _ => ?_) (fun _ => ?_)
        · refine xg_iconst (pc := 45) hX (nI 0) d_Mod_parse_45 ci_iconst_0 ?_
          exact k46 0 (by omega)
        · refine xg_iconst (pc := 41) hX (nI 1) d_Mod_parse_41 ci_iconst_1 ?_
          refine xg_goto (pc := 42) hX 46 d_Mod_parse_42 (by decide) ?_
          exact k46 1 (by omega)
    | cons k r ih =>
      intro c p M1 kd1 fi1 la1 va1 fd1 hp hcl hc1 hcnt w1 f1
      obtain ⟨e, hs1, hs2, hcr⟩ := hc1
      have hel := tok1_e hs1 hs2
      obtain ⟨b, hbb1, hbb2⟩ := sc_stop _ p rfl hp hs1
      have hcl2 : c + r.length + 1 ≤ 100000 := by simp at hcl; omega
      obtain ⟨h0, -⟩ := id w1
      refine xp_aload_0 (pc := 10) hX d_Mod_parse_10 ?_
      refine xg_get (pc := 11) hX (j := 25) k_Mod d_Mod_parse_11 l_Mod_78 (by decide) (by first | assumption | exact xup_s _ _ _ | exact xup_o (by omega) (by assumption) | exact xup_o (by omega) (xup_s _ _ _) | exact xup_o (by omega) (xup_o (by omega) (by assumption)) | exact xup_o (by omega) (xup_o (by omega) (xup_s _ _ _)) | exact xup_o (by omega) (xup_o (by omega) (xup_o (by omega) (by assumption)))) (by rfl) ?_
      refine xp_aload_0 (pc := 14) hX d_Mod_parse_14 ?_
      refine xg_get (pc := 15) hX (j := 5) k_Mod d_Mod_parse_15 l_Mod_72 (by decide) (by first | assumption | exact xup_s _ _ _ | exact xup_o (by omega) (by assumption) | exact xup_o (by omega) (xup_s _ _ _) | exact xup_o (by omega) (xup_o (by omega) (by assumption)) | exact xup_o (by omega) (xup_o (by omega) (xup_s _ _ _)) | exact xup_o (by omega) (xup_o (by omega) (xup_o (by omega) (by assumption)))) (by rfl) ?_
      refine xn_icmp_ge (pc := 18) hX 62 d_Mod_parse_18 (by decide) (by omega) (by omega) (fun z => absurd z (by omega)) (fun _ => ?_)
      refine xp_aload_0 (pc := 21) hX d_Mod_parse_21 ?_
      refine xg_get (pc := 22) hX (j := 24) k_Mod d_Mod_parse_22 l_Mod_75 (by decide) (by first | assumption | exact xup_s _ _ _ | exact xup_o (by omega) (by assumption) | exact xup_o (by omega) (xup_s _ _ _) | exact xup_o (by omega) (xup_o (by omega) (by assumption)) | exact xup_o (by omega) (xup_o (by omega) (xup_s _ _ _)) | exact xup_o (by omega) (xup_o (by omega) (xup_o (by omega) (by assumption)))) (by rfl) ?_
      refine xg_if_ge (pc := 25) hX 62 d_Mod_parse_25 (by decide) (fun z => absurd z (by decide)) (fun _ => ?_)
      refine xp_aload_0 (pc := 28) hX d_Mod_parse_28 ?_
      refine xv_V (Y2 := Y_Mod_token) (pc := 29) hX [] k_Mod m_Mod_token d_Mod_parse_29 l_Mod_200 rfl rfl (by simp [Value.category]) (by first | assumption | exact xup_s _ _ _ | exact xup_o (by omega) (by assumption) | exact xup_o (by omega) (xup_s _ _ _) | exact xup_o (by omega) (xup_o (by omega) (by assumption)) | exact xup_o (by omega) (xup_o (by omega) (xup_s _ _ _)) | exact xup_o (by omega) (xup_o (by omega) (xup_o (by omega) (by assumption)))) (c_Mod_token (d + 3) w1 hbb1 (bl_ne hbb2)) (by omega) (by omega) ?_
      rintro M2 ⟨hc, f2⟩
      rcases hc with ⟨p', k', fd', fi', la', va', t1, t2, w2⟩ | ⟨p', nx', kd', fd', fi', la', va', t1, -⟩
      rotate_left
      · rw [hs2] at t1
        cases t1
      rw [hs2] at t1
      cases t1
      obtain ⟨tv1, tv2, -⟩ := t2
      have fe : FrO M M2 O := f1.tr f2
      obtain ⟨h0, -⟩ := id w2
      have k46 : ∀ (v : Nat), v = (if isTg k.1 then 1 else 0) → xG K 46 [some (.ref O), some (.int (nI c)), none] [.int (nI v), .int (nI c)] M2 sz 0 0 := by
        intro v hv
        have hv1 : v ≤ 1 := by rw [hv]; split <;> omega
        have hcnt2 : (L.filter (fun e => isTg e.1)).length = c + v + (r.filter (fun e => isTg e.1)).length := by
          rw [hcnt, List.filter_cons]
          by_cases hh : isTg k.1 = true
          · rw [if_pos hh] at hv ⊢
            rw [List.length_cons]
            omega
          · rw [if_neg hh] at hv ⊢
            omega
        first | refine xn_iadd (pc := 46) hX d_Mod_parse_46 ?_ | refine xg_iadd (pc := 46) hX d_Mod_parse_46 ?_
        refine xp_istore_1 (pc := 47) hX d_Mod_parse_47 (by decide) ?_
        refine xp_aload_0 (pc := 48) hX d_Mod_parse_48 ?_
        refine xg_get (pc := 49) hX (j := 24) k_Mod d_Mod_parse_49 l_Mod_75 (by decide) (by first | assumption | exact xup_s _ _ _ | exact xup_o (by omega) (by assumption) | exact xup_o (by omega) (xup_s _ _ _) | exact xup_o (by omega) (xup_o (by omega) (by assumption)) | exact xup_o (by omega) (xup_o (by omega) (xup_s _ _ _)) | exact xup_o (by omega) (xup_o (by omega) (xup_o (by omega) (by assumption)))) (by rfl) ?_
        refine xg_if_ge (pc := 52) hX 10 d_Mod_parse_52 (by decide) (fun z => absurd z (by decide)) (fun _ => ?_)
        refine xp_aload_0 (pc := 55) hX d_Mod_parse_55 ?_
        refine xv_V (Y2 := Y_Mod_blanks) (pc := 56) hX [] k_Mod m_Mod_blanks d_Mod_parse_56 l_Mod_188 rfl rfl (by simp [Value.category]) (by first | assumption | exact xup_s _ _ _ | exact xup_o (by omega) (by assumption) | exact xup_o (by omega) (xup_s _ _ _) | exact xup_o (by omega) (xup_o (by omega) (by assumption)) | exact xup_o (by omega) (xup_o (by omega) (xup_s _ _ _)) | exact xup_o (by omega) (xup_o (by omega) (xup_o (by omega) (by assumption)))) (c_Mod_blanks (d + 5) w2 hel) (by omega) (by omega) ?_
        rintro M3 ⟨w3, f3⟩
        refine xg_goto (pc := 59) hX 10 d_Mod_parse_59 (by decide) ?_
        exact ih (c + v) e M3 _ _ _ _ _ hel (by omega) hcr hcnt2 w3 (fe.tr f3)
      refine xp_iload_1 (pc := 32) hX d_Mod_parse_32 ?_
      refine xp_aload_0 (pc := 33) hX d_Mod_parse_33 ?_
      refine xg_get (pc := 34) hX (j := 27) k_Mod d_Mod_parse_34 l_Mod_182 (by decide) (by first | assumption | exact xup_s _ _ _ | exact xup_o (by omega) (by assumption) | exact xup_o (by omega) (xup_s _ _ _) | exact xup_o (by omega) (xup_o (by omega) (by assumption)) | exact xup_o (by omega) (xup_o (by omega) (xup_s _ _ _)) | exact xup_o (by omega) (xup_o (by omega) (xup_o (by omega) (by assumption)))) (by rfl) ?_
      refine xg_iconst (pc := 37) hX (nI 2) d_Mod_parse_37 ci_iconst_2 ?_
      refine xn_icmp_ge (pc := 38) hX 45 d_Mod_parse_38 (by decide) (by omega) (by omega) (fun z => ?_) (fun z => ?_)
      · refine xg_iconst (pc := 45) hX (nI 0) d_Mod_parse_45 ci_iconst_0 ?_
        refine k46 0 ?_
        rw [if_neg]
        unfold isTg
        simp only [Bool.or_eq_true, beq_iff_eq]
        omega
      · refine xg_iconst (pc := 41) hX (nI 1) d_Mod_parse_41 ci_iconst_1 ?_
        refine xg_goto (pc := 42) hX 46 d_Mod_parse_42 (by decide) ?_
        refine k46 1 ?_
        rw [if_pos]
        unfold isTg
        simp only [Bool.or_eq_true, beq_iff_eq]
        omega
  have hLL := ChP_len L 0 (by omega) hch
  refine xp_aload_0 (pc := 0) hX d_Mod_parse_0 ?_
  refine xv_V (Y2 := Y_Mod_take) (pc := 1) hX [] k_Mod m_Mod_take d_Mod_parse_1 l_Mod_143 rfl rfl (by simp [Value.category]) (by first | assumption | exact xup_s _ _ _ | exact xup_o (by omega) (by assumption) | exact xup_o (by omega) (xup_s _ _ _) | exact xup_o (by omega) (xup_o (by omega) (by assumption)) | exact xup_o (by omega) (xup_o (by omega) (xup_s _ _ _)) | exact xup_o (by omega) (xup_o (by omega) (xup_o (by omega) (by assumption)))) (c_Mod_take (d + 6) hw) (by omega) (by omega) ?_
  rintro M1 ⟨w1, f1⟩
  obtain ⟨h0, -⟩ := id w1
  refine xg_iconst (pc := 4) hX (nI 0) d_Mod_parse_4 ci_iconst_0 ?_
  refine xp_istore_1 (pc := 5) hX d_Mod_parse_5 (by decide) ?_
  refine xp_aload_0 (pc := 6) hX d_Mod_parse_6 ?_
  refine xv_V (Y2 := Y_Mod_blanks) (pc := 7) hX [] k_Mod m_Mod_blanks d_Mod_parse_7 l_Mod_188 rfl rfl (by simp [Value.category]) (by first | assumption | exact xup_s _ _ _ | exact xup_o (by omega) (by assumption) | exact xup_o (by omega) (xup_s _ _ _) | exact xup_o (by omega) (xup_o (by omega) (by assumption)) | exact xup_o (by omega) (xup_o (by omega) (xup_s _ _ _)) | exact xup_o (by omega) (xup_o (by omega) (xup_o (by omega) (by assumption)))) (c_Mod_blanks (d + 5) w1 (by omega)) (by omega) (by omega) ?_
  rintro M2 ⟨w2, f2⟩
  exact loop L 0 0 M2 kd fi la va fd (by omega) (by omega) hch (by omega) w2 (f1.tr f2)
end XM21
