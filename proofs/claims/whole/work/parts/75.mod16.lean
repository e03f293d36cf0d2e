/-! the reference: number, string -/
theorem numb_app {l : List UInt8} {c : UInt8} : numb (l ++ [c]) = numb l * 10 + (c.toNat - 48) := by
  unfold numb
  rw [List.foldl_append]
  rfl
theorem numb_le : ∀ (n : Nat) (l : List UInt8), l.length ≤ n → (∀ c ∈ l, dig c = true) → numb l < 10 ^ n
  | 0, l, h, _ => by
    have := List.eq_nil_of_length_eq_zero (Nat.le_zero.mp h)
    subst this
    decide
  | n + 1, l, h, hd => by
    by_cases hl : l = []
    · subst hl
      exact Nat.pow_pos (by decide)
    · obtain ⟨l', c, rfl⟩ : ∃ l' c, l = l' ++ [c] := ⟨l.dropLast, l.getLast hl, (List.dropLast_concat_getLast hl).symm⟩
      have h1 := numb_le n l' (by simp at h; omega) (fun a ha => hd a (List.mem_append_left _ ha))
      have h2 := hd c (List.mem_append_right _ (List.mem_singleton.mpr rfl))
      unfold dig at h2
      simp at h2
      rw [numb_app, Nat.pow_succ]
      omega
theorem unq_fuel {t : List UInt8} {q : UInt8} {b : Nat} : ∀ (n m i : Nat), b ≤ n + i → b ≤ m + i → unq t q b n i = unq t q b m i
  | 0, m, i, h, _ => by rw [unq_end (by omega), unq_end (by omega)]
  | n + 1, 0, i, _, h => by rw [unq_end (by omega), unq_end (by omega)]
  | n + 1, m + 1, i, h1, h2 => by
    unfold unq
    split
    · cases t[i]? with
      | none => rfl
      | some c =>
        dsimp only
        congr 1
        exact unq_fuel n m _ (by split <;> omega) (by split <;> omega)
    · rfl
section XM16
variable {t x out full : List UInt8} {es : List xEn} {pool : Nat} {se : List xSe} {sub fd : List UInt8} {fr bg : Nat} {wr : Option Nat} {nx kd fi la va : Nat}
set_option maxHeartbeats 8000000 in
set_option maxRecDepth 100000 in
theorem c_Mod_number (d : Nat) {M : xH} {sz O : Nat} (h : Wd M O t x out full es pool se sub fd fr bg none nx kd fi la va) (hn : nx ≤ x.length) : xC (d + 2) 0 0 Y_Mod_number [.ref O] M sz (qi sz (fun y M' => y = nI (numb (sl x nx (rdP x nx).1)) ∧ Wd M' O t x out full es pool se sub fd fr bg (wrS none (rdP x nx)) ((rdP x nx).1) kd fi la va ∧ FrO M M' O)) := by
  refine xC_of (by decide) (Nat.le_of_ble_eq_true rfl) (by simp [Value.category]) (vs := [some (.ref O), none, none]) rfl (fun K hX hE => ?_)
  obtain ⟨h0, -⟩ := id h
  have hx6 := h.xl.2.1
  have hR : rdP x nx = (sc dig x nx (min (nx + 4) x.length), !(sc dig x nx (min (nx + 4) x.length) == nx) && !osym x[sc dig x nx (min (nx + 4) x.length)]?) := rfl
  generalize hRe : rdP x nx = R at *
  -- the end
  have k99 : ∀ (M1 : xH) (v : Nat), v = numb (sl x nx R.1) → Wd M1 O t x out full es pool se sub fd fr bg (wrS none R) (R.1) kd fi la va → FrO M M1 O → xG K 99 [some (.ref O), some (.int (nI v)), some (.int (nI nx))] [] M1 sz 0 0 := by
    rintro M1 v rfl w1 f1
    refine xp_iload_1 (pc := 99) hX d_Mod_number_99 ?_
    refine xg_iret (pc := 100) hX hE d_Mod_number_100 rfl rfl (by omega) (by omega) ?_
    exact ⟨rfl, _, rfl, rfl, w1, f1⟩
  -- WRONG at p
  have kbad : ∀ (M1 : xH) (p v : Nat), p ≤ x.length → R = (p, false) → v = numb (sl x nx p) → Wd M1 O t x out full es pool se sub fd fr bg (some p) p kd fi la va → FrO M M1 O → xG K 25 [some (.ref O), some (.int (nI v)), some (.int (nI nx))] [] M1 sz 0 0 := by
    intro M1 p v hp hRp hv w1 f1
    obtain ⟨h0, -⟩ := id w1
    subst hRp
    refine xp_aload_0 (pc := 25) hX d_Mod_number_25 ?_
    refine xg_get (pc := 26) hX (j := 24) k_Mod d_Mod_number_26 l_Mod_75 (by decide) (by first | assumption | exact xup_s _ _ _ | exact xup_o (by omega) (by assumption) | exact xup_o (by omega) (xup_s _ _ _) | exact xup_o (by omega) (xup_o (by omega) (by assumption)) | exact xup_o (by omega) (xup_o (by omega) (xup_s _ _ _)) | exact xup_o (by omega) (xup_o (by omega) (xup_o (by omega) (by assumption)))) (by rfl) ?_
    refine xn_if_ge (a := p) (pc := 29) hX 99 d_Mod_number_29 (by decide) (by omega) ?_
    exact k99 M1 v hv w1 f1
  have loop : ∀ (r p : Nat) (M1 : xH), min (nx + 4) x.length - p = r → nx ≤ p → p ≤ min (nx + 4) x.length → (p = nx → odig x[nx]? = true) → sc dig x nx (min (nx + 4) x.length) = sc dig x p (min (nx + 4) x.length) → Wd M1 O t x out full es pool se sub fd fr bg none p kd fi la va → FrO M M1 O → xG K 25 [some (.ref O), some (.int (nI (numb (sl x nx p)))), some (.int (nI nx))] [] M1 sz 0 0 := by
    intro r
    induction r with
    | zero =>
      intro p M1 hr hp1 hp2 hfst hs w1 f1
      obtain ⟨h0, -⟩ := id w1
      have hpl : p = min (nx + 4) x.length := by omega
      have hsc : sc dig x nx (min (nx + 4) x.length) = p := by rw [hs, ← hpl, sc_end]
      rw [hsc] at hR
      refine xp_aload_0 (pc := 25) hX d_Mod_number_25 ?_
      refine xg_get (pc := 26) hX (j := 24) k_Mod d_Mod_number_26 l_Mod_75 (by decide) (by first | assumption | exact xup_s _ _ _ | exact xup_o (by omega) (by assumption) | exact xup_o (by omega) (xup_s _ _ _) | exact xup_o (by omega) (xup_o (by omega) (by assumption)) | exact xup_o (by omega) (xup_o (by omega) (xup_s _ _ _)) | exact xup_o (by omega) (xup_o (by omega) (xup_o (by omega) (by assumption)))) (by rfl) ?_
      refine xg_if_ge (pc := 29) hX 99 d_Mod_number_29 (by decide) (fun z => absurd z (by decide)) (fun _ => ?_)
      refine xp_aload_0 (pc := 32) hX d_Mod_number_32 ?_
      refine xi_V (Y2 := Y_Mod_here) (pc := 33) hX [] k_Mod m_Mod_here d_Mod_number_33 l_Mod_85 rfl rfl (by simp [Value.category]) (by first | assumption | exact xup_s _ _ _ | exact xup_o (by omega) (by assumption) | exact xup_o (by omega) (xup_s _ _ _) | exact xup_o (by omega) (xup_o (by omega) (by assumption)) | exact xup_o (by omega) (xup_o (by omega) (xup_s _ _ _)) | exact xup_o (by omega) (xup_o (by omega) (xup_o (by omega) (by assumption)))) (c_Mod_here (d + 1) w1 (by omega)) (by omega) (by omega) ?_
      rintro y M2 ⟨rfl, rfl⟩
      refine xi_S (Y2 := Y_Mod_isSymbol) (pc := 36) hX [_] m_Mod_isSymbol d_Mod_number_36 l_Mod_89 rfl rfl (by simp [Value.category]) (c_Mod_isSymbol d x[p]?) (by omega) (by omega) ?_
      rintro y M3 ⟨rfl, rfl⟩
      refine xg_if_eq (pc := 39) hX 99 d_Mod_number_39 (by decide) (fun z => ?_) (fun z => ?_)
      · have z := bI_eq0.mp z
        have hpn : p ≠ nx := by
          intro q
          have h1 := hfst q
          rw [q] at z
          cases hh : x[nx]? with
          | none => rw [hh] at h1; cases h1
          | some c =>
            rw [hh] at h1 z
            have h1 : dig c = true := h1
            have z : sym c = false := z
            unfold sym at z
            rw [h1] at z
            simp at z
        have hRp : R = (p, true) := by rw [hR, z]; simp [hpn]
        subst hRp
        exact k99 M3 _ rfl w1 f1
      · have z := bI_ne0.mp z
        have hlt : p < x.length := by
          rcases (show p < x.length ∨ x.length ≤ p by omega) with q | q
          · exact q
          · rw [List.getElem?_eq_none q] at z; cases z
        have hRp : R = (p, false) := by rw [hR, z]; simp
        have k62 : xG K 62 [some (.ref O), some (.int (nI (numb (sl x nx p)))), some (.int (nI nx))] [] M3 sz 0 0 := by
          refine xp_aload_0 (pc := 62) hX d_Mod_number_62 ?_
          refine xp_aload_0 (pc := 63) hX d_Mod_number_63 ?_
          refine xg_get (pc := 64) hX (j := 25) k_Mod d_Mod_number_64 l_Mod_78 (by decide) (by first | assumption | exact xup_s _ _ _ | exact xup_o (by omega) (by assumption) | exact xup_o (by omega) (xup_s _ _ _) | exact xup_o (by omega) (xup_o (by omega) (by assumption)) | exact xup_o (by omega) (xup_o (by omega) (xup_s _ _ _)) | exact xup_o (by omega) (xup_o (by omega) (xup_o (by omega) (by assumption)))) (by rfl) ?_
          refine xv_V (Y2 := Y_Mod_fail) (pc := 67) hX [_] k_Mod m_Mod_fail d_Mod_number_67 l_Mod_92 rfl rfl (by simp [Value.category]) (by first | assumption | exact xup_s _ _ _ | exact xup_o (by omega) (by assumption) | exact xup_o (by omega) (xup_s _ _ _) | exact xup_o (by omega) (xup_o (by omega) (by assumption)) | exact xup_o (by omega) (xup_o (by omega) (xup_s _ _ _)) | exact xup_o (by omega) (xup_o (by omega) (xup_o (by omega) (by assumption)))) (c_Mod_fail (d + 1) w1 (by intro q hq; cases hq)) (by omega) (by omega) ?_
          rintro M4 ⟨w4, f4⟩
          refine xg_goto (pc := 70) hX 25 d_Mod_number_70 (by decide) ?_
          exact kbad M4 p _ (by omega) hRp rfl w4 (f1.tr f4)
        refine xp_aload_0 (pc := 42) hX d_Mod_number_42 ?_
        refine xi_V (Y2 := Y_Mod_here) (pc := 43) hX [] k_Mod m_Mod_here d_Mod_number_43 l_Mod_85 rfl rfl (by simp [Value.category]) (by first | assumption | exact xup_s _ _ _ | exact xup_o (by omega) (by assumption) | exact xup_o (by omega) (xup_s _ _ _) | exact xup_o (by omega) (xup_o (by omega) (by assumption)) | exact xup_o (by omega) (xup_o (by omega) (xup_s _ _ _)) | exact xup_o (by omega) (xup_o (by omega) (xup_o (by omega) (by assumption)))) (c_Mod_here (d + 1) w1 (by omega)) (by omega) (by omega) ?_
        rintro y M4 ⟨rfl, rfl⟩
        refine xi_S (Y2 := Y_Mod_isDigit) (pc := 46) hX [_] m_Mod_isDigit d_Mod_number_46 l_Mod_81 rfl rfl (by simp [Value.category]) (c_Mod_isDigit (d + 1) x[p]?) (by omega) (by omega) ?_
        rintro y M5 ⟨rfl, rfl⟩
        refine xg_if_eq (pc := 49) hX 62 d_Mod_number_49 (by decide) (fun _ => k62) (fun _ => ?_)
        refine xp_aload_0 (pc := 52) hX d_Mod_number_52 ?_
        refine xg_get (pc := 53) hX (j := 25) k_Mod d_Mod_number_53 l_Mod_78 (by decide) (by first | assumption | exact xup_s _ _ _ | exact xup_o (by omega) (by assumption) | exact xup_o (by omega) (xup_s _ _ _) | exact xup_o (by omega) (xup_o (by omega) (by assumption)) | exact xup_o (by omega) (xup_o (by omega) (xup_s _ _ _)) | exact xup_o (by omega) (xup_o (by omega) (xup_o (by omega) (by assumption)))) (by rfl) ?_
        refine xp_iload_2 (pc := 56) hX d_Mod_number_56 ?_
        first | refine xn_isub (pc := 57) hX d_Mod_number_57 (by omega) ?_ | refine xg_isub (pc := 57) hX d_Mod_number_57 ?_
        refine xg_iconst (pc := 58) hX (nI 4) d_Mod_number_58 ci_iconst_4 ?_
        exact xn_icmp_ne (pc := 59) hX 73 d_Mod_number_59 (by decide) (by omega) (by omega) (fun z => absurd z (by omega)) (fun _ => k62)
    | succ r ih =>
      intro p M1 hr hp1 hp2 hfst hs w1 f1
      obtain ⟨h0, -⟩ := id w1
      have hlt : p < x.length := by omega
      refine xp_aload_0 (pc := 25) hX d_Mod_number_25 ?_
      refine xg_get (pc := 26) hX (j := 24) k_Mod d_Mod_number_26 l_Mod_75 (by decide) (by first | assumption | exact xup_s _ _ _ | exact xup_o (by omega) (by assumption) | exact xup_o (by omega) (xup_s _ _ _) | exact xup_o (by omega) (xup_o (by omega) (by assumption)) | exact xup_o (by omega) (xup_o (by omega) (xup_s _ _ _)) | exact xup_o (by omega) (xup_o (by omega) (xup_o (by omega) (by assumption)))) (by rfl) ?_
      refine xg_if_ge (pc := 29) hX 99 d_Mod_number_29 (by decide) (fun z => absurd z (by decide)) (fun _ => ?_)
      refine xp_aload_0 (pc := 32) hX d_Mod_number_32 ?_
      refine xi_V (Y2 := Y_Mod_here) (pc := 33) hX [] k_Mod m_Mod_here d_Mod_number_33 l_Mod_85 rfl rfl (by simp [Value.category]) (by first | assumption | exact xup_s _ _ _ | exact xup_o (by omega) (by assumption) | exact xup_o (by omega) (xup_s _ _ _) | exact xup_o (by omega) (xup_o (by omega) (by assumption)) | exact xup_o (by omega) (xup_o (by omega) (xup_s _ _ _)) | exact xup_o (by omega) (xup_o (by omega) (xup_o (by omega) (by assumption)))) (c_Mod_here (d + 1) w1 (by omega)) (by omega) (by omega) ?_
      rintro y M2 ⟨rfl, rfl⟩
      refine xi_S (Y2 := Y_Mod_isSymbol) (pc := 36) hX [_] m_Mod_isSymbol d_Mod_number_36 l_Mod_89 rfl rfl (by simp [Value.category]) (c_Mod_isSymbol d x[p]?) (by omega) (by omega) ?_
      rintro y M3 ⟨rfl, rfl⟩
      have hxp : x[p]? = some x[p] := List.getElem?_eq_getElem hlt
      cases hdg : dig x[p] with
      | false =>
        have hsc : sc dig x nx (min (nx + 4) x.length) = p := by rw [hs, sc_hit (by omega) (by omega) hdg]
        rw [hsc] at hR
        have hpn : p ≠ nx := by
          intro q
          have h1 := hfst q
          rw [← q, hxp] at h1
          rw [show odig (some x[p]) = dig x[p] from rfl, hdg] at h1
          cases h1
        refine xg_if_eq (pc := 39) hX 99 d_Mod_number_39 (by decide) (fun z => ?_) (fun z => ?_)
        · have z := bI_eq0.mp z
          have hRp : R = (p, true) := by rw [hR, z]; simp [hpn]
          subst hRp
          exact k99 M3 _ rfl w1 f1
        · have z := bI_ne0.mp z
          have hRp : R = (p, false) := by rw [hR, z]; simp
          refine xp_aload_0 (pc := 42) hX d_Mod_number_42 ?_
          refine xi_V (Y2 := Y_Mod_here) (pc := 43) hX [] k_Mod m_Mod_here d_Mod_number_43 l_Mod_85 rfl rfl (by simp [Value.category]) (by first | assumption | exact xup_s _ _ _ | exact xup_o (by omega) (by assumption) | exact xup_o (by omega) (xup_s _ _ _) | exact xup_o (by omega) (xup_o (by omega) (by assumption)) | exact xup_o (by omega) (xup_o (by omega) (xup_s _ _ _)) | exact xup_o (by omega) (xup_o (by omega) (xup_o (by omega) (by assumption)))) (c_Mod_here (d + 1) w1 (by omega)) (by omega) (by omega) ?_
          rintro y M4 ⟨rfl, rfl⟩
          refine xi_S (Y2 := Y_Mod_isDigit) (pc := 46) hX [_] m_Mod_isDigit d_Mod_number_46 l_Mod_81 rfl rfl (by simp [Value.category]) (c_Mod_isDigit (d + 1) x[p]?) (by omega) (by omega) ?_
          rintro y M5 ⟨rfl, rfl⟩
          rw [hxp]
          refine xg_if_eq (pc := 49) hX 62 d_Mod_number_49 (by decide) (fun _ => ?_) (fun z => absurd (bI_eq0.mpr hdg) z)
          refine xp_aload_0 (pc := 62) hX d_Mod_number_62 ?_
          refine xp_aload_0 (pc := 63) hX d_Mod_number_63 ?_
          refine xg_get (pc := 64) hX (j := 25) k_Mod d_Mod_number_64 l_Mod_78 (by decide) (by first | assumption | exact xup_s _ _ _ | exact xup_o (by omega) (by assumption) | exact xup_o (by omega) (xup_s _ _ _) | exact xup_o (by omega) (xup_o (by omega) (by assumption)) | exact xup_o (by omega) (xup_o (by omega) (xup_s _ _ _)) | exact xup_o (by omega) (xup_o (by omega) (xup_o (by omega) (by assumption)))) (by rfl) ?_
          refine xv_V (Y2 := Y_Mod_fail) (pc := 67) hX [_] k_Mod m_Mod_fail d_Mod_number_67 l_Mod_92 rfl rfl (by simp [Value.category]) (by first | assumption | exact xup_s _ _ _ | exact xup_o (by omega) (by assumption) | exact xup_o (by omega) (xup_s _ _ _) | exact xup_o (by omega) (xup_o (by omega) (by assumption)) | exact xup_o (by omega) (xup_o (by omega) (xup_s _ _ _)) | exact xup_o (by omega) (xup_o (by omega) (xup_o (by omega) (by assumption)))) (c_Mod_fail (d + 1) w1 (by intro q hq; cases hq)) (by omega) (by omega) ?_
          rintro M4 ⟨w4, f4⟩
          refine xg_goto (pc := 70) hX 25 d_Mod_number_70 (by decide) ?_
          exact kbad M4 p _ (by omega) hRp rfl w4 (f1.tr f4)
      | true =>
        have hsy : osym x[p]? = true := by
          rw [hxp]
          show sym x[p] = true
          unfold sym
          rw [hdg]
          rfl
        have hd2 := hdg
        unfold dig at hd2
        simp at hd2
        rw [hsy]
        refine xg_if_eq (pc := 39) hX 99 d_Mod_number_39 (by decide) (fun z => absurd (bI_eq0.mp z) (by decide)) (fun _ => ?_)
        refine xp_aload_0 (pc := 42) hX d_Mod_number_42 ?_
        refine xi_V (Y2 := Y_Mod_here) (pc := 43) hX [] k_Mod m_Mod_here d_Mod_number_43 l_Mod_85 rfl rfl (by simp [Value.category]) (by first | assumption | exact xup_s _ _ _ | exact xup_o (by omega) (by assumption) | exact xup_o (by omega) (xup_s _ _ _) | exact xup_o (by omega) (xup_o (by omega) (by assumption)) | exact xup_o (by omega) (xup_o (by omega) (xup_s _ _ _)) | exact xup_o (by omega) (xup_o (by omega) (xup_o (by omega) (by assumption)))) (c_Mod_here (d + 1) w1 (by omega)) (by omega) (by omega) ?_
        rintro y M4 ⟨rfl, rfl⟩
        refine xi_S (Y2 := Y_Mod_isDigit) (pc := 46) hX [_] m_Mod_isDigit d_Mod_number_46 l_Mod_81 rfl rfl (by simp [Value.category]) (c_Mod_isDigit (d + 1) x[p]?) (by omega) (by omega) ?_
        rintro y M5 ⟨rfl, rfl⟩
        rw [hxp]
        refine xg_if_eq (pc := 49) hX 62 d_Mod_number_49 (by decide) (fun z => absurd ((bI_eq0.mp z).symm.trans hdg) (by decide)) (fun _ => ?_)
        refine xp_aload_0 (pc := 52) hX d_Mod_number_52 ?_
        refine xg_get (pc := 53) hX (j := 25) k_Mod d_Mod_number_53 l_Mod_78 (by decide) (by first | assumption | exact xup_s _ _ _ | exact xup_o (by omega) (by assumption) | exact xup_o (by omega) (xup_s _ _ _) | exact xup_o (by omega) (xup_o (by omega) (by assumption)) | exact xup_o (by omega) (xup_o (by omega) (xup_s _ _ _)) | exact xup_o (by omega) (xup_o (by omega) (xup_o (by omega) (by assumption)))) (by rfl) ?_
        refine xp_iload_2 (pc := 56) hX d_Mod_number_56 ?_
        first | refine xn_isub (pc := 57) hX d_Mod_number_57 (by omega) ?_ | refine xg_isub (pc := 57) hX d_Mod_number_57 ?_
        refine xg_iconst (pc := 58) hX (nI 4) d_Mod_number_58 ci_iconst_4 ?_
        refine xn_icmp_ne (pc := 59) hX 73 d_Mod_number_59 (by decide) (by omega) (by omega) (fun _ => ?_) (fun z => absurd z (by omega))
        refine xg_bipush (pc := 73) hX (nI 10) d_Mod_number_73 ci_bipush_10 ?_
        refine xp_iload_1 (pc := 75) hX d_Mod_number_75 ?_
        first | refine xn_imul (pc := 76) hX d_Mod_number_76 ?_ | refine xg_imul (pc := 76) hX d_Mod_number_76 ?_
        refine xp_aload_0 (pc := 77) hX d_Mod_number_77 ?_
        refine xi_V (Y2 := Y_Mod_here) (pc := 78) hX [] k_Mod m_Mod_here d_Mod_number_78 l_Mod_85 rfl rfl (by simp [Value.category]) (by first | assumption | exact xup_s _ _ _ | exact xup_o (by omega) (by assumption) | exact xup_o (by omega) (xup_s _ _ _) | exact xup_o (by omega) (xup_o (by omega) (by assumption)) | exact xup_o (by omega) (xup_o (by omega) (xup_s _ _ _)) | exact xup_o (by omega) (xup_o (by omega) (xup_o (by omega) (by assumption)))) (c_Mod_here (d + 1) w1 (by omega)) (by omega) (by omega) ?_
        rintro y M6 ⟨rfl, rfl⟩
        rw [hxp]
        refine xn_iadd (b := x[p].toNat) (pc := 81) hX d_Mod_number_81 ?_
        refine xg_bipush (pc := 82) hX (nI 48) d_Mod_number_82 ci_bipush_48 ?_
        first | refine xn_isub (pc := 84) hX d_Mod_number_84 (by omega) ?_ | refine xg_isub (pc := 84) hX d_Mod_number_84 ?_
        refine xp_istore_1 (pc := 85) hX d_Mod_number_85 (by decide) ?_
        refine xp_aload_0 (pc := 86) hX d_Mod_number_86 ?_
        refine xg_dup (pc := 87) hX d_Mod_number_87 rfl ?_
        refine xg_get (pc := 88) hX (j := 25) k_Mod d_Mod_number_88 l_Mod_78 (by decide) (by first | assumption | exact xup_s _ _ _ | exact xup_o (by omega) (by assumption) | exact xup_o (by omega) (xup_s _ _ _) | exact xup_o (by omega) (xup_o (by omega) (by assumption)) | exact xup_o (by omega) (xup_o (by omega) (xup_s _ _ _)) | exact xup_o (by omega) (xup_o (by omega) (xup_o (by omega) (by assumption)))) (by rfl) ?_
        refine xg_iconst (pc := 91) hX (nI 1) d_Mod_number_91 ci_iconst_1 ?_
        first | refine xn_iadd (pc := 92) hX d_Mod_number_92 ?_ | refine xg_iadd (pc := 92) hX d_Mod_number_92 ?_
        refine xg_put (pc := 93) hX (j := 25) k_Mod d_Mod_number_93 l_Mod_78 (by decide) rfl (by first | assumption | exact xup_s _ _ _ | exact xup_o (by omega) (by assumption) | exact xup_o (by omega) (xup_s _ _ _) | exact xup_o (by omega) (xup_o (by omega) (by assumption)) | exact xup_o (by omega) (xup_o (by omega) (xup_s _ _ _)) | exact xup_o (by omega) (xup_o (by omega) (xup_o (by omega) (by assumption)))) (Nat.le_of_ble_eq_true rfl) rfl rfl (by simp only [List.set_cons_zero, List.set_cons_succ]; exact rfl) ?_
        refine xg_goto (pc := 96) hX 25 d_Mod_number_96 (by decide) ?_
        have hnb : 10 * numb (sl x nx p) + x[p].toNat - 48 = numb (sl x nx (p + 1)) := by
          rw [sl_succ hp1 hlt, numb_app]
          omega
        rw [hnb]
        exact ih (p + 1) _ (by omega) (by omega) (by omega) (fun q => absurd q (by omega)) (by rw [hs, sc_miss (by omega) (by omega) hdg]) w1.up (f1.up' _ (by omega) (by omega))
  refine xg_iconst (pc := 0) hX (nI 0) d_Mod_number_0 ci_iconst_0 ?_
  refine xp_istore_1 (pc := 1) hX d_Mod_number_1 (by decide) ?_
  refine xp_aload_0 (pc := 2) hX d_Mod_number_2 ?_
  refine xg_get (pc := 3) hX (j := 25) k_Mod d_Mod_number_3 l_Mod_78 (by decide) (by first | assumption | exact xup_s _ _ _ | exact xup_o (by omega) (by assumption) | exact xup_o (by omega) (xup_s _ _ _) | exact xup_o (by omega) (xup_o (by omega) (by assumption)) | exact xup_o (by omega) (xup_o (by omega) (xup_s _ _ _)) | exact xup_o (by omega) (xup_o (by omega) (xup_o (by omega) (by assumption)))) (by rfl) ?_
  refine xp_istore_2 (pc := 6) hX d_Mod_number_6 (by decide) ?_
  refine xp_aload_0 (pc := 7) hX d_Mod_number_7 ?_
  refine xi_V (Y2 := Y_Mod_here) (pc := 8) hX [] k_Mod m_Mod_here d_Mod_number_8 l_Mod_85 rfl rfl (by simp [Value.category]) (by first | assumption | exact xup_s _ _ _ | exact xup_o (by omega) (by assumption) | exact xup_o (by omega) (xup_s _ _ _) | exact xup_o (by omega) (xup_o (by omega) (by assumption)) | exact xup_o (by omega) (xup_o (by omega) (xup_s _ _ _)) | exact xup_o (by omega) (xup_o (by omega) (xup_o (by omega) (by assumption)))) (c_Mod_here (d + 1) h (by omega)) (by omega) (by omega) ?_
  rintro y M2 ⟨rfl, rfl⟩
  refine xi_S (Y2 := Y_Mod_isDigit) (pc := 11) hX [_] m_Mod_isDigit d_Mod_number_11 l_Mod_81 rfl rfl (by simp [Value.category]) (c_Mod_isDigit (d + 1) x[nx]?) (by omega) (by omega) ?_
  rintro y M3 ⟨rfl, rfl⟩
  refine xg_if_ne (pc := 14) hX 25 d_Mod_number_14 (by decide) (fun z => ?_) (fun z => ?_)
  · have z := bI_ne0.mp z
    have := loop _ nx M3 rfl (Nat.le_refl _) (by omega) (fun _ => z) rfl h (FrO.rf _ _)
    rw [sl_same] at this
    exact this
  · have z := bI_eq0.mp z
    have hsc : sc dig x nx (min (nx + 4) x.length) = nx := by
      rcases (show nx < x.length ∨ nx = x.length by omega) with q | q
      · refine sc_hit (by omega) (by omega) ?_
        rw [List.getElem?_eq_getElem q] at z
        exact z
      · rw [show min (nx + 4) x.length = nx by omega, sc_end]
    rw [hsc] at hR
    have hRp : R = (nx, false) := by rw [hR]; simp
    refine xp_aload_0 (pc := 17) hX d_Mod_number_17 ?_
    refine xp_aload_0 (pc := 18) hX d_Mod_number_18 ?_
    refine xg_get (pc := 19) hX (j := 25) k_Mod d_Mod_number_19 l_Mod_78 (by decide) (by first | assumption | exact xup_s _ _ _ | exact xup_o (by omega) (by assumption) | exact xup_o (by omega) (xup_s _ _ _) | exact xup_o (by omega) (xup_o (by omega) (by assumption)) | exact xup_o (by omega) (xup_o (by omega) (xup_s _ _ _)) | exact xup_o (by omega) (xup_o (by omega) (xup_o (by omega) (by assumption)))) (by rfl) ?_
    refine xv_V (Y2 := Y_Mod_fail) (pc := 22) hX [_] k_Mod m_Mod_fail d_Mod_number_22 l_Mod_92 rfl rfl (by simp [Value.category]) (by first | assumption | exact xup_s _ _ _ | exact xup_o (by omega) (by assumption) | exact xup_o (by omega) (xup_s _ _ _) | exact xup_o (by omega) (xup_o (by omega) (by assumption)) | exact xup_o (by omega) (xup_o (by omega) (xup_s _ _ _)) | exact xup_o (by omega) (xup_o (by omega) (xup_o (by omega) (by assumption)))) (c_Mod_fail (d + 1) h (by intro q hq; cases hq)) (by omega) (by omega) ?_
    rintro M4 ⟨w4, f4⟩
    exact kbad M4 nx 0 (by omega) hRp (by rw [sl_same]; rfl) w4 f4
set_option maxHeartbeats 8000000 in
set_option maxRecDepth 100000 in
theorem c_Mod_string (d : Nat) {M : xH} {sz O : Nat} {c : UInt8} (h : Wd M O t x out full es pool se sub fd fr bg none nx kd fi la va) (hc : x[nx]? = some c) : xC (d + 1) 0 0 Y_Mod_string [.ref O] M sz (qv sz (fun M' => (((rdS x c nx (x.length - nx) (nx + 1) 0).2 = true ∧ Wd M' O t x out full es pool se sub (unq x c (rdS x c nx (x.length - nx) (nx + 1) 0).1 ((rdS x c nx (x.length - nx) (nx + 1) 0).1 - (nx + 1)) (nx + 1)) fr bg none ((rdS x c nx (x.length - nx) (nx + 1) 0).1 + 1) kd fi la va) ∨ ((rdS x c nx (x.length - nx) (nx + 1) 0).2 = false ∧ ∃ nx' fd', nx' < 1000 ∧ Wd M' O t x out full es pool se sub fd' fr bg (some (rdS x c nx (x.length - nx) (nx + 1) 0).1) nx' kd fi la va)) ∧ FrO M M' O)) := by
  refine xC_of (by decide) (Nat.le_of_ble_eq_true rfl) (by simp [Value.category]) (vs := [some (.ref O), none, none, none, none]) rfl (fun K hX hE => ?_)
  obtain ⟨h0, -, -, -, -, -, -, -, ⟨hfl, gf, hfa, hfb⟩, -⟩ := id h
  have hx6 := h.xl.2.1
  have hnl := (List.getElem?_eq_some_iff.mp hc).1
  have hcl := by_lt c
  have hlt := rdS_lt (t := x) (q := c) (s := nx) hnl (x.length - nx) (nx + 1) 0
  generalize hR : rdS x c nx (x.length - nx) (nx + 1) 0 = R at *
  -- WRONG
  have kbad : ∀ (M1 : xH) (i : Nat) (acc : List UInt8) (v4 : Option Value), i ≤ x.length + 1 → R.2 = false → Wd M1 O t x out full es pool se sub acc fr bg (some R.1) i kd fi la va → FrO M M1 O → xG K 180 [some (.ref O), some (.int (nI nx)), some (.int (nI c.toNat)), some (.int (nI 1)), v4] [] M1 sz 0 0 := by
    intro M1 i acc v4 hi hRf w1 f1
    obtain ⟨h0, -⟩ := id w1
    refine xg_goto (pc := 180) hX 27 d_Mod_string_180 (by decide) ?_
    refine xp_iload_3 (pc := 27) hX d_Mod_string_27 ?_
    refine xn_if_eq (a := 1) (pc := 28) hX 183 d_Mod_string_28 (by decide) (by decide) (fun z => absurd z (by decide)) (fun _ => ?_)
    refine xp_aload_0 (pc := 31) hX d_Mod_string_31 ?_
    refine xg_get (pc := 32) hX (j := 24) k_Mod d_Mod_string_32 l_Mod_75 (by decide) (by first | assumption | exact xup_s _ _ _ | exact xup_o (by omega) (by assumption) | exact xup_o (by omega) (xup_s _ _ _) | exact xup_o (by omega) (xup_o (by omega) (by assumption)) | exact xup_o (by omega) (xup_o (by omega) (xup_s _ _ _)) | exact xup_o (by omega) (xup_o (by omega) (xup_o (by omega) (by assumption)))) (by rfl) ?_
    refine xn_if_ge (a := R.1) (pc := 35) hX 183 d_Mod_string_35 (by decide) (by omega) ?_
    refine xp_aload_0 (pc := 183) hX d_Mod_string_183 ?_
    refine xg_dup (pc := 184) hX d_Mod_string_184 rfl ?_
    refine xg_get (pc := 185) hX (j := 25) k_Mod d_Mod_string_185 l_Mod_78 (by decide) (by first | assumption | exact xup_s _ _ _ | exact xup_o (by omega) (by assumption) | exact xup_o (by omega) (xup_s _ _ _) | exact xup_o (by omega) (xup_o (by omega) (by assumption)) | exact xup_o (by omega) (xup_o (by omega) (xup_s _ _ _)) | exact xup_o (by omega) (xup_o (by omega) (xup_o (by omega) (by assumption)))) (by rfl) ?_
    refine xg_iconst (pc := 188) hX (nI 1) d_Mod_string_188 ci_iconst_1 ?_
    first | refine xn_iadd (pc := 189) hX d_Mod_string_189 ?_ | refine xg_iadd (pc := 189) hX d_Mod_string_189 ?_
    refine xg_put (pc := 190) hX (j := 25) k_Mod d_Mod_string_190 l_Mod_78 (by decide) rfl (by first | assumption | exact xup_s _ _ _ | exact xup_o (by omega) (by assumption) | exact xup_o (by omega) (xup_s _ _ _) | exact xup_o (by omega) (xup_o (by omega) (by assumption)) | exact xup_o (by omega) (xup_o (by omega) (xup_s _ _ _)) | exact xup_o (by omega) (xup_o (by omega) (xup_o (by omega) (by assumption)))) (Nat.le_of_ble_eq_true rfl) rfl rfl (by simp only [List.set_cons_zero, List.set_cons_succ]; exact rfl) ?_
    refine xg_vret (pc := 193) hX hE d_Mod_string_193 rfl (by omega) (by omega) ?_
    exact ⟨rfl, rfl, Or.inr ⟨hRf, i + 1, acc, by omega, w1.up⟩, f1.up' _ (by omega) (by omega)⟩
  have loop : ∀ (n i : Nat) (acc : List UInt8) (M1 : xH) (v4 : Option Value), x.length ≤ n + i → nx < i → i ≤ x.length + 1 → acc.length ≤ 40 → R = rdS x c nx n i acc.length → (R.2 = true → unq x c R.1 (R.1 - (nx + 1)) (nx + 1) = acc ++ unq x c R.1 (R.1 - i) i) → Wd M1 O t x out full es pool se sub acc fr bg none i kd fi la va → FrO M M1 O → xG K 27 [some (.ref O), some (.int (nI nx)), some (.int (nI c.toNat)), some (.int (nI 1)), v4] [] M1 sz 0 0 := by
    intro n
    induction n with
    | zero =>
      intro i acc M1 v4 hn hi1 hi2 hal hRR hun w1 f1
      have hRe : R = (nx, false) := by rw [hRR, rdS_end (by omega)]
      obtain ⟨h0, -⟩ := id w1
      have hno : x[i]? = none := List.getElem?_eq_none (by omega)
      refine xp_iload_3 (pc := 27) hX d_Mod_string_27 ?_
      refine xn_if_eq (a := 1) (pc := 28) hX 183 d_Mod_string_28 (by decide) (by decide) (fun z => absurd z (by decide)) (fun _ => ?_)
      refine xp_aload_0 (pc := 31) hX d_Mod_string_31 ?_
      refine xg_get (pc := 32) hX (j := 24) k_Mod d_Mod_string_32 l_Mod_75 (by decide) (by first | assumption | exact xup_s _ _ _ | exact xup_o (by omega) (by assumption) | exact xup_o (by omega) (xup_s _ _ _) | exact xup_o (by omega) (xup_o (by omega) (by assumption)) | exact xup_o (by omega) (xup_o (by omega) (xup_s _ _ _)) | exact xup_o (by omega) (xup_o (by omega) (xup_o (by omega) (by assumption)))) (by rfl) ?_
      refine xg_if_ge (pc := 35) hX 183 d_Mod_string_35 (by decide) (fun z => absurd z (by decide)) (fun _ => ?_)
      refine xp_aload_0 (pc := 38) hX d_Mod_string_38 ?_
      refine xi_V (Y2 := Y_Mod_here) (pc := 39) hX [] k_Mod m_Mod_here d_Mod_string_39 l_Mod_85 rfl rfl (by simp [Value.category]) (by first | assumption | exact xup_s _ _ _ | exact xup_o (by omega) (by assumption) | exact xup_o (by omega) (xup_s _ _ _) | exact xup_o (by omega) (xup_o (by omega) (by assumption)) | exact xup_o (by omega) (xup_o (by omega) (xup_s _ _ _)) | exact xup_o (by omega) (xup_o (by omega) (xup_o (by omega) (by assumption)))) (c_Mod_here d w1 (by omega)) (by omega) (by omega) ?_
      rintro y M2 ⟨rfl, rfl⟩
      rw [hno]
      refine xp_iload_2 (pc := 42) hX d_Mod_string_42 ?_
      refine xg_icmp_ne (pc := 43) hX 78 d_Mod_string_43 (by decide) (fun _ => ?_) (fun z => absurd z.symm (nI_nm1 (by omega)))
      refine xg_iconst (pc := 78) hX (nI 0) d_Mod_string_78 ci_iconst_0 ?_
      refine xp_istore_4 (pc := 79) hX d_Mod_string_79 (by decide) ?_
      refine xp_aload_0 (pc := 81) hX d_Mod_string_81 ?_
      refine xg_get (pc := 82) hX (j := 25) k_Mod d_Mod_string_82 l_Mod_78 (by decide) (by first | assumption | exact xup_s _ _ _ | exact xup_o (by omega) (by assumption) | exact xup_o (by omega) (xup_s _ _ _) | exact xup_o (by omega) (xup_o (by omega) (by assumption)) | exact xup_o (by omega) (xup_o (by omega) (xup_s _ _ _)) | exact xup_o (by omega) (xup_o (by omega) (xup_o (by omega) (by assumption)))) (by rfl) ?_
      refine xp_aload_0 (pc := 85) hX d_Mod_string_85 ?_
      refine xg_get (pc := 86) hX (j := 5) k_Mod d_Mod_string_86 l_Mod_72 (by decide) (by first | assumption | exact xup_s _ _ _ | exact xup_o (by omega) (by assumption) | exact xup_o (by omega) (xup_s _ _ _) | exact xup_o (by omega) (xup_o (by omega) (by assumption)) | exact xup_o (by omega) (xup_o (by omega) (xup_s _ _ _)) | exact xup_o (by omega) (xup_o (by omega) (xup_o (by omega) (by assumption)))) (by rfl) ?_
      refine xn_icmp_lt (pc := 89) hX 100 d_Mod_string_89 (by decide) (by omega) (by omega) (fun z => absurd z (by omega)) (fun _ => ?_)
      refine xp_aload_0 (pc := 92) hX d_Mod_string_92 ?_
      refine xp_iload_1 (pc := 93) hX d_Mod_string_93 ?_
      refine xv_V (Y2 := Y_Mod_fail) (pc := 94) hX [_] k_Mod m_Mod_fail d_Mod_string_94 l_Mod_92 rfl rfl (by simp [Value.category]) (by first | assumption | exact xup_s _ _ _ | exact xup_o (by omega) (by assumption) | exact xup_o (by omega) (xup_s _ _ _) | exact xup_o (by omega) (xup_o (by omega) (by assumption)) | exact xup_o (by omega) (xup_o (by omega) (xup_s _ _ _)) | exact xup_o (by omega) (xup_o (by omega) (xup_o (by omega) (by assumption)))) (c_Mod_fail d w1 (by intro q hq; cases hq)) (by omega) (by omega) ?_
      rintro M3 ⟨w3, f3⟩
      refine xg_goto (pc := 97) hX 180 d_Mod_string_97 (by decide) ?_
      exact kbad M3 i acc _ hi2 (by rw [hRe]) (by rw [hRe]; exact w3) (f1.tr f3)
    | succ n ih =>
      intro i acc M1 v4 hn hi1 hi2 hal hRR hun w1 f1
      obtain ⟨h0, -, ⟨h2l, gx, h2a, h2b⟩, -, -, -, -, -, ⟨hfl1, gf1, hfa1, hfb1⟩, -⟩ := id w1
      refine xp_iload_3 (pc := 27) hX d_Mod_string_27 ?_
      refine xn_if_eq (a := 1) (pc := 28) hX 183 d_Mod_string_28 (by decide) (by decide) (fun z => absurd z (by decide)) (fun _ => ?_)
      refine xp_aload_0 (pc := 31) hX d_Mod_string_31 ?_
      refine xg_get (pc := 32) hX (j := 24) k_Mod d_Mod_string_32 l_Mod_75 (by decide) (by first | assumption | exact xup_s _ _ _ | exact xup_o (by omega) (by assumption) | exact xup_o (by omega) (xup_s _ _ _) | exact xup_o (by omega) (xup_o (by omega) (by assumption)) | exact xup_o (by omega) (xup_o (by omega) (xup_s _ _ _)) | exact xup_o (by omega) (xup_o (by omega) (xup_o (by omega) (by assumption)))) (by rfl) ?_
      refine xg_if_ge (pc := 35) hX 183 d_Mod_string_35 (by decide) (fun z => absurd z (by decide)) (fun _ => ?_)
      refine xp_aload_0 (pc := 38) hX d_Mod_string_38 ?_
      refine xi_V (Y2 := Y_Mod_here) (pc := 39) hX [] k_Mod m_Mod_here d_Mod_string_39 l_Mod_85 rfl rfl (by simp [Value.category]) (by first | assumption | exact xup_s _ _ _ | exact xup_o (by omega) (by assumption) | exact xup_o (by omega) (xup_s _ _ _) | exact xup_o (by omega) (xup_o (by omega) (by assumption)) | exact xup_o (by omega) (xup_o (by omega) (xup_s _ _ _)) | exact xup_o (by omega) (xup_o (by omega) (xup_o (by omega) (by assumption)))) (c_Mod_here d w1 (by omega)) (by omega) (by omega) ?_
      rintro y M2 ⟨rfl, rfl⟩
      rcases (show x.length ≤ i ∨ i < x.length by omega) with hge | hil
      · have hRe : R = (nx, false) := by rw [hRR, rdS_end hge]
        rw [List.getElem?_eq_none hge]
        refine xp_iload_2 (pc := 42) hX d_Mod_string_42 ?_
        refine xg_icmp_ne (pc := 43) hX 78 d_Mod_string_43 (by decide) (fun _ => ?_) (fun z => absurd z.symm (nI_nm1 (by omega)))
        refine xg_iconst (pc := 78) hX (nI 0) d_Mod_string_78 ci_iconst_0 ?_
        refine xp_istore_4 (pc := 79) hX d_Mod_string_79 (by decide) ?_
        refine xp_aload_0 (pc := 81) hX d_Mod_string_81 ?_
        refine xg_get (pc := 82) hX (j := 25) k_Mod d_Mod_string_82 l_Mod_78 (by decide) (by first | assumption | exact xup_s _ _ _ | exact xup_o (by omega) (by assumption) | exact xup_o (by omega) (xup_s _ _ _) | exact xup_o (by omega) (xup_o (by omega) (by assumption)) | exact xup_o (by omega) (xup_o (by omega) (xup_s _ _ _)) | exact xup_o (by omega) (xup_o (by omega) (xup_o (by omega) (by assumption)))) (by rfl) ?_
        refine xp_aload_0 (pc := 85) hX d_Mod_string_85 ?_
        refine xg_get (pc := 86) hX (j := 5) k_Mod d_Mod_string_86 l_Mod_72 (by decide) (by first | assumption | exact xup_s _ _ _ | exact xup_o (by omega) (by assumption) | exact xup_o (by omega) (xup_s _ _ _) | exact xup_o (by omega) (xup_o (by omega) (by assumption)) | exact xup_o (by omega) (xup_o (by omega) (xup_s _ _ _)) | exact xup_o (by omega) (xup_o (by omega) (xup_o (by omega) (by assumption)))) (by rfl) ?_
        refine xn_icmp_lt (pc := 89) hX 100 d_Mod_string_89 (by decide) (by omega) (by omega) (fun z => absurd z (by omega)) (fun _ => ?_)
        refine xp_aload_0 (pc := 92) hX d_Mod_string_92 ?_
        refine xp_iload_1 (pc := 93) hX d_Mod_string_93 ?_
        refine xv_V (Y2 := Y_Mod_fail) (pc := 94) hX [_] k_Mod m_Mod_fail d_Mod_string_94 l_Mod_92 rfl rfl (by simp [Value.category]) (by first | assumption | exact xup_s _ _ _ | exact xup_o (by omega) (by assumption) | exact xup_o (by omega) (xup_s _ _ _) | exact xup_o (by omega) (xup_o (by omega) (by assumption)) | exact xup_o (by omega) (xup_o (by omega) (xup_s _ _ _)) | exact xup_o (by omega) (xup_o (by omega) (xup_o (by omega) (by assumption)))) (c_Mod_fail d w1 (by intro q hq; cases hq)) (by omega) (by omega) ?_
        rintro M3 ⟨w3, f3⟩
        refine xg_goto (pc := 97) hX 180 d_Mod_string_97 (by decide) ?_
        exact kbad M3 i acc _ hi2 (by rw [hRe]) (by rw [hRe]; exact w3) (f1.tr f3)
      · have hxi : x[i]? = some x[i] := List.getElem?_eq_getElem hil
        have hbl := by_lt x[i]
        rw [hxi]
        unfold rdS at hRR
        rw [hxi] at hRR
        dsimp only at hRR
        have heq : (x[i] == c) = decide (x[i].toNat = c.toNat) := by
          rw [Bool.eq_iff_iff, beq_iff_eq, decide_eq_true_iff]
          exact ⟨fun q => by rw [q], fun q => UInt8.toNat_inj.mp q⟩
        -- a byte comes
        have k118 : ∀ (tw : Bool), (x[i] == c && !(x[i + 1]? == some c)) = false → tw = (x[i] == c) → xG K 118 [some (.ref O), some (.int (nI nx)), some (.int (nI c.toNat)), some (.int (nI 1)), some (.int (bI tw))] [] M2 sz 0 0 := by
          intro tw hnb htw
          rw [if_neg (by rw [hnb]; decide)] at hRR
          refine xp_aload_0 (pc := 118) hX d_Mod_string_118 ?_
          refine xg_get (pc := 119) hX (j := 21) k_Mod d_Mod_string_119 l_Mod_176 (by decide) (by first | assumption | exact xup_s _ _ _ | exact xup_o (by omega) (by assumption) | exact xup_o (by omega) (xup_s _ _ _) | exact xup_o (by omega) (xup_o (by omega) (by assumption)) | exact xup_o (by omega) (xup_o (by omega) (xup_s _ _ _)) | exact xup_o (by omega) (xup_o (by omega) (xup_o (by omega) (by assumption)))) (by rfl) ?_
          refine xg_bipush (pc := 122) hX (nI 40) d_Mod_string_122 ci_bipush_40 ?_
          refine xn_icmp_ne (pc := 124) hX 138 d_Mod_string_124 (by decide) (by omega) (by omega) (fun z => ?_) (fun z => ?_)
          · rw [if_neg z] at hRR
            refine xp_aload_0 (pc := 138) hX d_Mod_string_138 ?_
            refine xg_get (pc := 139) hX (j := 19) k_Mod d_Mod_string_139 l_Mod_49 (by decide) (by first | assumption | exact xup_s _ _ _ | exact xup_o (by omega) (by assumption) | exact xup_o (by omega) (xup_s _ _ _) | exact xup_o (by omega) (xup_o (by omega) (by assumption)) | exact xup_o (by omega) (xup_o (by omega) (xup_s _ _ _)) | exact xup_o (by omega) (xup_o (by omega) (xup_o (by omega) (by assumption)))) (by rfl) ?_
            refine xp_aload_0 (pc := 142) hX d_Mod_string_142 ?_
            refine xg_get (pc := 143) hX (j := 21) k_Mod d_Mod_string_143 l_Mod_176 (by decide) (by first | assumption | exact xup_s _ _ _ | exact xup_o (by omega) (by assumption) | exact xup_o (by omega) (xup_s _ _ _) | exact xup_o (by omega) (xup_o (by omega) (by assumption)) | exact xup_o (by omega) (xup_o (by omega) (xup_s _ _ _)) | exact xup_o (by omega) (xup_o (by omega) (xup_o (by omega) (by assumption)))) (by rfl) ?_
            refine xp_aload_0 (pc := 146) hX d_Mod_string_146 ?_
            refine xi_V (Y2 := Y_Mod_here) (pc := 147) hX [] k_Mod m_Mod_here d_Mod_string_147 l_Mod_85 rfl rfl (by simp [Value.category]) (by first | assumption | exact xup_s _ _ _ | exact xup_o (by omega) (by assumption) | exact xup_o (by omega) (xup_s _ _ _) | exact xup_o (by omega) (xup_o (by omega) (by assumption)) | exact xup_o (by omega) (xup_o (by omega) (xup_s _ _ _)) | exact xup_o (by omega) (xup_o (by omega) (xup_o (by omega) (by assumption)))) (c_Mod_here d w1 (by omega)) (by omega) (by omega) ?_
            rintro y M3 ⟨rfl, rfl⟩
            rw [hxi]
            refine xn_iast (pc := 150) hX d_Mod_string_150 rfl (by first | assumption | exact xup_s _ _ _ | exact xup_o (by omega) (by assumption) | exact xup_o (by omega) (xup_s _ _ _) | exact xup_o (by omega) (xup_o (by omega) (by assumption)) | exact xup_o (by omega) (xup_o (by omega) (xup_s _ _ _)) | exact xup_o (by omega) (xup_o (by omega) (xup_o (by omega) (by assumption)))) (by omega) (by omega) ?_
            refine xp_aload_0 (pc := 151) hX d_Mod_string_151 ?_
            refine xg_dup (pc := 152) hX d_Mod_string_152 rfl ?_
            refine xg_get (pc := 153) hX (j := 21) k_Mod d_Mod_string_153 l_Mod_176 (by decide) (by first | assumption | exact xup_s _ _ _ | exact xup_o (by omega) (by assumption) | exact xup_o (by omega) (xup_s _ _ _) | exact xup_o (by omega) (xup_o (by omega) (by assumption)) | exact xup_o (by omega) (xup_o (by omega) (xup_s _ _ _)) | exact xup_o (by omega) (xup_o (by omega) (xup_o (by omega) (by assumption)))) (by rfl) ?_
            refine xg_iconst (pc := 156) hX (nI 1) d_Mod_string_156 ci_iconst_1 ?_
            first | refine xn_iadd (pc := 157) hX d_Mod_string_157 ?_ | refine xg_iadd (pc := 157) hX d_Mod_string_157 ?_
            refine xg_put (pc := 158) hX (j := 21) k_Mod d_Mod_string_158 l_Mod_176 (by decide) rfl (by first | assumption | exact xup_s _ _ _ | exact xup_o (by omega) (by assumption) | exact xup_o (by omega) (xup_s _ _ _) | exact xup_o (by omega) (xup_o (by omega) (by assumption)) | exact xup_o (by omega) (xup_o (by omega) (xup_s _ _ _)) | exact xup_o (by omega) (xup_o (by omega) (xup_o (by omega) (by assumption)))) (Nat.le_of_ble_eq_true rfl) rfl rfl (by simp only [List.set_cons_zero, List.set_cons_succ]; exact rfl) ?_
            refine xp_aload_0 (pc := 161) hX d_Mod_string_161 ?_
            refine xg_dup (pc := 162) hX d_Mod_string_162 rfl ?_
            refine xg_get (pc := 163) hX (j := 25) k_Mod d_Mod_string_163 l_Mod_78 (by decide) (by first | assumption | exact xup_s _ _ _ | exact xup_o (by omega) (by assumption) | exact xup_o (by omega) (xup_s _ _ _) | exact xup_o (by omega) (xup_o (by omega) (by assumption)) | exact xup_o (by omega) (xup_o (by omega) (xup_s _ _ _)) | exact xup_o (by omega) (xup_o (by omega) (xup_o (by omega) (by assumption)))) (by rfl) ?_
            refine xp_iload_4 (pc := 166) hX d_Mod_string_166 ?_
            have fin : ∀ (M4 : xH) (i' : Nat), i' = (if x[i] == c then i + 2 else i + 1) → M4 O = some (moC O t x out full es pool se sub (acc ++ [x[i]]) fr bg none i' kd fi la va) → (∀ q, q ≠ O → M4 q = xup M3 (O + 14) (.inl (1, 200, .inl (upd gf1 acc.length (oI (some x[i]))))) q) → xG K 180 [some (.ref O), some (.int (nI nx)), some (.int (nI c.toNat)), some (.int (nI 1)), some (.int (bI tw))] [] M4 sz 0 0 := by
              intro M4 i' hi' ho hq
              have hi2' : (x[i] == c) = true → i + 1 < x.length := by
                intro q
                rw [q] at hnb
                simp only [Bool.true_and, Bool.not_eq_false', beq_iff_eq] at hnb
                exact (List.getElem?_eq_some_iff.mp hnb).1
              have hi'b : i < i' ∧ i' ≤ x.length + 1 := by
                by_cases q : (x[i] == c) = true
                · rw [if_pos q] at hi'; have := hi2' q; omega
                · rw [if_neg q] at hi'; omega
              refine xg_goto (pc := 180) hX 27 d_Mod_string_180 (by decide) ?_
              refine ih i' (acc ++ [x[i]]) M4 _ (by omega) (by omega) (by omega) (by simp; omega) ?_ (fun hRt => ?_) ?_ ?_
              · rw [hRR, ← hi']
                simp
              · have hRi : i' ≤ R.1 := by
                  rw [← hi'] at hRR
                  have := rdS_bd (t := x) (q := c) (s := nx) n i' (acc.length + 1) (by omega)
                  rw [← hRR] at this
                  exact (this hRt).1
                rw [hun hRt, List.append_assoc]
                congr 1
                rw [show R.1 - i = (R.1 - i - 1) + 1 by omega, unq, if_pos (by omega), hxi]
                dsimp only
                rw [← hi']
                show _ :: _ = _ :: _
                rw [unq_fuel (R.1 - i - 1) (R.1 - i') i' (by omega) (by omega)]
                rfl
              · refine w1.sd (fd' := acc ++ [x[i]]) ho ?_ (fun q a b => by rw [hq q a, xup_n _ _ b])
                exact (Ar.push (M := M3) (a := O + 14) (by omega) hfb1).kept (hq _ (by omega))
              · exact f1.tr (fun q hq1 => by rw [hq q (by omega), xup_n _ _ (by omega)])
            refine xg_if_eq (pc := 168) hX 175 d_Mod_string_168 (by decide) (fun z2 => ?_) (fun z2 => ?_)
            · have z2 := bI_eq0.mp z2
              refine xg_iconst (pc := 175) hX (nI 1) d_Mod_string_175 ci_iconst_1 ?_
              first | refine xn_iadd (pc := 176) hX d_Mod_string_176 ?_ | refine xg_iadd (pc := 176) hX d_Mod_string_176 ?_
              refine xg_put (pc := 177) hX (j := 25) k_Mod d_Mod_string_177 l_Mod_78 (by decide) rfl (by first | assumption | exact xup_s _ _ _ | exact xup_o (by omega) (by assumption) | exact xup_o (by omega) (xup_s _ _ _) | exact xup_o (by omega) (xup_o (by omega) (by assumption)) | exact xup_o (by omega) (xup_o (by omega) (xup_s _ _ _)) | exact xup_o (by omega) (xup_o (by omega) (xup_o (by omega) (by assumption)))) (Nat.le_of_ble_eq_true rfl) rfl rfl (by simp only [List.set_cons_zero, List.set_cons_succ]; exact rfl) ?_
              refine fin _ (i + 1) (by rw [← htw, z2]; rfl) ?_ (fun q hq => ?_)
              · rw [xup_s]
                simp only [moC, List.length_append, List.length_cons, List.length_nil]
              · rw [xup_n _ _ hq, xup_n _ _ hq]
            · have z2 := bI_ne0.mp z2
              refine xg_iconst (pc := 171) hX (nI 2) d_Mod_string_171 ci_iconst_2 ?_
              refine xg_goto (pc := 172) hX 176 d_Mod_string_172 (by decide) ?_
              first | refine xn_iadd (pc := 176) hX d_Mod_string_176 ?_ | refine xg_iadd (pc := 176) hX d_Mod_string_176 ?_
              refine xg_put (pc := 177) hX (j := 25) k_Mod d_Mod_string_177 l_Mod_78 (by decide) rfl (by first | assumption | exact xup_s _ _ _ | exact xup_o (by omega) (by assumption) | exact xup_o (by omega) (xup_s _ _ _) | exact xup_o (by omega) (xup_o (by omega) (by assumption)) | exact xup_o (by omega) (xup_o (by omega) (xup_s _ _ _)) | exact xup_o (by omega) (xup_o (by omega) (xup_o (by omega) (by assumption)))) (Nat.le_of_ble_eq_true rfl) rfl rfl (by simp only [List.set_cons_zero, List.set_cons_succ]; exact rfl) ?_
              refine fin _ (i + 2) (by rw [← htw, z2]; rfl) ?_ (fun q hq => ?_)
              · rw [xup_s]
                simp only [moC, List.length_append, List.length_cons, List.length_nil]
              · rw [xup_n _ _ hq, xup_n _ _ hq]
          · rw [if_pos z] at hRR
            refine xp_aload_0 (pc := 127) hX d_Mod_string_127 ?_
            refine xp_aload_0 (pc := 128) hX d_Mod_string_128 ?_
            refine xg_get (pc := 129) hX (j := 25) k_Mod d_Mod_string_129 l_Mod_78 (by decide) (by first | assumption | exact xup_s _ _ _ | exact xup_o (by omega) (by assumption) | exact xup_o (by omega) (xup_s _ _ _) | exact xup_o (by omega) (xup_o (by omega) (by assumption)) | exact xup_o (by omega) (xup_o (by omega) (xup_s _ _ _)) | exact xup_o (by omega) (xup_o (by omega) (xup_o (by omega) (by assumption)))) (by rfl) ?_
            refine xv_V (Y2 := Y_Mod_fail) (pc := 132) hX [_] k_Mod m_Mod_fail d_Mod_string_132 l_Mod_92 rfl rfl (by simp [Value.category]) (by first | assumption | exact xup_s _ _ _ | exact xup_o (by omega) (by assumption) | exact xup_o (by omega) (xup_s _ _ _) | exact xup_o (by omega) (xup_o (by omega) (by assumption)) | exact xup_o (by omega) (xup_o (by omega) (xup_s _ _ _)) | exact xup_o (by omega) (xup_o (by omega) (xup_o (by omega) (by assumption)))) (c_Mod_fail d w1 (by intro q hq; cases hq)) (by omega) (by omega) ?_
            rintro M3 ⟨w3, f3⟩
            refine xg_goto (pc := 135) hX 180 d_Mod_string_135 (by decide) ?_
            exact kbad M3 i acc _ hi2 (by rw [hRR]) (by rw [hRR]; exact w3) (f1.tr f3)
        -- the quote at the end
        have k113 : ∀ (v4 : Option Value), (x[i] == c && !(x[i + 1]? == some c)) = true → xG K 113 [some (.ref O), some (.int (nI nx)), some (.int (nI c.toNat)), some (.int (nI 1)), v4] [] M2 sz 0 0 := by
          intro v4 hnb
          rw [if_pos hnb] at hRR
          refine xg_iconst (pc := 113) hX (nI 0) d_Mod_string_113 ci_iconst_0 ?_
          refine xp_istore_3 (pc := 114) hX d_Mod_string_114 (by decide) ?_
          refine xg_goto (pc := 115) hX 180 d_Mod_string_115 (by decide) ?_
          refine xg_goto (pc := 180) hX 27 d_Mod_string_180 (by decide) ?_
          refine xp_iload_3 (pc := 27) hX d_Mod_string_27 ?_
          refine xn_if_eq (a := 0) (pc := 28) hX 183 d_Mod_string_28 (by decide) (by decide) (fun _ => ?_) (fun z => absurd z (by decide))
          refine xp_aload_0 (pc := 183) hX d_Mod_string_183 ?_
          refine xg_dup (pc := 184) hX d_Mod_string_184 rfl ?_
          refine xg_get (pc := 185) hX (j := 25) k_Mod d_Mod_string_185 l_Mod_78 (by decide) (by first | assumption | exact xup_s _ _ _ | exact xup_o (by omega) (by assumption) | exact xup_o (by omega) (xup_s _ _ _) | exact xup_o (by omega) (xup_o (by omega) (by assumption)) | exact xup_o (by omega) (xup_o (by omega) (xup_s _ _ _)) | exact xup_o (by omega) (xup_o (by omega) (xup_o (by omega) (by assumption)))) (by rfl) ?_
          refine xg_iconst (pc := 188) hX (nI 1) d_Mod_string_188 ci_iconst_1 ?_
          first | refine xn_iadd (pc := 189) hX d_Mod_string_189 ?_ | refine xg_iadd (pc := 189) hX d_Mod_string_189 ?_
          refine xg_put (pc := 190) hX (j := 25) k_Mod d_Mod_string_190 l_Mod_78 (by decide) rfl (by first | assumption | exact xup_s _ _ _ | exact xup_o (by omega) (by assumption) | exact xup_o (by omega) (xup_s _ _ _) | exact xup_o (by omega) (xup_o (by omega) (by assumption)) | exact xup_o (by omega) (xup_o (by omega) (xup_s _ _ _)) | exact xup_o (by omega) (xup_o (by omega) (xup_o (by omega) (by assumption)))) (Nat.le_of_ble_eq_true rfl) rfl rfl (by simp only [List.set_cons_zero, List.set_cons_succ]; exact rfl) ?_
          refine xg_vret (pc := 193) hX hE d_Mod_string_193 rfl (by omega) (by omega) ?_
          refine ⟨rfl, rfl, Or.inl ⟨by rw [hRR], ?_⟩, f1.up' _ (by omega) (by omega)⟩
          have h2 := hun (by rw [hRR])
          rw [hRR] at h2 ⊢
          dsimp only at h2 ⊢
          rw [unq_end (Nat.le_refl _), List.append_nil] at h2
          rw [h2]
          exact w1.up
        -- both
        have k79 : ∀ (tw : Bool) (v4 : Option Value), tw = (x[i] == c && (x[i + 1]? == some c)) → xG K 79 [some (.ref O), some (.int (nI nx)), some (.int (nI c.toNat)), some (.int (nI 1)), v4] [.int (bI tw)] M2 sz 0 0 := by
          intro tw v4 htw
          refine xp_istore_4 (pc := 79) hX d_Mod_string_79 (by decide) ?_
          refine xp_aload_0 (pc := 81) hX d_Mod_string_81 ?_
          refine xg_get (pc := 82) hX (j := 25) k_Mod d_Mod_string_82 l_Mod_78 (by decide) (by first | assumption | exact xup_s _ _ _ | exact xup_o (by omega) (by assumption) | exact xup_o (by omega) (xup_s _ _ _) | exact xup_o (by omega) (xup_o (by omega) (by assumption)) | exact xup_o (by omega) (xup_o (by omega) (xup_s _ _ _)) | exact xup_o (by omega) (xup_o (by omega) (xup_o (by omega) (by assumption)))) (by rfl) ?_
          refine xp_aload_0 (pc := 85) hX d_Mod_string_85 ?_
          refine xg_get (pc := 86) hX (j := 5) k_Mod d_Mod_string_86 l_Mod_72 (by decide) (by first | assumption | exact xup_s _ _ _ | exact xup_o (by omega) (by assumption) | exact xup_o (by omega) (xup_s _ _ _) | exact xup_o (by omega) (xup_o (by omega) (by assumption)) | exact xup_o (by omega) (xup_o (by omega) (xup_s _ _ _)) | exact xup_o (by omega) (xup_o (by omega) (xup_o (by omega) (by assumption)))) (by rfl) ?_
          refine xn_icmp_lt (pc := 89) hX 100 d_Mod_string_89 (by decide) (by omega) (by omega) (fun _ => ?_) (fun z => absurd z (by omega))
          refine xp_aload_0 (pc := 100) hX d_Mod_string_100 ?_
          refine xi_V (Y2 := Y_Mod_here) (pc := 101) hX [] k_Mod m_Mod_here d_Mod_string_101 l_Mod_85 rfl rfl (by simp [Value.category]) (by first | assumption | exact xup_s _ _ _ | exact xup_o (by omega) (by assumption) | exact xup_o (by omega) (xup_s _ _ _) | exact xup_o (by omega) (xup_o (by omega) (by assumption)) | exact xup_o (by omega) (xup_o (by omega) (xup_s _ _ _)) | exact xup_o (by omega) (xup_o (by omega) (xup_o (by omega) (by assumption)))) (c_Mod_here d w1 (by omega)) (by omega) (by omega) ?_
          rintro y M3 ⟨rfl, rfl⟩
          rw [hxi]
          refine xp_iload_2 (pc := 104) hX d_Mod_string_104 ?_
          refine xn_icmp_ne (a := x[i].toNat) (pc := 105) hX 118 d_Mod_string_105 (by decide) (by omega) (by omega) (fun z => ?_) (fun z => ?_)
          · have hf : (x[i] == c) = false := by rw [heq, decide_eq_false_iff_not]; exact z
            exact k118 tw (by rw [hf]; rfl) (by rw [htw, hf]; rfl)
          · have ht : (x[i] == c) = true := by rw [heq, decide_eq_true_iff]; exact z
            refine xp_iload_4 (pc := 108) hX d_Mod_string_108 ?_
            refine xg_if_ne (pc := 110) hX 118 d_Mod_string_110 (by decide) (fun z1 => ?_) (fun z1 => ?_)
            · have z1 := bI_ne0.mp z1
              rw [z1, ht, Bool.true_and] at htw
              exact k118 tw (by rw [ht, ← htw]; rfl) (by rw [z1, ht])
            · have z1 := bI_eq0.mp z1
              rw [z1, ht, Bool.true_and] at htw
              exact k113 _ (by rw [ht, ← htw]; rfl)
        have k78 : ∀ (v4 : Option Value), (x[i] == c && (x[i + 1]? == some c)) = false → xG K 78 [some (.ref O), some (.int (nI nx)), some (.int (nI c.toNat)), some (.int (nI 1)), v4] [] M2 sz 0 0 := by
          intro v4 hh
          refine xg_iconst (pc := 78) hX (nI 0) d_Mod_string_78 ci_iconst_0 ?_
          exact k79 false _ hh.symm
        refine xp_iload_2 (pc := 42) hX d_Mod_string_42 ?_
        refine xn_icmp_ne (a := x[i].toNat) (pc := 43) hX 78 d_Mod_string_43 (by decide) (by omega) (by omega) (fun z => ?_) (fun z => ?_)
        · exact k78 _ (by rw [heq, show decide (x[i].toNat = c.toNat) = false by rw [decide_eq_false_iff_not]; exact z]; rfl)
        · have ht : (x[i] == c) = true := by rw [heq, decide_eq_true_iff]; exact z
          refine xp_aload_0 (pc := 46) hX d_Mod_string_46 ?_
          refine xg_get (pc := 47) hX (j := 25) k_Mod d_Mod_string_47 l_Mod_78 (by decide) (by first | assumption | exact xup_s _ _ _ | exact xup_o (by omega) (by assumption) | exact xup_o (by omega) (xup_s _ _ _) | exact xup_o (by omega) (xup_o (by omega) (by assumption)) | exact xup_o (by omega) (xup_o (by omega) (xup_s _ _ _)) | exact xup_o (by omega) (xup_o (by omega) (xup_o (by omega) (by assumption)))) (by rfl) ?_
          refine xg_iconst (pc := 50) hX (nI 1) d_Mod_string_50 ci_iconst_1 ?_
          first | refine xn_iadd (pc := 51) hX d_Mod_string_51 ?_ | refine xg_iadd (pc := 51) hX d_Mod_string_51 ?_
          refine xp_aload_0 (pc := 52) hX d_Mod_string_52 ?_
          refine xg_get (pc := 53) hX (j := 5) k_Mod d_Mod_string_53 l_Mod_72 (by decide) (by first | assumption | exact xup_s _ _ _ | exact xup_o (by omega) (by assumption) | exact xup_o (by omega) (xup_s _ _ _) | exact xup_o (by omega) (xup_o (by omega) (by assumption)) | exact xup_o (by omega) (xup_o (by omega) (xup_s _ _ _)) | exact xup_o (by omega) (xup_o (by omega) (xup_o (by omega) (by assumption)))) (by rfl) ?_
          refine xn_icmp_ge (pc := 56) hX 78 d_Mod_string_56 (by decide) (by omega) (by omega) (fun z1 => ?_) (fun z1 => ?_)
          · exact k78 _ (by rw [ht, List.getElem?_eq_none z1]; rfl)
          · have hx1 : x[i + 1]? = some x[i + 1] := List.getElem?_eq_getElem z1
            have hbl1 := by_lt x[i + 1]
            refine xp_aload_0 (pc := 59) hX d_Mod_string_59 ?_
            refine xg_get (pc := 60) hX (j := 1) k_Mod d_Mod_string_60 l_Mod_13 (by decide) (by first | assumption | exact xup_s _ _ _ | exact xup_o (by omega) (by assumption) | exact xup_o (by omega) (xup_s _ _ _) | exact xup_o (by omega) (xup_o (by omega) (by assumption)) | exact xup_o (by omega) (xup_o (by omega) (xup_s _ _ _)) | exact xup_o (by omega) (xup_o (by omega) (xup_o (by omega) (by assumption)))) (by rfl) ?_
            refine xp_aload_0 (pc := 63) hX d_Mod_string_63 ?_
            refine xg_get (pc := 64) hX (j := 25) k_Mod d_Mod_string_64 l_Mod_78 (by decide) (by first | assumption | exact xup_s _ _ _ | exact xup_o (by omega) (by assumption) | exact xup_o (by omega) (xup_s _ _ _) | exact xup_o (by omega) (xup_o (by omega) (by assumption)) | exact xup_o (by omega) (xup_o (by omega) (xup_s _ _ _)) | exact xup_o (by omega) (xup_o (by omega) (xup_o (by omega) (by assumption)))) (by rfl) ?_
            refine xg_iconst (pc := 67) hX (nI 1) d_Mod_string_67 ci_iconst_1 ?_
            first | refine xn_iadd (pc := 68) hX d_Mod_string_68 ?_ | refine xg_iadd (pc := 68) hX d_Mod_string_68 ?_
            refine xn_iald (pc := 69) hX d_Mod_string_69 rfl (by first | assumption | exact xup_s _ _ _ | exact xup_o (by omega) (by assumption) | exact xup_o (by omega) (xup_s _ _ _) | exact xup_o (by omega) (xup_o (by omega) (by assumption)) | exact xup_o (by omega) (xup_o (by omega) (xup_s _ _ _)) | exact xup_o (by omega) (xup_o (by omega) (xup_o (by omega) (by assumption)))) (by omega) (by omega) ?_
            rw [h2b (i + 1) x[i + 1] hx1]
            refine xp_iload_2 (pc := 70) hX d_Mod_string_70 ?_
            refine xn_icmp_ne (pc := 71) hX 78 d_Mod_string_71 (by decide) (by omega) (by omega) (fun z2 => ?_) (fun z2 => ?_)
            · exact k78 _ (by rw [ht, hx1]; simp; exact fun q => z2 (by rw [q]))
            · refine xg_iconst (pc := 74) hX (nI 1) d_Mod_string_74 ci_iconst_1 ?_
              refine xg_goto (pc := 75) hX 79 d_Mod_string_75 (by decide) ?_
              exact k79 true _ (by rw [ht, hx1, UInt8.toNat_inj.mp z2]; simp)
  refine xp_aload_0 (pc := 0) hX d_Mod_string_0 ?_
  refine xg_get (pc := 1) hX (j := 25) k_Mod d_Mod_string_1 l_Mod_78 (by decide) (by first | assumption | exact xup_s _ _ _ | exact xup_o (by omega) (by assumption) | exact xup_o (by omega) (xup_s _ _ _) | exact xup_o (by omega) (xup_o (by omega) (by assumption)) | exact xup_o (by omega) (xup_o (by omega) (xup_s _ _ _)) | exact xup_o (by omega) (xup_o (by omega) (xup_o (by omega) (by assumption)))) (by rfl) ?_
  refine xp_istore_1 (pc := 4) hX d_Mod_string_4 (by decide) ?_
  refine xp_aload_0 (pc := 5) hX d_Mod_string_5 ?_
  refine xi_V (Y2 := Y_Mod_here) (pc := 6) hX [] k_Mod m_Mod_here d_Mod_string_6 l_Mod_85 rfl rfl (by simp [Value.category]) (by first | assumption | exact xup_s _ _ _ | exact xup_o (by omega) (by assumption) | exact xup_o (by omega) (xup_s _ _ _) | exact xup_o (by omega) (xup_o (by omega) (by assumption)) | exact xup_o (by omega) (xup_o (by omega) (xup_s _ _ _)) | exact xup_o (by omega) (xup_o (by omega) (xup_o (by omega) (by assumption)))) (c_Mod_here d h (by omega)) (by omega) (by omega) ?_
  rintro y M2 ⟨rfl, rfl⟩
  rw [hc]
  refine xp_istore_2 (pc := 9) hX d_Mod_string_9 (by decide) ?_
  refine xp_aload_0 (pc := 10) hX d_Mod_string_10 ?_
  refine xg_iconst (pc := 11) hX (nI 0) d_Mod_string_11 ci_iconst_0 ?_
  refine xg_put (pc := 12) hX (j := 21) k_Mod d_Mod_string_12 l_Mod_176 (by decide) rfl (by first | assumption | exact xup_s _ _ _ | exact xup_o (by omega) (by assumption) | exact xup_o (by omega) (xup_s _ _ _) | exact xup_o (by omega) (xup_o (by omega) (by assumption)) | exact xup_o (by omega) (xup_o (by omega) (xup_s _ _ _)) | exact xup_o (by omega) (xup_o (by omega) (xup_o (by omega) (by assumption)))) (Nat.le_of_ble_eq_true rfl) rfl rfl (by simp only [List.set_cons_zero, List.set_cons_succ]; exact rfl) ?_
  refine xp_aload_0 (pc := 15) hX d_Mod_string_15 ?_
  refine xg_dup (pc := 16) hX d_Mod_string_16 rfl ?_
  refine xg_get (pc := 17) hX (j := 25) k_Mod d_Mod_string_17 l_Mod_78 (by decide) (by first | assumption | exact xup_s _ _ _ | exact xup_o (by omega) (by assumption) | exact xup_o (by omega) (xup_s _ _ _) | exact xup_o (by omega) (xup_o (by omega) (by assumption)) | exact xup_o (by omega) (xup_o (by omega) (xup_s _ _ _)) | exact xup_o (by omega) (xup_o (by omega) (xup_o (by omega) (by assumption)))) (by rfl) ?_
  refine xg_iconst (pc := 20) hX (nI 1) d_Mod_string_20 ci_iconst_1 ?_
  first | refine xn_iadd (pc := 21) hX d_Mod_string_21 ?_ | refine xg_iadd (pc := 21) hX d_Mod_string_21 ?_
  refine xg_put (pc := 22) hX (j := 25) k_Mod d_Mod_string_22 l_Mod_78 (by decide) rfl (by first | assumption | exact xup_s _ _ _ | exact xup_o (by omega) (by assumption) | exact xup_o (by omega) (xup_s _ _ _) | exact xup_o (by omega) (xup_o (by omega) (by assumption)) | exact xup_o (by omega) (xup_o (by omega) (xup_s _ _ _)) | exact xup_o (by omega) (xup_o (by omega) (xup_o (by omega) (by assumption)))) (Nat.le_of_ble_eq_true rfl) rfl rfl (by simp only [List.set_cons_zero, List.set_cons_succ]; exact rfl) ?_
  refine xg_iconst (pc := 25) hX (nI 1) d_Mod_string_25 ci_iconst_1 ?_
  refine xp_istore_3 (pc := 26) hX d_Mod_string_26 (by decide) ?_
  refine loop (x.length - nx) (nx + 1) [] _ _ (by omega) (by omega) (by omega) (by simp) hR.symm (fun hRt => ?_) ?_ ?_
  · simp
  · refine h.sd (fd' := []) (xup_s _ _ _) ⟨Nat.zero_le _, gf, by rw [xup_n _ _ (by omega), xup_n _ _ (by omega)]; exact hfa, fun j b hj => by simp at hj⟩ (fun q a _ => by rw [xup_n _ _ a, xup_n _ _ a])
  · exact ((FrO.rf _ _).up' _ (by omega) (by omega)).up' _ (by omega) (by omega)
end XM16
