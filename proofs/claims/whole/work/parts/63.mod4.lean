/-! the reference: variable, blanks, held, write, name, value, count -/
section XM4
variable {t x out full : List UInt8} {es : List xEn} {pool : Nat} {se : List xSe} {sub fd : List UInt8} {fr bg : Nat} {wr : Option Nat} {nx kd fi la va : Nat}
/-- WRONG after a reading step -/
def wrS (wr : Option Nat) (R : Nat × Bool) : Option Nat := if R.2 = true then wr else wrF wr R.1
set_option maxHeartbeats 4000000 in
set_option maxRecDepth 100000 in
theorem c_Mod_variable (d : Nat) {M : xH} {sz O : Nat} (h : Wd M O t x out full es pool se sub fd fr bg wr nx kd fi la va) (hw : ∀ q, wr = some q → q < 1000000) (hn : nx ≤ x.length) : xC (d + 2) 0 0 Y_Mod_variable [.ref O] M sz (qv sz (fun M' => Wd M' O t x out full es pool se sub fd fr bg (wrS wr (rdV x nx)) ((rdV x nx).1) kd fi la va ∧ FrO M M' O)) := by
  refine xC_of (by decide) (Nat.le_of_ble_eq_true rfl) (by simp [Value.category]) (vs := [some (.ref O), none]) rfl (fun K hX hE => ?_)
  obtain ⟨h0, -⟩ := id h
  have hx6 := h.xl.2.1
  have k34 : vOK x[nx]? = false → xG K 34 [some (.ref O), some (.int (nI nx))] [] M sz 0 0 := by
    intro hv
    have hR : rdV x nx = (nx, false) := by unfold rdV; rw [hv]; rfl
    rw [hR] at hE
    refine xp_aload_0 (pc := 34) hX d_Mod_variable_34 ?_
    refine xp_aload_0 (pc := 35) hX d_Mod_variable_35 ?_
    refine xg_get (pc := 36) hX (j := 25) k_Mod d_Mod_variable_36 l_Mod_78 (by decide) (by first | assumption | exact xup_s _ _ _ | exact xup_o (by omega) (by assumption) | exact xup_o (by omega) (xup_s _ _ _) | exact xup_o (by omega) (xup_o (by omega) (by assumption)) | exact xup_o (by omega) (xup_o (by omega) (xup_s _ _ _)) | exact xup_o (by omega) (xup_o (by omega) (xup_o (by omega) (by assumption)))) (by rfl) ?_
    refine xv_V (Y2 := Y_Mod_fail) (pc := 39) hX [_] k_Mod m_Mod_fail d_Mod_variable_39 l_Mod_92 rfl rfl (by simp [Value.category]) (by first | assumption | exact xup_s _ _ _ | exact xup_o (by omega) (by assumption) | exact xup_o (by omega) (xup_s _ _ _) | exact xup_o (by omega) (xup_o (by omega) (by assumption)) | exact xup_o (by omega) (xup_o (by omega) (xup_s _ _ _)) | exact xup_o (by omega) (xup_o (by omega) (xup_o (by omega) (by assumption)))) (c_Mod_fail (d + 1) h hw) (by omega) (by omega) ?_
    rintro M1 ⟨a1, a2⟩
    refine xg_vret (pc := 42) hX hE d_Mod_variable_42 rfl (by omega) (by omega) ?_
    exact ⟨rfl, rfl, a1, a2⟩
  have k43 : vOK x[nx]? = true → ∀ (n p : Nat) (M1 : xH), min (nx + 30) x.length - p = n → nx ≤ p → p ≤ min (nx + 30) x.length → sc sym x nx (min (nx + 30) x.length) = sc sym x p (min (nx + 30) x.length) → Wd M1 O t x out full es pool se sub fd fr bg wr p kd fi la va → FrO M M1 O → xG K 43 [some (.ref O), some (.int (nI nx))] [] M1 sz 0 0 := by
    intro hv
    have hR : rdV x nx = (sc sym x nx (min (nx + 30) x.length), !osym x[sc sym x nx (min (nx + 30) x.length)]?) := by unfold rdV; rw [if_pos hv]
    rw [hR] at hE
    intro n
    induction n with
    | zero =>
      intro p M1 hn1 hp1 hp2 hs w1 f1
      obtain ⟨h0, -⟩ := id w1
      have hpe : p = min (nx + 30) x.length := by omega
      rw [hs, ← hpe, sc_end] at hE
      refine xp_aload_0 (pc := 43) hX d_Mod_variable_43 ?_
      refine xi_V (Y2 := Y_Mod_here) (pc := 44) hX [] k_Mod m_Mod_here d_Mod_variable_44 l_Mod_85 rfl rfl (by simp [Value.category]) (by first | assumption | exact xup_s _ _ _ | exact xup_o (by omega) (by assumption) | exact xup_o (by omega) (xup_s _ _ _) | exact xup_o (by omega) (xup_o (by omega) (by assumption)) | exact xup_o (by omega) (xup_o (by omega) (xup_s _ _ _)) | exact xup_o (by omega) (xup_o (by omega) (xup_o (by omega) (by assumption)))) (c_Mod_here (d + 1) w1 (by omega)) (by omega) (by omega) ?_
      rintro y M2 ⟨rfl, rfl⟩
      refine xi_S (Y2 := Y_Mod_isSymbol) (pc := 47) hX [_] m_Mod_isSymbol d_Mod_variable_47 l_Mod_89 rfl rfl (by simp [Value.category]) (c_Mod_isSymbol d x[p]?) (by omega) (by omega) ?_
      rintro y M3 ⟨rfl, rfl⟩
      refine xg_if_eq (pc := 50) hX 86 d_Mod_variable_50 (by decide) (fun z => ?_) (fun z => ?_)
      · have z := bI_eq0.mp z
        refine xg_vret (pc := 86) hX hE d_Mod_variable_86 rfl (by omega) (by omega) ?_
        refine ⟨rfl, rfl, ?_, f1⟩
        rw [z]
        exact w1
      · have z := bI_ne0.mp z
        have hlt : p < x.length := by
          rcases (show p < x.length ∨ x.length ≤ p by omega) with q | q
          · exact q
          · rw [List.getElem?_eq_none q] at z; cases z
        refine xp_aload_0 (pc := 53) hX d_Mod_variable_53 ?_
        refine xg_get (pc := 54) hX (j := 25) k_Mod d_Mod_variable_54 l_Mod_78 (by decide) (by first | assumption | exact xup_s _ _ _ | exact xup_o (by omega) (by assumption) | exact xup_o (by omega) (xup_s _ _ _) | exact xup_o (by omega) (xup_o (by omega) (by assumption)) | exact xup_o (by omega) (xup_o (by omega) (xup_s _ _ _)) | exact xup_o (by omega) (xup_o (by omega) (xup_o (by omega) (by assumption)))) (by rfl) ?_
        refine xp_iload_1 (pc := 57) hX d_Mod_variable_57 ?_
        first | refine xn_isub (pc := 58) hX d_Mod_variable_58 (by omega) ?_ | refine xg_isub (pc := 58) hX d_Mod_variable_58 ?_
        refine xg_bipush (pc := 59) hX (nI 30) d_Mod_variable_59 ci_bipush_30 ?_
        refine xn_icmp_ne (pc := 61) hX 73 d_Mod_variable_61 (by decide) (by omega) (by omega) (fun z1 => absurd z1 (by omega)) (fun z1 => ?_)
        refine xp_aload_0 (pc := 64) hX d_Mod_variable_64 ?_
        refine xp_aload_0 (pc := 65) hX d_Mod_variable_65 ?_
        refine xg_get (pc := 66) hX (j := 25) k_Mod d_Mod_variable_66 l_Mod_78 (by decide) (by first | assumption | exact xup_s _ _ _ | exact xup_o (by omega) (by assumption) | exact xup_o (by omega) (xup_s _ _ _) | exact xup_o (by omega) (xup_o (by omega) (by assumption)) | exact xup_o (by omega) (xup_o (by omega) (xup_s _ _ _)) | exact xup_o (by omega) (xup_o (by omega) (xup_o (by omega) (by assumption)))) (by rfl) ?_
        refine xv_V (Y2 := Y_Mod_fail) (pc := 69) hX [_] k_Mod m_Mod_fail d_Mod_variable_69 l_Mod_92 rfl rfl (by simp [Value.category]) (by first | assumption | exact xup_s _ _ _ | exact xup_o (by omega) (by assumption) | exact xup_o (by omega) (xup_s _ _ _) | exact xup_o (by omega) (xup_o (by omega) (by assumption)) | exact xup_o (by omega) (xup_o (by omega) (xup_s _ _ _)) | exact xup_o (by omega) (xup_o (by omega) (xup_o (by omega) (by assumption)))) (c_Mod_fail (d + 1) w1 hw) (by omega) (by omega) ?_
        rintro M4 ⟨a1, a2⟩
        refine xg_vret (pc := 72) hX hE d_Mod_variable_72 rfl (by omega) (by omega) ?_
        refine ⟨rfl, rfl, ?_, f1.tr a2⟩
        rw [z]
        exact a1
    | succ n ih =>
      intro p M1 hn1 hp1 hp2 hs w1 f1
      obtain ⟨h0, -⟩ := id w1
      have hlt : p < x.length := by omega
      refine xp_aload_0 (pc := 43) hX d_Mod_variable_43 ?_
      refine xi_V (Y2 := Y_Mod_here) (pc := 44) hX [] k_Mod m_Mod_here d_Mod_variable_44 l_Mod_85 rfl rfl (by simp [Value.category]) (by first | assumption | exact xup_s _ _ _ | exact xup_o (by omega) (by assumption) | exact xup_o (by omega) (xup_s _ _ _) | exact xup_o (by omega) (xup_o (by omega) (by assumption)) | exact xup_o (by omega) (xup_o (by omega) (xup_s _ _ _)) | exact xup_o (by omega) (xup_o (by omega) (xup_o (by omega) (by assumption)))) (c_Mod_here (d + 1) w1 (by omega)) (by omega) (by omega) ?_
      rintro y M2 ⟨rfl, rfl⟩
      refine xi_S (Y2 := Y_Mod_isSymbol) (pc := 47) hX [_] m_Mod_isSymbol d_Mod_variable_47 l_Mod_89 rfl rfl (by simp [Value.category]) (c_Mod_isSymbol d x[p]?) (by omega) (by omega) ?_
      rintro y M3 ⟨rfl, rfl⟩
      rw [List.getElem?_eq_getElem hlt]
      refine xg_if_eq (pc := 50) hX 86 d_Mod_variable_50 (by decide) (fun z => ?_) (fun z => ?_)
      · have z : sym x[p] = false := bI_eq0.mp z
        rw [hs, sc_hit (by omega) (by omega) z] at hE
        refine xg_vret (pc := 86) hX hE d_Mod_variable_86 rfl (by omega) (by omega) ?_
        refine ⟨rfl, rfl, ?_, f1⟩
        rw [List.getElem?_eq_getElem hlt, show osym (some x[p]) = false from z]
        exact w1
      · have z : sym x[p] = true := bI_ne0.mp z
        refine xp_aload_0 (pc := 53) hX d_Mod_variable_53 ?_
        refine xg_get (pc := 54) hX (j := 25) k_Mod d_Mod_variable_54 l_Mod_78 (by decide) (by first | assumption | exact xup_s _ _ _ | exact xup_o (by omega) (by assumption) | exact xup_o (by omega) (xup_s _ _ _) | exact xup_o (by omega) (xup_o (by omega) (by assumption)) | exact xup_o (by omega) (xup_o (by omega) (xup_s _ _ _)) | exact xup_o (by omega) (xup_o (by omega) (xup_o (by omega) (by assumption)))) (by rfl) ?_
        refine xp_iload_1 (pc := 57) hX d_Mod_variable_57 ?_
        first | refine xn_isub (pc := 58) hX d_Mod_variable_58 (by omega) ?_ | refine xg_isub (pc := 58) hX d_Mod_variable_58 ?_
        refine xg_bipush (pc := 59) hX (nI 30) d_Mod_variable_59 ci_bipush_30 ?_
        refine xn_icmp_ne (pc := 61) hX 73 d_Mod_variable_61 (by decide) (by omega) (by omega) (fun z1 => ?_) (fun z1 => absurd z1 (by omega))
        refine xp_aload_0 (pc := 73) hX d_Mod_variable_73 ?_
        refine xg_dup (pc := 74) hX d_Mod_variable_74 rfl ?_
        refine xg_get (pc := 75) hX (j := 25) k_Mod d_Mod_variable_75 l_Mod_78 (by decide) (by first | assumption | exact xup_s _ _ _ | exact xup_o (by omega) (by assumption) | exact xup_o (by omega) (xup_s _ _ _) | exact xup_o (by omega) (xup_o (by omega) (by assumption)) | exact xup_o (by omega) (xup_o (by omega) (xup_s _ _ _)) | exact xup_o (by omega) (xup_o (by omega) (xup_o (by omega) (by assumption)))) (by rfl) ?_
        refine xg_iconst (pc := 78) hX (nI 1) d_Mod_variable_78 ci_iconst_1 ?_
        first | refine xn_iadd (pc := 79) hX d_Mod_variable_79 ?_ | refine xg_iadd (pc := 79) hX d_Mod_variable_79 ?_
        refine xg_put (pc := 80) hX (j := 25) k_Mod d_Mod_variable_80 l_Mod_78 (by decide) rfl (by first | assumption | exact xup_s _ _ _ | exact xup_o (by omega) (by assumption) | exact xup_o (by omega) (xup_s _ _ _) | exact xup_o (by omega) (xup_o (by omega) (by assumption)) | exact xup_o (by omega) (xup_o (by omega) (xup_s _ _ _)) | exact xup_o (by omega) (xup_o (by omega) (xup_o (by omega) (by assumption)))) (Nat.le_of_ble_eq_true rfl) rfl rfl (by simp only [List.set_cons_zero, List.set_cons_succ]; exact rfl) ?_
        refine xg_goto (pc := 83) hX 43 d_Mod_variable_83 (by decide) ?_
        exact ih (p + 1) _ (by omega) (by omega) (by omega) (by rw [hs, sc_miss (by omega) (by omega) z]) w1.up (f1.up' _ (by omega) (by omega))
  refine xp_aload_0 (pc := 0) hX d_Mod_variable_0 ?_
  refine xg_get (pc := 1) hX (j := 25) k_Mod d_Mod_variable_1 l_Mod_78 (by decide) (by first | assumption | exact xup_s _ _ _ | exact xup_o (by omega) (by assumption) | exact xup_o (by omega) (xup_s _ _ _) | exact xup_o (by omega) (xup_o (by omega) (by assumption)) | exact xup_o (by omega) (xup_o (by omega) (xup_s _ _ _)) | exact xup_o (by omega) (xup_o (by omega) (xup_o (by omega) (by assumption)))) (by rfl) ?_
  refine xp_istore_1 (pc := 4) hX d_Mod_variable_4 (by decide) ?_
  refine xp_aload_0 (pc := 5) hX d_Mod_variable_5 ?_
  refine xi_V (Y2 := Y_Mod_here) (pc := 6) hX [] k_Mod m_Mod_here d_Mod_variable_6 l_Mod_85 rfl rfl (by simp [Value.category]) (by first | assumption | exact xup_s _ _ _ | exact xup_o (by omega) (by assumption) | exact xup_o (by omega) (xup_s _ _ _) | exact xup_o (by omega) (xup_o (by omega) (by assumption)) | exact xup_o (by omega) (xup_o (by omega) (xup_s _ _ _)) | exact xup_o (by omega) (xup_o (by omega) (xup_o (by omega) (by assumption)))) (c_Mod_here (d + 1) h (by omega)) (by omega) (by omega) ?_
  rintro y M2 ⟨rfl, rfl⟩
  refine xi_S (Y2 := Y_Mod_isSymbol) (pc := 9) hX [_] m_Mod_isSymbol d_Mod_variable_9 l_Mod_89 rfl rfl (by simp [Value.category]) (c_Mod_isSymbol d x[nx]?) (by omega) (by omega) ?_
  rintro y M3 ⟨rfl, rfl⟩
  refine xg_if_eq (pc := 12) hX 34 d_Mod_variable_12 (by decide) (fun z => k34 (by unfold vOK; rw [bI_eq0.mp z]; rfl)) (fun z => ?_)
  have z1 := bI_ne0.mp z
  refine xp_aload_0 (pc := 15) hX d_Mod_variable_15 ?_
  refine xi_V (Y2 := Y_Mod_here) (pc := 16) hX [] k_Mod m_Mod_here d_Mod_variable_16 l_Mod_85 rfl rfl (by simp [Value.category]) (by first | assumption | exact xup_s _ _ _ | exact xup_o (by omega) (by assumption) | exact xup_o (by omega) (xup_s _ _ _) | exact xup_o (by omega) (xup_o (by omega) (by assumption)) | exact xup_o (by omega) (xup_o (by omega) (xup_s _ _ _)) | exact xup_o (by omega) (xup_o (by omega) (xup_o (by omega) (by assumption)))) (c_Mod_here (d + 1) h (by omega)) (by omega) (by omega) ?_
  rintro y M4 ⟨rfl, rfl⟩
  refine xi_S (Y2 := Y_Mod_isDigit) (pc := 19) hX [_] m_Mod_isDigit d_Mod_variable_19 l_Mod_81 rfl rfl (by simp [Value.category]) (c_Mod_isDigit (d + 1) x[nx]?) (by omega) (by omega) ?_
  rintro y M5 ⟨rfl, rfl⟩
  refine xg_if_ne (pc := 22) hX 34 d_Mod_variable_22 (by decide) (fun z => k34 (by unfold vOK; rw [bI_ne0.mp z]; simp)) (fun z => ?_)
  have z2 := bI_eq0.mp z
  refine xp_aload_0 (pc := 25) hX d_Mod_variable_25 ?_
  refine xi_V (Y2 := Y_Mod_here) (pc := 26) hX [] k_Mod m_Mod_here d_Mod_variable_26 l_Mod_85 rfl rfl (by simp [Value.category]) (by first | assumption | exact xup_s _ _ _ | exact xup_o (by omega) (by assumption) | exact xup_o (by omega) (xup_s _ _ _) | exact xup_o (by omega) (xup_o (by omega) (by assumption)) | exact xup_o (by omega) (xup_o (by omega) (xup_s _ _ _)) | exact xup_o (by omega) (xup_o (by omega) (xup_o (by omega) (by assumption)))) (c_Mod_here (d + 1) h (by omega)) (by omega) (by omega) ?_
  rintro y M6 ⟨rfl, rfl⟩
  refine xg_bipush (pc := 29) hX (nI 46) d_Mod_variable_29 ci_bipush_46 ?_
  refine xg_icmp_ne (pc := 31) hX 43 d_Mod_variable_31 (by decide) (fun z => ?_) (fun z => ?_)
  · have z3 : ¬ x[nx]? = some 46 := fun q => z ((oI_eq (by decide)).mpr q)
    exact k43 (by unfold vOK; rw [z1, z2]; simp [z3]) _ nx M6 rfl (by omega) (by omega) rfl h (FrO.rf _ _)
  · have z3 := (oI_eq (by decide)).mp z
    refine k34 ?_
    rw [z3]
    rfl
set_option maxHeartbeats 4000000 in
set_option maxRecDepth 100000 in
theorem c_Mod_blanks (d : Nat) {M : xH} {sz O : Nat} (h : Wd M O t x out full es pool se sub fd fr bg wr nx kd fi la va) (hn : nx ≤ x.length) : xC (d + 1) 0 0 Y_Mod_blanks [.ref O] M sz (qv sz (fun M' => Wd M' O t x out full es pool se sub fd fr bg wr (sc bl x nx x.length) kd fi la va ∧ FrO M M' O)) := by
  refine xC_of (by decide) (Nat.le_of_ble_eq_true rfl) (by simp [Value.category]) (vs := [some (.ref O)]) rfl (fun K hX hE => ?_)
  have hx6 := h.xl.2.1
  have k0 : ∀ (n p : Nat) (M1 : xH), x.length - p = n → p ≤ x.length → sc bl x nx x.length = sc bl x p x.length → Wd M1 O t x out full es pool se sub fd fr bg wr p kd fi la va → FrO M M1 O → xG K 0 [some (.ref O)] [] M1 sz 0 0 := by
    intro n
    induction n with
    | zero =>
      intro p M1 hn1 hp hs w1 f1
      obtain ⟨h0, -⟩ := id w1
      have hpe : p = x.length := by omega
      rw [hs, hpe, sc_end] at hE
      refine xp_aload_0 (pc := 0) hX d_Mod_blanks_0 ?_
      refine xi_V (Y2 := Y_Mod_here) (pc := 1) hX [] k_Mod m_Mod_here d_Mod_blanks_1 l_Mod_85 rfl rfl (by simp [Value.category]) (by first | assumption | exact xup_s _ _ _ | exact xup_o (by omega) (by assumption) | exact xup_o (by omega) (xup_s _ _ _) | exact xup_o (by omega) (xup_o (by omega) (by assumption)) | exact xup_o (by omega) (xup_o (by omega) (xup_s _ _ _)) | exact xup_o (by omega) (xup_o (by omega) (xup_o (by omega) (by assumption)))) (c_Mod_here d w1 (by omega)) (by omega) (by omega) ?_
      rintro y M2 ⟨rfl, rfl⟩
      rw [List.getElem?_eq_none (by omega)]
      refine xg_bipush (pc := 4) hX (nI 32) d_Mod_blanks_4 ci_bipush_32 ?_
      refine xg_icmp_ne (pc := 6) hX 22 d_Mod_blanks_6 (by decide) (fun _ => ?_) (fun z => absurd z (by decide))
      refine xg_vret (pc := 22) hX hE d_Mod_blanks_22 rfl (by omega) (by omega) ?_
      exact ⟨rfl, rfl, by rw [← hpe]; exact w1, f1⟩
    | succ n ih =>
      intro p M1 hn1 hp hs w1 f1
      obtain ⟨h0, -⟩ := id w1
      have hlt : p < x.length := by omega
      refine xp_aload_0 (pc := 0) hX d_Mod_blanks_0 ?_
      refine xi_V (Y2 := Y_Mod_here) (pc := 1) hX [] k_Mod m_Mod_here d_Mod_blanks_1 l_Mod_85 rfl rfl (by simp [Value.category]) (by first | assumption | exact xup_s _ _ _ | exact xup_o (by omega) (by assumption) | exact xup_o (by omega) (xup_s _ _ _) | exact xup_o (by omega) (xup_o (by omega) (by assumption)) | exact xup_o (by omega) (xup_o (by omega) (xup_s _ _ _)) | exact xup_o (by omega) (xup_o (by omega) (xup_o (by omega) (by assumption)))) (c_Mod_here d w1 (by omega)) (by omega) (by omega) ?_
      rintro y M2 ⟨rfl, rfl⟩
      rw [List.getElem?_eq_getElem hlt]
      refine xg_bipush (pc := 4) hX (nI 32) d_Mod_blanks_4 ci_bipush_32 ?_
      refine xg_icmp_ne (pc := 6) hX 22 d_Mod_blanks_6 (by decide) (fun z => ?_) (fun z => ?_)
      · have z1 : bl x[p] = false := by
          unfold bl
          simp only [beq_eq_false_iff_ne, ne_eq]
          intro q
          exact z ((oI_eq (by decide)).mpr (by rw [q]; rfl))
        rw [hs, sc_hit hlt (by omega) z1] at hE
        refine xg_vret (pc := 22) hX hE d_Mod_blanks_22 rfl (by omega) (by omega) ?_
        exact ⟨rfl, rfl, w1, f1⟩
      · have z1 : bl x[p] = true := by
          have := (oI_eq (by decide)).mp z
          unfold bl
          rw [Option.some.inj this]
          decide
        refine xp_aload_0 (pc := 9) hX d_Mod_blanks_9 ?_
        refine xg_dup (pc := 10) hX d_Mod_blanks_10 rfl ?_
        refine xg_get (pc := 11) hX (j := 25) k_Mod d_Mod_blanks_11 l_Mod_78 (by decide) (by first | assumption | exact xup_s _ _ _ | exact xup_o (by omega) (by assumption) | exact xup_o (by omega) (xup_s _ _ _) | exact xup_o (by omega) (xup_o (by omega) (by assumption)) | exact xup_o (by omega) (xup_o (by omega) (xup_s _ _ _)) | exact xup_o (by omega) (xup_o (by omega) (xup_o (by omega) (by assumption)))) (by rfl) ?_
        refine xg_iconst (pc := 14) hX (nI 1) d_Mod_blanks_14 ci_iconst_1 ?_
        first | refine xn_iadd (pc := 15) hX d_Mod_blanks_15 ?_ | refine xg_iadd (pc := 15) hX d_Mod_blanks_15 ?_
        refine xg_put (pc := 16) hX (j := 25) k_Mod d_Mod_blanks_16 l_Mod_78 (by decide) rfl (by first | assumption | exact xup_s _ _ _ | exact xup_o (by omega) (by assumption) | exact xup_o (by omega) (xup_s _ _ _) | exact xup_o (by omega) (xup_o (by omega) (by assumption)) | exact xup_o (by omega) (xup_o (by omega) (xup_s _ _ _)) | exact xup_o (by omega) (xup_o (by omega) (xup_o (by omega) (by assumption)))) (Nat.le_of_ble_eq_true rfl) rfl rfl (by simp only [List.set_cons_zero, List.set_cons_succ]; exact rfl) ?_
        refine xg_goto (pc := 19) hX 0 d_Mod_blanks_19 (by decide) ?_
        exact ih (p + 1) _ (by omega) (by omega) (by rw [hs, sc_miss hlt (by omega) z1]) w1.up (f1.up' _ (by omega) (by omega))
  exact k0 _ nx M rfl hn rfl h (FrO.rf _ _)
set_option maxHeartbeats 4000000 in
set_option maxRecDepth 100000 in
theorem c_Mod_held (d : Nat) {M : xH} {sz O : Nat} (y : Int32) (h : Wd M O t x out full es pool se sub fd fr bg wr nx kd fi la va) : xC d 0 0 Y_Mod_held [.ref O, .int y] M sz (qi sz (fun z M' => z = nI (keepIn (sub.length + 1) y) ∧ M' = M)) := by
  refine xC_of (by decide) (Nat.le_of_ble_eq_true rfl) (by simp [Value.category]) (vs := [some (.ref O), some (.int y)]) rfl (fun K hX hE => ?_)
  obtain ⟨h0, -⟩ := id h
  have hsl := h.xl.2.2.2.2.2.2.1
  have e1 : (nI 1).toInt = 1 := nI_toInt (by omega)
  have e2 : (nI (sub.length + 1)).toInt = (sub.length + 1 : Nat) := nI_toInt (by omega)
  refine xp_iload_1 (pc := 0) hX d_Mod_held_0 ?_
  refine xg_iconst (pc := 1) hX (nI 1) d_Mod_held_1 ci_iconst_1 ?_
  refine xg_icmp_ge (pc := 2) hX 9 d_Mod_held_2 (by decide) (fun z => ?_) (fun z => ?_)
  · rw [Int32.le_iff_toInt_le, e1] at z
    refine xp_iload_1 (pc := 9) hX d_Mod_held_9 ?_
    refine xp_aload_0 (pc := 10) hX d_Mod_held_10 ?_
    refine xg_get (pc := 11) hX (j := 20) k_Mod d_Mod_held_11 l_Mod_173 (by decide) (by first | assumption | exact xup_s _ _ _ | exact xup_o (by omega) (by assumption) | exact xup_o (by omega) (xup_s _ _ _) | exact xup_o (by omega) (xup_o (by omega) (by assumption)) | exact xup_o (by omega) (xup_o (by omega) (xup_s _ _ _)) | exact xup_o (by omega) (xup_o (by omega) (xup_o (by omega) (by assumption)))) (by rfl) ?_
    refine xg_iconst (pc := 14) hX (nI 1) d_Mod_held_14 ci_iconst_1 ?_
    first | refine xn_iadd (pc := 15) hX d_Mod_held_15 ?_ | refine xg_iadd (pc := 15) hX d_Mod_held_15 ?_
    refine xg_icmp_le (pc := 16) hX 28 d_Mod_held_16 (by decide) (fun z1 => ?_) (fun z1 => ?_)
    · rw [Int32.le_iff_toInt_le, e2] at z1
      refine xp_iload_1 (pc := 28) hX d_Mod_held_28 ?_
      refine xg_iret (pc := 29) hX hE d_Mod_held_29 rfl rfl (by omega) (by omega) ?_
      refine ⟨rfl, _, rfl, ?_, rfl⟩
      unfold keepIn
      rw [if_neg (by omega), if_neg (by omega)]
      apply Int32.toInt_inj.mp
      rw [nI_toInt (by omega)]
      omega
    · rw [Int32.le_iff_toInt_le, e2] at z1
      refine xp_aload_0 (pc := 19) hX d_Mod_held_19 ?_
      refine xg_get (pc := 20) hX (j := 20) k_Mod d_Mod_held_20 l_Mod_173 (by decide) (by first | assumption | exact xup_s _ _ _ | exact xup_o (by omega) (by assumption) | exact xup_o (by omega) (xup_s _ _ _) | exact xup_o (by omega) (xup_o (by omega) (by assumption)) | exact xup_o (by omega) (xup_o (by omega) (xup_s _ _ _)) | exact xup_o (by omega) (xup_o (by omega) (xup_o (by omega) (by assumption)))) (by rfl) ?_
      refine xg_iconst (pc := 23) hX (nI 1) d_Mod_held_23 ci_iconst_1 ?_
      first | refine xn_iadd (pc := 24) hX d_Mod_held_24 ?_ | refine xg_iadd (pc := 24) hX d_Mod_held_24 ?_
      refine xg_goto (pc := 25) hX 29 d_Mod_held_25 (by decide) ?_
      refine xg_iret (pc := 29) hX hE d_Mod_held_29 rfl rfl (by omega) (by omega) ?_
      refine ⟨rfl, _, rfl, ?_, rfl⟩
      unfold keepIn
      rw [if_neg (by omega), if_pos (by omega)]
  · rw [Int32.le_iff_toInt_le, e1] at z
    refine xg_iconst (pc := 5) hX (nI 1) d_Mod_held_5 ci_iconst_1 ?_
    refine xg_goto (pc := 6) hX 29 d_Mod_held_6 (by decide) ?_
    refine xg_iret (pc := 29) hX hE d_Mod_held_29 rfl rfl (by omega) (by omega) ?_
    refine ⟨rfl, _, rfl, ?_, rfl⟩
    unfold keepIn
    rw [if_pos (by omega)]
set_option maxHeartbeats 4000000 in
set_option maxRecDepth 100000 in
theorem b_count (d : Nat) {M : xH} {sz O : Nat} {S : xS} (y : Int32) (h : MW M O S) (hI : Inv S) : xC d 0 0 Y_Mod_count [.ref O, .int y] M sz (qi sz (fun z M' => z = (sCount y S).1 ∧ MW M' O (sCount y S).2 ∧ FrO M M' O)) := by
  obtain ⟨t, out, es, dp, se, sub, fr, bg⟩ := S
  obtain ⟨hdp, x, full, fd, wr, nx, kd, fi, la, va, hw⟩ := id h
  refine xC_of (by decide) (Nat.le_of_ble_eq_true rfl) (by simp [Value.category]) (vs := [some (.ref O), some (.int y)]) rfl (fun K hX hE => ?_)
  obtain ⟨h0, -, -, -, -, -, ⟨g1, fs, fz, fc, g2, g3, g4, g5⟩, -⟩ := id hw
  obtain ⟨-, i2, -⟩ := id hI
  have fin : ∀ z, (sCount y (t, out, es, dp, se, sub, fr, bg)).1 = z → xEd 0 0 M sz (qi sz (fun y' M' => y' = z ∧ MW M' O (t, out, es, dp, se, sub, fr, bg) ∧ FrO M M' O)) K := by
    intro z hz
    rw [← hz]
    exact hE
  refine xp_iload_1 (pc := 0) hX d_Mod_count_0 ?_
  by_cases z0 : y = nI 0
  · subst z0
    replace hE := fin _ rfl
    refine xg_tableIn (pc := 1) hX 44 d_Mod_count_1 (by decide) (by decide) (off := 43) (by decide) (by decide) ?_
    refine xp_aload_0 (pc := 44) hX d_Mod_count_44 ?_
    refine xg_get (pc := 45) hX (j := 13) k_Mod d_Mod_count_45 l_Mod_105 (by decide) (by first | assumption | exact xup_s _ _ _ | exact xup_o (by omega) (by assumption) | exact xup_o (by omega) (xup_s _ _ _) | exact xup_o (by omega) (xup_o (by omega) (by assumption)) | exact xup_o (by omega) (xup_o (by omega) (xup_s _ _ _)) | exact xup_o (by omega) (xup_o (by omega) (xup_o (by omega) (by assumption)))) (by rfl) ?_
    refine xg_iret (pc := 48) hX hE d_Mod_count_48 rfl rfl (by omega) (by omega) ?_
    exact ⟨rfl, _, rfl, rfl, h, FrO.rf _ _⟩
  by_cases z1 : y = nI 1
  · subst z1
    replace hE := fin _ rfl
    refine xg_tableIn (pc := 1) hX 49 d_Mod_count_1 (by decide) (by decide) (off := 48) (by decide) (by decide) ?_
    refine xp_aload_0 (pc := 49) hX d_Mod_count_49 ?_
    refine xg_get (pc := 50) hX (j := 17) k_Mod d_Mod_count_50 l_Mod_108 (by decide) (by first | assumption | exact xup_s _ _ _ | exact xup_o (by omega) (by assumption) | exact xup_o (by omega) (xup_s _ _ _) | exact xup_o (by omega) (xup_o (by omega) (by assumption)) | exact xup_o (by omega) (xup_o (by omega) (xup_s _ _ _)) | exact xup_o (by omega) (xup_o (by omega) (xup_o (by omega) (by assumption)))) (by rfl) ?_
    refine xg_iconst (pc := 53) hX (nI 1) d_Mod_count_53 ci_iconst_1 ?_
    first | refine xn_iadd (pc := 54) hX d_Mod_count_54 ?_ | refine xg_iadd (pc := 54) hX d_Mod_count_54 ?_
    refine xg_iret (pc := 55) hX hE d_Mod_count_55 rfl rfl (by omega) (by omega) ?_
    refine ⟨rfl, _, rfl, ?_, h, FrO.rf _ _⟩
    rw [show dp - 1 + 1 = dp by omega]
    rfl
  by_cases z2 : y = nI 2
  · subst z2
    replace hE := fin _ rfl
    refine xg_tableIn (pc := 1) hX 56 d_Mod_count_1 (by decide) (by decide) (off := 55) (by decide) (by decide) ?_
    refine xp_aload_0 (pc := 56) hX d_Mod_count_56 ?_
    refine xg_get (pc := 57) hX (j := 17) k_Mod d_Mod_count_57 l_Mod_108 (by decide) (by first | assumption | exact xup_s _ _ _ | exact xup_o (by omega) (by assumption) | exact xup_o (by omega) (xup_s _ _ _) | exact xup_o (by omega) (xup_o (by omega) (by assumption)) | exact xup_o (by omega) (xup_o (by omega) (xup_s _ _ _)) | exact xup_o (by omega) (xup_o (by omega) (xup_o (by omega) (by assumption)))) (by rfl) ?_
    refine xn_if_le (pc := 60) hX 75 d_Mod_count_60 (by decide) (by omega) (fun z => ?_) (fun z => ?_)
    · refine xg_iconst (pc := 75) hX (nI 0) d_Mod_count_75 ci_iconst_0 ?_
      refine xg_iret (pc := 76) hX hE d_Mod_count_76 rfl rfl (by omega) (by omega) ?_
      refine ⟨rfl, _, rfl, ?_, h, FrO.rf _ _⟩
      show nI 0 = nI (cnt se (dp - 1))
      congr 1
      unfold cnt
      rw [z]
      symm
      rw [List.length_eq_zero_iff, List.filter_eq_nil_iff]
      intro s hs
      have := (i2 s hs).1
      simp only [beq_iff_eq]
      omega
    · refine xp_aload_0 (pc := 63) hX d_Mod_count_63 ?_
      refine xg_get (pc := 64) hX (j := 16) k_Mod d_Mod_count_64 l_Mod_43 (by decide) (by first | assumption | exact xup_s _ _ _ | exact xup_o (by omega) (by assumption) | exact xup_o (by omega) (xup_s _ _ _) | exact xup_o (by omega) (xup_o (by omega) (by assumption)) | exact xup_o (by omega) (xup_o (by omega) (xup_s _ _ _)) | exact xup_o (by omega) (xup_o (by omega) (xup_o (by omega) (by assumption)))) (by rfl) ?_
      refine xp_aload_0 (pc := 67) hX d_Mod_count_67 ?_
      refine xg_get (pc := 68) hX (j := 17) k_Mod d_Mod_count_68 l_Mod_108 (by decide) (by first | assumption | exact xup_s _ _ _ | exact xup_o (by omega) (by assumption) | exact xup_o (by omega) (xup_s _ _ _) | exact xup_o (by omega) (xup_o (by omega) (by assumption)) | exact xup_o (by omega) (xup_o (by omega) (xup_s _ _ _)) | exact xup_o (by omega) (xup_o (by omega) (xup_o (by omega) (by assumption)))) (by rfl) ?_
      refine xn_iald (pc := 71) hX d_Mod_count_71 rfl (by first | assumption | exact xup_s _ _ _ | exact xup_o (by omega) (by assumption) | exact xup_o (by omega) (xup_s _ _ _) | exact xup_o (by omega) (xup_o (by omega) (by assumption)) | exact xup_o (by omega) (xup_o (by omega) (xup_s _ _ _)) | exact xup_o (by omega) (xup_o (by omega) (xup_o (by omega) (by assumption)))) (by omega) (by omega) ?_
      refine xg_goto (pc := 72) hX 76 d_Mod_count_72 (by decide) ?_
      refine xg_iret (pc := 76) hX hE d_Mod_count_76 rfl rfl (by omega) (by omega) ?_
      refine ⟨rfl, _, rfl, ?_, h, FrO.rf _ _⟩
      show fc (dp - 1) = nI (cnt se (dp - 1))
      rw [(g5 (dp - 1) (by omega) (by omega)).2.1]
      congr 1
      simp [sOf, cnt]
  by_cases z3 : y = nI 3
  · subst z3
    replace hE := fin _ rfl
    refine xg_tableIn (pc := 1) hX 77 d_Mod_count_1 (by decide) (by decide) (off := 76) (by decide) (by decide) ?_
    refine xp_aload_0 (pc := 77) hX d_Mod_count_77 ?_
    refine xg_get (pc := 78) hX (j := 20) k_Mod d_Mod_count_78 l_Mod_173 (by decide) (by first | assumption | exact xup_s _ _ _ | exact xup_o (by omega) (by assumption) | exact xup_o (by omega) (xup_s _ _ _) | exact xup_o (by omega) (xup_o (by omega) (by assumption)) | exact xup_o (by omega) (xup_o (by omega) (xup_s _ _ _)) | exact xup_o (by omega) (xup_o (by omega) (xup_o (by omega) (by assumption)))) (by rfl) ?_
    refine xg_iret (pc := 81) hX hE d_Mod_count_81 rfl rfl (by omega) (by omega) ?_
    exact ⟨rfl, _, rfl, rfl, h, FrO.rf _ _⟩
  by_cases z4 : y = nI 4
  · subst z4
    replace hE := fin _ rfl
    refine xg_tableIn (pc := 1) hX 82 d_Mod_count_1 (by decide) (by decide) (off := 81) (by decide) (by decide) ?_
    refine xp_aload_0 (pc := 82) hX d_Mod_count_82 ?_
    refine xg_get (pc := 83) hX (j := 6) k_Mod d_Mod_count_83 l_Mod_69 (by decide) (by first | assumption | exact xup_s _ _ _ | exact xup_o (by omega) (by assumption) | exact xup_o (by omega) (xup_s _ _ _) | exact xup_o (by omega) (xup_o (by omega) (by assumption)) | exact xup_o (by omega) (xup_o (by omega) (xup_s _ _ _)) | exact xup_o (by omega) (xup_o (by omega) (xup_o (by omega) (by assumption)))) (by rfl) ?_
    refine xg_iret (pc := 86) hX hE d_Mod_count_86 rfl rfl (by omega) (by omega) ?_
    exact ⟨rfl, _, rfl, rfl, h, FrO.rf _ _⟩
  by_cases z5 : y = nI 5
  · subst z5
    replace hE := fin _ rfl
    refine xg_tableIn (pc := 1) hX 87 d_Mod_count_1 (by decide) (by decide) (off := 86) (by decide) (by decide) ?_
    refine xp_aload_0 (pc := 87) hX d_Mod_count_87 ?_
    refine xg_get (pc := 88) hX (j := 22) k_Mod d_Mod_count_88 l_Mod_52 (by decide) (by first | assumption | exact xup_s _ _ _ | exact xup_o (by omega) (by assumption) | exact xup_o (by omega) (xup_s _ _ _) | exact xup_o (by omega) (xup_o (by omega) (by assumption)) | exact xup_o (by omega) (xup_o (by omega) (xup_s _ _ _)) | exact xup_o (by omega) (xup_o (by omega) (xup_o (by omega) (by assumption)))) (by rfl) ?_
    refine xg_iret (pc := 91) hX hE d_Mod_count_91 rfl rfl (by omega) (by omega) ?_
    exact ⟨rfl, _, rfl, rfl, h, FrO.rf _ _⟩
  by_cases z6 : y = nI 6
  · subst z6
    replace hE := fin _ rfl
    refine xg_tableIn (pc := 1) hX 92 d_Mod_count_1 (by decide) (by decide) (off := 91) (by decide) (by decide) ?_
    refine xp_aload_0 (pc := 92) hX d_Mod_count_92 ?_
    refine xg_get (pc := 93) hX (j := 23) k_Mod d_Mod_count_93 l_Mod_56 (by decide) (by first | assumption | exact xup_s _ _ _ | exact xup_o (by omega) (by assumption) | exact xup_o (by omega) (xup_s _ _ _) | exact xup_o (by omega) (xup_o (by omega) (by assumption)) | exact xup_o (by omega) (xup_o (by omega) (xup_s _ _ _)) | exact xup_o (by omega) (xup_o (by omega) (xup_o (by omega) (by assumption)))) (by rfl) ?_
    refine xg_iret (pc := 96) hX hE d_Mod_count_96 rfl rfl (by omega) (by omega) ?_
    exact ⟨rfl, _, rfl, rfl, h, FrO.rf _ _⟩
  have hne : ∀ k : Nat, k ≤ 6 → y.toInt ≠ k := by
    intro k hk hx
    have hx2 : y = nI k := by
      rw [← Int32.toInt_inj, hx]
      exact (nI_toInt (by omega)).symm
    rcases (show k = 0 ∨ k = 1 ∨ k = 2 ∨ k = 3 ∨ k = 4 ∨ k = 5 ∨ k = 6 by omega) with rfl | rfl | rfl | rfl | rfl | rfl | rfl <;> contradiction
  have hS : (sCount y (t, out, es, dp, se, sub, fr, bg)).1 = -1 := by
    unfold sCount
    dsimp only
    rw [if_neg z0, if_neg z1, if_neg z2, if_neg z3, if_neg z4, if_neg z5, if_neg z6]
  replace hE := fin _ hS
  refine xg_tableOut (pc := 1) hX 97 d_Mod_count_1 (by
    have := hne 0 (by omega)
    have := hne 1 (by omega)
    have := hne 2 (by omega)
    have := hne 3 (by omega)
    have := hne 4 (by omega)
    have := hne 5 (by omega)
    have := hne 6 (by omega)
    omega) (by decide) ?_
  refine xg_iconst (pc := 97) hX (-1) d_Mod_count_97 ci_iconst_m1 ?_
  refine xg_iret (pc := 98) hX hE d_Mod_count_98 rfl rfl (by omega) (by omega) ?_
  exact ⟨rfl, _, rfl, rfl, h, FrO.rf _ _⟩
end XM4
