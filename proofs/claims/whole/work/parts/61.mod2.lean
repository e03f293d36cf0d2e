/-! the reference: its small functions, the tape -/
section XM2
variable {t x out full : List UInt8} {es : List xEn} {pool : Nat} {se : List xSe} {sub fd : List UInt8} {fr bg : Nat} {wr : Option Nat} {nx kd fi la va : Nat}
set_option maxHeartbeats 4000000 in
set_option maxRecDepth 100000 in
theorem c_Mod_isDigit (d : Nat) {M : xH} {sz : Nat} (o : Option UInt8) : xC d 0 0 Y_Mod_isDigit [.int (oI o)] M sz (qi sz (fun x M' => x = bI (odig o) ∧ M' = M)) := by
  refine xC_of (by decide) (Nat.le_of_ble_eq_true rfl) (by simp [Value.category]) (vs := [some (.int (oI o))]) rfl (fun K hX hE => ?_)
  have k17 : ∀ v : Bool, odig o = v → xG K 17 [some (.int (oI o))] [.int (bI v)] M sz 0 0 := by
    intro v hv
    refine xg_iret (pc := 17) hX hE d_Mod_isDigit_17 rfl (by cases v <;> rfl) (by omega) (by omega) ?_
    exact ⟨rfl, _, rfl, by rw [hv], rfl⟩
  have k16 : odig o = false → xG K 16 [some (.int (oI o))] [] M sz 0 0 := by
    intro hv
    refine xg_iconst (pc := 16) hX (nI 0) d_Mod_isDigit_16 ci_iconst_0 ?_
    exact k17 false hv
  cases o with
  | none =>
    refine xp_iload_0 (pc := 0) hX d_Mod_isDigit_0 ?_
    refine xg_bipush (pc := 1) hX (nI 48) d_Mod_isDigit_1 ci_bipush_48 ?_
    refine xg_icmp_lt (pc := 3) hX 16 d_Mod_isDigit_3 (by decide) (fun _ => k16 rfl) (fun h => absurd (by decide) h)
  | some b =>
    have hb := by_lt b
    refine xp_iload_0 (pc := 0) hX d_Mod_isDigit_0 ?_
    refine xg_bipush (pc := 1) hX (nI 48) d_Mod_isDigit_1 ci_bipush_48 ?_
    first | refine xn_icmp_lt (pc := 3) hX 16 d_Mod_isDigit_3 (by decide) (by omega) (by omega) (fun h3 => ?_) (fun h3 => ?_) | refine xg_icmp_lt (pc := 3) hX 16 d_Mod_isDigit_3 (by decide) (fun h3 => ?_) (fun h3 => ?_)
    · exact k16 (by simp [odig, dig]; omega)
    · refine xp_iload_0 (pc := 6) hX d_Mod_isDigit_6 ?_
      refine xg_bipush (pc := 7) hX (nI 57) d_Mod_isDigit_7 ci_bipush_57 ?_
      first | refine xn_icmp_gt (pc := 9) hX 16 d_Mod_isDigit_9 (by decide) (by omega) (by omega) (fun h9 => ?_) (fun h9 => ?_) | refine xg_icmp_gt (pc := 9) hX 16 d_Mod_isDigit_9 (by decide) (fun h9 => ?_) (fun h9 => ?_)
      · exact k16 (by simp [odig, dig]; omega)
      · refine xg_iconst (pc := 12) hX (nI 1) d_Mod_isDigit_12 ci_iconst_1 ?_
        refine xg_goto (pc := 13) hX 17 d_Mod_isDigit_13 (by decide) ?_
        exact k17 true (by simp [odig, dig]; omega)
set_option maxHeartbeats 4000000 in
set_option maxRecDepth 100000 in
theorem c_Mod_capital (d : Nat) {M : xH} {sz : Nat} (b : UInt8) : xC d 0 0 Y_Mod_capital [.int (nI b.toNat)] M sz (qi sz (fun x M' => x = nI (cap b).toNat ∧ M' = M)) := by
  refine xC_of (by decide) (Nat.le_of_ble_eq_true rfl) (by simp [Value.category]) (vs := [some (.int (nI b.toNat))]) rfl (fun K hX hE => ?_)
  have hb := by_lt b
  have k22 : (cap b).toNat = b.toNat → xG K 19 [some (.int (nI b.toNat))] [] M sz 0 0 := by
    intro hv
    refine xp_iload_0 (pc := 19) hX d_Mod_capital_19 ?_
    refine xg_iret (pc := 20) hX hE d_Mod_capital_20 rfl rfl (by omega) (by omega) ?_
    exact ⟨rfl, _, rfl, by rw [hv], rfl⟩
  have hc := cap_toNat b
  refine xp_iload_0 (pc := 0) hX d_Mod_capital_0 ?_
  refine xg_bipush (pc := 1) hX (nI 97) d_Mod_capital_1 ci_bipush_97 ?_
  first | refine xn_icmp_lt (pc := 3) hX 19 d_Mod_capital_3 (by decide) (by omega) (by omega) (fun h3 => ?_) (fun h3 => ?_) | refine xg_icmp_lt (pc := 3) hX 19 d_Mod_capital_3 (by decide) (fun h3 => ?_) (fun h3 => ?_)
  · exact k22 (by rw [hc, if_neg (by omega)])
  · refine xp_iload_0 (pc := 6) hX d_Mod_capital_6 ?_
    refine xg_bipush (pc := 7) hX (nI 122) d_Mod_capital_7 ci_bipush_122 ?_
    first | refine xn_icmp_gt (pc := 9) hX 19 d_Mod_capital_9 (by decide) (by omega) (by omega) (fun h9 => ?_) (fun h9 => ?_) | refine xg_icmp_gt (pc := 9) hX 19 d_Mod_capital_9 (by decide) (fun h9 => ?_) (fun h9 => ?_)
    · exact k22 (by rw [hc, if_neg (by omega)])
    · refine xp_iload_0 (pc := 12) hX d_Mod_capital_12 ?_
      refine xg_bipush (pc := 13) hX (nI 32) d_Mod_capital_13 ci_bipush_32 ?_
      first | refine xn_isub (pc := 15) hX d_Mod_capital_15 (by omega) ?_ | refine xg_isub (pc := 15) hX d_Mod_capital_15 ?_
      refine xg_goto (pc := 16) hX 20 d_Mod_capital_16 (by decide) ?_
      refine xg_iret (pc := 20) hX hE d_Mod_capital_20 rfl rfl (by omega) (by omega) ?_
      exact ⟨rfl, _, rfl, by rw [hc, if_pos (by omega)], rfl⟩
set_option maxHeartbeats 4000000 in
set_option maxRecDepth 100000 in
theorem c_Mod_isSymbol (d : Nat) {M : xH} {sz : Nat} (o : Option UInt8) : xC (d + 1) 0 0 Y_Mod_isSymbol [.int (oI o)] M sz (qi sz (fun x M' => x = bI (osym o) ∧ M' = M)) := by
  refine xC_of (by decide) (Nat.le_of_ble_eq_true rfl) (by simp [Value.category]) (vs := [some (.int (oI o))]) rfl (fun K hX hE => ?_)
  have k60 : ∀ (vs : List (Option Value)) (v : Bool), osym o = v → xG K 60 vs [.int (bI v)] M sz 0 0 := by
    intro vs v hv
    refine xg_iret (pc := 60) hX hE d_Mod_isSymbol_60 rfl (by cases v <;> rfl) (by omega) (by omega) ?_
    exact ⟨rfl, _, rfl, by rw [hv], rfl⟩
  have k55 : ∀ (vs : List (Option Value)), osym o = true → xG K 55 vs [] M sz 0 0 := by
    intro vs hv
    refine xg_iconst (pc := 55) hX (nI 1) d_Mod_isSymbol_55 ci_iconst_1 ?_
    refine xg_goto (pc := 56) hX 60 d_Mod_isSymbol_56 (by decide) ?_
    exact k60 _ true hv
  have k59 : ∀ (vs : List (Option Value)), osym o = false → xG K 59 vs [] M sz 0 0 := by
    intro vs hv
    refine xg_iconst (pc := 59) hX (nI 0) d_Mod_isSymbol_59 ci_iconst_0 ?_
    exact k60 _ false hv
  refine xp_iload_0 (pc := 0) hX d_Mod_isSymbol_0 ?_
  refine xi_S (Y2 := Y_Mod_isDigit) (pc := 1) hX [_] m_Mod_isDigit d_Mod_isSymbol_1 l_Mod_81 rfl rfl (by simp [Value.category]) (c_Mod_isDigit d o) (by omega) (by omega) ?_
  rintro y M' ⟨rfl, rfl⟩
  refine xg_if_ne (pc := 4) hX 55 d_Mod_isSymbol_4 (by decide) (fun h => ?_) (fun h => ?_)
  · have h1 := bI_ne0.mp h
    cases o with
    | none => cases h1
    | some b => exact k55 _ (by simp only [osym, sym]; rw [show dig b = true from h1]; rfl)
  · have h1 := bI_eq0.mp h
    cases o with
    | none =>
      refine xp_iload_0 (pc := 7) hX d_Mod_isSymbol_7 ?_
      refine xg_bipush (pc := 8) hX (nI 65) d_Mod_isSymbol_8 ci_bipush_65 ?_
      refine xg_icmp_lt (pc := 10) hX 19 d_Mod_isSymbol_10 (by decide) (fun _ => ?_) (fun h => absurd (by decide) h)
      refine xp_iload_0 (pc := 19) hX d_Mod_isSymbol_19 ?_
      refine xg_bipush (pc := 20) hX (nI 97) d_Mod_isSymbol_20 ci_bipush_97 ?_
      refine xg_icmp_lt (pc := 22) hX 31 d_Mod_isSymbol_22 (by decide) (fun _ => ?_) (fun h => absurd (by decide) h)
      refine xp_iload_0 (pc := 31) hX d_Mod_isSymbol_31 ?_
      refine xg_bipush (pc := 32) hX (nI 46) d_Mod_isSymbol_32 ci_bipush_46 ?_
      refine xg_icmp_eq (pc := 34) hX 55 d_Mod_isSymbol_34 (by decide) (fun h => absurd h (by decide)) (fun _ => ?_)
      refine xp_iload_0 (pc := 37) hX d_Mod_isSymbol_37 ?_
      refine xg_bipush (pc := 38) hX (nI 33) d_Mod_isSymbol_38 ci_bipush_33 ?_
      refine xg_icmp_eq (pc := 40) hX 55 d_Mod_isSymbol_40 (by decide) (fun h => absurd h (by decide)) (fun _ => ?_)
      refine xp_iload_0 (pc := 43) hX d_Mod_isSymbol_43 ?_
      refine xg_bipush (pc := 44) hX (nI 63) d_Mod_isSymbol_44 ci_bipush_63 ?_
      refine xg_icmp_eq (pc := 46) hX 55 d_Mod_isSymbol_46 (by decide) (fun h => absurd h (by decide)) (fun _ => ?_)
      refine xp_iload_0 (pc := 49) hX d_Mod_isSymbol_49 ?_
      refine xg_bipush (pc := 50) hX (nI 95) d_Mod_isSymbol_50 ci_bipush_95 ?_
      refine xg_icmp_ne (pc := 52) hX 59 d_Mod_isSymbol_52 (by decide) (fun _ => k59 _ rfl) (fun h => absurd h (by decide))
    | some b =>
      have hb := by_lt b
      have h2 : dig b = false := h1
      have k31 : ¬ (65 ≤ b.toNat ∧ b.toNat ≤ 90) → ¬ (97 ≤ b.toNat ∧ b.toNat ≤ 122) → xG K 31 [some (.int (oI (some b)))] [] M' sz 0 0 := by
        intro z1 z2
        refine xp_iload_0 (pc := 31) hX d_Mod_isSymbol_31 ?_
        refine xg_bipush (pc := 32) hX (nI 46) d_Mod_isSymbol_32 ci_bipush_46 ?_
        first | refine xn_icmp_eq (pc := 34) hX 55 d_Mod_isSymbol_34 (by decide) (by omega) (by omega) (fun h34 => ?_) (fun h34 => ?_) | refine xg_icmp_eq (pc := 34) hX 55 d_Mod_isSymbol_34 (by decide) (fun h34 => ?_) (fun h34 => ?_)
        · exact k55 _ (by simp [osym, sym, h34])
        · refine xp_iload_0 (pc := 37) hX d_Mod_isSymbol_37 ?_
          refine xg_bipush (pc := 38) hX (nI 33) d_Mod_isSymbol_38 ci_bipush_33 ?_
          first | refine xn_icmp_eq (pc := 40) hX 55 d_Mod_isSymbol_40 (by decide) (by omega) (by omega) (fun h40 => ?_) (fun h40 => ?_) | refine xg_icmp_eq (pc := 40) hX 55 d_Mod_isSymbol_40 (by decide) (fun h40 => ?_) (fun h40 => ?_)
          · exact k55 _ (by simp [osym, sym, h40])
          · refine xp_iload_0 (pc := 43) hX d_Mod_isSymbol_43 ?_
            refine xg_bipush (pc := 44) hX (nI 63) d_Mod_isSymbol_44 ci_bipush_63 ?_
            first | refine xn_icmp_eq (pc := 46) hX 55 d_Mod_isSymbol_46 (by decide) (by omega) (by omega) (fun h46 => ?_) (fun h46 => ?_) | refine xg_icmp_eq (pc := 46) hX 55 d_Mod_isSymbol_46 (by decide) (fun h46 => ?_) (fun h46 => ?_)
            · exact k55 _ (by simp [osym, sym, h46])
            · refine xp_iload_0 (pc := 49) hX d_Mod_isSymbol_49 ?_
              refine xg_bipush (pc := 50) hX (nI 95) d_Mod_isSymbol_50 ci_bipush_95 ?_
              first | refine xn_icmp_ne (pc := 52) hX 59 d_Mod_isSymbol_52 (by decide) (by omega) (by omega) (fun h52 => ?_) (fun h52 => ?_) | refine xg_icmp_ne (pc := 52) hX 59 d_Mod_isSymbol_52 (by decide) (fun h52 => ?_) (fun h52 => ?_)
              · exact k59 _ (by simp [osym, sym, h2]; omega)
              · exact k55 _ (by simp [osym, sym, h52])
      have k19 : ¬ (65 ≤ b.toNat ∧ b.toNat ≤ 90) → xG K 19 [some (.int (oI (some b)))] [] M' sz 0 0 := by
        intro z1
        refine xp_iload_0 (pc := 19) hX d_Mod_isSymbol_19 ?_
        refine xg_bipush (pc := 20) hX (nI 97) d_Mod_isSymbol_20 ci_bipush_97 ?_
        first | refine xn_icmp_lt (pc := 22) hX 31 d_Mod_isSymbol_22 (by decide) (by omega) (by omega) (fun h22 => ?_) (fun h22 => ?_) | refine xg_icmp_lt (pc := 22) hX 31 d_Mod_isSymbol_22 (by decide) (fun h22 => ?_) (fun h22 => ?_)
        · exact k31 z1 (by omega)
        · refine xp_iload_0 (pc := 25) hX d_Mod_isSymbol_25 ?_
          refine xg_bipush (pc := 26) hX (nI 122) d_Mod_isSymbol_26 ci_bipush_122 ?_
          first | refine xn_icmp_le (pc := 28) hX 55 d_Mod_isSymbol_28 (by decide) (by omega) (by omega) (fun h28 => ?_) (fun h28 => ?_) | refine xg_icmp_le (pc := 28) hX 55 d_Mod_isSymbol_28 (by decide) (fun h28 => ?_) (fun h28 => ?_)
          · exact k55 _ (by simp [osym, sym]; omega)
          · exact k31 z1 (by omega)
      refine xp_iload_0 (pc := 7) hX d_Mod_isSymbol_7 ?_
      refine xg_bipush (pc := 8) hX (nI 65) d_Mod_isSymbol_8 ci_bipush_65 ?_
      first | refine xn_icmp_lt (pc := 10) hX 19 d_Mod_isSymbol_10 (by decide) (by omega) (by omega) (fun h10 => ?_) (fun h10 => ?_) | refine xg_icmp_lt (pc := 10) hX 19 d_Mod_isSymbol_10 (by decide) (fun h10 => ?_) (fun h10 => ?_)
      · exact k19 (by omega)
      · refine xp_iload_0 (pc := 13) hX d_Mod_isSymbol_13 ?_
        refine xg_bipush (pc := 14) hX (nI 90) d_Mod_isSymbol_14 ci_bipush_90 ?_
        first | refine xn_icmp_le (pc := 16) hX 55 d_Mod_isSymbol_16 (by decide) (by omega) (by omega) (fun h16 => ?_) (fun h16 => ?_) | refine xg_icmp_le (pc := 16) hX 55 d_Mod_isSymbol_16 (by decide) (fun h16 => ?_) (fun h16 => ?_)
        · exact k55 _ (by simp [osym, sym]; omega)
        · exact k19 (by omega)
set_option maxHeartbeats 4000000 in
set_option maxRecDepth 100000 in
theorem c_Mod_here (d : Nat) {M : xH} {sz O : Nat} (h : Wd M O t x out full es pool se sub fd fr bg wr nx kd fi la va) (hn : nx < 1000000) : xC d 0 0 Y_Mod_here [.ref O] M sz (qi sz (fun y M' => y = oI x[nx]? ∧ M' = M)) := by
  refine xC_of (by decide) (Nat.le_of_ble_eq_true rfl) (by simp [Value.category]) (vs := [some (.ref O)]) rfl (fun K hX hE => ?_)
  obtain ⟨h0, -, ⟨h2, f, h2a, h2b⟩, -⟩ := id h
  refine xp_aload_0 (pc := 0) hX d_Mod_here_0 ?_
  refine xg_get (pc := 1) hX (j := 25) k_Mod d_Mod_here_1 l_Mod_78 (by decide) (by first | assumption | exact xup_s _ _ _ | exact xup_o (by omega) (by assumption) | exact xup_o (by omega) (xup_s _ _ _) | exact xup_o (by omega) (xup_o (by omega) (by assumption)) | exact xup_o (by omega) (xup_o (by omega) (xup_s _ _ _)) | exact xup_o (by omega) (xup_o (by omega) (xup_o (by omega) (by assumption)))) (by rfl) ?_
  refine xp_aload_0 (pc := 4) hX d_Mod_here_4 ?_
  refine xg_get (pc := 5) hX (j := 5) k_Mod d_Mod_here_5 l_Mod_72 (by decide) (by first | assumption | exact xup_s _ _ _ | exact xup_o (by omega) (by assumption) | exact xup_o (by omega) (xup_s _ _ _) | exact xup_o (by omega) (xup_o (by omega) (by assumption)) | exact xup_o (by omega) (xup_o (by omega) (xup_s _ _ _)) | exact xup_o (by omega) (xup_o (by omega) (xup_o (by omega) (by assumption)))) (by rfl) ?_
  refine xn_icmp_ge (pc := 8) hX 23 d_Mod_here_8 (by decide) (by omega) (by omega) (fun z => ?_) (fun z => ?_)
  · refine xg_iconst (pc := 23) hX (-1) d_Mod_here_23 ci_iconst_m1 ?_
    refine xg_iret (pc := 24) hX hE d_Mod_here_24 rfl rfl (by omega) (by omega) ?_
    exact ⟨rfl, _, rfl, by rw [List.getElem?_eq_none z]; rfl, rfl⟩
  · refine xp_aload_0 (pc := 11) hX d_Mod_here_11 ?_
    refine xg_get (pc := 12) hX (j := 1) k_Mod d_Mod_here_12 l_Mod_13 (by decide) (by first | assumption | exact xup_s _ _ _ | exact xup_o (by omega) (by assumption) | exact xup_o (by omega) (xup_s _ _ _) | exact xup_o (by omega) (xup_o (by omega) (by assumption)) | exact xup_o (by omega) (xup_o (by omega) (xup_s _ _ _)) | exact xup_o (by omega) (xup_o (by omega) (xup_o (by omega) (by assumption)))) (by rfl) ?_
    refine xp_aload_0 (pc := 15) hX d_Mod_here_15 ?_
    refine xg_get (pc := 16) hX (j := 25) k_Mod d_Mod_here_16 l_Mod_78 (by decide) (by first | assumption | exact xup_s _ _ _ | exact xup_o (by omega) (by assumption) | exact xup_o (by omega) (xup_s _ _ _) | exact xup_o (by omega) (xup_o (by omega) (by assumption)) | exact xup_o (by omega) (xup_o (by omega) (xup_s _ _ _)) | exact xup_o (by omega) (xup_o (by omega) (xup_o (by omega) (by assumption)))) (by rfl) ?_
    refine xn_iald (pc := 19) hX d_Mod_here_19 rfl (by first | assumption | exact xup_s _ _ _ | exact xup_o (by omega) (by assumption) | exact xup_o (by omega) (xup_s _ _ _) | exact xup_o (by omega) (xup_o (by omega) (by assumption)) | exact xup_o (by omega) (xup_o (by omega) (xup_s _ _ _)) | exact xup_o (by omega) (xup_o (by omega) (xup_o (by omega) (by assumption)))) (by omega) (by omega) ?_
    refine xg_goto (pc := 20) hX 24 d_Mod_here_20 (by decide) ?_
    refine xg_iret (pc := 24) hX hE d_Mod_here_24 rfl rfl (by omega) (by omega) ?_
    refine ⟨rfl, _, rfl, ?_, rfl⟩
    rw [List.getElem?_eq_getElem z, h2b nx x[nx] (List.getElem?_eq_getElem z)]
    rfl
/-- WRONG stands where it was found first -/
def wrF (wr : Option Nat) (p : Nat) : Option Nat := match wr with
  | none => some p
  | some q => some q
set_option maxHeartbeats 4000000 in
set_option maxRecDepth 100000 in
theorem c_Mod_fail (d : Nat) {M : xH} {sz O p : Nat} (h : Wd M O t x out full es pool se sub fd fr bg wr nx kd fi la va) (hw : ∀ q, wr = some q → q < 1000000) : xC d 0 0 Y_Mod_fail [.ref O, .int (nI p)] M sz (qv sz (fun M' => Wd M' O t x out full es pool se sub fd fr bg (wrF wr p) nx kd fi la va ∧ FrO M M' O)) := by
  refine xC_of (by decide) (Nat.le_of_ble_eq_true rfl) (by simp [Value.category]) (vs := [some (.ref O), some (.int (nI p))]) rfl (fun K hX hE => ?_)
  obtain ⟨h0, -⟩ := id h
  refine xp_aload_0 (pc := 0) hX d_Mod_fail_0 ?_
  refine xg_get (pc := 1) hX (j := 24) k_Mod d_Mod_fail_1 l_Mod_75 (by decide) (by first | assumption | exact xup_s _ _ _ | exact xup_o (by omega) (by assumption) | exact xup_o (by omega) (xup_s _ _ _) | exact xup_o (by omega) (xup_o (by omega) (by assumption)) | exact xup_o (by omega) (xup_o (by omega) (xup_s _ _ _)) | exact xup_o (by omega) (xup_o (by omega) (xup_o (by omega) (by assumption)))) (by rfl) ?_
  cases wr with
  | none =>
    refine xg_if_ge (pc := 4) hX 12 d_Mod_fail_4 (by decide) (fun z => absurd z (by decide)) (fun _ => ?_)
    refine xp_aload_0 (pc := 7) hX d_Mod_fail_7 ?_
    refine xp_iload_1 (pc := 8) hX d_Mod_fail_8 ?_
    refine xg_put (pc := 9) hX (j := 24) k_Mod d_Mod_fail_9 l_Mod_75 (by decide) rfl (by first | assumption | exact xup_s _ _ _ | exact xup_o (by omega) (by assumption) | exact xup_o (by omega) (xup_s _ _ _) | exact xup_o (by omega) (xup_o (by omega) (by assumption)) | exact xup_o (by omega) (xup_o (by omega) (xup_s _ _ _)) | exact xup_o (by omega) (xup_o (by omega) (xup_o (by omega) (by assumption)))) (Nat.le_of_ble_eq_true rfl) rfl rfl (by simp only [List.set_cons_zero, List.set_cons_succ]; exact rfl) ?_
    refine xg_vret (pc := 12) hX hE d_Mod_fail_12 rfl (by omega) (by omega) ?_
    exact ⟨rfl, rfl, h.up (wr' := some p), FrO.up M O _ (by omega) (by omega)⟩
  | some q =>
    have := hw q rfl
    refine xn_if_ge (a := q) (pc := 4) hX 12 d_Mod_fail_4 (by decide) (by omega) ?_
    refine xg_vret (pc := 12) hX hE d_Mod_fail_12 rfl (by omega) (by omega) ?_
    exact ⟨rfl, rfl, h, FrO.rf _ _⟩
theorem sh8 (y : Int32) (k : Nat) (hk : k = 0 ∨ k = 8 ∨ k = 16 ∨ k = 24) : (y >>> (nI k &&& 31)) &&& nI 255 = nI (wb y k).toNat := by
  have h1 : ((nI k &&& 31).toBitVec.smod 32).toNat = k := by
    rcases hk with rfl | rfl | rfl | rfl <;> decide +kernel
  apply Int32.toBitVec_inj.mp
  rw [Int32.toBitVec_and, Int32.toBitVec_shiftRight]
  apply BitVec.eq_of_getLsbD_eq
  intro i hi
  have h255 : (nI 255).toBitVec = 255#32 := by decide +kernel
  have hn : (nI (wb y k).toNat).toBitVec = BitVec.ofNat 32 (wb y k).toNat := rfl
  have e255 : (255#32).getLsbD i = decide (i < 8) := by
    rw [BitVec.getLsbD_ofNat]
    rcases (show i < 8 ∨ 8 ≤ i by omega) with q | q
    · have : ∀ i, i < 8 → (decide (i < 32) && Nat.testBit 255 i) = decide (i < 8) := by decide +kernel
      exact this i q
    · rw [show (255 : Nat) = 2 ^ 8 - 1 from rfl, Nat.testBit_two_pow_sub_one]
      simp
      omega
  rw [h255, hn, wb_toNat, BitVec.getLsbD_and, BitVec.sshiftRight_eq', h1, BitVec.getLsbD_sshiftRight, e255, BitVec.getLsbD_ofNat, show (256 : Nat) = 2 ^ 8 from rfl, Nat.testBit_mod_two_pow, Nat.testBit_div_two_pow]
  rcases (show i < 8 ∨ 8 ≤ i by omega) with q | q
  · rcases (show k + i < 32 by omega) with q2
    have : i + k < 32 := by omega
    simp [q, hi, q2, BitVec.getLsbD, Nat.add_comm]
  · have : ¬ i < 8 := by omega
    simp [this]
set_option maxHeartbeats 4000000 in
set_option maxRecDepth 100000 in
theorem c_Mod_four (d : Nat) {M : xH} {sz O : Nat} (y : Int32) (h : Wd M O t x out full es pool se sub fd fr bg wr nx kd fi la va) (hl : t.length + 4 ≤ 600) : xC d 0 0 Y_Mod_four [.ref O, .int y] M sz (qv sz (fun M' => Wd M' O (t ++ w4 y) x out full es pool se sub fd fr bg wr nx kd fi la va ∧ FrO M M' O)) := by
  refine xC_of (by decide) (Nat.le_of_ble_eq_true rfl) (by simp [Value.category]) (vs := [some (.ref O), some (.int y), none]) rfl (fun K hX hE => ?_)
  have step : ∀ (M1 : xH) (t1 : List UInt8) (k : Nat), (k = 0 ∨ k = 8 ∨ k = 16 ∨ k = 24) → t1.length < 600 → Wd M1 O t1 x out full es pool se sub fd fr bg wr nx kd fi la va → FrO M M1 O → (∀ M2, Wd M2 O (t1 ++ [wb y k]) x out full es pool se sub fd fr bg wr nx kd fi la va → FrO M M2 O → xG K 33 [some (.ref O), some (.int y), some (.int (nI k))] [] M2 sz 0 0) → xG K 3 [some (.ref O), some (.int y), some (.int (nI k))] [] M1 sz 0 0 := by
    intro M1 t1 k hk hc h1 hf kk
    obtain ⟨h0, ⟨h2, f, h2a, h2b⟩, -⟩ := id h1
    refine xp_iload_2 (pc := 3) hX d_Mod_four_3 ?_
    refine xn_if_lt (pc := 4) hX 39 d_Mod_four_4 (by decide) (by omega) ?_
    refine xp_aload_0 (pc := 7) hX d_Mod_four_7 ?_
    refine xg_get (pc := 8) hX (j := 0) k_Mod d_Mod_four_8 l_Mod_7 (by decide) (by first | assumption | exact xup_s _ _ _ | exact xup_o (by omega) (by assumption) | exact xup_o (by omega) (xup_s _ _ _) | exact xup_o (by omega) (xup_o (by omega) (by assumption)) | exact xup_o (by omega) (xup_o (by omega) (xup_s _ _ _)) | exact xup_o (by omega) (xup_o (by omega) (xup_o (by omega) (by assumption)))) (by rfl) ?_
    refine xp_aload_0 (pc := 11) hX d_Mod_four_11 ?_
    refine xg_get (pc := 12) hX (j := 4) k_Mod d_Mod_four_12 l_Mod_62 (by decide) (by first | assumption | exact xup_s _ _ _ | exact xup_o (by omega) (by assumption) | exact xup_o (by omega) (xup_s _ _ _) | exact xup_o (by omega) (xup_o (by omega) (by assumption)) | exact xup_o (by omega) (xup_o (by omega) (xup_s _ _ _)) | exact xup_o (by omega) (xup_o (by omega) (xup_o (by omega) (by assumption)))) (by rfl) ?_
    refine xp_iload_1 (pc := 15) hX d_Mod_four_15 ?_
    refine xp_iload_2 (pc := 16) hX d_Mod_four_16 ?_
    refine xg_ishr (pc := 17) hX d_Mod_four_17 ?_
    refine xg_sipush (pc := 18) hX (nI 255) d_Mod_four_18 ci_sipush_255 ?_
    refine xg_iand (pc := 21) hX d_Mod_four_21 ?_
    rw [sh8 y k hk]
    refine xn_iast (pc := 22) hX d_Mod_four_22 rfl (by first | assumption | exact xup_s _ _ _ | exact xup_o (by omega) (by assumption) | exact xup_o (by omega) (xup_s _ _ _) | exact xup_o (by omega) (xup_o (by omega) (by assumption)) | exact xup_o (by omega) (xup_o (by omega) (xup_s _ _ _)) | exact xup_o (by omega) (xup_o (by omega) (xup_o (by omega) (by assumption)))) (by omega) (by omega) ?_
    refine xp_aload_0 (pc := 23) hX d_Mod_four_23 ?_
    refine xg_dup (pc := 24) hX d_Mod_four_24 rfl ?_
    refine xg_get (pc := 25) hX (j := 4) k_Mod d_Mod_four_25 l_Mod_62 (by decide) (by first | assumption | exact xup_s _ _ _ | exact xup_o (by omega) (by assumption) | exact xup_o (by omega) (xup_s _ _ _) | exact xup_o (by omega) (xup_o (by omega) (by assumption)) | exact xup_o (by omega) (xup_o (by omega) (xup_s _ _ _)) | exact xup_o (by omega) (xup_o (by omega) (xup_o (by omega) (by assumption)))) (by rfl) ?_
    refine xg_iconst (pc := 28) hX (nI 1) d_Mod_four_28 ci_iconst_1 ?_
    first | refine xn_iadd (pc := 29) hX d_Mod_four_29 ?_ | refine xg_iadd (pc := 29) hX d_Mod_four_29 ?_
    refine xg_put (pc := 30) hX (j := 4) k_Mod d_Mod_four_30 l_Mod_62 (by decide) rfl (by first | assumption | exact xup_s _ _ _ | exact xup_o (by omega) (by assumption) | exact xup_o (by omega) (xup_s _ _ _) | exact xup_o (by omega) (xup_o (by omega) (by assumption)) | exact xup_o (by omega) (xup_o (by omega) (xup_s _ _ _)) | exact xup_o (by omega) (xup_o (by omega) (xup_o (by omega) (by assumption)))) (Nat.le_of_ble_eq_true rfl) rfl rfl (by simp only [List.set_cons_zero, List.set_cons_succ]; exact rfl) ?_
    refine kk _ (h1.st (t' := t1 ++ [wb y k]) ?_ ((Ar.push (M := M1) (a := O + 1) hc h2b).kept (xup_n _ _ (by omega))) (fun q a b => ?_)) ?_
    · rw [xup_s, show t1.length + 1 = (t1 ++ [wb y k]).length by simp]
    · rw [xup_n _ _ a, xup_n _ _ b]
    · exact (hf.up' _ (by omega) (by omega)).up' _ (by omega) (by omega)
  refine xg_bipush (pc := 0) hX (nI 24) d_Mod_four_0 ci_bipush_24 ?_
  refine xp_istore_2 (pc := 2) hX d_Mod_four_2 (by decide) ?_
  refine step M t 24 (by omega) (by omega) h (FrO.rf M O) (fun M1 h1 f1 => ?_)
  refine xg_iinc (pc := 33) hX d_Mod_four_33 (by decide) rfl ci_iconst_m8 (by rfl) ?_
  refine xg_goto (pc := 36) hX 3 d_Mod_four_36 (by decide) ?_
  rw [dm_24]
  refine step M1 _ 16 (by omega) (by simp; omega) h1 f1 (fun M2 h2 f2 => ?_)
  refine xg_iinc (pc := 33) hX d_Mod_four_33 (by decide) rfl ci_iconst_m8 (by rfl) ?_
  refine xg_goto (pc := 36) hX 3 d_Mod_four_36 (by decide) ?_
  rw [dm_16]
  refine step M2 _ 8 (by omega) (by simp; omega) h2 f2 (fun M3 h3 f3 => ?_)
  refine xg_iinc (pc := 33) hX d_Mod_four_33 (by decide) rfl ci_iconst_m8 (by rfl) ?_
  refine xg_goto (pc := 36) hX 3 d_Mod_four_36 (by decide) ?_
  rw [dm_8]
  refine step M3 _ 0 (by omega) (by simp; omega) h3 f3 (fun M4 h4 f4 => ?_)
  refine xg_iinc (pc := 33) hX d_Mod_four_33 (by decide) rfl ci_iconst_m8 (by rfl) ?_
  refine xg_goto (pc := 36) hX 3 d_Mod_four_36 (by decide) ?_
  refine xp_iload_2 (pc := 3) hX d_Mod_four_3 ?_
  refine xg_if_lt (pc := 4) hX 39 d_Mod_four_4 (by decide) (fun _ => ?_) (fun h => absurd dm_0 h)
  refine xg_vret (pc := 39) hX hE d_Mod_four_39 rfl (by omega) (by omega) ?_
  refine ⟨rfl, rfl, ?_, f4⟩
  have e : t ++ w4 y = t ++ [wb y 24] ++ [wb y 16] ++ [wb y 8] ++ [wb y 0] := by simp [w4]
  rw [e]
  exact h4
end XM2
