/-! the small functions of the class -/
set_option maxHeartbeats 4000000 in
set_option maxRecDepth 100000 in
theorem c_Nam_isDigit (d : Nat) {M : xH} {sz : Nat} (o : Option UInt8) : xC d 0 0 Y_Nam_isDigit [.int (oI o)] M sz (qi sz (fun x M' => x = bI (odig o) ∧ M' = M)) := by
  refine xC_of (by decide) (Nat.le_of_ble_eq_true rfl) (by simp [Value.category]) (vs := [some (.int (oI o))]) rfl (fun K hX hE => ?_)
  have k17 : ∀ v : Bool, odig o = v → xG K 17 [some (.int (oI o))] [.int (bI v)] M sz 0 0 := by
    intro v hv
    refine xg_iret (pc := 17) hX hE d_Nam_isDigit_17 rfl (by cases v <;> rfl) (by omega) (by omega) ?_
    exact ⟨rfl, _, rfl, by rw [hv], rfl⟩
  have k16 : odig o = false → xG K 16 [some (.int (oI o))] [] M sz 0 0 := by
    intro hv
    refine xg_iconst (pc := 16) hX (nI 0) d_Nam_isDigit_16 ci_iconst_0 ?_
    exact k17 false hv
  cases o with
  | none =>
    refine xp_iload_0 (pc := 0) hX d_Nam_isDigit_0 ?_
    refine xg_bipush (pc := 1) hX (nI 48) d_Nam_isDigit_1 ci_bipush_48 ?_
    refine xg_icmp_lt (pc := 3) hX 16 d_Nam_isDigit_3 (by decide) (fun _ => k16 rfl) (fun h => absurd (by decide) h)
  | some b =>
    have hb := by_lt b
    refine xp_iload_0 (pc := 0) hX d_Nam_isDigit_0 ?_
    refine xg_bipush (pc := 1) hX (nI 48) d_Nam_isDigit_1 ci_bipush_48 ?_
    first | refine xn_icmp_lt (pc := 3) hX 16 d_Nam_isDigit_3 (by decide) (by omega) (by omega) (fun h3 => ?_) (fun h3 => ?_) | refine xg_icmp_lt (pc := 3) hX 16 d_Nam_isDigit_3 (by decide) (fun h3 => ?_) (fun h3 => ?_)
    · exact k16 (by simp [odig, dig]; omega)
    · refine xp_iload_0 (pc := 6) hX d_Nam_isDigit_6 ?_
      refine xg_bipush (pc := 7) hX (nI 57) d_Nam_isDigit_7 ci_bipush_57 ?_
      first | refine xn_icmp_gt (pc := 9) hX 16 d_Nam_isDigit_9 (by decide) (by omega) (by omega) (fun h9 => ?_) (fun h9 => ?_) | refine xg_icmp_gt (pc := 9) hX 16 d_Nam_isDigit_9 (by decide) (fun h9 => ?_) (fun h9 => ?_)
      · exact k16 (by simp [odig, dig]; omega)
      · refine xg_iconst (pc := 12) hX (nI 1) d_Nam_isDigit_12 ci_iconst_1 ?_
        refine xg_goto (pc := 13) hX 17 d_Nam_isDigit_13 (by decide) ?_
        exact k17 true (by simp [odig, dig]; omega)
set_option maxHeartbeats 4000000 in
set_option maxRecDepth 100000 in
theorem c_Nam_capital (d : Nat) {M : xH} {sz : Nat} (b : UInt8) : xC d 0 0 Y_Nam_capital [.int (nI b.toNat)] M sz (qi sz (fun x M' => x = nI (cap b).toNat ∧ M' = M)) := by
  refine xC_of (by decide) (Nat.le_of_ble_eq_true rfl) (by simp [Value.category]) (vs := [some (.int (nI b.toNat))]) rfl (fun K hX hE => ?_)
  have hb := by_lt b
  have k22 : (cap b).toNat = b.toNat → xG K 22 [some (.int (nI b.toNat))] [] M sz 0 0 := by
    intro hv
    refine xp_iload_0 (pc := 22) hX d_Nam_capital_22 ?_
    refine xg_iret (pc := 23) hX hE d_Nam_capital_23 rfl rfl (by omega) (by omega) ?_
    exact ⟨rfl, _, rfl, by rw [hv], rfl⟩
  have hc := cap_toNat b
  refine xp_iload_0 (pc := 0) hX d_Nam_capital_0 ?_
  refine xg_bipush (pc := 1) hX (nI 97) d_Nam_capital_1 ci_bipush_97 ?_
  first | refine xn_icmp_lt (pc := 3) hX 22 d_Nam_capital_3 (by decide) (by omega) (by omega) (fun h3 => ?_) (fun h3 => ?_) | refine xg_icmp_lt (pc := 3) hX 22 d_Nam_capital_3 (by decide) (fun h3 => ?_) (fun h3 => ?_)
  · exact k22 (by rw [hc, if_neg (by omega)])
  · refine xp_iload_0 (pc := 6) hX d_Nam_capital_6 ?_
    refine xg_bipush (pc := 7) hX (nI 122) d_Nam_capital_7 ci_bipush_122 ?_
    first | refine xn_icmp_gt (pc := 9) hX 22 d_Nam_capital_9 (by decide) (by omega) (by omega) (fun h9 => ?_) (fun h9 => ?_) | refine xg_icmp_gt (pc := 9) hX 22 d_Nam_capital_9 (by decide) (fun h9 => ?_) (fun h9 => ?_)
    · exact k22 (by rw [hc, if_neg (by omega)])
    · refine xp_iload_0 (pc := 12) hX d_Nam_capital_12 ?_
      refine xg_bipush (pc := 13) hX (nI 97) d_Nam_capital_13 ci_bipush_97 ?_
      first | refine xn_isub (pc := 15) hX d_Nam_capital_15 (by omega) ?_ | refine xg_isub (pc := 15) hX d_Nam_capital_15 ?_
      refine xg_bipush (pc := 16) hX (nI 65) d_Nam_capital_16 ci_bipush_65 ?_
      first | refine xn_iadd (pc := 18) hX d_Nam_capital_18 ?_ | refine xg_iadd (pc := 18) hX d_Nam_capital_18 ?_
      refine xg_goto (pc := 19) hX 23 d_Nam_capital_19 (by decide) ?_
      refine xg_iret (pc := 23) hX hE d_Nam_capital_23 rfl rfl (by omega) (by omega) ?_
      exact ⟨rfl, _, rfl, by rw [hc, if_pos (by omega)]; congr 1; omega, rfl⟩
set_option maxHeartbeats 4000000 in
set_option maxRecDepth 100000 in
theorem c_Nam_isSymbolByte (d : Nat) {M : xH} {sz : Nat} (o : Option UInt8) : xC (d + 1) 0 0 Y_Nam_isSymbolByte [.int (oI o)] M sz (qi sz (fun x M' => x = bI (osym o) ∧ M' = M)) := by
  refine xC_of (by decide) (Nat.le_of_ble_eq_true rfl) (by simp [Value.category]) (vs := [some (.int (oI o)), none]) rfl (fun K hX hE => ?_)
  have k70 : ∀ (vs : List (Option Value)) (v : Bool), osym o = v → xG K 70 vs [.int (bI v)] M sz 0 0 := by
    intro vs v hv
    refine xg_iret (pc := 70) hX hE d_Nam_isSymbolByte_70 rfl (by cases v <;> rfl) (by omega) (by omega) ?_
    exact ⟨rfl, _, rfl, by rw [hv], rfl⟩
  have k65 : ∀ (vs : List (Option Value)), osym o = true → xG K 65 vs [] M sz 0 0 := by
    intro vs hv
    refine xg_iconst (pc := 65) hX (nI 1) d_Nam_isSymbolByte_65 ci_iconst_1 ?_
    refine xg_goto (pc := 66) hX 70 d_Nam_isSymbolByte_66 (by decide) ?_
    exact k70 _ true hv
  have k69 : ∀ (vs : List (Option Value)), osym o = false → xG K 69 vs [] M sz 0 0 := by
    intro vs hv
    refine xg_iconst (pc := 69) hX (nI 0) d_Nam_isSymbolByte_69 ci_iconst_0 ?_
    exact k70 _ false hv
  cases o with
  | none =>
    refine xp_iload_0 (pc := 0) hX d_Nam_isSymbolByte_0 ?_
    refine xg_bipush (pc := 1) hX (nI 65) d_Nam_isSymbolByte_1 ci_bipush_65 ?_
    refine xg_icmp_lt (pc := 3) hX 12 d_Nam_isSymbolByte_3 (by decide) (fun _ => ?_) (fun h => absurd (by decide) h)
    refine xp_iload_0 (pc := 12) hX d_Nam_isSymbolByte_12 ?_
    refine xg_bipush (pc := 13) hX (nI 97) d_Nam_isSymbolByte_13 ci_bipush_97 ?_
    refine xg_icmp_lt (pc := 15) hX 28 d_Nam_isSymbolByte_15 (by decide) (fun _ => ?_) (fun h => absurd (by decide) h)
    refine xg_iconst (pc := 28) hX (nI 0) d_Nam_isSymbolByte_28 ci_iconst_0 ?_
    refine xp_istore_1 (pc := 29) hX d_Nam_isSymbolByte_29 (by decide) ?_
    refine xp_iload_1 (pc := 30) hX d_Nam_isSymbolByte_30 ?_
    refine xn_if_ne (pc := 31) hX 65 d_Nam_isSymbolByte_31 (by decide) (by decide) (fun h => absurd h (by decide)) (fun _ => ?_)
    refine xp_iload_0 (pc := 34) hX d_Nam_isSymbolByte_34 ?_
    refine xi_S (Y2 := Y_Nam_isDigit) (pc := 35) hX [_] m_Nam_isDigit d_Nam_isSymbolByte_35 l_Nam_210 rfl rfl (by simp) (c_Nam_isDigit d none) (by omega) (by omega) ?_
    rintro x M' ⟨rfl, rfl⟩
    refine xn_if_ne (pc := 38) hX 65 d_Nam_isSymbolByte_38 (by decide) (by decide) (fun h => absurd h (by decide)) (fun _ => ?_)
    refine xp_iload_0 (pc := 41) hX d_Nam_isSymbolByte_41 ?_
    refine xg_bipush (pc := 42) hX (nI 46) d_Nam_isSymbolByte_42 ci_bipush_46 ?_
    refine xg_icmp_eq (pc := 44) hX 65 d_Nam_isSymbolByte_44 (by decide) (fun h => absurd h (by decide)) (fun _ => ?_)
    refine xp_iload_0 (pc := 47) hX d_Nam_isSymbolByte_47 ?_
    refine xg_bipush (pc := 48) hX (nI 33) d_Nam_isSymbolByte_48 ci_bipush_33 ?_
    refine xg_icmp_eq (pc := 50) hX 65 d_Nam_isSymbolByte_50 (by decide) (fun h => absurd h (by decide)) (fun _ => ?_)
    refine xp_iload_0 (pc := 53) hX d_Nam_isSymbolByte_53 ?_
    refine xg_bipush (pc := 54) hX (nI 63) d_Nam_isSymbolByte_54 ci_bipush_63 ?_
    refine xg_icmp_eq (pc := 56) hX 65 d_Nam_isSymbolByte_56 (by decide) (fun h => absurd h (by decide)) (fun _ => ?_)
    refine xp_iload_0 (pc := 59) hX d_Nam_isSymbolByte_59 ?_
    refine xg_bipush (pc := 60) hX (nI 95) d_Nam_isSymbolByte_60 ci_bipush_95 ?_
    refine xg_icmp_ne (pc := 62) hX 69 d_Nam_isSymbolByte_62 (by decide) (fun _ => k69 _ rfl) (fun h => absurd h (by decide))
  | some b =>
    have hb := by_lt b
    have k30 : ∀ v : Bool, ((65 ≤ b.toNat ∧ b.toNat ≤ 90) ∨ (97 ≤ b.toNat ∧ b.toNat ≤ 122) ↔ v = true) → xG K 29 [some (.int (oI (some b))), none] [.int (bI v)] M sz 0 0 := by
      intro v hv
      refine xp_istore_1 (pc := 29) hX d_Nam_isSymbolByte_29 (by decide) ?_
      refine xp_iload_1 (pc := 30) hX d_Nam_isSymbolByte_30 ?_
      refine xg_if_ne (pc := 31) hX 65 d_Nam_isSymbolByte_31 (by decide) (fun h => ?_) (fun h => ?_)
      · have h1 := hv.mpr (bI_ne0.mp h)
        exact k65 _ (by simp [osym, sym, dig]; omega)
      · have h1 : ¬ ((65 ≤ b.toNat ∧ b.toNat ≤ 90) ∨ (97 ≤ b.toNat ∧ b.toNat ≤ 122)) := fun q => by
          have := hv.mp q
          rw [this] at h
          exact absurd h (by decide)
        refine xp_iload_0 (pc := 34) hX d_Nam_isSymbolByte_34 ?_
        refine xi_S (Y2 := Y_Nam_isDigit) (pc := 35) hX [_] m_Nam_isDigit d_Nam_isSymbolByte_35 l_Nam_210 rfl rfl (by simp) (c_Nam_isDigit d (some b)) (by omega) (by omega) ?_
        rintro x M' ⟨rfl, rfl⟩
        refine xg_if_ne (pc := 38) hX 65 d_Nam_isSymbolByte_38 (by decide) (fun h => ?_) (fun h => ?_)
        · have h2 : dig b = true := bI_ne0.mp h
          exact k65 _ (by simp [osym, sym, h2])
        · have h2 : dig b = false := bI_eq0.mp h
          refine xp_iload_0 (pc := 41) hX d_Nam_isSymbolByte_41 ?_
          refine xg_bipush (pc := 42) hX (nI 46) d_Nam_isSymbolByte_42 ci_bipush_46 ?_
          first | refine xn_icmp_eq (pc := 44) hX 65 d_Nam_isSymbolByte_44 (by decide) (by omega) (by omega) (fun h44 => ?_) (fun h44 => ?_) | refine xg_icmp_eq (pc := 44) hX 65 d_Nam_isSymbolByte_44 (by decide) (fun h44 => ?_) (fun h44 => ?_)
          · exact k65 _ (by simp [osym, sym, h44])
          · refine xp_iload_0 (pc := 47) hX d_Nam_isSymbolByte_47 ?_
            refine xg_bipush (pc := 48) hX (nI 33) d_Nam_isSymbolByte_48 ci_bipush_33 ?_
            first | refine xn_icmp_eq (pc := 50) hX 65 d_Nam_isSymbolByte_50 (by decide) (by omega) (by omega) (fun h50 => ?_) (fun h50 => ?_) | refine xg_icmp_eq (pc := 50) hX 65 d_Nam_isSymbolByte_50 (by decide) (fun h50 => ?_) (fun h50 => ?_)
            · exact k65 _ (by simp [osym, sym, h50])
            · refine xp_iload_0 (pc := 53) hX d_Nam_isSymbolByte_53 ?_
              refine xg_bipush (pc := 54) hX (nI 63) d_Nam_isSymbolByte_54 ci_bipush_63 ?_
              first | refine xn_icmp_eq (pc := 56) hX 65 d_Nam_isSymbolByte_56 (by decide) (by omega) (by omega) (fun h56 => ?_) (fun h56 => ?_) | refine xg_icmp_eq (pc := 56) hX 65 d_Nam_isSymbolByte_56 (by decide) (fun h56 => ?_) (fun h56 => ?_)
              · exact k65 _ (by simp [osym, sym, h56])
              · refine xp_iload_0 (pc := 59) hX d_Nam_isSymbolByte_59 ?_
                refine xg_bipush (pc := 60) hX (nI 95) d_Nam_isSymbolByte_60 ci_bipush_95 ?_
                first | refine xn_icmp_ne (pc := 62) hX 69 d_Nam_isSymbolByte_62 (by decide) (by omega) (by omega) (fun h62 => ?_) (fun h62 => ?_) | refine xg_icmp_ne (pc := 62) hX 69 d_Nam_isSymbolByte_62 (by decide) (fun h62 => ?_) (fun h62 => ?_)
                · exact k69 _ (by simp [osym, sym, h2]; omega)
                · exact k65 _ (by simp [osym, sym, h62])
    have k28 : ¬ ((65 ≤ b.toNat ∧ b.toNat ≤ 90) ∨ (97 ≤ b.toNat ∧ b.toNat ≤ 122)) → xG K 28 [some (.int (oI (some b))), none] [] M sz 0 0 := by
      intro h
      refine xg_iconst (pc := 28) hX (nI 0) d_Nam_isSymbolByte_28 ci_iconst_0 ?_
      exact k30 false (by simp; omega)
    have k24 : ((65 ≤ b.toNat ∧ b.toNat ≤ 90) ∨ (97 ≤ b.toNat ∧ b.toNat ≤ 122)) → xG K 24 [some (.int (oI (some b))), none] [] M sz 0 0 := by
      intro h
      refine xg_iconst (pc := 24) hX (nI 1) d_Nam_isSymbolByte_24 ci_iconst_1 ?_
      refine xg_goto (pc := 25) hX 29 d_Nam_isSymbolByte_25 (by decide) ?_
      exact k30 true (by simp; omega)
    have k12 : ¬ (65 ≤ b.toNat ∧ b.toNat ≤ 90) → xG K 12 [some (.int (oI (some b))), none] [] M sz 0 0 := by
      intro h
      refine xp_iload_0 (pc := 12) hX d_Nam_isSymbolByte_12 ?_
      refine xg_bipush (pc := 13) hX (nI 97) d_Nam_isSymbolByte_13 ci_bipush_97 ?_
      first | refine xn_icmp_lt (pc := 15) hX 28 d_Nam_isSymbolByte_15 (by decide) (by omega) (by omega) (fun h15 => ?_) (fun h15 => ?_) | refine xg_icmp_lt (pc := 15) hX 28 d_Nam_isSymbolByte_15 (by decide) (fun h15 => ?_) (fun h15 => ?_)
      · exact k28 (by omega)
      · refine xp_iload_0 (pc := 18) hX d_Nam_isSymbolByte_18 ?_
        refine xg_bipush (pc := 19) hX (nI 122) d_Nam_isSymbolByte_19 ci_bipush_122 ?_
        first | refine xn_icmp_gt (pc := 21) hX 28 d_Nam_isSymbolByte_21 (by decide) (by omega) (by omega) (fun h21 => ?_) (fun h21 => ?_) | refine xg_icmp_gt (pc := 21) hX 28 d_Nam_isSymbolByte_21 (by decide) (fun h21 => ?_) (fun h21 => ?_)
        · exact k28 (by omega)
        · exact k24 (by omega)
    refine xp_iload_0 (pc := 0) hX d_Nam_isSymbolByte_0 ?_
    refine xg_bipush (pc := 1) hX (nI 65) d_Nam_isSymbolByte_1 ci_bipush_65 ?_
    first | refine xn_icmp_lt (pc := 3) hX 12 d_Nam_isSymbolByte_3 (by decide) (by omega) (by omega) (fun h3 => ?_) (fun h3 => ?_) | refine xg_icmp_lt (pc := 3) hX 12 d_Nam_isSymbolByte_3 (by decide) (fun h3 => ?_) (fun h3 => ?_)
    · exact k12 (by omega)
    · refine xp_iload_0 (pc := 6) hX d_Nam_isSymbolByte_6 ?_
      refine xg_bipush (pc := 7) hX (nI 90) d_Nam_isSymbolByte_7 ci_bipush_90 ?_
      first | refine xn_icmp_le (pc := 9) hX 24 d_Nam_isSymbolByte_9 (by decide) (by omega) (by omega) (fun h9 => ?_) (fun h9 => ?_) | refine xg_icmp_le (pc := 9) hX 24 d_Nam_isSymbolByte_9 (by decide) (fun h9 => ?_) (fun h9 => ?_)
      · exact k24 (by omega)
      · exact k12 (by omega)
