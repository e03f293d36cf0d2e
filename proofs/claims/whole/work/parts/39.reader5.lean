/-! NameRoom$Reader: tokens, templates -/
/-- one step of reading a template: where it goes on or is WRONG, and the token -/
def tok1 (t : List UInt8) (s : Nat) : (Nat × Bool) × Option xTk := match t[s]? with
  | none => ((s, false), none)
  | some b =>
    if b.toNat = 32 then ((s + 1, true), none)
    else if b.toNat = 34 ∨ b.toNat = 39 then (if (rdS t b s (t.length - s) (s + 1) 0).2 then (((rdS t b s (t.length - s) (s + 1) 0).1 + 1, true), some (3, s + 1, (rdS t b s (t.length - s) (s + 1) 0).1)) else (rdS t b s (t.length - s) (s + 1) 0, none))
    else if b.toNat = 40 then (if (rdB t s).1.2 then ((rdB t s).1, some (4, (rdB t s).2)) else ((rdB t s).1, none))
    else if b.toNat = 43 ∨ b.toNat = 45 ∨ b.toNat = 61 then (if (rdP t (sc bl t (s + 1) t.length)).2 then (rdP t (sc bl t (s + 1) t.length), some (if b.toNat = 43 then 6 else if b.toNat = 45 then 7 else 5, sc bl t (s + 1) t.length, (rdP t (sc bl t (s + 1) t.length)).1)) else (rdP t (sc bl t (s + 1) t.length), none))
    else if dig b then (if (rdP t s).2 then (rdP t s, some (5, s, (rdP t s).1)) else (rdP t s, none))
    else if b.toNat = 46 ∧ osym t[s + 1]? = false then ((s + 1, true), some (2, s, s + 1))
    else (if (rdV t s).2 then (rdV t s, some (1, s, (rdV t s).1)) else (rdV t s, none))
/-- what reading did: R the step's end -/
def RdQ (M M' : xH) (h : Nat) (t : List UInt8) (tk : List xTk) (tg : Nat) (R : (Nat × Bool) × Option xTk) : Prop :=
  ((R.1.2 = true ∧ ReA M' h t (tk ++ R.2.toList) (tg + (R.2.toList.filter (fun e => isTg e.1)).length) R.1.1 none) ∨ (R.1.2 = false ∧ ∃ tk' tg' pos', ReA M' h t tk' tg' pos' (some R.1.1))) ∧ FrA M M' h
set_option maxHeartbeats 4000000 in
set_option maxRecDepth 100000 in
theorem c_Rea_readBareToken (d : Nat) {M : xH} {sz h tg pos : Nat} {t : List UInt8} {tk : List xTk} {b : UInt8} (hs : ReA M h t tk tg pos none) (hb : t[pos]? = some b) (htk : tk.length < 600) (htg : tg < 700) : xC (d + 3) 0 0 Y_Rea_readBareToken [.ref h, .int (nI b.toNat)] M sz (qv sz (fun M' => RdQ M M' h t tk tg (if dig b then (if (rdP t pos).2 then (rdP t pos, some (5, pos, (rdP t pos).1)) else (rdP t pos, none)) else if b.toNat = 46 ∧ osym t[pos + 1]? = false then ((pos + 1, true), some (2, pos, pos + 1)) else (if (rdV t pos).2 then (rdV t pos, some (1, pos, (rdV t pos).1)) else (rdV t pos, none))))) := by
  refine xC_of (by decide) (Nat.le_of_ble_eq_true rfl) (by simp [Value.category]) (vs := [some (.ref h), some (.int (nI b.toNat))]) rfl (fun K hX hE => ?_)
  have hl : t.length ≤ 600 := hs.2.1.2.1
  have hlt := (List.getElem?_eq_some_iff.mp hb).1
  have hbb := by_lt b
  obtain ⟨h1, h2, -⟩ := id hs
  obtain ⟨r1, -⟩ := id h2
  refine xp_iload_1 (pc := 0) hX d_Rea_readBareToken_0 ?_
  refine xi_SN (Y2 := Y_Nam_isDigit) (pc := 1) hX [_] m_Nam_isDigit d_Rea_readBareToken_1 l_Rea_89 rfl rfl (by simp [Value.category]) (c_Nam_isDigit (d + 2) (some b)) (by omega) (by omega) ?_
  rintro y M' ⟨rfl, rfl⟩
  refine xg_if_eq (pc := 4) hX 15 d_Rea_readBareToken_4 (by decide) (fun w => ?_) (fun w => ?_)
  · have w : dig b = false := bI_eq0.mp w
    rw [w] at hE
    have k78 : ¬ (b.toNat = 46 ∧ osym t[pos + 1]? = false) → xG K 78 [some (.ref h), some (.int (nI b.toNat))] [] M' sz 0 0 := by
      intro hno
      rw [if_neg (by decide), if_neg hno] at hE
      refine xp_aload_0 (pc := 78) hX d_Rea_readBareToken_78 ?_
      refine xg_iconst (pc := 79) hX (nI 1) d_Rea_readBareToken_79 ci_iconst_1 ?_
      refine xv_V (Y2 := Y_Rea_readVariable) (pc := 80) hX [_] k_Rea m_Rea_readVariable d_Rea_readBareToken_80 l_Rea_65 rfl rfl (by simp [Value.category]) (by first | assumption | exact xup_s _ _ _ | exact xup_o (by omega) (by assumption) | exact xup_o (by omega) (xup_s _ _ _) | exact xup_o (by omega) (xup_o (by omega) (by assumption)) | exact xup_o (by omega) (xup_o (by omega) (xup_s _ _ _)) | exact xup_o (by omega) (xup_o (by omega) (xup_o (by omega) (by assumption)))) (c_Rea_readVariable (d) (k := 1) hs (by omega) htk) (by omega) (by omega) ?_
      rintro M1 ⟨a1, a2⟩
      rcases a1 with ⟨b1, b2⟩ | ⟨b1, p', b2, -⟩
      · have hv := rdV_le (t := t) (s := pos) (by omega)
        obtain ⟨g1, -⟩ := id b2
        refine xp_aload_0 (pc := 83) hX d_Rea_readBareToken_83 ?_
        refine xg_dup (pc := 84) hX d_Rea_readBareToken_84 rfl ?_
        refine xg_get (pc := 85) hX (j := 5) k_Rea d_Rea_readBareToken_85 l_Rea_34 (by decide) (by first | assumption | exact xup_s _ _ _ | exact xup_o (by omega) (by assumption) | exact xup_o (by omega) (xup_s _ _ _) | exact xup_o (by omega) (xup_o (by omega) (by assumption)) | exact xup_o (by omega) (xup_o (by omega) (xup_s _ _ _)) | exact xup_o (by omega) (xup_o (by omega) (xup_o (by omega) (by assumption)))) (by rfl) ?_
        refine xg_iconst (pc := 88) hX (nI 1) d_Rea_readBareToken_88 ci_iconst_1 ?_
        first | refine xn_iadd (pc := 89) hX d_Rea_readBareToken_89 ?_ | refine xg_iadd (pc := 89) hX d_Rea_readBareToken_89 ?_
        refine xg_put (pc := 90) hX (j := 5) k_Rea d_Rea_readBareToken_90 l_Rea_34 (by decide) rfl (by first | assumption | exact xup_s _ _ _ | exact xup_o (by omega) (by assumption) | exact xup_o (by omega) (xup_s _ _ _) | exact xup_o (by omega) (xup_o (by omega) (by assumption)) | exact xup_o (by omega) (xup_o (by omega) (xup_s _ _ _)) | exact xup_o (by omega) (xup_o (by omega) (xup_o (by omega) (by assumption)))) (Nat.le_of_ble_eq_true rfl) rfl rfl (by simp only [List.set_cons_zero, List.set_cons_succ]; exact rfl) ?_
        refine xg_vret (pc := 93) hX hE d_Rea_readBareToken_93 rfl (by omega) (by omega) ?_
        refine ⟨rfl, rfl, Or.inl ⟨?_, ?_⟩, a2.tr (FrA.up _ _ _)⟩
        · rw [if_pos b1]; exact b1
        · rw [if_pos b1]
          exact b2.put (show tg + 1 ≤ 700 by omega) (by omega)
      · obtain ⟨g1, -, -, g4, g5, -⟩ := id b2
        refine xp_aload_0 (pc := 83) hX d_Rea_readBareToken_83 ?_
        refine xg_dup (pc := 84) hX d_Rea_readBareToken_84 rfl ?_
        refine xg_get (pc := 85) hX (j := 5) k_Rea d_Rea_readBareToken_85 l_Rea_34 (by decide) (by first | assumption | exact xup_s _ _ _ | exact xup_o (by omega) (by assumption) | exact xup_o (by omega) (xup_s _ _ _) | exact xup_o (by omega) (xup_o (by omega) (by assumption)) | exact xup_o (by omega) (xup_o (by omega) (xup_s _ _ _)) | exact xup_o (by omega) (xup_o (by omega) (xup_o (by omega) (by assumption)))) (by rfl) ?_
        refine xg_iconst (pc := 88) hX (nI 1) d_Rea_readBareToken_88 ci_iconst_1 ?_
        first | refine xn_iadd (pc := 89) hX d_Rea_readBareToken_89 ?_ | refine xg_iadd (pc := 89) hX d_Rea_readBareToken_89 ?_
        refine xg_put (pc := 90) hX (j := 5) k_Rea d_Rea_readBareToken_90 l_Rea_34 (by decide) rfl (by first | assumption | exact xup_s _ _ _ | exact xup_o (by omega) (by assumption) | exact xup_o (by omega) (xup_s _ _ _) | exact xup_o (by omega) (xup_o (by omega) (by assumption)) | exact xup_o (by omega) (xup_o (by omega) (xup_s _ _ _)) | exact xup_o (by omega) (xup_o (by omega) (xup_o (by omega) (by assumption)))) (Nat.le_of_ble_eq_true rfl) rfl rfl (by simp only [List.set_cons_zero, List.set_cons_succ]; exact rfl) ?_
        refine xg_vret (pc := 93) hX hE d_Rea_readBareToken_93 rfl (by omega) (by omega) ?_
        refine ⟨rfl, rfl, Or.inr ⟨?_, tk, tg + 1, p', ?_⟩, a2.tr (FrA.up _ _ _)⟩
        · rw [if_neg (by rw [b1]; decide)]; exact b1
        · rw [if_neg (by rw [b1]; decide)]
          exact b2.put (show tg + 1 ≤ 700 by omega) (by omega)
    refine xp_iload_1 (pc := 15) hX d_Rea_readBareToken_15 ?_
    refine xg_bipush (pc := 16) hX (nI 46) d_Rea_readBareToken_16 ci_bipush_46 ?_
    refine xn_icmp_ne (pc := 18) hX 78 d_Rea_readBareToken_18 (by decide) (by omega) (by omega) (fun z => k78 (fun q => z q.1)) (fun z => ?_)
    refine xp_aload_0 (pc := 21) hX d_Rea_readBareToken_21 ?_
    refine xg_get (pc := 22) hX (j := 0) k_Rea d_Rea_readBareToken_22 l_Rea_14 (by decide) (by first | assumption | exact xup_s _ _ _ | exact xup_o (by omega) (by assumption) | exact xup_o (by omega) (xup_s _ _ _) | exact xup_o (by omega) (xup_o (by omega) (by assumption)) | exact xup_o (by omega) (xup_o (by omega) (xup_s _ _ _)) | exact xup_o (by omega) (xup_o (by omega) (xup_o (by omega) (by assumption)))) (by rfl) ?_
    refine xp_aload_0 (pc := 25) hX d_Rea_readBareToken_25 ?_
    refine xg_get (pc := 26) hX (j := 6) k_Rea d_Rea_readBareToken_26 l_Rea_37 (by decide) (by first | assumption | exact xup_s _ _ _ | exact xup_o (by omega) (by assumption) | exact xup_o (by omega) (xup_s _ _ _) | exact xup_o (by omega) (xup_o (by omega) (by assumption)) | exact xup_o (by omega) (xup_o (by omega) (xup_s _ _ _)) | exact xup_o (by omega) (xup_o (by omega) (xup_o (by omega) (by assumption)))) (by rfl) ?_
    refine xg_iconst (pc := 29) hX (nI 1) d_Rea_readBareToken_29 ci_iconst_1 ?_
    first | refine xn_iadd (pc := 30) hX d_Rea_readBareToken_30 ?_ | refine xg_iadd (pc := 30) hX d_Rea_readBareToken_30 ?_
    refine xi_V (Y2 := Y_Row_at) (pc := 31) hX [_] k_Row m_Row_at d_Rea_readBareToken_31 l_Rea_53 rfl rfl (by simp [Value.category]) (by first | assumption | exact xup_s _ _ _ | exact xup_o (by omega) (by assumption) | exact xup_o (by omega) (xup_s _ _ _) | exact xup_o (by omega) (xup_o (by omega) (by assumption)) | exact xup_o (by omega) (xup_o (by omega) (xup_s _ _ _)) | exact xup_o (by omega) (xup_o (by omega) (xup_o (by omega) (by assumption)))) (c_Row_at (d + 2) (nI (pos + 1)) h2 (by omega)) (by omega) (by omega) ?_
    rintro y M1 ⟨rfl, rfl⟩
    rw [rAt_nI (by omega)]
    refine xi_SN (Y2 := Y_Nam_isSymbolByte) (pc := 34) hX [_] m_Nam_isSymbolByte d_Rea_readBareToken_34 l_Rea_95 rfl rfl (by simp [Value.category]) (c_Nam_isSymbolByte (d + 1) _) (by omega) (by omega) ?_
    rintro y M2 ⟨rfl, rfl⟩
    refine xg_if_ne (pc := 37) hX 78 d_Rea_readBareToken_37 (by decide) (fun z1 => k78 (fun q => by rw [bI_ne0.mp z1] at q; exact absurd q.2 (by decide))) (fun z1 => ?_)
    have z1 := bI_eq0.mp z1
    rw [if_neg (by decide), if_pos ⟨z, z1⟩] at hE
    refine xp_aload_0 (pc := 40) hX d_Rea_readBareToken_40 ?_
    refine xg_iconst (pc := 41) hX (nI 2) d_Rea_readBareToken_41 ci_iconst_2 ?_
    refine xp_aload_0 (pc := 42) hX d_Rea_readBareToken_42 ?_
    refine xg_get (pc := 43) hX (j := 6) k_Rea d_Rea_readBareToken_43 l_Rea_37 (by decide) (by first | assumption | exact xup_s _ _ _ | exact xup_o (by omega) (by assumption) | exact xup_o (by omega) (xup_s _ _ _) | exact xup_o (by omega) (xup_o (by omega) (by assumption)) | exact xup_o (by omega) (xup_o (by omega) (xup_s _ _ _)) | exact xup_o (by omega) (xup_o (by omega) (xup_o (by omega) (by assumption)))) (by rfl) ?_
    refine xp_aload_0 (pc := 46) hX d_Rea_readBareToken_46 ?_
    refine xg_get (pc := 47) hX (j := 6) k_Rea d_Rea_readBareToken_47 l_Rea_37 (by decide) (by first | assumption | exact xup_s _ _ _ | exact xup_o (by omega) (by assumption) | exact xup_o (by omega) (xup_s _ _ _) | exact xup_o (by omega) (xup_o (by omega) (by assumption)) | exact xup_o (by omega) (xup_o (by omega) (xup_s _ _ _)) | exact xup_o (by omega) (xup_o (by omega) (xup_o (by omega) (by assumption)))) (by rfl) ?_
    refine xg_iconst (pc := 50) hX (nI 1) d_Rea_readBareToken_50 ci_iconst_1 ?_
    first | refine xn_iadd (pc := 51) hX d_Rea_readBareToken_51 ?_ | refine xg_iadd (pc := 51) hX d_Rea_readBareToken_51 ?_
    refine xv_V (Y2 := Y_Rea_add) (pc := 52) hX [_, _, _] k_Rea m_Rea_add d_Rea_readBareToken_52 l_Rea_98 rfl rfl (by simp [Value.category]) (by first | assumption | exact xup_s _ _ _ | exact xup_o (by omega) (by assumption) | exact xup_o (by omega) (xup_s _ _ _) | exact xup_o (by omega) (xup_o (by omega) (by assumption)) | exact xup_o (by omega) (xup_o (by omega) (xup_s _ _ _)) | exact xup_o (by omega) (xup_o (by omega) (xup_o (by omega) (by assumption)))) (c_Rea_add (d + 2) hs htk) (by omega) (by omega) ?_
    rintro M3 ⟨a1, a2⟩
    obtain ⟨g1, -⟩ := id a1
    refine xp_aload_0 (pc := 55) hX d_Rea_readBareToken_55 ?_
    refine xg_dup (pc := 56) hX d_Rea_readBareToken_56 rfl ?_
    refine xg_get (pc := 57) hX (j := 5) k_Rea d_Rea_readBareToken_57 l_Rea_34 (by decide) (by first | assumption | exact xup_s _ _ _ | exact xup_o (by omega) (by assumption) | exact xup_o (by omega) (xup_s _ _ _) | exact xup_o (by omega) (xup_o (by omega) (by assumption)) | exact xup_o (by omega) (xup_o (by omega) (xup_s _ _ _)) | exact xup_o (by omega) (xup_o (by omega) (xup_o (by omega) (by assumption)))) (by rfl) ?_
    refine xg_iconst (pc := 60) hX (nI 1) d_Rea_readBareToken_60 ci_iconst_1 ?_
    first | refine xn_iadd (pc := 61) hX d_Rea_readBareToken_61 ?_ | refine xg_iadd (pc := 61) hX d_Rea_readBareToken_61 ?_
    refine xg_put (pc := 62) hX (j := 5) k_Rea d_Rea_readBareToken_62 l_Rea_34 (by decide) rfl (by first | assumption | exact xup_s _ _ _ | exact xup_o (by omega) (by assumption) | exact xup_o (by omega) (xup_s _ _ _) | exact xup_o (by omega) (xup_o (by omega) (by assumption)) | exact xup_o (by omega) (xup_o (by omega) (xup_s _ _ _)) | exact xup_o (by omega) (xup_o (by omega) (xup_o (by omega) (by assumption)))) (Nat.le_of_ble_eq_true rfl) rfl rfl (by simp only [List.set_cons_zero, List.set_cons_succ]; exact rfl) ?_
    refine xp_aload_0 (pc := 65) hX d_Rea_readBareToken_65 ?_
    refine xg_dup (pc := 66) hX d_Rea_readBareToken_66 rfl ?_
    refine xg_get (pc := 67) hX (j := 6) k_Rea d_Rea_readBareToken_67 l_Rea_37 (by decide) (by first | assumption | exact xup_s _ _ _ | exact xup_o (by omega) (by assumption) | exact xup_o (by omega) (xup_s _ _ _) | exact xup_o (by omega) (xup_o (by omega) (by assumption)) | exact xup_o (by omega) (xup_o (by omega) (xup_s _ _ _)) | exact xup_o (by omega) (xup_o (by omega) (xup_o (by omega) (by assumption)))) (by rfl) ?_
    refine xg_iconst (pc := 70) hX (nI 1) d_Rea_readBareToken_70 ci_iconst_1 ?_
    first | refine xn_iadd (pc := 71) hX d_Rea_readBareToken_71 ?_ | refine xg_iadd (pc := 71) hX d_Rea_readBareToken_71 ?_
    refine xg_put (pc := 72) hX (j := 6) k_Rea d_Rea_readBareToken_72 l_Rea_37 (by decide) rfl (by first | assumption | exact xup_s _ _ _ | exact xup_o (by omega) (by assumption) | exact xup_o (by omega) (xup_s _ _ _) | exact xup_o (by omega) (xup_o (by omega) (by assumption)) | exact xup_o (by omega) (xup_o (by omega) (xup_s _ _ _)) | exact xup_o (by omega) (xup_o (by omega) (xup_o (by omega) (by assumption)))) (Nat.le_of_ble_eq_true rfl) rfl rfl (by simp only [List.set_cons_zero, List.set_cons_succ]; exact rfl) ?_
    refine xg_goto (pc := 75) hX 93 d_Rea_readBareToken_75 (by decide) ?_
    refine xg_vret (pc := 93) hX hE d_Rea_readBareToken_93 rfl (by omega) (by omega) ?_
    refine ⟨rfl, rfl, Or.inl ⟨rfl, ?_⟩, a2.tr ((FrA.up _ _ _).tr (FrA.up _ _ _))⟩
    exact (a1.put (ans' := none) (show tg + 1 ≤ 700 by omega) (show pos ≤ 700 by omega)).put (by omega) (by omega)
  · have w : dig b = true := bI_ne0.mp w
    rw [w, if_pos rfl] at hE
    refine xp_aload_0 (pc := 7) hX d_Rea_readBareToken_7 ?_
    refine xg_iconst (pc := 8) hX (nI 5) d_Rea_readBareToken_8 ci_iconst_5 ?_
    refine xv_V (Y2 := Y_Rea_readPlace) (pc := 9) hX [_] k_Rea m_Rea_readPlace d_Rea_readBareToken_9 l_Rea_92 rfl rfl (by simp [Value.category]) (by first | assumption | exact xup_s _ _ _ | exact xup_o (by omega) (by assumption) | exact xup_o (by omega) (xup_s _ _ _) | exact xup_o (by omega) (xup_o (by omega) (by assumption)) | exact xup_o (by omega) (xup_o (by omega) (xup_s _ _ _)) | exact xup_o (by omega) (xup_o (by omega) (xup_o (by omega) (by assumption)))) (c_Rea_readPlace d (k := 5) hs (by omega) htk) (by omega) (by omega) ?_
    rintro M1 ⟨a1, a2⟩
    refine xg_goto (pc := 12) hX 93 d_Rea_readBareToken_12 (by decide) ?_
    refine xg_vret (pc := 93) hX hE d_Rea_readBareToken_93 rfl (by omega) (by omega) ?_
    rcases a1 with ⟨b1, b2⟩ | ⟨b1, p', b2⟩
    · refine ⟨rfl, rfl, Or.inl ⟨?_, ?_⟩, a2⟩
      · rw [if_pos b1]; exact b1
      · rw [if_pos b1]; exact b2
    · refine ⟨rfl, rfl, Or.inr ⟨?_, tk, tg, p', ?_⟩, a2⟩
      · rw [if_neg (by rw [b1]; decide)]; exact b1
      · rw [if_neg (by rw [b1]; decide)]; exact b2
theorem lk_off {n : Nat} {k : Int} {o d : Int} {r : List (Int × Int)} (h : ¬ (n : Int) = k) : Op.lookupswitch.offset ((k, o) :: r) d (n : Int) = Op.lookupswitch.offset r d (n : Int) := by
  rw [Op.lookupswitch.offset_cons, if_neg]
  intro q
  exact h q.symm
set_option maxHeartbeats 4000000 in
set_option maxRecDepth 100000 in
theorem c_Rea_readToken (d : Nat) {M : xH} {sz h tg pos : Nat} {t : List UInt8} {tk : List xTk} (hs : ReA M h t tk tg pos none) (hp : pos < t.length) (htk : tk.length < 600) (htg : tg < 700) : xC (d + 4) 0 0 Y_Rea_readToken [.ref h] M sz (qv sz (fun M' => RdQ M M' h t tk tg (tok1 t pos))) := by
  refine xC_of (by decide) (Nat.le_of_ble_eq_true rfl) (by simp [Value.category]) (vs := [some (.ref h), none]) rfl (fun K hX hE => ?_)
  have hl : t.length ≤ 600 := hs.2.1.2.1
  have ht4 := hs.2.2.2.1
  have hb : t[pos]? = some t[pos] := List.getElem?_eq_getElem hp
  generalize t[pos] = b at hb
  have hbb := by_lt b
  have hbi : (nI b.toNat).toInt = (b.toNat : Int) := nI_toInt (by omega)
  have hR : tok1 t pos = (if b.toNat = 32 then ((pos + 1, true), none)
    else if b.toNat = 34 ∨ b.toNat = 39 then (if (rdS t b pos (t.length - pos) (pos + 1) 0).2 then (((rdS t b pos (t.length - pos) (pos + 1) 0).1 + 1, true), some (3, pos + 1, (rdS t b pos (t.length - pos) (pos + 1) 0).1)) else (rdS t b pos (t.length - pos) (pos + 1) 0, none))
    else if b.toNat = 40 then (if (rdB t pos).1.2 then ((rdB t pos).1, some (4, (rdB t pos).2)) else ((rdB t pos).1, none))
    else if b.toNat = 43 ∨ b.toNat = 45 ∨ b.toNat = 61 then (if (rdP t (sc bl t (pos + 1) t.length)).2 then (rdP t (sc bl t (pos + 1) t.length), some (if b.toNat = 43 then 6 else if b.toNat = 45 then 7 else 5, sc bl t (pos + 1) t.length, (rdP t (sc bl t (pos + 1) t.length)).1)) else (rdP t (sc bl t (pos + 1) t.length), none))
    else if dig b then (if (rdP t pos).2 then (rdP t pos, some (5, pos, (rdP t pos).1)) else (rdP t pos, none))
    else if b.toNat = 46 ∧ osym t[pos + 1]? = false then ((pos + 1, true), some (2, pos, pos + 1))
    else (if (rdV t pos).2 then (rdV t pos, some (1, pos, (rdV t pos).1)) else (rdV t pos, none))) := by
    unfold tok1
    rw [hb]
  rw [hR] at hE
  obtain ⟨h1, h2, -⟩ := id hs
  obtain ⟨r1, -⟩ := id h2
  refine xp_aload_0 (pc := 0) hX d_Rea_readToken_0 ?_
  refine xg_get (pc := 1) hX (j := 0) k_Rea d_Rea_readToken_1 l_Rea_14 (by decide) (by first | assumption | exact xup_s _ _ _ | exact xup_o (by omega) (by assumption) | exact xup_o (by omega) (xup_s _ _ _) | exact xup_o (by omega) (xup_o (by omega) (by assumption)) | exact xup_o (by omega) (xup_o (by omega) (xup_s _ _ _)) | exact xup_o (by omega) (xup_o (by omega) (xup_o (by omega) (by assumption)))) (by rfl) ?_
  refine xp_aload_0 (pc := 4) hX d_Rea_readToken_4 ?_
  refine xg_get (pc := 5) hX (j := 6) k_Rea d_Rea_readToken_5 l_Rea_37 (by decide) (by first | assumption | exact xup_s _ _ _ | exact xup_o (by omega) (by assumption) | exact xup_o (by omega) (xup_s _ _ _) | exact xup_o (by omega) (xup_o (by omega) (by assumption)) | exact xup_o (by omega) (xup_o (by omega) (xup_s _ _ _)) | exact xup_o (by omega) (xup_o (by omega) (xup_o (by omega) (by assumption)))) (by rfl) ?_
  refine xi_V (Y2 := Y_Row_at) (pc := 8) hX [_] k_Row m_Row_at d_Rea_readToken_8 l_Rea_53 rfl rfl (by simp [Value.category]) (by first | assumption | exact xup_s _ _ _ | exact xup_o (by omega) (by assumption) | exact xup_o (by omega) (xup_s _ _ _) | exact xup_o (by omega) (xup_o (by omega) (by assumption)) | exact xup_o (by omega) (xup_o (by omega) (xup_s _ _ _)) | exact xup_o (by omega) (xup_o (by omega) (xup_o (by omega) (by assumption)))) (c_Row_at (d + 3) (nI pos) h2 (by omega)) (by omega) (by omega) ?_
  rintro y M' ⟨rfl, rfl⟩
  rw [rAt_nI (by omega), hb]
  refine xp_istore_1 (x := nI b.toNat) (pc := 11) hX d_Rea_readToken_11 (by decide) ?_
  refine xp_iload_1 (pc := 12) hX d_Rea_readToken_12 ?_
  by_cases c1 : b.toNat = 32
  · rw [if_pos c1] at hE
    refine xg_lookup (pc := 13) hX 80 d_Rea_readToken_13 (by decide) (by rw [hbi, c1] <;> rfl) (by decide) ?_
    refine xp_aload_0 (pc := 80) hX d_Rea_readToken_80 ?_
    refine xg_dup (pc := 81) hX d_Rea_readToken_81 rfl ?_
    refine xg_get (pc := 82) hX (j := 6) k_Rea d_Rea_readToken_82 l_Rea_37 (by decide) (by first | assumption | exact xup_s _ _ _ | exact xup_o (by omega) (by assumption) | exact xup_o (by omega) (xup_s _ _ _) | exact xup_o (by omega) (xup_o (by omega) (by assumption)) | exact xup_o (by omega) (xup_o (by omega) (xup_s _ _ _)) | exact xup_o (by omega) (xup_o (by omega) (xup_o (by omega) (by assumption)))) (by rfl) ?_
    refine xg_iconst (pc := 85) hX (nI 1) d_Rea_readToken_85 ci_iconst_1 ?_
    first | refine xn_iadd (pc := 86) hX d_Rea_readToken_86 ?_ | refine xg_iadd (pc := 86) hX d_Rea_readToken_86 ?_
    refine xg_put (pc := 87) hX (j := 6) k_Rea d_Rea_readToken_87 l_Rea_37 (by decide) rfl (by first | assumption | exact xup_s _ _ _ | exact xup_o (by omega) (by assumption) | exact xup_o (by omega) (xup_s _ _ _) | exact xup_o (by omega) (xup_o (by omega) (by assumption)) | exact xup_o (by omega) (xup_o (by omega) (xup_s _ _ _)) | exact xup_o (by omega) (xup_o (by omega) (xup_o (by omega) (by assumption)))) (Nat.le_of_ble_eq_true rfl) rfl rfl (by simp only [List.set_cons_zero, List.set_cons_succ]; exact rfl) ?_
    refine xg_goto (pc := 90) hX 139 d_Rea_readToken_90 (by decide) ?_
    refine xg_vret (pc := 139) hX hE d_Rea_readToken_139 rfl (by omega) (by omega) ?_
    refine ⟨rfl, rfl, Or.inl ⟨rfl, ?_⟩, FrA.up _ _ _⟩
    rw [show tk ++ ((none : Option xTk).toList) = tk by simp]
    exact hs.put ht4 (by omega)
  · rw [if_neg c1] at hE
    by_cases c2 : b.toNat = 34 ∨ b.toNat = 39
    · rw [if_pos c2] at hE
      refine xg_lookup (pc := 13) hX 93 d_Rea_readToken_13 (by decide) (off := 80) (by rcases c2 with c2 | c2 <;> rw [hbi, c2] <;> rfl) (by decide) ?_
      refine xp_aload_0 (pc := 93) hX d_Rea_readToken_93 ?_
      refine xp_iload_1 (pc := 94) hX d_Rea_readToken_94 ?_
      refine xv_V (Y2 := Y_Rea_readString) (pc := 95) hX [_] k_Rea m_Rea_readString d_Rea_readToken_95 l_Rea_77 rfl rfl (by simp [Value.category]) (by first | assumption | exact xup_s _ _ _ | exact xup_o (by omega) (by assumption) | exact xup_o (by omega) (xup_s _ _ _) | exact xup_o (by omega) (xup_o (by omega) (by assumption)) | exact xup_o (by omega) (xup_o (by omega) (xup_s _ _ _)) | exact xup_o (by omega) (xup_o (by omega) (xup_o (by omega) (by assumption)))) (c_Rea_readString (d + 2) (q := b) hs hp htk) (by omega) (by omega) ?_
      rintro M1 ⟨a1, a2⟩
      refine xg_goto (pc := 98) hX 139 d_Rea_readToken_98 (by decide) ?_
      refine xg_vret (pc := 139) hX hE d_Rea_readToken_139 rfl (by omega) (by omega) ?_
      generalize rdS t b pos (t.length - pos) (pos + 1) 0 = R at *
      rcases a1 with ⟨b1, b2⟩ | ⟨b1, p', b2⟩
      · refine ⟨rfl, rfl, Or.inl ⟨?_, ?_⟩, a2⟩
        · rw [if_pos b1]
        · rw [if_pos b1]; exact b2
      · refine ⟨rfl, rfl, Or.inr ⟨?_, tk, tg, p', ?_⟩, a2⟩
        · rw [if_neg (by rw [b1]; decide)]; exact b1
        · rw [if_neg (by rw [b1]; decide)]; exact b2
    · rw [if_neg c2] at hE
      by_cases c3 : b.toNat = 40
      · rw [if_pos c3] at hE
        refine xg_lookup (pc := 13) hX 101 d_Rea_readToken_13 (by decide) (by rw [hbi, c3] <;> rfl) (by decide) ?_
        refine xp_aload_0 (pc := 101) hX d_Rea_readToken_101 ?_
        refine xv_V (Y2 := Y_Rea_readBracket) (pc := 102) hX [] k_Rea m_Rea_readBracket d_Rea_readToken_102 l_Rea_80 rfl rfl (by simp [Value.category]) (by first | assumption | exact xup_s _ _ _ | exact xup_o (by omega) (by assumption) | exact xup_o (by omega) (xup_s _ _ _) | exact xup_o (by omega) (xup_o (by omega) (by assumption)) | exact xup_o (by omega) (xup_o (by omega) (xup_s _ _ _)) | exact xup_o (by omega) (xup_o (by omega) (xup_o (by omega) (by assumption)))) (c_Rea_readBracket d hs hp htk) (by omega) (by omega) ?_
        rintro M1 ⟨a1, a2⟩
        refine xg_goto (pc := 105) hX 139 d_Rea_readToken_105 (by decide) ?_
        refine xg_vret (pc := 139) hX hE d_Rea_readToken_139 rfl (by omega) (by omega) ?_
        generalize rdB t pos = R at *
        rcases a1 with ⟨b1, b2⟩ | ⟨b1, tk', p', b2⟩
        · refine ⟨rfl, rfl, Or.inl ⟨?_, ?_⟩, a2⟩
          · rw [if_pos b1]; exact b1
          · rw [if_pos b1]; exact b2
        · refine ⟨rfl, rfl, Or.inr ⟨?_, tk', tg, p', ?_⟩, a2⟩
          · rw [if_neg (by rw [b1]; decide)]; exact b1
          · rw [if_neg (by rw [b1]; decide)]; exact b2
      · rw [if_neg c3] at hE
        by_cases c4 : b.toNat = 43 ∨ b.toNat = 45 ∨ b.toNat = 61
        · rw [if_pos c4] at hE
          have fin : ∀ (M1 : xH) (k : Nat), k = (if b.toNat = 43 then 6 else if b.toNat = 45 then 7 else 5) → (((rdP t (sc bl t (pos + 1) t.length)).2 = true ∧ ReA M1 h t (tk ++ [(k, sc bl t (pos + 1) t.length, (rdP t (sc bl t (pos + 1) t.length)).1)]) tg (rdP t (sc bl t (pos + 1) t.length)).1 none) ∨ ((rdP t (sc bl t (pos + 1) t.length)).2 = false ∧ ∃ pos', ReA M1 h t tk tg pos' (some (rdP t (sc bl t (pos + 1) t.length)).1))) → FrA M' M1 h → xG K 139 [some (.ref h), some (.int (nI b.toNat))] [] M1 sz 0 0 := by
            intro M1 k hk a1 a2
            refine xg_vret (pc := 139) hX hE d_Rea_readToken_139 rfl (by omega) (by omega) ?_
            rw [← hk]
            have hk2 : isTg k = false := by
              rw [hk]; split
              · rfl
              · split <;> rfl
            generalize rdP t (sc bl t (pos + 1) t.length) = R at *
            rcases a1 with ⟨b1, b2⟩ | ⟨b1, p', b2⟩
            · refine ⟨rfl, rfl, Or.inl ⟨?_, ?_⟩, a2⟩
              · rw [if_pos b1]; exact b1
              · rw [if_pos b1]
                simp [hk2]
                exact b2
            · refine ⟨rfl, rfl, Or.inr ⟨?_, tk, tg, p', ?_⟩, a2⟩
              · rw [if_neg (by rw [b1]; decide)]; exact b1
              · rw [if_neg (by rw [b1]; decide)]; exact b2
          rcases c4 with c4 | c4 | c4
          · refine xg_lookup (pc := 13) hX 116 d_Rea_readToken_13 (by decide) (by rw [hbi, c4] <;> rfl) (by decide) ?_
            refine xp_aload_0 (pc := 116) hX d_Rea_readToken_116 ?_
            refine xg_bipush (pc := 117) hX (nI 6) d_Rea_readToken_117 ci_bipush_6 ?_
            refine xv_V (Y2 := Y_Rea_readSignedPlace) (pc := 119) hX [_] k_Rea m_Rea_readSignedPlace d_Rea_readToken_119 l_Rea_83 rfl rfl (by simp [Value.category]) (by first | assumption | exact xup_s _ _ _ | exact xup_o (by omega) (by assumption) | exact xup_o (by omega) (xup_s _ _ _) | exact xup_o (by omega) (xup_o (by omega) (by assumption)) | exact xup_o (by omega) (xup_o (by omega) (xup_s _ _ _)) | exact xup_o (by omega) (xup_o (by omega) (xup_o (by omega) (by assumption)))) (c_Rea_readSignedPlace d (k := 6) hs hp htk) (by omega) (by omega) ?_
            rintro M1 ⟨a1, a2⟩
            refine xg_goto (pc := 122) hX 139 d_Rea_readToken_122 (by decide) ?_
            exact fin M1 6 (by rw [if_pos c4]) a1 a2
          · refine xg_lookup (pc := 13) hX 125 d_Rea_readToken_13 (by decide) (by rw [hbi, c4] <;> rfl) (by decide) ?_
            refine xp_aload_0 (pc := 125) hX d_Rea_readToken_125 ?_
            refine xg_bipush (pc := 126) hX (nI 7) d_Rea_readToken_126 ci_bipush_7 ?_
            refine xv_V (Y2 := Y_Rea_readSignedPlace) (pc := 128) hX [_] k_Rea m_Rea_readSignedPlace d_Rea_readToken_128 l_Rea_83 rfl rfl (by simp [Value.category]) (by first | assumption | exact xup_s _ _ _ | exact xup_o (by omega) (by assumption) | exact xup_o (by omega) (xup_s _ _ _) | exact xup_o (by omega) (xup_o (by omega) (by assumption)) | exact xup_o (by omega) (xup_o (by omega) (xup_s _ _ _)) | exact xup_o (by omega) (xup_o (by omega) (xup_o (by omega) (by assumption)))) (c_Rea_readSignedPlace d (k := 7) hs hp htk) (by omega) (by omega) ?_
            rintro M1 ⟨a1, a2⟩
            refine xg_goto (pc := 131) hX 139 d_Rea_readToken_131 (by decide) ?_
            exact fin M1 7 (by rw [if_neg (by omega), if_pos c4]) a1 a2
          · refine xg_lookup (pc := 13) hX 108 d_Rea_readToken_13 (by decide) (by rw [hbi, c4] <;> rfl) (by decide) ?_
            refine xp_aload_0 (pc := 108) hX d_Rea_readToken_108 ?_
            refine xg_iconst (pc := 109) hX (nI 5) d_Rea_readToken_109 ci_iconst_5 ?_
            refine xv_V (Y2 := Y_Rea_readSignedPlace) (pc := 110) hX [_] k_Rea m_Rea_readSignedPlace d_Rea_readToken_110 l_Rea_83 rfl rfl (by simp [Value.category]) (by first | assumption | exact xup_s _ _ _ | exact xup_o (by omega) (by assumption) | exact xup_o (by omega) (xup_s _ _ _) | exact xup_o (by omega) (xup_o (by omega) (by assumption)) | exact xup_o (by omega) (xup_o (by omega) (xup_s _ _ _)) | exact xup_o (by omega) (xup_o (by omega) (xup_o (by omega) (by assumption)))) (c_Rea_readSignedPlace d (k := 5) hs hp htk) (by omega) (by omega) ?_
            rintro M1 ⟨a1, a2⟩
            refine xg_goto (pc := 113) hX 139 d_Rea_readToken_113 (by decide) ?_
            exact fin M1 5 (by rw [if_neg (by omega), if_neg (by omega)]) a1 a2
        · rw [if_neg c4] at hE
          refine xg_lookup (pc := 13) hX 134 d_Rea_readToken_13 (by decide) (off := 121) (by
            rw [hbi]
            show Op.lookupswitch.offset [(32, _), (34, _), (39, _), (40, _), (43, _), (45, _), (61, _)] 121 (b.toNat : Int) = 121
            rw [lk_off (by omega), lk_off (by omega), lk_off (by omega), lk_off (by omega), lk_off (by omega), lk_off (by omega), lk_off (by omega)]
            rfl) (by decide) ?_
          refine xp_aload_0 (pc := 134) hX d_Rea_readToken_134 ?_
          refine xp_iload_1 (pc := 135) hX d_Rea_readToken_135 ?_
          refine xv_V (Y2 := Y_Rea_readBareToken) (pc := 136) hX [_] k_Rea m_Rea_readBareToken d_Rea_readToken_136 l_Rea_86 rfl rfl (by simp [Value.category]) (by first | assumption | exact xup_s _ _ _ | exact xup_o (by omega) (by assumption) | exact xup_o (by omega) (xup_s _ _ _) | exact xup_o (by omega) (xup_o (by omega) (by assumption)) | exact xup_o (by omega) (xup_o (by omega) (xup_s _ _ _)) | exact xup_o (by omega) (xup_o (by omega) (xup_o (by omega) (by assumption)))) (c_Rea_readBareToken d hs hb htk htg) (by omega) (by omega) ?_
          intro M1 a1
          refine xg_vret (pc := 139) hX hE d_Rea_readToken_139 rfl (by omega) (by omega) ?_
          exact ⟨rfl, rfl, a1⟩
