/-! NameRoom$Reader: reading a variable, a place -/
/-- a VARIABLE may begin with this byte -/
def vOK (o : Option UInt8) : Bool := osym o && !odig o && !(o == some 46)
/-- reading a VARIABLE from s on: its end, or the place where it is WRONG -/
def rdV (t : List UInt8) (s : Nat) : Nat × Bool := if vOK t[s]? then (sc sym t s (min (s + 30) t.length), !osym t[sc sym t s (min (s + 30) t.length)]?) else (s, false)
/-- reading a number of 1 to 4 digits -/
def rdP (t : List UInt8) (s : Nat) : Nat × Bool := (sc dig t s (min (s + 4) t.length), !(sc dig t s (min (s + 4) t.length) == s) && !osym t[sc dig t s (min (s + 4) t.length)]?)
theorem vOK_lt {t : List UInt8} {s : Nat} (h : vOK t[s]? = true) : s < t.length := by
  rcases Nat.lt_or_ge s t.length with q | q
  · exact q
  · rw [List.getElem?_eq_none q] at h
    exact absurd h (by decide)
theorem rdV_le {t : List UInt8} {s : Nat} (h : s ≤ t.length) : s ≤ (rdV t s).1 ∧ (rdV t s).1 ≤ t.length := by
  unfold rdV
  split
  · have := sc_le (P := sym) (bs := t) (a := s) (b := min (s + 30) t.length) (by omega) (by omega)
    dsimp only
    omega
  · dsimp only; omega
theorem rdP_le {t : List UInt8} {s : Nat} (h : s ≤ t.length) : s ≤ (rdP t s).1 ∧ (rdP t s).1 ≤ t.length := by
  unfold rdP
  have := sc_le (P := dig) (bs := t) (a := s) (b := min (s + 4) t.length) (by omega) (by omega)
  dsimp only
  omega
set_option maxHeartbeats 4000000 in
set_option maxRecDepth 100000 in
theorem c_Rea_skipBlanks (d : Nat) {M : xH} {sz h tg pos : Nat} {t : List UInt8} {tk : List xTk} {ans : Option Nat} (hs : ReA M h t tk tg pos ans) (hp : pos ≤ t.length) : xC (d + 1) 0 0 Y_Rea_skipBlanks [.ref h] M sz (qv sz (fun M' => ReA M' h t tk tg (sc bl t pos t.length) ans ∧ FrA M M' h)) := by
  refine xC_of (by decide) (Nat.le_of_ble_eq_true rfl) (by simp [Value.category]) (vs := [some (.ref h)]) rfl (fun K hX hE => ?_)
  have hl : t.length ≤ 600 := hs.2.1.2.1
  have ht4 := hs.2.2.2.1
  have loop : ∀ (m i : Nat) (M1 : xH), i + m = t.length → sc bl t pos t.length = sc bl t i t.length → ReA M1 h t tk tg i ans → FrA M M1 h → xG K 0 [some (.ref h)] [] M1 sz 0 0 := by
    intro m
    induction m with
    | zero =>
      intro i M1 hi hsc hs1 hf
      obtain ⟨h1, h2, -⟩ := id hs1
      obtain ⟨r1, -⟩ := id h2
      refine xp_aload_0 (pc := 0) hX d_Rea_skipBlanks_0 ?_
      refine xg_get (pc := 1) hX (j := 6) k_Rea d_Rea_skipBlanks_1 l_Rea_37 (by decide) (by first | assumption | exact xup_s _ _ _ | exact xup_o (by omega) (by assumption) | exact xup_o (by omega) (xup_s _ _ _) | exact xup_o (by omega) (xup_o (by omega) (by assumption)) | exact xup_o (by omega) (xup_o (by omega) (xup_s _ _ _)) | exact xup_o (by omega) (xup_o (by omega) (xup_o (by omega) (by assumption)))) (by rfl) ?_
      refine xp_aload_0 (pc := 4) hX d_Rea_skipBlanks_4 ?_
      refine xg_get (pc := 5) hX (j := 0) k_Rea d_Rea_skipBlanks_5 l_Rea_14 (by decide) (by first | assumption | exact xup_s _ _ _ | exact xup_o (by omega) (by assumption) | exact xup_o (by omega) (xup_s _ _ _) | exact xup_o (by omega) (xup_o (by omega) (by assumption)) | exact xup_o (by omega) (xup_o (by omega) (xup_s _ _ _)) | exact xup_o (by omega) (xup_o (by omega) (xup_o (by omega) (by assumption)))) (by rfl) ?_
      refine xg_get (pc := 8) hX (j := 1) k_Row d_Rea_skipBlanks_8 l_Rea_68 (by decide) (by first | assumption | exact xup_s _ _ _ | exact xup_o (by omega) (by assumption) | exact xup_o (by omega) (xup_s _ _ _) | exact xup_o (by omega) (xup_o (by omega) (by assumption)) | exact xup_o (by omega) (xup_o (by omega) (xup_s _ _ _)) | exact xup_o (by omega) (xup_o (by omega) (xup_o (by omega) (by assumption)))) (by rfl) ?_
      refine xn_icmp_ge (pc := 11) hX 43 d_Rea_skipBlanks_11 (by decide) (by omega) (by omega) (fun _ => ?_) (fun z => absurd z (by omega))
      refine xg_vret (pc := 43) hX hE d_Rea_skipBlanks_43 rfl (by omega) (by omega) ?_
      refine ⟨rfl, rfl, ?_, hf⟩
      rw [hsc, show i = t.length by omega, sc_end]
      rw [show i = t.length by omega] at hs1
      exact hs1
    | succ m ih =>
      intro i M1 hi hsc hs1 hf
      obtain ⟨h1, h2, -⟩ := id hs1
      obtain ⟨r1, -⟩ := id h2
      have hlt : i < t.length := by omega
      refine xp_aload_0 (pc := 0) hX d_Rea_skipBlanks_0 ?_
      refine xg_get (pc := 1) hX (j := 6) k_Rea d_Rea_skipBlanks_1 l_Rea_37 (by decide) (by first | assumption | exact xup_s _ _ _ | exact xup_o (by omega) (by assumption) | exact xup_o (by omega) (xup_s _ _ _) | exact xup_o (by omega) (xup_o (by omega) (by assumption)) | exact xup_o (by omega) (xup_o (by omega) (xup_s _ _ _)) | exact xup_o (by omega) (xup_o (by omega) (xup_o (by omega) (by assumption)))) (by rfl) ?_
      refine xp_aload_0 (pc := 4) hX d_Rea_skipBlanks_4 ?_
      refine xg_get (pc := 5) hX (j := 0) k_Rea d_Rea_skipBlanks_5 l_Rea_14 (by decide) (by first | assumption | exact xup_s _ _ _ | exact xup_o (by omega) (by assumption) | exact xup_o (by omega) (xup_s _ _ _) | exact xup_o (by omega) (xup_o (by omega) (by assumption)) | exact xup_o (by omega) (xup_o (by omega) (xup_s _ _ _)) | exact xup_o (by omega) (xup_o (by omega) (xup_o (by omega) (by assumption)))) (by rfl) ?_
      refine xg_get (pc := 8) hX (j := 1) k_Row d_Rea_skipBlanks_8 l_Rea_68 (by decide) (by first | assumption | exact xup_s _ _ _ | exact xup_o (by omega) (by assumption) | exact xup_o (by omega) (xup_s _ _ _) | exact xup_o (by omega) (xup_o (by omega) (by assumption)) | exact xup_o (by omega) (xup_o (by omega) (xup_s _ _ _)) | exact xup_o (by omega) (xup_o (by omega) (xup_o (by omega) (by assumption)))) (by rfl) ?_
      refine xn_icmp_ge (pc := 11) hX 43 d_Rea_skipBlanks_11 (by decide) (by omega) (by omega) (fun z => absurd z (by omega)) (fun _ => ?_)
      refine xp_aload_0 (pc := 14) hX d_Rea_skipBlanks_14 ?_
      refine xg_get (pc := 15) hX (j := 0) k_Rea d_Rea_skipBlanks_15 l_Rea_14 (by decide) (by first | assumption | exact xup_s _ _ _ | exact xup_o (by omega) (by assumption) | exact xup_o (by omega) (xup_s _ _ _) | exact xup_o (by omega) (xup_o (by omega) (by assumption)) | exact xup_o (by omega) (xup_o (by omega) (xup_s _ _ _)) | exact xup_o (by omega) (xup_o (by omega) (xup_o (by omega) (by assumption)))) (by rfl) ?_
      refine xp_aload_0 (pc := 18) hX d_Rea_skipBlanks_18 ?_
      refine xg_get (pc := 19) hX (j := 6) k_Rea d_Rea_skipBlanks_19 l_Rea_37 (by decide) (by first | assumption | exact xup_s _ _ _ | exact xup_o (by omega) (by assumption) | exact xup_o (by omega) (xup_s _ _ _) | exact xup_o (by omega) (xup_o (by omega) (by assumption)) | exact xup_o (by omega) (xup_o (by omega) (xup_s _ _ _)) | exact xup_o (by omega) (xup_o (by omega) (xup_o (by omega) (by assumption)))) (by rfl) ?_
      refine xi_V (Y2 := Y_Row_at) (pc := 22) hX [_] k_Row m_Row_at d_Rea_skipBlanks_22 l_Rea_53 rfl rfl (by simp [Value.category]) (by first | assumption | exact xup_s _ _ _ | exact xup_o (by omega) (by assumption) | exact xup_o (by omega) (xup_s _ _ _) | exact xup_o (by omega) (xup_o (by omega) (by assumption)) | exact xup_o (by omega) (xup_o (by omega) (xup_s _ _ _)) | exact xup_o (by omega) (xup_o (by omega) (xup_o (by omega) (by assumption)))) (c_Row_at d (nI i) h2 (by omega)) (by omega) (by omega) ?_
      rintro y M' ⟨rfl, rfl⟩
      rw [rAt_nI (by omega), List.getElem?_eq_getElem hlt]
      refine xg_bipush (pc := 25) hX (nI 32) d_Rea_skipBlanks_25 ci_bipush_32 ?_
      refine xg_icmp_ne (pc := 27) hX 43 d_Rea_skipBlanks_27 (by decide) (fun z => ?_) (fun z => ?_)
      · have z : t[i] ≠ 32 := fun w => z ((oI_eq (by decide)).mpr (by rw [w]; rfl))
        refine xg_vret (pc := 43) hX hE d_Rea_skipBlanks_43 rfl (by omega) (by omega) ?_
        refine ⟨rfl, rfl, ?_, hf⟩
        rw [hsc, sc_hit (by omega) (by omega) (by simp [bl, z])]
        exact hs1
      · have z := (oI_eq (by decide)).mp z
        refine xp_aload_0 (pc := 30) hX d_Rea_skipBlanks_30 ?_
        refine xg_dup (pc := 31) hX d_Rea_skipBlanks_31 rfl ?_
        refine xg_get (pc := 32) hX (j := 6) k_Rea d_Rea_skipBlanks_32 l_Rea_37 (by decide) (by first | assumption | exact xup_s _ _ _ | exact xup_o (by omega) (by assumption) | exact xup_o (by omega) (xup_s _ _ _) | exact xup_o (by omega) (xup_o (by omega) (by assumption)) | exact xup_o (by omega) (xup_o (by omega) (xup_s _ _ _)) | exact xup_o (by omega) (xup_o (by omega) (xup_o (by omega) (by assumption)))) (by rfl) ?_
        refine xg_iconst (pc := 35) hX (nI 1) d_Rea_skipBlanks_35 ci_iconst_1 ?_
        first | refine xn_iadd (pc := 36) hX d_Rea_skipBlanks_36 ?_ | refine xg_iadd (pc := 36) hX d_Rea_skipBlanks_36 ?_
        refine xg_put (pc := 37) hX (j := 6) k_Rea d_Rea_skipBlanks_37 l_Rea_37 (by decide) rfl (by first | assumption | exact xup_s _ _ _ | exact xup_o (by omega) (by assumption) | exact xup_o (by omega) (xup_s _ _ _) | exact xup_o (by omega) (xup_o (by omega) (by assumption)) | exact xup_o (by omega) (xup_o (by omega) (xup_s _ _ _)) | exact xup_o (by omega) (xup_o (by omega) (xup_o (by omega) (by assumption)))) (Nat.le_of_ble_eq_true rfl) rfl rfl (by simp only [List.set_cons_zero, List.set_cons_succ]; exact rfl) ?_
        refine xg_goto (pc := 40) hX 0 d_Rea_skipBlanks_40 (by decide) ?_
        refine ih (i + 1) _ (by omega) ?_ (hs1.put ht4 (by omega)) (hf.tr (FrA.up _ _ _))
        rw [hsc, sc_miss (by omega) (by omega) (by
          have := Option.some.inj z
          simp [bl, this])]
  exact loop (t.length - pos) pos M (by omega) rfl hs (FrA.rf _ _)
set_option maxHeartbeats 4000000 in
set_option maxRecDepth 100000 in
theorem c_Rea_readVariable (d : Nat) {M : xH} {sz h tg pos k : Nat} {t : List UInt8} {tk : List xTk} (hs : ReA M h t tk tg pos none) (hp : pos ≤ t.length) (htk : tk.length < 600) : xC (d + 2) 0 0 Y_Rea_readVariable [.ref h, .int (nI k)] M sz (qv sz (fun M' => (((rdV t pos).2 = true ∧ ReA M' h t (tk ++ [(k, pos, (rdV t pos).1)]) tg (rdV t pos).1 none) ∨ ((rdV t pos).2 = false ∧ ∃ pos', ReA M' h t tk tg pos' (some (rdV t pos).1) ∧ pos' ≤ t.length)) ∧ FrA M M' h)) := by
  refine xC_of (by decide) (Nat.le_of_ble_eq_true rfl) (by simp [Value.category]) (vs := [some (.ref h), some (.int (nI k)), none, none]) rfl (fun K hX hE => ?_)
  have hl : t.length ≤ 600 := hs.2.1.2.1
  have ht4 := hs.2.2.2.1
  obtain ⟨h1, h2, -⟩ := id hs
  obtain ⟨r1, -⟩ := id h2
  have k37 : ∀ vs : List (Option Value), vOK t[pos]? = false → xG K 37 (some (.ref h) :: vs) [] M sz 0 0 := by
    intro vs hv
    refine xp_aload_0 (pc := 37) hX d_Rea_readVariable_37 ?_
    refine xp_aload_0 (pc := 38) hX d_Rea_readVariable_38 ?_
    refine xg_get (pc := 39) hX (j := 6) k_Rea d_Rea_readVariable_39 l_Rea_37 (by decide) (by first | assumption | exact xup_s _ _ _ | exact xup_o (by omega) (by assumption) | exact xup_o (by omega) (xup_s _ _ _) | exact xup_o (by omega) (xup_o (by omega) (by assumption)) | exact xup_o (by omega) (xup_o (by omega) (xup_s _ _ _)) | exact xup_o (by omega) (xup_o (by omega) (xup_o (by omega) (by assumption)))) (by rfl) ?_
    refine xv_V (Y2 := Y_Rea_fail) (pc := 42) hX [_] k_Rea m_Rea_fail d_Rea_readVariable_42 l_Rea_71 rfl rfl (by simp [Value.category]) (by first | assumption | exact xup_s _ _ _ | exact xup_o (by omega) (by assumption) | exact xup_o (by omega) (xup_s _ _ _) | exact xup_o (by omega) (xup_o (by omega) (by assumption)) | exact xup_o (by omega) (xup_o (by omega) (xup_s _ _ _)) | exact xup_o (by omega) (xup_o (by omega) (xup_o (by omega) (by assumption)))) (c_Rea_fail (d + 1) (p := pos) hs) (by omega) (by omega) ?_
    rintro M1 ⟨a1, a2⟩
    refine xg_vret (pc := 45) hX hE d_Rea_readVariable_45 rfl (by omega) (by omega) ?_
    have e : rdV t pos = (pos, false) := by unfold rdV; rw [hv]; rfl
    exact ⟨rfl, rfl, Or.inr ⟨by rw [e], pos, by rw [e]; exact a1, hp⟩, a2⟩
  refine xp_aload_0 (pc := 0) hX d_Rea_readVariable_0 ?_
  refine xg_get (pc := 1) hX (j := 6) k_Rea d_Rea_readVariable_1 l_Rea_37 (by decide) (by first | assumption | exact xup_s _ _ _ | exact xup_o (by omega) (by assumption) | exact xup_o (by omega) (xup_s _ _ _) | exact xup_o (by omega) (xup_o (by omega) (by assumption)) | exact xup_o (by omega) (xup_o (by omega) (xup_s _ _ _)) | exact xup_o (by omega) (xup_o (by omega) (xup_o (by omega) (by assumption)))) (by rfl) ?_
  refine xp_istore_2 (pc := 4) hX d_Rea_readVariable_4 (by decide) ?_
  refine xp_aload_0 (pc := 5) hX d_Rea_readVariable_5 ?_
  refine xg_get (pc := 6) hX (j := 0) k_Rea d_Rea_readVariable_6 l_Rea_14 (by decide) (by first | assumption | exact xup_s _ _ _ | exact xup_o (by omega) (by assumption) | exact xup_o (by omega) (xup_s _ _ _) | exact xup_o (by omega) (xup_o (by omega) (by assumption)) | exact xup_o (by omega) (xup_o (by omega) (xup_s _ _ _)) | exact xup_o (by omega) (xup_o (by omega) (xup_o (by omega) (by assumption)))) (by rfl) ?_
  refine xp_aload_0 (pc := 9) hX d_Rea_readVariable_9 ?_
  refine xg_get (pc := 10) hX (j := 6) k_Rea d_Rea_readVariable_10 l_Rea_37 (by decide) (by first | assumption | exact xup_s _ _ _ | exact xup_o (by omega) (by assumption) | exact xup_o (by omega) (xup_s _ _ _) | exact xup_o (by omega) (xup_o (by omega) (by assumption)) | exact xup_o (by omega) (xup_o (by omega) (xup_s _ _ _)) | exact xup_o (by omega) (xup_o (by omega) (xup_o (by omega) (by assumption)))) (by rfl) ?_
  refine xi_V (Y2 := Y_Row_at) (pc := 13) hX [_] k_Row m_Row_at d_Rea_readVariable_13 l_Rea_53 rfl rfl (by simp [Value.category]) (by first | assumption | exact xup_s _ _ _ | exact xup_o (by omega) (by assumption) | exact xup_o (by omega) (xup_s _ _ _) | exact xup_o (by omega) (xup_o (by omega) (by assumption)) | exact xup_o (by omega) (xup_o (by omega) (xup_s _ _ _)) | exact xup_o (by omega) (xup_o (by omega) (xup_o (by omega) (by assumption)))) (c_Row_at (d + 1) (nI pos) h2 (by omega)) (by omega) (by omega) ?_
  rintro y M' ⟨rfl, rfl⟩
  rw [rAt_nI (by omega)]
  refine xp_istore_3 (pc := 16) hX d_Rea_readVariable_16 (by decide) ?_
  refine xp_iload_3 (pc := 17) hX d_Rea_readVariable_17 ?_
  refine xi_SN (Y2 := Y_Nam_isSymbolByte) (pc := 18) hX [_] m_Nam_isSymbolByte d_Rea_readVariable_18 l_Rea_95 rfl rfl (by simp [Value.category]) (c_Nam_isSymbolByte d _) (by omega) (by omega) ?_
  rintro y M'' ⟨rfl, rfl⟩
  refine xg_if_eq (pc := 21) hX 37 d_Rea_readVariable_21 (by decide) (fun z => ?_) (fun z => ?_)
  · exact k37 _ (by unfold vOK; rw [bI_eq0.mp z]; rfl)
  · have z := bI_ne0.mp z
    refine xp_iload_3 (pc := 24) hX d_Rea_readVariable_24 ?_
    refine xi_SN (Y2 := Y_Nam_isDigit) (pc := 25) hX [_] m_Nam_isDigit d_Rea_readVariable_25 l_Rea_89 rfl rfl (by simp [Value.category]) (c_Nam_isDigit (d + 1) _) (by omega) (by omega) ?_
    rintro y M'' ⟨rfl, rfl⟩
    refine xg_if_ne (pc := 28) hX 37 d_Rea_readVariable_28 (by decide) (fun z1 => ?_) (fun z1 => ?_)
    · exact k37 _ (by unfold vOK; rw [bI_ne0.mp z1]; simp)
    · have z1 := bI_eq0.mp z1
      refine xp_iload_3 (pc := 31) hX d_Rea_readVariable_31 ?_
      refine xg_bipush (pc := 32) hX (nI 46) d_Rea_readVariable_32 ci_bipush_46 ?_
      refine xg_icmp_ne (pc := 34) hX 46 d_Rea_readVariable_34 (by decide) (fun z2 => ?_) (fun z2 => ?_)
      · have z2 : ¬ t[pos]? = some 46 := fun w => z2 ((oI_eq (by decide)).mpr (by rw [w]; rfl))
        have hv : vOK t[pos]? = true := by
          unfold vOK
          rw [z, z1]
          simpa using z2
        have hlt := vOK_lt hv
        generalize hE2 : min (pos + 30) t.length = E at *
        have k87 : ∀ (M1 : xH), ReA M1 h t tk tg (sc sym t pos E) none → FrA M'' M1 h → xG K 87 [some (.ref h), some (.int (nI k)), some (.int (nI pos)), some (.int (oI t[pos]?))] [] M1 sz 0 0 := by
          intro M1 hs1 hf
          have hsc := sc_le (P := sym) (bs := t) (a := pos) (b := E) (by omega) (by omega)
          have e : rdV t pos = (sc sym t pos E, !osym t[sc sym t pos E]?) := by unfold rdV; rw [hv, hE2]; rfl
          generalize sc sym t pos E = i at hs1 hsc e
          obtain ⟨h1, h2, -⟩ := id hs1
          obtain ⟨r1, -⟩ := id h2
          refine xp_aload_0 (pc := 87) hX d_Rea_readVariable_87 ?_
          refine xg_get (pc := 88) hX (j := 0) k_Rea d_Rea_readVariable_88 l_Rea_14 (by decide) (by first | assumption | exact xup_s _ _ _ | exact xup_o (by omega) (by assumption) | exact xup_o (by omega) (xup_s _ _ _) | exact xup_o (by omega) (xup_o (by omega) (by assumption)) | exact xup_o (by omega) (xup_o (by omega) (xup_s _ _ _)) | exact xup_o (by omega) (xup_o (by omega) (xup_o (by omega) (by assumption)))) (by rfl) ?_
          refine xp_aload_0 (pc := 91) hX d_Rea_readVariable_91 ?_
          refine xg_get (pc := 92) hX (j := 6) k_Rea d_Rea_readVariable_92 l_Rea_37 (by decide) (by first | assumption | exact xup_s _ _ _ | exact xup_o (by omega) (by assumption) | exact xup_o (by omega) (xup_s _ _ _) | exact xup_o (by omega) (xup_o (by omega) (by assumption)) | exact xup_o (by omega) (xup_o (by omega) (xup_s _ _ _)) | exact xup_o (by omega) (xup_o (by omega) (xup_o (by omega) (by assumption)))) (by rfl) ?_
          refine xi_V (Y2 := Y_Row_at) (pc := 95) hX [_] k_Row m_Row_at d_Rea_readVariable_95 l_Rea_53 rfl rfl (by simp [Value.category]) (by first | assumption | exact xup_s _ _ _ | exact xup_o (by omega) (by assumption) | exact xup_o (by omega) (xup_s _ _ _) | exact xup_o (by omega) (xup_o (by omega) (by assumption)) | exact xup_o (by omega) (xup_o (by omega) (xup_s _ _ _)) | exact xup_o (by omega) (xup_o (by omega) (xup_o (by omega) (by assumption)))) (c_Row_at (d + 1) (nI i) h2 (by omega)) (by omega) (by omega) ?_
          rintro y M2 ⟨rfl, rfl⟩
          rw [rAt_nI (by omega)]
          refine xi_SN (Y2 := Y_Nam_isSymbolByte) (pc := 98) hX [_] m_Nam_isSymbolByte d_Rea_readVariable_98 l_Rea_95 rfl rfl (by simp [Value.category]) (c_Nam_isSymbolByte d _) (by omega) (by omega) ?_
          rintro y M3 ⟨rfl, rfl⟩
          refine xg_if_eq (pc := 101) hX 115 d_Rea_readVariable_101 (by decide) (fun w => ?_) (fun w => ?_)
          · refine xp_aload_0 (pc := 115) hX d_Rea_readVariable_115 ?_
            refine xp_iload_1 (pc := 116) hX d_Rea_readVariable_116 ?_
            refine xp_iload_2 (pc := 117) hX d_Rea_readVariable_117 ?_
            refine xp_aload_0 (pc := 118) hX d_Rea_readVariable_118 ?_
            refine xg_get (pc := 119) hX (j := 6) k_Rea d_Rea_readVariable_119 l_Rea_37 (by decide) (by first | assumption | exact xup_s _ _ _ | exact xup_o (by omega) (by assumption) | exact xup_o (by omega) (xup_s _ _ _) | exact xup_o (by omega) (xup_o (by omega) (by assumption)) | exact xup_o (by omega) (xup_o (by omega) (xup_s _ _ _)) | exact xup_o (by omega) (xup_o (by omega) (xup_o (by omega) (by assumption)))) (by rfl) ?_
            refine xv_V (Y2 := Y_Rea_add) (pc := 122) hX [_, _, _] k_Rea m_Rea_add d_Rea_readVariable_122 l_Rea_98 rfl rfl (by simp [Value.category]) (by first | assumption | exact xup_s _ _ _ | exact xup_o (by omega) (by assumption) | exact xup_o (by omega) (xup_s _ _ _) | exact xup_o (by omega) (xup_o (by omega) (by assumption)) | exact xup_o (by omega) (xup_o (by omega) (xup_s _ _ _)) | exact xup_o (by omega) (xup_o (by omega) (xup_o (by omega) (by assumption)))) (c_Rea_add (d + 1) hs1 htk) (by omega) (by omega) ?_
            rintro M4 ⟨a1, a2⟩
            refine xg_vret (pc := 125) hX hE d_Rea_readVariable_125 rfl (by omega) (by omega) ?_
            rw [bI_eq0.mp w] at e
            exact ⟨rfl, rfl, Or.inl ⟨by rw [e]; rfl, by rw [e]; exact a1⟩, hf.tr a2⟩
          · refine xp_aload_0 (pc := 104) hX d_Rea_readVariable_104 ?_
            refine xp_aload_0 (pc := 105) hX d_Rea_readVariable_105 ?_
            refine xg_get (pc := 106) hX (j := 6) k_Rea d_Rea_readVariable_106 l_Rea_37 (by decide) (by first | assumption | exact xup_s _ _ _ | exact xup_o (by omega) (by assumption) | exact xup_o (by omega) (xup_s _ _ _) | exact xup_o (by omega) (xup_o (by omega) (by assumption)) | exact xup_o (by omega) (xup_o (by omega) (xup_s _ _ _)) | exact xup_o (by omega) (xup_o (by omega) (xup_o (by omega) (by assumption)))) (by rfl) ?_
            refine xv_V (Y2 := Y_Rea_fail) (pc := 109) hX [_] k_Rea m_Rea_fail d_Rea_readVariable_109 l_Rea_71 rfl rfl (by simp [Value.category]) (by first | assumption | exact xup_s _ _ _ | exact xup_o (by omega) (by assumption) | exact xup_o (by omega) (xup_s _ _ _) | exact xup_o (by omega) (xup_o (by omega) (by assumption)) | exact xup_o (by omega) (xup_o (by omega) (xup_s _ _ _)) | exact xup_o (by omega) (xup_o (by omega) (xup_o (by omega) (by assumption)))) (c_Rea_fail (d + 1) (p := i) hs1) (by omega) (by omega) ?_
            rintro M4 ⟨a1, a2⟩
            refine xg_goto (pc := 112) hX 125 d_Rea_readVariable_112 (by decide) ?_
            refine xg_vret (pc := 125) hX hE d_Rea_readVariable_125 rfl (by omega) (by omega) ?_
            rw [bI_ne0.mp w] at e
            exact ⟨rfl, rfl, Or.inr ⟨by rw [e]; rfl, i, by rw [e]; exact a1, by omega⟩, hf.tr a2⟩
        have loop : ∀ (m i : Nat) (M1 : xH), i + m = E → pos ≤ i → sc sym t pos E = sc sym t i E → ReA M1 h t tk tg i none → FrA M'' M1 h → xG K 46 [some (.ref h), some (.int (nI k)), some (.int (nI pos)), some (.int (oI t[pos]?))] [] M1 sz 0 0 := by
          intro m
          induction m with
          | zero =>
            intro i M1 hi hpi hsc hs1 hf
            obtain ⟨h1, h2, -⟩ := id hs1
            obtain ⟨r1, -⟩ := id h2
            have hi : i = E := by omega
            subst hi
            rw [sc_end] at hsc
            refine xp_aload_0 (pc := 46) hX d_Rea_readVariable_46 ?_
            refine xg_get (pc := 47) hX (j := 6) k_Rea d_Rea_readVariable_47 l_Rea_37 (by decide) (by first | assumption | exact xup_s _ _ _ | exact xup_o (by omega) (by assumption) | exact xup_o (by omega) (xup_s _ _ _) | exact xup_o (by omega) (xup_o (by omega) (by assumption)) | exact xup_o (by omega) (xup_o (by omega) (xup_s _ _ _)) | exact xup_o (by omega) (xup_o (by omega) (xup_o (by omega) (by assumption)))) (by rfl) ?_
            refine xp_iload_2 (pc := 50) hX d_Rea_readVariable_50 ?_
            refine xg_bipush (pc := 51) hX (nI 30) d_Rea_readVariable_51 ci_bipush_30 ?_
            first | refine xn_iadd (pc := 53) hX d_Rea_readVariable_53 ?_ | refine xg_iadd (pc := 53) hX d_Rea_readVariable_53 ?_
            refine xn_icmp_ge (pc := 54) hX 87 d_Rea_readVariable_54 (by decide) (by omega) (by omega) (fun _ => k87 M1 (by rw [hsc]; exact hs1) hf) (fun w => ?_)
            have hend : t[i]? = none := List.getElem?_eq_none (by omega)
            refine xp_aload_0 (pc := 57) hX d_Rea_readVariable_57 ?_
            refine xg_get (pc := 58) hX (j := 0) k_Rea d_Rea_readVariable_58 l_Rea_14 (by decide) (by first | assumption | exact xup_s _ _ _ | exact xup_o (by omega) (by assumption) | exact xup_o (by omega) (xup_s _ _ _) | exact xup_o (by omega) (xup_o (by omega) (by assumption)) | exact xup_o (by omega) (xup_o (by omega) (xup_s _ _ _)) | exact xup_o (by omega) (xup_o (by omega) (xup_o (by omega) (by assumption)))) (by rfl) ?_
            refine xp_aload_0 (pc := 61) hX d_Rea_readVariable_61 ?_
            refine xg_get (pc := 62) hX (j := 6) k_Rea d_Rea_readVariable_62 l_Rea_37 (by decide) (by first | assumption | exact xup_s _ _ _ | exact xup_o (by omega) (by assumption) | exact xup_o (by omega) (xup_s _ _ _) | exact xup_o (by omega) (xup_o (by omega) (by assumption)) | exact xup_o (by omega) (xup_o (by omega) (xup_s _ _ _)) | exact xup_o (by omega) (xup_o (by omega) (xup_o (by omega) (by assumption)))) (by rfl) ?_
            refine xi_V (Y2 := Y_Row_at) (pc := 65) hX [_] k_Row m_Row_at d_Rea_readVariable_65 l_Rea_53 rfl rfl (by simp [Value.category]) (by first | assumption | exact xup_s _ _ _ | exact xup_o (by omega) (by assumption) | exact xup_o (by omega) (xup_s _ _ _) | exact xup_o (by omega) (xup_o (by omega) (by assumption)) | exact xup_o (by omega) (xup_o (by omega) (xup_s _ _ _)) | exact xup_o (by omega) (xup_o (by omega) (xup_o (by omega) (by assumption)))) (c_Row_at (d + 1) (nI i) h2 (by omega)) (by omega) (by omega) ?_
            rintro y M2 ⟨rfl, rfl⟩
            rw [rAt_nI (by omega), hend]
            refine xi_SN (Y2 := Y_Nam_isSymbolByte) (pc := 68) hX [_] m_Nam_isSymbolByte d_Rea_readVariable_68 l_Rea_95 rfl rfl (by simp [Value.category]) (c_Nam_isSymbolByte d none) (by omega) (by omega) ?_
            rintro y M3 ⟨rfl, rfl⟩
            refine xg_if_eq (pc := 71) hX 87 d_Rea_readVariable_71 (by decide) (fun _ => k87 _ (by rw [hsc]; exact hs1) hf) (fun w => absurd (by decide) w)
          | succ m ih =>
            intro i M1 hi hpi hsc hs1 hf
            obtain ⟨h1, h2, -⟩ := id hs1
            obtain ⟨r1, -⟩ := id h2
            have hlt2 : i < t.length := by omega
            refine xp_aload_0 (pc := 46) hX d_Rea_readVariable_46 ?_
            refine xg_get (pc := 47) hX (j := 6) k_Rea d_Rea_readVariable_47 l_Rea_37 (by decide) (by first | assumption | exact xup_s _ _ _ | exact xup_o (by omega) (by assumption) | exact xup_o (by omega) (xup_s _ _ _) | exact xup_o (by omega) (xup_o (by omega) (by assumption)) | exact xup_o (by omega) (xup_o (by omega) (xup_s _ _ _)) | exact xup_o (by omega) (xup_o (by omega) (xup_o (by omega) (by assumption)))) (by rfl) ?_
            refine xp_iload_2 (pc := 50) hX d_Rea_readVariable_50 ?_
            refine xg_bipush (pc := 51) hX (nI 30) d_Rea_readVariable_51 ci_bipush_30 ?_
            first | refine xn_iadd (pc := 53) hX d_Rea_readVariable_53 ?_ | refine xg_iadd (pc := 53) hX d_Rea_readVariable_53 ?_
            refine xn_icmp_ge (pc := 54) hX 87 d_Rea_readVariable_54 (by decide) (by omega) (by omega) (fun w => absurd w (by omega)) (fun w => ?_)
            refine xp_aload_0 (pc := 57) hX d_Rea_readVariable_57 ?_
            refine xg_get (pc := 58) hX (j := 0) k_Rea d_Rea_readVariable_58 l_Rea_14 (by decide) (by first | assumption | exact xup_s _ _ _ | exact xup_o (by omega) (by assumption) | exact xup_o (by omega) (xup_s _ _ _) | exact xup_o (by omega) (xup_o (by omega) (by assumption)) | exact xup_o (by omega) (xup_o (by omega) (xup_s _ _ _)) | exact xup_o (by omega) (xup_o (by omega) (xup_o (by omega) (by assumption)))) (by rfl) ?_
            refine xp_aload_0 (pc := 61) hX d_Rea_readVariable_61 ?_
            refine xg_get (pc := 62) hX (j := 6) k_Rea d_Rea_readVariable_62 l_Rea_37 (by decide) (by first | assumption | exact xup_s _ _ _ | exact xup_o (by omega) (by assumption) | exact xup_o (by omega) (xup_s _ _ _) | exact xup_o (by omega) (xup_o (by omega) (by assumption)) | exact xup_o (by omega) (xup_o (by omega) (xup_s _ _ _)) | exact xup_o (by omega) (xup_o (by omega) (xup_o (by omega) (by assumption)))) (by rfl) ?_
            refine xi_V (Y2 := Y_Row_at) (pc := 65) hX [_] k_Row m_Row_at d_Rea_readVariable_65 l_Rea_53 rfl rfl (by simp [Value.category]) (by first | assumption | exact xup_s _ _ _ | exact xup_o (by omega) (by assumption) | exact xup_o (by omega) (xup_s _ _ _) | exact xup_o (by omega) (xup_o (by omega) (by assumption)) | exact xup_o (by omega) (xup_o (by omega) (xup_s _ _ _)) | exact xup_o (by omega) (xup_o (by omega) (xup_o (by omega) (by assumption)))) (c_Row_at (d + 1) (nI i) h2 (by omega)) (by omega) (by omega) ?_
            rintro y M2 ⟨rfl, rfl⟩
            rw [rAt_nI (by omega), List.getElem?_eq_getElem hlt2]
            refine xi_SN (Y2 := Y_Nam_isSymbolByte) (pc := 68) hX [_] m_Nam_isSymbolByte d_Rea_readVariable_68 l_Rea_95 rfl rfl (by simp [Value.category]) (c_Nam_isSymbolByte d _) (by omega) (by omega) ?_
            rintro y M3 ⟨rfl, rfl⟩
            refine xg_if_eq (pc := 71) hX 87 d_Rea_readVariable_71 (by decide) (fun w => ?_) (fun w => ?_)
            · refine k87 _ ?_ hf
              rw [hsc, sc_hit (by omega) (by omega) (bI_eq0.mp w)]
              exact hs1
            · refine xp_aload_0 (pc := 74) hX d_Rea_readVariable_74 ?_
              refine xg_dup (pc := 75) hX d_Rea_readVariable_75 rfl ?_
              refine xg_get (pc := 76) hX (j := 6) k_Rea d_Rea_readVariable_76 l_Rea_37 (by decide) (by first | assumption | exact xup_s _ _ _ | exact xup_o (by omega) (by assumption) | exact xup_o (by omega) (xup_s _ _ _) | exact xup_o (by omega) (xup_o (by omega) (by assumption)) | exact xup_o (by omega) (xup_o (by omega) (xup_s _ _ _)) | exact xup_o (by omega) (xup_o (by omega) (xup_o (by omega) (by assumption)))) (by rfl) ?_
              refine xg_iconst (pc := 79) hX (nI 1) d_Rea_readVariable_79 ci_iconst_1 ?_
              first | refine xn_iadd (pc := 80) hX d_Rea_readVariable_80 ?_ | refine xg_iadd (pc := 80) hX d_Rea_readVariable_80 ?_
              refine xg_put (pc := 81) hX (j := 6) k_Rea d_Rea_readVariable_81 l_Rea_37 (by decide) rfl (by first | assumption | exact xup_s _ _ _ | exact xup_o (by omega) (by assumption) | exact xup_o (by omega) (xup_s _ _ _) | exact xup_o (by omega) (xup_o (by omega) (by assumption)) | exact xup_o (by omega) (xup_o (by omega) (xup_s _ _ _)) | exact xup_o (by omega) (xup_o (by omega) (xup_o (by omega) (by assumption)))) (Nat.le_of_ble_eq_true rfl) rfl rfl (by simp only [List.set_cons_zero, List.set_cons_succ]; exact rfl) ?_
              refine xg_goto (pc := 84) hX 46 d_Rea_readVariable_84 (by decide) ?_
              refine ih (i + 1) _ (by omega) (by omega) ?_ (hs1.put ht4 (by omega)) (hf.tr (FrA.up _ _ _))
              rw [hsc, sc_miss (by omega) (by omega) (bI_ne0.mp w)]
        exact loop (E - pos) pos M'' (by omega) (Nat.le_refl _) rfl hs (FrA.rf _ _)
      · have z2 := (oI_eq (by decide)).mp z2
        exact k37 _ (by unfold vOK; rw [z2]; decide)
set_option maxHeartbeats 4000000 in
set_option maxRecDepth 100000 in
theorem c_Rea_readPlace (d : Nat) {M : xH} {sz h tg pos k : Nat} {t : List UInt8} {tk : List xTk} (hs : ReA M h t tk tg pos none) (hp : pos ≤ t.length) (htk : tk.length < 600) : xC (d + 2) 0 0 Y_Rea_readPlace [.ref h, .int (nI k)] M sz (qv sz (fun M' => (((rdP t pos).2 = true ∧ ReA M' h t (tk ++ [(k, pos, (rdP t pos).1)]) tg (rdP t pos).1 none) ∨ ((rdP t pos).2 = false ∧ ∃ pos', ReA M' h t tk tg pos' (some (rdP t pos).1))) ∧ FrA M M' h)) := by
  refine xC_of (by decide) (Nat.le_of_ble_eq_true rfl) (by simp [Value.category]) (vs := [some (.ref h), some (.int (nI k)), none]) rfl (fun K hX hE => ?_)
  have hl : t.length ≤ 600 := hs.2.1.2.1
  have ht4 := hs.2.2.2.1
  obtain ⟨h1, h2, -⟩ := id hs
  obtain ⟨r1, -⟩ := id h2
  generalize hE2 : min (pos + 4) t.length = E at *
  have e : rdP t pos = (sc dig t pos E, !(sc dig t pos E == pos) && !osym t[sc dig t pos E]?) := by unfold rdP; rw [hE2]
  have hsc0 := sc_le (P := dig) (bs := t) (a := pos) (b := E) (by omega) (by omega)
  have k70 : ∀ (M1 : xH), ReA M1 h t tk tg (sc dig t pos E) none → FrA M M1 h → (rdP t pos).2 = false → xG K 70 [some (.ref h), some (.int (nI k)), some (.int (nI pos))] [] M1 sz 0 0 := by
    intro M1 hs1 hf hv
    obtain ⟨h1, -⟩ := id hs1
    refine xp_aload_0 (pc := 70) hX d_Rea_readPlace_70 ?_
    refine xp_aload_0 (pc := 71) hX d_Rea_readPlace_71 ?_
    refine xg_get (pc := 72) hX (j := 6) k_Rea d_Rea_readPlace_72 l_Rea_37 (by decide) (by first | assumption | exact xup_s _ _ _ | exact xup_o (by omega) (by assumption) | exact xup_o (by omega) (xup_s _ _ _) | exact xup_o (by omega) (xup_o (by omega) (by assumption)) | exact xup_o (by omega) (xup_o (by omega) (xup_s _ _ _)) | exact xup_o (by omega) (xup_o (by omega) (xup_o (by omega) (by assumption)))) (by rfl) ?_
    refine xv_V (Y2 := Y_Rea_fail) (pc := 75) hX [_] k_Rea m_Rea_fail d_Rea_readPlace_75 l_Rea_71 rfl rfl (by simp [Value.category]) (by first | assumption | exact xup_s _ _ _ | exact xup_o (by omega) (by assumption) | exact xup_o (by omega) (xup_s _ _ _) | exact xup_o (by omega) (xup_o (by omega) (by assumption)) | exact xup_o (by omega) (xup_o (by omega) (xup_s _ _ _)) | exact xup_o (by omega) (xup_o (by omega) (xup_o (by omega) (by assumption)))) (c_Rea_fail (d + 1) hs1) (by omega) (by omega) ?_
    rintro M4 ⟨a1, a2⟩
    refine xg_goto (pc := 78) hX 91 d_Rea_readPlace_78 (by decide) ?_
    refine xg_vret (pc := 91) hX hE d_Rea_readPlace_91 rfl (by omega) (by omega) ?_
    exact ⟨rfl, rfl, Or.inr ⟨hv, sc dig t pos E, by rw [e]; exact a1⟩, hf.tr a2⟩
  have k45 : ∀ (M1 : xH), ReA M1 h t tk tg (sc dig t pos E) none → FrA M M1 h → xG K 45 [some (.ref h), some (.int (nI k)), some (.int (nI pos))] [] M1 sz 0 0 := by
    intro M1 hs1 hf
    obtain ⟨h1, h2, -⟩ := id hs1
    obtain ⟨r1, -⟩ := id h2
    refine xp_aload_0 (pc := 45) hX d_Rea_readPlace_45 ?_
    refine xg_get (pc := 46) hX (j := 6) k_Rea d_Rea_readPlace_46 l_Rea_37 (by decide) (by first | assumption | exact xup_s _ _ _ | exact xup_o (by omega) (by assumption) | exact xup_o (by omega) (xup_s _ _ _) | exact xup_o (by omega) (xup_o (by omega) (by assumption)) | exact xup_o (by omega) (xup_o (by omega) (xup_s _ _ _)) | exact xup_o (by omega) (xup_o (by omega) (xup_o (by omega) (by assumption)))) (by rfl) ?_
    refine xp_iload_2 (pc := 49) hX d_Rea_readPlace_49 ?_
    refine xn_icmp_eq (pc := 50) hX 70 d_Rea_readPlace_50 (by decide) (by omega) (by omega) (fun w => k70 M1 hs1 hf (by rw [e, w]; simp)) (fun w => ?_)
    refine xp_aload_0 (pc := 53) hX d_Rea_readPlace_53 ?_
    refine xg_get (pc := 54) hX (j := 0) k_Rea d_Rea_readPlace_54 l_Rea_14 (by decide) (by first | assumption | exact xup_s _ _ _ | exact xup_o (by omega) (by assumption) | exact xup_o (by omega) (xup_s _ _ _) | exact xup_o (by omega) (xup_o (by omega) (by assumption)) | exact xup_o (by omega) (xup_o (by omega) (xup_s _ _ _)) | exact xup_o (by omega) (xup_o (by omega) (xup_o (by omega) (by assumption)))) (by rfl) ?_
    refine xp_aload_0 (pc := 57) hX d_Rea_readPlace_57 ?_
    refine xg_get (pc := 58) hX (j := 6) k_Rea d_Rea_readPlace_58 l_Rea_37 (by decide) (by first | assumption | exact xup_s _ _ _ | exact xup_o (by omega) (by assumption) | exact xup_o (by omega) (xup_s _ _ _) | exact xup_o (by omega) (xup_o (by omega) (by assumption)) | exact xup_o (by omega) (xup_o (by omega) (xup_s _ _ _)) | exact xup_o (by omega) (xup_o (by omega) (xup_o (by omega) (by assumption)))) (by rfl) ?_
    refine xi_V (Y2 := Y_Row_at) (pc := 61) hX [_] k_Row m_Row_at d_Rea_readPlace_61 l_Rea_53 rfl rfl (by simp [Value.category]) (by first | assumption | exact xup_s _ _ _ | exact xup_o (by omega) (by assumption) | exact xup_o (by omega) (xup_s _ _ _) | exact xup_o (by omega) (xup_o (by omega) (by assumption)) | exact xup_o (by omega) (xup_o (by omega) (xup_s _ _ _)) | exact xup_o (by omega) (xup_o (by omega) (xup_o (by omega) (by assumption)))) (c_Row_at (d + 1) (nI (sc dig t pos E)) h2 (by omega)) (by omega) (by omega) ?_
    rintro y M2 ⟨rfl, rfl⟩
    rw [rAt_nI (by omega)]
    refine xi_SN (Y2 := Y_Nam_isSymbolByte) (pc := 64) hX [_] m_Nam_isSymbolByte d_Rea_readPlace_64 l_Rea_95 rfl rfl (by simp [Value.category]) (c_Nam_isSymbolByte d _) (by omega) (by omega) ?_
    rintro y M3 ⟨rfl, rfl⟩
    refine xg_if_eq (pc := 67) hX 81 d_Rea_readPlace_67 (by decide) (fun w1 => ?_) (fun w1 => ?_)
    · refine xp_aload_0 (pc := 81) hX d_Rea_readPlace_81 ?_
      refine xp_iload_1 (pc := 82) hX d_Rea_readPlace_82 ?_
      refine xp_iload_2 (pc := 83) hX d_Rea_readPlace_83 ?_
      refine xp_aload_0 (pc := 84) hX d_Rea_readPlace_84 ?_
      refine xg_get (pc := 85) hX (j := 6) k_Rea d_Rea_readPlace_85 l_Rea_37 (by decide) (by first | assumption | exact xup_s _ _ _ | exact xup_o (by omega) (by assumption) | exact xup_o (by omega) (xup_s _ _ _) | exact xup_o (by omega) (xup_o (by omega) (by assumption)) | exact xup_o (by omega) (xup_o (by omega) (xup_s _ _ _)) | exact xup_o (by omega) (xup_o (by omega) (xup_o (by omega) (by assumption)))) (by rfl) ?_
      refine xv_V (Y2 := Y_Rea_add) (pc := 88) hX [_, _, _] k_Rea m_Rea_add d_Rea_readPlace_88 l_Rea_98 rfl rfl (by simp [Value.category]) (by first | assumption | exact xup_s _ _ _ | exact xup_o (by omega) (by assumption) | exact xup_o (by omega) (xup_s _ _ _) | exact xup_o (by omega) (xup_o (by omega) (by assumption)) | exact xup_o (by omega) (xup_o (by omega) (xup_s _ _ _)) | exact xup_o (by omega) (xup_o (by omega) (xup_o (by omega) (by assumption)))) (c_Rea_add (d + 1) hs1 htk) (by omega) (by omega) ?_
      rintro M4 ⟨a1, a2⟩
      refine xg_vret (pc := 91) hX hE d_Rea_readPlace_91 rfl (by omega) (by omega) ?_
      exact ⟨rfl, rfl, Or.inl ⟨by rw [e, bI_eq0.mp w1]; simpa using w, by rw [e]; exact a1⟩, hf.tr a2⟩
    · exact k70 _ hs1 hf (by rw [e, bI_ne0.mp w1]; simp)
  have loop : ∀ (m i : Nat) (M1 : xH), i + m = E → pos ≤ i → sc dig t pos E = sc dig t i E → ReA M1 h t tk tg i none → FrA M M1 h → xG K 5 [some (.ref h), some (.int (nI k)), some (.int (nI pos))] [] M1 sz 0 0 := by
    intro m
    induction m with
    | zero =>
      intro i M1 hi hpi hsc hs1 hf
      obtain ⟨h1, h2, -⟩ := id hs1
      obtain ⟨r1, -⟩ := id h2
      have hi : i = E := by omega
      subst hi
      rw [sc_end] at hsc
      refine xp_aload_0 (pc := 5) hX d_Rea_readPlace_5 ?_
      refine xg_get (pc := 6) hX (j := 6) k_Rea d_Rea_readPlace_6 l_Rea_37 (by decide) (by first | assumption | exact xup_s _ _ _ | exact xup_o (by omega) (by assumption) | exact xup_o (by omega) (xup_s _ _ _) | exact xup_o (by omega) (xup_o (by omega) (by assumption)) | exact xup_o (by omega) (xup_o (by omega) (xup_s _ _ _)) | exact xup_o (by omega) (xup_o (by omega) (xup_o (by omega) (by assumption)))) (by rfl) ?_
      refine xp_iload_2 (pc := 9) hX d_Rea_readPlace_9 ?_
      refine xg_iconst (pc := 10) hX (nI 4) d_Rea_readPlace_10 ci_iconst_4 ?_
      first | refine xn_iadd (pc := 11) hX d_Rea_readPlace_11 ?_ | refine xg_iadd (pc := 11) hX d_Rea_readPlace_11 ?_
      refine xn_icmp_ge (pc := 12) hX 45 d_Rea_readPlace_12 (by decide) (by omega) (by omega) (fun _ => k45 M1 (by rw [hsc]; exact hs1) hf) (fun w => ?_)
      have hend : t[i]? = none := List.getElem?_eq_none (by omega)
      refine xp_aload_0 (pc := 15) hX d_Rea_readPlace_15 ?_
      refine xg_get (pc := 16) hX (j := 0) k_Rea d_Rea_readPlace_16 l_Rea_14 (by decide) (by first | assumption | exact xup_s _ _ _ | exact xup_o (by omega) (by assumption) | exact xup_o (by omega) (xup_s _ _ _) | exact xup_o (by omega) (xup_o (by omega) (by assumption)) | exact xup_o (by omega) (xup_o (by omega) (xup_s _ _ _)) | exact xup_o (by omega) (xup_o (by omega) (xup_o (by omega) (by assumption)))) (by rfl) ?_
      refine xp_aload_0 (pc := 19) hX d_Rea_readPlace_19 ?_
      refine xg_get (pc := 20) hX (j := 6) k_Rea d_Rea_readPlace_20 l_Rea_37 (by decide) (by first | assumption | exact xup_s _ _ _ | exact xup_o (by omega) (by assumption) | exact xup_o (by omega) (xup_s _ _ _) | exact xup_o (by omega) (xup_o (by omega) (by assumption)) | exact xup_o (by omega) (xup_o (by omega) (xup_s _ _ _)) | exact xup_o (by omega) (xup_o (by omega) (xup_o (by omega) (by assumption)))) (by rfl) ?_
      refine xi_V (Y2 := Y_Row_at) (pc := 23) hX [_] k_Row m_Row_at d_Rea_readPlace_23 l_Rea_53 rfl rfl (by simp [Value.category]) (by first | assumption | exact xup_s _ _ _ | exact xup_o (by omega) (by assumption) | exact xup_o (by omega) (xup_s _ _ _) | exact xup_o (by omega) (xup_o (by omega) (by assumption)) | exact xup_o (by omega) (xup_o (by omega) (xup_s _ _ _)) | exact xup_o (by omega) (xup_o (by omega) (xup_o (by omega) (by assumption)))) (c_Row_at (d + 1) (nI i) h2 (by omega)) (by omega) (by omega) ?_
      rintro y M2 ⟨rfl, rfl⟩
      rw [rAt_nI (by omega), hend]
      refine xi_SN (Y2 := Y_Nam_isDigit) (pc := 26) hX [_] m_Nam_isDigit d_Rea_readPlace_26 l_Rea_89 rfl rfl (by simp [Value.category]) (c_Nam_isDigit (d + 1) none) (by omega) (by omega) ?_
      rintro y M3 ⟨rfl, rfl⟩
      refine xg_if_eq (pc := 29) hX 45 d_Rea_readPlace_29 (by decide) (fun _ => k45 _ (by rw [hsc]; exact hs1) hf) (fun w => absurd (by decide) w)
    | succ m ih =>
      intro i M1 hi hpi hsc hs1 hf
      obtain ⟨h1, h2, -⟩ := id hs1
      obtain ⟨r1, -⟩ := id h2
      have hlt2 : i < t.length := by omega
      refine xp_aload_0 (pc := 5) hX d_Rea_readPlace_5 ?_
      refine xg_get (pc := 6) hX (j := 6) k_Rea d_Rea_readPlace_6 l_Rea_37 (by decide) (by first | assumption | exact xup_s _ _ _ | exact xup_o (by omega) (by assumption) | exact xup_o (by omega) (xup_s _ _ _) | exact xup_o (by omega) (xup_o (by omega) (by assumption)) | exact xup_o (by omega) (xup_o (by omega) (xup_s _ _ _)) | exact xup_o (by omega) (xup_o (by omega) (xup_o (by omega) (by assumption)))) (by rfl) ?_
      refine xp_iload_2 (pc := 9) hX d_Rea_readPlace_9 ?_
      refine xg_iconst (pc := 10) hX (nI 4) d_Rea_readPlace_10 ci_iconst_4 ?_
      first | refine xn_iadd (pc := 11) hX d_Rea_readPlace_11 ?_ | refine xg_iadd (pc := 11) hX d_Rea_readPlace_11 ?_
      refine xn_icmp_ge (pc := 12) hX 45 d_Rea_readPlace_12 (by decide) (by omega) (by omega) (fun w => absurd w (by omega)) (fun w => ?_)
      refine xp_aload_0 (pc := 15) hX d_Rea_readPlace_15 ?_
      refine xg_get (pc := 16) hX (j := 0) k_Rea d_Rea_readPlace_16 l_Rea_14 (by decide) (by first | assumption | exact xup_s _ _ _ | exact xup_o (by omega) (by assumption) | exact xup_o (by omega) (xup_s _ _ _) | exact xup_o (by omega) (xup_o (by omega) (by assumption)) | exact xup_o (by omega) (xup_o (by omega) (xup_s _ _ _)) | exact xup_o (by omega) (xup_o (by omega) (xup_o (by omega) (by assumption)))) (by rfl) ?_
      refine xp_aload_0 (pc := 19) hX d_Rea_readPlace_19 ?_
      refine xg_get (pc := 20) hX (j := 6) k_Rea d_Rea_readPlace_20 l_Rea_37 (by decide) (by first | assumption | exact xup_s _ _ _ | exact xup_o (by omega) (by assumption) | exact xup_o (by omega) (xup_s _ _ _) | exact xup_o (by omega) (xup_o (by omega) (by assumption)) | exact xup_o (by omega) (xup_o (by omega) (xup_s _ _ _)) | exact xup_o (by omega) (xup_o (by omega) (xup_o (by omega) (by assumption)))) (by rfl) ?_
      refine xi_V (Y2 := Y_Row_at) (pc := 23) hX [_] k_Row m_Row_at d_Rea_readPlace_23 l_Rea_53 rfl rfl (by simp [Value.category]) (by first | assumption | exact xup_s _ _ _ | exact xup_o (by omega) (by assumption) | exact xup_o (by omega) (xup_s _ _ _) | exact xup_o (by omega) (xup_o (by omega) (by assumption)) | exact xup_o (by omega) (xup_o (by omega) (xup_s _ _ _)) | exact xup_o (by omega) (xup_o (by omega) (xup_o (by omega) (by assumption)))) (c_Row_at (d + 1) (nI i) h2 (by omega)) (by omega) (by omega) ?_
      rintro y M2 ⟨rfl, rfl⟩
      rw [rAt_nI (by omega), List.getElem?_eq_getElem hlt2]
      refine xi_SN (Y2 := Y_Nam_isDigit) (pc := 26) hX [_] m_Nam_isDigit d_Rea_readPlace_26 l_Rea_89 rfl rfl (by simp [Value.category]) (c_Nam_isDigit (d + 1) _) (by omega) (by omega) ?_
      rintro y M3 ⟨rfl, rfl⟩
      refine xg_if_eq (pc := 29) hX 45 d_Rea_readPlace_29 (by decide) (fun w => ?_) (fun w => ?_)
      · refine k45 _ ?_ hf
        rw [hsc, sc_hit (by omega) (by omega) (bI_eq0.mp w)]
        exact hs1
      · refine xp_aload_0 (pc := 32) hX d_Rea_readPlace_32 ?_
        refine xg_dup (pc := 33) hX d_Rea_readPlace_33 rfl ?_
        refine xg_get (pc := 34) hX (j := 6) k_Rea d_Rea_readPlace_34 l_Rea_37 (by decide) (by first | assumption | exact xup_s _ _ _ | exact xup_o (by omega) (by assumption) | exact xup_o (by omega) (xup_s _ _ _) | exact xup_o (by omega) (xup_o (by omega) (by assumption)) | exact xup_o (by omega) (xup_o (by omega) (xup_s _ _ _)) | exact xup_o (by omega) (xup_o (by omega) (xup_o (by omega) (by assumption)))) (by rfl) ?_
        refine xg_iconst (pc := 37) hX (nI 1) d_Rea_readPlace_37 ci_iconst_1 ?_
        first | refine xn_iadd (pc := 38) hX d_Rea_readPlace_38 ?_ | refine xg_iadd (pc := 38) hX d_Rea_readPlace_38 ?_
        refine xg_put (pc := 39) hX (j := 6) k_Rea d_Rea_readPlace_39 l_Rea_37 (by decide) rfl (by first | assumption | exact xup_s _ _ _ | exact xup_o (by omega) (by assumption) | exact xup_o (by omega) (xup_s _ _ _) | exact xup_o (by omega) (xup_o (by omega) (by assumption)) | exact xup_o (by omega) (xup_o (by omega) (xup_s _ _ _)) | exact xup_o (by omega) (xup_o (by omega) (xup_o (by omega) (by assumption)))) (Nat.le_of_ble_eq_true rfl) rfl rfl (by simp only [List.set_cons_zero, List.set_cons_succ]; exact rfl) ?_
        refine xg_goto (pc := 42) hX 5 d_Rea_readPlace_42 (by decide) ?_
        refine ih (i + 1) _ (by omega) (by omega) ?_ (hs1.put ht4 (by omega)) (hf.tr (FrA.up _ _ _))
        rw [hsc, sc_miss (by omega) (by omega) (bI_ne0.mp w)]
  refine xp_aload_0 (pc := 0) hX d_Rea_readPlace_0 ?_
  refine xg_get (pc := 1) hX (j := 6) k_Rea d_Rea_readPlace_1 l_Rea_37 (by decide) (by first | assumption | exact xup_s _ _ _ | exact xup_o (by omega) (by assumption) | exact xup_o (by omega) (xup_s _ _ _) | exact xup_o (by omega) (xup_o (by omega) (by assumption)) | exact xup_o (by omega) (xup_o (by omega) (xup_s _ _ _)) | exact xup_o (by omega) (xup_o (by omega) (xup_o (by omega) (by assumption)))) (by rfl) ?_
  refine xp_istore_2 (pc := 4) hX d_Rea_readPlace_4 (by decide) ?_
  exact loop (E - pos) pos M (by omega) (Nat.le_refl _) rfl hs (FrA.rf _ _)
