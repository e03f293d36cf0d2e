/-! NameRoom$Reader: several variables, numbers, strings -/
def rdL (t : List UInt8) : Nat → Nat → List xTk → (Nat × Bool) × List xTk
  | 0, s, acc => ((s, false), acc)
  | n + 1, s, acc => if (rdV t s).2 then (if (rdV t s).1 < t.length then (if t[(rdV t s).1]? = some 32 then rdL t n ((rdV t s).1 + 1) (acc ++ [(1, s, (rdV t s).1)]) else (((rdV t s).1, false), acc ++ [(1, s, (rdV t s).1)])) else (((rdV t s).1, true), acc ++ [(1, s, (rdV t s).1)])) else (rdV t s, acc)
/-- a text that is VARIABLES with one blank between, or nothing -/
def rdM (t : List UInt8) (most : Nat) : (Nat × Bool) × List xTk := if t.length = 0 then ((0, true), []) else rdL t most 0 []
set_option maxHeartbeats 4000000 in
set_option maxRecDepth 100000 in
theorem c_Rea_readVariables (d : Nat) {M : xH} {sz h tg pos most : Nat} {t : List UInt8} {tk : List xTk} {ans : Option Nat} (hs : ReA M h t tk tg pos ans) (hm : most ≤ 600) : xC (d + 3) 0 0 Y_Rea_readVariables [.ref h, .int (nI most)] M sz (qi sz (fun y M' => (((rdM t most).1.2 = true ∧ y = nI 0 ∧ ∃ tg' pos', ReA M' h t (rdM t most).2 tg' pos' none) ∨ ((rdM t most).1.2 = false ∧ y = aI (some (rdM t most).1.1) ∧ ∃ tk' tg' pos', ReA M' h t tk' tg' pos' (some (rdM t most).1.1))) ∧ FrA M M' h)) := by
  refine xC_of (by decide) (Nat.le_of_ble_eq_true rfl) (by simp [Value.category]) (vs := [some (.ref h), some (.int (nI most)), none, none]) rfl (fun K hX hE => ?_)
  have hl : t.length ≤ 600 := hs.2.1.2.1
  obtain ⟨h1, -⟩ := id hs
  generalize hR : rdM t most = R at *
  have k125 : ∀ (vs : List (Option Value)) (M1 : xH) (tk : List xTk) (tg pos : Nat) (ans : Option Nat), ReA M1 h t tk tg pos ans → FrA M M1 h → ((R.1.2 = true ∧ ans = none ∧ R.2 = tk) ∨ (R.1.2 = false ∧ ans = some R.1.1)) → xG K 125 (some (.ref h) :: vs) [] M1 sz 0 0 := by
    intro vs M1 tk tg pos ans hs1 hf hc
    obtain ⟨h1, -⟩ := id hs1
    refine xp_aload_0 (pc := 125) hX d_Rea_readVariables_125 ?_
    refine xg_get (pc := 126) hX (j := 7) k_Rea d_Rea_readVariables_126 l_Rea_40 (by decide) (by first | assumption | exact xup_s _ _ _ | exact xup_o (by omega) (by assumption) | exact xup_o (by omega) (xup_s _ _ _) | exact xup_o (by omega) (xup_o (by omega) (by assumption)) | exact xup_o (by omega) (xup_o (by omega) (xup_s _ _ _)) | exact xup_o (by omega) (xup_o (by omega) (xup_o (by omega) (by assumption)))) (by rfl) ?_
    refine xg_iret (pc := 129) hX hE d_Rea_readVariables_129 rfl rfl (by omega) (by omega) ?_
    refine ⟨rfl, _, rfl, ?_, hf⟩
    rcases hc with ⟨c1, rfl, rfl⟩ | ⟨c1, rfl⟩
    · exact Or.inl ⟨c1, rfl, tg, pos, hs1⟩
    · exact Or.inr ⟨c1, rfl, tk, tg, pos, hs1⟩
  -- with more = 0 the loop's head goes to the end
  have k22f : ∀ (i : Nat) (M1 : xH) (tk : List xTk) (tg pos : Nat) (ans : Option Nat), i ≤ 601 → ReA M1 h t tk tg pos ans → FrA M M1 h → ((R.1.2 = true ∧ ans = none ∧ R.2 = tk) ∨ (R.1.2 = false ∧ ans = some R.1.1)) → xG K 22 [some (.ref h), some (.int (nI most)), some (.int (nI 0)), some (.int (nI i))] [] M1 sz 0 0 := by
    intro i M1 tk tg pos ans hi hs1 hf hc
    have k113 : xG K 113 [some (.ref h), some (.int (nI most)), some (.int (nI 0)), some (.int (nI i))] [] M1 sz 0 0 := by
      refine xp_iload_2 (pc := 113) hX d_Rea_readVariables_113 ?_
      refine xn_if_eq (pc := 114) hX 125 d_Rea_readVariables_114 (by decide) (by decide) (fun _ => k125 _ M1 tk tg pos ans hs1 hf hc) (fun w => absurd w (by decide))
    refine xp_iload_3 (pc := 22) hX d_Rea_readVariables_22 ?_
    refine xp_iload_1 (pc := 23) hX d_Rea_readVariables_23 ?_
    refine xn_icmp_ge (pc := 24) hX 113 d_Rea_readVariables_24 (by decide) (by omega) (by omega) (fun _ => k113) (fun _ => ?_)
    refine xp_iload_2 (pc := 27) hX d_Rea_readVariables_27 ?_
    refine xn_if_eq (pc := 28) hX 113 d_Rea_readVariables_28 (by decide) (by decide) (fun _ => k113) (fun w => absurd w (by decide))
  have loop : ∀ (n i pos : Nat) (tk : List xTk) (M1 : xH) (tg : Nat), i + n = most → pos ≤ t.length → tk.length ≤ i → R = rdL t n pos tk → ReA M1 h t tk tg pos none → FrA M M1 h → xG K 22 [some (.ref h), some (.int (nI most)), some (.int (nI 1)), some (.int (nI i))] [] M1 sz 0 0 := by
    intro n
    induction n with
    | zero =>
      intro i pos tk M1 tg hi hp htk hr hs1 hf
      obtain ⟨h1, -⟩ := id hs1
      refine xp_iload_3 (pc := 22) hX d_Rea_readVariables_22 ?_
      refine xp_iload_1 (pc := 23) hX d_Rea_readVariables_23 ?_
      refine xn_icmp_ge (pc := 24) hX 113 d_Rea_readVariables_24 (by decide) (by omega) (by omega) (fun _ => ?_) (fun z => absurd z (by omega))
      refine xp_iload_2 (pc := 113) hX d_Rea_readVariables_113 ?_
      refine xn_if_eq (pc := 114) hX 125 d_Rea_readVariables_114 (by decide) (by decide) (fun w => absurd w (by decide)) (fun _ => ?_)
      refine xp_aload_0 (pc := 117) hX d_Rea_readVariables_117 ?_
      refine xp_aload_0 (pc := 118) hX d_Rea_readVariables_118 ?_
      refine xg_get (pc := 119) hX (j := 6) k_Rea d_Rea_readVariables_119 l_Rea_37 (by decide) (by first | assumption | exact xup_s _ _ _ | exact xup_o (by omega) (by assumption) | exact xup_o (by omega) (xup_s _ _ _) | exact xup_o (by omega) (xup_o (by omega) (by assumption)) | exact xup_o (by omega) (xup_o (by omega) (xup_s _ _ _)) | exact xup_o (by omega) (xup_o (by omega) (xup_o (by omega) (by assumption)))) (by rfl) ?_
      refine xv_V (Y2 := Y_Rea_fail) (pc := 122) hX [_] k_Rea m_Rea_fail d_Rea_readVariables_122 l_Rea_71 rfl rfl (by simp [Value.category]) (by first | assumption | exact xup_s _ _ _ | exact xup_o (by omega) (by assumption) | exact xup_o (by omega) (xup_s _ _ _) | exact xup_o (by omega) (xup_o (by omega) (by assumption)) | exact xup_o (by omega) (xup_o (by omega) (xup_s _ _ _)) | exact xup_o (by omega) (xup_o (by omega) (xup_o (by omega) (by assumption)))) (c_Rea_fail (d + 2) (p := pos) hs1) (by omega) (by omega) ?_
      rintro M2 ⟨a1, a2⟩
      have : R = ((pos, false), tk) := hr
      exact k125 _ M2 _ _ _ _ a1 (hf.tr a2) (Or.inr ⟨by rw [this], by rw [this]⟩)
    | succ n ih =>
      intro i pos tk M1 tg hi hp htk hr hs1 hf
      obtain ⟨h1, -⟩ := id hs1
      have hv := rdV_le (t := t) (s := pos) hp
      have hr2 : R = if (rdV t pos).2 then (if (rdV t pos).1 < t.length then (if t[(rdV t pos).1]? = some 32 then rdL t n ((rdV t pos).1 + 1) (tk ++ [(1, pos, (rdV t pos).1)]) else (((rdV t pos).1, false), tk ++ [(1, pos, (rdV t pos).1)])) else (((rdV t pos).1, true), tk ++ [(1, pos, (rdV t pos).1)])) else (rdV t pos, tk) := hr
      refine xp_iload_3 (pc := 22) hX d_Rea_readVariables_22 ?_
      refine xp_iload_1 (pc := 23) hX d_Rea_readVariables_23 ?_
      refine xn_icmp_ge (pc := 24) hX 113 d_Rea_readVariables_24 (by decide) (by omega) (by omega) (fun z => absurd z (by omega)) (fun _ => ?_)
      refine xp_iload_2 (pc := 27) hX d_Rea_readVariables_27 ?_
      refine xn_if_eq (pc := 28) hX 113 d_Rea_readVariables_28 (by decide) (by decide) (fun w => absurd w (by decide)) (fun _ => ?_)
      refine xp_aload_0 (pc := 31) hX d_Rea_readVariables_31 ?_
      refine xg_iconst (pc := 32) hX (nI 1) d_Rea_readVariables_32 ci_iconst_1 ?_
      refine xv_V (Y2 := Y_Rea_readVariable) (pc := 33) hX [_] k_Rea m_Rea_readVariable d_Rea_readVariables_33 l_Rea_65 rfl rfl (by simp [Value.category]) (by first | assumption | exact xup_s _ _ _ | exact xup_o (by omega) (by assumption) | exact xup_o (by omega) (xup_s _ _ _) | exact xup_o (by omega) (xup_o (by omega) (by assumption)) | exact xup_o (by omega) (xup_o (by omega) (xup_s _ _ _)) | exact xup_o (by omega) (xup_o (by omega) (xup_o (by omega) (by assumption)))) (c_Rea_readVariable d (k := 1) hs1 hp (by omega)) (by omega) (by omega) ?_
      rintro M2 ⟨a3, a4⟩
      generalize rdV t pos = v at *
      -- more = 0 behind the reading
      have k61 : ∀ (M3 : xH) (tk' : List xTk) (tg' p' : Nat) (ans' : Option Nat), ReA M3 h t tk' tg' p' ans' → FrA M M3 h → ((R.1.2 = true ∧ ans' = none ∧ R.2 = tk') ∨ (R.1.2 = false ∧ ans' = some R.1.1)) → xG K 61 [some (.ref h), some (.int (nI most)), some (.int (nI 1)), some (.int (nI i))] [] M3 sz 0 0 := by
        intro M3 tk' tg' p' ans' hs3 hf3 hc
        refine xg_iconst (pc := 61) hX (nI 0) d_Rea_readVariables_61 ci_iconst_0 ?_
        refine xp_istore_2 (pc := 62) hX d_Rea_readVariables_62 (by decide) ?_
        refine xp_iload_2 (pc := 63) hX d_Rea_readVariables_63 ?_
        refine xn_if_eq (pc := 64) hX 93 d_Rea_readVariables_64 (by decide) (by decide) (fun _ => ?_) (fun w => absurd w (by decide))
        refine xp_iload_2 (pc := 93) hX d_Rea_readVariables_93 ?_
        refine xn_if_eq (pc := 94) hX 107 d_Rea_readVariables_94 (by decide) (by decide) (fun _ => ?_) (fun w => absurd w (by decide))
        refine xp_inc_3 (pc := 107) hX d_Rea_readVariables_107 (by decide) ?_
        refine xg_goto (pc := 110) hX 22 d_Rea_readVariables_110 (by decide) ?_
        exact k22f (i + 1) M3 tk' tg' p' ans' (by omega) hs3 hf3 hc
      rcases a3 with ⟨b1, b2⟩ | ⟨b1, p', b2, hp'⟩
      · rw [if_pos b1] at hr2
        obtain ⟨g1, g2, g3, g4, -⟩ := id b2
        obtain ⟨r1, -⟩ := id g2
        refine xp_aload_0 (pc := 36) hX d_Rea_readVariables_36 ?_
        refine xg_get (pc := 37) hX (j := 7) k_Rea d_Rea_readVariables_37 l_Rea_40 (by decide) (by first | assumption | exact xup_s _ _ _ | exact xup_o (by omega) (by assumption) | exact xup_o (by omega) (xup_s _ _ _) | exact xup_o (by omega) (xup_o (by omega) (by assumption)) | exact xup_o (by omega) (xup_o (by omega) (xup_s _ _ _)) | exact xup_o (by omega) (xup_o (by omega) (xup_o (by omega) (by assumption)))) (by rfl) ?_
        refine xn_if_ne (pc := 40) hX 61 d_Rea_readVariables_40 (by decide) (by decide) (fun w => absurd w (by decide)) (fun _ => ?_)
        refine xp_aload_0 (pc := 43) hX d_Rea_readVariables_43 ?_
        refine xg_get (pc := 44) hX (j := 6) k_Rea d_Rea_readVariables_44 l_Rea_37 (by decide) (by first | assumption | exact xup_s _ _ _ | exact xup_o (by omega) (by assumption) | exact xup_o (by omega) (xup_s _ _ _) | exact xup_o (by omega) (xup_o (by omega) (by assumption)) | exact xup_o (by omega) (xup_o (by omega) (xup_s _ _ _)) | exact xup_o (by omega) (xup_o (by omega) (xup_o (by omega) (by assumption)))) (by rfl) ?_
        refine xp_aload_0 (pc := 47) hX d_Rea_readVariables_47 ?_
        refine xg_get (pc := 48) hX (j := 0) k_Rea d_Rea_readVariables_48 l_Rea_14 (by decide) (by first | assumption | exact xup_s _ _ _ | exact xup_o (by omega) (by assumption) | exact xup_o (by omega) (xup_s _ _ _) | exact xup_o (by omega) (xup_o (by omega) (by assumption)) | exact xup_o (by omega) (xup_o (by omega) (xup_s _ _ _)) | exact xup_o (by omega) (xup_o (by omega) (xup_o (by omega) (by assumption)))) (by rfl) ?_
        refine xg_get (pc := 51) hX (j := 1) k_Row d_Rea_readVariables_51 l_Rea_68 (by decide) (by first | assumption | exact xup_s _ _ _ | exact xup_o (by omega) (by assumption) | exact xup_o (by omega) (xup_s _ _ _) | exact xup_o (by omega) (xup_o (by omega) (by assumption)) | exact xup_o (by omega) (xup_o (by omega) (xup_s _ _ _)) | exact xup_o (by omega) (xup_o (by omega) (xup_o (by omega) (by assumption)))) (by rfl) ?_
        refine xn_icmp_ge (pc := 54) hX 61 d_Rea_readVariables_54 (by decide) (by omega) (by omega) (fun w => ?_) (fun w => ?_)
        · rw [if_neg (by omega)] at hr2
          exact k61 M2 _ tg v.1 none b2 (hf.tr a4) (Or.inl ⟨by rw [hr2], rfl, by rw [hr2]⟩)
        · rw [if_pos w] at hr2
          refine xg_iconst (pc := 57) hX (nI 1) d_Rea_readVariables_57 ci_iconst_1 ?_
          refine xg_goto (pc := 58) hX 62 d_Rea_readVariables_58 (by decide) ?_
          refine xp_istore_2 (pc := 62) hX d_Rea_readVariables_62 (by decide) ?_
          refine xp_iload_2 (pc := 63) hX d_Rea_readVariables_63 ?_
          refine xn_if_eq (pc := 64) hX 93 d_Rea_readVariables_64 (by decide) (by decide) (fun w => absurd w (by decide)) (fun _ => ?_)
          refine xp_aload_0 (pc := 67) hX d_Rea_readVariables_67 ?_
          refine xg_get (pc := 68) hX (j := 0) k_Rea d_Rea_readVariables_68 l_Rea_14 (by decide) (by first | assumption | exact xup_s _ _ _ | exact xup_o (by omega) (by assumption) | exact xup_o (by omega) (xup_s _ _ _) | exact xup_o (by omega) (xup_o (by omega) (by assumption)) | exact xup_o (by omega) (xup_o (by omega) (xup_s _ _ _)) | exact xup_o (by omega) (xup_o (by omega) (xup_o (by omega) (by assumption)))) (by rfl) ?_
          refine xp_aload_0 (pc := 71) hX d_Rea_readVariables_71 ?_
          refine xg_get (pc := 72) hX (j := 6) k_Rea d_Rea_readVariables_72 l_Rea_37 (by decide) (by first | assumption | exact xup_s _ _ _ | exact xup_o (by omega) (by assumption) | exact xup_o (by omega) (xup_s _ _ _) | exact xup_o (by omega) (xup_o (by omega) (by assumption)) | exact xup_o (by omega) (xup_o (by omega) (xup_s _ _ _)) | exact xup_o (by omega) (xup_o (by omega) (xup_o (by omega) (by assumption)))) (by rfl) ?_
          refine xi_V (Y2 := Y_Row_at) (pc := 75) hX [_] k_Row m_Row_at d_Rea_readVariables_75 l_Rea_53 rfl rfl (by simp [Value.category]) (by first | assumption | exact xup_s _ _ _ | exact xup_o (by omega) (by assumption) | exact xup_o (by omega) (xup_s _ _ _) | exact xup_o (by omega) (xup_o (by omega) (by assumption)) | exact xup_o (by omega) (xup_o (by omega) (xup_s _ _ _)) | exact xup_o (by omega) (xup_o (by omega) (xup_o (by omega) (by assumption)))) (c_Row_at (d + 2) (nI v.1) g2 (by omega)) (by omega) (by omega) ?_
          rintro y M3 ⟨rfl, rfl⟩
          rw [rAt_nI (by omega)]
          refine xg_bipush (pc := 78) hX (nI 32) d_Rea_readVariables_78 ci_bipush_32 ?_
          refine xg_icmp_eq (pc := 80) hX 93 d_Rea_readVariables_80 (by decide) (fun z => ?_) (fun z => ?_)
          · have z : t[v.1]? = some 32 := (oI_eq (by decide)).mp z
            rw [if_pos z] at hr2
            refine xp_iload_2 (pc := 93) hX d_Rea_readVariables_93 ?_
            refine xn_if_eq (pc := 94) hX 107 d_Rea_readVariables_94 (by decide) (by decide) (fun w => absurd w (by decide)) (fun _ => ?_)
            refine xp_aload_0 (pc := 97) hX d_Rea_readVariables_97 ?_
            refine xg_dup (pc := 98) hX d_Rea_readVariables_98 rfl ?_
            refine xg_get (pc := 99) hX (j := 6) k_Rea d_Rea_readVariables_99 l_Rea_37 (by decide) (by first | assumption | exact xup_s _ _ _ | exact xup_o (by omega) (by assumption) | exact xup_o (by omega) (xup_s _ _ _) | exact xup_o (by omega) (xup_o (by omega) (by assumption)) | exact xup_o (by omega) (xup_o (by omega) (xup_s _ _ _)) | exact xup_o (by omega) (xup_o (by omega) (xup_o (by omega) (by assumption)))) (by rfl) ?_
            refine xg_iconst (pc := 102) hX (nI 1) d_Rea_readVariables_102 ci_iconst_1 ?_
            first | refine xn_iadd (pc := 103) hX d_Rea_readVariables_103 ?_ | refine xg_iadd (pc := 103) hX d_Rea_readVariables_103 ?_
            refine xg_put (pc := 104) hX (j := 6) k_Rea d_Rea_readVariables_104 l_Rea_37 (by decide) rfl (by first | assumption | exact xup_s _ _ _ | exact xup_o (by omega) (by assumption) | exact xup_o (by omega) (xup_s _ _ _) | exact xup_o (by omega) (xup_o (by omega) (by assumption)) | exact xup_o (by omega) (xup_o (by omega) (xup_s _ _ _)) | exact xup_o (by omega) (xup_o (by omega) (xup_o (by omega) (by assumption)))) (Nat.le_of_ble_eq_true rfl) rfl rfl (by simp only [List.set_cons_zero, List.set_cons_succ]; exact rfl) ?_
            refine xp_inc_3 (pc := 107) hX d_Rea_readVariables_107 (by decide) ?_
            refine xg_goto (pc := 110) hX 22 d_Rea_readVariables_110 (by decide) ?_
            refine ih (i + 1) (v.1 + 1) _ _ tg (by omega) (by omega) (by simp; omega) hr2 (b2.put g4 (by omega)) ((hf.tr a4).tr (FrA.up _ _ _))
          · have z : ¬ t[v.1]? = some 32 := fun q => z ((oI_eq (by decide)).mpr (by rw [q]; rfl))
            rw [if_neg z] at hr2
            refine xp_aload_0 (pc := 83) hX d_Rea_readVariables_83 ?_
            refine xp_aload_0 (pc := 84) hX d_Rea_readVariables_84 ?_
            refine xg_get (pc := 85) hX (j := 6) k_Rea d_Rea_readVariables_85 l_Rea_37 (by decide) (by first | assumption | exact xup_s _ _ _ | exact xup_o (by omega) (by assumption) | exact xup_o (by omega) (xup_s _ _ _) | exact xup_o (by omega) (xup_o (by omega) (by assumption)) | exact xup_o (by omega) (xup_o (by omega) (xup_s _ _ _)) | exact xup_o (by omega) (xup_o (by omega) (xup_o (by omega) (by assumption)))) (by rfl) ?_
            refine xv_V (Y2 := Y_Rea_fail) (pc := 88) hX [_] k_Rea m_Rea_fail d_Rea_readVariables_88 l_Rea_71 rfl rfl (by simp [Value.category]) (by first | assumption | exact xup_s _ _ _ | exact xup_o (by omega) (by assumption) | exact xup_o (by omega) (xup_s _ _ _) | exact xup_o (by omega) (xup_o (by omega) (by assumption)) | exact xup_o (by omega) (xup_o (by omega) (xup_s _ _ _)) | exact xup_o (by omega) (xup_o (by omega) (xup_o (by omega) (by assumption)))) (c_Rea_fail (d + 2) (p := v.1) b2) (by omega) (by omega) ?_
            rintro M4 ⟨d1, d2⟩
            refine xg_iconst (pc := 91) hX (nI 0) d_Rea_readVariables_91 ci_iconst_0 ?_
            refine xp_istore_2 (pc := 92) hX d_Rea_readVariables_92 (by decide) ?_
            refine xp_iload_2 (pc := 93) hX d_Rea_readVariables_93 ?_
            refine xn_if_eq (pc := 94) hX 107 d_Rea_readVariables_94 (by decide) (by decide) (fun _ => ?_) (fun w => absurd w (by decide))
            refine xp_inc_3 (pc := 107) hX d_Rea_readVariables_107 (by decide) ?_
            refine xg_goto (pc := 110) hX 22 d_Rea_readVariables_110 (by decide) ?_
            exact k22f (i + 1) M4 _ tg v.1 _ (by omega) d1 ((hf.tr a4).tr d2) (Or.inr ⟨by rw [hr2], by rw [hr2]⟩)
      · rw [if_neg (by rw [b1]; decide)] at hr2
        obtain ⟨g1, -⟩ := id b2
        refine xp_aload_0 (pc := 36) hX d_Rea_readVariables_36 ?_
        refine xg_get (pc := 37) hX (j := 7) k_Rea d_Rea_readVariables_37 l_Rea_40 (by decide) (by first | assumption | exact xup_s _ _ _ | exact xup_o (by omega) (by assumption) | exact xup_o (by omega) (xup_s _ _ _) | exact xup_o (by omega) (xup_o (by omega) (by assumption)) | exact xup_o (by omega) (xup_o (by omega) (xup_s _ _ _)) | exact xup_o (by omega) (xup_o (by omega) (xup_o (by omega) (by assumption)))) (by rfl) ?_
        refine xg_if_ne (pc := 40) hX 61 d_Rea_readVariables_40 (by decide) (fun w => ?_) (fun w => absurd w (aI_some (by omega)))
        exact k61 M2 tk tg p' _ b2 (hf.tr a4) (Or.inr ⟨by rw [hr2]; exact b1, by rw [hr2]⟩)
  refine xp_aload_0 (pc := 0) hX d_Rea_readVariables_0 ?_
  refine xv_V (Y2 := Y_Rea_begin) (pc := 1) hX [] k_Rea m_Rea_begin d_Rea_readVariables_1 l_Rea_62 rfl rfl (by simp [Value.category]) (by first | assumption | exact xup_s _ _ _ | exact xup_o (by omega) (by assumption) | exact xup_o (by omega) (xup_s _ _ _) | exact xup_o (by omega) (xup_o (by omega) (by assumption)) | exact xup_o (by omega) (xup_o (by omega) (xup_s _ _ _)) | exact xup_o (by omega) (xup_o (by omega) (xup_o (by omega) (by assumption)))) (c_Rea_begin (d + 2) hs) (by omega) (by omega) ?_
  rintro M1 ⟨a1, a2⟩
  obtain ⟨g1, g2, -⟩ := id a1
  obtain ⟨r1, -⟩ := id g2
  refine xp_aload_0 (pc := 4) hX d_Rea_readVariables_4 ?_
  refine xg_get (pc := 5) hX (j := 0) k_Rea d_Rea_readVariables_5 l_Rea_14 (by decide) (by first | assumption | exact xup_s _ _ _ | exact xup_o (by omega) (by assumption) | exact xup_o (by omega) (xup_s _ _ _) | exact xup_o (by omega) (xup_o (by omega) (by assumption)) | exact xup_o (by omega) (xup_o (by omega) (xup_s _ _ _)) | exact xup_o (by omega) (xup_o (by omega) (xup_o (by omega) (by assumption)))) (by rfl) ?_
  refine xg_get (pc := 8) hX (j := 1) k_Row d_Rea_readVariables_8 l_Rea_68 (by decide) (by first | assumption | exact xup_s _ _ _ | exact xup_o (by omega) (by assumption) | exact xup_o (by omega) (xup_s _ _ _) | exact xup_o (by omega) (xup_o (by omega) (by assumption)) | exact xup_o (by omega) (xup_o (by omega) (xup_s _ _ _)) | exact xup_o (by omega) (xup_o (by omega) (xup_o (by omega) (by assumption)))) (by rfl) ?_
  refine xn_if_le (pc := 11) hX 18 d_Rea_readVariables_11 (by decide) (by omega) (fun w => ?_) (fun w => ?_)
  · have hR2 : R = ((0, true), []) := by rw [← hR]; unfold rdM; rw [if_pos w]
    refine xg_iconst (pc := 18) hX (nI 0) d_Rea_readVariables_18 ci_iconst_0 ?_
    refine xp_istore_2 (pc := 19) hX d_Rea_readVariables_19 (by decide) ?_
    refine xg_iconst (pc := 20) hX (nI 0) d_Rea_readVariables_20 ci_iconst_0 ?_
    refine xp_istore_3 (pc := 21) hX d_Rea_readVariables_21 (by decide) ?_
    exact k22f 0 M1 [] 0 0 none (by omega) a1 a2 (Or.inl ⟨by rw [hR2], rfl, by rw [hR2]⟩)
  · have hR2 : R = rdL t most 0 [] := by rw [← hR]; unfold rdM; rw [if_neg (by omega)]
    refine xg_iconst (pc := 14) hX (nI 1) d_Rea_readVariables_14 ci_iconst_1 ?_
    refine xg_goto (pc := 15) hX 19 d_Rea_readVariables_15 (by decide) ?_
    refine xp_istore_2 (pc := 19) hX d_Rea_readVariables_19 (by decide) ?_
    refine xg_iconst (pc := 20) hX (nI 0) d_Rea_readVariables_20 ci_iconst_0 ?_
    refine xp_istore_3 (pc := 21) hX d_Rea_readVariables_21 (by decide) ?_
    exact loop most 0 0 [] M1 0 (by omega) (Nat.zero_le _) (Nat.le_refl _) hR2 a1 a2
/-- a number out of its digits -/
def numb (l : List UInt8) : Nat := l.foldl (fun n c => n * 10 + (c.toNat - 48)) 0
set_option maxHeartbeats 4000000 in
set_option maxRecDepth 100000 in
theorem c_Rea_numberOf (d : Nat) {M : xH} {sz h tg pos i k a b : Nat} {t : List UInt8} {tk : List xTk} {ans : Option Nat} (hs : ReA M h t tk tg pos ans) (hi : tk[i]? = some (k, a, b)) (hab : a ≤ b) (hb : b ≤ t.length) (hdg : ∀ c ∈ sl t a b, dig c = true) : xC (d + 1) 0 0 Y_Rea_numberOf [.ref h, .int (nI i)] M sz (qi sz (fun y M' => y = nI (numb (sl t a b)) ∧ M' = M)) := by
  refine xC_of (by decide) (Nat.le_of_ble_eq_true rfl) (by simp [Value.category]) (vs := [some (.ref h), some (.int (nI i)), none, none]) rfl (fun K hX hE => ?_)
  have hl : t.length ≤ 600 := hs.2.1.2.1
  have hil := (List.getElem?_eq_some_iff.mp hi).1
  have htl := hs.2.2.1
  obtain ⟨h1, h2, -⟩ := id hs
  obtain ⟨r1, -⟩ := id h2
  have eA : tkA tk i = a := by unfold tkA; rw [hi]
  have eB : tkB tk i = b := by unfold tkB; rw [hi]
  have loop : ∀ (n j : Nat), j + n = b → a ≤ j → xG K 8 [some (.ref h), some (.int (nI i)), some (.int (nI (numb (sl t a j)))), some (.int (nI j))] [] M sz 0 0 := by
    intro n
    induction n with
    | zero =>
      intro j hj haj
      refine xp_iload_3 (pc := 8) hX d_Rea_numberOf_8 ?_
      refine xp_aload_0 (pc := 9) hX d_Rea_numberOf_9 ?_
      refine xp_iload_1 (pc := 10) hX d_Rea_numberOf_10 ?_
      refine xi_V (Y2 := Y_Rea_stopOf) (pc := 11) hX [_] k_Rea m_Rea_stopOf d_Rea_numberOf_11 l_Rea_50 rfl rfl (by simp [Value.category]) (by first | assumption | exact xup_s _ _ _ | exact xup_o (by omega) (by assumption) | exact xup_o (by omega) (xup_s _ _ _) | exact xup_o (by omega) (xup_o (by omega) (by assumption)) | exact xup_o (by omega) (xup_o (by omega) (xup_s _ _ _)) | exact xup_o (by omega) (xup_o (by omega) (xup_o (by omega) (by assumption)))) (c_Rea_stopOf d hs (by omega)) (by omega) (by omega) ?_
      rintro y M1 ⟨rfl, rfl⟩
      rw [eB]
      refine xn_icmp_ge (pc := 14) hX 40 d_Rea_numberOf_14 (by decide) (by omega) (by omega) (fun _ => ?_) (fun w => absurd w (by omega))
      refine xp_iload_2 (pc := 40) hX d_Rea_numberOf_40 ?_
      refine xg_iret (pc := 41) hX hE d_Rea_numberOf_41 rfl rfl (by omega) (by omega) ?_
      have : j = b := by omega
      subst this
      exact ⟨rfl, _, rfl, rfl, rfl⟩
    | succ n ih =>
      intro j hj haj
      have hjt : j < t.length := by omega
      have hcd : dig t[j] = true := by
        refine hdg _ (List.mem_of_getElem? (i := j - a) ?_)
        rw [sl_at (by omega), show a + (j - a) = j by omega, List.getElem?_eq_getElem hjt]
      have hge : 48 ≤ t[j].toNat := by
        unfold dig at hcd
        simp at hcd
        exact hcd.1
      refine xp_iload_3 (pc := 8) hX d_Rea_numberOf_8 ?_
      refine xp_aload_0 (pc := 9) hX d_Rea_numberOf_9 ?_
      refine xp_iload_1 (pc := 10) hX d_Rea_numberOf_10 ?_
      refine xi_V (Y2 := Y_Rea_stopOf) (pc := 11) hX [_] k_Rea m_Rea_stopOf d_Rea_numberOf_11 l_Rea_50 rfl rfl (by simp [Value.category]) (by first | assumption | exact xup_s _ _ _ | exact xup_o (by omega) (by assumption) | exact xup_o (by omega) (xup_s _ _ _) | exact xup_o (by omega) (xup_o (by omega) (by assumption)) | exact xup_o (by omega) (xup_o (by omega) (xup_s _ _ _)) | exact xup_o (by omega) (xup_o (by omega) (xup_o (by omega) (by assumption)))) (c_Rea_stopOf d hs (by omega)) (by omega) (by omega) ?_
      rintro y M1 ⟨rfl, rfl⟩
      rw [eB]
      refine xn_icmp_ge (pc := 14) hX 40 d_Rea_numberOf_14 (by decide) (by omega) (by omega) (fun w => absurd w (by omega)) (fun _ => ?_)
      refine xp_iload_2 (pc := 17) hX d_Rea_numberOf_17 ?_
      refine xg_bipush (pc := 18) hX (nI 10) d_Rea_numberOf_18 ci_bipush_10 ?_
      first | refine xn_imul (pc := 20) hX d_Rea_numberOf_20 ?_ | refine xg_imul (pc := 20) hX d_Rea_numberOf_20 ?_
      refine xp_aload_0 (pc := 21) hX d_Rea_numberOf_21 ?_
      refine xg_get (pc := 22) hX (j := 0) k_Rea d_Rea_numberOf_22 l_Rea_14 (by decide) (by first | assumption | exact xup_s _ _ _ | exact xup_o (by omega) (by assumption) | exact xup_o (by omega) (xup_s _ _ _) | exact xup_o (by omega) (xup_o (by omega) (by assumption)) | exact xup_o (by omega) (xup_o (by omega) (xup_s _ _ _)) | exact xup_o (by omega) (xup_o (by omega) (xup_o (by omega) (by assumption)))) (by rfl) ?_
      refine xp_iload_3 (pc := 25) hX d_Rea_numberOf_25 ?_
      refine xi_V (Y2 := Y_Row_at) (pc := 26) hX [_] k_Row m_Row_at d_Rea_numberOf_26 l_Rea_53 rfl rfl (by simp [Value.category]) (by first | assumption | exact xup_s _ _ _ | exact xup_o (by omega) (by assumption) | exact xup_o (by omega) (xup_s _ _ _) | exact xup_o (by omega) (xup_o (by omega) (by assumption)) | exact xup_o (by omega) (xup_o (by omega) (xup_s _ _ _)) | exact xup_o (by omega) (xup_o (by omega) (xup_o (by omega) (by assumption)))) (c_Row_at d (nI j) h2 (by omega)) (by omega) (by omega) ?_
      rintro y M2 ⟨rfl, rfl⟩
      rw [rAt_nI (by omega), List.getElem?_eq_getElem hjt]
      refine xn_iadd (b := t[j].toNat) (pc := 29) hX d_Rea_numberOf_29 ?_
      refine xg_bipush (pc := 30) hX (nI 48) d_Rea_numberOf_30 ci_bipush_48 ?_
      first | refine xn_isub (pc := 32) hX d_Rea_numberOf_32 (by omega) ?_ | refine xg_isub (pc := 32) hX d_Rea_numberOf_32 ?_
      refine xp_istore_2 (pc := 33) hX d_Rea_numberOf_33 (by decide) ?_
      refine xp_inc_3 (pc := 34) hX d_Rea_numberOf_34 (by decide) ?_
      refine xg_goto (pc := 37) hX 8 d_Rea_numberOf_37 (by decide) ?_
      have h9 := ih (j + 1) (by omega) (by omega)
      have e9 : numb (sl t a (j + 1)) = numb (sl t a j) * 10 + t[j].toNat - 48 := by
        unfold numb
        rw [sl_succ haj hjt, List.foldl_append]
        show _ * 10 + (t[j].toNat - 48) = _
        omega
      rw [e9] at h9
      exact h9
  refine xg_iconst (pc := 0) hX (nI 0) d_Rea_numberOf_0 ci_iconst_0 ?_
  refine xp_istore_2 (pc := 1) hX d_Rea_numberOf_1 (by decide) ?_
  refine xp_aload_0 (pc := 2) hX d_Rea_numberOf_2 ?_
  refine xp_iload_1 (pc := 3) hX d_Rea_numberOf_3 ?_
  refine xi_V (Y2 := Y_Rea_startOf) (pc := 4) hX [_] k_Rea m_Rea_startOf d_Rea_numberOf_4 l_Rea_47 rfl rfl (by simp [Value.category]) (by first | assumption | exact xup_s _ _ _ | exact xup_o (by omega) (by assumption) | exact xup_o (by omega) (xup_s _ _ _) | exact xup_o (by omega) (xup_o (by omega) (by assumption)) | exact xup_o (by omega) (xup_o (by omega) (xup_s _ _ _)) | exact xup_o (by omega) (xup_o (by omega) (xup_o (by omega) (by assumption)))) (c_Rea_startOf d hs (by omega)) (by omega) (by omega) ?_
  rintro y M1 ⟨rfl, rfl⟩
  rw [eA]
  refine xp_istore_3 (pc := 7) hX d_Rea_numberOf_7 (by decide) ?_
  have h9 := loop (b - a) a (by omega) (Nat.le_refl _)
  rw [sl_same] at h9
  exact h9
/-- what a STRING says: its bytes, two quotes being one -/
def unq (t : List UInt8) (q : UInt8) (b : Nat) : Nat → Nat → List UInt8
  | 0, _ => []
  | n + 1, i => if i < b then (match t[i]? with | none => [] | some c => c :: unq t q b n (if c == q then i + 2 else i + 1)) else []
theorem unq_end {t : List UInt8} {q : UInt8} {b n i : Nat} (h : b ≤ i) : unq t q b n i = [] := by
  cases n with
  | zero => rfl
  | succ n => unfold unq; rw [if_neg (by omega)]
theorem unq_len {t : List UInt8} {q : UInt8} {b : Nat} : ∀ n i, (unq t q b n i).length ≤ n
  | 0, _ => Nat.le_refl _
  | n + 1, i => by
    unfold unq
    split
    · split
      · exact Nat.zero_le _
      · have := unq_len (t := t) (q := q) (b := b) n
        simp only [List.length_cons]
        exact Nat.succ_le_succ (this _)
    · exact Nat.zero_le _
set_option maxHeartbeats 4000000 in
set_option maxRecDepth 100000 in
theorem c_Rea_copyString (d : Nat) {M : xH} {sz h tg pos i k a b r : Nat} {t old : List UInt8} {tk : List xTk} {ans : Option Nat} {q : UInt8} (hs : ReA M h t tk tg pos ans) (hr : RowAt M r 200 old) (hrh : r + 1 < h ∨ h + 6 ≤ r) (hi : tk[i]? = some (k, a, b)) (ha1 : 1 ≤ a) (hab : a ≤ b) (hb : b ≤ t.length) (hq : t[a - 1]? = some q) (hba : b - a ≤ 200) : xC (d + 1) 0 0 Y_Rea_copyString [.ref h, .int (nI i), .ref r] M sz (qv sz (fun M' => RowAt M' r 200 (unq t q b (b - a) a) ∧ Fr2 M M' r)) := by
  refine xC_of (by decide) (Nat.le_of_ble_eq_true rfl) (by simp [Value.category]) (vs := [some (.ref h), some (.int (nI i)), some (.ref r), none, none]) rfl (fun K hX hE => ?_)
  have hl : t.length ≤ 600 := hs.2.1.2.1
  have hil := (List.getElem?_eq_some_iff.mp hi).1
  have htl := hs.2.2.1
  have eA : tkA tk i = a := by unfold tkA; rw [hi]
  have eB : tkB tk i = b := by unfold tkB; rw [hi]
  have hul := unq_len (t := t) (q := q) (b := b) (b - a) a
  obtain ⟨r0, -⟩ := id hr
  have loop : ∀ (n j : Nat) (got : List UInt8) (M1 : xH), b ≤ j + n → got ++ unq t q b n j = unq t q b (b - a) a → RowAt M1 r 200 got → Fr2 M M1 r → j ≤ b + 1 → xG K 26 [some (.ref h), some (.int (nI i)), some (.ref r), some (.int (nI q.toNat)), some (.int (nI j))] [] M1 sz 0 0 := by
    intro n
    induction n with
    | zero =>
      intro j got M1 hj hg hr1 hf hjb
      have hs1 : ReA M1 h t tk tg pos ans := hs.kept (fun z z1 z2 => hf z (by omega) (by omega))
      obtain ⟨h1, h2, -⟩ := id hs1
      refine xp_iload_4 (pc := 26) hX d_Rea_copyString_26 ?_
      refine xp_aload_0 (pc := 28) hX d_Rea_copyString_28 ?_
      refine xp_iload_1 (pc := 29) hX d_Rea_copyString_29 ?_
      refine xi_V (Y2 := Y_Rea_stopOf) (pc := 30) hX [_] k_Rea m_Rea_stopOf d_Rea_copyString_30 l_Rea_50 rfl rfl (by simp [Value.category]) (by first | assumption | exact xup_s _ _ _ | exact xup_o (by omega) (by assumption) | exact xup_o (by omega) (xup_s _ _ _) | exact xup_o (by omega) (xup_o (by omega) (by assumption)) | exact xup_o (by omega) (xup_o (by omega) (xup_s _ _ _)) | exact xup_o (by omega) (xup_o (by omega) (xup_o (by omega) (by assumption)))) (c_Rea_stopOf d hs1 (by omega)) (by omega) (by omega) ?_
      rintro y M2 ⟨rfl, rfl⟩
      rw [eB]
      refine xn_icmp_ge (pc := 33) hX 72 d_Rea_copyString_33 (by decide) (by omega) (by omega) (fun _ => ?_) (fun w => absurd w (by omega))
      refine xg_vret (pc := 72) hX hE d_Rea_copyString_72 rfl (by omega) (by omega) ?_
      refine ⟨rfl, rfl, ?_, hf⟩
      rw [← hg, show unq t q b 0 j = [] from rfl, List.append_nil]
      exact hr1
    | succ n ih =>
      intro j got M1 hj hg hr1 hf hjb
      have hs1 : ReA M1 h t tk tg pos ans := hs.kept (fun z z1 z2 => hf z (by omega) (by omega))
      obtain ⟨h1, h2, -⟩ := id hs1
      obtain ⟨r1, -⟩ := id h2
      obtain ⟨r2, -⟩ := id hr1
      refine xp_iload_4 (pc := 26) hX d_Rea_copyString_26 ?_
      refine xp_aload_0 (pc := 28) hX d_Rea_copyString_28 ?_
      refine xp_iload_1 (pc := 29) hX d_Rea_copyString_29 ?_
      refine xi_V (Y2 := Y_Rea_stopOf) (pc := 30) hX [_] k_Rea m_Rea_stopOf d_Rea_copyString_30 l_Rea_50 rfl rfl (by simp [Value.category]) (by first | assumption | exact xup_s _ _ _ | exact xup_o (by omega) (by assumption) | exact xup_o (by omega) (xup_s _ _ _) | exact xup_o (by omega) (xup_o (by omega) (by assumption)) | exact xup_o (by omega) (xup_o (by omega) (xup_s _ _ _)) | exact xup_o (by omega) (xup_o (by omega) (xup_o (by omega) (by assumption)))) (c_Rea_stopOf d hs1 (by omega)) (by omega) (by omega) ?_
      rintro y M2 ⟨rfl, rfl⟩
      rw [eB]
      refine xn_icmp_ge (pc := 33) hX 72 d_Rea_copyString_33 (by decide) (by omega) (by omega) (fun w => ?_) (fun w => ?_)
      · refine xg_vret (pc := 72) hX hE d_Rea_copyString_72 rfl (by omega) (by omega) ?_
        refine ⟨rfl, rfl, ?_, hf⟩
        rw [unq_end (by omega), List.append_nil] at hg
        rw [← hg]
        exact hr1
      · have hjt : j < t.length := by omega
        have hc : t[j]? = some t[j] := List.getElem?_eq_getElem hjt
        generalize t[j] = c at hc
        have hu : unq t q b (n + 1) j = c :: unq t q b n (if c == q then j + 2 else j + 1) := by
          show (if j < b then _ else _) = _
          rw [if_pos w, hc]
        rw [hu] at hg
        have hgl : got.length < 200 := by
          have := congrArg List.length hg
          rw [List.length_append, List.length_cons] at this
          omega
        refine xp_aload_2 (pc := 36) hX d_Rea_copyString_36 ?_
        refine xp_aload_0 (pc := 37) hX d_Rea_copyString_37 ?_
        refine xg_get (pc := 38) hX (j := 0) k_Rea d_Rea_copyString_38 l_Rea_14 (by decide) (by first | assumption | exact xup_s _ _ _ | exact xup_o (by omega) (by assumption) | exact xup_o (by omega) (xup_s _ _ _) | exact xup_o (by omega) (xup_o (by omega) (by assumption)) | exact xup_o (by omega) (xup_o (by omega) (xup_s _ _ _)) | exact xup_o (by omega) (xup_o (by omega) (xup_o (by omega) (by assumption)))) (by rfl) ?_
        refine xp_iload_4 (pc := 41) hX d_Rea_copyString_41 ?_
        refine xi_V (Y2 := Y_Row_at) (pc := 43) hX [_] k_Row m_Row_at d_Rea_copyString_43 l_Rea_53 rfl rfl (by simp [Value.category]) (by first | assumption | exact xup_s _ _ _ | exact xup_o (by omega) (by assumption) | exact xup_o (by omega) (xup_s _ _ _) | exact xup_o (by omega) (xup_o (by omega) (by assumption)) | exact xup_o (by omega) (xup_o (by omega) (xup_s _ _ _)) | exact xup_o (by omega) (xup_o (by omega) (xup_o (by omega) (by assumption)))) (c_Row_at d (nI j) h2 (by omega)) (by omega) (by omega) ?_
        rintro y M3 ⟨rfl, rfl⟩
        rw [rAt_nI (by omega), hc]
        refine xi_V (Y2 := Y_Row_add) (pc := 46) hX [_] k_Row m_Row_add d_Rea_copyString_46 l_Rea_58 rfl rfl (by simp [Value.category]) (by first | assumption | exact xup_s _ _ _ | exact xup_o (by omega) (by assumption) | exact xup_o (by omega) (xup_s _ _ _) | exact xup_o (by omega) (xup_o (by omega) (by assumption)) | exact xup_o (by omega) (xup_o (by omega) (xup_s _ _ _)) | exact xup_o (by omega) (xup_o (by omega) (xup_o (by omega) (by assumption)))) (c_Row_add d (nI c.toNat) c rfl hr1 (by omega)) (by omega) (by omega) ?_
        intro y M4 hadd
        rcases hadd with ⟨-, -, b1, b2⟩ | ⟨z, -, -⟩
        · have hs4 : ReA M4 h t tk tg pos ans := hs1.kept (fun z z1 z2 => b2 z (by omega) (by omega))
          obtain ⟨h1, h2, -⟩ := id hs4
          obtain ⟨r1, -⟩ := id h2
          refine xg_pop (pc := 49) hX d_Rea_copyString_49 rfl ?_
          refine xp_aload_0 (pc := 50) hX d_Rea_copyString_50 ?_
          refine xg_get (pc := 51) hX (j := 0) k_Rea d_Rea_copyString_51 l_Rea_14 (by decide) (by first | assumption | exact xup_s _ _ _ | exact xup_o (by omega) (by assumption) | exact xup_o (by omega) (xup_s _ _ _) | exact xup_o (by omega) (xup_o (by omega) (by assumption)) | exact xup_o (by omega) (xup_o (by omega) (xup_s _ _ _)) | exact xup_o (by omega) (xup_o (by omega) (xup_o (by omega) (by assumption)))) (by rfl) ?_
          refine xp_iload_4 (pc := 54) hX d_Rea_copyString_54 ?_
          refine xi_V (Y2 := Y_Row_at) (pc := 56) hX [_] k_Row m_Row_at d_Rea_copyString_56 l_Rea_53 rfl rfl (by simp [Value.category]) (by first | assumption | exact xup_s _ _ _ | exact xup_o (by omega) (by assumption) | exact xup_o (by omega) (xup_s _ _ _) | exact xup_o (by omega) (xup_o (by omega) (by assumption)) | exact xup_o (by omega) (xup_o (by omega) (xup_s _ _ _)) | exact xup_o (by omega) (xup_o (by omega) (xup_o (by omega) (by assumption)))) (c_Row_at d (nI j) h2 (by omega)) (by omega) (by omega) ?_
          rintro y M5 ⟨rfl, rfl⟩
          rw [rAt_nI (by omega), hc]
          refine xp_iload_3 (pc := 59) hX d_Rea_copyString_59 ?_
          refine xg_icmp_ne (pc := 60) hX 66 d_Rea_copyString_60 (by decide) (fun z => ?_) (fun z => ?_)
          · have z : (c == q) = false := by
              rw [beq_eq_false_iff_ne]
              intro z1; exact z (by rw [z1]; rfl)
            refine xp_inc_4 (pc := 66) hX d_Rea_copyString_66 (by decide) ?_
            refine xg_goto (pc := 69) hX 26 d_Rea_copyString_69 (by decide) ?_
            refine ih (j + 1) (got ++ [c]) _ (by omega) ?_ b1 (hf.tr b2) (by omega)
            rw [← hg, z, List.append_assoc]; rfl
          · have z : (c == q) = true := by
              have := oI_inj.mp (show oI (some c) = oI (some q) from z)
              simpa using this
            refine xp_inc_4 (pc := 63) hX d_Rea_copyString_63 (by decide) ?_
            refine xp_inc_4 (pc := 66) hX d_Rea_copyString_66 (by decide) ?_
            refine xg_goto (pc := 69) hX 26 d_Rea_copyString_69 (by decide) ?_
            refine ih (j + 1 + 1) (got ++ [c]) _ (by omega) ?_ b1 (hf.tr b2) (by omega)
            rw [← hg, z, List.append_assoc]; rfl
        · exact absurd z (by omega)
  refine xp_aload_2 (pc := 0) hX d_Rea_copyString_0 ?_
  refine xv_V (Y2 := Y_Row_clear) (pc := 1) hX [] k_Row m_Row_clear d_Rea_copyString_1 l_Rea_55 rfl rfl (by simp [Value.category]) (by first | assumption | exact xup_s _ _ _ | exact xup_o (by omega) (by assumption) | exact xup_o (by omega) (xup_s _ _ _) | exact xup_o (by omega) (xup_o (by omega) (by assumption)) | exact xup_o (by omega) (xup_o (by omega) (xup_s _ _ _)) | exact xup_o (by omega) (xup_o (by omega) (xup_o (by omega) (by assumption)))) (c_Row_clear d hr) (by omega) (by omega) ?_
  rintro M1 ⟨a1, a2⟩
  have hs1 : ReA M1 h t tk tg pos ans := hs.kept (fun z z1 z2 => a2 z (by omega) (by omega))
  obtain ⟨h1, h2, -⟩ := id hs1
  obtain ⟨r1, -⟩ := id h2
  refine xp_aload_0 (pc := 4) hX d_Rea_copyString_4 ?_
  refine xg_get (pc := 5) hX (j := 0) k_Rea d_Rea_copyString_5 l_Rea_14 (by decide) (by first | assumption | exact xup_s _ _ _ | exact xup_o (by omega) (by assumption) | exact xup_o (by omega) (xup_s _ _ _) | exact xup_o (by omega) (xup_o (by omega) (by assumption)) | exact xup_o (by omega) (xup_o (by omega) (xup_s _ _ _)) | exact xup_o (by omega) (xup_o (by omega) (xup_o (by omega) (by assumption)))) (by rfl) ?_
  refine xp_aload_0 (pc := 8) hX d_Rea_copyString_8 ?_
  refine xp_iload_1 (pc := 9) hX d_Rea_copyString_9 ?_
  refine xi_V (Y2 := Y_Rea_startOf) (pc := 10) hX [_] k_Rea m_Rea_startOf d_Rea_copyString_10 l_Rea_47 rfl rfl (by simp [Value.category]) (by first | assumption | exact xup_s _ _ _ | exact xup_o (by omega) (by assumption) | exact xup_o (by omega) (xup_s _ _ _) | exact xup_o (by omega) (xup_o (by omega) (by assumption)) | exact xup_o (by omega) (xup_o (by omega) (xup_s _ _ _)) | exact xup_o (by omega) (xup_o (by omega) (xup_o (by omega) (by assumption)))) (c_Rea_startOf d hs1 (by omega)) (by omega) (by omega) ?_
  rintro y M2 ⟨rfl, rfl⟩
  rw [eA]
  refine xg_iconst (pc := 13) hX (nI 1) d_Rea_copyString_13 ci_iconst_1 ?_
  first | refine xn_isub (pc := 14) hX d_Rea_copyString_14 (by omega) ?_ | refine xg_isub (pc := 14) hX d_Rea_copyString_14 ?_
  refine xi_V (Y2 := Y_Row_at) (pc := 15) hX [_] k_Row m_Row_at d_Rea_copyString_15 l_Rea_53 rfl rfl (by simp [Value.category]) (by first | assumption | exact xup_s _ _ _ | exact xup_o (by omega) (by assumption) | exact xup_o (by omega) (xup_s _ _ _) | exact xup_o (by omega) (xup_o (by omega) (by assumption)) | exact xup_o (by omega) (xup_o (by omega) (xup_s _ _ _)) | exact xup_o (by omega) (xup_o (by omega) (xup_o (by omega) (by assumption)))) (c_Row_at d (nI (a - 1)) h2 (by omega)) (by omega) (by omega) ?_
  rintro y M2 ⟨rfl, rfl⟩
  rw [rAt_nI (by omega), hq]
  refine xp_istore_3 (x := nI q.toNat) (pc := 18) hX d_Rea_copyString_18 (by decide) ?_
  refine xp_aload_0 (pc := 19) hX d_Rea_copyString_19 ?_
  refine xp_iload_1 (pc := 20) hX d_Rea_copyString_20 ?_
  refine xi_V (Y2 := Y_Rea_startOf) (pc := 21) hX [_] k_Rea m_Rea_startOf d_Rea_copyString_21 l_Rea_47 rfl rfl (by simp [Value.category]) (by first | assumption | exact xup_s _ _ _ | exact xup_o (by omega) (by assumption) | exact xup_o (by omega) (xup_s _ _ _) | exact xup_o (by omega) (xup_o (by omega) (by assumption)) | exact xup_o (by omega) (xup_o (by omega) (xup_s _ _ _)) | exact xup_o (by omega) (xup_o (by omega) (xup_o (by omega) (by assumption)))) (c_Rea_startOf d hs1 (by omega)) (by omega) (by omega) ?_
  rintro y M2 ⟨rfl, rfl⟩
  rw [eA]
  refine xp_istore_4 (pc := 24) hX d_Rea_copyString_24 (by decide) ?_
  exact loop (b - a) a [] _ (by omega) rfl a1 a2 (by omega)
