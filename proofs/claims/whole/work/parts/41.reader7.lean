/-! NameRoom$Reader: one variable, a gift, several variables -/
/-- a text that is one VARIABLE: WRONG where -/
def rdA (t : List UInt8) : Nat × Bool := if (rdV t 0).2 then (if (rdV t 0).1 < t.length then ((rdV t 0).1, false) else ((rdV t 0).1, true)) else rdV t 0
set_option maxHeartbeats 4000000 in
set_option maxRecDepth 100000 in
theorem c_Rea_readAlone (d : Nat) {M : xH} {sz h tg pos : Nat} {t : List UInt8} {tk : List xTk} {ans : Option Nat} (hs : ReA M h t tk tg pos ans) : xC (d + 3) 0 0 Y_Rea_readAlone [.ref h] M sz (qi sz (fun y M' => (((rdA t).2 = true ∧ y = nI 0 ∧ ∃ tg' pos', ReA M' h t [(1, 0, (rdA t).1)] tg' pos' none) ∨ ((rdA t).2 = false ∧ y = aI (some (rdA t).1) ∧ ∃ tk' tg' pos', ReA M' h t tk' tg' pos' (some (rdA t).1))) ∧ FrA M M' h)) := by
  refine xC_of (by decide) (Nat.le_of_ble_eq_true rfl) (by simp [Value.category]) (vs := [some (.ref h)]) rfl (fun K hX hE => ?_)
  have hl : t.length ≤ 600 := hs.2.1.2.1
  obtain ⟨h1, -⟩ := id hs
  have hR : rdA t = if (rdV t 0).2 then (if (rdV t 0).1 < t.length then ((rdV t 0).1, false) else ((rdV t 0).1, true)) else rdV t 0 := rfl
  have hv := rdV_le (t := t) (s := 0) (by omega)
  refine xp_aload_0 (pc := 0) hX d_Rea_readAlone_0 ?_
  refine xv_V (Y2 := Y_Rea_begin) (pc := 1) hX [] k_Rea m_Rea_begin d_Rea_readAlone_1 l_Rea_62 rfl rfl (by simp [Value.category]) (by first | assumption | exact xup_s _ _ _ | exact xup_o (by omega) (by assumption) | exact xup_o (by omega) (xup_s _ _ _) | exact xup_o (by omega) (xup_o (by omega) (by assumption)) | exact xup_o (by omega) (xup_o (by omega) (xup_s _ _ _)) | exact xup_o (by omega) (xup_o (by omega) (xup_o (by omega) (by assumption)))) (c_Rea_begin (d + 2) hs) (by omega) (by omega) ?_
  rintro M1 ⟨a1, a2⟩
  obtain ⟨g1, -⟩ := id a1
  refine xp_aload_0 (pc := 4) hX d_Rea_readAlone_4 ?_
  refine xg_iconst (pc := 5) hX (nI 1) d_Rea_readAlone_5 ci_iconst_1 ?_
  refine xv_V (Y2 := Y_Rea_readVariable) (pc := 6) hX [_] k_Rea m_Rea_readVariable d_Rea_readAlone_6 l_Rea_65 rfl rfl (by simp [Value.category]) (by first | assumption | exact xup_s _ _ _ | exact xup_o (by omega) (by assumption) | exact xup_o (by omega) (xup_s _ _ _) | exact xup_o (by omega) (xup_o (by omega) (by assumption)) | exact xup_o (by omega) (xup_o (by omega) (xup_s _ _ _)) | exact xup_o (by omega) (xup_o (by omega) (xup_o (by omega) (by assumption)))) (c_Rea_readVariable d (k := 1) a1 (by omega) (by simp)) (by omega) (by omega) ?_
  rintro M2 ⟨a3, a4⟩
  generalize rdV t 0 = v at *
  rcases a3 with ⟨b1, b2⟩ | ⟨b1, p', b2, hp'⟩
  · rw [if_pos b1] at hR
    obtain ⟨g1, g2, -⟩ := id b2
    obtain ⟨r1, -⟩ := id g2
    refine xp_aload_0 (pc := 9) hX d_Rea_readAlone_9 ?_
    refine xg_get (pc := 10) hX (j := 7) k_Rea d_Rea_readAlone_10 l_Rea_40 (by decide) (by first | assumption | exact xup_s _ _ _ | exact xup_o (by omega) (by assumption) | exact xup_o (by omega) (xup_s _ _ _) | exact xup_o (by omega) (xup_o (by omega) (by assumption)) | exact xup_o (by omega) (xup_o (by omega) (xup_s _ _ _)) | exact xup_o (by omega) (xup_o (by omega) (xup_o (by omega) (by assumption)))) (by rfl) ?_
    refine xn_if_ne (pc := 13) hX 38 d_Rea_readAlone_13 (by decide) (by decide) (fun w => absurd w (by decide)) (fun _ => ?_)
    refine xp_aload_0 (pc := 16) hX d_Rea_readAlone_16 ?_
    refine xg_get (pc := 17) hX (j := 6) k_Rea d_Rea_readAlone_17 l_Rea_37 (by decide) (by first | assumption | exact xup_s _ _ _ | exact xup_o (by omega) (by assumption) | exact xup_o (by omega) (xup_s _ _ _) | exact xup_o (by omega) (xup_o (by omega) (by assumption)) | exact xup_o (by omega) (xup_o (by omega) (xup_s _ _ _)) | exact xup_o (by omega) (xup_o (by omega) (xup_o (by omega) (by assumption)))) (by rfl) ?_
    refine xp_aload_0 (pc := 20) hX d_Rea_readAlone_20 ?_
    refine xg_get (pc := 21) hX (j := 0) k_Rea d_Rea_readAlone_21 l_Rea_14 (by decide) (by first | assumption | exact xup_s _ _ _ | exact xup_o (by omega) (by assumption) | exact xup_o (by omega) (xup_s _ _ _) | exact xup_o (by omega) (xup_o (by omega) (by assumption)) | exact xup_o (by omega) (xup_o (by omega) (xup_s _ _ _)) | exact xup_o (by omega) (xup_o (by omega) (xup_o (by omega) (by assumption)))) (by rfl) ?_
    refine xg_get (pc := 24) hX (j := 1) k_Row d_Rea_readAlone_24 l_Rea_68 (by decide) (by first | assumption | exact xup_s _ _ _ | exact xup_o (by omega) (by assumption) | exact xup_o (by omega) (xup_s _ _ _) | exact xup_o (by omega) (xup_o (by omega) (by assumption)) | exact xup_o (by omega) (xup_o (by omega) (xup_s _ _ _)) | exact xup_o (by omega) (xup_o (by omega) (xup_o (by omega) (by assumption)))) (by rfl) ?_
    refine xn_icmp_ge (pc := 27) hX 38 d_Rea_readAlone_27 (by decide) (by omega) (by omega) (fun w => ?_) (fun w => ?_)
    · rw [if_neg (by omega)] at hR
      refine xp_aload_0 (pc := 38) hX d_Rea_readAlone_38 ?_
      refine xg_get (pc := 39) hX (j := 7) k_Rea d_Rea_readAlone_39 l_Rea_40 (by decide) (by first | assumption | exact xup_s _ _ _ | exact xup_o (by omega) (by assumption) | exact xup_o (by omega) (xup_s _ _ _) | exact xup_o (by omega) (xup_o (by omega) (by assumption)) | exact xup_o (by omega) (xup_o (by omega) (xup_s _ _ _)) | exact xup_o (by omega) (xup_o (by omega) (xup_o (by omega) (by assumption)))) (by rfl) ?_
      refine xg_iret (pc := 42) hX hE d_Rea_readAlone_42 rfl rfl (by omega) (by omega) ?_
      exact ⟨rfl, _, rfl, Or.inl ⟨by rw [hR], rfl, 0, v.1, by rw [hR]; exact b2⟩, a2.tr a4⟩
    · rw [if_pos w] at hR
      refine xp_aload_0 (pc := 30) hX d_Rea_readAlone_30 ?_
      refine xp_aload_0 (pc := 31) hX d_Rea_readAlone_31 ?_
      refine xg_get (pc := 32) hX (j := 6) k_Rea d_Rea_readAlone_32 l_Rea_37 (by decide) (by first | assumption | exact xup_s _ _ _ | exact xup_o (by omega) (by assumption) | exact xup_o (by omega) (xup_s _ _ _) | exact xup_o (by omega) (xup_o (by omega) (by assumption)) | exact xup_o (by omega) (xup_o (by omega) (xup_s _ _ _)) | exact xup_o (by omega) (xup_o (by omega) (xup_o (by omega) (by assumption)))) (by rfl) ?_
      refine xv_V (Y2 := Y_Rea_fail) (pc := 35) hX [_] k_Rea m_Rea_fail d_Rea_readAlone_35 l_Rea_71 rfl rfl (by simp [Value.category]) (by first | assumption | exact xup_s _ _ _ | exact xup_o (by omega) (by assumption) | exact xup_o (by omega) (xup_s _ _ _) | exact xup_o (by omega) (xup_o (by omega) (by assumption)) | exact xup_o (by omega) (xup_o (by omega) (xup_s _ _ _)) | exact xup_o (by omega) (xup_o (by omega) (xup_o (by omega) (by assumption)))) (c_Rea_fail (d + 2) (p := v.1) b2) (by omega) (by omega) ?_
      rintro M3 ⟨d1, d2⟩
      obtain ⟨g1, -⟩ := id d1
      refine xp_aload_0 (pc := 38) hX d_Rea_readAlone_38 ?_
      refine xg_get (pc := 39) hX (j := 7) k_Rea d_Rea_readAlone_39 l_Rea_40 (by decide) (by first | assumption | exact xup_s _ _ _ | exact xup_o (by omega) (by assumption) | exact xup_o (by omega) (xup_s _ _ _) | exact xup_o (by omega) (xup_o (by omega) (by assumption)) | exact xup_o (by omega) (xup_o (by omega) (xup_s _ _ _)) | exact xup_o (by omega) (xup_o (by omega) (xup_o (by omega) (by assumption)))) (by rfl) ?_
      refine xg_iret (pc := 42) hX hE d_Rea_readAlone_42 rfl rfl (by omega) (by omega) ?_
      exact ⟨rfl, _, rfl, Or.inr ⟨by rw [hR], by rw [hR], _, 0, v.1, by rw [hR]; exact d1⟩, (a2.tr a4).tr d2⟩
  · rw [if_neg (by rw [b1]; decide)] at hR
    obtain ⟨g1, g2, -⟩ := id b2
    refine xp_aload_0 (pc := 9) hX d_Rea_readAlone_9 ?_
    refine xg_get (pc := 10) hX (j := 7) k_Rea d_Rea_readAlone_10 l_Rea_40 (by decide) (by first | assumption | exact xup_s _ _ _ | exact xup_o (by omega) (by assumption) | exact xup_o (by omega) (xup_s _ _ _) | exact xup_o (by omega) (xup_o (by omega) (by assumption)) | exact xup_o (by omega) (xup_o (by omega) (xup_s _ _ _)) | exact xup_o (by omega) (xup_o (by omega) (xup_o (by omega) (by assumption)))) (by rfl) ?_
    refine xg_if_ne (pc := 13) hX 38 d_Rea_readAlone_13 (by decide) (fun w => ?_) (fun w => absurd w (aI_some (by omega)))
    refine xp_aload_0 (pc := 38) hX d_Rea_readAlone_38 ?_
    refine xg_get (pc := 39) hX (j := 7) k_Rea d_Rea_readAlone_39 l_Rea_40 (by decide) (by first | assumption | exact xup_s _ _ _ | exact xup_o (by omega) (by assumption) | exact xup_o (by omega) (xup_s _ _ _) | exact xup_o (by omega) (xup_o (by omega) (by assumption)) | exact xup_o (by omega) (xup_o (by omega) (xup_s _ _ _)) | exact xup_o (by omega) (xup_o (by omega) (xup_o (by omega) (by assumption)))) (by rfl) ?_
    refine xg_iret (pc := 42) hX hE d_Rea_readAlone_42 rfl rfl (by omega) (by omega) ?_
    exact ⟨rfl, _, rfl, Or.inr ⟨by rw [hR]; exact b1, by rw [hR], _, 0, p', by rw [hR]; exact b2⟩, a2.tr a4⟩
/-- a text that is a VARIABLE, =, and a VALUE: the VARIABLE's end, or WRONG where -/
def rdG (t : List UInt8) : Nat × Bool := if (rdV t 0).2 then (if t[(rdV t 0).1]? = some 61 then (if 200 < t.length - ((rdV t 0).1 + 1) then ((rdV t 0).1 + 1 + 200, false) else ((rdV t 0).1, true)) else ((rdV t 0).1, false)) else rdV t 0
set_option maxHeartbeats 4000000 in
set_option maxRecDepth 100000 in
theorem c_Rea_readGift (d : Nat) {M : xH} {sz h tg pos : Nat} {t : List UInt8} {tk : List xTk} {ans : Option Nat} (hs : ReA M h t tk tg pos ans) : xC (d + 3) 0 0 Y_Rea_readGift [.ref h] M sz (qi sz (fun y M' => (((rdG t).2 = true ∧ y = nI 0 ∧ ∃ tg', ReA M' h t [(1, 0, (rdG t).1)] tg' ((rdG t).1 + 1) none) ∨ ((rdG t).2 = false ∧ y = aI (some (rdG t).1) ∧ ∃ tk' tg' pos', ReA M' h t tk' tg' pos' (some (rdG t).1))) ∧ FrA M M' h)) := by
  refine xC_of (by decide) (Nat.le_of_ble_eq_true rfl) (by simp [Value.category]) (vs := [some (.ref h)]) rfl (fun K hX hE => ?_)
  have hl : t.length ≤ 600 := hs.2.1.2.1
  obtain ⟨h1, -⟩ := id hs
  have hR : rdG t = if (rdV t 0).2 then (if t[(rdV t 0).1]? = some 61 then (if 200 < t.length - ((rdV t 0).1 + 1) then ((rdV t 0).1 + 1 + 200, false) else ((rdV t 0).1, true)) else ((rdV t 0).1, false)) else rdV t 0 := rfl
  have hv := rdV_le (t := t) (s := 0) (by omega)
  have k40 : ∀ (M2 : xH) (tk' : List xTk) (tg' p' q : Nat), ReA M2 h t tk' tg' p' (some q) → FrA M M2 h → q < 1000 → p' < 700 → rdG t = (q, false) → xG K 40 [some (.ref h)] [] M2 sz 0 0 := by
    intro M2 tk' tg' p' q hs2 hf hq hp' hr
    obtain ⟨g1, -, -, g4, -⟩ := id hs2
    refine xp_aload_0 (pc := 40) hX d_Rea_readGift_40 ?_
    refine xg_dup (pc := 41) hX d_Rea_readGift_41 rfl ?_
    refine xg_get (pc := 42) hX (j := 6) k_Rea d_Rea_readGift_42 l_Rea_37 (by decide) (by first | assumption | exact xup_s _ _ _ | exact xup_o (by omega) (by assumption) | exact xup_o (by omega) (xup_s _ _ _) | exact xup_o (by omega) (xup_o (by omega) (by assumption)) | exact xup_o (by omega) (xup_o (by omega) (xup_s _ _ _)) | exact xup_o (by omega) (xup_o (by omega) (xup_o (by omega) (by assumption)))) (by rfl) ?_
    refine xg_iconst (pc := 45) hX (nI 1) d_Rea_readGift_45 ci_iconst_1 ?_
    first | refine xn_iadd (pc := 46) hX d_Rea_readGift_46 ?_ | refine xg_iadd (pc := 46) hX d_Rea_readGift_46 ?_
    refine xg_put (pc := 47) hX (j := 6) k_Rea d_Rea_readGift_47 l_Rea_37 (by decide) rfl (by first | assumption | exact xup_s _ _ _ | exact xup_o (by omega) (by assumption) | exact xup_o (by omega) (xup_s _ _ _) | exact xup_o (by omega) (xup_o (by omega) (by assumption)) | exact xup_o (by omega) (xup_o (by omega) (xup_s _ _ _)) | exact xup_o (by omega) (xup_o (by omega) (xup_o (by omega) (by assumption)))) (Nat.le_of_ble_eq_true rfl) rfl rfl (by simp only [List.set_cons_zero, List.set_cons_succ]; exact rfl) ?_
    refine xp_aload_0 (pc := 50) hX d_Rea_readGift_50 ?_
    refine xg_get (pc := 51) hX (j := 7) k_Rea d_Rea_readGift_51 l_Rea_40 (by decide) (by first | assumption | exact xup_s _ _ _ | exact xup_o (by omega) (by assumption) | exact xup_o (by omega) (xup_s _ _ _) | exact xup_o (by omega) (xup_o (by omega) (by assumption)) | exact xup_o (by omega) (xup_o (by omega) (xup_s _ _ _)) | exact xup_o (by omega) (xup_o (by omega) (xup_o (by omega) (by assumption)))) (by rfl) ?_
    refine xg_if_ne (pc := 54) hX 87 d_Rea_readGift_54 (by decide) (fun w => ?_) (fun w => absurd w (aI_some (by omega)))
    refine xp_aload_0 (pc := 87) hX d_Rea_readGift_87 ?_
    refine xg_get (pc := 88) hX (j := 7) k_Rea d_Rea_readGift_88 l_Rea_40 (by decide) (by first | assumption | exact xup_s _ _ _ | exact xup_o (by omega) (by assumption) | exact xup_o (by omega) (xup_s _ _ _) | exact xup_o (by omega) (xup_o (by omega) (by assumption)) | exact xup_o (by omega) (xup_o (by omega) (xup_s _ _ _)) | exact xup_o (by omega) (xup_o (by omega) (xup_o (by omega) (by assumption)))) (by rfl) ?_
    refine xg_iret (pc := 91) hX hE d_Rea_readGift_91 rfl rfl (by omega) (by omega) ?_
    refine ⟨rfl, _, rfl, Or.inr ⟨by rw [hr], by rw [hr], tk', tg', p' + 1, ?_⟩, hf.tr (FrA.up _ _ _)⟩
    rw [hr]
    exact hs2.put g4 (by omega)
  refine xp_aload_0 (pc := 0) hX d_Rea_readGift_0 ?_
  refine xv_V (Y2 := Y_Rea_begin) (pc := 1) hX [] k_Rea m_Rea_begin d_Rea_readGift_1 l_Rea_62 rfl rfl (by simp [Value.category]) (by first | assumption | exact xup_s _ _ _ | exact xup_o (by omega) (by assumption) | exact xup_o (by omega) (xup_s _ _ _) | exact xup_o (by omega) (xup_o (by omega) (by assumption)) | exact xup_o (by omega) (xup_o (by omega) (xup_s _ _ _)) | exact xup_o (by omega) (xup_o (by omega) (xup_o (by omega) (by assumption)))) (c_Rea_begin (d + 2) hs) (by omega) (by omega) ?_
  rintro M1 ⟨a1, a2⟩
  obtain ⟨g1, -⟩ := id a1
  refine xp_aload_0 (pc := 4) hX d_Rea_readGift_4 ?_
  refine xg_iconst (pc := 5) hX (nI 1) d_Rea_readGift_5 ci_iconst_1 ?_
  refine xv_V (Y2 := Y_Rea_readVariable) (pc := 6) hX [_] k_Rea m_Rea_readVariable d_Rea_readGift_6 l_Rea_65 rfl rfl (by simp [Value.category]) (by first | assumption | exact xup_s _ _ _ | exact xup_o (by omega) (by assumption) | exact xup_o (by omega) (xup_s _ _ _) | exact xup_o (by omega) (xup_o (by omega) (by assumption)) | exact xup_o (by omega) (xup_o (by omega) (xup_s _ _ _)) | exact xup_o (by omega) (xup_o (by omega) (xup_o (by omega) (by assumption)))) (c_Rea_readVariable d (k := 1) a1 (by omega) (by simp)) (by omega) (by omega) ?_
  rintro M2 ⟨a3, a4⟩
  generalize rdV t 0 = v at *
  rcases a3 with ⟨b1, b2⟩ | ⟨b1, p', b2, hp'⟩
  · rw [if_pos b1] at hR
    obtain ⟨g1, g2, -⟩ := id b2
    obtain ⟨r1, -⟩ := id g2
    refine xp_aload_0 (pc := 9) hX d_Rea_readGift_9 ?_
    refine xg_get (pc := 10) hX (j := 7) k_Rea d_Rea_readGift_10 l_Rea_40 (by decide) (by first | assumption | exact xup_s _ _ _ | exact xup_o (by omega) (by assumption) | exact xup_o (by omega) (xup_s _ _ _) | exact xup_o (by omega) (xup_o (by omega) (by assumption)) | exact xup_o (by omega) (xup_o (by omega) (xup_s _ _ _)) | exact xup_o (by omega) (xup_o (by omega) (xup_o (by omega) (by assumption)))) (by rfl) ?_
    refine xn_if_ne (pc := 13) hX 40 d_Rea_readGift_13 (by decide) (by decide) (fun w => absurd w (by decide)) (fun _ => ?_)
    refine xp_aload_0 (pc := 16) hX d_Rea_readGift_16 ?_
    refine xg_get (pc := 17) hX (j := 0) k_Rea d_Rea_readGift_17 l_Rea_14 (by decide) (by first | assumption | exact xup_s _ _ _ | exact xup_o (by omega) (by assumption) | exact xup_o (by omega) (xup_s _ _ _) | exact xup_o (by omega) (xup_o (by omega) (by assumption)) | exact xup_o (by omega) (xup_o (by omega) (xup_s _ _ _)) | exact xup_o (by omega) (xup_o (by omega) (xup_o (by omega) (by assumption)))) (by rfl) ?_
    refine xp_aload_0 (pc := 20) hX d_Rea_readGift_20 ?_
    refine xg_get (pc := 21) hX (j := 6) k_Rea d_Rea_readGift_21 l_Rea_37 (by decide) (by first | assumption | exact xup_s _ _ _ | exact xup_o (by omega) (by assumption) | exact xup_o (by omega) (xup_s _ _ _) | exact xup_o (by omega) (xup_o (by omega) (by assumption)) | exact xup_o (by omega) (xup_o (by omega) (xup_s _ _ _)) | exact xup_o (by omega) (xup_o (by omega) (xup_o (by omega) (by assumption)))) (by rfl) ?_
    refine xi_V (Y2 := Y_Row_at) (pc := 24) hX [_] k_Row m_Row_at d_Rea_readGift_24 l_Rea_53 rfl rfl (by simp [Value.category]) (by first | assumption | exact xup_s _ _ _ | exact xup_o (by omega) (by assumption) | exact xup_o (by omega) (xup_s _ _ _) | exact xup_o (by omega) (xup_o (by omega) (by assumption)) | exact xup_o (by omega) (xup_o (by omega) (xup_s _ _ _)) | exact xup_o (by omega) (xup_o (by omega) (xup_o (by omega) (by assumption)))) (c_Row_at (d + 2) (nI v.1) g2 (by omega)) (by omega) (by omega) ?_
    rintro y M3 ⟨rfl, rfl⟩
    rw [rAt_nI (by omega)]
    refine xg_bipush (pc := 27) hX (nI 61) d_Rea_readGift_27 ci_bipush_61 ?_
    refine xg_icmp_eq (pc := 29) hX 40 d_Rea_readGift_29 (by decide) (fun w => ?_) (fun w => ?_)
    · have w : t[v.1]? = some 61 := (oI_eq (by decide)).mp w
      have hlt := (List.getElem?_eq_some_iff.mp w).1
      rw [if_pos w] at hR
      refine xp_aload_0 (pc := 40) hX d_Rea_readGift_40 ?_
      refine xg_dup (pc := 41) hX d_Rea_readGift_41 rfl ?_
      refine xg_get (pc := 42) hX (j := 6) k_Rea d_Rea_readGift_42 l_Rea_37 (by decide) (by first | assumption | exact xup_s _ _ _ | exact xup_o (by omega) (by assumption) | exact xup_o (by omega) (xup_s _ _ _) | exact xup_o (by omega) (xup_o (by omega) (by assumption)) | exact xup_o (by omega) (xup_o (by omega) (xup_s _ _ _)) | exact xup_o (by omega) (xup_o (by omega) (xup_o (by omega) (by assumption)))) (by rfl) ?_
      refine xg_iconst (pc := 45) hX (nI 1) d_Rea_readGift_45 ci_iconst_1 ?_
      first | refine xn_iadd (pc := 46) hX d_Rea_readGift_46 ?_ | refine xg_iadd (pc := 46) hX d_Rea_readGift_46 ?_
      refine xg_put (pc := 47) hX (j := 6) k_Rea d_Rea_readGift_47 l_Rea_37 (by decide) rfl (by first | assumption | exact xup_s _ _ _ | exact xup_o (by omega) (by assumption) | exact xup_o (by omega) (xup_s _ _ _) | exact xup_o (by omega) (xup_o (by omega) (by assumption)) | exact xup_o (by omega) (xup_o (by omega) (xup_s _ _ _)) | exact xup_o (by omega) (xup_o (by omega) (xup_o (by omega) (by assumption)))) (Nat.le_of_ble_eq_true rfl) rfl rfl (by simp only [List.set_cons_zero, List.set_cons_succ]; exact rfl) ?_
      refine xp_aload_0 (pc := 50) hX d_Rea_readGift_50 ?_
      refine xg_get (pc := 51) hX (j := 7) k_Rea d_Rea_readGift_51 l_Rea_40 (by decide) (by first | assumption | exact xup_s _ _ _ | exact xup_o (by omega) (by assumption) | exact xup_o (by omega) (xup_s _ _ _) | exact xup_o (by omega) (xup_o (by omega) (by assumption)) | exact xup_o (by omega) (xup_o (by omega) (xup_s _ _ _)) | exact xup_o (by omega) (xup_o (by omega) (xup_o (by omega) (by assumption)))) (by rfl) ?_
      refine xn_if_ne (pc := 54) hX 87 d_Rea_readGift_54 (by decide) (by decide) (fun w => absurd w (by decide)) (fun _ => ?_)
      have b3 : ReA _ h t _ 0 (v.1 + 1) none := b2.put (ans' := none) (show (0 : Nat) ≤ 700 by omega) (show v.1 + 1 ≤ 700 by omega)
      obtain ⟨g1, g2, -⟩ := id b3
      obtain ⟨r1, -⟩ := id g2
      refine xp_aload_0 (pc := 57) hX d_Rea_readGift_57 ?_
      refine xg_get (pc := 58) hX (j := 0) k_Rea d_Rea_readGift_58 l_Rea_14 (by decide) (by first | assumption | exact xup_s _ _ _ | exact xup_o (by omega) (by assumption) | exact xup_o (by omega) (xup_s _ _ _) | exact xup_o (by omega) (xup_o (by omega) (by assumption)) | exact xup_o (by omega) (xup_o (by omega) (xup_s _ _ _)) | exact xup_o (by omega) (xup_o (by omega) (xup_o (by omega) (by assumption)))) (by rfl) ?_
      refine xg_get (pc := 61) hX (j := 1) k_Row d_Rea_readGift_61 l_Rea_68 (by decide) (by first | assumption | exact xup_s _ _ _ | exact xup_o (by omega) (by assumption) | exact xup_o (by omega) (xup_s _ _ _) | exact xup_o (by omega) (xup_o (by omega) (by assumption)) | exact xup_o (by omega) (xup_o (by omega) (xup_s _ _ _)) | exact xup_o (by omega) (xup_o (by omega) (xup_o (by omega) (by assumption)))) (by rfl) ?_
      refine xp_aload_0 (pc := 64) hX d_Rea_readGift_64 ?_
      refine xg_get (pc := 65) hX (j := 6) k_Rea d_Rea_readGift_65 l_Rea_37 (by decide) (by first | assumption | exact xup_s _ _ _ | exact xup_o (by omega) (by assumption) | exact xup_o (by omega) (xup_s _ _ _) | exact xup_o (by omega) (xup_o (by omega) (by assumption)) | exact xup_o (by omega) (xup_o (by omega) (xup_s _ _ _)) | exact xup_o (by omega) (xup_o (by omega) (xup_o (by omega) (by assumption)))) (by rfl) ?_
      first | refine xn_isub (pc := 68) hX d_Rea_readGift_68 (by omega) ?_ | refine xg_isub (pc := 68) hX d_Rea_readGift_68 ?_
      refine xg_sipush (pc := 69) hX (nI 200) d_Rea_readGift_69 ci_sipush_200 ?_
      refine xn_icmp_le (pc := 72) hX 87 d_Rea_readGift_72 (by decide) (by omega) (by omega) (fun z => ?_) (fun z => ?_)
      · rw [if_neg (by omega)] at hR
        refine xp_aload_0 (pc := 87) hX d_Rea_readGift_87 ?_
        refine xg_get (pc := 88) hX (j := 7) k_Rea d_Rea_readGift_88 l_Rea_40 (by decide) (by first | assumption | exact xup_s _ _ _ | exact xup_o (by omega) (by assumption) | exact xup_o (by omega) (xup_s _ _ _) | exact xup_o (by omega) (xup_o (by omega) (by assumption)) | exact xup_o (by omega) (xup_o (by omega) (xup_s _ _ _)) | exact xup_o (by omega) (xup_o (by omega) (xup_o (by omega) (by assumption)))) (by rfl) ?_
        refine xg_iret (pc := 91) hX hE d_Rea_readGift_91 rfl rfl (by omega) (by omega) ?_
        exact ⟨rfl, _, rfl, Or.inl ⟨by rw [hR], rfl, 0, by rw [hR]; exact b3⟩, (a2.tr a4).tr (FrA.up _ _ _)⟩
      · rw [if_pos (by omega)] at hR
        refine xp_aload_0 (pc := 75) hX d_Rea_readGift_75 ?_
        refine xp_aload_0 (pc := 76) hX d_Rea_readGift_76 ?_
        refine xg_get (pc := 77) hX (j := 6) k_Rea d_Rea_readGift_77 l_Rea_37 (by decide) (by first | assumption | exact xup_s _ _ _ | exact xup_o (by omega) (by assumption) | exact xup_o (by omega) (xup_s _ _ _) | exact xup_o (by omega) (xup_o (by omega) (by assumption)) | exact xup_o (by omega) (xup_o (by omega) (xup_s _ _ _)) | exact xup_o (by omega) (xup_o (by omega) (xup_o (by omega) (by assumption)))) (by rfl) ?_
        refine xg_sipush (pc := 80) hX (nI 200) d_Rea_readGift_80 ci_sipush_200 ?_
        first | refine xn_iadd (pc := 83) hX d_Rea_readGift_83 ?_ | refine xg_iadd (pc := 83) hX d_Rea_readGift_83 ?_
        refine xv_V (Y2 := Y_Rea_fail) (pc := 84) hX [_] k_Rea m_Rea_fail d_Rea_readGift_84 l_Rea_71 rfl rfl (by simp [Value.category]) (by first | assumption | exact xup_s _ _ _ | exact xup_o (by omega) (by assumption) | exact xup_o (by omega) (xup_s _ _ _) | exact xup_o (by omega) (xup_o (by omega) (by assumption)) | exact xup_o (by omega) (xup_o (by omega) (xup_s _ _ _)) | exact xup_o (by omega) (xup_o (by omega) (xup_o (by omega) (by assumption)))) (c_Rea_fail (d + 2) (p := v.1 + 1 + 200) b3) (by omega) (by omega) ?_
        rintro M4 ⟨d1, d2⟩
        obtain ⟨g1, -⟩ := id d1
        refine xp_aload_0 (pc := 87) hX d_Rea_readGift_87 ?_
        refine xg_get (pc := 88) hX (j := 7) k_Rea d_Rea_readGift_88 l_Rea_40 (by decide) (by first | assumption | exact xup_s _ _ _ | exact xup_o (by omega) (by assumption) | exact xup_o (by omega) (xup_s _ _ _) | exact xup_o (by omega) (xup_o (by omega) (by assumption)) | exact xup_o (by omega) (xup_o (by omega) (xup_s _ _ _)) | exact xup_o (by omega) (xup_o (by omega) (xup_o (by omega) (by assumption)))) (by rfl) ?_
        refine xg_iret (pc := 91) hX hE d_Rea_readGift_91 rfl rfl (by omega) (by omega) ?_
        exact ⟨rfl, _, rfl, Or.inr ⟨by rw [hR], by rw [hR], _, _, _, by rw [hR]; exact d1⟩, ((a2.tr a4).tr (FrA.up _ _ _)).tr d2⟩
    · have w : ¬ t[v.1]? = some 61 := fun z => w ((oI_eq (by decide)).mpr (by rw [z]; rfl))
      rw [if_neg w] at hR
      refine xp_aload_0 (pc := 32) hX d_Rea_readGift_32 ?_
      refine xp_aload_0 (pc := 33) hX d_Rea_readGift_33 ?_
      refine xg_get (pc := 34) hX (j := 6) k_Rea d_Rea_readGift_34 l_Rea_37 (by decide) (by first | assumption | exact xup_s _ _ _ | exact xup_o (by omega) (by assumption) | exact xup_o (by omega) (xup_s _ _ _) | exact xup_o (by omega) (xup_o (by omega) (by assumption)) | exact xup_o (by omega) (xup_o (by omega) (xup_s _ _ _)) | exact xup_o (by omega) (xup_o (by omega) (xup_o (by omega) (by assumption)))) (by rfl) ?_
      refine xv_V (Y2 := Y_Rea_fail) (pc := 37) hX [_] k_Rea m_Rea_fail d_Rea_readGift_37 l_Rea_71 rfl rfl (by simp [Value.category]) (by first | assumption | exact xup_s _ _ _ | exact xup_o (by omega) (by assumption) | exact xup_o (by omega) (xup_s _ _ _) | exact xup_o (by omega) (xup_o (by omega) (by assumption)) | exact xup_o (by omega) (xup_o (by omega) (xup_s _ _ _)) | exact xup_o (by omega) (xup_o (by omega) (xup_o (by omega) (by assumption)))) (c_Rea_fail (d + 2) (p := v.1) b2) (by omega) (by omega) ?_
      rintro M4 ⟨d1, d2⟩
      exact k40 M4 _ _ _ v.1 d1 ((a2.tr a4).tr d2) (by omega) (by omega) hR
  · rw [if_neg (by rw [b1]; decide)] at hR
    obtain ⟨g1, g2, -, -, g5, -⟩ := id b2
    have hp7 : p' < 700 := by omega
    refine xp_aload_0 (pc := 9) hX d_Rea_readGift_9 ?_
    refine xg_get (pc := 10) hX (j := 7) k_Rea d_Rea_readGift_10 l_Rea_40 (by decide) (by first | assumption | exact xup_s _ _ _ | exact xup_o (by omega) (by assumption) | exact xup_o (by omega) (xup_s _ _ _) | exact xup_o (by omega) (xup_o (by omega) (by assumption)) | exact xup_o (by omega) (xup_o (by omega) (xup_s _ _ _)) | exact xup_o (by omega) (xup_o (by omega) (xup_o (by omega) (by assumption)))) (by rfl) ?_
    refine xg_if_ne (pc := 13) hX 40 d_Rea_readGift_13 (by decide) (fun w => ?_) (fun w => absurd w (aI_some (by omega)))
    exact k40 M2 _ _ p' v.1 b2 (a2.tr a4) (by omega) hp7 (by rw [hR, ← b1])
