/-! NameRoom: working out a full name -/
/-- what a tail stands for -/
def tvE (es : List xEn) (se : List xSe) (ip : Nat) (x : List UInt8) : List UInt8 := if 0 < x.length ∧ odig x[0]? = false then (match eIdx es (own se x ip) x with | none => x | some i => (match es[i]? with | none => x | some e => e.2.2.getD x)) else x
set_option maxHeartbeats 4000000 in
set_option maxRecDepth 100000 in
theorem c_Nam_addTail (d : Nat) {M : xH} {sz B dp a b : Nat} {t full : List UInt8} {g : Nat → Nat} {L : Nat → xEn × Bool} {es : List xEn} {se : List xSe} (h : NW M B full g L es dp se) (ht : RowAt M (B + 1 + 1) 600 t) (hab : a ≤ b) (hb : b ≤ t.length) (hba : b - a ≤ 30) : xC (d + 3) 0 0 Y_Nam_addTail [.ref B, .int (nI a), .int (nI b)] M sz (qi sz (fun y M' => ((full.length + (tvE es se (dp - 1) ((sl t a b).map cap)).length ≤ 200 ∧ y = nI 1 ∧ NW M' B (full ++ tvE es se (dp - 1) ((sl t a b).map cap)) g L es dp se) ∨ (200 < full.length + (tvE es se (dp - 1) ((sl t a b).map cap)).length ∧ y = nI 0 ∧ NW M' B full g L es dp se)) ∧ FrN M M' B)) := by
  refine xC_of (by decide) (Nat.le_of_ble_eq_true rfl) (by simp [Value.category]) (vs := [some (.ref B), some (.int (nI a)), some (.int (nI b)), none]) rfl (fun K hX hE => ?_)
  obtain ⟨h1, h2, -, ⟨x0, h4⟩, h5, h6, h7, h8, h9⟩ := id h
  obtain ⟨r4, -⟩ := id h4
  have htl : t.length ≤ 600 := ht.2.1
  have hxl : ((sl t a b).map cap).length = b - a := by rw [List.length_map, sl_len hb]
  generalize hx : (sl t a b).map cap = x at *
  refine xp_aload_0 (pc := 0) hX d_Nam_addTail_0 ?_
  refine xg_get (pc := 1) hX (j := 4) k_Nam d_Nam_addTail_1 l_Nam_37 (by decide) (by first | assumption | exact xup_s _ _ _ | exact xup_o (by omega) (by assumption) | exact xup_o (by omega) (xup_s _ _ _) | exact xup_o (by omega) (xup_o (by omega) (by assumption)) | exact xup_o (by omega) (xup_o (by omega) (xup_s _ _ _)) | exact xup_o (by omega) (xup_o (by omega) (xup_o (by omega) (by assumption)))) (by rfl) ?_
  refine xv_V (Y2 := Y_Row_clear) (pc := 4) hX [] k_Row m_Row_clear d_Nam_addTail_4 l_Nam_89 rfl rfl (by simp [Value.category]) (by first | assumption | exact xup_s _ _ _ | exact xup_o (by omega) (by assumption) | exact xup_o (by omega) (xup_s _ _ _) | exact xup_o (by omega) (xup_o (by omega) (by assumption)) | exact xup_o (by omega) (xup_o (by omega) (xup_s _ _ _)) | exact xup_o (by omega) (xup_o (by omega) (xup_o (by omega) (by assumption)))) (c_Row_clear (d + 2) h4) (by omega) (by omega) ?_
  rintro M1 ⟨a1, a2⟩
  have nw1 := h.tailx a2 a1
  have ht1 : RowAt M1 (B + 1 + 1) 600 t := ht.kept (a2 _ (by omega) (by omega)) (a2 _ (by omega) (by omega))
  obtain ⟨g1, -⟩ := id nw1
  obtain ⟨q4, -⟩ := id a1
  refine xp_aload_0 (pc := 7) hX d_Nam_addTail_7 ?_
  refine xg_get (pc := 8) hX (j := 4) k_Nam d_Nam_addTail_8 l_Nam_37 (by decide) (by first | assumption | exact xup_s _ _ _ | exact xup_o (by omega) (by assumption) | exact xup_o (by omega) (xup_s _ _ _) | exact xup_o (by omega) (xup_o (by omega) (by assumption)) | exact xup_o (by omega) (xup_o (by omega) (xup_s _ _ _)) | exact xup_o (by omega) (xup_o (by omega) (xup_o (by omega) (by assumption)))) (by rfl) ?_
  refine xp_aload_0 (pc := 11) hX d_Nam_addTail_11 ?_
  refine xg_get (pc := 12) hX (j := 0) k_Nam d_Nam_addTail_12 l_Nam_20 (by decide) (by first | assumption | exact xup_s _ _ _ | exact xup_o (by omega) (by assumption) | exact xup_o (by omega) (xup_s _ _ _) | exact xup_o (by omega) (xup_o (by omega) (by assumption)) | exact xup_o (by omega) (xup_o (by omega) (xup_s _ _ _)) | exact xup_o (by omega) (xup_o (by omega) (xup_o (by omega) (by assumption)))) (by rfl) ?_
  refine xp_iload_1 (pc := 15) hX d_Nam_addTail_15 ?_
  refine xp_iload_2 (pc := 16) hX d_Nam_addTail_16 ?_
  refine xi_V (Y2 := Y_Row_addCapitals) (pc := 17) hX [_, _, _] k_Row m_Row_addCapitals d_Nam_addTail_17 l_Nam_199 rfl rfl (by simp [Value.category]) (by first | assumption | exact xup_s _ _ _ | exact xup_o (by omega) (by assumption) | exact xup_o (by omega) (xup_s _ _ _) | exact xup_o (by omega) (xup_o (by omega) (by assumption)) | exact xup_o (by omega) (xup_o (by omega) (xup_s _ _ _)) | exact xup_o (by omega) (xup_o (by omega) (xup_o (by omega) (by assumption)))) (c_Row_addCapitals (d + 1) a1 ht1 (by omega) hab hb (by simp; omega) (by omega) (by omega)) (by omega) (by omega) ?_
  rintro y M2 ⟨-, b1, b2⟩
  rw [List.nil_append, hx] at b1
  have nw2 := nw1.tailx b2 b1
  have f2 : FrN M M2 B := (FrN.r2 a2 (by omega)).tr (FrN.r2 b2 (by omega))
  obtain ⟨g1, g2, -, -, g5, g6, -⟩ := id nw2
  obtain ⟨q2, q2l, -⟩ := id g2
  obtain ⟨q4, -⟩ := id b1
  obtain ⟨S, ⟨n6', -⟩, -⟩ := id g6
  obtain ⟨⟨n5', n5l, -, n5g, -, n5e⟩, n5L⟩ := id g5
  -- the tail itself comes
  have k106 : ∀ vs : List (Option Value), tvE es se (dp - 1) x = x → xG K 106 (some (.ref B) :: vs) [] M2 sz 0 0 := by
    intro vs hv
    rw [hv] at hE
    refine xp_aload_0 (pc := 106) hX d_Nam_addTail_106 ?_
    refine xg_get (pc := 107) hX (j := 2) k_Nam d_Nam_addTail_107 l_Nam_31 (by decide) (by first | assumption | exact xup_s _ _ _ | exact xup_o (by omega) (by assumption) | exact xup_o (by omega) (xup_s _ _ _) | exact xup_o (by omega) (xup_o (by omega) (by assumption)) | exact xup_o (by omega) (xup_o (by omega) (xup_s _ _ _)) | exact xup_o (by omega) (xup_o (by omega) (xup_o (by omega) (by assumption)))) (by rfl) ?_
    refine xp_aload_0 (pc := 110) hX d_Nam_addTail_110 ?_
    refine xg_get (pc := 111) hX (j := 4) k_Nam d_Nam_addTail_111 l_Nam_37 (by decide) (by first | assumption | exact xup_s _ _ _ | exact xup_o (by omega) (by assumption) | exact xup_o (by omega) (xup_s _ _ _) | exact xup_o (by omega) (xup_o (by omega) (by assumption)) | exact xup_o (by omega) (xup_o (by omega) (xup_s _ _ _)) | exact xup_o (by omega) (xup_o (by omega) (xup_o (by omega) (by assumption)))) (by rfl) ?_
    refine xg_iconst (pc := 114) hX (nI 0) d_Nam_addTail_114 ci_iconst_0 ?_
    refine xp_aload_0 (pc := 115) hX d_Nam_addTail_115 ?_
    refine xg_get (pc := 116) hX (j := 4) k_Nam d_Nam_addTail_116 l_Nam_37 (by decide) (by first | assumption | exact xup_s _ _ _ | exact xup_o (by omega) (by assumption) | exact xup_o (by omega) (xup_s _ _ _) | exact xup_o (by omega) (xup_o (by omega) (by assumption)) | exact xup_o (by omega) (xup_o (by omega) (xup_s _ _ _)) | exact xup_o (by omega) (xup_o (by omega) (xup_o (by omega) (by assumption)))) (by rfl) ?_
    refine xg_get (pc := 119) hX (j := 1) k_Row d_Nam_addTail_119 l_Nam_64 (by decide) (by first | assumption | exact xup_s _ _ _ | exact xup_o (by omega) (by assumption) | exact xup_o (by omega) (xup_s _ _ _) | exact xup_o (by omega) (xup_o (by omega) (by assumption)) | exact xup_o (by omega) (xup_o (by omega) (xup_s _ _ _)) | exact xup_o (by omega) (xup_o (by omega) (xup_o (by omega) (by assumption)))) (by rfl) ?_
    refine xi_V (Y2 := Y_Row_addPart) (pc := 122) hX [_, _, _] k_Row m_Row_addPart d_Nam_addTail_122 l_Nam_221 rfl rfl (by simp [Value.category]) (by first | assumption | exact xup_s _ _ _ | exact xup_o (by omega) (by assumption) | exact xup_o (by omega) (xup_s _ _ _) | exact xup_o (by omega) (xup_o (by omega) (by assumption)) | exact xup_o (by omega) (xup_o (by omega) (xup_s _ _ _)) | exact xup_o (by omega) (xup_o (by omega) (xup_o (by omega) (by assumption)))) (c_Row_addPart (d + 1) (a := 0) (b := x.length) g2 b1 (by omega) (Nat.zero_le _) (Nat.le_refl _) (by omega) (by omega)) (by omega) (by omega) ?_
    intro y M3 hc
    rw [sl_all, Nat.sub_zero] at hc
    rcases hc with ⟨c1, rfl, c2, c3⟩ | ⟨c1, rfl, rfl⟩
    · refine xg_iret (pc := 125) hX hE d_Nam_addTail_125 rfl rfl (by omega) (by omega) ?_
      exact ⟨rfl, _, rfl, Or.inl ⟨c1, rfl, nw2.fullx c3 c2⟩, f2.tr (FrN.r2 c3 (by omega))⟩
    · refine xg_iret (pc := 125) hX hE d_Nam_addTail_125 rfl rfl (by omega) (by omega) ?_
      exact ⟨rfl, _, rfl, Or.inr ⟨c1, rfl, nw2⟩, f2⟩
  refine xg_pop (pc := 20) hX d_Nam_addTail_20 rfl ?_
  refine xp_aload_0 (pc := 21) hX d_Nam_addTail_21 ?_
  refine xg_get (pc := 22) hX (j := 4) k_Nam d_Nam_addTail_22 l_Nam_37 (by decide) (by first | assumption | exact xup_s _ _ _ | exact xup_o (by omega) (by assumption) | exact xup_o (by omega) (xup_s _ _ _) | exact xup_o (by omega) (xup_o (by omega) (by assumption)) | exact xup_o (by omega) (xup_o (by omega) (xup_s _ _ _)) | exact xup_o (by omega) (xup_o (by omega) (xup_o (by omega) (by assumption)))) (by rfl) ?_
  refine xg_get (pc := 25) hX (j := 1) k_Row d_Nam_addTail_25 l_Nam_64 (by decide) (by first | assumption | exact xup_s _ _ _ | exact xup_o (by omega) (by assumption) | exact xup_o (by omega) (xup_s _ _ _) | exact xup_o (by omega) (xup_o (by omega) (by assumption)) | exact xup_o (by omega) (xup_o (by omega) (xup_s _ _ _)) | exact xup_o (by omega) (xup_o (by omega) (xup_o (by omega) (by assumption)))) (by rfl) ?_
  refine xn_if_le (pc := 28) hX 106 d_Nam_addTail_28 (by decide) (by omega) (fun w => k106 _ (by unfold tvE; rw [if_neg (by omega)])) (fun w => ?_)
  refine xp_aload_0 (pc := 31) hX d_Nam_addTail_31 ?_
  refine xg_get (pc := 32) hX (j := 4) k_Nam d_Nam_addTail_32 l_Nam_37 (by decide) (by first | assumption | exact xup_s _ _ _ | exact xup_o (by omega) (by assumption) | exact xup_o (by omega) (xup_s _ _ _) | exact xup_o (by omega) (xup_o (by omega) (by assumption)) | exact xup_o (by omega) (xup_o (by omega) (xup_s _ _ _)) | exact xup_o (by omega) (xup_o (by omega) (xup_o (by omega) (by assumption)))) (by rfl) ?_
  refine xg_iconst (pc := 35) hX (nI 0) d_Nam_addTail_35 ci_iconst_0 ?_
  refine xi_V (Y2 := Y_Row_at) (pc := 36) hX [_] k_Row m_Row_at d_Nam_addTail_36 l_Nam_71 rfl rfl (by simp [Value.category]) (by first | assumption | exact xup_s _ _ _ | exact xup_o (by omega) (by assumption) | exact xup_o (by omega) (xup_s _ _ _) | exact xup_o (by omega) (xup_o (by omega) (by assumption)) | exact xup_o (by omega) (xup_o (by omega) (xup_s _ _ _)) | exact xup_o (by omega) (xup_o (by omega) (xup_o (by omega) (by assumption)))) (c_Row_at (d + 2) (nI 0) b1 (by omega)) (by omega) (by omega) ?_
  rintro y M3 ⟨rfl, rfl⟩
  rw [rAt_nI (by omega)]
  refine xi_S (Y2 := Y_Nam_isDigit) (pc := 39) hX [_] m_Nam_isDigit d_Nam_addTail_39 l_Nam_210 rfl rfl (by simp [Value.category]) (c_Nam_isDigit (d + 2) _) (by omega) (by omega) ?_
  rintro y M3 ⟨rfl, rfl⟩
  refine xg_if_ne (pc := 42) hX 106 d_Nam_addTail_42 (by decide) (fun z => k106 _ (by unfold tvE; rw [if_neg (fun q => by rw [bI_ne0.mp z] at q; exact absurd q.2 (by decide))])) (fun z => ?_)
  have z := bI_eq0.mp z
  have htv : tvE es se (dp - 1) x = (match eIdx es (own se x (dp - 1)) x with | none => x | some i => (match es[i]? with | none => x | some e => e.2.2.getD x)) := by
    unfold tvE
    rw [if_pos ⟨w, z⟩]
  have hole := own_le se x (dp - 1)
  refine xp_aload_0 (pc := 45) hX d_Nam_addTail_45 ?_
  refine xg_get (pc := 46) hX (j := 7) k_Nam d_Nam_addTail_46 l_Nam_46 (by decide) (by first | assumption | exact xup_s _ _ _ | exact xup_o (by omega) (by assumption) | exact xup_o (by omega) (xup_s _ _ _) | exact xup_o (by omega) (xup_o (by omega) (by assumption)) | exact xup_o (by omega) (xup_o (by omega) (xup_s _ _ _)) | exact xup_o (by omega) (xup_o (by omega) (xup_o (by omega) (by assumption)))) (by rfl) ?_
  refine xp_aload_0 (pc := 49) hX d_Nam_addTail_49 ?_
  refine xg_get (pc := 50) hX (j := 4) k_Nam d_Nam_addTail_50 l_Nam_37 (by decide) (by first | assumption | exact xup_s _ _ _ | exact xup_o (by omega) (by assumption) | exact xup_o (by omega) (xup_s _ _ _) | exact xup_o (by omega) (xup_o (by omega) (by assumption)) | exact xup_o (by omega) (xup_o (by omega) (xup_s _ _ _)) | exact xup_o (by omega) (xup_o (by omega) (xup_o (by omega) (by assumption)))) (by rfl) ?_
  refine xp_aload_0 (pc := 53) hX d_Nam_addTail_53 ?_
  refine xg_get (pc := 54) hX (j := 8) k_Nam d_Nam_addTail_54 l_Nam_53 (by decide) (by first | assumption | exact xup_s _ _ _ | exact xup_o (by omega) (by assumption) | exact xup_o (by omega) (xup_s _ _ _) | exact xup_o (by omega) (xup_o (by omega) (by assumption)) | exact xup_o (by omega) (xup_o (by omega) (xup_s _ _ _)) | exact xup_o (by omega) (xup_o (by omega) (xup_o (by omega) (by assumption)))) (by rfl) ?_
  refine xp_aload_0 (pc := 57) hX d_Nam_addTail_57 ?_
  refine xg_get (pc := 58) hX (j := 4) k_Nam d_Nam_addTail_58 l_Nam_37 (by decide) (by first | assumption | exact xup_s _ _ _ | exact xup_o (by omega) (by assumption) | exact xup_o (by omega) (xup_s _ _ _) | exact xup_o (by omega) (xup_o (by omega) (by assumption)) | exact xup_o (by omega) (xup_o (by omega) (xup_s _ _ _)) | exact xup_o (by omega) (xup_o (by omega) (xup_o (by omega) (by assumption)))) (by rfl) ?_
  refine xp_aload_0 (pc := 61) hX d_Nam_addTail_61 ?_
  refine xg_get (pc := 62) hX (j := 8) k_Nam d_Nam_addTail_62 l_Nam_53 (by decide) (by first | assumption | exact xup_s _ _ _ | exact xup_o (by omega) (by assumption) | exact xup_o (by omega) (xup_s _ _ _) | exact xup_o (by omega) (xup_o (by omega) (by assumption)) | exact xup_o (by omega) (xup_o (by omega) (xup_s _ _ _)) | exact xup_o (by omega) (xup_o (by omega) (xup_o (by omega) (by assumption)))) (by rfl) ?_
  refine xi_V (Y2 := Y_Poo_innermost) (pc := 65) hX [] k_Poo m_Poo_innermost d_Nam_addTail_65 l_Nam_128 rfl rfl (by simp [Value.category]) (by first | assumption | exact xup_s _ _ _ | exact xup_o (by omega) (by assumption) | exact xup_o (by omega) (xup_s _ _ _) | exact xup_o (by omega) (xup_o (by omega) (by assumption)) | exact xup_o (by omega) (xup_o (by omega) (xup_s _ _ _)) | exact xup_o (by omega) (xup_o (by omega) (xup_o (by omega) (by assumption)))) (c_Poo_innermost (d + 2) g6) (by omega) (by omega) ?_
  rintro y M4 ⟨rfl, rfl⟩
  refine xi_V (Y2 := Y_Poo_owner) (pc := 68) hX [_, _] k_Poo m_Poo_owner d_Nam_addTail_68 l_Nam_213 rfl rfl (by simp [Value.category]) (by first | assumption | exact xup_s _ _ _ | exact xup_o (by omega) (by assumption) | exact xup_o (by omega) (xup_s _ _ _) | exact xup_o (by omega) (xup_o (by omega) (by assumption)) | exact xup_o (by omega) (xup_o (by omega) (xup_s _ _ _)) | exact xup_o (by omega) (xup_o (by omega) (xup_o (by omega) (by assumption)))) (c_Poo_owner d g6 h7 b1 (by omega) (by omega)) (by omega) (by omega) ?_
  rintro y M4 ⟨rfl, rfl⟩
  generalize own se x (dp - 1) = p at *
  refine xr_V (Y2 := Y_She_find) (pc := 71) hX [_, _] k_She m_She_find d_Nam_addTail_71 l_Nam_217 rfl rfl (by simp [Value.category]) (by first | assumption | exact xup_s _ _ _ | exact xup_o (by omega) (by assumption) | exact xup_o (by omega) (xup_s _ _ _) | exact xup_o (by omega) (xup_o (by omega) (by assumption)) | exact xup_o (by omega) (xup_o (by omega) (xup_s _ _ _)) | exact xup_o (by omega) (xup_o (by omega) (xup_o (by omega) (by assumption)))) (c_She_find' (d + 1) g5 b1 (by omega) (by omega)) (by omega) (by omega) ?_
  rintro o M5 ⟨rfl, rfl⟩
  cases he : eIdx es p x with
  | none =>
    rw [he] at htv
    refine xp_astoreN_3 (pc := 74) hX d_Nam_addTail_74 (by decide) ?_
    refine xp_aloadN_3 (pc := 75) hX d_Nam_addTail_75 ?_
    refine xg_ifnullN (pc := 76) hX 106 d_Nam_addTail_76 (by decide) ?_
    exact k106 _ htv
  | some i =>
    rw [he] at htv
    have hi := eIdx_lt he
    have hie : es[i]? = some es[i] := List.getElem?_eq_getElem hi
    have gi := n5g i (by omega)
    obtain ⟨e1, e2, e3, v, e4, e5⟩ := n5e i (by omega)
    rw [n5L i _ hie] at e1 e2 e3 e5
    dsimp only at htv
    rw [hie] at htv
    dsimp only at e1 e2 e3 e5 htv
    refine xg_pc (pc' := 74) rfl ?_
    show xG K 74 [some (.ref B), some (.int (nI a)), some (.int (nI b)), none] [.ref (B + 17 + 2 + 5 * g i)] M5 sz 0 0
    generalize hea : B + 17 + 2 + 5 * g i = ea at e1 e2 e3 e4 ⊢
    refine xp_astore_3 (x := ea) (pc := 74) hX d_Nam_addTail_74 (by decide) ?_
    refine xp_aload_3 (pc := 75) hX d_Nam_addTail_75 ?_
    refine xg_ifnull (pc := 76) hX d_Nam_addTail_76 ?_
    refine xp_aload_3 (pc := 79) hX d_Nam_addTail_79 ?_
    refine xg_get (pc := 80) hX (j := 3) k_Ent d_Nam_addTail_80 l_Nam_167 (by decide) (by first | assumption | exact xup_s _ _ _ | exact xup_o (by omega) (by assumption) | exact xup_o (by omega) (xup_s _ _ _) | exact xup_o (by omega) (xup_o (by omega) (by assumption)) | exact xup_o (by omega) (xup_o (by omega) (xup_s _ _ _)) | exact xup_o (by omega) (xup_o (by omega) (xup_o (by omega) (by assumption)))) (by rfl) ?_
    refine xg_if_ne (pc := 83) hX 106 d_Nam_addTail_83 (by decide) (fun z1 => ?_) (fun z1 => ?_)
    · have z1 := bI_ne0.mp z1
      refine k106 _ ?_
      rw [htv]
      cases hvo : es[i].2.2 with
      | none => rfl
      | some u => rw [hvo] at z1; cases z1
    · have z1 := bI_eq0.mp z1
      have htv2 : tvE es se (dp - 1) x = v := by
        rw [htv]
        cases hvo : es[i].2.2 with
        | none => rw [hvo] at z1; cases z1
        | some u => exact (e5 u hvo).symm
      rw [htv2] at hE
      obtain ⟨q5, q5l, -⟩ := id e4
      refine xp_aload_0 (pc := 86) hX d_Nam_addTail_86 ?_
      refine xg_get (pc := 87) hX (j := 2) k_Nam d_Nam_addTail_87 l_Nam_31 (by decide) (by first | assumption | exact xup_s _ _ _ | exact xup_o (by omega) (by assumption) | exact xup_o (by omega) (xup_s _ _ _) | exact xup_o (by omega) (xup_o (by omega) (by assumption)) | exact xup_o (by omega) (xup_o (by omega) (xup_s _ _ _)) | exact xup_o (by omega) (xup_o (by omega) (xup_o (by omega) (by assumption)))) (by rfl) ?_
      refine xp_aload_3 (pc := 90) hX d_Nam_addTail_90 ?_
      refine xg_get (pc := 91) hX (j := 1) k_Ent d_Nam_addTail_91 l_Nam_171 (by decide) (by first | assumption | exact xup_s _ _ _ | exact xup_o (by omega) (by assumption) | exact xup_o (by omega) (xup_s _ _ _) | exact xup_o (by omega) (xup_o (by omega) (by assumption)) | exact xup_o (by omega) (xup_o (by omega) (xup_s _ _ _)) | exact xup_o (by omega) (xup_o (by omega) (xup_o (by omega) (by assumption)))) (by rfl) ?_
      refine xg_iconst (pc := 94) hX (nI 0) d_Nam_addTail_94 ci_iconst_0 ?_
      refine xp_aload_3 (pc := 95) hX d_Nam_addTail_95 ?_
      refine xg_get (pc := 96) hX (j := 1) k_Ent d_Nam_addTail_96 l_Nam_171 (by decide) (by first | assumption | exact xup_s _ _ _ | exact xup_o (by omega) (by assumption) | exact xup_o (by omega) (xup_s _ _ _) | exact xup_o (by omega) (xup_o (by omega) (by assumption)) | exact xup_o (by omega) (xup_o (by omega) (xup_s _ _ _)) | exact xup_o (by omega) (xup_o (by omega) (xup_o (by omega) (by assumption)))) (by rfl) ?_
      refine xg_get (pc := 99) hX (j := 1) k_Row d_Nam_addTail_99 l_Nam_64 (by decide) (by first | assumption | exact xup_s _ _ _ | exact xup_o (by omega) (by assumption) | exact xup_o (by omega) (xup_s _ _ _) | exact xup_o (by omega) (xup_o (by omega) (by assumption)) | exact xup_o (by omega) (xup_o (by omega) (xup_s _ _ _)) | exact xup_o (by omega) (xup_o (by omega) (xup_o (by omega) (by assumption)))) (by rfl) ?_
      refine xi_V (Y2 := Y_Row_addPart) (pc := 102) hX [_, _, _] k_Row m_Row_addPart d_Nam_addTail_102 l_Nam_221 rfl rfl (by simp [Value.category]) (by first | assumption | exact xup_s _ _ _ | exact xup_o (by omega) (by assumption) | exact xup_o (by omega) (xup_s _ _ _) | exact xup_o (by omega) (xup_o (by omega) (by assumption)) | exact xup_o (by omega) (xup_o (by omega) (xup_s _ _ _)) | exact xup_o (by omega) (xup_o (by omega) (xup_o (by omega) (by assumption)))) (c_Row_addPart (d + 1) (a := 0) (b := v.length) g2 e4 (by omega) (Nat.zero_le _) (Nat.le_refl _) (by omega) (by omega)) (by omega) (by omega) ?_
      intro y M6 hc
      rw [sl_all, Nat.sub_zero] at hc
      rcases hc with ⟨c1, rfl, c2, c3⟩ | ⟨c1, rfl, rfl⟩
      · refine xg_iret (pc := 105) hX hE d_Nam_addTail_105 rfl rfl (by omega) (by omega) ?_
        exact ⟨rfl, _, rfl, Or.inl ⟨c1, rfl, nw2.fullx c3 c2⟩, f2.tr (FrN.r2 c3 (by omega))⟩
      · refine xg_iret (pc := 105) hX hE d_Nam_addTail_105 rfl rfl (by omega) (by omega) ?_
        exact ⟨rfl, _, rfl, Or.inr ⟨c1, rfl, nw2⟩, f2⟩
/-- the tails from s on, each as what it stands for, with periods between -/
def tlS (tv : List UInt8 → List UInt8) (t : List UInt8) (b : Nat) : Nat → Nat → List UInt8
  | 0, s => tv ((sl t s b).map cap)
  | n + 1, s => if dotF t s b < b then tv ((sl t s (dotF t s b)).map cap) ++ 46 :: tlS tv t b n (dotF t s b + 1) else tv ((sl t s b).map cap)
/-- the full name of the variable from a up to b -/
def FN (es : List xEn) (se : List xSe) (ip : Nat) (t : List UInt8) (a b : Nat) : List UInt8 := if dotF t a b + 1 < b then (sl t a (dotF t a b + 1)).map cap ++ tlS (tvE es se ip) t b (b - dotF t a b) (dotF t a b + 1) else (sl t a b).map cap
set_option maxHeartbeats 4000000 in
set_option maxRecDepth 100000 in
theorem c_Nam_workOut (d : Nat) {M : xH} {sz B dp i k a b tg pos : Nat} {ans : Option Nat} {t full : List UInt8} {tk : List xTk} {g : Nat → Nat} {L : Nat → xEn × Bool} {es : List xEn} {se : List xSe} (h : NW M B full g L es dp se) (hr : ReA M (B + 1) t tk tg pos ans) (hi : tk[i]? = some (k, a, b)) (hab : a < b) (hb : b ≤ t.length) (hba : b - a ≤ 30) : xC (d + 4) 0 0 Y_Nam_workOut [.ref B, .int (nI i)] M sz (qi sz (fun y M' => (((FN es se (dp - 1) t a b).length ≤ 200 ∧ y = nI 1 ∧ NW M' B (FN es se (dp - 1) t a b) g L es dp se) ∨ (200 < (FN es se (dp - 1) t a b).length ∧ y = nI 0 ∧ ∃ f, NW M' B f g L es dp se)) ∧ FrN M M' B)) := by
  refine xC_of (by decide) (Nat.le_of_ble_eq_true rfl) (by simp [Value.category]) (vs := [some (.ref B), some (.int (nI i)), none, none, none, none, none, none]) rfl (fun K hX hE => ?_)
  obtain ⟨h1, h2, -⟩ := id h
  obtain ⟨r2, -⟩ := id h2
  obtain ⟨q1, q2, q3, -⟩ := id hr
  have htl : t.length ≤ 600 := q2.2.1
  have hil := (List.getElem?_eq_some_iff.mp hi).1
  have eA : tkA tk i = a := by unfold tkA; rw [hi]
  have eB : tkB tk i = b := by unfold tkB; rw [hi]
  refine xp_aload_0 (pc := 0) hX d_Nam_workOut_0 ?_
  refine xg_get (pc := 1) hX (j := 6) k_Nam d_Nam_workOut_1 l_Nam_10 (by decide) (by first | assumption | exact xup_s _ _ _ | exact xup_o (by omega) (by assumption) | exact xup_o (by omega) (xup_s _ _ _) | exact xup_o (by omega) (xup_o (by omega) (by assumption)) | exact xup_o (by omega) (xup_o (by omega) (xup_s _ _ _)) | exact xup_o (by omega) (xup_o (by omega) (xup_o (by omega) (by assumption)))) (by rfl) ?_
  refine xp_iload_1 (pc := 4) hX d_Nam_workOut_4 ?_
  refine xi_V (Y2 := Y_Rea_startOf) (pc := 5) hX [_] k_Rea m_Rea_startOf d_Nam_workOut_5 l_Nam_189 rfl rfl (by simp [Value.category]) (by first | assumption | exact xup_s _ _ _ | exact xup_o (by omega) (by assumption) | exact xup_o (by omega) (xup_s _ _ _) | exact xup_o (by omega) (xup_o (by omega) (by assumption)) | exact xup_o (by omega) (xup_o (by omega) (xup_s _ _ _)) | exact xup_o (by omega) (xup_o (by omega) (xup_o (by omega) (by assumption)))) (c_Rea_startOf (d + 3) hr (by omega)) (by omega) (by omega) ?_
  rintro y M1 ⟨rfl, rfl⟩
  rw [eA]
  refine xp_istore_2 (pc := 8) hX d_Nam_workOut_8 (by decide) ?_
  refine xp_aload_0 (pc := 9) hX d_Nam_workOut_9 ?_
  refine xg_get (pc := 10) hX (j := 6) k_Nam d_Nam_workOut_10 l_Nam_10 (by decide) (by first | assumption | exact xup_s _ _ _ | exact xup_o (by omega) (by assumption) | exact xup_o (by omega) (xup_s _ _ _) | exact xup_o (by omega) (xup_o (by omega) (by assumption)) | exact xup_o (by omega) (xup_o (by omega) (xup_s _ _ _)) | exact xup_o (by omega) (xup_o (by omega) (xup_o (by omega) (by assumption)))) (by rfl) ?_
  refine xp_iload_1 (pc := 13) hX d_Nam_workOut_13 ?_
  refine xi_V (Y2 := Y_Rea_stopOf) (pc := 14) hX [_] k_Rea m_Rea_stopOf d_Nam_workOut_14 l_Nam_192 rfl rfl (by simp [Value.category]) (by first | assumption | exact xup_s _ _ _ | exact xup_o (by omega) (by assumption) | exact xup_o (by omega) (xup_s _ _ _) | exact xup_o (by omega) (xup_o (by omega) (by assumption)) | exact xup_o (by omega) (xup_o (by omega) (xup_s _ _ _)) | exact xup_o (by omega) (xup_o (by omega) (xup_o (by omega) (by assumption)))) (c_Rea_stopOf (d + 3) hr (by omega)) (by omega) (by omega) ?_
  rintro y M1 ⟨rfl, rfl⟩
  rw [eB]
  refine xp_istore_3 (pc := 17) hX d_Nam_workOut_17 (by decide) ?_
  refine xp_aload_0 (pc := 18) hX d_Nam_workOut_18 ?_
  refine xg_get (pc := 19) hX (j := 2) k_Nam d_Nam_workOut_19 l_Nam_31 (by decide) (by first | assumption | exact xup_s _ _ _ | exact xup_o (by omega) (by assumption) | exact xup_o (by omega) (xup_s _ _ _) | exact xup_o (by omega) (xup_o (by omega) (by assumption)) | exact xup_o (by omega) (xup_o (by omega) (xup_s _ _ _)) | exact xup_o (by omega) (xup_o (by omega) (xup_o (by omega) (by assumption)))) (by rfl) ?_
  refine xv_V (Y2 := Y_Row_clear) (pc := 22) hX [] k_Row m_Row_clear d_Nam_workOut_22 l_Nam_89 rfl rfl (by simp [Value.category]) (by first | assumption | exact xup_s _ _ _ | exact xup_o (by omega) (by assumption) | exact xup_o (by omega) (xup_s _ _ _) | exact xup_o (by omega) (xup_o (by omega) (by assumption)) | exact xup_o (by omega) (xup_o (by omega) (xup_s _ _ _)) | exact xup_o (by omega) (xup_o (by omega) (xup_o (by omega) (by assumption)))) (c_Row_clear (d + 3) h2) (by omega) (by omega) ?_
  rintro M2 ⟨a1, a2⟩
  have nw2 := h.fullx a2 a1
  have t2 : RowAt M2 (B + 1 + 1) 600 t := q2.kept (a2 _ (by omega) (by omega)) (a2 _ (by omega) (by omega))
  have f2 : FrN M1 M2 B := FrN.r2 a2 (by omega)
  obtain ⟨g1, -⟩ := id nw2
  obtain ⟨s2, -⟩ := id t2
  obtain ⟨s3, -⟩ := id a1
  have hd := dotF_le (bs := t) (a := a) (b := b) (by omega) hb
  refine xp_aload_0 (pc := 25) hX d_Nam_workOut_25 ?_
  refine xg_get (pc := 26) hX (j := 0) k_Nam d_Nam_workOut_26 l_Nam_20 (by decide) (by first | assumption | exact xup_s _ _ _ | exact xup_o (by omega) (by assumption) | exact xup_o (by omega) (xup_s _ _ _) | exact xup_o (by omega) (xup_o (by omega) (by assumption)) | exact xup_o (by omega) (xup_o (by omega) (xup_s _ _ _)) | exact xup_o (by omega) (xup_o (by omega) (xup_o (by omega) (by assumption)))) (by rfl) ?_
  refine xp_iload_2 (pc := 29) hX d_Nam_workOut_29 ?_
  refine xp_iload_3 (pc := 30) hX d_Nam_workOut_30 ?_
  refine xi_V (Y2 := Y_Row_dotFrom) (pc := 31) hX [_, _] k_Row m_Row_dotFrom d_Nam_workOut_31 l_Nam_195 rfl rfl (by simp [Value.category]) (by first | assumption | exact xup_s _ _ _ | exact xup_o (by omega) (by assumption) | exact xup_o (by omega) (xup_s _ _ _) | exact xup_o (by omega) (xup_o (by omega) (by assumption)) | exact xup_o (by omega) (xup_o (by omega) (xup_s _ _ _)) | exact xup_o (by omega) (xup_o (by omega) (xup_o (by omega) (by assumption)))) (c_Row_dotFrom (d + 3) t2 (by omega) hb (by omega)) (by omega) (by omega) ?_
  rintro y M3 ⟨rfl, rfl⟩
  have hFN : FN es se (dp - 1) t a b = if dotF t a b + 1 < b then (sl t a (dotF t a b + 1)).map cap ++ tlS (tvE es se (dp - 1)) t b (b - dotF t a b) (dotF t a b + 1) else (sl t a b).map cap := rfl
  generalize dotF t a b = k0 at *
  refine xp_istore_4 (pc := 34) hX d_Nam_workOut_34 (by decide) ?_
  refine xp_iload_4 (pc := 36) hX d_Nam_workOut_36 ?_
  refine xp_iload_3 (pc := 38) hX d_Nam_workOut_38 ?_
  refine xg_iconst (pc := 39) hX (nI 1) d_Nam_workOut_39 ci_iconst_1 ?_
  first | refine xn_isub (pc := 40) hX d_Nam_workOut_40 (by omega) ?_ | refine xg_isub (pc := 40) hX d_Nam_workOut_40 ?_
  refine xn_icmp_lt (pc := 41) hX 58 d_Nam_workOut_41 (by decide) (by omega) (by omega) (fun w => ?_) (fun w => ?_)
  · rw [if_pos (by omega)] at hFN
    generalize FN es se (dp - 1) t a b = R at *
    refine xp_aload_0 (pc := 58) hX d_Nam_workOut_58 ?_
    refine xg_get (pc := 59) hX (j := 2) k_Nam d_Nam_workOut_59 l_Nam_31 (by decide) (by first | assumption | exact xup_s _ _ _ | exact xup_o (by omega) (by assumption) | exact xup_o (by omega) (xup_s _ _ _) | exact xup_o (by omega) (xup_o (by omega) (by assumption)) | exact xup_o (by omega) (xup_o (by omega) (xup_s _ _ _)) | exact xup_o (by omega) (xup_o (by omega) (xup_o (by omega) (by assumption)))) (by rfl) ?_
    refine xp_aload_0 (pc := 62) hX d_Nam_workOut_62 ?_
    refine xg_get (pc := 63) hX (j := 0) k_Nam d_Nam_workOut_63 l_Nam_20 (by decide) (by first | assumption | exact xup_s _ _ _ | exact xup_o (by omega) (by assumption) | exact xup_o (by omega) (xup_s _ _ _) | exact xup_o (by omega) (xup_o (by omega) (by assumption)) | exact xup_o (by omega) (xup_o (by omega) (xup_s _ _ _)) | exact xup_o (by omega) (xup_o (by omega) (xup_o (by omega) (by assumption)))) (by rfl) ?_
    refine xp_iload_2 (pc := 66) hX d_Nam_workOut_66 ?_
    refine xp_iload_4 (pc := 67) hX d_Nam_workOut_67 ?_
    refine xg_iconst (pc := 69) hX (nI 1) d_Nam_workOut_69 ci_iconst_1 ?_
    first | refine xn_iadd (pc := 70) hX d_Nam_workOut_70 ?_ | refine xg_iadd (pc := 70) hX d_Nam_workOut_70 ?_
    refine xi_V (Y2 := Y_Row_addCapitals) (pc := 71) hX [_, _, _] k_Row m_Row_addCapitals d_Nam_workOut_71 l_Nam_199 rfl rfl (by simp [Value.category]) (by first | assumption | exact xup_s _ _ _ | exact xup_o (by omega) (by assumption) | exact xup_o (by omega) (xup_s _ _ _) | exact xup_o (by omega) (xup_o (by omega) (by assumption)) | exact xup_o (by omega) (xup_o (by omega) (xup_s _ _ _)) | exact xup_o (by omega) (xup_o (by omega) (xup_o (by omega) (by assumption)))) (c_Row_addCapitals (d + 2) (a := a) (b := k0 + 1) a1 t2 (by omega) (by omega) (by omega) (by simp; omega) (by omega) (by omega)) (by omega) (by omega) ?_
    rintro y M4 ⟨rfl, b1, b2⟩
    rw [List.nil_append] at b1
    have nw4 := nw2.fullx b2 b1
    have t4 : RowAt M4 (B + 1 + 1) 600 t := t2.kept (b2 _ (by omega) (by omega)) (b2 _ (by omega) (by omega))
    have f4 := f2.tr (FrN.r2 b2 (by omega))
    have k172 : ∀ (vs : List (Option Value)) (M5 : xH) (v : Bool) (z0 z1 z2 z3 z4 : Option Value), ((v = true ∧ R.length ≤ 200 ∧ NW M5 B R g L es dp se) ∨ (v = false ∧ 200 < R.length ∧ ∃ f, NW M5 B f g L es dp se)) → FrN M1 M5 B → xG K 172 (z0 :: z1 :: z2 :: z3 :: z4 :: some (.int (bI v)) :: vs) [] M5 sz 0 0 := by
      intro vs M5 v z0 z1 z2 z3 z4 hc hf
      refine xp_iload_5 (pc := 172) hX d_Nam_workOut_172 ?_
      refine xg_iret (pc := 174) hX hE d_Nam_workOut_174 rfl (by cases v <;> rfl) (by omega) (by omega) ?_
      refine ⟨rfl, _, rfl, ?_, hf⟩
      rcases hc with ⟨rfl, c1, c2⟩ | ⟨rfl, c1, c2⟩
      · exact Or.inl ⟨c1, rfl, c2⟩
      · exact Or.inr ⟨c1, rfl, c2⟩
    -- with fits = 0 the loop ends
    have k86f : ∀ (M5 : xH) (first j : Nat), j ≤ b + 1 → 200 < R.length → (∃ f, NW M5 B f g L es dp se) → FrN M1 M5 B → xG K 86 [some (.ref B), some (.int (nI i)), some (.int (nI a)), some (.int (nI b)), some (.int (nI k0)), some (.int (nI 0)), some (.int (nI first)), some (.int (nI j))] [] M5 sz 0 0 := by
      intro M5 first j hj hl hw hf
      refine xp_iload_7 (pc := 86) hX d_Nam_workOut_86 ?_
      refine xp_iload_3 (pc := 88) hX d_Nam_workOut_88 ?_
      refine xn_icmp_gt (pc := 89) hX 172 d_Nam_workOut_89 (by decide) (by omega) (by omega) (fun _ => k172 _ M5 false _ _ _ _ _ (Or.inr ⟨rfl, hl, hw⟩) hf) (fun _ => ?_)
      refine xp_iload_5 (pc := 92) hX d_Nam_workOut_92 ?_
      refine xn_if_eq (pc := 94) hX 172 d_Nam_workOut_94 (by decide) (by decide) (fun _ => k172 _ M5 false _ _ _ _ _ (Or.inr ⟨rfl, hl, hw⟩) hf) (fun z => absurd z (by decide))
    have loop : ∀ (m j first : Nat) (acc : List UInt8) (M5 : xH) (n : Nat), j + m = b → first ≤ j → k0 < first → dotF t first b = dotF t j b → b ≤ first + n → R = acc ++ tlS (tvE es se (dp - 1)) t b n first → NW M5 B acc g L es dp se → FrN M1 M5 B → xG K 86 [some (.ref B), some (.int (nI i)), some (.int (nI a)), some (.int (nI b)), some (.int (nI k0)), some (.int (nI 1)), some (.int (nI first)), some (.int (nI j))] [] M5 sz 0 0 := by
      intro m
      induction m with
      | zero =>
        intro j first acc M5 n hj hfj hk hdot hn hR nw5 f5
        have hjb : j = b := by omega
        subst hjb
        rw [dotF_end] at hdot
        have htl5 : tlS (tvE es se (dp - 1)) t j n first = tvE es se (dp - 1) ((sl t first j).map cap) := by
          cases n with
          | zero => rfl
          | succ n =>
            show (if dotF t first j < j then _ else _) = _
            rw [if_neg (by omega)]
        rw [htl5] at hR
        have t5 : RowAt M5 (B + 1 + 1) 600 t := q2.kept (f5 _ (by omega)) (f5 _ (by omega))
        obtain ⟨p1, -⟩ := id nw5
        refine xp_iload_7 (pc := 86) hX d_Nam_workOut_86 ?_
        refine xp_iload_3 (pc := 88) hX d_Nam_workOut_88 ?_
        refine xn_icmp_gt (pc := 89) hX 172 d_Nam_workOut_89 (by decide) (by omega) (by omega) (fun z => absurd z (by omega)) (fun _ => ?_)
        refine xp_iload_5 (pc := 92) hX d_Nam_workOut_92 ?_
        refine xn_if_eq (pc := 94) hX 172 d_Nam_workOut_94 (by decide) (by decide) (fun z => absurd z (by decide)) (fun _ => ?_)
        refine xp_iload_7 (pc := 97) hX d_Nam_workOut_97 ?_
        refine xp_iload_3 (pc := 99) hX d_Nam_workOut_99 ?_
        refine xn_icmp_ne (pc := 100) hX 116 d_Nam_workOut_100 (by decide) (by omega) (by omega) (fun z => absurd rfl z) (fun _ => ?_)
        refine xp_aload_0 (pc := 103) hX d_Nam_workOut_103 ?_
        refine xp_iload_6 (pc := 104) hX d_Nam_workOut_104 ?_
        refine xp_iload_7 (pc := 106) hX d_Nam_workOut_106 ?_
        refine xi_V (Y2 := Y_Nam_addTail) (pc := 108) hX [_, _] k_Nam m_Nam_addTail d_Nam_workOut_108 l_Nam_203 rfl rfl (by simp [Value.category]) (by first | assumption | exact xup_s _ _ _ | exact xup_o (by omega) (by assumption) | exact xup_o (by omega) (xup_s _ _ _) | exact xup_o (by omega) (xup_o (by omega) (by assumption)) | exact xup_o (by omega) (xup_o (by omega) (xup_s _ _ _)) | exact xup_o (by omega) (xup_o (by omega) (xup_o (by omega) (by assumption)))) (c_Nam_addTail d nw5 t5 (by omega) (by omega) (by omega)) (by omega) (by omega) ?_
        rintro y M6 ⟨hc, f6⟩
        rcases hc with ⟨c1, rfl, c2⟩ | ⟨c1, rfl, c2⟩
        · refine xp_istore_5 (pc := 111) hX d_Nam_workOut_111 (by decide) ?_
          refine xg_goto (pc := 113) hX 166 d_Nam_workOut_113 (by decide) ?_
          refine xp_inc_7 (pc := 166) hX d_Nam_workOut_166 (by decide) ?_
          refine xg_goto (pc := 169) hX 86 d_Nam_workOut_169 (by decide) ?_
          refine xp_iload_7 (pc := 86) hX d_Nam_workOut_86 ?_
          refine xp_iload_3 (pc := 88) hX d_Nam_workOut_88 ?_
          refine xn_icmp_gt (pc := 89) hX 172 d_Nam_workOut_89 (by decide) (by omega) (by omega) (fun _ => ?_) (fun z => absurd z (by omega))
          rw [← hR] at c2
          exact k172 _ M6 true _ _ _ _ _ (Or.inl ⟨rfl, by rw [hR, List.length_append]; exact c1, c2⟩) (f5.tr f6)
        · refine xp_istore_5 (pc := 111) hX d_Nam_workOut_111 (by decide) ?_
          refine xg_goto (pc := 113) hX 166 d_Nam_workOut_113 (by decide) ?_
          refine xp_inc_7 (pc := 166) hX d_Nam_workOut_166 (by decide) ?_
          refine xg_goto (pc := 169) hX 86 d_Nam_workOut_169 (by decide) ?_
          exact k86f M6 _ _ (by omega) (by rw [hR, List.length_append]; exact c1) ⟨_, c2⟩ (f5.tr f6)
      | succ m ih =>
        intro j first acc M5 n hj hfj hk hdot hn hR nw5 f5
        have hjt : j < t.length := by omega
        have t5 : RowAt M5 (B + 1 + 1) 600 t := q2.kept (f5 _ (by omega)) (f5 _ (by omega))
        obtain ⟨p1, p2, -⟩ := id nw5
        obtain ⟨s5, -⟩ := id t5
        refine xp_iload_7 (pc := 86) hX d_Nam_workOut_86 ?_
        refine xp_iload_3 (pc := 88) hX d_Nam_workOut_88 ?_
        refine xn_icmp_gt (pc := 89) hX 172 d_Nam_workOut_89 (by decide) (by omega) (by omega) (fun z => absurd z (by omega)) (fun _ => ?_)
        refine xp_iload_5 (pc := 92) hX d_Nam_workOut_92 ?_
        refine xn_if_eq (pc := 94) hX 172 d_Nam_workOut_94 (by decide) (by decide) (fun z => absurd z (by decide)) (fun _ => ?_)
        refine xp_iload_7 (pc := 97) hX d_Nam_workOut_97 ?_
        refine xp_iload_3 (pc := 99) hX d_Nam_workOut_99 ?_
        refine xn_icmp_ne (pc := 100) hX 116 d_Nam_workOut_100 (by decide) (by omega) (by omega) (fun _ => ?_) (fun z => absurd z (by omega))
        refine xp_aload_0 (pc := 116) hX d_Nam_workOut_116 ?_
        refine xg_get (pc := 117) hX (j := 0) k_Nam d_Nam_workOut_117 l_Nam_20 (by decide) (by first | assumption | exact xup_s _ _ _ | exact xup_o (by omega) (by assumption) | exact xup_o (by omega) (xup_s _ _ _) | exact xup_o (by omega) (xup_o (by omega) (by assumption)) | exact xup_o (by omega) (xup_o (by omega) (xup_s _ _ _)) | exact xup_o (by omega) (xup_o (by omega) (xup_o (by omega) (by assumption)))) (by rfl) ?_
        refine xp_iload_7 (pc := 120) hX d_Nam_workOut_120 ?_
        refine xi_V (Y2 := Y_Row_at) (pc := 122) hX [_] k_Row m_Row_at d_Nam_workOut_122 l_Nam_71 rfl rfl (by simp [Value.category]) (by first | assumption | exact xup_s _ _ _ | exact xup_o (by omega) (by assumption) | exact xup_o (by omega) (xup_s _ _ _) | exact xup_o (by omega) (xup_o (by omega) (by assumption)) | exact xup_o (by omega) (xup_o (by omega) (xup_s _ _ _)) | exact xup_o (by omega) (xup_o (by omega) (xup_o (by omega) (by assumption)))) (c_Row_at (d + 3) (nI j) t5 (by omega)) (by omega) (by omega) ?_
        rintro y M6 ⟨rfl, rfl⟩
        rw [rAt_nI (by omega), List.getElem?_eq_getElem hjt]
        refine xg_bipush (pc := 125) hX (nI 46) d_Nam_workOut_125 ci_bipush_46 ?_
        refine xg_icmp_ne (pc := 127) hX 166 d_Nam_workOut_127 (by decide) (fun z => ?_) (fun z => ?_)
        · have z : t[j] ≠ 46 := fun q => z ((oI_eq (by decide)).mpr (by rw [q]; rfl))
          refine xp_inc_7 (pc := 166) hX d_Nam_workOut_166 (by decide) ?_
          refine xg_goto (pc := 169) hX 86 d_Nam_workOut_169 (by decide) ?_
          refine ih (j + 1) first acc M6 n (by omega) (by omega) hk ?_ hn hR nw5 f5
          rw [hdot, dotF_miss (by omega) hb z]
        · have z : t[j] = 46 := Option.some.inj ((oI_eq (by decide)).mp z)
          rw [dotF_hit (by omega) hb z] at hdot
          cases n with
          | zero => exact absurd hn (by omega)
          | succ n =>
            have htl5 : tlS (tvE es se (dp - 1)) t b (n + 1) first = tvE es se (dp - 1) ((sl t first j).map cap) ++ 46 :: tlS (tvE es se (dp - 1)) t b n (j + 1) := by
              show (if dotF t first b < b then _ else _) = _
              rw [hdot, if_pos (by omega)]
            rw [htl5] at hR
            refine xp_aload_0 (pc := 130) hX d_Nam_workOut_130 ?_
            refine xp_iload_6 (pc := 131) hX d_Nam_workOut_131 ?_
            refine xp_iload_7 (pc := 133) hX d_Nam_workOut_133 ?_
            refine xi_V (Y2 := Y_Nam_addTail) (pc := 135) hX [_, _] k_Nam m_Nam_addTail d_Nam_workOut_135 l_Nam_203 rfl rfl (by simp [Value.category]) (by first | assumption | exact xup_s _ _ _ | exact xup_o (by omega) (by assumption) | exact xup_o (by omega) (xup_s _ _ _) | exact xup_o (by omega) (xup_o (by omega) (by assumption)) | exact xup_o (by omega) (xup_o (by omega) (xup_s _ _ _)) | exact xup_o (by omega) (xup_o (by omega) (xup_o (by omega) (by assumption)))) (c_Nam_addTail d nw5 t5 (by omega) (by omega) (by omega)) (by omega) (by omega) ?_
            rintro y M7 ⟨hc, f7⟩
            have hRl : R.length = acc.length + ((tvE es se (dp - 1) ((sl t first j).map cap)).length + ((tlS (tvE es se (dp - 1)) t b n (j + 1)).length + 1)) := by
              rw [hR, List.length_append, List.length_append, List.length_cons]
            -- no room: fits = 0
            have k157 : ∀ M8 : xH, 200 < R.length → (∃ f, NW M8 B f g L es dp se) → FrN M1 M8 B → xG K 157 [some (.ref B), some (.int (nI i)), some (.int (nI a)), some (.int (nI b)), some (.int (nI k0)), some (.int (nI 1)), some (.int (nI first)), some (.int (nI j))] [] M8 sz 0 0 := by
              intro M8 hl8 hw8 f8
              refine xg_iconst (pc := 157) hX (nI 0) d_Nam_workOut_157 ci_iconst_0 ?_
              refine xp_istore_5 (pc := 158) hX d_Nam_workOut_158 (by decide) ?_
              refine xp_iload_7 (pc := 160) hX d_Nam_workOut_160 ?_
              refine xg_iconst (pc := 162) hX (nI 1) d_Nam_workOut_162 ci_iconst_1 ?_
              first | refine xn_iadd (pc := 163) hX d_Nam_workOut_163 ?_ | refine xg_iadd (pc := 163) hX d_Nam_workOut_163 ?_
              refine xp_istore_6 (pc := 164) hX d_Nam_workOut_164 (by decide) ?_
              refine xp_inc_7 (pc := 166) hX d_Nam_workOut_166 (by decide) ?_
              refine xg_goto (pc := 169) hX 86 d_Nam_workOut_169 (by decide) ?_
              exact k86f M8 _ _ (by omega) hl8 hw8 f8
            rcases hc with ⟨c1, rfl, c2⟩ | ⟨c1, rfl, c2⟩
            · refine xn_if_eq (pc := 138) hX 157 d_Nam_workOut_138 (by decide) (by decide) (fun z => absurd z (by decide)) (fun _ => ?_)
              obtain ⟨p1, p2, -⟩ := id c2
              obtain ⟨s6, -⟩ := id p2
              refine xp_aload_0 (pc := 141) hX d_Nam_workOut_141 ?_
              refine xg_get (pc := 142) hX (j := 2) k_Nam d_Nam_workOut_142 l_Nam_31 (by decide) (by first | assumption | exact xup_s _ _ _ | exact xup_o (by omega) (by assumption) | exact xup_o (by omega) (xup_s _ _ _) | exact xup_o (by omega) (xup_o (by omega) (by assumption)) | exact xup_o (by omega) (xup_o (by omega) (xup_s _ _ _)) | exact xup_o (by omega) (xup_o (by omega) (xup_o (by omega) (by assumption)))) (by rfl) ?_
              refine xg_bipush (pc := 145) hX (nI 46) d_Nam_workOut_145 ci_bipush_46 ?_
              refine xi_V (Y2 := Y_Row_add) (pc := 147) hX [_] k_Row m_Row_add d_Nam_workOut_147 l_Nam_207 rfl rfl (by simp [Value.category]) (by first | assumption | exact xup_s _ _ _ | exact xup_o (by omega) (by assumption) | exact xup_o (by omega) (xup_s _ _ _) | exact xup_o (by omega) (xup_o (by omega) (by assumption)) | exact xup_o (by omega) (xup_o (by omega) (xup_s _ _ _)) | exact xup_o (by omega) (xup_o (by omega) (xup_o (by omega) (by assumption)))) (c_Row_add (d + 3) (nI 46) 46 (by decide) p2 (by omega)) (by omega) (by omega) ?_
              intro y M8 hadd
              rcases hadd with ⟨u1, rfl, u2, u3⟩ | ⟨u1, rfl, rfl⟩
              · refine xn_if_eq (pc := 150) hX 157 d_Nam_workOut_150 (by decide) (by decide) (fun z => absurd z (by decide)) (fun _ => ?_)
                refine xg_iconst (pc := 153) hX (nI 1) d_Nam_workOut_153 ci_iconst_1 ?_
                refine xg_goto (pc := 154) hX 158 d_Nam_workOut_154 (by decide) ?_
                refine xp_istore_5 (pc := 158) hX d_Nam_workOut_158 (by decide) ?_
                refine xp_iload_7 (pc := 160) hX d_Nam_workOut_160 ?_
                refine xg_iconst (pc := 162) hX (nI 1) d_Nam_workOut_162 ci_iconst_1 ?_
                first | refine xn_iadd (pc := 163) hX d_Nam_workOut_163 ?_ | refine xg_iadd (pc := 163) hX d_Nam_workOut_163 ?_
                refine xp_istore_6 (pc := 164) hX d_Nam_workOut_164 (by decide) ?_
                refine xp_inc_7 (pc := 166) hX d_Nam_workOut_166 (by decide) ?_
                refine xg_goto (pc := 169) hX 86 d_Nam_workOut_169 (by decide) ?_
                refine ih (j + 1) (j + 1) (acc ++ tvE es se (dp - 1) ((sl t first j).map cap) ++ [46]) M8 n (by omega) (Nat.le_refl _) (by omega) rfl (by omega) ?_ (c2.fullx u3 u2) ((f5.tr f7).tr (FrN.r2 u3 (by omega)))
                rw [hR]
                simp
              · refine xn_if_eq (pc := 150) hX 157 d_Nam_workOut_150 (by decide) (by decide) (fun _ => ?_) (fun z => absurd z (by decide))
                rw [List.length_append] at u1
                exact k157 _ (by omega) ⟨_, c2⟩ (f5.tr f7)
            · refine xn_if_eq (pc := 138) hX 157 d_Nam_workOut_138 (by decide) (by decide) (fun _ => ?_) (fun z => absurd z (by decide))
              exact k157 _ (by omega) ⟨_, c2⟩ (f5.tr f7)
    refine xp_istore_5 (pc := 74) hX d_Nam_workOut_74 (by decide) ?_
    refine xp_iload_4 (pc := 76) hX d_Nam_workOut_76 ?_
    refine xg_iconst (pc := 78) hX (nI 1) d_Nam_workOut_78 ci_iconst_1 ?_
    first | refine xn_iadd (pc := 79) hX d_Nam_workOut_79 ?_ | refine xg_iadd (pc := 79) hX d_Nam_workOut_79 ?_
    refine xp_istore_6 (pc := 80) hX d_Nam_workOut_80 (by decide) ?_
    refine xp_iload_6 (pc := 82) hX d_Nam_workOut_82 ?_
    refine xp_istore_7 (pc := 84) hX d_Nam_workOut_84 (by decide) ?_
    exact loop (b - (k0 + 1)) (k0 + 1) (k0 + 1) _ M4 (b - k0) (by omega) (Nat.le_refl _) (by omega) rfl (by omega) hFN nw4 f4
  · rw [if_neg (by omega)] at hFN
    refine xp_aload_0 (pc := 44) hX d_Nam_workOut_44 ?_
    refine xg_get (pc := 45) hX (j := 2) k_Nam d_Nam_workOut_45 l_Nam_31 (by decide) (by first | assumption | exact xup_s _ _ _ | exact xup_o (by omega) (by assumption) | exact xup_o (by omega) (xup_s _ _ _) | exact xup_o (by omega) (xup_o (by omega) (by assumption)) | exact xup_o (by omega) (xup_o (by omega) (xup_s _ _ _)) | exact xup_o (by omega) (xup_o (by omega) (xup_o (by omega) (by assumption)))) (by rfl) ?_
    refine xp_aload_0 (pc := 48) hX d_Nam_workOut_48 ?_
    refine xg_get (pc := 49) hX (j := 0) k_Nam d_Nam_workOut_49 l_Nam_20 (by decide) (by first | assumption | exact xup_s _ _ _ | exact xup_o (by omega) (by assumption) | exact xup_o (by omega) (xup_s _ _ _) | exact xup_o (by omega) (xup_o (by omega) (by assumption)) | exact xup_o (by omega) (xup_o (by omega) (xup_s _ _ _)) | exact xup_o (by omega) (xup_o (by omega) (xup_o (by omega) (by assumption)))) (by rfl) ?_
    refine xp_iload_2 (pc := 52) hX d_Nam_workOut_52 ?_
    refine xp_iload_3 (pc := 53) hX d_Nam_workOut_53 ?_
    refine xi_V (Y2 := Y_Row_addCapitals) (pc := 54) hX [_, _, _] k_Row m_Row_addCapitals d_Nam_workOut_54 l_Nam_199 rfl rfl (by simp [Value.category]) (by first | assumption | exact xup_s _ _ _ | exact xup_o (by omega) (by assumption) | exact xup_o (by omega) (xup_s _ _ _) | exact xup_o (by omega) (xup_o (by omega) (by assumption)) | exact xup_o (by omega) (xup_o (by omega) (xup_s _ _ _)) | exact xup_o (by omega) (xup_o (by omega) (xup_o (by omega) (by assumption)))) (c_Row_addCapitals (d + 2) (a := a) (b := b) a1 t2 (by omega) (by omega) hb (by simp; omega) (by omega) (by omega)) (by omega) (by omega) ?_
    rintro y M4 ⟨rfl, b1, b2⟩
    rw [List.nil_append, ← hFN] at b1
    refine xg_iret (pc := 57) hX hE d_Nam_workOut_57 rfl rfl (by omega) (by omega) ?_
    refine ⟨rfl, _, rfl, Or.inl ⟨?_, rfl, nw2.fullx b2 b1⟩, f2.tr (FrN.r2 b2 (by omega))⟩
    rw [hFN, List.length_map, sl_len hb]
    omega
