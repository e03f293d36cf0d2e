/-! the reference: lose -/
theorem isSt_stB {nm : List UInt8} (h : isCo nm = true) : isSt (stB nm) = true := by
  unfold isCo at h
  have h := of_decide_eq_true h
  unfold isSt stB
  have hl : (nm.take (nm.idxOf 46 + 1)).length = nm.idxOf 46 + 1 := by rw [List.length_take]; omega
  have hm : (46 : UInt8) ∈ nm.take (nm.idxOf 46 + 1) := by
    have h1 : nm[nm.idxOf 46] = 46 := List.getElem_idxOf (by omega)
    have h2 : (nm.take (nm.idxOf 46 + 1))[nm.idxOf 46]? = some 46 := by
      rw [List.getElem?_take_of_lt (by omega), List.getElem?_eq_getElem (by omega), h1]
    exact List.mem_of_getElem? h2
  have h3 : nm.idxOf 46 = (nm.take (nm.idxOf 46 + 1)).idxOf 46 := by
    have h4 := List.idxOf_append (l₁ := nm.take (nm.idxOf 46 + 1)) (l₂ := nm.drop (nm.idxOf 46 + 1)) (a := (46 : UInt8))
    rw [List.take_append_drop, if_pos hm] at h4
    exact h4
  rw [hl, ← h3]
  simp
theorem hld_stB {s nm : List UInt8} (h : isCo nm = true) (hh : hld s (stB nm) = true) : hld s nm = true := by
  unfold hld at hh ⊢
  simp only [Bool.and_eq_true, Bool.or_eq_true, beq_iff_eq] at hh ⊢
  obtain ⟨h1, h2⟩ := hh
  rw [List.isPrefixOf_iff_prefix] at h2 ⊢
  have h3 : s <+: nm := h2.trans (List.take_prefix _ _)
  refine ⟨?_, h3⟩
  rcases h1 with q | q
  · exact Or.inl q
  · left
    rw [h2.eq_of_length q.symm]
    exact isSt_stB h
theorem own_stB {se : List xSe} (hs : SeO se) {nm : List UInt8} (h : isCo nm = true) (ip : Nat) : own se (stB nm) (own se nm ip) = own se nm ip := by
  rw [own_eq hs, own_eq hs]
  have hf := polW_fix (se := se) (nm := nm) ip
  generalize polW se nm ip = p at *
  cases p with
  | zero => rfl
  | succ p =>
    rcases hf with q | q
    · cases q
    · rw [polW, if_neg]
      intro z
      unfold see1 at z q
      rw [List.any_eq_true] at z
      obtain ⟨s, z1, z2⟩ := z
      rw [List.any_eq_false] at q
      exact q s z1 (hld_stB h z2)
section XM11
variable {t x out full : List UInt8} {es : List xEn} {pool : Nat} {se : List xSe} {sub fd : List UInt8} {fr bg : Nat} {wr : Option Nat} {nx kd fi la va : Nat}
set_option maxHeartbeats 16000000 in
set_option maxRecDepth 100000 in
theorem c_Mod_lose (d : Nat) {M : xH} {sz O : Nat} (h : Wd M O t x out full es pool se sub fd fr bg wr nx kd fi la va) (hso : SeO se) (hgI : gI es) (hf1 : 0 < full.length) (hl : full.length ≤ 200) : xC (d + 2) 0 0 Y_Mod_lose [.ref O] M sz (qi sz (fun y M' => ((∃ es2, dropE es se (own se full pool) full = some es2 ∧ y = nI 1 ∧ Wd M' O t x out full es2 pool se sub fd fr bg wr nx kd fi la va) ∨ (dropE es se (own se full pool) full = none ∧ y = nI 0 ∧ Wd M' O t x out full (clE es (own se full pool) full) pool se sub fd fr bg wr nx kd fi la va)) ∧ FrO M M' O)) := by
  refine xC_of (by decide) (Nat.le_of_ble_eq_true rfl) (by simp [Value.category]) (vs := [some (.ref O), none, none, none, none]) rfl (fun K hX hE => ?_)
  obtain ⟨h0, -⟩ := id h
  obtain ⟨hx1, hx2, hx3, hx4, hx5, hx6, hx7, -⟩ := h.xl
  have hpl := own_le se full pool
  have ho := own_eq hso full pool
  have hst := fun hc => own_stB hso (nm := full) hc pool
  refine xp_aload_0 (pc := 0) hX d_Mod_lose_0 ?_
  refine xp_aload_0 (pc := 1) hX d_Mod_lose_1 ?_
  refine xg_get (pc := 2) hX (j := 7) k_Mod d_Mod_lose_2 l_Mod_95 (by decide) (by first | assumption | exact xup_s _ _ _ | exact xup_o (by omega) (by assumption) | exact xup_o (by omega) (xup_s _ _ _) | exact xup_o (by omega) (xup_o (by omega) (by assumption)) | exact xup_o (by omega) (xup_o (by omega) (xup_s _ _ _)) | exact xup_o (by omega) (xup_o (by omega) (xup_o (by omega) (by assumption)))) (by rfl) ?_
  refine xp_aload_0 (pc := 5) hX d_Mod_lose_5 ?_
  refine xg_get (pc := 6) hX (j := 17) k_Mod d_Mod_lose_6 l_Mod_108 (by decide) (by first | assumption | exact xup_s _ _ _ | exact xup_o (by omega) (by assumption) | exact xup_o (by omega) (xup_s _ _ _) | exact xup_o (by omega) (xup_o (by omega) (by assumption)) | exact xup_o (by omega) (xup_o (by omega) (xup_s _ _ _)) | exact xup_o (by omega) (xup_o (by omega) (xup_o (by omega) (by assumption)))) (by rfl) ?_
  refine xi_V (Y2 := Y_Mod_poolOf) (pc := 9) hX [_, _] k_Mod m_Mod_poolOf d_Mod_lose_9 l_Mod_111 rfl rfl (by simp [Value.category]) (by first | assumption | exact xup_s _ _ _ | exact xup_o (by omega) (by assumption) | exact xup_o (by omega) (xup_s _ _ _) | exact xup_o (by omega) (xup_o (by omega) (by assumption)) | exact xup_o (by omega) (xup_o (by omega) (xup_s _ _ _)) | exact xup_o (by omega) (xup_o (by omega) (xup_o (by omega) (by assumption)))) (c_Mod_poolOf d h (Nat.le_refl _) (Nat.le_refl _)) (by omega) (by omega) ?_
  rintro y M1 ⟨rfl, rfl⟩
  rw [List.take_length, ← ho]
  generalize own se full pool = p at *
  refine xp_istore_1 (pc := 12) hX d_Mod_lose_12 (by decide) ?_
  refine xp_aload_0 (pc := 13) hX d_Mod_lose_13 ?_
  refine xi_V (Y2 := Y_Mod_stem) (pc := 14) hX [] k_Mod m_Mod_stem d_Mod_lose_14 l_Mod_118 rfl rfl (by simp [Value.category]) (by first | assumption | exact xup_s _ _ _ | exact xup_o (by omega) (by assumption) | exact xup_o (by omega) (xup_s _ _ _) | exact xup_o (by omega) (xup_o (by omega) (by assumption)) | exact xup_o (by omega) (xup_o (by omega) (xup_s _ _ _)) | exact xup_o (by omega) (xup_o (by omega) (xup_o (by omega) (by assumption)))) (c_Mod_stem (d + 1) h) (by omega) (by omega) ?_
  rintro y M2 ⟨rfl, rfl⟩
  have hsl : stN full ≤ full.length := by unfold stN; split <;> omega
  have k31 : ∀ (M1 : xH) (v3 v4 : Option Value), Wd M1 O t x out full (clE es p full) pool se sub fd fr bg wr nx kd fi la va → FrO M2 M1 O → xG K 31 [some (.ref O), some (.int (nI p)), some (.int (nI (stN full))), v3, v4] [] M1 sz 0 0 := by
    intro M1 v3 v4 w1 f1
    have hg1 : gI (clE es p full) := gI_clE hgI
    have hD : dropE es se p full = (match stI (clE es p full) se p full with | some _ => putE (clE es p full) p full none | none => some (match eIdx (clE es p full) p full with | none => clE es p full | some i => (clE es p full).eraseIdx i)) := rfl
    have hS : stI (clE es p full) se p full = if isCo full then eIdx (clE es p full) p (stB full) else none := by
      unfold stI
      cases hc : isCo full with
      | false => rfl
      | true => rw [if_pos rfl, if_pos rfl, hst hc]
    generalize clE es p full = es1 at *
    obtain ⟨h0, -⟩ := id w1
    have hes1 := w1.xl.2.2.2.2.1
    -- no stem that is given
    have k75n : ∀ (v4 : Option Value), stI es1 se p full = none → xG K 75 [some (.ref O), some (.int (nI p)), some (.int (nI (stN full))), some (.int (nI 0)), v4] [] M1 sz 0 0 := by
      intro v4 hs
      rw [hs] at hD
      dsimp only at hD
      refine xp_iload_3 (pc := 75) hX d_Mod_lose_75 ?_
      refine xn_if_eq (a := 0) (pc := 76) hX 104 d_Mod_lose_76 (by decide) (by decide) (fun _ => ?_) (fun z => absurd z (by decide))
      refine xp_aload_0 (pc := 104) hX d_Mod_lose_104 ?_
      refine xp_iload_1 (pc := 105) hX d_Mod_lose_105 ?_
      refine xp_aload_0 (pc := 106) hX d_Mod_lose_106 ?_
      refine xg_get (pc := 107) hX (j := 7) k_Mod d_Mod_lose_107 l_Mod_95 (by decide) (by first | assumption | exact xup_s _ _ _ | exact xup_o (by omega) (by assumption) | exact xup_o (by omega) (xup_s _ _ _) | exact xup_o (by omega) (xup_o (by omega) (by assumption)) | exact xup_o (by omega) (xup_o (by omega) (xup_s _ _ _)) | exact xup_o (by omega) (xup_o (by omega) (xup_o (by omega) (by assumption)))) (by rfl) ?_
      refine xi_V (Y2 := Y_Mod_entry) (pc := 110) hX [_, _] k_Mod m_Mod_entry d_Mod_lose_110 l_Mod_115 rfl rfl (by simp [Value.category]) (by first | assumption | exact xup_s _ _ _ | exact xup_o (by omega) (by assumption) | exact xup_o (by omega) (xup_s _ _ _) | exact xup_o (by omega) (xup_o (by omega) (by assumption)) | exact xup_o (by omega) (xup_o (by omega) (xup_s _ _ _)) | exact xup_o (by omega) (xup_o (by omega) (xup_o (by omega) (by assumption)))) (c_Mod_entry (d + 1) w1 (Nat.le_refl _) (by omega)) (by omega) (by omega) ?_
      rintro y M3 ⟨rfl, rfl⟩
      rw [List.take_length]
      refine xp_istore_4 (pc := 113) hX d_Mod_lose_113 (by decide) ?_
      refine xp_iload_4 (pc := 115) hX d_Mod_lose_115 ?_
      refine xg_iconst (pc := 117) hX (-1) d_Mod_lose_117 ci_iconst_m1 ?_
      cases hi : eIdx es1 p full with
      | none =>
        rw [hi] at hD
        refine xg_icmp_eq (pc := 118) hX 127 d_Mod_lose_118 (by decide) (fun _ => ?_) (fun z => absurd rfl z)
        refine xg_iconst (pc := 127) hX (nI 1) d_Mod_lose_127 ci_iconst_1 ?_
        refine xg_iret (pc := 128) hX hE d_Mod_lose_128 rfl rfl (by omega) (by omega) ?_
        exact ⟨rfl, _, rfl, Or.inl ⟨_, hD, rfl, w1⟩, f1⟩
      | some k =>
        rw [hi] at hD
        have hk := eIdx_lt hi
        refine xg_icmp_eq (pc := 118) hX 127 d_Mod_lose_118 (by decide) (fun z => absurd z (nI_nm1 (by omega))) (fun _ => ?_)
        refine xp_aload_0 (pc := 121) hX d_Mod_lose_121 ?_
        refine xp_iload_4 (x := nI k) (pc := 122) hX d_Mod_lose_122 ?_
        refine xv_V (Y2 := Y_Mod_remove) (pc := 124) hX [_] k_Mod m_Mod_remove d_Mod_lose_124 l_Mod_134 rfl rfl (by simp [Value.category]) (by first | assumption | exact xup_s _ _ _ | exact xup_o (by omega) (by assumption) | exact xup_o (by omega) (xup_s _ _ _) | exact xup_o (by omega) (xup_o (by omega) (by assumption)) | exact xup_o (by omega) (xup_o (by omega) (xup_s _ _ _)) | exact xup_o (by omega) (xup_o (by omega) (xup_o (by omega) (by assumption)))) (c_Mod_remove (d + 1) w1 hk) (by omega) (by omega) ?_
        rintro M4 ⟨a1, a2⟩
        refine xg_iconst (pc := 127) hX (nI 1) d_Mod_lose_127 ci_iconst_1 ?_
        refine xg_iret (pc := 128) hX hE d_Mod_lose_128 rfl rfl (by omega) (by omega) ?_
        exact ⟨rfl, _, rfl, Or.inl ⟨_, hD, rfl, a1⟩, f1.tr a2⟩
    -- a stem that is given
    have k75s : ∀ (v4 : Option Value) (i : Nat), stI es1 se p full = some i → xG K 75 [some (.ref O), some (.int (nI p)), some (.int (nI (stN full))), some (.int (nI 1)), v4] [] M1 sz 0 0 := by
      intro v4 i hs
      rw [hs] at hD
      dsimp only at hD
      refine xp_iload_3 (pc := 75) hX d_Mod_lose_75 ?_
      refine xn_if_eq (a := 1) (pc := 76) hX 104 d_Mod_lose_76 (by decide) (by decide) (fun z => absurd z (by decide)) (fun _ => ?_)
      refine xp_aload_0 (pc := 79) hX d_Mod_lose_79 ?_
      refine xp_iload_1 (pc := 80) hX d_Mod_lose_80 ?_
      refine xi_V (Y2 := Y_Mod_place) (pc := 81) hX [_] k_Mod m_Mod_place d_Mod_lose_81 l_Mod_140 rfl rfl (by simp [Value.category]) (by first | assumption | exact xup_s _ _ _ | exact xup_o (by omega) (by assumption) | exact xup_o (by omega) (xup_s _ _ _) | exact xup_o (by omega) (xup_o (by omega) (by assumption)) | exact xup_o (by omega) (xup_o (by omega) (xup_s _ _ _)) | exact xup_o (by omega) (xup_o (by omega) (xup_o (by omega) (by assumption)))) (c_Mod_place d w1 (by omega) hl) (by omega) (by omega) ?_
      rintro y M3 (⟨k, es', vo, rfl, e1, e2, e3, e4, ⟨-, fn, fz, fv, fvz, fp, h5, h6, h7, h8, h9, h10⟩, e6⟩ | ⟨rfl, rfl, e1⟩)
      · have hk := (List.getElem?_eq_some_iff.mp e1).1
        rw [e3] at hD
        refine xp_istore_4 (pc := 84) hX d_Mod_lose_84 (by decide) ?_
        refine xp_iload_4 (pc := 86) hX d_Mod_lose_86 ?_
        refine xg_iconst (pc := 88) hX (-1) d_Mod_lose_88 ci_iconst_m1 ?_
        refine xg_icmp_ne (pc := 89) hX 94 d_Mod_lose_89 (by decide) (fun _ => ?_) (fun z => absurd z (nI_nm1 (by omega)))
        refine xp_aload_0 (pc := 94) hX d_Mod_lose_94 ?_
        refine xg_get (pc := 95) hX (j := 11) k_Mod d_Mod_lose_95 l_Mod_31 (by decide) (by first | assumption | exact xup_s _ _ _ | exact xup_o (by omega) (by assumption) | exact xup_o (by omega) (xup_s _ _ _) | exact xup_o (by omega) (xup_o (by omega) (by assumption)) | exact xup_o (by omega) (xup_o (by omega) (xup_s _ _ _)) | exact xup_o (by omega) (xup_o (by omega) (xup_o (by omega) (by assumption)))) (by rfl) ?_
        refine xp_iload_4 (pc := 98) hX d_Mod_lose_98 ?_
        refine xg_iconst (pc := 100) hX (-1) d_Mod_lose_100 ci_iconst_m1 ?_
        refine xn_iast (pc := 101) hX d_Mod_lose_101 rfl (by first | assumption | exact xup_s _ _ _ | exact xup_o (by omega) (by assumption) | exact xup_o (by omega) (xup_s _ _ _) | exact xup_o (by omega) (xup_o (by omega) (by assumption)) | exact xup_o (by omega) (xup_o (by omega) (xup_s _ _ _)) | exact xup_o (by omega) (xup_o (by omega) (xup_o (by omega) (by assumption)))) (by omega) (by omega) ?_
        refine xg_iconst (pc := 102) hX (nI 1) d_Mod_lose_102 ci_iconst_1 ?_
        refine xg_iret (pc := 103) hX hE d_Mod_lose_103 rfl rfl (by omega) (by omega) ?_
        refine ⟨rfl, _, rfl, Or.inl ⟨_, hD, rfl, w1.sn (es' := es'.set k (p, full, none)) ?_ ⟨by rw [List.length_set]; exact e2, fn, fz, fv, upd fvz k (-1), fp, ?_, ?_, ?_, ?_, ?_, fun j e he => ?_⟩ (fun q a b => ?_)⟩, f1.tr (fun q hq1 => ?_)⟩
        · rw [xup_n _ _ (by omega), e4]
          simp only [moC, List.length_set]
        · rw [xup_n _ _ (by omega)]; exact h5
        · rw [xup_n _ _ (by omega)]; exact h6
        · rw [xup_n _ _ (by omega)]; exact h7
        · rw [xup_s]
        · rw [xup_n _ _ (by omega)]; exact h9
        · by_cases hj : k = j
          · subst hj
            rw [List.getElem?_set_self hk] at he
            cases he
            obtain ⟨w2, -⟩ := h10 k _ e1
            exact ⟨w2, fun _ => ⟨by rw [pk_us]; rfl, fun u hu => by cases hu⟩⟩
          · rw [List.getElem?_set_ne hj] at he
            obtain ⟨w2, w3⟩ := h10 j e he
            exact ⟨w2, fun _ => (w3 (fun q => hj q.symm)).moved (pk_un (fun q => hj q.symm)) (fun q hq1 => rfl)⟩
        · rw [xup_n _ _ (by omega)]; exact e6 q a b
        · rw [xup_n _ _ (by omega)]; exact e6 q (by omega) (by omega)
      · rw [e1] at hD
        refine xp_istore_4 (pc := 84) hX d_Mod_lose_84 (by decide) ?_
        refine xp_iload_4 (pc := 86) hX d_Mod_lose_86 ?_
        refine xg_iconst (pc := 88) hX (-1) d_Mod_lose_88 ci_iconst_m1 ?_
        refine xg_icmp_ne (pc := 89) hX 94 d_Mod_lose_89 (by decide) (fun z => absurd rfl z) (fun _ => ?_)
        refine xg_iconst (pc := 92) hX (nI 0) d_Mod_lose_92 ci_iconst_0 ?_
        refine xg_iret (pc := 93) hX hE d_Mod_lose_93 rfl rfl (by omega) (by omega) ?_
        exact ⟨rfl, _, rfl, Or.inr ⟨hD, rfl, w1⟩, f1⟩
    refine xg_iconst (pc := 31) hX (nI 0) d_Mod_lose_31 ci_iconst_0 ?_
    refine xp_istore_3 (pc := 32) hX d_Mod_lose_32 (by decide) ?_
    refine xp_iload_2 (pc := 33) hX d_Mod_lose_33 ?_
    cases hc : isCo full with
    | false =>
      rw [hc] at hS
      refine xn_if_le (pc := 34) hX 75 d_Mod_lose_34 (by decide) (by omega) (fun _ => k75n _ hS) (fun z => ?_)
      refine xp_iload_2 (pc := 37) hX d_Mod_lose_37 ?_
      refine xp_aload_0 (pc := 38) hX d_Mod_lose_38 ?_
      refine xg_get (pc := 39) hX (j := 7) k_Mod d_Mod_lose_39 l_Mod_95 (by decide) (by first | assumption | exact xup_s _ _ _ | exact xup_o (by omega) (by assumption) | exact xup_o (by omega) (xup_s _ _ _) | exact xup_o (by omega) (xup_o (by omega) (by assumption)) | exact xup_o (by omega) (xup_o (by omega) (xup_s _ _ _)) | exact xup_o (by omega) (xup_o (by omega) (xup_o (by omega) (by assumption)))) (by rfl) ?_
      exact xn_icmp_ge (pc := 42) hX 75 d_Mod_lose_42 (by decide) (by omega) (by omega) (fun _ => k75n _ hS) (fun z1 => absurd (stN_nco hc) (by omega))
    | true =>
      rw [hc, if_pos rfl] at hS
      obtain ⟨c1, c2, c3⟩ := stN_co hc
      refine xn_if_le (pc := 34) hX 75 d_Mod_lose_34 (by decide) (by omega) (fun z => absurd z (by omega)) (fun _ => ?_)
      refine xp_iload_2 (pc := 37) hX d_Mod_lose_37 ?_
      refine xp_aload_0 (pc := 38) hX d_Mod_lose_38 ?_
      refine xg_get (pc := 39) hX (j := 7) k_Mod d_Mod_lose_39 l_Mod_95 (by decide) (by first | assumption | exact xup_s _ _ _ | exact xup_o (by omega) (by assumption) | exact xup_o (by omega) (xup_s _ _ _) | exact xup_o (by omega) (xup_o (by omega) (by assumption)) | exact xup_o (by omega) (xup_o (by omega) (xup_s _ _ _)) | exact xup_o (by omega) (xup_o (by omega) (xup_o (by omega) (by assumption)))) (by rfl) ?_
      refine xn_icmp_ge (pc := 42) hX 75 d_Mod_lose_42 (by decide) (by omega) (by omega) (fun z => absurd z (by omega)) (fun _ => ?_)
      refine xp_aload_0 (pc := 45) hX d_Mod_lose_45 ?_
      refine xp_iload_1 (pc := 46) hX d_Mod_lose_46 ?_
      refine xp_iload_2 (pc := 47) hX d_Mod_lose_47 ?_
      refine xi_V (Y2 := Y_Mod_entry) (pc := 48) hX [_, _] k_Mod m_Mod_entry d_Mod_lose_48 l_Mod_115 rfl rfl (by simp [Value.category]) (by first | assumption | exact xup_s _ _ _ | exact xup_o (by omega) (by assumption) | exact xup_o (by omega) (xup_s _ _ _) | exact xup_o (by omega) (xup_o (by omega) (by assumption)) | exact xup_o (by omega) (xup_o (by omega) (xup_s _ _ _)) | exact xup_o (by omega) (xup_o (by omega) (xup_o (by omega) (by assumption)))) (c_Mod_entry (d + 1) w1 hsl (by omega)) (by omega) (by omega) ?_
      rintro y M3 ⟨rfl, rfl⟩
      have hstb : full.take (stN full) = stB full := by rw [c1]; rfl
      rw [hstb]
      refine xp_istore_4 (pc := 51) hX d_Mod_lose_51 (by decide) ?_
      refine xp_iload_4 (pc := 53) hX d_Mod_lose_53 ?_
      refine xg_iconst (pc := 55) hX (-1) d_Mod_lose_55 ci_iconst_m1 ?_
      cases hi : eIdx es1 p (stB full) with
      | none =>
        refine xg_icmp_eq (pc := 56) hX 73 d_Mod_lose_56 (by decide) (fun _ => ?_) (fun z => absurd rfl z)
        refine xg_iconst (pc := 73) hX (nI 0) d_Mod_lose_73 ci_iconst_0 ?_
        refine xp_istore_3 (pc := 74) hX d_Mod_lose_74 (by decide) ?_
        exact k75n _ (by rw [hS, hi])
      | some i =>
        obtain ⟨vo, hvo⟩ := eIdx_get hi
        have hil := (List.getElem?_eq_some_iff.mp hvo).1
        obtain ⟨-, -, -, -, -, ⟨-, fn, fz, fv, fvz, fp, h5, h6, h7, h8, h9, h10⟩, -⟩ := id w1
        obtain ⟨v1, v2⟩ := (h10 i _ hvo).2 trivial
        dsimp only at v1 v2
        refine xg_icmp_eq (pc := 56) hX 73 d_Mod_lose_56 (by decide) (fun z => absurd z (nI_nm1 (by omega))) (fun _ => ?_)
        refine xp_aload_0 (pc := 59) hX d_Mod_lose_59 ?_
        refine xg_get (pc := 60) hX (j := 11) k_Mod d_Mod_lose_60 l_Mod_31 (by decide) (by first | assumption | exact xup_s _ _ _ | exact xup_o (by omega) (by assumption) | exact xup_o (by omega) (xup_s _ _ _) | exact xup_o (by omega) (xup_o (by omega) (by assumption)) | exact xup_o (by omega) (xup_o (by omega) (xup_s _ _ _)) | exact xup_o (by omega) (xup_o (by omega) (xup_o (by omega) (by assumption)))) (by rfl) ?_
        refine xp_iload_4 (x := nI i) (pc := 63) hX d_Mod_lose_63 ?_
        refine xn_iald (pc := 65) hX d_Mod_lose_65 rfl (by first | assumption | exact xup_s _ _ _ | exact xup_o (by omega) (by assumption) | exact xup_o (by omega) (xup_s _ _ _) | exact xup_o (by omega) (xup_o (by omega) (by assumption)) | exact xup_o (by omega) (xup_o (by omega) (xup_s _ _ _)) | exact xup_o (by omega) (xup_o (by omega) (xup_o (by omega) (by assumption)))) (by omega) (by omega) ?_
        rw [v1]
        cases vo with
        | none =>
          have := hg1 _ (List.mem_of_getElem? hvo) rfl
          rw [stB_co] at this
          cases this
        | some u =>
          have := (v2 u rfl).1
          refine xn_if_lt (a := u.length) (pc := 66) hX 73 d_Mod_lose_66 (by decide) (by omega) ?_
          refine xg_iconst (pc := 69) hX (nI 1) d_Mod_lose_69 ci_iconst_1 ?_
          refine xg_goto (pc := 70) hX 74 d_Mod_lose_70 (by decide) ?_
          refine xp_istore_3 (pc := 74) hX d_Mod_lose_74 (by decide) ?_
          exact k75s _ i (by rw [hS, hi])
  refine xp_istore_2 (pc := 17) hX d_Mod_lose_17 (by decide) ?_
  refine xp_iload_2 (pc := 18) hX d_Mod_lose_18 ?_
  refine xp_aload_0 (pc := 19) hX d_Mod_lose_19 ?_
  refine xg_get (pc := 20) hX (j := 7) k_Mod d_Mod_lose_20 l_Mod_95 (by decide) (by first | assumption | exact xup_s _ _ _ | exact xup_o (by omega) (by assumption) | exact xup_o (by omega) (xup_s _ _ _) | exact xup_o (by omega) (xup_o (by omega) (by assumption)) | exact xup_o (by omega) (xup_o (by omega) (xup_s _ _ _)) | exact xup_o (by omega) (xup_o (by omega) (xup_o (by omega) (by assumption)))) (by rfl) ?_
  refine xn_icmp_ne (pc := 23) hX 31 d_Mod_lose_23 (by decide) (by omega) (by omega) (fun z => ?_) (fun z => ?_)
  · refine k31 M2 _ _ ?_ (FrO.rf _ _)
    unfold clE
    rw [if_neg (fun q => z ((stN_st hf1).mp q))]
    exact h
  · refine xp_aload_0 (pc := 26) hX d_Mod_lose_26 ?_
    refine xp_iload_1 (pc := 27) hX d_Mod_lose_27 ?_
    refine xv_V (Y2 := Y_Mod_clear) (pc := 28) hX [_] k_Mod m_Mod_clear d_Mod_lose_28 l_Mod_137 rfl rfl (by simp [Value.category]) (by first | assumption | exact xup_s _ _ _ | exact xup_o (by omega) (by assumption) | exact xup_o (by omega) (xup_s _ _ _) | exact xup_o (by omega) (xup_o (by omega) (by assumption)) | exact xup_o (by omega) (xup_o (by omega) (xup_s _ _ _)) | exact xup_o (by omega) (xup_o (by omega) (xup_o (by omega) (by assumption)))) (c_Mod_clear d h (by omega)) (by omega) (by omega) ?_
    rintro M3 ⟨a1, a2⟩
    refine k31 M3 _ _ ?_ a2
    unfold clE
    rw [if_pos ((stN_st hf1).mpr z)]
    exact a1
end XM11
