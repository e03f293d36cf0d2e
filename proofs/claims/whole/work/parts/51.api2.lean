/-! the room's calls: name, value, count -/
theorem NW.ent {M : xH} {B : Nat} {full : List UInt8} {g : Nat → Nat} {L : Nat → xEn × Bool} {es : List xEn} {dp : Nat} {se : List xSe} (h : NW M B full g L es dp se) {j : Nat} {e : xEn} (he : es[j]? = some e) : EnA M (B + 17 + 2 + 5 * g j) (e, false) ∧ g j < 100 := by
  obtain ⟨-, -, -, -, n5, -⟩ := h
  have hj := (List.getElem?_eq_some_iff.mp he).1
  have h100 := n5.1.2.1
  have := n5.1.2.2.2.2.2 j (by omega)
  rw [n5.2 j e he] at this
  exact ⟨this, n5.1.2.2.2.1 j (by omega)⟩
theorem rIx_some {n i : Nat} {x : Int32} (h : rIx n x = some i) : i < n := by
  unfold rIx at h
  split at h
  · cases h
  · split at h
    · cases h; assumption
    · cases h
set_option maxHeartbeats 4000000 in
set_option maxRecDepth 100000 in
theorem a_name (d : Nat) {M : xH} {sz B : Nat} {S : xS} (x : Int32) (h : CW M B S) : xC (d + 3) 0 0 Y_Nam_name [.ref B, .int x] M sz (qi sz (fun y M' => y = (sName x S).1 ∧ CW M' B (sName x S).2 ∧ FrB M M' B)) := by
  obtain ⟨t, out, es, dp, se, sub, fr, bg⟩ := S
  refine xC_of (by decide) (Nat.le_of_ble_eq_true rfl) (by simp [Value.category]) (vs := [some (.ref B), some (.int x), none]) rfl (fun K hX hE => ?_)
  obtain ⟨⟨full, g, L, nw⟩, tk, tg, pos, ans, pf, pt, xw⟩ := id h
  obtain ⟨n1, -, -, -, n5, -⟩ := id nw
  obtain ⟨-, x2, -⟩ := id xw
  obtain ⟨r1, -⟩ := id x2
  obtain ⟨⟨n5', -⟩, -⟩ := id n5
  refine xp_aload_0 (pc := 0) hX d_Nam_name_0 ?_
  refine xg_get (pc := 1) hX (j := 7) k_Nam d_Nam_name_1 l_Nam_46 (by decide) (by first | assumption | exact xup_s _ _ _ | exact xup_o (by omega) (by assumption) | exact xup_o (by omega) (xup_s _ _ _) | exact xup_o (by omega) (xup_o (by omega) (by assumption)) | exact xup_o (by omega) (xup_o (by omega) (xup_s _ _ _)) | exact xup_o (by omega) (xup_o (by omega) (xup_o (by omega) (by assumption)))) (by rfl) ?_
  refine xp_iload_1 (pc := 4) hX d_Nam_name_4 ?_
  refine xr_V (Y2 := Y_She_entryAt) (pc := 5) hX [_] k_She m_She_entryAt d_Nam_name_5 l_Nam_160 rfl rfl (by simp [Value.category]) (by first | assumption | exact xup_s _ _ _ | exact xup_o (by omega) (by assumption) | exact xup_o (by omega) (xup_s _ _ _) | exact xup_o (by omega) (xup_o (by omega) (by assumption)) | exact xup_o (by omega) (xup_o (by omega) (xup_s _ _ _)) | exact xup_o (by omega) (xup_o (by omega) (xup_o (by omega) (by assumption)))) (c_She_entryAt (d + 2) x n5.1) (by omega) (by omega) ?_
  rintro o M1 ⟨rfl, rfl⟩
  cases hi : rIx es.length x with
  | none =>
    have hS : sName x (t, out, es, dp, se, sub, fr, bg) = (-1, (t, out, es, dp, se, sub, fr, bg)) := by
      unfold sName
      dsimp only
      rw [hi]
    rw [hS] at hE
    first | refine xp_astore_2 (pc := 8) hX d_Nam_name_8 (by decide) ?_ | refine xp_astoreN_2 (pc := 8) hX d_Nam_name_8 (by decide) ?_
    refine xp_aloadN_2 (pc := 9) hX d_Nam_name_9 ?_
    refine xg_ifnonnullN (pc := 10) hX d_Nam_name_10 ?_
    refine xg_iconst (pc := 13) hX (-1) d_Nam_name_13 ci_iconst_m1 ?_
    refine xg_iret (pc := 14) hX hE d_Nam_name_14 rfl rfl (by omega) (by omega) ?_
    exact ⟨rfl, _, rfl, rfl, h, FrB.rf _ _⟩
  | some j =>
    have hj := rIx_some hi
    have he : es[j]? = some es[j] := List.getElem?_eq_getElem hj
    obtain ⟨⟨e1, e2, e3, -⟩, hg⟩ := nw.ent he
    generalize es[j] = e at *
    have hS : sName x (t, out, es, dp, se, sub, fr, bg) = (nI e.1, (t, e.2.1, es, dp, se, sub, fr, bg)) := by
      unfold sName
      dsimp only
      rw [hi]
      dsimp only
      rw [he]
    rw [hS] at hE
    first | refine xp_astore_2 (pc := 8) hX d_Nam_name_8 (by decide) ?_ | refine xp_astoreN_2 (pc := 8) hX d_Nam_name_8 (by decide) ?_
    refine xp_aload_2 (pc := 9) hX d_Nam_name_9 ?_
    refine xg_ifnonnull (pc := 10) hX 15 d_Nam_name_10 (by decide) ?_
    refine xp_aload_0 (pc := 15) hX d_Nam_name_15 ?_
    refine xg_get (pc := 16) hX (j := 1) k_Nam d_Nam_name_16 l_Nam_28 (by decide) (by first | assumption | exact xup_s _ _ _ | exact xup_o (by omega) (by assumption) | exact xup_o (by omega) (xup_s _ _ _) | exact xup_o (by omega) (xup_o (by omega) (by assumption)) | exact xup_o (by omega) (xup_o (by omega) (xup_s _ _ _)) | exact xup_o (by omega) (xup_o (by omega) (xup_o (by omega) (by assumption)))) (by rfl) ?_
    refine xp_aload_2 (pc := 19) hX d_Nam_name_19 ?_
    refine xg_get (pc := 20) hX (j := 0) k_Ent d_Nam_name_20 l_Nam_110 (by decide) (by first | assumption | exact xup_s _ _ _ | exact xup_o (by omega) (by assumption) | exact xup_o (by omega) (xup_s _ _ _) | exact xup_o (by omega) (xup_o (by omega) (by assumption)) | exact xup_o (by omega) (xup_o (by omega) (xup_s _ _ _)) | exact xup_o (by omega) (xup_o (by omega) (xup_o (by omega) (by assumption)))) (by rfl) ?_
    refine xv_V (Y2 := Y_Row_become) (pc := 23) hX [_] k_Row m_Row_become d_Nam_name_23 l_Nam_106 rfl rfl (by simp [Value.category]) (by first | assumption | exact xup_s _ _ _ | exact xup_o (by omega) (by assumption) | exact xup_o (by omega) (xup_s _ _ _) | exact xup_o (by omega) (xup_o (by omega) (by assumption)) | exact xup_o (by omega) (xup_o (by omega) (xup_s _ _ _)) | exact xup_o (by omega) (xup_o (by omega) (xup_o (by omega) (by assumption)))) (c_Row_become d x2 e3 (by omega) e3.2.1 (by omega) (by omega)) (by omega) (by omega) ?_
    rintro M2 ⟨a1, a2⟩
    have e1' := (a2 (B + 17 + 2 + 5 * g j) (by omega) (by omega)).trans e1
    refine xp_aload_2 (pc := 26) hX d_Nam_name_26 ?_
    refine xg_get (pc := 27) hX (j := 2) k_Ent d_Nam_name_27 l_Nam_164 (by decide) (by first | assumption | exact xup_s _ _ _ | exact xup_o (by omega) (by assumption) | exact xup_o (by omega) (xup_s _ _ _) | exact xup_o (by omega) (xup_o (by omega) (by assumption)) | exact xup_o (by omega) (xup_o (by omega) (xup_s _ _ _)) | exact xup_o (by omega) (xup_o (by omega) (xup_o (by omega) (by assumption)))) (by rfl) ?_
    refine xg_iret (pc := 30) hX hE d_Nam_name_30 rfl rfl (by omega) (by omega) ?_
    exact ⟨rfl, _, rfl, rfl, ⟨⟨_, _, _, nw.out a2⟩, _, _, _, _, _, _, xw.out a2 a1⟩, FrB.r2 a2 (by omega) (by omega)⟩
set_option maxHeartbeats 4000000 in
set_option maxRecDepth 100000 in
theorem a_value (d : Nat) {M : xH} {sz B : Nat} {S : xS} (x : Int32) (h : CW M B S) : xC (d + 3) 0 0 Y_Nam_value [.ref B, .int x] M sz (qi sz (fun y M' => y = (sValue x S).1 ∧ CW M' B (sValue x S).2 ∧ FrB M M' B)) := by
  obtain ⟨t, out, es, dp, se, sub, fr, bg⟩ := S
  refine xC_of (by decide) (Nat.le_of_ble_eq_true rfl) (by simp [Value.category]) (vs := [some (.ref B), some (.int x), none]) rfl (fun K hX hE => ?_)
  obtain ⟨⟨full, g, L, nw⟩, tk, tg, pos, ans, pf, pt, xw⟩ := id h
  obtain ⟨n1, -, -, -, n5, -⟩ := id nw
  obtain ⟨-, x2, -⟩ := id xw
  obtain ⟨r1, -⟩ := id x2
  obtain ⟨⟨n5', -⟩, -⟩ := id n5
  refine xp_aload_0 (pc := 0) hX d_Nam_value_0 ?_
  refine xg_get (pc := 1) hX (j := 7) k_Nam d_Nam_value_1 l_Nam_46 (by decide) (by first | assumption | exact xup_s _ _ _ | exact xup_o (by omega) (by assumption) | exact xup_o (by omega) (xup_s _ _ _) | exact xup_o (by omega) (xup_o (by omega) (by assumption)) | exact xup_o (by omega) (xup_o (by omega) (xup_s _ _ _)) | exact xup_o (by omega) (xup_o (by omega) (xup_o (by omega) (by assumption)))) (by rfl) ?_
  refine xp_iload_1 (pc := 4) hX d_Nam_value_4 ?_
  refine xr_V (Y2 := Y_She_entryAt) (pc := 5) hX [_] k_She m_She_entryAt d_Nam_value_5 l_Nam_160 rfl rfl (by simp [Value.category]) (by first | assumption | exact xup_s _ _ _ | exact xup_o (by omega) (by assumption) | exact xup_o (by omega) (xup_s _ _ _) | exact xup_o (by omega) (xup_o (by omega) (by assumption)) | exact xup_o (by omega) (xup_o (by omega) (xup_s _ _ _)) | exact xup_o (by omega) (xup_o (by omega) (xup_o (by omega) (by assumption)))) (c_She_entryAt (d + 2) x n5.1) (by omega) (by omega) ?_
  rintro o M1 ⟨rfl, rfl⟩
  cases hi : rIx es.length x with
  | none =>
    have hS : sValue x (t, out, es, dp, se, sub, fr, bg) = (-1, (t, out, es, dp, se, sub, fr, bg)) := by
      unfold sValue
      dsimp only
      rw [hi]
    rw [hS] at hE
    first | refine xp_astore_2 (pc := 8) hX d_Nam_value_8 (by decide) ?_ | refine xp_astoreN_2 (pc := 8) hX d_Nam_value_8 (by decide) ?_
    refine xp_aloadN_2 (pc := 9) hX d_Nam_value_9 ?_
    refine xg_ifnonnullN (pc := 10) hX d_Nam_value_10 ?_
    refine xg_iconst (pc := 13) hX (-1) d_Nam_value_13 ci_iconst_m1 ?_
    refine xg_iret (pc := 14) hX hE d_Nam_value_14 rfl rfl (by omega) (by omega) ?_
    exact ⟨rfl, _, rfl, rfl, h, FrB.rf _ _⟩
  | some j =>
    have hj := rIx_some hi
    have he : es[j]? = some es[j] := List.getElem?_eq_getElem hj
    obtain ⟨⟨e1, e2, e3, v, e4, e5⟩, hg⟩ := nw.ent he
    generalize es[j] = e at *
    obtain ⟨p, nm, vo⟩ := e
    dsimp only at e1 e2 e3 e5
    first | refine xp_astore_2 (pc := 8) hX d_Nam_value_8 (by decide) ?_ | refine xp_astoreN_2 (pc := 8) hX d_Nam_value_8 (by decide) ?_
    refine xp_aload_2 (pc := 9) hX d_Nam_value_9 ?_
    refine xg_ifnonnull (pc := 10) hX 15 d_Nam_value_10 (by decide) ?_
    refine xp_aload_2 (pc := 15) hX d_Nam_value_15 ?_
    refine xg_get (pc := 16) hX (j := 3) k_Ent d_Nam_value_16 l_Nam_167 (by decide) (by first | assumption | exact xup_s _ _ _ | exact xup_o (by omega) (by assumption) | exact xup_o (by omega) (xup_s _ _ _) | exact xup_o (by omega) (xup_o (by omega) (by assumption)) | exact xup_o (by omega) (xup_o (by omega) (xup_s _ _ _)) | exact xup_o (by omega) (xup_o (by omega) (xup_o (by omega) (by assumption)))) (by rfl) ?_
    cases vo with
    | none =>
      have hS : sValue x (t, out, es, dp, se, sub, fr, bg) = (-3, (t, out, es, dp, se, sub, fr, bg)) := by
        unfold sValue
        dsimp only
        rw [hi]
        dsimp only
        rw [he]
      rw [hS] at hE
      refine xg_if_eq (pc := 19) hX 25 d_Nam_value_19 (by decide) (fun z => absurd (bI_eq0.mp z) (by decide)) (fun _ => ?_)
      refine xg_bipush (pc := 22) hX (-3) d_Nam_value_22 ci_bipush_m3 ?_
      refine xg_iret (pc := 24) hX hE d_Nam_value_24 rfl rfl (by omega) (by omega) ?_
      exact ⟨rfl, _, rfl, rfl, h, FrB.rf _ _⟩
    | some u =>
      have hvu := e5 u rfl
      subst hvu
      have hS : sValue x (t, out, es, dp, se, sub, fr, bg) = (nI v.length, (t, v, es, dp, se, sub, fr, bg)) := by
        unfold sValue
        dsimp only
        rw [hi]
        dsimp only
        rw [he]
      rw [hS] at hE
      refine xg_if_eq (pc := 19) hX 25 d_Nam_value_19 (by decide) (fun _ => ?_) (fun z => absurd (show bI false = 0 from by decide) z)
      refine xp_aload_0 (pc := 25) hX d_Nam_value_25 ?_
      refine xg_get (pc := 26) hX (j := 1) k_Nam d_Nam_value_26 l_Nam_28 (by decide) (by first | assumption | exact xup_s _ _ _ | exact xup_o (by omega) (by assumption) | exact xup_o (by omega) (xup_s _ _ _) | exact xup_o (by omega) (xup_o (by omega) (by assumption)) | exact xup_o (by omega) (xup_o (by omega) (xup_s _ _ _)) | exact xup_o (by omega) (xup_o (by omega) (xup_o (by omega) (by assumption)))) (by rfl) ?_
      refine xp_aload_2 (pc := 29) hX d_Nam_value_29 ?_
      refine xg_get (pc := 30) hX (j := 1) k_Ent d_Nam_value_30 l_Nam_171 (by decide) (by first | assumption | exact xup_s _ _ _ | exact xup_o (by omega) (by assumption) | exact xup_o (by omega) (xup_s _ _ _) | exact xup_o (by omega) (xup_o (by omega) (by assumption)) | exact xup_o (by omega) (xup_o (by omega) (xup_s _ _ _)) | exact xup_o (by omega) (xup_o (by omega) (xup_o (by omega) (by assumption)))) (by rfl) ?_
      refine xv_V (Y2 := Y_Row_become) (pc := 33) hX [_] k_Row m_Row_become d_Nam_value_33 l_Nam_106 rfl rfl (by simp [Value.category]) (by first | assumption | exact xup_s _ _ _ | exact xup_o (by omega) (by assumption) | exact xup_o (by omega) (xup_s _ _ _) | exact xup_o (by omega) (xup_o (by omega) (by assumption)) | exact xup_o (by omega) (xup_o (by omega) (xup_s _ _ _)) | exact xup_o (by omega) (xup_o (by omega) (xup_o (by omega) (by assumption)))) (c_Row_become d x2 e4 (by omega) e4.2.1 (by omega) (by omega)) (by omega) (by omega) ?_
      rintro M2 ⟨a1, a2⟩
      obtain ⟨r1, -⟩ := id a1
      have n1' := (a2 B (by omega) (by omega)).trans n1
      refine xp_aload_0 (pc := 36) hX d_Nam_value_36 ?_
      refine xg_get (pc := 37) hX (j := 1) k_Nam d_Nam_value_37 l_Nam_28 (by decide) (by first | assumption | exact xup_s _ _ _ | exact xup_o (by omega) (by assumption) | exact xup_o (by omega) (xup_s _ _ _) | exact xup_o (by omega) (xup_o (by omega) (by assumption)) | exact xup_o (by omega) (xup_o (by omega) (xup_s _ _ _)) | exact xup_o (by omega) (xup_o (by omega) (xup_o (by omega) (by assumption)))) (by rfl) ?_
      refine xg_get (pc := 40) hX (j := 1) k_Row d_Nam_value_40 l_Nam_64 (by decide) (by first | assumption | exact xup_s _ _ _ | exact xup_o (by omega) (by assumption) | exact xup_o (by omega) (xup_s _ _ _) | exact xup_o (by omega) (xup_o (by omega) (by assumption)) | exact xup_o (by omega) (xup_o (by omega) (xup_s _ _ _)) | exact xup_o (by omega) (xup_o (by omega) (xup_o (by omega) (by assumption)))) (by rfl) ?_
      refine xg_iret (pc := 43) hX hE d_Nam_value_43 rfl rfl (by omega) (by omega) ?_
      exact ⟨rfl, _, rfl, rfl, ⟨⟨_, _, _, nw.out a2⟩, _, _, _, _, _, _, xw.out a2 a1⟩, FrB.r2 a2 (by omega) (by omega)⟩
set_option maxHeartbeats 4000000 in
set_option maxRecDepth 100000 in
theorem a_count (d : Nat) {M : xH} {sz B : Nat} {S : xS} (x : Int32) (h : CW M B S) : xC (d + 3) 0 0 Y_Nam_count [.ref B, .int x] M sz (qi sz (fun y M' => y = (sCount x S).1 ∧ CW M' B (sCount x S).2 ∧ FrB M M' B)) := by
  obtain ⟨t, out, es, dp, se, sub, fr, bg⟩ := S
  refine xC_of (by decide) (Nat.le_of_ble_eq_true rfl) (by simp [Value.category]) (vs := [some (.ref B), some (.int x)]) rfl (fun K hX hE => ?_)
  obtain ⟨⟨full, g, L, nw⟩, tk, tg, pos, ans, pf, pt, xw⟩ := id h
  obtain ⟨n1, -, -, -, n5, n6, -⟩ := id nw
  obtain ⟨Sx, ⟨n6', -⟩, -⟩ := id n6
  obtain ⟨-, x2, -, sf, st, hc⟩ := id xw
  obtain ⟨c1, c2⟩ := id hc
  obtain ⟨r1, -⟩ := id x2
  obtain ⟨r2, -⟩ := id c2
  obtain ⟨⟨n5', -⟩, -⟩ := id n5
  have fin : ∀ y, (sCount x (t, out, es, dp, se, sub, fr, bg)).1 = y → xEd 0 0 M sz (qi sz (fun y' M' => y' = y ∧ CW M' B (t, out, es, dp, se, sub, fr, bg) ∧ FrB M M' B)) K := by
    intro y hy
    rw [← hy]
    exact hE
  refine xp_iload_1 (pc := 0) hX d_Nam_count_0 ?_
  by_cases z0 : x = nI 0
  · subst z0
    replace hE := fin _ rfl
    refine xg_tableIn (pc := 1) hX 44 d_Nam_count_1 (by decide) (by decide) (off := 43) (by decide) (by decide) ?_
    refine xp_aload_0 (pc := 44) hX d_Nam_count_44 ?_
    refine xg_get (pc := 45) hX (j := 7) k_Nam d_Nam_count_45 l_Nam_46 (by decide) (by first | assumption | exact xup_s _ _ _ | exact xup_o (by omega) (by assumption) | exact xup_o (by omega) (xup_s _ _ _) | exact xup_o (by omega) (xup_o (by omega) (by assumption)) | exact xup_o (by omega) (xup_o (by omega) (xup_s _ _ _)) | exact xup_o (by omega) (xup_o (by omega) (xup_o (by omega) (by assumption)))) (by rfl) ?_
    refine xg_get (pc := 48) hX (j := 1) k_She d_Nam_count_48 l_Nam_92 (by decide) (by first | assumption | exact xup_s _ _ _ | exact xup_o (by omega) (by assumption) | exact xup_o (by omega) (xup_s _ _ _) | exact xup_o (by omega) (xup_o (by omega) (by assumption)) | exact xup_o (by omega) (xup_o (by omega) (xup_s _ _ _)) | exact xup_o (by omega) (xup_o (by omega) (xup_o (by omega) (by assumption)))) (by rfl) ?_
    refine xg_iret (pc := 51) hX hE d_Nam_count_51 rfl rfl (by omega) (by omega) ?_
    exact ⟨rfl, _, rfl, rfl, h, FrB.rf _ _⟩
  by_cases z1 : x = nI 1
  · subst z1
    replace hE := fin _ rfl
    refine xg_tableIn (pc := 1) hX 52 d_Nam_count_1 (by decide) (by decide) (off := 51) (by decide) (by decide) ?_
    refine xp_aload_0 (pc := 52) hX d_Nam_count_52 ?_
    refine xg_get (pc := 53) hX (j := 8) k_Nam d_Nam_count_53 l_Nam_53 (by decide) (by first | assumption | exact xup_s _ _ _ | exact xup_o (by omega) (by assumption) | exact xup_o (by omega) (xup_s _ _ _) | exact xup_o (by omega) (xup_o (by omega) (by assumption)) | exact xup_o (by omega) (xup_o (by omega) (xup_s _ _ _)) | exact xup_o (by omega) (xup_o (by omega) (xup_o (by omega) (by assumption)))) (by rfl) ?_
    refine xg_get (pc := 56) hX (j := 2) k_Poo d_Nam_count_56 l_Nam_122 (by decide) (by first | assumption | exact xup_s _ _ _ | exact xup_o (by omega) (by assumption) | exact xup_o (by omega) (xup_s _ _ _) | exact xup_o (by omega) (xup_o (by omega) (by assumption)) | exact xup_o (by omega) (xup_o (by omega) (xup_s _ _ _)) | exact xup_o (by omega) (xup_o (by omega) (xup_o (by omega) (by assumption)))) (by rfl) ?_
    refine xg_iret (pc := 59) hX hE d_Nam_count_59 rfl rfl (by omega) (by omega) ?_
    exact ⟨rfl, _, rfl, rfl, h, FrB.rf _ _⟩
  by_cases z2 : x = nI 2
  · subst z2
    replace hE := fin _ rfl
    refine xg_tableIn (pc := 1) hX 60 d_Nam_count_1 (by decide) (by decide) (off := 59) (by decide) (by decide) ?_
    refine xp_aload_0 (pc := 60) hX d_Nam_count_60 ?_
    refine xg_get (pc := 61) hX (j := 8) k_Nam d_Nam_count_61 l_Nam_53 (by decide) (by first | assumption | exact xup_s _ _ _ | exact xup_o (by omega) (by assumption) | exact xup_o (by omega) (xup_s _ _ _) | exact xup_o (by omega) (xup_o (by omega) (by assumption)) | exact xup_o (by omega) (xup_o (by omega) (xup_s _ _ _)) | exact xup_o (by omega) (xup_o (by omega) (xup_o (by omega) (by assumption)))) (by rfl) ?_
    refine xi_V (Y2 := Y_Poo_seenByInnermost) (pc := 64) hX [] k_Poo m_Poo_seenByInnermost d_Nam_count_64 l_Nam_174 rfl rfl (by simp [Value.category]) (by first | assumption | exact xup_s _ _ _ | exact xup_o (by omega) (by assumption) | exact xup_o (by omega) (xup_s _ _ _) | exact xup_o (by omega) (xup_o (by omega) (by assumption)) | exact xup_o (by omega) (xup_o (by omega) (xup_s _ _ _)) | exact xup_o (by omega) (xup_o (by omega) (xup_o (by omega) (by assumption)))) (c_Poo_seenByInnermost (d + 1) n6) (by omega) (by omega) ?_
    rintro y M1 ⟨rfl, rfl⟩
    refine xg_iret (pc := 67) hX hE d_Nam_count_67 rfl rfl (by omega) (by omega) ?_
    exact ⟨rfl, _, rfl, rfl, h, FrB.rf _ _⟩
  by_cases z3 : x = nI 3
  · subst z3
    replace hE := fin _ rfl
    refine xg_tableIn (pc := 1) hX 68 d_Nam_count_1 (by decide) (by decide) (off := 67) (by decide) (by decide) ?_
    refine xp_aload_0 (pc := 68) hX d_Nam_count_68 ?_
    refine xg_get (pc := 69) hX (j := 9) k_Nam d_Nam_count_69 l_Nam_60 (by decide) (by first | assumption | exact xup_s _ _ _ | exact xup_o (by omega) (by assumption) | exact xup_o (by omega) (xup_s _ _ _) | exact xup_o (by omega) (xup_o (by omega) (by assumption)) | exact xup_o (by omega) (xup_o (by omega) (xup_s _ _ _)) | exact xup_o (by omega) (xup_o (by omega) (xup_o (by omega) (by assumption)))) (by rfl) ?_
    refine xg_get (pc := 72) hX (j := 0) k_Cut d_Nam_count_72 l_Nam_177 (by decide) (by first | assumption | exact xup_s _ _ _ | exact xup_o (by omega) (by assumption) | exact xup_o (by omega) (xup_s _ _ _) | exact xup_o (by omega) (xup_o (by omega) (by assumption)) | exact xup_o (by omega) (xup_o (by omega) (xup_s _ _ _)) | exact xup_o (by omega) (xup_o (by omega) (xup_o (by omega) (by assumption)))) (by rfl) ?_
    refine xg_get (pc := 75) hX (j := 1) k_Row d_Nam_count_75 l_Nam_64 (by decide) (by first | assumption | exact xup_s _ _ _ | exact xup_o (by omega) (by assumption) | exact xup_o (by omega) (xup_s _ _ _) | exact xup_o (by omega) (xup_o (by omega) (by assumption)) | exact xup_o (by omega) (xup_o (by omega) (xup_s _ _ _)) | exact xup_o (by omega) (xup_o (by omega) (xup_o (by omega) (by assumption)))) (by rfl) ?_
    refine xg_iret (pc := 78) hX hE d_Nam_count_78 rfl rfl (by omega) (by omega) ?_
    exact ⟨rfl, _, rfl, rfl, h, FrB.rf _ _⟩
  by_cases z4 : x = nI 4
  · subst z4
    replace hE := fin _ rfl
    refine xg_tableIn (pc := 1) hX 79 d_Nam_count_1 (by decide) (by decide) (off := 78) (by decide) (by decide) ?_
    refine xp_aload_0 (pc := 79) hX d_Nam_count_79 ?_
    refine xg_get (pc := 80) hX (j := 1) k_Nam d_Nam_count_80 l_Nam_28 (by decide) (by first | assumption | exact xup_s _ _ _ | exact xup_o (by omega) (by assumption) | exact xup_o (by omega) (xup_s _ _ _) | exact xup_o (by omega) (xup_o (by omega) (by assumption)) | exact xup_o (by omega) (xup_o (by omega) (xup_s _ _ _)) | exact xup_o (by omega) (xup_o (by omega) (xup_o (by omega) (by assumption)))) (by rfl) ?_
    refine xg_get (pc := 83) hX (j := 1) k_Row d_Nam_count_83 l_Nam_64 (by decide) (by first | assumption | exact xup_s _ _ _ | exact xup_o (by omega) (by assumption) | exact xup_o (by omega) (xup_s _ _ _) | exact xup_o (by omega) (xup_o (by omega) (by assumption)) | exact xup_o (by omega) (xup_o (by omega) (xup_s _ _ _)) | exact xup_o (by omega) (xup_o (by omega) (xup_o (by omega) (by assumption)))) (by rfl) ?_
    refine xg_iret (pc := 86) hX hE d_Nam_count_86 rfl rfl (by omega) (by omega) ?_
    exact ⟨rfl, _, rfl, rfl, h, FrB.rf _ _⟩
  by_cases z5 : x = nI 5
  · subst z5
    replace hE := fin _ rfl
    refine xg_tableIn (pc := 1) hX 87 d_Nam_count_1 (by decide) (by decide) (off := 86) (by decide) (by decide) ?_
    refine xp_aload_0 (pc := 87) hX d_Nam_count_87 ?_
    refine xg_get (pc := 88) hX (j := 9) k_Nam d_Nam_count_88 l_Nam_60 (by decide) (by first | assumption | exact xup_s _ _ _ | exact xup_o (by omega) (by assumption) | exact xup_o (by omega) (xup_s _ _ _) | exact xup_o (by omega) (xup_o (by omega) (by assumption)) | exact xup_o (by omega) (xup_o (by omega) (xup_s _ _ _)) | exact xup_o (by omega) (xup_o (by omega) (xup_o (by omega) (by assumption)))) (by rfl) ?_
    refine xg_get (pc := 91) hX (j := 1) k_Cut d_Nam_count_91 l_Nam_180 (by decide) (by first | assumption | exact xup_s _ _ _ | exact xup_o (by omega) (by assumption) | exact xup_o (by omega) (xup_s _ _ _) | exact xup_o (by omega) (xup_o (by omega) (by assumption)) | exact xup_o (by omega) (xup_o (by omega) (xup_s _ _ _)) | exact xup_o (by omega) (xup_o (by omega) (xup_o (by omega) (by assumption)))) (by rfl) ?_
    refine xg_iret (pc := 94) hX hE d_Nam_count_94 rfl rfl (by omega) (by omega) ?_
    exact ⟨rfl, _, rfl, rfl, h, FrB.rf _ _⟩
  by_cases z6 : x = nI 6
  · subst z6
    replace hE := fin _ rfl
    refine xg_tableIn (pc := 1) hX 95 d_Nam_count_1 (by decide) (by decide) (off := 94) (by decide) (by decide) ?_
    refine xp_aload_0 (pc := 95) hX d_Nam_count_95 ?_
    refine xg_get (pc := 96) hX (j := 9) k_Nam d_Nam_count_96 l_Nam_60 (by decide) (by first | assumption | exact xup_s _ _ _ | exact xup_o (by omega) (by assumption) | exact xup_o (by omega) (xup_s _ _ _) | exact xup_o (by omega) (xup_o (by omega) (by assumption)) | exact xup_o (by omega) (xup_o (by omega) (xup_s _ _ _)) | exact xup_o (by omega) (xup_o (by omega) (xup_o (by omega) (by assumption)))) (by rfl) ?_
    refine xg_get (pc := 99) hX (j := 2) k_Cut d_Nam_count_99 l_Nam_183 (by decide) (by first | assumption | exact xup_s _ _ _ | exact xup_o (by omega) (by assumption) | exact xup_o (by omega) (xup_s _ _ _) | exact xup_o (by omega) (xup_o (by omega) (by assumption)) | exact xup_o (by omega) (xup_o (by omega) (xup_s _ _ _)) | exact xup_o (by omega) (xup_o (by omega) (xup_o (by omega) (by assumption)))) (by rfl) ?_
    refine xg_iret (pc := 102) hX hE d_Nam_count_102 rfl rfl (by omega) (by omega) ?_
    exact ⟨rfl, _, rfl, rfl, h, FrB.rf _ _⟩
  have hne : ∀ k : Nat, k ≤ 6 → x.toInt ≠ k := by
    intro k hk hx
    have hx2 : x = nI k := by
      rw [← Int32.toInt_inj, hx]
      exact (nI_toInt (by omega)).symm
    rcases (show k = 0 ∨ k = 1 ∨ k = 2 ∨ k = 3 ∨ k = 4 ∨ k = 5 ∨ k = 6 by omega) with rfl | rfl | rfl | rfl | rfl | rfl | rfl <;> contradiction
  have hS : (sCount x (t, out, es, dp, se, sub, fr, bg)).1 = -1 := by
    unfold sCount
    dsimp only
    rw [if_neg z0, if_neg z1, if_neg z2, if_neg z3, if_neg z4, if_neg z5, if_neg z6]
  replace hE := fin _ hS
  refine xg_tableOut (pc := 1) hX 103 d_Nam_count_1 (by
    have := hne 0 (by omega)
    have := hne 1 (by omega)
    have := hne 2 (by omega)
    have := hne 3 (by omega)
    have := hne 4 (by omega)
    have := hne 5 (by omega)
    have := hne 6 (by omega)
    omega) (by decide) ?_
  refine xg_iconst (pc := 103) hX (-1) d_Nam_count_103 ci_iconst_m1 ?_
  refine xg_iret (pc := 104) hX hE d_Nam_count_104 rfl rfl (by omega) (by omega) ?_
  exact ⟨rfl, _, rfl, rfl, h, FrB.rf _ _⟩
