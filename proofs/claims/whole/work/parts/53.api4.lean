/-! get, known, drop, open, parse -/
theorem tellI_lt {es : List xEn} {se : List xSe} {ip j : Nat} {nm : List UInt8} (hg : gI es) (h : tellI es se ip nm = some j) : j < es.length := by
  obtain ⟨e, u, w1, -⟩ := tellI_some hg h
  exact (List.getElem?_eq_some_iff.mp w1).1
theorem NW.toldRow {M : xH} {B : Nat} {nm : List UInt8} {g : Nat → Nat} {L : Nat → xEn × Bool} {es : List xEn} {dp : Nat} {se : List xSe} (h : NW M B nm g L es dp se) (hgI : gI es) : ∃ r, txA B g (tellI es se (dp - 1) nm) = r ∧ (r = B + 9 ∨ B + 17 ≤ r) ∧ RowAt M r 200 (tellT es se (dp - 1) nm) := by
  refine ⟨_, rfl, ?_, ?_⟩
  · cases htI : tellI es se (dp - 1) nm with
    | none => left; rfl
    | some j => right; show B + 17 ≤ B + 17 + 2 + 5 * g j + 3; omega
  · cases htI : tellI es se (dp - 1) nm with
    | none =>
      have e1 : tellT es se (dp - 1) nm = nm := by unfold tellT; rw [htI]
      rw [e1]; exact h.2.1
    | some j =>
      obtain ⟨e, u, w1, w2⟩ := tellI_some hgI htI
      have e1 : tellT es se (dp - 1) nm = u := by
        unfold tellT; rw [htI]; dsimp only; rw [w1]; dsimp only; rw [w2]; rfl
      rw [e1]
      obtain ⟨⟨-, -, -, v, w4, w5⟩, -⟩ := h.ent w1
      rw [← w5 u w2]
      exact w4
set_option maxHeartbeats 4000000 in
set_option maxRecDepth 100000 in
theorem a_get (d : Nat) {M : xH} {sz B : Nat} {S : xS} (h : CW M B S) (hI : Inv S) : xC (d + 6) 0 0 Y_Nam_get [.ref B] M sz (qi sz (fun y M' => y = (sGet S).1 ∧ CW M' B (sGet S).2 ∧ FrB M M' B)) := by
  obtain ⟨t, out, es, dp, se, sub, fr, bg⟩ := S
  refine xC_of (by decide) (Nat.le_of_ble_eq_true rfl) (by simp [Value.category]) (vs := [some (.ref B), none]) rfl (fun K hX hE => ?_)
  obtain ⟨⟨full, g, L, nw⟩, tk, tg, pos, ans, pf, pt, xw⟩ := id h
  obtain ⟨hgI, -⟩ := hI
  obtain ⟨n1, -⟩ := id nw
  obtain ⟨hr, -⟩ := id xw
  have htl : t.length ≤ 600 := hr.2.1.2.1
  refine xp_aload_0 (pc := 0) hX d_Nam_get_0 ?_
  refine xi_V (Y2 := Y_Nam_workOutAlone) (pc := 1) hX [] k_Nam m_Nam_workOutAlone d_Nam_get_1 l_Nam_95 rfl rfl (by simp [Value.category]) (by first | assumption | exact xup_s _ _ _ | exact xup_o (by omega) (by assumption) | exact xup_o (by omega) (xup_s _ _ _) | exact xup_o (by omega) (xup_o (by omega) (by assumption)) | exact xup_o (by omega) (xup_o (by omega) (xup_s _ _ _)) | exact xup_o (by omega) (xup_o (by omega) (xup_o (by omega) (by assumption)))) (c_Nam_workOutAlone d nw hr) (by omega) (by omega) ?_
  rintro y M1 ⟨hc, ⟨tk1, tg1, pos1, ans1, hr1⟩, f1⟩
  have xw1 := xw.w f1 hr1
  obtain ⟨q1, q2, -⟩ := id hr1
  obtain ⟨r1, -⟩ := id q2
  have n1' := (f1 B (by omega)).trans n1
  refine xp_istore_1 (pc := 4) hX d_Nam_get_4 (by decide) ?_
  refine xp_aload_0 (pc := 5) hX d_Nam_get_5 ?_
  refine xg_get (pc := 6) hX (j := 0) k_Nam d_Nam_get_6 l_Nam_20 (by decide) (by first | assumption | exact xup_s _ _ _ | exact xup_o (by omega) (by assumption) | exact xup_o (by omega) (xup_s _ _ _) | exact xup_o (by omega) (xup_o (by omega) (by assumption)) | exact xup_o (by omega) (xup_o (by omega) (xup_s _ _ _)) | exact xup_o (by omega) (xup_o (by omega) (xup_o (by omega) (by assumption)))) (by rfl) ?_
  refine xv_V (Y2 := Y_Row_clear) (pc := 9) hX [] k_Row m_Row_clear d_Nam_get_9 l_Nam_89 rfl rfl (by simp [Value.category]) (by first | assumption | exact xup_s _ _ _ | exact xup_o (by omega) (by assumption) | exact xup_o (by omega) (xup_s _ _ _) | exact xup_o (by omega) (xup_o (by omega) (by assumption)) | exact xup_o (by omega) (xup_o (by omega) (xup_s _ _ _)) | exact xup_o (by omega) (xup_o (by omega) (xup_o (by omega) (by assumption)))) (c_Row_clear (d + 5) q2) (by omega) (by omega) ?_
  rintro M2 ⟨a1, a2⟩
  have xw2 := xw1.txt a2 a1
  have fe : FrB M M2 B := (FrB.w f1).tr (FrB.r2 a2 (by omega) (by omega))
  refine xp_iload_1 (pc := 12) hX d_Nam_get_12 ?_
  have bad : ∀ f, ¬ y = 0 → NW M1 B f g L es dp se → sGet (t, out, es, dp, se, sub, fr, bg) = (y, ([], out, es, dp, se, sub, fr, bg)) → xG K 13 [some (.ref B), some (.int y)] [.int y] M2 sz 0 0 := by
    intro f hy nw1 hS
    rw [hS] at hE
    refine xg_if_eq (pc := 13) hX 18 d_Nam_get_13 (by decide) (fun z => absurd z hy) (fun _ => ?_)
    refine xp_iload_1 (pc := 16) hX d_Nam_get_16 ?_
    refine xg_iret (pc := 17) hX hE d_Nam_get_17 rfl rfl (by omega) (by omega) ?_
    exact ⟨rfl, _, rfl, rfl, ⟨⟨_, _, _, nw1.txt a2⟩, _, _, _, _, _, _, xw2⟩, fe⟩
  rcases hc with ⟨b1, b2, rfl, nw1⟩ | ⟨b1, b2, rfl, f', nw1⟩ | ⟨b1, rfl, f', nw1⟩
  · obtain ⟨o1, o2, o3, -⟩ := rdA_ok b1
    have hnz := FN_pos (es := es) (se := se) (ip := dp - 1) (t := t) (a := 0) o1 (by omega)
    have hS : sGet (t, out, es, dp, se, sub, fr, bg) = (nI (tellT es se (dp - 1) (FN es se (dp - 1) t 0 (rdA t).1)).length, ([], tellT es se (dp - 1) (FN es se (dp - 1) t 0 (rdA t).1), es, dp, se, sub, fr, bg)) := by
      unfold sGet
      dsimp only
      rw [if_pos b1, if_pos b2]
    generalize FN es se (dp - 1) t 0 (rdA t).1 = nm at *
    rw [hS] at hE
    refine xn_if_eq (pc := 13) hX 18 d_Nam_get_13 (by decide) (by decide) (fun _ => ?_) (fun z => absurd z (by decide))
    have nw2 := nw1.txt a2
    obtain ⟨n1, -⟩ := id nw2
    refine xp_aload_0 (pc := 18) hX d_Nam_get_18 ?_
    refine xg_get (pc := 19) hX (j := 1) k_Nam d_Nam_get_19 l_Nam_28 (by decide) (by first | assumption | exact xup_s _ _ _ | exact xup_o (by omega) (by assumption) | exact xup_o (by omega) (xup_s _ _ _) | exact xup_o (by omega) (xup_o (by omega) (by assumption)) | exact xup_o (by omega) (xup_o (by omega) (xup_s _ _ _)) | exact xup_o (by omega) (xup_o (by omega) (xup_o (by omega) (by assumption)))) (by rfl) ?_
    refine xp_aload_0 (pc := 22) hX d_Nam_get_22 ?_
    refine xp_aload_0 (pc := 23) hX d_Nam_get_23 ?_
    refine xr_V (Y2 := Y_Nam_told) (pc := 24) hX [] k_Nam m_Nam_told d_Nam_get_24 l_Nam_98 rfl rfl (by simp [Value.category]) (by first | assumption | exact xup_s _ _ _ | exact xup_o (by omega) (by assumption) | exact xup_o (by omega) (xup_s _ _ _) | exact xup_o (by omega) (xup_o (by omega) (by assumption)) | exact xup_o (by omega) (xup_o (by omega) (xup_s _ _ _)) | exact xup_o (by omega) (xup_o (by omega) (xup_o (by omega) (by assumption)))) (c_Nam_told (d + 1) nw2 hnz) (by omega) (by omega) ?_
    rintro o M3 ⟨rfl, nw3, f3⟩
    obtain ⟨n1, n2, -, -, n5, -⟩ := id nw3
    refine xr_V (Y2 := Y_Nam_textOf) (pc := 27) hX [_] k_Nam m_Nam_textOf d_Nam_get_27 l_Nam_102 rfl rfl (by simp [Value.category]) (by first | assumption | exact xup_s _ _ _ | exact xup_o (by omega) (by assumption) | exact xup_o (by omega) (xup_s _ _ _) | exact xup_o (by omega) (xup_o (by omega) (by assumption)) | exact xup_o (by omega) (xup_o (by omega) (xup_s _ _ _)) | exact xup_o (by omega) (xup_o (by omega) (xup_o (by omega) (by assumption)))) (c_Nam_textOf (d + 5) nw3 (fun j hj => tellI_lt hgI hj)) (by omega) (by omega) ?_
    rintro o M4 ⟨rfl, rfl⟩
    have xw3 := xw2.nn f3
    obtain ⟨-, x2, -⟩ := id xw3
    obtain ⟨x2', -⟩ := id x2
    obtain ⟨r, hr1, hr2, hr3⟩ := nw3.toldRow hgI
    rw [hr1]
    refine xv_V (Y2 := Y_Row_become) (pc := 30) hX [_] k_Row m_Row_become d_Nam_get_30 l_Nam_106 rfl rfl (by simp [Value.category]) (by first | assumption | exact xup_s _ _ _ | exact xup_o (by omega) (by assumption) | exact xup_o (by omega) (xup_s _ _ _) | exact xup_o (by omega) (xup_o (by omega) (by assumption)) | exact xup_o (by omega) (xup_o (by omega) (xup_s _ _ _)) | exact xup_o (by omega) (xup_o (by omega) (xup_o (by omega) (by assumption)))) (c_Row_become (d + 3) x2 hr3 (by omega) hr3.2.1 (by omega) (by omega)) (by omega) (by omega) ?_
    rintro M5 ⟨c1, c2⟩
    obtain ⟨c1', -⟩ := id c1
    have n1' := (c2 B (by omega) (by omega)).trans n1
    refine xp_aload_0 (pc := 33) hX d_Nam_get_33 ?_
    refine xg_get (pc := 34) hX (j := 1) k_Nam d_Nam_get_34 l_Nam_28 (by decide) (by first | assumption | exact xup_s _ _ _ | exact xup_o (by omega) (by assumption) | exact xup_o (by omega) (xup_s _ _ _) | exact xup_o (by omega) (xup_o (by omega) (by assumption)) | exact xup_o (by omega) (xup_o (by omega) (xup_s _ _ _)) | exact xup_o (by omega) (xup_o (by omega) (xup_o (by omega) (by assumption)))) (by rfl) ?_
    refine xg_get (pc := 37) hX (j := 1) k_Row d_Nam_get_37 l_Nam_64 (by decide) (by first | assumption | exact xup_s _ _ _ | exact xup_o (by omega) (by assumption) | exact xup_o (by omega) (xup_s _ _ _) | exact xup_o (by omega) (xup_o (by omega) (by assumption)) | exact xup_o (by omega) (xup_o (by omega) (xup_s _ _ _)) | exact xup_o (by omega) (xup_o (by omega) (xup_o (by omega) (by assumption)))) (by rfl) ?_
    refine xg_iret (pc := 40) hX hE d_Nam_get_40 rfl rfl (by omega) (by omega) ?_
    exact ⟨rfl, _, rfl, rfl, ⟨⟨_, _, _, nw3.out c2⟩, _, _, _, _, _, _, xw3.out c2 c1⟩, (fe.tr (FrB.n f3)).tr (FrB.r2 c2 (by omega) (by omega))⟩
  · refine bad f' (by decide) nw1 ?_
    unfold sGet
    dsimp only
    rw [if_pos b1, if_neg (by omega)]
  · have hle := rdA_le (t := t)
    refine bad f' (aI_some (by omega)) nw1 ?_
    unfold sGet
    dsimp only
    rw [if_neg (by rw [b1]; decide)]
set_option maxHeartbeats 4000000 in
set_option maxRecDepth 100000 in
theorem a_known (d : Nat) {M : xH} {sz B : Nat} {S : xS} (h : CW M B S) (hI : Inv S) : xC (d + 6) 0 0 Y_Nam_known [.ref B] M sz (qi sz (fun y M' => y = (sKnown S).1 ∧ CW M' B (sKnown S).2 ∧ FrB M M' B)) := by
  obtain ⟨t, out, es, dp, se, sub, fr, bg⟩ := S
  refine xC_of (by decide) (Nat.le_of_ble_eq_true rfl) (by simp [Value.category]) (vs := [some (.ref B), none, none]) rfl (fun K hX hE => ?_)
  obtain ⟨⟨full, g, L, nw⟩, tk, tg, pos, ans, pf, pt, xw⟩ := id h
  obtain ⟨hgI, -⟩ := hI
  obtain ⟨n1, -⟩ := id nw
  obtain ⟨hr, -⟩ := id xw
  have htl : t.length ≤ 600 := hr.2.1.2.1
  refine xp_aload_0 (pc := 0) hX d_Nam_known_0 ?_
  refine xi_V (Y2 := Y_Nam_workOutAlone) (pc := 1) hX [] k_Nam m_Nam_workOutAlone d_Nam_known_1 l_Nam_95 rfl rfl (by simp [Value.category]) (by first | assumption | exact xup_s _ _ _ | exact xup_o (by omega) (by assumption) | exact xup_o (by omega) (xup_s _ _ _) | exact xup_o (by omega) (xup_o (by omega) (by assumption)) | exact xup_o (by omega) (xup_o (by omega) (xup_s _ _ _)) | exact xup_o (by omega) (xup_o (by omega) (xup_o (by omega) (by assumption)))) (c_Nam_workOutAlone d nw hr) (by omega) (by omega) ?_
  rintro y M1 ⟨hc, ⟨tk1, tg1, pos1, ans1, hr1⟩, f1⟩
  have xw1 := xw.w f1 hr1
  obtain ⟨q1, q2, -⟩ := id hr1
  obtain ⟨r1, -⟩ := id q2
  have n1' := (f1 B (by omega)).trans n1
  refine xp_istore_1 (pc := 4) hX d_Nam_known_4 (by decide) ?_
  refine xp_aload_0 (pc := 5) hX d_Nam_known_5 ?_
  refine xg_get (pc := 6) hX (j := 0) k_Nam d_Nam_known_6 l_Nam_20 (by decide) (by first | assumption | exact xup_s _ _ _ | exact xup_o (by omega) (by assumption) | exact xup_o (by omega) (xup_s _ _ _) | exact xup_o (by omega) (xup_o (by omega) (by assumption)) | exact xup_o (by omega) (xup_o (by omega) (xup_s _ _ _)) | exact xup_o (by omega) (xup_o (by omega) (xup_o (by omega) (by assumption)))) (by rfl) ?_
  refine xv_V (Y2 := Y_Row_clear) (pc := 9) hX [] k_Row m_Row_clear d_Nam_known_9 l_Nam_89 rfl rfl (by simp [Value.category]) (by first | assumption | exact xup_s _ _ _ | exact xup_o (by omega) (by assumption) | exact xup_o (by omega) (xup_s _ _ _) | exact xup_o (by omega) (xup_o (by omega) (by assumption)) | exact xup_o (by omega) (xup_o (by omega) (xup_s _ _ _)) | exact xup_o (by omega) (xup_o (by omega) (xup_o (by omega) (by assumption)))) (c_Row_clear (d + 5) q2) (by omega) (by omega) ?_
  rintro M2 ⟨a1, a2⟩
  have xw2 := xw1.txt a2 a1
  have fe : FrB M M2 B := (FrB.w f1).tr (FrB.r2 a2 (by omega) (by omega))
  refine xp_iload_1 (pc := 12) hX d_Nam_known_12 ?_
  have bad : ∀ f, ¬ y = 0 → NW M1 B f g L es dp se → sKnown (t, out, es, dp, se, sub, fr, bg) = (y, ([], out, es, dp, se, sub, fr, bg)) → xG K 13 [some (.ref B), some (.int y), none] [.int y] M2 sz 0 0 := by
    intro f hy nw1 hS
    rw [hS] at hE
    refine xg_if_eq (pc := 13) hX 18 d_Nam_known_13 (by decide) (fun z => absurd z hy) (fun _ => ?_)
    refine xp_iload_1 (pc := 16) hX d_Nam_known_16 ?_
    refine xg_iret (pc := 17) hX hE d_Nam_known_17 rfl rfl (by omega) (by omega) ?_
    exact ⟨rfl, _, rfl, rfl, ⟨⟨_, _, _, nw1.txt a2⟩, _, _, _, _, _, _, xw2⟩, fe⟩
  rcases hc with ⟨b1, b2, rfl, nw1⟩ | ⟨b1, b2, rfl, f', nw1⟩ | ⟨b1, rfl, f', nw1⟩
  · obtain ⟨o1, o2, o3, -⟩ := rdA_ok b1
    have hnz := FN_pos (es := es) (se := se) (ip := dp - 1) (t := t) (a := 0) o1 (by omega)
    have hS : sKnown (t, out, es, dp, se, sub, fr, bg) = (knI es se (dp - 1) (FN es se (dp - 1) t 0 (rdA t).1), ([], out, es, dp, se, sub, fr, bg)) := by
      unfold sKnown
      dsimp only
      rw [if_pos b1, if_pos b2]
    generalize FN es se (dp - 1) t 0 (rdA t).1 = nm at *
    rw [hS] at hE
    refine xn_if_eq (pc := 13) hX 18 d_Nam_known_13 (by decide) (by decide) (fun _ => ?_) (fun z => absurd z (by decide))
    have nw2 := nw1.txt a2
    obtain ⟨n1, -⟩ := id nw2
    refine xp_aload_0 (pc := 18) hX d_Nam_known_18 ?_
    refine xr_V (Y2 := Y_Nam_told) (pc := 19) hX [] k_Nam m_Nam_told d_Nam_known_19 l_Nam_98 rfl rfl (by simp [Value.category]) (by first | assumption | exact xup_s _ _ _ | exact xup_o (by omega) (by assumption) | exact xup_o (by omega) (xup_s _ _ _) | exact xup_o (by omega) (xup_o (by omega) (by assumption)) | exact xup_o (by omega) (xup_o (by omega) (xup_s _ _ _)) | exact xup_o (by omega) (xup_o (by omega) (xup_o (by omega) (by assumption)))) (c_Nam_told (d + 1) nw2 hnz) (by omega) (by omega) ?_
    rintro o M3 ⟨rfl, nw3, f3⟩
    obtain ⟨n1, n2, -⟩ := id nw3
    obtain ⟨n2', -⟩ := id n2
    have xw3 := xw2.nn f3
    cases htI : tellI es se (dp - 1) nm with
    | none =>
      have hk : knI es se (dp - 1) nm = nI 0 := by unfold knI; rw [htI]
      rw [hk] at hE
      first | refine xp_astore_2 (pc := 22) hX d_Nam_known_22 (by decide) ?_ | refine xp_astoreN_2 (pc := 22) hX d_Nam_known_22 (by decide) ?_
      refine xp_aloadN_2 (pc := 23) hX d_Nam_known_23 ?_
      refine xg_ifnonnullN (pc := 24) hX d_Nam_known_24 ?_
      refine xg_iconst (pc := 27) hX (nI 0) d_Nam_known_27 ci_iconst_0 ?_
      refine xg_iret (pc := 28) hX hE d_Nam_known_28 rfl rfl (by omega) (by omega) ?_
      exact ⟨rfl, _, rfl, rfl, ⟨⟨_, _, _, nw3⟩, _, _, _, _, _, _, xw3⟩, fe.tr (FrB.n f3)⟩
    | some j =>
      have hj := tellI_lt hgI htI
      have he : es[j]? = some es[j] := List.getElem?_eq_getElem hj
      obtain ⟨⟨e1, e2, e3, -⟩, hg⟩ := nw3.ent he
      generalize es[j] = e at *
      have hk : knI es se (dp - 1) nm = if e.2.1.length = nm.length then nI 2 else nI 1 := by
        unfold knI
        rw [htI]
        dsimp only
        rw [he]
        simp
      rw [hk] at hE
      have hl1 := e3.2.1
      obtain ⟨e3', -⟩ := id e3
      dsimp only at e3' hl1
      first | refine xp_astore_2 (pc := 22) hX d_Nam_known_22 (by decide) ?_ | refine xp_astoreN_2 (pc := 22) hX d_Nam_known_22 (by decide) ?_
      refine xp_aload_2 (pc := 23) hX d_Nam_known_23 ?_
      refine xg_ifnonnull (pc := 24) hX 29 d_Nam_known_24 (by decide) ?_
      refine xp_aload_2 (pc := 29) hX d_Nam_known_29 ?_
      refine xg_get (pc := 30) hX (j := 0) k_Ent d_Nam_known_30 l_Nam_110 (by decide) (by first | assumption | exact xup_s _ _ _ | exact xup_o (by omega) (by assumption) | exact xup_o (by omega) (xup_s _ _ _) | exact xup_o (by omega) (xup_o (by omega) (by assumption)) | exact xup_o (by omega) (xup_o (by omega) (xup_s _ _ _)) | exact xup_o (by omega) (xup_o (by omega) (xup_o (by omega) (by assumption)))) (by rfl) ?_
      refine xg_get (pc := 33) hX (j := 1) k_Row d_Nam_known_33 l_Nam_64 (by decide) (by first | assumption | exact xup_s _ _ _ | exact xup_o (by omega) (by assumption) | exact xup_o (by omega) (xup_s _ _ _) | exact xup_o (by omega) (xup_o (by omega) (by assumption)) | exact xup_o (by omega) (xup_o (by omega) (xup_s _ _ _)) | exact xup_o (by omega) (xup_o (by omega) (xup_o (by omega) (by assumption)))) (by rfl) ?_
      refine xp_aload_0 (pc := 36) hX d_Nam_known_36 ?_
      refine xg_get (pc := 37) hX (j := 2) k_Nam d_Nam_known_37 l_Nam_31 (by decide) (by first | assumption | exact xup_s _ _ _ | exact xup_o (by omega) (by assumption) | exact xup_o (by omega) (xup_s _ _ _) | exact xup_o (by omega) (xup_o (by omega) (by assumption)) | exact xup_o (by omega) (xup_o (by omega) (xup_s _ _ _)) | exact xup_o (by omega) (xup_o (by omega) (xup_o (by omega) (by assumption)))) (by rfl) ?_
      refine xg_get (pc := 40) hX (j := 1) k_Row d_Nam_known_40 l_Nam_64 (by decide) (by first | assumption | exact xup_s _ _ _ | exact xup_o (by omega) (by assumption) | exact xup_o (by omega) (xup_s _ _ _) | exact xup_o (by omega) (xup_o (by omega) (by assumption)) | exact xup_o (by omega) (xup_o (by omega) (xup_s _ _ _)) | exact xup_o (by omega) (xup_o (by omega) (xup_o (by omega) (by assumption)))) (by rfl) ?_
      refine xn_icmp_ne (pc := 43) hX 50 d_Nam_known_43 (by decide) (by omega) (by omega) (fun z => ?_) (fun z => ?_)
      · refine xg_iconst (pc := 50) hX (nI 1) d_Nam_known_50 ci_iconst_1 ?_
        refine xg_iret (pc := 51) hX hE d_Nam_known_51 rfl rfl (by omega) (by omega) ?_
        refine ⟨rfl, _, rfl, ?_, ⟨⟨_, _, _, nw3⟩, _, _, _, _, _, _, xw3⟩, fe.tr (FrB.n f3)⟩
        dsimp only
        rw [if_neg z]
      · refine xg_iconst (pc := 46) hX (nI 2) d_Nam_known_46 ci_iconst_2 ?_
        refine xg_goto (pc := 47) hX 51 d_Nam_known_47 (by decide) ?_
        refine xg_iret (pc := 51) hX hE d_Nam_known_51 rfl rfl (by omega) (by omega) ?_
        refine ⟨rfl, _, rfl, ?_, ⟨⟨_, _, _, nw3⟩, _, _, _, _, _, _, xw3⟩, fe.tr (FrB.n f3)⟩
        dsimp only
        rw [if_pos z]
  · refine bad f' (by decide) nw1 ?_
    unfold sKnown
    dsimp only
    rw [if_pos b1, if_neg (by omega)]
  · have hle := rdA_le (t := t)
    refine bad f' (aI_some (by omega)) nw1 ?_
    unfold sKnown
    dsimp only
    rw [if_neg (by rw [b1]; decide)]
