/-! drop, open, parse -/
theorem drpL_v {se : List xSe} {ip : Nat} {t : List UInt8} : ∀ (r : List xTk) (es : List xEn), (drpL se ip t r es).1 = nI 0 ∨ (drpL se ip t r es).1 = -2 ∨ (drpL se ip t r es).1 = -4
  | [], es => Or.inl rfl
  | e :: r, es => by
    unfold drpL
    split
    · split
      · exact drpL_v r _
      · exact Or.inr (Or.inr rfl)
    · exact Or.inr (Or.inl rfl)
set_option maxHeartbeats 4000000 in
set_option maxRecDepth 100000 in
theorem a_drop (d : Nat) {M : xH} {sz B : Nat} {S : xS} (h : CW M B S) : xC (d + 5) 0 0 Y_Nam_drop [.ref B] M sz (qi sz (fun y M' => y = (sDrop S).1 ∧ CW M' B (sDrop S).2 ∧ FrB M M' B)) := by
  obtain ⟨t, out, es, dp, se, sub, fr, bg⟩ := S
  refine xC_of (by decide) (Nat.le_of_ble_eq_true rfl) (by simp [Value.category]) (vs := [some (.ref B), none, none]) rfl (fun K hX hE => ?_)
  obtain ⟨⟨full, g, L, nw⟩, tk, tg, pos, ans, pf, pt, xw⟩ := id h
  obtain ⟨n1, -⟩ := id nw
  obtain ⟨hr, -⟩ := id xw
  obtain ⟨q1, q2, -⟩ := id hr
  have htl : t.length ≤ 600 := q2.2.1
  have k70 : ∀ (vs : List (Option Value)) (M1 : xH) (y : Int32) (es1 : List xEn) (tk1 : List xTk) (tg1 pos1 : Nat) (ans1 : Option Nat), (∃ f g' L', NW M1 B f g' L' es1 dp se) → XW M1 B t tk1 tg1 pos1 ans1 out sub fr bg pf pt → FrB M M1 B → sDrop (t, out, es, dp, se, sub, fr, bg) = (if y = nI 0 then nI es1.length else y, ([], out, es1, dp, se, sub, fr, bg)) → xG K 70 (some (.ref B) :: some (.int y) :: vs) [] M1 sz 0 0 := by
    rintro vs M1 y es1 tk1 tg1 pos1 ans1 ⟨f, g', L', nw1⟩ xw1 fb hS
    rw [hS] at hE
    obtain ⟨n1, -⟩ := id nw1
    obtain ⟨hr, -⟩ := id xw1
    obtain ⟨q1, q2, -⟩ := id hr
    obtain ⟨r1, -⟩ := id q2
    refine xp_aload_0 (pc := 70) hX d_Nam_drop_70 ?_
    refine xg_get (pc := 71) hX (j := 0) k_Nam d_Nam_drop_71 l_Nam_20 (by decide) (by first | assumption | exact xup_s _ _ _ | exact xup_o (by omega) (by assumption) | exact xup_o (by omega) (xup_s _ _ _) | exact xup_o (by omega) (xup_o (by omega) (by assumption)) | exact xup_o (by omega) (xup_o (by omega) (xup_s _ _ _)) | exact xup_o (by omega) (xup_o (by omega) (xup_o (by omega) (by assumption)))) (by rfl) ?_
    refine xv_V (Y2 := Y_Row_clear) (pc := 74) hX [] k_Row m_Row_clear d_Nam_drop_74 l_Nam_89 rfl rfl (by simp [Value.category]) (by first | assumption | exact xup_s _ _ _ | exact xup_o (by omega) (by assumption) | exact xup_o (by omega) (xup_s _ _ _) | exact xup_o (by omega) (xup_o (by omega) (by assumption)) | exact xup_o (by omega) (xup_o (by omega) (xup_s _ _ _)) | exact xup_o (by omega) (xup_o (by omega) (xup_o (by omega) (by assumption)))) (c_Row_clear (d + 4) q2) (by omega) (by omega) ?_
    rintro M2 ⟨a1, a2⟩
    have nw2 := nw1.txt a2
    obtain ⟨n1, -, -, -, ⟨⟨n5, -⟩, -⟩, -⟩ := id nw2
    have fe : FrB M M2 B := fb.tr (FrB.r2 a2 (by omega) (by omega))
    refine xp_iload_1 (pc := 77) hX d_Nam_drop_77 ?_
    refine xg_if_ne (pc := 78) hX 91 d_Nam_drop_78 (by decide) (fun z => ?_) (fun z => ?_)
    · refine xp_iload_1 (pc := 91) hX d_Nam_drop_91 ?_
      refine xg_iret (pc := 92) hX hE d_Nam_drop_92 rfl rfl (by omega) (by omega) ?_
      refine ⟨rfl, _, rfl, ?_, ⟨⟨_, _, _, nw2⟩, _, _, _, _, _, _, xw1.txt a2 a1⟩, fe⟩
      dsimp only
      rw [if_neg (fun q => z (by rw [q]; decide))]
    · refine xp_aload_0 (pc := 81) hX d_Nam_drop_81 ?_
      refine xg_get (pc := 82) hX (j := 7) k_Nam d_Nam_drop_82 l_Nam_46 (by decide) (by first | assumption | exact xup_s _ _ _ | exact xup_o (by omega) (by assumption) | exact xup_o (by omega) (xup_s _ _ _) | exact xup_o (by omega) (xup_o (by omega) (by assumption)) | exact xup_o (by omega) (xup_o (by omega) (xup_s _ _ _)) | exact xup_o (by omega) (xup_o (by omega) (xup_o (by omega) (by assumption)))) (by rfl) ?_
      refine xg_get (pc := 85) hX (j := 1) k_She d_Nam_drop_85 l_Nam_92 (by decide) (by first | assumption | exact xup_s _ _ _ | exact xup_o (by omega) (by assumption) | exact xup_o (by omega) (xup_s _ _ _) | exact xup_o (by omega) (xup_o (by omega) (by assumption)) | exact xup_o (by omega) (xup_o (by omega) (xup_s _ _ _)) | exact xup_o (by omega) (xup_o (by omega) (xup_o (by omega) (by assumption)))) (by rfl) ?_
      refine xg_goto (pc := 88) hX 92 d_Nam_drop_88 (by decide) ?_
      refine xg_iret (pc := 92) hX hE d_Nam_drop_92 rfl rfl (by omega) (by omega) ?_
      refine ⟨rfl, _, rfl, ?_, ⟨⟨_, _, _, nw2⟩, _, _, _, _, _, _, xw1.txt a2 a1⟩, fe⟩
      dsimp only
      rw [if_pos (by rw [z]; decide)]
  -- the loop's head with an answer that is not 0
  have k31f : ∀ (M1 : xH) (y : Int32) (i : Nat) (es1 : List xEn) (tk1 : List xTk) (tg1 pos1 : Nat) (ans1 : Option Nat), ¬ y = 0 → i ≤ 601 → (∃ f g' L', NW M1 B f g' L' es1 dp se) → XW M1 B t tk1 tg1 pos1 ans1 out sub fr bg pf pt → FrB M M1 B → sDrop (t, out, es, dp, se, sub, fr, bg) = (y, ([], out, es1, dp, se, sub, fr, bg)) → xG K 31 [some (.ref B), some (.int y), some (.int (nI i))] [] M1 sz 0 0 := by
    intro M1 y i es1 tk1 tg1 pos1 ans1 hy hi hn xw1 fb hS
    have hS2 : sDrop (t, out, es, dp, se, sub, fr, bg) = (if y = nI 0 then nI es1.length else y, ([], out, es1, dp, se, sub, fr, bg)) := by rw [hS, if_neg (fun q => hy (by rw [q]; decide))]
    obtain ⟨f, g', L', nw1⟩ := id hn
    obtain ⟨n1, -⟩ := id nw1
    obtain ⟨hr, -⟩ := id xw1
    obtain ⟨q1, -, q3, -⟩ := id hr
    refine xp_iload_2 (pc := 31) hX d_Nam_drop_31 ?_
    refine xp_aload_0 (pc := 32) hX d_Nam_drop_32 ?_
    refine xg_get (pc := 33) hX (j := 6) k_Nam d_Nam_drop_33 l_Nam_10 (by decide) (by first | assumption | exact xup_s _ _ _ | exact xup_o (by omega) (by assumption) | exact xup_o (by omega) (xup_s _ _ _) | exact xup_o (by omega) (xup_o (by omega) (by assumption)) | exact xup_o (by omega) (xup_o (by omega) (xup_s _ _ _)) | exact xup_o (by omega) (xup_o (by omega) (xup_o (by omega) (by assumption)))) (by rfl) ?_
    refine xg_get (pc := 36) hX (j := 4) k_Rea d_Nam_drop_36 l_Nam_118 (by decide) (by first | assumption | exact xup_s _ _ _ | exact xup_o (by omega) (by assumption) | exact xup_o (by omega) (xup_s _ _ _) | exact xup_o (by omega) (xup_o (by omega) (by assumption)) | exact xup_o (by omega) (xup_o (by omega) (xup_s _ _ _)) | exact xup_o (by omega) (xup_o (by omega) (xup_o (by omega) (by assumption)))) (by rfl) ?_
    refine xn_icmp_ge (pc := 39) hX 70 d_Nam_drop_39 (by decide) (by omega) (by omega) (fun _ => k70 _ M1 y es1 tk1 tg1 pos1 ans1 hn xw1 fb hS2) (fun _ => ?_)
    refine xp_iload_1 (pc := 42) hX d_Nam_drop_42 ?_
    exact xg_if_ne (pc := 43) hX 70 d_Nam_drop_43 (by decide) (fun _ => k70 _ M1 y es1 tk1 tg1 pos1 ans1 hn xw1 fb hS2) (fun z => absurd z hy)
  refine xp_aload_0 (pc := 0) hX d_Nam_drop_0 ?_
  refine xg_get (pc := 1) hX (j := 6) k_Nam d_Nam_drop_1 l_Nam_10 (by decide) (by first | assumption | exact xup_s _ _ _ | exact xup_o (by omega) (by assumption) | exact xup_o (by omega) (xup_s _ _ _) | exact xup_o (by omega) (xup_o (by omega) (by assumption)) | exact xup_o (by omega) (xup_o (by omega) (xup_s _ _ _)) | exact xup_o (by omega) (xup_o (by omega) (xup_o (by omega) (by assumption)))) (by rfl) ?_
  refine xg_sipush (pc := 4) hX (nI 600) d_Nam_drop_4 ci_sipush_600 ?_
  refine xi_V (Y2 := Y_Rea_readVariables) (pc := 7) hX [_] k_Rea m_Rea_readVariables d_Nam_drop_7 l_Nam_115 rfl rfl (by simp [Value.category]) (by first | assumption | exact xup_s _ _ _ | exact xup_o (by omega) (by assumption) | exact xup_o (by omega) (xup_s _ _ _) | exact xup_o (by omega) (xup_o (by omega) (by assumption)) | exact xup_o (by omega) (xup_o (by omega) (xup_s _ _ _)) | exact xup_o (by omega) (xup_o (by omega) (xup_o (by omega) (by assumption)))) (c_Rea_readVariables (d + 1) hr (by omega)) (by omega) (by omega) ?_
  rintro y M1 ⟨hc, f1⟩
  have nw1 := nw.rea f1
  obtain ⟨n1, -⟩ := id nw1
  obtain ⟨hok, hln⟩ := rdM_ok (t := t) (most := 600)
  have hbd := rdM_bd (t := t) (most := 600)
  rcases hc with ⟨b1, rfl, tg1, pos1, b2⟩ | ⟨b1, rfl, tk1, tg1, pos1, b2⟩
  · have xw1 := xw.rea f1 b2
    have hS : sDrop (t, out, es, dp, se, sub, fr, bg) = (if (rdM t 600).2 = [] then (-1000, ([], out, es, dp, se, sub, fr, bg)) else (if (drpL se (dp - 1) t (rdM t 600).2 es).1 = nI 0 then nI (drpL se (dp - 1) t (rdM t 600).2 es).2.length else (drpL se (dp - 1) t (rdM t 600).2 es).1, ([], out, (drpL se (dp - 1) t (rdM t 600).2 es).2, dp, se, sub, fr, bg))) := by
      unfold sDrop
      dsimp only
      rw [if_pos b1]
    generalize hT : (rdM t 600).2 = T at *
    obtain ⟨q1, -⟩ := id b2
    refine xp_istore_1 (pc := 10) hX d_Nam_drop_10 (by decide) ?_
    refine xp_iload_1 (pc := 11) hX d_Nam_drop_11 ?_
    refine xn_if_ne (pc := 12) hX 29 d_Nam_drop_12 (by decide) (by decide) (fun z => absurd z (by decide)) (fun _ => ?_)
    refine xp_aload_0 (pc := 15) hX d_Nam_drop_15 ?_
    refine xg_get (pc := 16) hX (j := 6) k_Nam d_Nam_drop_16 l_Nam_10 (by decide) (by first | assumption | exact xup_s _ _ _ | exact xup_o (by omega) (by assumption) | exact xup_o (by omega) (xup_s _ _ _) | exact xup_o (by omega) (xup_o (by omega) (by assumption)) | exact xup_o (by omega) (xup_o (by omega) (xup_s _ _ _)) | exact xup_o (by omega) (xup_o (by omega) (xup_o (by omega) (by assumption)))) (by rfl) ?_
    refine xg_get (pc := 19) hX (j := 4) k_Rea d_Nam_drop_19 l_Nam_118 (by decide) (by first | assumption | exact xup_s _ _ _ | exact xup_o (by omega) (by assumption) | exact xup_o (by omega) (xup_s _ _ _) | exact xup_o (by omega) (xup_o (by omega) (by assumption)) | exact xup_o (by omega) (xup_o (by omega) (xup_s _ _ _)) | exact xup_o (by omega) (xup_o (by omega) (xup_o (by omega) (by assumption)))) (by rfl) ?_
    refine xn_if_ne (pc := 22) hX 29 d_Nam_drop_22 (by decide) (by omega) (fun z => ?_) (fun z => ?_)
    · have hne : T ≠ [] := fun q => by rw [q] at z; exact absurd z (by decide)
      rw [if_neg hne] at hS
      refine xg_iconst (pc := 29) hX (nI 0) d_Nam_drop_29 ci_iconst_0 ?_
      refine xp_istore_2 (pc := 30) hX d_Nam_drop_30 (by decide) ?_
      have k31 : ∀ (n i : Nat) (M2 : xH) (es1 : List xEn), T.length - i = n → i ≤ T.length → (∃ f g' L', NW M2 B f g' L' es1 dp se) → XW M2 B t T tg1 pos1 none out sub fr bg pf pt → FrB M M2 B → drpL se (dp - 1) t T es = drpL se (dp - 1) t (T.drop i) es1 → xG K 31 [some (.ref B), some (.int (nI 0)), some (.int (nI i))] [] M2 sz 0 0 := by
        intro n
        induction n with
        | zero =>
          intro i M2 es1 hn hi hnw xw2 fb hd
          have hi2 : i = T.length := by omega
          rw [hi2, List.drop_length] at hd
          have hd2 : drpL se (dp - 1) t T es = (nI 0, es1) := hd
          rw [hd2] at hS
          obtain ⟨f, g', L', nw2⟩ := id hnw
          obtain ⟨n1, -⟩ := id nw2
          obtain ⟨hr, -⟩ := id xw2
          obtain ⟨q1, -⟩ := id hr
          refine xp_iload_2 (pc := 31) hX d_Nam_drop_31 ?_
          refine xp_aload_0 (pc := 32) hX d_Nam_drop_32 ?_
          refine xg_get (pc := 33) hX (j := 6) k_Nam d_Nam_drop_33 l_Nam_10 (by decide) (by first | assumption | exact xup_s _ _ _ | exact xup_o (by omega) (by assumption) | exact xup_o (by omega) (xup_s _ _ _) | exact xup_o (by omega) (xup_o (by omega) (by assumption)) | exact xup_o (by omega) (xup_o (by omega) (xup_s _ _ _)) | exact xup_o (by omega) (xup_o (by omega) (xup_o (by omega) (by assumption)))) (by rfl) ?_
          refine xg_get (pc := 36) hX (j := 4) k_Rea d_Nam_drop_36 l_Nam_118 (by decide) (by first | assumption | exact xup_s _ _ _ | exact xup_o (by omega) (by assumption) | exact xup_o (by omega) (xup_s _ _ _) | exact xup_o (by omega) (xup_o (by omega) (by assumption)) | exact xup_o (by omega) (xup_o (by omega) (xup_s _ _ _)) | exact xup_o (by omega) (xup_o (by omega) (xup_o (by omega) (by assumption)))) (by rfl) ?_
          exact xn_icmp_ge (pc := 39) hX 70 d_Nam_drop_39 (by decide) (by omega) (by omega) (fun _ => k70 _ M2 _ es1 _ _ _ _ hnw xw2 fb hS) (fun z => absurd z (by omega))
        | succ n ih =>
          intro i M2 es1 hn hi hnw xw2 fb hd
          have hi2 : i < T.length := by omega
          have he : T[i]? = some T[i] := List.getElem?_eq_getElem hi2
          have hdr : T.drop i = T[i] :: T.drop (i + 1) := List.drop_eq_getElem_cons hi2
          obtain ⟨o1, o2, o3⟩ := hok T[i] (List.getElem_mem hi2)
          rw [hdr] at hd
          generalize T[i] = e at *
          obtain ⟨kk, a, b⟩ := e
          dsimp only at o1 o2 o3
          have hnz := FN_pos (es := es1) (se := se) (ip := dp - 1) (t := t) o1 o2
          have hd2 : drpL se (dp - 1) t T es = (if (FN es1 se (dp - 1) t a b).length ≤ 200 then (match dropE es1 se (own se (FN es1 se (dp - 1) t a b) (dp - 1)) (FN es1 se (dp - 1) t a b) with | some es2 => drpL se (dp - 1) t (T.drop (i + 1)) es2 | none => (-4, clE es1 (own se (FN es1 se (dp - 1) t a b) (dp - 1)) (FN es1 se (dp - 1) t a b))) else (-2, es1)) := by rw [hd]; rfl
          obtain ⟨f, g', L', nw2⟩ := id hnw
          obtain ⟨n1, -⟩ := id nw2
          obtain ⟨hr, -⟩ := id xw2
          obtain ⟨q1, -⟩ := id hr
          refine xp_iload_2 (pc := 31) hX d_Nam_drop_31 ?_
          refine xp_aload_0 (pc := 32) hX d_Nam_drop_32 ?_
          refine xg_get (pc := 33) hX (j := 6) k_Nam d_Nam_drop_33 l_Nam_10 (by decide) (by first | assumption | exact xup_s _ _ _ | exact xup_o (by omega) (by assumption) | exact xup_o (by omega) (xup_s _ _ _) | exact xup_o (by omega) (xup_o (by omega) (by assumption)) | exact xup_o (by omega) (xup_o (by omega) (xup_s _ _ _)) | exact xup_o (by omega) (xup_o (by omega) (xup_o (by omega) (by assumption)))) (by rfl) ?_
          refine xg_get (pc := 36) hX (j := 4) k_Rea d_Nam_drop_36 l_Nam_118 (by decide) (by first | assumption | exact xup_s _ _ _ | exact xup_o (by omega) (by assumption) | exact xup_o (by omega) (xup_s _ _ _) | exact xup_o (by omega) (xup_o (by omega) (by assumption)) | exact xup_o (by omega) (xup_o (by omega) (xup_s _ _ _)) | exact xup_o (by omega) (xup_o (by omega) (xup_o (by omega) (by assumption)))) (by rfl) ?_
          refine xn_icmp_ge (pc := 39) hX 70 d_Nam_drop_39 (by decide) (by omega) (by omega) (fun z => absurd z (by omega)) (fun _ => ?_)
          refine xp_iload_1 (pc := 42) hX d_Nam_drop_42 ?_
          refine xn_if_ne (pc := 43) hX 70 d_Nam_drop_43 (by decide) (by decide) (fun z => absurd z (by decide)) (fun _ => ?_)
          refine xp_aload_0 (pc := 46) hX d_Nam_drop_46 ?_
          refine xp_iload_2 (pc := 47) hX d_Nam_drop_47 ?_
          refine xi_V (Y2 := Y_Nam_workOut) (pc := 48) hX [_] k_Nam m_Nam_workOut d_Nam_drop_48 l_Nam_79 rfl rfl (by simp [Value.category]) (by first | assumption | exact xup_s _ _ _ | exact xup_o (by omega) (by assumption) | exact xup_o (by omega) (xup_s _ _ _) | exact xup_o (by omega) (xup_o (by omega) (by assumption)) | exact xup_o (by omega) (xup_o (by omega) (xup_s _ _ _)) | exact xup_o (by omega) (xup_o (by omega) (xup_o (by omega) (by assumption)))) (c_Nam_workOut d nw2 hr he o1 o2 o3) (by omega) (by omega) ?_
          generalize FN es1 se (dp - 1) t a b = nm at *
          rintro y M3 ⟨hc, f3⟩
          have xw3 := xw2.nn f3
          rcases hc with ⟨c1, rfl, nw3⟩ | ⟨c1, rfl, f', nw3⟩
          · rw [if_pos c1] at hd2
            refine xn_if_eq (pc := 51) hX 61 d_Nam_drop_51 (by decide) (by decide) (fun z => absurd z (by decide)) (fun _ => ?_)
            obtain ⟨n1, -⟩ := id nw3
            refine xp_aload_0 (pc := 54) hX d_Nam_drop_54 ?_
            refine xi_V (Y2 := Y_Nam_takeBack) (pc := 55) hX [] k_Nam m_Nam_takeBack d_Nam_drop_55 l_Nam_119 rfl rfl (by simp [Value.category]) (by first | assumption | exact xup_s _ _ _ | exact xup_o (by omega) (by assumption) | exact xup_o (by omega) (xup_s _ _ _) | exact xup_o (by omega) (xup_o (by omega) (by assumption)) | exact xup_o (by omega) (xup_o (by omega) (xup_s _ _ _)) | exact xup_o (by omega) (xup_o (by omega) (xup_o (by omega) (by assumption)))) (c_Nam_takeBack d nw3 hnz) (by omega) (by omega) ?_
            rintro y M4 ⟨hc, f4⟩
            have fe : FrB M M4 B := fb.tr (FrB.n (f3.tr f4))
            rcases hc with ⟨es2, g2, L2, e1, rfl, nw4⟩ | ⟨g2, L2, e1, rfl, nw4⟩
            · rw [e1] at hd2
              refine xg_goto (pc := 58) hX 63 d_Nam_drop_58 (by decide) ?_
              refine xp_istore_1 (pc := 63) hX d_Nam_drop_63 (by decide) ?_
              refine xp_inc_2 (pc := 64) hX d_Nam_drop_64 (by decide) ?_
              refine xg_goto (pc := 67) hX 31 d_Nam_drop_67 (by decide) ?_
              exact ih (i + 1) M4 es2 (by omega) (by omega) ⟨_, _, _, nw4⟩ (xw3.nn f4) fe hd2
            · rw [e1] at hd2
              rw [hd2] at hS
              refine xg_goto (pc := 58) hX 63 d_Nam_drop_58 (by decide) ?_
              refine xp_istore_1 (pc := 63) hX d_Nam_drop_63 (by decide) ?_
              refine xp_inc_2 (pc := 64) hX d_Nam_drop_64 (by decide) ?_
              refine xg_goto (pc := 67) hX 31 d_Nam_drop_67 (by decide) ?_
              exact k31f M4 (-4) (i + 1) _ _ _ _ _ (by decide) (by omega) ⟨_, _, _, nw4⟩ (xw3.nn f4) fe (by rw [hS]; rfl)
          · rw [if_neg (by omega)] at hd2
            rw [hd2] at hS
            refine xn_if_eq (pc := 51) hX 61 d_Nam_drop_51 (by decide) (by decide) (fun _ => ?_) (fun z => absurd z (by decide))
            refine xg_bipush (pc := 61) hX (-2) d_Nam_drop_61 ci_bipush_m2 ?_
            refine xp_istore_1 (pc := 63) hX d_Nam_drop_63 (by decide) ?_
            refine xp_inc_2 (pc := 64) hX d_Nam_drop_64 (by decide) ?_
            refine xg_goto (pc := 67) hX 31 d_Nam_drop_67 (by decide) ?_
            exact k31f M3 (-2) (i + 1) _ _ _ _ _ (by decide) (by omega) ⟨_, _, _, nw3⟩ xw3 (fb.tr (FrB.n f3)) (by rw [hS]; rfl)
      exact k31 T.length 0 M1 es rfl (by omega) ⟨_, _, _, nw1⟩ xw1 (FrB.a f1) rfl
    · have hT0 : T = [] := List.eq_nil_of_length_eq_zero z
      rw [if_pos hT0] at hS
      refine xg_sipush (pc := 25) hX (-1000) d_Nam_drop_25 ci_sipush_m1000 ?_
      refine xp_istore_1 (pc := 28) hX d_Nam_drop_28 (by decide) ?_
      refine xg_iconst (pc := 29) hX (nI 0) d_Nam_drop_29 ci_iconst_0 ?_
      refine xp_istore_2 (pc := 30) hX d_Nam_drop_30 (by decide) ?_
      exact k31f M1 (-1000) 0 es _ _ _ _ (by decide) (by omega) ⟨_, _, _, nw1⟩ xw1 (FrB.a f1) hS
  · have xw1 := xw.rea f1 b2
    have hS : sDrop (t, out, es, dp, se, sub, fr, bg) = (aI (some (rdM t 600).1.1), ([], out, es, dp, se, sub, fr, bg)) := by
      unfold sDrop
      dsimp only
      rw [if_neg (by rw [b1]; decide)]
    have hz : ¬ aI (some (rdM t 600).1.1) = 0 := aI_some (by omega)
    refine xp_istore_1 (pc := 10) hX d_Nam_drop_10 (by decide) ?_
    refine xp_iload_1 (pc := 11) hX d_Nam_drop_11 ?_
    refine xg_if_ne (pc := 12) hX 29 d_Nam_drop_12 (by decide) (fun z => ?_) (fun z => absurd z hz)
    refine xg_iconst (pc := 29) hX (nI 0) d_Nam_drop_29 ci_iconst_0 ?_
    refine xp_istore_2 (pc := 30) hX d_Nam_drop_30 (by decide) ?_
    exact k31f M1 _ 0 es _ _ _ _ hz (by omega) ⟨_, _, _, nw1⟩ xw1 (FrB.a f1) hS
set_option maxHeartbeats 4000000 in
set_option maxRecDepth 100000 in
theorem a_open (d : Nat) {M : xH} {sz B : Nat} {S : xS} (h : CW M B S) (hI : Inv S) : xC (d + 6) 0 0 Y_Nam_open [.ref B] M sz (qi sz (fun y M' => y = (sOpen S).1 ∧ CW M' B (sOpen S).2 ∧ FrB M M' B)) := by
  obtain ⟨t, out, es, dp, se, sub, fr, bg⟩ := S
  refine xC_of (by decide) (Nat.le_of_ble_eq_true rfl) (by simp [Value.category]) (vs := [some (.ref B), none]) rfl (fun K hX hE => ?_)
  obtain ⟨⟨full, g, L, nw⟩, tk, tg, pos, ans, pf, pt, xw⟩ := id h
  obtain ⟨-, i2, i3, i4, i5, -⟩ := hI
  obtain ⟨n1, -⟩ := id nw
  obtain ⟨hr, -⟩ := id xw
  obtain ⟨q1, q2, -⟩ := id hr
  have htl : t.length ≤ 600 := q2.2.1
  have k36 : ∀ (M1 : xH) (y : Int32) (dp1 : Nat) (se1 : List xSe) (tk1 : List xTk) (tg1 pos1 : Nat) (ans1 : Option Nat), (∃ f g' L', NW M1 B f g' L' es dp1 se1) → XW M1 B t tk1 tg1 pos1 ans1 out sub fr bg pf pt → FrB M M1 B → sOpen (t, out, es, dp, se, sub, fr, bg) = (if y = nI 0 then nI dp1 else y, ([], out, es, dp1, se1, sub, fr, bg)) → xG K 36 [some (.ref B), some (.int y)] [] M1 sz 0 0 := by
    rintro M1 y dp1 se1 tk1 tg1 pos1 ans1 ⟨f, g', L', nw1⟩ xw1 fb hS
    rw [hS] at hE
    obtain ⟨n1, -⟩ := id nw1
    obtain ⟨hr, -⟩ := id xw1
    obtain ⟨q1, q2, -⟩ := id hr
    obtain ⟨r1, -⟩ := id q2
    refine xp_aload_0 (pc := 36) hX d_Nam_open_36 ?_
    refine xg_get (pc := 37) hX (j := 0) k_Nam d_Nam_open_37 l_Nam_20 (by decide) (by first | assumption | exact xup_s _ _ _ | exact xup_o (by omega) (by assumption) | exact xup_o (by omega) (xup_s _ _ _) | exact xup_o (by omega) (xup_o (by omega) (by assumption)) | exact xup_o (by omega) (xup_o (by omega) (xup_s _ _ _)) | exact xup_o (by omega) (xup_o (by omega) (xup_o (by omega) (by assumption)))) (by rfl) ?_
    refine xv_V (Y2 := Y_Row_clear) (pc := 40) hX [] k_Row m_Row_clear d_Nam_open_40 l_Nam_89 rfl rfl (by simp [Value.category]) (by first | assumption | exact xup_s _ _ _ | exact xup_o (by omega) (by assumption) | exact xup_o (by omega) (xup_s _ _ _) | exact xup_o (by omega) (xup_o (by omega) (by assumption)) | exact xup_o (by omega) (xup_o (by omega) (xup_s _ _ _)) | exact xup_o (by omega) (xup_o (by omega) (xup_o (by omega) (by assumption)))) (c_Row_clear (d + 5) q2) (by omega) (by omega) ?_
    rintro M2 ⟨a1, a2⟩
    have nw2 := nw1.txt a2
    obtain ⟨n1, -, -, -, -, n6, -⟩ := id nw2
    obtain ⟨Sx, ⟨n6', -⟩, -⟩ := id n6
    have fe : FrB M M2 B := fb.tr (FrB.r2 a2 (by omega) (by omega))
    refine xp_iload_1 (pc := 43) hX d_Nam_open_43 ?_
    refine xg_if_ne (pc := 44) hX 57 d_Nam_open_44 (by decide) (fun z => ?_) (fun z => ?_)
    · refine xp_iload_1 (pc := 57) hX d_Nam_open_57 ?_
      refine xg_iret (pc := 58) hX hE d_Nam_open_58 rfl rfl (by omega) (by omega) ?_
      refine ⟨rfl, _, rfl, ?_, ⟨⟨_, _, _, nw2⟩, _, _, _, _, _, _, xw1.txt a2 a1⟩, fe⟩
      dsimp only
      rw [if_neg (fun q => z (by rw [q]; decide))]
    · refine xp_aload_0 (pc := 47) hX d_Nam_open_47 ?_
      refine xg_get (pc := 48) hX (j := 8) k_Nam d_Nam_open_48 l_Nam_53 (by decide) (by first | assumption | exact xup_s _ _ _ | exact xup_o (by omega) (by assumption) | exact xup_o (by omega) (xup_s _ _ _) | exact xup_o (by omega) (xup_o (by omega) (by assumption)) | exact xup_o (by omega) (xup_o (by omega) (xup_s _ _ _)) | exact xup_o (by omega) (xup_o (by omega) (xup_o (by omega) (by assumption)))) (by rfl) ?_
      refine xg_get (pc := 51) hX (j := 2) k_Poo d_Nam_open_51 l_Nam_122 (by decide) (by first | assumption | exact xup_s _ _ _ | exact xup_o (by omega) (by assumption) | exact xup_o (by omega) (xup_s _ _ _) | exact xup_o (by omega) (xup_o (by omega) (by assumption)) | exact xup_o (by omega) (xup_o (by omega) (xup_s _ _ _)) | exact xup_o (by omega) (xup_o (by omega) (xup_o (by omega) (by assumption)))) (by rfl) ?_
      refine xg_goto (pc := 54) hX 58 d_Nam_open_54 (by decide) ?_
      refine xg_iret (pc := 58) hX hE d_Nam_open_58 rfl rfl (by omega) (by omega) ?_
      refine ⟨rfl, _, rfl, ?_, ⟨⟨_, _, _, nw2⟩, _, _, _, _, _, _, xw1.txt a2 a1⟩, fe⟩
      dsimp only
      rw [if_pos (by rw [z]; decide)]
  refine xp_aload_0 (pc := 0) hX d_Nam_open_0 ?_
  refine xg_get (pc := 1) hX (j := 6) k_Nam d_Nam_open_1 l_Nam_10 (by decide) (by first | assumption | exact xup_s _ _ _ | exact xup_o (by omega) (by assumption) | exact xup_o (by omega) (xup_s _ _ _) | exact xup_o (by omega) (xup_o (by omega) (by assumption)) | exact xup_o (by omega) (xup_o (by omega) (xup_s _ _ _)) | exact xup_o (by omega) (xup_o (by omega) (xup_o (by omega) (by assumption)))) (by rfl) ?_
  refine xg_bipush (pc := 4) hX (nI 12) d_Nam_open_4 ci_bipush_12 ?_
  refine xi_V (Y2 := Y_Rea_readVariables) (pc := 6) hX [_] k_Rea m_Rea_readVariables d_Nam_open_6 l_Nam_115 rfl rfl (by simp [Value.category]) (by first | assumption | exact xup_s _ _ _ | exact xup_o (by omega) (by assumption) | exact xup_o (by omega) (xup_s _ _ _) | exact xup_o (by omega) (xup_o (by omega) (by assumption)) | exact xup_o (by omega) (xup_o (by omega) (xup_s _ _ _)) | exact xup_o (by omega) (xup_o (by omega) (xup_o (by omega) (by assumption)))) (c_Rea_readVariables (d + 2) hr (by omega)) (by omega) (by omega) ?_
  rintro y M1 ⟨hc, f1⟩
  have nw1 := nw.rea f1
  obtain ⟨n1, -, -, -, -, n6, -⟩ := id nw1
  obtain ⟨Sx, ⟨n6', -⟩, -⟩ := id n6
  obtain ⟨hok, hln⟩ := rdM_ok (t := t) (most := 12)
  have hbd := rdM_bd (t := t) (most := 12)
  rcases hc with ⟨b1, rfl, tg1, pos1, b2⟩ | ⟨b1, rfl, tk1, tg1, pos1, b2⟩
  · have xw1 := xw.rea f1 b2
    have hS : sOpen (t, out, es, dp, se, sub, fr, bg) = (if dp < 8 then (match opn es t dp (rdM t 12).2 se with | some se' => (nI (dp + 1), ([], out, es, dp + 1, se', sub, fr, bg)) | none => (-2, ([], out, es, dp, se, sub, fr, bg))) else (-4, ([], out, es, dp, se, sub, fr, bg))) := by
      unfold sOpen
      dsimp only
      rw [if_pos b1]
      rfl
    refine xp_istore_1 (pc := 9) hX d_Nam_open_9 (by decide) ?_
    refine xp_iload_1 (pc := 10) hX d_Nam_open_10 ?_
    refine xn_if_ne (pc := 11) hX 36 d_Nam_open_11 (by decide) (by decide) (fun z => absurd z (by decide)) (fun _ => ?_)
    refine xp_aload_0 (pc := 14) hX d_Nam_open_14 ?_
    refine xg_get (pc := 15) hX (j := 8) k_Nam d_Nam_open_15 l_Nam_53 (by decide) (by first | assumption | exact xup_s _ _ _ | exact xup_o (by omega) (by assumption) | exact xup_o (by omega) (xup_s _ _ _) | exact xup_o (by omega) (xup_o (by omega) (by assumption)) | exact xup_o (by omega) (xup_o (by omega) (xup_s _ _ _)) | exact xup_o (by omega) (xup_o (by omega) (xup_o (by omega) (by assumption)))) (by rfl) ?_
    refine xg_get (pc := 18) hX (j := 2) k_Poo d_Nam_open_18 l_Nam_122 (by decide) (by first | assumption | exact xup_s _ _ _ | exact xup_o (by omega) (by assumption) | exact xup_o (by omega) (xup_s _ _ _) | exact xup_o (by omega) (xup_o (by omega) (by assumption)) | exact xup_o (by omega) (xup_o (by omega) (xup_s _ _ _)) | exact xup_o (by omega) (xup_o (by omega) (xup_o (by omega) (by assumption)))) (by rfl) ?_
    refine xg_bipush (pc := 21) hX (nI 8) d_Nam_open_21 ci_bipush_8 ?_
    refine xn_icmp_ge (pc := 23) hX 33 d_Nam_open_23 (by decide) (by omega) (by omega) (fun z => ?_) (fun z => ?_)
    · rw [if_neg (by omega)] at hS
      refine xg_bipush (pc := 33) hX (-4) d_Nam_open_33 ci_bipush_m4 ?_
      refine xp_istore_1 (pc := 35) hX d_Nam_open_35 (by decide) ?_
      exact k36 M1 (-4) dp se _ _ _ _ ⟨_, _, _, nw1⟩ xw1 (FrB.a f1) (by rw [hS]; rfl)
    · rw [if_pos (by omega)] at hS
      refine xp_aload_0 (pc := 26) hX d_Nam_open_26 ?_
      refine xi_V (Y2 := Y_Nam_enterPool) (pc := 27) hX [] k_Nam m_Nam_enterPool d_Nam_open_27 l_Nam_125 rfl rfl (by simp [Value.category]) (by first | assumption | exact xup_s _ _ _ | exact xup_o (by omega) (by assumption) | exact xup_o (by omega) (xup_s _ _ _) | exact xup_o (by omega) (xup_o (by omega) (by assumption)) | exact xup_o (by omega) (xup_o (by omega) (xup_s _ _ _)) | exact xup_o (by omega) (xup_o (by omega) (xup_o (by omega) (by assumption)))) (c_Nam_enterPool d nw1 b2 hok (by omega) (fun s hs => (i2 s hs).2) i3 hln) (by omega) (by omega) ?_
      rintro y M2 ⟨hc, f2⟩
      have fe : FrB M M2 B := (FrB.a f1).tr (FrB.n f2)
      rcases hc with ⟨se', f, e1, rfl, nw2⟩ | ⟨f, e1, rfl, nw2⟩
      · rw [e1] at hS
        refine xg_goto (pc := 30) hX 35 d_Nam_open_30 (by decide) ?_
        refine xp_istore_1 (pc := 35) hX d_Nam_open_35 (by decide) ?_
        exact k36 M2 _ (dp + 1) se' _ _ _ _ ⟨_, _, _, nw2⟩ (xw1.nn f2) fe (by rw [hS, if_pos rfl])
      · rw [e1] at hS
        refine xg_goto (pc := 30) hX 35 d_Nam_open_30 (by decide) ?_
        refine xp_istore_1 (pc := 35) hX d_Nam_open_35 (by decide) ?_
        exact k36 M2 (-2) dp se _ _ _ _ ⟨_, _, _, nw2⟩ (xw1.nn f2) fe (by rw [hS]; rfl)
  · have xw1 := xw.rea f1 b2
    have hS : sOpen (t, out, es, dp, se, sub, fr, bg) = (aI (some (rdM t 12).1.1), ([], out, es, dp, se, sub, fr, bg)) := by
      unfold sOpen
      dsimp only
      rw [if_neg (by rw [b1]; decide)]
    have hz : ¬ aI (some (rdM t 12).1.1) = 0 := aI_some (by omega)
    refine xp_istore_1 (pc := 9) hX d_Nam_open_9 (by decide) ?_
    refine xp_iload_1 (pc := 10) hX d_Nam_open_10 ?_
    refine xg_if_ne (pc := 11) hX 36 d_Nam_open_11 (by decide) (fun z => ?_) (fun z => absurd z hz)
    exact k36 M1 _ dp se _ _ _ _ ⟨_, _, _, nw1⟩ xw1 (FrB.a f1) (by rw [hS, if_neg (fun q => hz (by rw [q]; decide))])
theorem a_parse (d : Nat) {M : xH} {sz B : Nat} {S : xS} (h : CW M B S) (hI : Inv S) : xC (d + 6) 0 0 Y_Nam_parse [.ref B] M sz (qi sz (fun y M' => y = (sParse S).1 ∧ CW M' B (sParse S).2 ∧ FrB M M' B)) := by
  obtain ⟨t, out, es, dp, se, sub, fr, bg⟩ := S
  obtain ⟨⟨full, g, L, nw⟩, tk, tg, pos, ans, pf, pt, xw⟩ := id h
  obtain ⟨hgI, -⟩ := hI
  refine xC_mono (c_Nam_parse d nw xw hgI) ?_
  rintro v M' sz' ⟨rfl, y, rfl, hc, fe⟩
  refine ⟨rfl, y, rfl, ?_⟩
  rcases hc with ⟨b1, b2, b3, b4⟩ | ⟨b1, b2, b3, b4⟩
  · have hS : sParse (t, out, es, dp, se, sub, fr, bg) = (y, ([], out, (prsS se (dp - 1) t sub (toks t 600 0 []).2 [] es 1 1).2.1, dp, se, sub, (prsS se (dp - 1) t sub (toks t 600 0 []).2 [] es 1 1).2.2.1, (prsS se (dp - 1) t sub (toks t 600 0 []).2 [] es 1 1).2.2.2)) := by
      unfold sParse
      dsimp only
      rw [if_pos b1, b2]
    rw [hS]
    exact ⟨rfl, ⟨b3, b4⟩, fe⟩
  · have hS : sParse (t, out, es, dp, se, sub, fr, bg) = (y, ([], out, es, dp, se, sub, fr, bg)) := by
      unfold sParse
      dsimp only
      rw [if_neg (by rw [b1]; decide), b2]
    rw [hS]
    exact ⟨rfl, ⟨b3, b4⟩, fe⟩
