/-! NameRoom: giving and dropping -/
theorem eIdx_get {es : List xEn} {p i : Nat} {nm : List UInt8} (h : eIdx es p nm = some i) : ∃ vo, es[i]? = some (p, nm, vo) := by
  unfold eIdx at h
  rw [List.findIdx?_eq_some_iff_getElem] at h
  obtain ⟨h1, h2, -⟩ := h
  refine ⟨es[i].2.2, ?_⟩
  rw [List.getElem?_eq_getElem h1]
  simp at h2
  obtain ⟨a, b⟩ := h2
  rw [← a, ← b]
/-- a place for a name, with what it says (none: gone); none if there is no room -/
def putE (es : List xEn) (p : Nat) (nm : List UInt8) (vo : Option (List UInt8)) : Option (List xEn) := match eIdx es p nm with
  | some i => some (es.set i (p, nm, vo))
  | none => if es.length < 100 then some (es ++ [(p, nm, vo)]) else none
/-- what giving or dropping a STEM takes away first -/
def clE (es : List xEn) (p : Nat) (nm : List UInt8) : List xEn := if isSt nm then es.filter (fun e => !beh p nm e) else es
theorem ShA.setE {M M' : xH} {h i : Nat} {g : Nat → Nat} {L : Nat → xEn × Bool} {es : List xEn} {e' : xEn} (hs : ShA M h g L es) (hi : i < es.length) (hf : FrR M M' (h + 2 + 5 * g i) (h + 2 + 5 * g i + 5)) (he : EnA M' (h + 2 + 5 * g i) (e', false)) : ShA M' h g (fun j => if j = i then (e', false) else L j) (es.set i e') := by
  have hl := hs.1.2.1
  refine ⟨?_, ?_⟩
  · rw [List.length_set]
    exact hs.1.set (by omega) hf he
  · intro j e hj
    by_cases hji : j = i
    · subst hji
      rw [List.getElem?_set_self hi] at hj
      cases hj
      simp
    · rw [List.getElem?_set_ne (Ne.symm hji)] at hj
      simp only [if_neg hji]
      exact hs.2 j e hj
theorem xC_mono {d mc ms : Nat} {Y : xM} {av : List Value} {M : xH} {sz : Nat} {Q Q' : xQ} (h : xC d mc ms Y av M sz Q) (hq : ∀ v M' sz', Q v M' sz' → Q' v M' sz') : xC d mc ms Y av M sz Q' := by
  intro l D dA
  refine MetFree.mono (h l D dA) (fun _ _ x => x) (fun _ _ _ _ _ x => x) ?_
  rintro a st o t - ⟨⟨⟨v, M', sz', e1, e2, e3⟩, e4⟩, e5⟩
  exact ⟨⟨⟨v, M', sz', e1, hq v M' sz' e2, e3⟩, e4⟩, e5⟩
theorem c_She_place (d : Nat) {M : xH} {sz h t wt p : Nat} {g : Nat → Nat} {L : Nat → xEn × Bool} {es : List xEn} {nm : List UInt8} (hs : ShA M h g L es) (ht : RowAt M t wt nm) (htd : t + 1 < h ∨ h + 502 ≤ t) (hnm : nm.length ≤ 200) (hwt : wt < 1000000) (hp : p < 1000) : xC (d + 3) 0 0 Y_She_findOrAdd [.ref h, .ref t, .int (nI p)] M sz (qr sz (fun o M' => (∃ i es' L' vo, o = some (h + 2 + 5 * g i) ∧ ShA M' h g L' es' ∧ es'[i]? = some (p, nm, vo) ∧ (∀ w, putE es p nm w = some (es'.set i (p, nm, w))) ∧ FrR M M' h (h + 502)) ∨ (o = none ∧ M' = M ∧ ∀ w, putE es p nm w = none))) := by
  refine xC_mono (c_She_findOrAdd d (sz := sz) hs ht htd hnm hwt hp) ?_
  rintro v M' sz' ⟨rfl, o, rfl, hc⟩
  refine ⟨rfl, o, rfl, ?_⟩
  rcases hc with ⟨i, he, rfl, rfl⟩ | ⟨he, hl, rfl, ⟨L', h1⟩, h2⟩ | ⟨he, hl, rfl, rfl⟩
  · obtain ⟨vo, hv⟩ := eIdx_get he
    refine Or.inl ⟨i, es, L, vo, rfl, hs, hv, fun w => ?_, FrR.rf _ _ _⟩
    unfold putE
    rw [he]
  · refine Or.inl ⟨es.length, _, L', some [], rfl, h1, by simp, fun w => ?_, h2⟩
    unfold putE
    rw [he]
    dsimp only
    rw [if_pos hl]
    congr 1
    simp
  · refine Or.inr ⟨rfl, rfl, fun w => ?_⟩
    unfold putE
    rw [he]
    dsimp only
    rw [if_neg (by omega)]
def txA (B : Nat) (g : Nat → Nat) (o : Option Nat) : Nat := match o with
  | none => B + 9
  | some i => B + 17 + 2 + 5 * g i + 3
set_option maxHeartbeats 4000000 in
set_option maxRecDepth 100000 in
theorem c_Nam_textOf (d : Nat) {M : xH} {sz B dp : Nat} {full : List UInt8} {g : Nat → Nat} {L : Nat → xEn × Bool} {es : List xEn} {se : List xSe} {o : Option Nat} (h : NW M B full g L es dp se) (ho : ∀ i, o = some i → i < es.length) : xC d 0 0 Y_Nam_textOf [.ref B, va_rf (o.map (fun i => B + 17 + 2 + 5 * g i))] M sz (qr sz (fun r M' => r = some (txA B g o) ∧ M' = M)) := by
  obtain ⟨h1, h2, -, -, h5, -⟩ := id h
  obtain ⟨⟨n5', n5l, -, -, -, n5e⟩, n5L⟩ := id h5
  cases o with
  | none =>
    refine xC_of (by decide) (Nat.le_of_ble_eq_true rfl) (by simp [Value.category, va_rf]) (vs := [some (.ref B), some .null]) rfl (fun K hX hE => ?_)
    refine xp_aloadN_1 (pc := 0) hX d_Nam_textOf_0 ?_
    refine xg_ifnonnullN (pc := 1) hX d_Nam_textOf_1 ?_
    refine xp_aload_0 (pc := 4) hX d_Nam_textOf_4 ?_
    refine xg_get (pc := 5) hX (j := 2) k_Nam d_Nam_textOf_5 l_Nam_31 (by decide) (by first | assumption | exact xup_s _ _ _ | exact xup_o (by omega) (by assumption) | exact xup_o (by omega) (xup_s _ _ _) | exact xup_o (by omega) (xup_o (by omega) (by assumption)) | exact xup_o (by omega) (xup_o (by omega) (xup_s _ _ _)) | exact xup_o (by omega) (xup_o (by omega) (xup_o (by omega) (by assumption)))) (by rfl) ?_
    refine xg_goto (pc := 8) hX 15 d_Nam_textOf_8 (by decide) ?_
    refine xg_aret (pc := 15) hX hE d_Nam_textOf_15 rfl (Or.inr ⟨_, rfl⟩) (by omega) (by omega) ?_
    exact ⟨rfl, some _, rfl, rfl, rfl⟩
  | some i =>
    have hi := ho i rfl
    obtain ⟨e1, -⟩ := n5e i (by omega)
    refine xC_of (by decide) (Nat.le_of_ble_eq_true rfl) (by simp [Value.category, va_rf]) (vs := [some (.ref B), some (.ref (B + 17 + 2 + 5 * g i))]) rfl (fun K hX hE => ?_)
    refine xp_aload_1 (pc := 0) hX d_Nam_textOf_0 ?_
    refine xg_ifnonnull (pc := 1) hX 11 d_Nam_textOf_1 (by decide) ?_
    refine xp_aload_1 (pc := 11) hX d_Nam_textOf_11 ?_
    refine xg_get (pc := 12) hX (j := 1) k_Ent d_Nam_textOf_12 l_Nam_171 (by decide) (by first | assumption | exact xup_s _ _ _ | exact xup_o (by omega) (by assumption) | exact xup_o (by omega) (xup_s _ _ _) | exact xup_o (by omega) (xup_o (by omega) (by assumption)) | exact xup_o (by omega) (xup_o (by omega) (xup_s _ _ _)) | exact xup_o (by omega) (xup_o (by omega) (xup_o (by omega) (by assumption)))) (by rfl) ?_
    refine xg_aret (pc := 15) hX hE d_Nam_textOf_15 rfl (Or.inr ⟨_, rfl⟩) (by omega) (by omega) ?_
    exact ⟨rfl, some _, rfl, rfl, rfl⟩
set_option maxHeartbeats 4000000 in
set_option maxRecDepth 100000 in
theorem c_Nam_give (d : Nat) {M : xH} {sz B dp s ws a b : Nat} {full src : List UInt8} {g : Nat → Nat} {L : Nat → xEn × Bool} {es : List xEn} {se : List xSe} (h : NW M B full g L es dp se) (hs : RowAt M s ws src) (hsd : s + 1 < B + 9 ∨ B + 773 ≤ s) (hab : a ≤ b) (hb : b ≤ src.length) (hv : b - a ≤ 200) (hws : ws < 1000000) : xC (d + 4) 0 0 Y_Nam_give [.ref B, .ref s, .int (nI a), .int (nI b)] M sz (qi sz (fun y M' => ((∃ es2 g' L', putE (clE es (own se full (dp - 1)) full) (own se full (dp - 1)) full (some (sl src a b)) = some es2 ∧ y = nI 0 ∧ NW M' B full g' L' es2 dp se) ∨ (∃ g' L', putE (clE es (own se full (dp - 1)) full) (own se full (dp - 1)) full (some (sl src a b)) = none ∧ y = -4 ∧ NW M' B full g' L' (clE es (own se full (dp - 1)) full) dp se)) ∧ FrN M M' B)) := by
  refine xC_of (by decide) (Nat.le_of_ble_eq_true rfl) (by simp [Value.category]) (vs := [some (.ref B), some (.ref s), some (.int (nI a)), some (.int (nI b)), none, none]) rfl (fun K hX hE => ?_)
  obtain ⟨h1, h2, -, -, h5, h6, h7, h8, h9⟩ := id h
  obtain ⟨r2, r2l, -⟩ := id h2
  obtain ⟨S, ⟨n6', -⟩, -⟩ := id h6
  obtain ⟨⟨n5', -⟩, -⟩ := id h5
  have hole := own_le se full (dp - 1)
  refine xp_aload_0 (pc := 0) hX d_Nam_give_0 ?_
  refine xg_get (pc := 1) hX (j := 8) k_Nam d_Nam_give_1 l_Nam_53 (by decide) (by first | assumption | exact xup_s _ _ _ | exact xup_o (by omega) (by assumption) | exact xup_o (by omega) (xup_s _ _ _) | exact xup_o (by omega) (xup_o (by omega) (by assumption)) | exact xup_o (by omega) (xup_o (by omega) (xup_s _ _ _)) | exact xup_o (by omega) (xup_o (by omega) (xup_o (by omega) (by assumption)))) (by rfl) ?_
  refine xp_aload_0 (pc := 4) hX d_Nam_give_4 ?_
  refine xg_get (pc := 5) hX (j := 2) k_Nam d_Nam_give_5 l_Nam_31 (by decide) (by first | assumption | exact xup_s _ _ _ | exact xup_o (by omega) (by assumption) | exact xup_o (by omega) (xup_s _ _ _) | exact xup_o (by omega) (xup_o (by omega) (by assumption)) | exact xup_o (by omega) (xup_o (by omega) (xup_s _ _ _)) | exact xup_o (by omega) (xup_o (by omega) (xup_o (by omega) (by assumption)))) (by rfl) ?_
  refine xp_aload_0 (pc := 8) hX d_Nam_give_8 ?_
  refine xg_get (pc := 9) hX (j := 8) k_Nam d_Nam_give_9 l_Nam_53 (by decide) (by first | assumption | exact xup_s _ _ _ | exact xup_o (by omega) (by assumption) | exact xup_o (by omega) (xup_s _ _ _) | exact xup_o (by omega) (xup_o (by omega) (by assumption)) | exact xup_o (by omega) (xup_o (by omega) (xup_s _ _ _)) | exact xup_o (by omega) (xup_o (by omega) (xup_o (by omega) (by assumption)))) (by rfl) ?_
  refine xi_V (Y2 := Y_Poo_innermost) (pc := 12) hX [] k_Poo m_Poo_innermost d_Nam_give_12 l_Nam_128 rfl rfl (by simp [Value.category]) (by first | assumption | exact xup_s _ _ _ | exact xup_o (by omega) (by assumption) | exact xup_o (by omega) (xup_s _ _ _) | exact xup_o (by omega) (xup_o (by omega) (by assumption)) | exact xup_o (by omega) (xup_o (by omega) (xup_s _ _ _)) | exact xup_o (by omega) (xup_o (by omega) (xup_o (by omega) (by assumption)))) (c_Poo_innermost (d + 3) h6) (by omega) (by omega) ?_
  rintro y M1 ⟨rfl, rfl⟩
  refine xi_V (Y2 := Y_Poo_owner) (pc := 15) hX [_, _] k_Poo m_Poo_owner d_Nam_give_15 l_Nam_213 rfl rfl (by simp [Value.category]) (by first | assumption | exact xup_s _ _ _ | exact xup_o (by omega) (by assumption) | exact xup_o (by omega) (xup_s _ _ _) | exact xup_o (by omega) (xup_o (by omega) (by assumption)) | exact xup_o (by omega) (xup_o (by omega) (xup_s _ _ _)) | exact xup_o (by omega) (xup_o (by omega) (xup_o (by omega) (by assumption)))) (c_Poo_owner (d + 1) h6 h7 h2 (by omega) (by omega)) (by omega) (by omega) ?_
  rintro y M1 ⟨rfl, rfl⟩
  generalize hq : own se full (dp - 1) = p at *
  have k43 : ∀ (M2 : xH) (g2 : Nat → Nat) (L2 : Nat → xEn × Bool), NW M2 B full g2 L2 (clE es p full) dp se → FrN M1 M2 B → xG K 43 [some (.ref B), some (.ref s), some (.int (nI a)), some (.int (nI b)), some (.int (nI p)), none] [] M2 sz 0 0 := by
    intro M2 g2 L2 nw2 f2
    obtain ⟨h1, h2, -, -, h5, -⟩ := id nw2
    obtain ⟨r2, r2l, -⟩ := id h2
    obtain ⟨⟨n5', -⟩, -⟩ := id h5
    refine xp_aload_0 (pc := 43) hX d_Nam_give_43 ?_
    refine xg_get (pc := 44) hX (j := 7) k_Nam d_Nam_give_44 l_Nam_46 (by decide) (by first | assumption | exact xup_s _ _ _ | exact xup_o (by omega) (by assumption) | exact xup_o (by omega) (xup_s _ _ _) | exact xup_o (by omega) (xup_o (by omega) (by assumption)) | exact xup_o (by omega) (xup_o (by omega) (xup_s _ _ _)) | exact xup_o (by omega) (xup_o (by omega) (xup_o (by omega) (by assumption)))) (by rfl) ?_
    refine xp_aload_0 (pc := 47) hX d_Nam_give_47 ?_
    refine xg_get (pc := 48) hX (j := 2) k_Nam d_Nam_give_48 l_Nam_31 (by decide) (by first | assumption | exact xup_s _ _ _ | exact xup_o (by omega) (by assumption) | exact xup_o (by omega) (xup_s _ _ _) | exact xup_o (by omega) (xup_o (by omega) (by assumption)) | exact xup_o (by omega) (xup_o (by omega) (xup_s _ _ _)) | exact xup_o (by omega) (xup_o (by omega) (xup_o (by omega) (by assumption)))) (by rfl) ?_
    refine xp_iload_4 (pc := 51) hX d_Nam_give_51 ?_
    refine xr_V (Y2 := Y_She_findOrAdd) (pc := 53) hX [_, _] k_She m_She_findOrAdd d_Nam_give_53 l_Nam_238 rfl rfl (by simp [Value.category]) (by first | assumption | exact xup_s _ _ _ | exact xup_o (by omega) (by assumption) | exact xup_o (by omega) (xup_s _ _ _) | exact xup_o (by omega) (xup_o (by omega) (by assumption)) | exact xup_o (by omega) (xup_o (by omega) (xup_s _ _ _)) | exact xup_o (by omega) (xup_o (by omega) (xup_o (by omega) (by assumption)))) (c_She_place d h5 h2 (by omega) (by omega) (by omega) (by omega)) (by omega) (by omega) ?_
    intro o M3 hc
    rcases hc with ⟨i, es', L', vo, rfl, a1, a2, a3, a4⟩ | ⟨rfl, rfl, a3⟩
    · have hi := (List.getElem?_eq_some_iff.mp a2).1
      have hle := a1.1.2.1
      have gi := a1.1.2.2.2.1 i (by omega)
      obtain ⟨e1, e2, e3, v, e4, -⟩ := a1.1.2.2.2.2.2 i (by omega)
      rw [a1.2 i _ a2] at e1 e2 e3
      dsimp only at e1 e2 e3
      have hs3 : RowAt M3 s ws src := hs.kept ((a4 _ (by omega)).trans (f2 _ (by omega))) ((a4 _ (by omega)).trans (f2 _ (by omega)))
      generalize hea : B + 17 + 2 + 5 * g2 i = ea at e1 e2 e3 e4
      refine xp_astore_5 (x := ea) (pc := 56) hX d_Nam_give_56 (by decide) ?_
      refine xp_aload_5 (pc := 58) hX d_Nam_give_58 ?_
      refine xg_ifnonnull (pc := 60) hX 66 d_Nam_give_60 (by decide) ?_
      refine xp_aload_5 (pc := 66) hX d_Nam_give_66 ?_
      refine xg_iconst (pc := 68) hX (nI 0) d_Nam_give_68 ci_iconst_0 ?_
      refine xg_put (pc := 69) hX (j := 3) k_Ent d_Nam_give_69 l_Nam_167 (by decide) rfl (by first | assumption | exact xup_s _ _ _ | exact xup_o (by omega) (by assumption) | exact xup_o (by omega) (xup_s _ _ _) | exact xup_o (by omega) (xup_o (by omega) (by assumption)) | exact xup_o (by omega) (xup_o (by omega) (xup_s _ _ _)) | exact xup_o (by omega) (xup_o (by omega) (xup_o (by omega) (by assumption)))) (Nat.le_of_ble_eq_true rfl) (by first | rfl | decide) (by first | rfl | decide) (by simp only [List.set_cons_zero, List.set_cons_succ]; exact rfl) ?_
      have e4' : RowAt (xup M3 ea (.inr (1, [.ref (ea + 1), .ref (ea + 3), .int (nI p), .int (nI 0), .int (bI false)]))) (ea + 3) 200 v := e4.kept (xup_n _ _ (by omega)) (xup_n _ _ (by omega))
      obtain ⟨r4, -⟩ := id e4'
      refine xp_aload_5 (pc := 72) hX d_Nam_give_72 ?_
      refine xg_get (pc := 74) hX (j := 1) k_Ent d_Nam_give_74 l_Nam_171 (by decide) (by first | assumption | exact xup_s _ _ _ | exact xup_o (by omega) (by assumption) | exact xup_o (by omega) (xup_s _ _ _) | exact xup_o (by omega) (xup_o (by omega) (by assumption)) | exact xup_o (by omega) (xup_o (by omega) (xup_s _ _ _)) | exact xup_o (by omega) (xup_o (by omega) (xup_o (by omega) (by assumption)))) (by rfl) ?_
      refine xv_V (Y2 := Y_Row_clear) (pc := 77) hX [] k_Row m_Row_clear d_Nam_give_77 l_Nam_89 rfl rfl (by simp [Value.category]) (by first | assumption | exact xup_s _ _ _ | exact xup_o (by omega) (by assumption) | exact xup_o (by omega) (xup_s _ _ _) | exact xup_o (by omega) (xup_o (by omega) (by assumption)) | exact xup_o (by omega) (xup_o (by omega) (xup_s _ _ _)) | exact xup_o (by omega) (xup_o (by omega) (xup_o (by omega) (by assumption)))) (c_Row_clear (d + 3) e4') (by omega) (by omega) ?_
      rintro M4 ⟨b1, b2⟩
      have q1 : M4 ea = some (.inr (1, [.ref (ea + 1), .ref (ea + 3), .int (nI p), .int (nI 0), .int (bI false)])) := by rw [b2 _ (by omega) (by omega)]; exact xup_s _ _ _
      have q2 : RowAt M4 (ea + 1) 200 full := e3.kept (by rw [b2 _ (by omega) (by omega), xup_n _ _ (by omega)]) (by rw [b2 _ (by omega) (by omega), xup_n _ _ (by omega)])
      have hs4 : RowAt M4 s ws src := hs3.kept (by rw [b2 _ (by omega) (by omega), xup_n _ _ (by omega)]) (by rw [b2 _ (by omega) (by omega), xup_n _ _ (by omega)])
      obtain ⟨r5, -⟩ := id b1
      refine xp_aload_5 (pc := 80) hX d_Nam_give_80 ?_
      refine xg_get (pc := 82) hX (j := 1) k_Ent d_Nam_give_82 l_Nam_171 (by decide) (by first | assumption | exact xup_s _ _ _ | exact xup_o (by omega) (by assumption) | exact xup_o (by omega) (xup_s _ _ _) | exact xup_o (by omega) (xup_o (by omega) (by assumption)) | exact xup_o (by omega) (xup_o (by omega) (xup_s _ _ _)) | exact xup_o (by omega) (xup_o (by omega) (xup_o (by omega) (by assumption)))) (by rfl) ?_
      refine xp_aload_1 (pc := 85) hX d_Nam_give_85 ?_
      refine xp_iload_2 (pc := 86) hX d_Nam_give_86 ?_
      refine xp_iload_3 (pc := 87) hX d_Nam_give_87 ?_
      refine xi_V (Y2 := Y_Row_addPart) (pc := 88) hX [_, _, _] k_Row m_Row_addPart d_Nam_give_88 l_Nam_221 rfl rfl (by simp [Value.category]) (by first | assumption | exact xup_s _ _ _ | exact xup_o (by omega) (by assumption) | exact xup_o (by omega) (xup_s _ _ _) | exact xup_o (by omega) (xup_o (by omega) (by assumption)) | exact xup_o (by omega) (xup_o (by omega) (xup_s _ _ _)) | exact xup_o (by omega) (xup_o (by omega) (xup_o (by omega) (by assumption)))) (c_Row_addPart (d + 2) b1 hs4 (by omega) hab hb (by omega) (by omega)) (by omega) (by omega) ?_
      intro y M5 hadd
      rcases hadd with ⟨-, -, c1, c2⟩ | ⟨z, -, -⟩
      · refine xg_pop (pc := 91) hX d_Nam_give_91 rfl ?_
        refine xg_iconst (pc := 92) hX (nI 0) d_Nam_give_92 ci_iconst_0 ?_
        refine xg_iret (pc := 93) hX hE d_Nam_give_93 rfl rfl (by omega) (by omega) ?_
        rw [List.nil_append] at c1
        have hfr : FrR M3 M5 (B + 17 + 2 + 5 * g2 i) (B + 17 + 2 + 5 * g2 i + 5) := fun q hq => by
          rw [hea] at hq
          rw [c2 _ (by omega) (by omega), b2 _ (by omega) (by omega), xup_n _ _ (by omega)]
        have hsh := a1.setE hi hfr (e' := (p, full, some (sl src a b))) (by
          rw [hea]
          exact ⟨by rw [c2 _ (by omega) (by omega)]; exact q1, e2, q2.kept (c2 _ (by omega) (by omega)) (c2 _ (by omega) (by omega)), _, c1, fun u hu => Option.some.inj hu⟩)
        have f5 : FrR M2 M5 (B + 17) (B + 17 + 502) := a4.tr (hfr.wide (by omega) (by omega))
        exact ⟨rfl, _, rfl, Or.inl ⟨_, g2, _, a3 _, rfl, nw2.shelf f5 hsh⟩, f2.tr (FrN.rR f5 (by omega))⟩
      · simp at z
        omega
    · refine xp_astoreN_5 (pc := 56) hX d_Nam_give_56 (by decide) ?_
      refine xp_aloadN_5 (pc := 58) hX d_Nam_give_58 ?_
      refine xg_ifnonnullN (pc := 60) hX d_Nam_give_60 ?_
      refine xg_bipush (pc := 63) hX (-4) d_Nam_give_63 ci_bipush_m4 ?_
      refine xg_iret (pc := 65) hX hE d_Nam_give_65 rfl rfl (by omega) (by omega) ?_
      exact ⟨rfl, _, rfl, Or.inr ⟨g2, L2, a3 _, rfl, nw2⟩, f2⟩
  refine xp_istore_4 (pc := 18) hX d_Nam_give_18 (by decide) ?_
  refine xp_aload_0 (pc := 20) hX d_Nam_give_20 ?_
  refine xg_get (pc := 21) hX (j := 2) k_Nam d_Nam_give_21 l_Nam_31 (by decide) (by first | assumption | exact xup_s _ _ _ | exact xup_o (by omega) (by assumption) | exact xup_o (by omega) (xup_s _ _ _) | exact xup_o (by omega) (xup_o (by omega) (by assumption)) | exact xup_o (by omega) (xup_o (by omega) (xup_s _ _ _)) | exact xup_o (by omega) (xup_o (by omega) (xup_o (by omega) (by assumption)))) (by rfl) ?_
  refine xi_V (Y2 := Y_Row_isStem) (pc := 24) hX [] k_Row m_Row_isStem d_Nam_give_24 l_Nam_231 rfl rfl (by simp [Value.category]) (by first | assumption | exact xup_s _ _ _ | exact xup_o (by omega) (by assumption) | exact xup_o (by omega) (xup_s _ _ _) | exact xup_o (by omega) (xup_o (by omega) (by assumption)) | exact xup_o (by omega) (xup_o (by omega) (xup_s _ _ _)) | exact xup_o (by omega) (xup_o (by omega) (xup_o (by omega) (by assumption)))) (c_Row_isStem (d + 2) h2 (by omega)) (by omega) (by omega) ?_
  rintro y M2 ⟨rfl, rfl⟩
  refine xg_if_eq (pc := 27) hX 43 d_Nam_give_27 (by decide) (fun w => ?_) (fun w => ?_)
  · have w := bI_eq0.mp w
    refine k43 _ g L ?_ (FrN.rf _ _)
    unfold clE
    rw [w]
    exact h
  · have w := bI_ne0.mp w
    refine xp_aload_0 (pc := 30) hX d_Nam_give_30 ?_
    refine xg_get (pc := 31) hX (j := 7) k_Nam d_Nam_give_31 l_Nam_46 (by decide) (by first | assumption | exact xup_s _ _ _ | exact xup_o (by omega) (by assumption) | exact xup_o (by omega) (xup_s _ _ _) | exact xup_o (by omega) (xup_o (by omega) (by assumption)) | exact xup_o (by omega) (xup_o (by omega) (xup_s _ _ _)) | exact xup_o (by omega) (xup_o (by omega) (xup_o (by omega) (by assumption)))) (by rfl) ?_
    refine xp_aload_0 (pc := 34) hX d_Nam_give_34 ?_
    refine xg_get (pc := 35) hX (j := 2) k_Nam d_Nam_give_35 l_Nam_31 (by decide) (by first | assumption | exact xup_s _ _ _ | exact xup_o (by omega) (by assumption) | exact xup_o (by omega) (xup_s _ _ _) | exact xup_o (by omega) (xup_o (by omega) (by assumption)) | exact xup_o (by omega) (xup_o (by omega) (xup_s _ _ _)) | exact xup_o (by omega) (xup_o (by omega) (xup_o (by omega) (by assumption)))) (by rfl) ?_
    refine xp_iload_4 (pc := 38) hX d_Nam_give_38 ?_
    refine xv_V (Y2 := Y_She_clearBehind) (pc := 40) hX [_, _] k_She m_She_clearBehind d_Nam_give_40 l_Nam_234 rfl rfl (by simp [Value.category]) (by first | assumption | exact xup_s _ _ _ | exact xup_o (by omega) (by assumption) | exact xup_o (by omega) (xup_s _ _ _) | exact xup_o (by omega) (xup_o (by omega) (by assumption)) | exact xup_o (by omega) (xup_o (by omega) (xup_s _ _ _)) | exact xup_o (by omega) (xup_o (by omega) (xup_o (by omega) (by assumption)))) (c_She_clearBehind (d + 2) h5 h2 (by omega) (by omega) (by omega)) (by omega) (by omega) ?_
    rintro M3 ⟨⟨g', L', a1⟩, a2⟩
    refine k43 _ g' L' ?_ (FrN.rR a2 (by omega))
    unfold clE
    rw [w]
    exact h.shelf a2 a1
/-- dropping a name -/
def dropE (es : List xEn) (se : List xSe) (p : Nat) (nm : List UInt8) : Option (List xEn) := match stI (clE es p nm) se p nm with
  | some _ => putE (clE es p nm) p nm none
  | none => some (match eIdx (clE es p nm) p nm with | none => clE es p nm | some i => (clE es p nm).eraseIdx i)
set_option maxHeartbeats 4000000 in
set_option maxRecDepth 100000 in
theorem c_Nam_takeBack (d : Nat) {M : xH} {sz B dp : Nat} {full : List UInt8} {g : Nat → Nat} {L : Nat → xEn × Bool} {es : List xEn} {se : List xSe} (h : NW M B full g L es dp se) (hne : 0 < full.length) : xC (d + 4) 0 0 Y_Nam_takeBack [.ref B] M sz (qi sz (fun y M' => ((∃ es2 g' L', dropE es se (own se full (dp - 1)) full = some es2 ∧ y = nI 0 ∧ NW M' B full g' L' es2 dp se) ∨ (∃ g' L', dropE es se (own se full (dp - 1)) full = none ∧ y = -4 ∧ NW M' B full g' L' (clE es (own se full (dp - 1)) full) dp se)) ∧ FrN M M' B)) := by
  refine xC_of (by decide) (Nat.le_of_ble_eq_true rfl) (by simp [Value.category]) (vs := [some (.ref B), none, none]) rfl (fun K hX hE => ?_)
  obtain ⟨h1, h2, -, -, h5, h6, h7, h8, h9⟩ := id h
  obtain ⟨r2, r2l, -⟩ := id h2
  obtain ⟨S, ⟨n6', -⟩, -⟩ := id h6
  obtain ⟨⟨n5', -⟩, -⟩ := id h5
  have hole := own_le se full (dp - 1)
  refine xp_aload_0 (pc := 0) hX d_Nam_takeBack_0 ?_
  refine xg_get (pc := 1) hX (j := 8) k_Nam d_Nam_takeBack_1 l_Nam_53 (by decide) (by first | assumption | exact xup_s _ _ _ | exact xup_o (by omega) (by assumption) | exact xup_o (by omega) (xup_s _ _ _) | exact xup_o (by omega) (xup_o (by omega) (by assumption)) | exact xup_o (by omega) (xup_o (by omega) (xup_s _ _ _)) | exact xup_o (by omega) (xup_o (by omega) (xup_o (by omega) (by assumption)))) (by rfl) ?_
  refine xp_aload_0 (pc := 4) hX d_Nam_takeBack_4 ?_
  refine xg_get (pc := 5) hX (j := 2) k_Nam d_Nam_takeBack_5 l_Nam_31 (by decide) (by first | assumption | exact xup_s _ _ _ | exact xup_o (by omega) (by assumption) | exact xup_o (by omega) (xup_s _ _ _) | exact xup_o (by omega) (xup_o (by omega) (by assumption)) | exact xup_o (by omega) (xup_o (by omega) (xup_s _ _ _)) | exact xup_o (by omega) (xup_o (by omega) (xup_o (by omega) (by assumption)))) (by rfl) ?_
  refine xp_aload_0 (pc := 8) hX d_Nam_takeBack_8 ?_
  refine xg_get (pc := 9) hX (j := 8) k_Nam d_Nam_takeBack_9 l_Nam_53 (by decide) (by first | assumption | exact xup_s _ _ _ | exact xup_o (by omega) (by assumption) | exact xup_o (by omega) (xup_s _ _ _) | exact xup_o (by omega) (xup_o (by omega) (by assumption)) | exact xup_o (by omega) (xup_o (by omega) (xup_s _ _ _)) | exact xup_o (by omega) (xup_o (by omega) (xup_o (by omega) (by assumption)))) (by rfl) ?_
  refine xi_V (Y2 := Y_Poo_innermost) (pc := 12) hX [] k_Poo m_Poo_innermost d_Nam_takeBack_12 l_Nam_128 rfl rfl (by simp [Value.category]) (by first | assumption | exact xup_s _ _ _ | exact xup_o (by omega) (by assumption) | exact xup_o (by omega) (xup_s _ _ _) | exact xup_o (by omega) (xup_o (by omega) (by assumption)) | exact xup_o (by omega) (xup_o (by omega) (xup_s _ _ _)) | exact xup_o (by omega) (xup_o (by omega) (xup_o (by omega) (by assumption)))) (c_Poo_innermost (d + 3) h6) (by omega) (by omega) ?_
  rintro y M1 ⟨rfl, rfl⟩
  refine xi_V (Y2 := Y_Poo_owner) (pc := 15) hX [_, _] k_Poo m_Poo_owner d_Nam_takeBack_15 l_Nam_213 rfl rfl (by simp [Value.category]) (by first | assumption | exact xup_s _ _ _ | exact xup_o (by omega) (by assumption) | exact xup_o (by omega) (xup_s _ _ _) | exact xup_o (by omega) (xup_o (by omega) (by assumption)) | exact xup_o (by omega) (xup_o (by omega) (xup_s _ _ _)) | exact xup_o (by omega) (xup_o (by omega) (xup_o (by omega) (by assumption)))) (c_Poo_owner (d + 1) h6 h7 h2 (by omega) (by omega)) (by omega) (by omega) ?_
  rintro y M1 ⟨rfl, rfl⟩
  generalize hq : own se full (dp - 1) = p at *
  have k41 : ∀ (M2 : xH) (g2 : Nat → Nat) (L2 : Nat → xEn × Bool), NW M2 B full g2 L2 (clE es p full) dp se → FrN M1 M2 B → xG K 41 [some (.ref B), some (.int (nI p)), none] [] M2 sz 0 0 := by
    intro M2 g2 L2 nw2 f2
    obtain ⟨h1, -⟩ := id nw2
    refine xp_aload_0 (pc := 41) hX d_Nam_takeBack_41 ?_
    refine xp_iload_1 (pc := 42) hX d_Nam_takeBack_42 ?_
    refine xr_V (Y2 := Y_Nam_stemOf) (pc := 43) hX [_] k_Nam m_Nam_stemOf d_Nam_takeBack_43 l_Nam_224 rfl rfl (by simp [Value.category]) (by first | assumption | exact xup_s _ _ _ | exact xup_o (by omega) (by assumption) | exact xup_o (by omega) (xup_s _ _ _) | exact xup_o (by omega) (xup_o (by omega) (by assumption)) | exact xup_o (by omega) (xup_o (by omega) (xup_s _ _ _)) | exact xup_o (by omega) (xup_o (by omega) (xup_o (by omega) (by assumption)))) (c_Nam_stemOf d nw2 hne (by omega)) (by omega) (by omega) ?_
    rintro o M3 ⟨rfl, nw3, f3⟩
    obtain ⟨h1, h2, -, -, h5, -⟩ := id nw3
    obtain ⟨r2, r2l, -⟩ := id h2
    obtain ⟨⟨n5', -⟩, -⟩ := id h5
    have hd : dropE es se p full = (match stI (clE es p full) se p full with
      | some _ => putE (clE es p full) p full none
      | none => some (match eIdx (clE es p full) p full with | none => clE es p full | some i => (clE es p full).eraseIdx i)) := rfl
    cases hst : stI (clE es p full) se p full with
    | none =>
      rw [hst] at hd
      refine xg_ifnonnullN (pc := 46) hX d_Nam_takeBack_46 ?_
      refine xp_aload_0 (pc := 49) hX d_Nam_takeBack_49 ?_
      refine xg_get (pc := 50) hX (j := 7) k_Nam d_Nam_takeBack_50 l_Nam_46 (by decide) (by first | assumption | exact xup_s _ _ _ | exact xup_o (by omega) (by assumption) | exact xup_o (by omega) (xup_s _ _ _) | exact xup_o (by omega) (xup_o (by omega) (by assumption)) | exact xup_o (by omega) (xup_o (by omega) (xup_s _ _ _)) | exact xup_o (by omega) (xup_o (by omega) (xup_o (by omega) (by assumption)))) (by rfl) ?_
      refine xp_aload_0 (pc := 53) hX d_Nam_takeBack_53 ?_
      refine xg_get (pc := 54) hX (j := 2) k_Nam d_Nam_takeBack_54 l_Nam_31 (by decide) (by first | assumption | exact xup_s _ _ _ | exact xup_o (by omega) (by assumption) | exact xup_o (by omega) (xup_s _ _ _) | exact xup_o (by omega) (xup_o (by omega) (by assumption)) | exact xup_o (by omega) (xup_o (by omega) (xup_s _ _ _)) | exact xup_o (by omega) (xup_o (by omega) (xup_o (by omega) (by assumption)))) (by rfl) ?_
      refine xp_iload_1 (pc := 57) hX d_Nam_takeBack_57 ?_
      refine xv_V (Y2 := Y_She_remove) (pc := 58) hX [_, _] k_She m_She_remove d_Nam_takeBack_58 l_Nam_241 rfl rfl (by simp [Value.category]) (by first | assumption | exact xup_s _ _ _ | exact xup_o (by omega) (by assumption) | exact xup_o (by omega) (xup_s _ _ _) | exact xup_o (by omega) (xup_o (by omega) (by assumption)) | exact xup_o (by omega) (xup_o (by omega) (xup_s _ _ _)) | exact xup_o (by omega) (xup_o (by omega) (xup_o (by omega) (by assumption)))) (c_She_remove (d + 1) h5 h2 (by omega) (by omega)) (by omega) (by omega) ?_
      rintro M4 ⟨⟨g', L', a1⟩, a2⟩
      refine xg_iconst (pc := 61) hX (nI 0) d_Nam_takeBack_61 ci_iconst_0 ?_
      refine xg_iret (pc := 62) hX hE d_Nam_takeBack_62 rfl rfl (by omega) (by omega) ?_
      exact ⟨rfl, _, rfl, Or.inl ⟨_, g', L', hd, rfl, nw3.shelf a2 a1⟩, (f2.tr f3).tr (FrN.rR a2 (by omega))⟩
    | some k =>
      rw [hst] at hd
      refine xg_ifnonnull (x := B + 17 + 2 + 5 * g2 k) (pc := 46) hX 63 d_Nam_takeBack_46 (by decide) ?_
      refine xp_aload_0 (pc := 63) hX d_Nam_takeBack_63 ?_
      refine xg_get (pc := 64) hX (j := 7) k_Nam d_Nam_takeBack_64 l_Nam_46 (by decide) (by first | assumption | exact xup_s _ _ _ | exact xup_o (by omega) (by assumption) | exact xup_o (by omega) (xup_s _ _ _) | exact xup_o (by omega) (xup_o (by omega) (by assumption)) | exact xup_o (by omega) (xup_o (by omega) (xup_s _ _ _)) | exact xup_o (by omega) (xup_o (by omega) (xup_o (by omega) (by assumption)))) (by rfl) ?_
      refine xp_aload_0 (pc := 67) hX d_Nam_takeBack_67 ?_
      refine xg_get (pc := 68) hX (j := 2) k_Nam d_Nam_takeBack_68 l_Nam_31 (by decide) (by first | assumption | exact xup_s _ _ _ | exact xup_o (by omega) (by assumption) | exact xup_o (by omega) (xup_s _ _ _) | exact xup_o (by omega) (xup_o (by omega) (by assumption)) | exact xup_o (by omega) (xup_o (by omega) (xup_s _ _ _)) | exact xup_o (by omega) (xup_o (by omega) (xup_o (by omega) (by assumption)))) (by rfl) ?_
      refine xp_iload_1 (pc := 71) hX d_Nam_takeBack_71 ?_
      refine xr_V (Y2 := Y_She_findOrAdd) (pc := 72) hX [_, _] k_She m_She_findOrAdd d_Nam_takeBack_72 l_Nam_238 rfl rfl (by simp [Value.category]) (by first | assumption | exact xup_s _ _ _ | exact xup_o (by omega) (by assumption) | exact xup_o (by omega) (xup_s _ _ _) | exact xup_o (by omega) (xup_o (by omega) (by assumption)) | exact xup_o (by omega) (xup_o (by omega) (xup_s _ _ _)) | exact xup_o (by omega) (xup_o (by omega) (xup_o (by omega) (by assumption)))) (c_She_place d h5 h2 (by omega) (by omega) (by omega) (by omega)) (by omega) (by omega) ?_
      intro o M4 hc
      rcases hc with ⟨i, es', L', vo, rfl, a1, a2, a3, a4⟩ | ⟨rfl, rfl, a3⟩
      · have hi := (List.getElem?_eq_some_iff.mp a2).1
        have hle := a1.1.2.1
        have gi := a1.1.2.2.2.1 i (by omega)
        obtain ⟨e1, e2, e3, v, e4, -⟩ := a1.1.2.2.2.2.2 i (by omega)
        rw [a1.2 i _ a2] at e1 e2 e3
        dsimp only at e1 e2 e3
        generalize hea : B + 17 + 2 + 5 * g2 i = ea at e1 e2 e3 e4
        refine xp_astore_2 (x := ea) (pc := 75) hX d_Nam_takeBack_75 (by decide) ?_
        refine xp_aload_2 (pc := 76) hX d_Nam_takeBack_76 ?_
        refine xg_ifnonnull (pc := 77) hX 83 d_Nam_takeBack_77 (by decide) ?_
        refine xp_aload_2 (pc := 83) hX d_Nam_takeBack_83 ?_
        refine xg_iconst (pc := 84) hX (nI 1) d_Nam_takeBack_84 ci_iconst_1 ?_
        refine xg_put (pc := 85) hX (j := 3) k_Ent d_Nam_takeBack_85 l_Nam_167 (by decide) rfl (by first | assumption | exact xup_s _ _ _ | exact xup_o (by omega) (by assumption) | exact xup_o (by omega) (xup_s _ _ _) | exact xup_o (by omega) (xup_o (by omega) (by assumption)) | exact xup_o (by omega) (xup_o (by omega) (xup_s _ _ _)) | exact xup_o (by omega) (xup_o (by omega) (xup_o (by omega) (by assumption)))) (Nat.le_of_ble_eq_true rfl) (by first | rfl | decide) (by first | rfl | decide) (by simp only [List.set_cons_zero, List.set_cons_succ]; exact rfl) ?_
        refine xg_iconst (pc := 88) hX (nI 0) d_Nam_takeBack_88 ci_iconst_0 ?_
        refine xg_iret (pc := 89) hX hE d_Nam_takeBack_89 rfl rfl (by omega) (by omega) ?_
        have hfr : FrR M4 (xup M4 ea (.inr (1, [.ref (ea + 1), .ref (ea + 3), .int (nI p), .int (nI 1), .int (bI false)]))) (B + 17 + 2 + 5 * g2 i) (B + 17 + 2 + 5 * g2 i + 5) := fun q hq => by
          rw [hea] at hq
          rw [xup_n _ _ (by omega)]
        have hsh := a1.setE hi hfr (e' := (p, full, none)) (by
          rw [hea]
          exact ⟨xup_s _ _ _, e2, e3.kept (xup_n _ _ (by omega)) (xup_n _ _ (by omega)), v, e4.kept (xup_n _ _ (by omega)) (xup_n _ _ (by omega)), fun u hu => by cases hu⟩)
        have f5 := a4.tr (hfr.wide (by omega) (by omega))
        exact ⟨rfl, _, rfl, Or.inl ⟨_, g2, _, hd.trans (a3 _), rfl, nw3.shelf f5 hsh⟩, (f2.tr f3).tr (FrN.rR f5 (by omega))⟩
      · refine xp_astoreN_2 (pc := 75) hX d_Nam_takeBack_75 (by decide) ?_
        refine xp_aloadN_2 (pc := 76) hX d_Nam_takeBack_76 ?_
        refine xg_ifnonnullN (pc := 77) hX d_Nam_takeBack_77 ?_
        refine xg_bipush (pc := 80) hX (-4) d_Nam_takeBack_80 ci_bipush_m4 ?_
        refine xg_iret (pc := 82) hX hE d_Nam_takeBack_82 rfl rfl (by omega) (by omega) ?_
        exact ⟨rfl, _, rfl, Or.inr ⟨g2, L2, hd.trans (a3 _), rfl, nw3⟩, f2.tr f3⟩
  refine xp_istore_1 (pc := 18) hX d_Nam_takeBack_18 (by decide) ?_
  refine xp_aload_0 (pc := 19) hX d_Nam_takeBack_19 ?_
  refine xg_get (pc := 20) hX (j := 2) k_Nam d_Nam_takeBack_20 l_Nam_31 (by decide) (by first | assumption | exact xup_s _ _ _ | exact xup_o (by omega) (by assumption) | exact xup_o (by omega) (xup_s _ _ _) | exact xup_o (by omega) (xup_o (by omega) (by assumption)) | exact xup_o (by omega) (xup_o (by omega) (xup_s _ _ _)) | exact xup_o (by omega) (xup_o (by omega) (xup_o (by omega) (by assumption)))) (by rfl) ?_
  refine xi_V (Y2 := Y_Row_isStem) (pc := 23) hX [] k_Row m_Row_isStem d_Nam_takeBack_23 l_Nam_231 rfl rfl (by simp [Value.category]) (by first | assumption | exact xup_s _ _ _ | exact xup_o (by omega) (by assumption) | exact xup_o (by omega) (xup_s _ _ _) | exact xup_o (by omega) (xup_o (by omega) (by assumption)) | exact xup_o (by omega) (xup_o (by omega) (xup_s _ _ _)) | exact xup_o (by omega) (xup_o (by omega) (xup_o (by omega) (by assumption)))) (c_Row_isStem (d + 2) h2 (by omega)) (by omega) (by omega) ?_
  rintro y M2 ⟨rfl, rfl⟩
  refine xg_if_eq (pc := 26) hX 41 d_Nam_takeBack_26 (by decide) (fun w => ?_) (fun w => ?_)
  · have w := bI_eq0.mp w
    refine k41 _ g L ?_ (FrN.rf _ _)
    unfold clE
    rw [w]
    exact h
  · have w := bI_ne0.mp w
    refine xp_aload_0 (pc := 29) hX d_Nam_takeBack_29 ?_
    refine xg_get (pc := 30) hX (j := 7) k_Nam d_Nam_takeBack_30 l_Nam_46 (by decide) (by first | assumption | exact xup_s _ _ _ | exact xup_o (by omega) (by assumption) | exact xup_o (by omega) (xup_s _ _ _) | exact xup_o (by omega) (xup_o (by omega) (by assumption)) | exact xup_o (by omega) (xup_o (by omega) (xup_s _ _ _)) | exact xup_o (by omega) (xup_o (by omega) (xup_o (by omega) (by assumption)))) (by rfl) ?_
    refine xp_aload_0 (pc := 33) hX d_Nam_takeBack_33 ?_
    refine xg_get (pc := 34) hX (j := 2) k_Nam d_Nam_takeBack_34 l_Nam_31 (by decide) (by first | assumption | exact xup_s _ _ _ | exact xup_o (by omega) (by assumption) | exact xup_o (by omega) (xup_s _ _ _) | exact xup_o (by omega) (xup_o (by omega) (by assumption)) | exact xup_o (by omega) (xup_o (by omega) (xup_s _ _ _)) | exact xup_o (by omega) (xup_o (by omega) (xup_o (by omega) (by assumption)))) (by rfl) ?_
    refine xp_iload_1 (pc := 37) hX d_Nam_takeBack_37 ?_
    refine xv_V (Y2 := Y_She_clearBehind) (pc := 38) hX [_, _] k_She m_She_clearBehind d_Nam_takeBack_38 l_Nam_234 rfl rfl (by simp [Value.category]) (by first | assumption | exact xup_s _ _ _ | exact xup_o (by omega) (by assumption) | exact xup_o (by omega) (xup_s _ _ _) | exact xup_o (by omega) (xup_o (by omega) (by assumption)) | exact xup_o (by omega) (xup_o (by omega) (xup_s _ _ _)) | exact xup_o (by omega) (xup_o (by omega) (xup_o (by omega) (by assumption)))) (c_She_clearBehind (d + 2) h5 h2 (by omega) (by omega) (by omega)) (by omega) (by omega) ?_
    rintro M3 ⟨⟨g', L', a1⟩, a2⟩
    refine k41 _ g' L' ?_ (FrN.rR a2 (by omega))
    unfold clE
    rw [w]
    exact h.shelf a2 a1
