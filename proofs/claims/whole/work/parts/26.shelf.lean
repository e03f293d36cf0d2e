/-! NameRoom$Shelf -/
def FrR (M M' : xH) (a b : Nat) : Prop := ∀ q, (q < a ∨ b ≤ q) → M' q = M q
theorem FrR.rf (M : xH) (a b : Nat) : FrR M M a b := fun _ _ => rfl
theorem FrR.tr {M M' M'' : xH} {a b : Nat} (h : FrR M M' a b) (h' : FrR M' M'' a b) : FrR M M'' a b := fun q hq => (h' q hq).trans (h q hq)
theorem FrR.wide {M M' : xH} {a b a' b' : Nat} (h : FrR M M' a b) (h1 : a' ≤ a) (h2 : b ≤ b') : FrR M M' a' b' := fun q hq => h q (by omega)
theorem Fr2.R {M M' : xH} {r : Nat} (h : Fr2 M M' r) : FrR M M' r (r + 2) := fun q hq => h q (by omega) (by omega)
theorem xup_R (M : xH) {a b q : Nat} (z : xE) (h1 : a ≤ q) (h2 : q < b) : FrR M (xup M q z) a b := fun _ h => xup_n _ _ (by omega)
/-- an entry: pool, full name, value (none: gone) -/
abbrev xEn : Type := Nat × List UInt8 × Option (List UInt8)
/-- the entry's cells at a: itself, its title at a + 1, what it holds at a + 3; with the flag 'leaves' -/
def EnA (M : xH) (a : Nat) (e : xEn × Bool) : Prop := M a = some (.inr (1, [.ref (a + 1), .ref (a + 3), .int (nI e.1.1), .int (bI e.1.2.2.isNone), .int (bI e.2)])) ∧ e.1.1 < 1000 ∧ RowAt M (a + 1) 200 e.1.2.1 ∧ ∃ v, RowAt M (a + 3) 200 v ∧ ∀ u, e.1.2.2 = some u → v = u
theorem EnA.kept {M M' : xH} {a : Nat} {e : xEn × Bool} (h : EnA M a e) (hk : ∀ q, a ≤ q → q < a + 5 → M' q = M q) : EnA M' a e := by
  obtain ⟨h1, h2, h3, v, h4, h5⟩ := h
  exact ⟨by rw [hk a (by omega) (by omega)]; exact h1, h2, h3.kept (hk _ (by omega) (by omega)) (hk _ (by omega) (by omega)), v, h4.kept (hk _ (by omega) (by omega)) (hk _ (by omega) (by omega)), h5⟩
/-- the shelf at h: n entries; the array's place j holds the entry of slot g j, which says L j -/
def ShR (M : xH) (h n : Nat) (g : Nat → Nat) (L : Nat → xEn × Bool) : Prop :=
  M h = some (.inr (2, [.ref (h + 1), .int (nI n)])) ∧ n ≤ 100 ∧ (∃ f : Nat → Option Nat, M (h + 1) = some (.inl (2, 100, .inr (.inr (.inr (.inr f))))) ∧ ∀ j, j < 100 → f j = some (h + 2 + 5 * g j)) ∧ (∀ j, j < 100 → g j < 100) ∧ (∀ i j, i < 100 → j < 100 → g i = g j → i = j) ∧ ∀ j, j < 100 → EnA M (h + 2 + 5 * g j) (L j)
theorem ShR.kept {M M' : xH} {h n : Nat} {g : Nat → Nat} {L : Nat → xEn × Bool} (hs : ShR M h n g L) (hk : ∀ q, h ≤ q → q < h + 502 → M' q = M q) : ShR M' h n g L := by
  obtain ⟨h1, h2, ⟨f, h3, h4⟩, h5, h6, h7⟩ := hs
  exact ⟨by rw [hk h (by omega) (by omega)]; exact h1, h2, ⟨f, by rw [hk _ (by omega) (by omega)]; exact h3, h4⟩, h5, h6, fun j hj => (h7 j hj).kept (fun q a b => hk q (by omega) (by have := h5 j hj; omega))⟩
/-- the first place of a name of a pool -/
def fIdx (L : Nat → xEn × Bool) (n p : Nat) (nm : List UInt8) : Option Nat := (List.range n).find? (fun i => (L i).1.1 == p && (L i).1.2.1 == nm)
theorem pre_eq {a b : List UInt8} (h : a.length = b.length) : b.isPrefixOf a = (a == b) := by
  rw [Bool.eq_iff_iff, List.isPrefixOf_iff_prefix, beq_iff_eq]
  constructor
  · intro q; exact (q.eq_of_length h.symm).symm
  · intro q; rw [q]; exact List.prefix_refl _
set_option maxHeartbeats 4000000 in
set_option maxRecDepth 100000 in
theorem c_She_find (d : Nat) {M : xH} {sz h n t wt p : Nat} {g : Nat → Nat} {L : Nat → xEn × Bool} {nm : List UInt8} (hs : ShR M h n g L) (ht : RowAt M t wt nm) (hwt : wt < 1000000) (hp : p < 1000000) : xC (d + 1) 0 0 Y_She_find [.ref h, .ref t, .int (nI p)] M sz (qr sz (fun o M' => o = (fIdx L n p nm).map (fun i => h + 2 + 5 * g i) ∧ M' = M)) := by
  refine xC_of (by decide) (Nat.le_of_ble_eq_true rfl) (by simp [Value.category]) (vs := [some (.ref h), some (.ref t), some (.int (nI p)), none, none]) rfl (fun K hX hE => ?_)
  obtain ⟨h1, h2, ⟨f, h3, h4⟩, h5, h6, h7⟩ := hs
  obtain ⟨t1, t2, -⟩ := id ht
  have loop : ∀ (m i : Nat), i + m = n → (∀ j, j < i → ((L j).1.1 == p && (L j).1.2.1 == nm) = false) → xG K 2 [some (.ref h), some (.ref t), some (.int (nI p)), some (.int (nI i)), none] [] M sz 0 0 := by
    intro m
    induction m with
    | zero =>
      intro i hi hn
      refine xp_iload_3 (pc := 2) hX d_She_find_2 ?_
      refine xp_aload_0 (pc := 3) hX d_She_find_3 ?_
      refine xg_get (pc := 4) hX (j := 1) k_She d_She_find_4 l_She_18 (by decide) (by first | assumption | exact xup_s _ _ _ | exact xup_o (by omega) (by assumption) | exact xup_o (by omega) (xup_s _ _ _) | exact xup_o (by omega) (xup_o (by omega) (by assumption)) | exact xup_o (by omega) (xup_o (by omega) (xup_s _ _ _)) | exact xup_o (by omega) (xup_o (by omega) (xup_o (by omega) (by assumption)))) (by rfl) ?_
      refine xn_icmp_ge (pc := 7) hX 77 d_She_find_7 (by decide) (by omega) (by omega) (fun _ => ?_) (fun q => absurd q (by omega))
      refine xg_null (pc := 77) hX d_She_find_77 ?_
      refine xg_aret (pc := 78) hX hE d_She_find_78 rfl (Or.inl rfl) (by omega) (by omega) ?_
      refine ⟨rfl, none, rfl, ?_, rfl⟩
      have : fIdx L n p nm = none := List.find?_range_eq_none.mpr (fun j hj => by rw [hn j (by omega)]; rfl)
      rw [this]; rfl
    | succ m ih =>
      intro i hi hn
      obtain ⟨e1, e2, e3, -⟩ := h7 i (by omega)
      obtain ⟨r1, r2, -⟩ := id e3
      have e0 : va_rf (f i) = .ref (h + 2 + 5 * g i) := by rw [h4 i (by omega)]; rfl
      refine xp_iload_3 (pc := 2) hX d_She_find_2 ?_
      refine xp_aload_0 (pc := 3) hX d_She_find_3 ?_
      refine xg_get (pc := 4) hX (j := 1) k_She d_She_find_4 l_She_18 (by decide) (by first | assumption | exact xup_s _ _ _ | exact xup_o (by omega) (by assumption) | exact xup_o (by omega) (xup_s _ _ _) | exact xup_o (by omega) (xup_o (by omega) (by assumption)) | exact xup_o (by omega) (xup_o (by omega) (xup_s _ _ _)) | exact xup_o (by omega) (xup_o (by omega) (xup_o (by omega) (by assumption)))) (by rfl) ?_
      refine xn_icmp_ge (pc := 7) hX 77 d_She_find_7 (by decide) (by omega) (by omega) (fun q => absurd q (by omega)) (fun _ => ?_)
      refine xp_iload_3 (pc := 10) hX d_She_find_10 ?_
      refine xp_aload_0 (pc := 11) hX d_She_find_11 ?_
      refine xg_get (pc := 12) hX (j := 0) k_She d_She_find_12 l_She_11 (by decide) (by first | assumption | exact xup_s _ _ _ | exact xup_o (by omega) (by assumption) | exact xup_o (by omega) (xup_s _ _ _) | exact xup_o (by omega) (xup_o (by omega) (by assumption)) | exact xup_o (by omega) (xup_o (by omega) (xup_s _ _ _)) | exact xup_o (by omega) (xup_o (by omega) (xup_o (by omega) (by assumption)))) (by rfl) ?_
      refine xn_alen (pc := 15) hX (t := 2) d_She_find_15 rfl (by first | assumption | exact xup_s _ _ _ | exact xup_o (by omega) (by assumption) | exact xup_o (by omega) (xup_s _ _ _) | exact xup_o (by omega) (xup_o (by omega) (by assumption)) | exact xup_o (by omega) (xup_o (by omega) (xup_s _ _ _)) | exact xup_o (by omega) (xup_o (by omega) (xup_o (by omega) (by assumption)))) ?_
      refine xn_icmp_ge (pc := 16) hX 77 d_She_find_16 (by decide) (by omega) (by decide) (fun q => absurd q (by show ¬ 100 ≤ i; omega)) (fun _ => ?_)
      refine xp_aload_0 (pc := 19) hX d_She_find_19 ?_
      refine xg_get (pc := 20) hX (j := 0) k_She d_She_find_20 l_She_11 (by decide) (by first | assumption | exact xup_s _ _ _ | exact xup_o (by omega) (by assumption) | exact xup_o (by omega) (xup_s _ _ _) | exact xup_o (by omega) (xup_o (by omega) (by assumption)) | exact xup_o (by omega) (xup_o (by omega) (xup_s _ _ _)) | exact xup_o (by omega) (xup_o (by omega) (xup_o (by omega) (by assumption)))) (by rfl) ?_
      refine xp_iload_3 (pc := 23) hX d_She_find_23 ?_
      refine xn_aald (pc := 24) hX (t := 2) d_She_find_24 rfl (by first | assumption | exact xup_s _ _ _ | exact xup_o (by omega) (by assumption) | exact xup_o (by omega) (xup_s _ _ _) | exact xup_o (by omega) (xup_o (by omega) (by assumption)) | exact xup_o (by omega) (xup_o (by omega) (xup_s _ _ _)) | exact xup_o (by omega) (xup_o (by omega) (xup_o (by omega) (by assumption)))) (by omega) (by omega) (by first | assumption | rfl) ?_
      first | refine xp_astore_4 (pc := 25) hX d_She_find_25 (by decide) ?_ | refine xp_astoreN_4 (pc := 25) hX d_She_find_25 (by decide) ?_
      refine xp_aload_4 (pc := 27) hX d_She_find_27 ?_
      refine xg_ifnull (pc := 29) hX d_She_find_29 ?_
      refine xp_aload_4 (pc := 32) hX d_She_find_32 ?_
      refine xg_get (pc := 34) hX (j := 2) k_Ent d_She_find_34 l_She_22 (by decide) (by first | assumption | exact xup_s _ _ _ | exact xup_o (by omega) (by assumption) | exact xup_o (by omega) (xup_s _ _ _) | exact xup_o (by omega) (xup_o (by omega) (by assumption)) | exact xup_o (by omega) (xup_o (by omega) (xup_s _ _ _)) | exact xup_o (by omega) (xup_o (by omega) (xup_o (by omega) (by assumption)))) (by rfl) ?_
      refine xp_iload_2 (pc := 37) hX d_She_find_37 ?_
      have next : ((L i).1.1 == p && (L i).1.2.1 == nm) = false → xG K 71 [some (.ref h), some (.ref t), some (.int (nI p)), some (.int (nI i)), some (.ref (h + 2 + 5 * g i))] [] M sz 0 0 := by
        intro hno
        refine xp_inc_3 (pc := 71) hX d_She_find_71 (by decide) ?_
        refine xg_goto (pc := 74) hX 2 d_She_find_74 (by decide) ?_
        refine xp_drop_4 ?_
        refine ih (i + 1) (by omega) (fun j hj => ?_)
        rcases Nat.lt_or_ge j i with q | q
        · exact hn j q
        · rw [show j = i by omega]; exact hno
      refine xn_icmp_ne (pc := 38) hX 71 d_She_find_38 (by decide) (by omega) (by omega) (fun q => ?_) (fun q => ?_)
      · exact next (by simp [q])
      · refine xp_aload_4 (pc := 41) hX d_She_find_41 ?_
        refine xg_get (pc := 43) hX (j := 0) k_Ent d_She_find_43 l_She_25 (by decide) (by first | assumption | exact xup_s _ _ _ | exact xup_o (by omega) (by assumption) | exact xup_o (by omega) (xup_s _ _ _) | exact xup_o (by omega) (xup_o (by omega) (by assumption)) | exact xup_o (by omega) (xup_o (by omega) (xup_s _ _ _)) | exact xup_o (by omega) (xup_o (by omega) (xup_o (by omega) (by assumption)))) (by rfl) ?_
        refine xg_get (pc := 46) hX (j := 1) k_Row d_She_find_46 l_She_29 (by decide) (by first | assumption | exact xup_s _ _ _ | exact xup_o (by omega) (by assumption) | exact xup_o (by omega) (xup_s _ _ _) | exact xup_o (by omega) (xup_o (by omega) (by assumption)) | exact xup_o (by omega) (xup_o (by omega) (xup_s _ _ _)) | exact xup_o (by omega) (xup_o (by omega) (xup_o (by omega) (by assumption)))) (by rfl) ?_
        refine xp_aload_1 (pc := 49) hX d_She_find_49 ?_
        refine xg_get (pc := 50) hX (j := 1) k_Row d_She_find_50 l_She_29 (by decide) (by first | assumption | exact xup_s _ _ _ | exact xup_o (by omega) (by assumption) | exact xup_o (by omega) (xup_s _ _ _) | exact xup_o (by omega) (xup_o (by omega) (by assumption)) | exact xup_o (by omega) (xup_o (by omega) (xup_s _ _ _)) | exact xup_o (by omega) (xup_o (by omega) (xup_o (by omega) (by assumption)))) (by rfl) ?_
        refine xn_icmp_ne (pc := 53) hX 71 d_She_find_53 (by decide) (by omega) (by omega) (fun q1 => ?_) (fun q1 => ?_)
        · exact next (by
            have : ((L i).1.2.1 == nm) = false := by
              rw [beq_eq_false_iff_ne]
              intro z; rw [z] at q1; exact q1 rfl
            simp [this])
        · refine xp_aload_4 (pc := 56) hX d_She_find_56 ?_
          refine xg_get (pc := 58) hX (j := 0) k_Ent d_She_find_58 l_She_25 (by decide) (by first | assumption | exact xup_s _ _ _ | exact xup_o (by omega) (by assumption) | exact xup_o (by omega) (xup_s _ _ _) | exact xup_o (by omega) (xup_o (by omega) (by assumption)) | exact xup_o (by omega) (xup_o (by omega) (xup_s _ _ _)) | exact xup_o (by omega) (xup_o (by omega) (xup_o (by omega) (by assumption)))) (by rfl) ?_
          refine xp_aload_1 (pc := 61) hX d_She_find_61 ?_
          refine xi_V (Y2 := Y_Row_beginsWith) (pc := 62) hX [_] k_Row m_Row_beginsWith d_She_find_62 l_She_34 rfl rfl (by simp [Value.category]) (by first | assumption | exact xup_s _ _ _ | exact xup_o (by omega) (by assumption) | exact xup_o (by omega) (xup_s _ _ _) | exact xup_o (by omega) (xup_o (by omega) (by assumption)) | exact xup_o (by omega) (xup_o (by omega) (xup_s _ _ _)) | exact xup_o (by omega) (xup_o (by omega) (xup_o (by omega) (by assumption)))) (c_Row_beginsWith d e3 ht (by omega) (by omega)) (by omega) (by omega) ?_
          rintro y M' ⟨rfl, rfl⟩
          rw [pre_eq q1]
          refine xg_if_eq (pc := 65) hX 71 d_She_find_65 (by decide) (fun q2 => ?_) (fun q2 => ?_)
          · exact next (by simp [bI_eq0.mp q2])
          · refine xp_aload_4 (pc := 68) hX d_She_find_68 ?_
            refine xg_aret (pc := 70) hX hE d_She_find_70 rfl (Or.inr ⟨_, rfl⟩) (by omega) (by omega) ?_
            refine ⟨rfl, some _, rfl, ?_, rfl⟩
            have : fIdx L n p nm = some i := List.find?_range_eq_some.mpr ⟨by simp [q, bI_ne0.mp q2], List.mem_range.mpr (by omega), fun j hj => by rw [hn j hj]; rfl⟩
            rw [this]; rfl
  refine xg_iconst (pc := 0) hX (nI 0) d_She_find_0 ci_iconst_0 ?_
  refine xp_istore_3 (pc := 1) hX d_She_find_1 (by decide) ?_
  exact loop n 0 (by omega) (fun j hj => absurd hj (by omega))
