/-! NameRoom$Sight, NameRoom$Pools -/
/-- the seen name s makes the name nm the other pool's -/
def hld (s nm : List UInt8) : Bool := (isSt s || nm.length == s.length) && s.isPrefixOf nm
abbrev xSe : Type := Nat × List UInt8
def SiA (M : xH) (a : Nat) (s : xSe) : Prop := M a = some (.inr (3, [.ref (a + 1), .int (nI s.1), .int (bI (isSt s.2))])) ∧ s.1 < 1000 ∧ RowAt M (a + 1) 200 s.2
theorem SiA.kept {M M' : xH} {a : Nat} {s : xSe} (h : SiA M a s) (hk : ∀ q, a ≤ q → q < a + 3 → M' q = M q) : SiA M' a s := by
  obtain ⟨h1, h2, h3⟩ := h
  exact ⟨by rw [hk a (by omega) (by omega)]; exact h1, h2, h3.kept (hk _ (by omega) (by omega)) (hk _ (by omega) (by omega))⟩
set_option maxHeartbeats 4000000 in
set_option maxRecDepth 100000 in
theorem c_Sig_holds (d : Nat) {M : xH} {sz a t wt : Nat} {s : xSe} {nm : List UInt8} (hs : SiA M a s) (ht : RowAt M t wt nm) (hwt : wt < 1000000) : xC (d + 1) 0 0 Y_Sig_holds [.ref a, .ref t] M sz (qi sz (fun y M' => y = bI (hld s.2 nm) ∧ M' = M)) := by
  refine xC_of (by decide) (Nat.le_of_ble_eq_true rfl) (by simp [Value.category]) (vs := [some (.ref a), some (.ref t)]) rfl (fun K hX hE => ?_)
  obtain ⟨h1, h2, h3⟩ := id hs
  obtain ⟨t1, t2, -⟩ := id ht
  obtain ⟨r1, r2, -⟩ := id h3
  have k37 : ∀ v, hld s.2 nm = v → xG K 37 [some (.ref a), some (.ref t)] [.int (bI v)] M sz 0 0 := by
    intro v hv
    refine xg_iret (pc := 37) hX hE d_Sig_holds_37 rfl (by cases v <;> rfl) (by omega) (by omega) ?_
    exact ⟨rfl, _, rfl, by rw [hv], rfl⟩
  have k36 : hld s.2 nm = false → xG K 36 [some (.ref a), some (.ref t)] [] M sz 0 0 := by
    intro hv
    refine xg_iconst (pc := 36) hX (nI 0) d_Sig_holds_36 ci_iconst_0 ?_
    exact k37 false hv
  have k21 : (isSt s.2 || nm.length == s.2.length) = true → xG K 21 [some (.ref a), some (.ref t)] [] M sz 0 0 := by
    intro hv
    refine xp_aload_1 (pc := 21) hX d_Sig_holds_21 ?_
    refine xp_aload_0 (pc := 22) hX d_Sig_holds_22 ?_
    refine xg_get (pc := 23) hX (j := 0) k_Sig d_Sig_holds_23 l_Sig_14 (by decide) (by first | assumption | exact xup_s _ _ _ | exact xup_o (by omega) (by assumption) | exact xup_o (by omega) (xup_s _ _ _) | exact xup_o (by omega) (xup_o (by omega) (by assumption)) | exact xup_o (by omega) (xup_o (by omega) (xup_s _ _ _)) | exact xup_o (by omega) (xup_o (by omega) (xup_o (by omega) (by assumption)))) (by rfl) ?_
    refine xi_V (Y2 := Y_Row_beginsWith) (pc := 26) hX [_] k_Row m_Row_beginsWith d_Sig_holds_26 l_Sig_31 rfl rfl (by simp [Value.category]) (by first | assumption | exact xup_s _ _ _ | exact xup_o (by omega) (by assumption) | exact xup_o (by omega) (xup_s _ _ _) | exact xup_o (by omega) (xup_o (by omega) (by assumption)) | exact xup_o (by omega) (xup_o (by omega) (xup_s _ _ _)) | exact xup_o (by omega) (xup_o (by omega) (xup_o (by omega) (by assumption)))) (c_Row_beginsWith d ht h3 (by omega) (by omega)) (by omega) (by omega) ?_
    rintro y M' ⟨rfl, rfl⟩
    refine xg_if_eq (pc := 29) hX 36 d_Sig_holds_29 (by decide) (fun q => ?_) (fun q => ?_)
    · exact k36 (by unfold hld; rw [bI_eq0.mp q]; simp)
    · refine xg_iconst (pc := 32) hX (nI 1) d_Sig_holds_32 ci_iconst_1 ?_
      refine xg_goto (pc := 33) hX 37 d_Sig_holds_33 (by decide) ?_
      exact k37 true (by unfold hld; rw [hv, bI_ne0.mp q]; rfl)
  refine xp_aload_0 (pc := 0) hX d_Sig_holds_0 ?_
  refine xg_get (pc := 1) hX (j := 2) k_Sig d_Sig_holds_1 l_Sig_24 (by decide) (by first | assumption | exact xup_s _ _ _ | exact xup_o (by omega) (by assumption) | exact xup_o (by omega) (xup_s _ _ _) | exact xup_o (by omega) (xup_o (by omega) (by assumption)) | exact xup_o (by omega) (xup_o (by omega) (xup_s _ _ _)) | exact xup_o (by omega) (xup_o (by omega) (xup_o (by omega) (by assumption)))) (by rfl) ?_
  refine xg_if_ne (pc := 4) hX 21 d_Sig_holds_4 (by decide) (fun q => ?_) (fun q => ?_)
  · exact k21 (by rw [bI_ne0.mp q]; rfl)
  · have q := bI_eq0.mp q
    refine xp_aload_1 (pc := 7) hX d_Sig_holds_7 ?_
    refine xg_get (pc := 8) hX (j := 1) k_Row d_Sig_holds_8 l_Sig_28 (by decide) (by first | assumption | exact xup_s _ _ _ | exact xup_o (by omega) (by assumption) | exact xup_o (by omega) (xup_s _ _ _) | exact xup_o (by omega) (xup_o (by omega) (by assumption)) | exact xup_o (by omega) (xup_o (by omega) (xup_s _ _ _)) | exact xup_o (by omega) (xup_o (by omega) (xup_o (by omega) (by assumption)))) (by rfl) ?_
    refine xp_aload_0 (pc := 11) hX d_Sig_holds_11 ?_
    refine xg_get (pc := 12) hX (j := 0) k_Sig d_Sig_holds_12 l_Sig_14 (by decide) (by first | assumption | exact xup_s _ _ _ | exact xup_o (by omega) (by assumption) | exact xup_o (by omega) (xup_s _ _ _) | exact xup_o (by omega) (xup_o (by omega) (by assumption)) | exact xup_o (by omega) (xup_o (by omega) (xup_s _ _ _)) | exact xup_o (by omega) (xup_o (by omega) (xup_o (by omega) (by assumption)))) (by rfl) ?_
    refine xg_get (pc := 15) hX (j := 1) k_Row d_Sig_holds_15 l_Sig_28 (by decide) (by first | assumption | exact xup_s _ _ _ | exact xup_o (by omega) (by assumption) | exact xup_o (by omega) (xup_s _ _ _) | exact xup_o (by omega) (xup_o (by omega) (by assumption)) | exact xup_o (by omega) (xup_o (by omega) (xup_s _ _ _)) | exact xup_o (by omega) (xup_o (by omega) (xup_o (by omega) (by assumption)))) (by rfl) ?_
    refine xn_icmp_ne (pc := 18) hX 36 d_Sig_holds_18 (by decide) (by omega) (by omega) (fun q1 => ?_) (fun q1 => ?_)
    · exact k36 (by unfold hld; rw [q]; simp [q1])
    · exact k21 (by simp [q1])
/-- the pools' object at h: of depth dp; the sights -/
def PoR (M : xH) (h n dp : Nat) (S : Nat → xSe) : Prop :=
  M h = some (.inr (4, [.ref (h + 1), .int (nI n), .int (nI dp)])) ∧ n ≤ 84 ∧ 1 ≤ dp ∧ dp ≤ 100 ∧ (∃ f : Nat → Option Nat, M (h + 1) = some (.inl (3, 84, .inr (.inr (.inr (.inr f))))) ∧ ∀ j, j < 84 → f j = some (h + 2 + 3 * j)) ∧ ∀ j, j < 84 → SiA M (h + 2 + 3 * j) (S j)
def PoA (M : xH) (h dp : Nat) (se : List xSe) : Prop := ∃ S, PoR M h se.length dp S ∧ ∀ (j : Nat) (s : xSe), se[j]? = some s → S j = s
theorem PoA.kept {M M' : xH} {h dp : Nat} {se : List xSe} (hs : PoA M h dp se) (hk : ∀ q, h ≤ q → q < h + 254 → M' q = M q) : PoA M' h dp se := by
  obtain ⟨S, ⟨h1, h2, h3, h4, ⟨f, h5, h6⟩, h7⟩, h8⟩ := hs
  exact ⟨S, ⟨by rw [hk h (by omega) (by omega)]; exact h1, h2, h3, h4, ⟨f, by rw [hk _ (by omega) (by omega)]; exact h5, h6⟩, fun j hj => (h7 j hj).kept (fun q a b => hk q (by omega) (by omega))⟩, h8⟩
def own1 (nm : List UInt8) (s : xSe) (q : Nat) : Nat := if s.1 == q && hld s.2 nm then q - 1 else q
/-- whose a name is, as pool p sees it -/
def own (se : List xSe) (nm : List UInt8) (p : Nat) : Nat := se.foldr (own1 nm) p
theorem own_le (se : List xSe) (nm : List UInt8) (p : Nat) : own se nm p ≤ p := by
  induction se with
  | nil => exact Nat.le_refl _
  | cons s l ih =>
    show own1 nm s (own l nm p) ≤ p
    unfold own1
    split <;> omega
theorem m1_sub (n : Nat) : nI n - nI 1 = nI n + -1 := by
  rw [Int32.sub_eq_add_neg]; rfl
set_option maxHeartbeats 4000000 in
set_option maxRecDepth 100000 in
theorem c_Poo_innermost (d : Nat) {M : xH} {sz h dp : Nat} {se : List xSe} (hs : PoA M h dp se) : xC d 0 0 Y_Poo_innermost [.ref h] M sz (qi sz (fun y M' => y = nI (dp - 1) ∧ M' = M)) := by
  refine xC_of (by decide) (Nat.le_of_ble_eq_true rfl) (by simp [Value.category]) (vs := [some (.ref h)]) rfl (fun K hX hE => ?_)
  obtain ⟨S, ⟨h1, h2, h3, h4, -⟩, -⟩ := hs
  refine xp_aload_0 (pc := 0) hX d_Poo_innermost_0 ?_
  refine xg_get (pc := 1) hX (j := 2) k_Poo d_Poo_innermost_1 l_Poo_22 (by decide) (by first | assumption | exact xup_s _ _ _ | exact xup_o (by omega) (by assumption) | exact xup_o (by omega) (xup_s _ _ _) | exact xup_o (by omega) (xup_o (by omega) (by assumption)) | exact xup_o (by omega) (xup_o (by omega) (xup_s _ _ _)) | exact xup_o (by omega) (xup_o (by omega) (xup_o (by omega) (by assumption)))) (by rfl) ?_
  refine xg_iconst (pc := 4) hX (nI 1) d_Poo_innermost_4 ci_iconst_1 ?_
  first | refine xn_isub (pc := 5) hX d_Poo_innermost_5 (by omega) ?_ | refine xg_isub (pc := 5) hX d_Poo_innermost_5 ?_
  refine xg_iret (pc := 6) hX hE d_Poo_innermost_6 rfl rfl (by omega) (by omega) ?_
  exact ⟨rfl, _, rfl, rfl, rfl⟩
set_option maxHeartbeats 4000000 in
set_option maxRecDepth 100000 in
theorem c_Poo_owner (d : Nat) {M : xH} {sz h dp t wt p : Nat} {se : List xSe} {nm : List UInt8} (hs : PoA M h dp se) (h1p : ∀ s ∈ se, 1 ≤ s.1) (ht : RowAt M t wt nm) (hwt : wt < 1000000) (hp : p < 1000000) : xC (d + 2) 0 0 Y_Poo_owner [.ref h, .ref t, .int (nI p)] M sz (qi sz (fun y M' => y = nI (own se nm p) ∧ M' = M)) := by
  refine xC_of (by decide) (Nat.le_of_ble_eq_true rfl) (by simp [Value.category]) (vs := [some (.ref h), some (.ref t), some (.int (nI p)), none, none, none]) rfl (fun K hX hE => ?_)
  obtain ⟨S, ⟨h1, h2, h3, h4, ⟨f, h5, h6⟩, h7⟩, h8⟩ := hs
  have loop : ∀ (m q : Nat), m ≤ se.length → q < 1000000 → own se nm p = own (se.take m) nm q → xG K 18 [some (.ref h), some (.ref t), some (.int (nI p)), some (.int (nI q)), some (.int (nI m + -1)), none] [] M sz 0 0 := by
    intro m
    induction m with
    | zero =>
      intro q hm hq ho
      refine xp_iload_4 (pc := 18) hX d_Poo_owner_18 ?_
      refine xg_if_lt (pc := 20) hX 64 d_Poo_owner_20 (by decide) (fun _ => ?_) (fun z => absurd (by decide) z)
      refine xp_iload_3 (pc := 64) hX d_Poo_owner_64 ?_
      refine xg_iret (pc := 65) hX hE d_Poo_owner_65 rfl rfl (by omega) (by omega) ?_
      exact ⟨rfl, _, rfl, by rw [ho]; rfl, rfl⟩
    | succ m ih =>
      intro q hm hq ho
      have hS : se[m]? = some (se[m]'(by omega)) := List.getElem?_eq_getElem (by omega)
      have hSm := h8 m _ hS
      have hge := h1p _ (List.getElem_mem (show m < se.length by omega))
      have ho2 : own (se.take (m + 1)) nm q = own (se.take m) nm (own1 nm (se[m]'(by omega)) q) := by
        unfold own
        rw [List.take_succ, hS, List.foldr_append]
        rfl
      generalize se[m]'(by omega) = s at hS hSm hge ho2
      have hSi := h7 m (by omega)
      rw [hSm] at hSi
      obtain ⟨s1, s2, s3⟩ := id hSi
      have e0 : va_rf (f m) = .ref (h + 2 + 3 * m) := by rw [h6 m (by omega)]; rfl
      rw [pk_m1]
      have next : ∀ q', q' < 1000000 → q' = own1 nm s q → xG K 58 [some (.ref h), some (.ref t), some (.int (nI p)), some (.int (nI q')), some (.int (nI m)), some (.ref (h + 2 + 3 * m))] [] M sz 0 0 := by
        intro q' hq' he
        refine xg_iinc (pc := 58) hX d_Poo_owner_58 (by decide) rfl ci_iconst_m1 (by rfl) ?_
        refine xg_goto (pc := 61) hX 18 d_Poo_owner_61 (by decide) ?_
        refine xp_drop_5 ?_
        exact ih q' (by omega) hq' (by rw [ho, ho2, he])
      refine xp_iload_4 (pc := 18) hX d_Poo_owner_18 ?_
      refine xn_if_lt (pc := 20) hX 64 d_Poo_owner_20 (by decide) (by omega) ?_
      refine xp_aload_0 (pc := 23) hX d_Poo_owner_23 ?_
      refine xg_get (pc := 24) hX (j := 0) k_Poo d_Poo_owner_24 l_Poo_11 (by decide) (by first | assumption | exact xup_s _ _ _ | exact xup_o (by omega) (by assumption) | exact xup_o (by omega) (xup_s _ _ _) | exact xup_o (by omega) (xup_o (by omega) (by assumption)) | exact xup_o (by omega) (xup_o (by omega) (xup_s _ _ _)) | exact xup_o (by omega) (xup_o (by omega) (xup_o (by omega) (by assumption)))) (by rfl) ?_
      refine xp_iload_4 (pc := 27) hX d_Poo_owner_27 ?_
      refine xn_aald (pc := 29) hX (t := 3) d_Poo_owner_29 rfl (by first | assumption | exact xup_s _ _ _ | exact xup_o (by omega) (by assumption) | exact xup_o (by omega) (xup_s _ _ _) | exact xup_o (by omega) (xup_o (by omega) (by assumption)) | exact xup_o (by omega) (xup_o (by omega) (xup_s _ _ _)) | exact xup_o (by omega) (xup_o (by omega) (xup_o (by omega) (by assumption)))) (by omega) (by omega) (by first | assumption | rfl) ?_
      first | refine xp_astore_5 (pc := 30) hX d_Poo_owner_30 (by decide) ?_ | refine xp_astoreN_5 (pc := 30) hX d_Poo_owner_30 (by decide) ?_
      refine xp_aload_5 (pc := 32) hX d_Poo_owner_32 ?_
      refine xg_ifnull (pc := 34) hX d_Poo_owner_34 ?_
      refine xp_aload_5 (pc := 37) hX d_Poo_owner_37 ?_
      refine xg_get (pc := 39) hX (j := 1) k_Sig d_Poo_owner_39 l_Poo_35 (by decide) (by first | assumption | exact xup_s _ _ _ | exact xup_o (by omega) (by assumption) | exact xup_o (by omega) (xup_s _ _ _) | exact xup_o (by omega) (xup_o (by omega) (by assumption)) | exact xup_o (by omega) (xup_o (by omega) (xup_s _ _ _)) | exact xup_o (by omega) (xup_o (by omega) (xup_o (by omega) (by assumption)))) (by rfl) ?_
      refine xp_iload_3 (pc := 42) hX d_Poo_owner_42 ?_
      refine xn_icmp_ne (pc := 43) hX 58 d_Poo_owner_43 (by decide) (by omega) (by omega) (fun z => ?_) (fun z => ?_)
      · exact next q hq (by unfold own1; simp [z])
      · refine xp_aload_5 (pc := 46) hX d_Poo_owner_46 ?_
        refine xp_aload_1 (pc := 48) hX d_Poo_owner_48 ?_
        refine xi_V (Y2 := Y_Sig_holds) (pc := 49) hX [_] k_Sig m_Sig_holds d_Poo_owner_49 l_Poo_38 rfl rfl (by simp [Value.category]) (by first | assumption | exact xup_s _ _ _ | exact xup_o (by omega) (by assumption) | exact xup_o (by omega) (xup_s _ _ _) | exact xup_o (by omega) (xup_o (by omega) (by assumption)) | exact xup_o (by omega) (xup_o (by omega) (xup_s _ _ _)) | exact xup_o (by omega) (xup_o (by omega) (xup_o (by omega) (by assumption)))) (c_Sig_holds d hSi ht hwt) (by omega) (by omega) ?_
        rintro y M' ⟨rfl, rfl⟩
        refine xg_if_eq (pc := 52) hX 58 d_Poo_owner_52 (by decide) (fun z1 => ?_) (fun z1 => ?_)
        · exact next q hq (by unfold own1; rw [bI_eq0.mp z1]; simp)
        · refine xg_iinc (pc := 55) hX d_Poo_owner_55 (by decide) rfl ci_iconst_m1 (by rfl) ?_
          have e1 : nI q + -1 = nI (q - 1) := sb_m1 (by omega)
          rw [e1]
          exact next (q - 1) (by omega) (by unfold own1; rw [bI_ne0.mp z1]; simp [z])
  refine xp_iload_2 (pc := 0) hX d_Poo_owner_0 ?_
  refine xp_istore_3 (pc := 1) hX d_Poo_owner_1 (by decide) ?_
  refine xp_aload_0 (pc := 2) hX d_Poo_owner_2 ?_
  refine xg_get (pc := 3) hX (j := 1) k_Poo d_Poo_owner_3 l_Poo_18 (by decide) (by first | assumption | exact xup_s _ _ _ | exact xup_o (by omega) (by assumption) | exact xup_o (by omega) (xup_s _ _ _) | exact xup_o (by omega) (xup_o (by omega) (by assumption)) | exact xup_o (by omega) (xup_o (by omega) (xup_s _ _ _)) | exact xup_o (by omega) (xup_o (by omega) (xup_o (by omega) (by assumption)))) (by rfl) ?_
  refine xp_aload_0 (pc := 6) hX d_Poo_owner_6 ?_
  refine xg_get (pc := 7) hX (j := 0) k_Poo d_Poo_owner_7 l_Poo_11 (by decide) (by first | assumption | exact xup_s _ _ _ | exact xup_o (by omega) (by assumption) | exact xup_o (by omega) (xup_s _ _ _) | exact xup_o (by omega) (xup_o (by omega) (by assumption)) | exact xup_o (by omega) (xup_o (by omega) (xup_s _ _ _)) | exact xup_o (by omega) (xup_o (by omega) (xup_o (by omega) (by assumption)))) (by rfl) ?_
  refine xn_alen (pc := 10) hX (t := 3) d_Poo_owner_10 rfl (by first | assumption | exact xup_s _ _ _ | exact xup_o (by omega) (by assumption) | exact xup_o (by omega) (xup_s _ _ _) | exact xup_o (by omega) (xup_o (by omega) (by assumption)) | exact xup_o (by omega) (xup_o (by omega) (xup_s _ _ _)) | exact xup_o (by omega) (xup_o (by omega) (xup_o (by omega) (by assumption)))) ?_
  refine xg_min (pc := 11) hX d_Poo_owner_11 l_Poo_29 wj_minS wj_mathI wj_minC (by show 1 ≤ d + 2; omega) (by show _ ≤ 40 * (d + 2); simp [Value.category]; omega) (Nat.zero_le _) (Nat.zero_le _) ?_
  rw [if_neg (nI_nlt h2 (by omega))]
  refine xg_iconst (pc := 14) hX (nI 1) d_Poo_owner_14 ci_iconst_1 ?_
  refine xg_isub (pc := 15) hX d_Poo_owner_15 ?_
  rw [m1_sub]
  refine xp_istore_4 (pc := 16) hX d_Poo_owner_16 (by decide) ?_
  exact loop se.length p (Nat.le_refl _) hp (by rw [List.take_of_length_le (Nat.le_refl _)])
