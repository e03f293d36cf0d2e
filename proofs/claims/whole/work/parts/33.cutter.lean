/-! NameRoom$Cutter -/
/-- from a on as long as P holds, ahead of b -/
def sc (P : UInt8 → Bool) (bs : List UInt8) (a b : Nat) : Nat := a + ((sl bs a b).takeWhile P).length
theorem sc_hit {P : UInt8 → Bool} {bs : List UInt8} {a b : Nat} (hab : a < b) (hb : b ≤ bs.length) (h : P (bs[a]'(by omega)) = false) : sc P bs a b = a := by
  unfold sc
  rw [sl_cons hab hb, List.takeWhile_cons, h]
  rfl
theorem sc_miss {P : UInt8 → Bool} {bs : List UInt8} {a b : Nat} (hab : a < b) (hb : b ≤ bs.length) (h : P (bs[a]'(by omega)) = true) : sc P bs a b = sc P bs (a + 1) b := by
  unfold sc
  rw [sl_cons hab hb, List.takeWhile_cons, h]
  simp
  omega
theorem sc_end {P : UInt8 → Bool} {bs : List UInt8} {a : Nat} : sc P bs a a = a := by simp [sc, sl_same]
theorem sc_le {P : UInt8 → Bool} {bs : List UInt8} {a b : Nat} (hab : a ≤ b) (hb : b ≤ bs.length) : a ≤ sc P bs a b ∧ sc P bs a b ≤ b := by
  unfold sc
  have h1 := (List.takeWhile_prefix P (l := sl bs a b)).length_le
  rw [sl_len hb] at h1
  omega
def bl (b : UInt8) : Bool := b == 32
def nbl (b : UInt8) : Bool := !(b == 32)
/-- the cutter at h, its subject at h + 1 -/
def CuA (M : xH) (h : Nat) (sub : List UInt8) (fr bg sf st pf pt : Nat) : Prop := M h = some (.inr (6, [.ref (h + 1), .int (nI fr), .int (nI bg), .int (nI sf), .int (nI st), .int (nI pf), .int (nI pt)])) ∧ RowAt M (h + 1) 200 sub
theorem CuA.kept {M M' : xH} {h : Nat} {sub : List UInt8} {fr bg sf st pf pt : Nat} (hs : CuA M h sub fr bg sf st pf pt) (hk : ∀ q, h ≤ q → q < h + 3 → M' q = M q) : CuA M' h sub fr bg sf st pf pt :=
  ⟨by rw [hk h (by omega) (by omega)]; exact hs.1, hs.2.kept (hk _ (by omega) (by omega)) (hk _ (by omega) (by omega))⟩
theorem CuA.put {M : xH} {h : Nat} {sub : List UInt8} {fr bg sf st pf pt fr' bg' sf' st' pf' pt' : Nat} (hs : CuA M h sub fr bg sf st pf pt) : CuA (xup M h (.inr (6, [.ref (h + 1), .int (nI fr'), .int (nI bg'), .int (nI sf'), .int (nI st'), .int (nI pf'), .int (nI pt')]))) h sub fr' bg' sf' st' pf' pt' :=
  ⟨xup_s _ _ _, hs.2.kept (xup_n _ _ (by omega)) (xup_n _ _ (by omega))⟩
def Fr1 (M M' : xH) (h : Nat) : Prop := ∀ q, q ≠ h → M' q = M q
theorem Fr1.tr {M M' M'' : xH} {h : Nat} (a : Fr1 M M' h) (b : Fr1 M' M'' h) : Fr1 M M'' h := fun q hq => (b q hq).trans (a q hq)
theorem Fr1.up (M : xH) (h : Nat) (z : xE) : Fr1 M (xup M h z) h := fun _ hq => xup_n _ _ hq
theorem Fr1.rf (M : xH) (h : Nat) : Fr1 M M h := fun _ _ => rfl
set_option maxHeartbeats 4000000 in
set_option maxRecDepth 100000 in
theorem c_Cut_begin (d : Nat) {M : xH} {sz h fr bg sf st pf pt : Nat} {sub : List UInt8} (hs : CuA M h sub fr bg sf st pf pt) : xC d 0 0 Y_Cut_begin [.ref h] M sz (qv sz (fun M' => CuA M' h sub 1 1 sf st pf pt ∧ Fr1 M M' h)) := by
  refine xC_of (by decide) (Nat.le_of_ble_eq_true rfl) (by simp [Value.category]) (vs := [some (.ref h)]) rfl (fun K hX hE => ?_)
  obtain ⟨h1, h2⟩ := id hs
  refine xp_aload_0 (pc := 0) hX d_Cut_begin_0 ?_
  refine xg_iconst (pc := 1) hX (nI 1) d_Cut_begin_1 ci_iconst_1 ?_
  refine xg_put (pc := 2) hX (j := 1) k_Cut d_Cut_begin_2 l_Cut_20 (by decide) rfl (by first | assumption | exact xup_s _ _ _ | exact xup_o (by omega) (by assumption) | exact xup_o (by omega) (xup_s _ _ _) | exact xup_o (by omega) (xup_o (by omega) (by assumption)) | exact xup_o (by omega) (xup_o (by omega) (xup_s _ _ _)) | exact xup_o (by omega) (xup_o (by omega) (xup_o (by omega) (by assumption)))) (Nat.le_of_ble_eq_true rfl) rfl rfl (by simp only [List.set_cons_zero, List.set_cons_succ]; exact rfl) ?_
  refine xp_aload_0 (pc := 5) hX d_Cut_begin_5 ?_
  refine xg_iconst (pc := 6) hX (nI 1) d_Cut_begin_6 ci_iconst_1 ?_
  refine xg_put (pc := 7) hX (j := 2) k_Cut d_Cut_begin_7 l_Cut_24 (by decide) rfl (by first | assumption | exact xup_s _ _ _ | exact xup_o (by omega) (by assumption) | exact xup_o (by omega) (xup_s _ _ _) | exact xup_o (by omega) (xup_o (by omega) (by assumption)) | exact xup_o (by omega) (xup_o (by omega) (xup_s _ _ _)) | exact xup_o (by omega) (xup_o (by omega) (xup_o (by omega) (by assumption)))) (Nat.le_of_ble_eq_true rfl) rfl rfl (by simp only [List.set_cons_zero, List.set_cons_succ]; exact rfl) ?_
  refine xg_vret (pc := 10) hX hE d_Cut_begin_10 rfl (by omega) (by omega) ?_
  exact ⟨rfl, rfl, (hs.put (fr' := 1) (bg' := bg)).put, (Fr1.up _ _ _).tr (Fr1.up _ _ _)⟩
set_option maxHeartbeats 4000000 in
set_option maxRecDepth 100000 in
theorem c_Cut_cutAtEnd (d : Nat) {M : xH} {sz h fr bg sf st pf pt : Nat} {sub : List UInt8} (hs : CuA M h sub fr bg sf st pf pt) : xC d 0 0 Y_Cut_cutAtEnd [.ref h] M sz (qv sz (fun M' => CuA M' h sub fr bg sf st fr (sub.length + 1) ∧ Fr1 M M' h)) := by
  refine xC_of (by decide) (Nat.le_of_ble_eq_true rfl) (by simp [Value.category]) (vs := [some (.ref h)]) rfl (fun K hX hE => ?_)
  obtain ⟨h1, h2⟩ := id hs
  obtain ⟨r1, -⟩ := id h2
  refine xp_aload_0 (pc := 0) hX d_Cut_cutAtEnd_0 ?_
  refine xp_aload_0 (pc := 1) hX d_Cut_cutAtEnd_1 ?_
  refine xg_get (pc := 2) hX (j := 1) k_Cut d_Cut_cutAtEnd_2 l_Cut_20 (by decide) (by first | assumption | exact xup_s _ _ _ | exact xup_o (by omega) (by assumption) | exact xup_o (by omega) (xup_s _ _ _) | exact xup_o (by omega) (xup_o (by omega) (by assumption)) | exact xup_o (by omega) (xup_o (by omega) (xup_s _ _ _)) | exact xup_o (by omega) (xup_o (by omega) (xup_o (by omega) (by assumption)))) (by rfl) ?_
  refine xg_put (pc := 5) hX (j := 5) k_Cut d_Cut_cutAtEnd_5 l_Cut_27 (by decide) rfl (by first | assumption | exact xup_s _ _ _ | exact xup_o (by omega) (by assumption) | exact xup_o (by omega) (xup_s _ _ _) | exact xup_o (by omega) (xup_o (by omega) (by assumption)) | exact xup_o (by omega) (xup_o (by omega) (xup_s _ _ _)) | exact xup_o (by omega) (xup_o (by omega) (xup_o (by omega) (by assumption)))) (Nat.le_of_ble_eq_true rfl) rfl rfl (by simp only [List.set_cons_zero, List.set_cons_succ]; exact rfl) ?_
  refine xp_aload_0 (pc := 8) hX d_Cut_cutAtEnd_8 ?_
  refine xp_aload_0 (pc := 9) hX d_Cut_cutAtEnd_9 ?_
  refine xg_get (pc := 10) hX (j := 0) k_Cut d_Cut_cutAtEnd_10 l_Cut_14 (by decide) (by first | assumption | exact xup_s _ _ _ | exact xup_o (by omega) (by assumption) | exact xup_o (by omega) (xup_s _ _ _) | exact xup_o (by omega) (xup_o (by omega) (by assumption)) | exact xup_o (by omega) (xup_o (by omega) (xup_s _ _ _)) | exact xup_o (by omega) (xup_o (by omega) (xup_o (by omega) (by assumption)))) (by rfl) ?_
  refine xg_get (pc := 13) hX (j := 1) k_Row d_Cut_cutAtEnd_13 l_Cut_42 (by decide) (by first | assumption | exact xup_s _ _ _ | exact xup_o (by omega) (by assumption) | exact xup_o (by omega) (xup_s _ _ _) | exact xup_o (by omega) (xup_o (by omega) (by assumption)) | exact xup_o (by omega) (xup_o (by omega) (xup_s _ _ _)) | exact xup_o (by omega) (xup_o (by omega) (xup_o (by omega) (by assumption)))) (by rfl) ?_
  refine xg_iconst (pc := 16) hX (nI 1) d_Cut_cutAtEnd_16 ci_iconst_1 ?_
  first | refine xn_iadd (pc := 17) hX d_Cut_cutAtEnd_17 ?_ | refine xg_iadd (pc := 17) hX d_Cut_cutAtEnd_17 ?_
  refine xg_put (pc := 18) hX (j := 6) k_Cut d_Cut_cutAtEnd_18 l_Cut_30 (by decide) rfl (by first | assumption | exact xup_s _ _ _ | exact xup_o (by omega) (by assumption) | exact xup_o (by omega) (xup_s _ _ _) | exact xup_o (by omega) (xup_o (by omega) (by assumption)) | exact xup_o (by omega) (xup_o (by omega) (xup_s _ _ _)) | exact xup_o (by omega) (xup_o (by omega) (xup_o (by omega) (by assumption)))) (Nat.le_of_ble_eq_true rfl) rfl rfl (by simp only [List.set_cons_zero, List.set_cons_succ]; exact rfl) ?_
  refine xg_vret (pc := 21) hX hE d_Cut_cutAtEnd_21 rfl (by omega) (by omega) ?_
  exact ⟨rfl, rfl, (hs.put (pf' := fr) (pt' := pt)).put, (Fr1.up _ _ _).tr (Fr1.up _ _ _)⟩
set_option maxHeartbeats 4000000 in
set_option maxRecDepth 100000 in
theorem c_Cut_takeRest (d : Nat) {M : xH} {sz h fr bg sf st pf pt : Nat} {sub : List UInt8} (hs : CuA M h sub fr bg sf st pf pt) : xC d 0 0 Y_Cut_takeRest [.ref h] M sz (qv sz (fun M' => CuA M' h sub fr bg pf pt pt pt ∧ Fr1 M M' h)) := by
  refine xC_of (by decide) (Nat.le_of_ble_eq_true rfl) (by simp [Value.category]) (vs := [some (.ref h)]) rfl (fun K hX hE => ?_)
  obtain ⟨h1, h2⟩ := id hs
  refine xp_aload_0 (pc := 0) hX d_Cut_takeRest_0 ?_
  refine xp_aload_0 (pc := 1) hX d_Cut_takeRest_1 ?_
  refine xg_get (pc := 2) hX (j := 5) k_Cut d_Cut_takeRest_2 l_Cut_27 (by decide) (by first | assumption | exact xup_s _ _ _ | exact xup_o (by omega) (by assumption) | exact xup_o (by omega) (xup_s _ _ _) | exact xup_o (by omega) (xup_o (by omega) (by assumption)) | exact xup_o (by omega) (xup_o (by omega) (xup_s _ _ _)) | exact xup_o (by omega) (xup_o (by omega) (xup_o (by omega) (by assumption)))) (by rfl) ?_
  refine xg_put (pc := 5) hX (j := 3) k_Cut d_Cut_takeRest_5 l_Cut_33 (by decide) rfl (by first | assumption | exact xup_s _ _ _ | exact xup_o (by omega) (by assumption) | exact xup_o (by omega) (xup_s _ _ _) | exact xup_o (by omega) (xup_o (by omega) (by assumption)) | exact xup_o (by omega) (xup_o (by omega) (xup_s _ _ _)) | exact xup_o (by omega) (xup_o (by omega) (xup_o (by omega) (by assumption)))) (Nat.le_of_ble_eq_true rfl) rfl rfl (by simp only [List.set_cons_zero, List.set_cons_succ]; exact rfl) ?_
  refine xp_aload_0 (pc := 8) hX d_Cut_takeRest_8 ?_
  refine xp_aload_0 (pc := 9) hX d_Cut_takeRest_9 ?_
  refine xg_get (pc := 10) hX (j := 6) k_Cut d_Cut_takeRest_10 l_Cut_30 (by decide) (by first | assumption | exact xup_s _ _ _ | exact xup_o (by omega) (by assumption) | exact xup_o (by omega) (xup_s _ _ _) | exact xup_o (by omega) (xup_o (by omega) (by assumption)) | exact xup_o (by omega) (xup_o (by omega) (xup_s _ _ _)) | exact xup_o (by omega) (xup_o (by omega) (xup_o (by omega) (by assumption)))) (by rfl) ?_
  refine xg_put (pc := 13) hX (j := 4) k_Cut d_Cut_takeRest_13 l_Cut_36 (by decide) rfl (by first | assumption | exact xup_s _ _ _ | exact xup_o (by omega) (by assumption) | exact xup_o (by omega) (xup_s _ _ _) | exact xup_o (by omega) (xup_o (by omega) (by assumption)) | exact xup_o (by omega) (xup_o (by omega) (xup_s _ _ _)) | exact xup_o (by omega) (xup_o (by omega) (xup_o (by omega) (by assumption)))) (Nat.le_of_ble_eq_true rfl) rfl rfl (by simp only [List.set_cons_zero, List.set_cons_succ]; exact rfl) ?_
  refine xp_aload_0 (pc := 16) hX d_Cut_takeRest_16 ?_
  refine xp_aload_0 (pc := 17) hX d_Cut_takeRest_17 ?_
  refine xg_get (pc := 18) hX (j := 6) k_Cut d_Cut_takeRest_18 l_Cut_30 (by decide) (by first | assumption | exact xup_s _ _ _ | exact xup_o (by omega) (by assumption) | exact xup_o (by omega) (xup_s _ _ _) | exact xup_o (by omega) (xup_o (by omega) (by assumption)) | exact xup_o (by omega) (xup_o (by omega) (xup_s _ _ _)) | exact xup_o (by omega) (xup_o (by omega) (xup_o (by omega) (by assumption)))) (by rfl) ?_
  refine xg_put (pc := 21) hX (j := 5) k_Cut d_Cut_takeRest_21 l_Cut_27 (by decide) rfl (by first | assumption | exact xup_s _ _ _ | exact xup_o (by omega) (by assumption) | exact xup_o (by omega) (xup_s _ _ _) | exact xup_o (by omega) (xup_o (by omega) (by assumption)) | exact xup_o (by omega) (xup_o (by omega) (xup_s _ _ _)) | exact xup_o (by omega) (xup_o (by omega) (xup_o (by omega) (by assumption)))) (Nat.le_of_ble_eq_true rfl) rfl rfl (by simp only [List.set_cons_zero, List.set_cons_succ]; exact rfl) ?_
  refine xg_vret (pc := 24) hX hE d_Cut_takeRest_24 rfl (by omega) (by omega) ?_
  exact ⟨rfl, rfl, ((hs.put (sf' := pf) (st' := st)).put (st' := pt) (pf' := pf)).put, ((Fr1.up _ _ _).tr (Fr1.up _ _ _)).tr (Fr1.up _ _ _)⟩
/-- a place kept within 1 and the end -/
def keepIn (e : Nat) (x : Int32) : Nat := if x.toInt < 1 then 1 else if (e : Int) < x.toInt then e else x.toInt.toNat
theorem keepIn_min {e : Nat} (he : 1 ≤ e) (he2 : e < 1000000) (x : Int32) : (if nI 1 < (if nI e < x then nI e else x) then (if nI e < x then nI e else x) else nI 1) = nI (keepIn e x) := by
  have e1 : (nI e).toInt = (e : Int) := nI_toInt (by omega)
  have e2 : (nI 1).toInt = 1 := by decide
  by_cases h1 : nI e < x
  · rw [if_pos h1]
    have h1' := Int32.lt_iff_toInt_lt.mp h1
    rw [e1] at h1'
    have k : keepIn e x = e := by unfold keepIn; rw [if_neg (by omega), if_pos (by omega)]
    rw [k]
    by_cases h2 : nI 1 < nI e
    · rw [if_pos h2]
    · rw [if_neg h2]
      have : ¬ 1 < e := fun q => h2 ((nI_ltI (by omega) (by omega)).mpr q)
      rw [show e = 1 by omega]
  · rw [if_neg h1]
    have h1' : ¬ (e : Int) < x.toInt := fun q => h1 (Int32.lt_iff_toInt_lt.mpr (by rw [e1]; exact q))
    by_cases h2 : nI 1 < x
    · rw [if_pos h2]
      have h2' := Int32.lt_iff_toInt_lt.mp h2
      rw [e2] at h2'
      have k : keepIn e x = x.toInt.toNat := by unfold keepIn; rw [if_neg (by omega), if_neg h1']
      rw [k]
      obtain ⟨j, hj, rfl⟩ := nI_of (x := x) (fun q => by
        have := Int32.lt_iff_toInt_lt.mp q
        simp at this
        omega)
      rw [nI_toInt hj]; rfl
    · rw [if_neg h2]
      have h2' : ¬ 1 < x.toInt := fun q => h2 (Int32.lt_iff_toInt_lt.mpr (by rw [e2]; exact q))
      unfold keepIn
      by_cases h3 : x.toInt < 1
      · rw [if_pos h3]
      · rw [if_neg h3, if_neg h1', show x.toInt = 1 by omega]; rfl
theorem keepIn_in {e : Nat} (he : 1 ≤ e) (x : Int32) : 1 ≤ keepIn e x ∧ keepIn e x ≤ e := by
  unfold keepIn
  split
  · omega
  · split <;> omega
set_option maxHeartbeats 4000000 in
set_option maxRecDepth 100000 in
theorem c_Cut_cutAtPlace (d : Nat) {M : xH} {sz h fr bg sf st pf pt : Nat} {sub : List UInt8} (x : Int32) (hs : CuA M h sub fr bg sf st pf pt) (hfr : fr < 1000000) : xC (d + 1) 0 0 Y_Cut_cutAtPlace [.ref h, .int x] M sz (qv sz (fun M' => CuA M' h sub (keepIn (sub.length + 1) x) (keepIn (sub.length + 1) x) sf st fr (if fr < keepIn (sub.length + 1) x then keepIn (sub.length + 1) x else sub.length + 1) ∧ Fr1 M M' h)) := by
  refine xC_of (by decide) (Nat.le_of_ble_eq_true rfl) (by simp [Value.category]) (vs := [some (.ref h), some (.int x), none, none]) rfl (fun K hX hE => ?_)
  obtain ⟨h1, h2⟩ := id hs
  obtain ⟨r1, r2, -⟩ := id h2
  have hk := keepIn_in (e := sub.length + 1) (by omega) x
  refine xp_aload_0 (pc := 0) hX d_Cut_cutAtPlace_0 ?_
  refine xg_get (pc := 1) hX (j := 0) k_Cut d_Cut_cutAtPlace_1 l_Cut_14 (by decide) (by first | assumption | exact xup_s _ _ _ | exact xup_o (by omega) (by assumption) | exact xup_o (by omega) (xup_s _ _ _) | exact xup_o (by omega) (xup_o (by omega) (by assumption)) | exact xup_o (by omega) (xup_o (by omega) (xup_s _ _ _)) | exact xup_o (by omega) (xup_o (by omega) (xup_o (by omega) (by assumption)))) (by rfl) ?_
  refine xg_get (pc := 4) hX (j := 1) k_Row d_Cut_cutAtPlace_4 l_Cut_42 (by decide) (by first | assumption | exact xup_s _ _ _ | exact xup_o (by omega) (by assumption) | exact xup_o (by omega) (xup_s _ _ _) | exact xup_o (by omega) (xup_o (by omega) (by assumption)) | exact xup_o (by omega) (xup_o (by omega) (xup_s _ _ _)) | exact xup_o (by omega) (xup_o (by omega) (xup_o (by omega) (by assumption)))) (by rfl) ?_
  refine xg_iconst (pc := 7) hX (nI 1) d_Cut_cutAtPlace_7 ci_iconst_1 ?_
  first | refine xn_iadd (pc := 8) hX d_Cut_cutAtPlace_8 ?_ | refine xg_iadd (pc := 8) hX d_Cut_cutAtPlace_8 ?_
  refine xp_istore_2 (pc := 9) hX d_Cut_cutAtPlace_9 (by decide) ?_
  refine xg_iconst (pc := 10) hX (nI 1) d_Cut_cutAtPlace_10 ci_iconst_1 ?_
  refine xp_iload_1 (pc := 11) hX d_Cut_cutAtPlace_11 ?_
  refine xp_iload_2 (pc := 12) hX d_Cut_cutAtPlace_12 ?_
  refine xg_min (pc := 13) hX d_Cut_cutAtPlace_13 l_Cut_56 wj_minS wj_mathI wj_minC (by show _ ≤ _ + _; omega) (by show _ ≤ 40 * _; simp [Value.category]; omega) (Nat.zero_le _) (Nat.zero_le _) ?_
  refine xg_max (pc := 16) hX d_Cut_cutAtPlace_16 l_Cut_66 wj_maxS wj_mathI wj_maxC (by show 1 ≤ d + 1; omega) (by show _ ≤ 40 * (d + 1); simp; omega) (Nat.zero_le _) (Nat.zero_le _) ?_
  rw [keepIn_min (by omega) (by omega)]
  generalize keepIn (sub.length + 1) x = k at hk hE ⊢
  refine xp_istore_3 (pc := 19) hX d_Cut_cutAtPlace_19 (by decide) ?_
  refine xp_aload_0 (pc := 20) hX d_Cut_cutAtPlace_20 ?_
  refine xp_aload_0 (pc := 21) hX d_Cut_cutAtPlace_21 ?_
  refine xg_get (pc := 22) hX (j := 1) k_Cut d_Cut_cutAtPlace_22 l_Cut_20 (by decide) (by first | assumption | exact xup_s _ _ _ | exact xup_o (by omega) (by assumption) | exact xup_o (by omega) (xup_s _ _ _) | exact xup_o (by omega) (xup_o (by omega) (by assumption)) | exact xup_o (by omega) (xup_o (by omega) (xup_s _ _ _)) | exact xup_o (by omega) (xup_o (by omega) (xup_o (by omega) (by assumption)))) (by rfl) ?_
  refine xg_put (pc := 25) hX (j := 5) k_Cut d_Cut_cutAtPlace_25 l_Cut_27 (by decide) rfl (by first | assumption | exact xup_s _ _ _ | exact xup_o (by omega) (by assumption) | exact xup_o (by omega) (xup_s _ _ _) | exact xup_o (by omega) (xup_o (by omega) (by assumption)) | exact xup_o (by omega) (xup_o (by omega) (xup_s _ _ _)) | exact xup_o (by omega) (xup_o (by omega) (xup_o (by omega) (by assumption)))) (Nat.le_of_ble_eq_true rfl) rfl rfl (by simp only [List.set_cons_zero, List.set_cons_succ]; exact rfl) ?_
  refine xp_aload_0 (pc := 28) hX d_Cut_cutAtPlace_28 ?_
  refine xp_iload_3 (pc := 29) hX d_Cut_cutAtPlace_29 ?_
  refine xp_aload_0 (pc := 30) hX d_Cut_cutAtPlace_30 ?_
  refine xg_get (pc := 31) hX (j := 1) k_Cut d_Cut_cutAtPlace_31 l_Cut_20 (by decide) (by first | assumption | exact xup_s _ _ _ | exact xup_o (by omega) (by assumption) | exact xup_o (by omega) (xup_s _ _ _) | exact xup_o (by omega) (xup_o (by omega) (by assumption)) | exact xup_o (by omega) (xup_o (by omega) (xup_s _ _ _)) | exact xup_o (by omega) (xup_o (by omega) (xup_o (by omega) (by assumption)))) (by rfl) ?_
  refine xn_icmp_le (pc := 34) hX 41 d_Cut_cutAtPlace_34 (by decide) (by omega) (by omega) (fun q => ?_) (fun q => ?_)
  · refine xp_iload_2 (pc := 41) hX d_Cut_cutAtPlace_41 ?_
    refine xg_put (pc := 42) hX (j := 6) k_Cut d_Cut_cutAtPlace_42 l_Cut_30 (by decide) rfl (by first | assumption | exact xup_s _ _ _ | exact xup_o (by omega) (by assumption) | exact xup_o (by omega) (xup_s _ _ _) | exact xup_o (by omega) (xup_o (by omega) (by assumption)) | exact xup_o (by omega) (xup_o (by omega) (xup_s _ _ _)) | exact xup_o (by omega) (xup_o (by omega) (xup_o (by omega) (by assumption)))) (Nat.le_of_ble_eq_true rfl) rfl rfl (by simp only [List.set_cons_zero, List.set_cons_succ]; exact rfl) ?_
    refine xp_aload_0 (pc := 45) hX d_Cut_cutAtPlace_45 ?_
    refine xp_iload_3 (pc := 46) hX d_Cut_cutAtPlace_46 ?_
    refine xg_put (pc := 47) hX (j := 2) k_Cut d_Cut_cutAtPlace_47 l_Cut_24 (by decide) rfl (by first | assumption | exact xup_s _ _ _ | exact xup_o (by omega) (by assumption) | exact xup_o (by omega) (xup_s _ _ _) | exact xup_o (by omega) (xup_o (by omega) (by assumption)) | exact xup_o (by omega) (xup_o (by omega) (xup_s _ _ _)) | exact xup_o (by omega) (xup_o (by omega) (xup_o (by omega) (by assumption)))) (Nat.le_of_ble_eq_true rfl) rfl rfl (by simp only [List.set_cons_zero, List.set_cons_succ]; exact rfl) ?_
    refine xp_aload_0 (pc := 50) hX d_Cut_cutAtPlace_50 ?_
    refine xp_iload_3 (pc := 51) hX d_Cut_cutAtPlace_51 ?_
    refine xg_put (pc := 52) hX (j := 1) k_Cut d_Cut_cutAtPlace_52 l_Cut_20 (by decide) rfl (by first | assumption | exact xup_s _ _ _ | exact xup_o (by omega) (by assumption) | exact xup_o (by omega) (xup_s _ _ _) | exact xup_o (by omega) (xup_o (by omega) (by assumption)) | exact xup_o (by omega) (xup_o (by omega) (xup_s _ _ _)) | exact xup_o (by omega) (xup_o (by omega) (xup_o (by omega) (by assumption)))) (Nat.le_of_ble_eq_true rfl) rfl rfl (by simp only [List.set_cons_zero, List.set_cons_succ]; exact rfl) ?_
    refine xg_vret (pc := 55) hX hE d_Cut_cutAtPlace_55 rfl (by omega) (by omega) ?_
    rw [if_neg (by omega)]
    exact ⟨rfl, rfl, (((hs.put (pf' := fr) (pt' := pt)).put (pt' := sub.length + 1) (bg' := bg)).put (bg' := k) (fr' := fr)).put, (((Fr1.up _ _ _).tr (Fr1.up _ _ _)).tr (Fr1.up _ _ _)).tr (Fr1.up _ _ _)⟩
  · refine xp_iload_3 (pc := 37) hX d_Cut_cutAtPlace_37 ?_
    refine xg_goto (pc := 38) hX 42 d_Cut_cutAtPlace_38 (by decide) ?_
    refine xg_put (pc := 42) hX (j := 6) k_Cut d_Cut_cutAtPlace_42 l_Cut_30 (by decide) rfl (by first | assumption | exact xup_s _ _ _ | exact xup_o (by omega) (by assumption) | exact xup_o (by omega) (xup_s _ _ _) | exact xup_o (by omega) (xup_o (by omega) (by assumption)) | exact xup_o (by omega) (xup_o (by omega) (xup_s _ _ _)) | exact xup_o (by omega) (xup_o (by omega) (xup_o (by omega) (by assumption)))) (Nat.le_of_ble_eq_true rfl) rfl rfl (by simp only [List.set_cons_zero, List.set_cons_succ]; exact rfl) ?_
    refine xp_aload_0 (pc := 45) hX d_Cut_cutAtPlace_45 ?_
    refine xp_iload_3 (pc := 46) hX d_Cut_cutAtPlace_46 ?_
    refine xg_put (pc := 47) hX (j := 2) k_Cut d_Cut_cutAtPlace_47 l_Cut_24 (by decide) rfl (by first | assumption | exact xup_s _ _ _ | exact xup_o (by omega) (by assumption) | exact xup_o (by omega) (xup_s _ _ _) | exact xup_o (by omega) (xup_o (by omega) (by assumption)) | exact xup_o (by omega) (xup_o (by omega) (xup_s _ _ _)) | exact xup_o (by omega) (xup_o (by omega) (xup_o (by omega) (by assumption)))) (Nat.le_of_ble_eq_true rfl) rfl rfl (by simp only [List.set_cons_zero, List.set_cons_succ]; exact rfl) ?_
    refine xp_aload_0 (pc := 50) hX d_Cut_cutAtPlace_50 ?_
    refine xp_iload_3 (pc := 51) hX d_Cut_cutAtPlace_51 ?_
    refine xg_put (pc := 52) hX (j := 1) k_Cut d_Cut_cutAtPlace_52 l_Cut_20 (by decide) rfl (by first | assumption | exact xup_s _ _ _ | exact xup_o (by omega) (by assumption) | exact xup_o (by omega) (xup_s _ _ _) | exact xup_o (by omega) (xup_o (by omega) (by assumption)) | exact xup_o (by omega) (xup_o (by omega) (xup_s _ _ _)) | exact xup_o (by omega) (xup_o (by omega) (xup_o (by omega) (by assumption)))) (Nat.le_of_ble_eq_true rfl) rfl rfl (by simp only [List.set_cons_zero, List.set_cons_succ]; exact rfl) ?_
    refine xg_vret (pc := 55) hX hE d_Cut_cutAtPlace_55 rfl (by omega) (by omega) ?_
    rw [if_pos (by omega)]
    exact ⟨rfl, rfl, (((hs.put (pf' := fr) (pt' := pt)).put (pt' := k) (bg' := bg)).put (bg' := k) (fr' := fr)).put, (((Fr1.up _ _ _).tr (Fr1.up _ _ _)).tr (Fr1.up _ _ _)).tr (Fr1.up _ _ _)⟩
