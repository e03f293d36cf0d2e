/-! NameRoom$Reader -/
def aI (o : Option Nat) : Int32 := match o with
  | none => nI 0
  | some p => (-1000) - nI p
theorem aI_some {p : Nat} (h : p < 100000) : ¬ aI (some p) = 0 := by
  intro q
  have h1 : (-1000 : Int32) - nI p = 0 := q
  have h2 : (-1000 : Int32) = nI p := by
    have := congrArg (· + nI p) h1
    simpa [Int32.sub_add_cancel] using this
  have h3 : (0 : Int32) ≤ nI p := nI_pos' (by omega)
  rw [← h2] at h3
  exact absurd h3 (by decide)
/-- a token: kind, from, to -/
abbrev xTk : Type := Nat × Nat × Nat
/-- the reader at h: its text (the tape) at h + 1, the tokens, targets, place, answer -/
def ReA (M : xH) (h : Nat) (t : List UInt8) (tk : List xTk) (tg pos : Nat) (ans : Option Nat) : Prop :=
  M h = some (.inr (5, [.ref (h + 1), .ref (h + 3), .ref (h + 4), .ref (h + 5), .int (nI tk.length), .int (nI tg), .int (nI pos), .int (aI ans)])) ∧ RowAt M (h + 1) 600 t ∧ tk.length ≤ 600 ∧ tg ≤ 700 ∧ pos ≤ 700 ∧ ∃ fk fs fe : Nat → Int32, M (h + 3) = some (.inl (1, 600, .inl fk)) ∧ M (h + 4) = some (.inl (1, 600, .inl fs)) ∧ M (h + 5) = some (.inl (1, 600, .inl fe)) ∧ ∀ (j : Nat) (e : xTk), tk[j]? = some e → fk j = nI e.1 ∧ fs j = nI e.2.1 ∧ fe j = nI e.2.2
theorem ReA.kept {M M' : xH} {h : Nat} {t : List UInt8} {tk : List xTk} {tg pos : Nat} {ans : Option Nat} (hs : ReA M h t tk tg pos ans) (hk : ∀ q, h ≤ q → q < h + 6 → M' q = M q) : ReA M' h t tk tg pos ans := by
  obtain ⟨h1, h2, h3, h4, h5, fk, fs, fe, h6, h7, h8, h9⟩ := hs
  exact ⟨by rw [hk h (by omega) (by omega)]; exact h1, h2.kept (hk _ (by omega) (by omega)) (hk _ (by omega) (by omega)), h3, h4, h5, fk, fs, fe, by rw [hk _ (by omega) (by omega)]; exact h6, by rw [hk _ (by omega) (by omega)]; exact h7, by rw [hk _ (by omega) (by omega)]; exact h8, h9⟩
/-- the object's own ints change, no more -/
theorem ReA.put {M : xH} {h : Nat} {t : List UInt8} {tk : List xTk} {tg pos tg' pos' : Nat} {ans ans' : Option Nat} (hs : ReA M h t tk tg pos ans) (h1 : tg' ≤ 700) (h2 : pos' ≤ 700) : ReA (xup M h (.inr (5, [.ref (h + 1), .ref (h + 3), .ref (h + 4), .ref (h + 5), .int (nI tk.length), .int (nI tg'), .int (nI pos'), .int (aI ans')]))) h t tk tg' pos' ans' := by
  obtain ⟨-, b2, b3, b4, b5, fk, fs, fe, b6, b7, b8, b9⟩ := hs
  exact ⟨xup_s _ _ _, b2.kept (xup_n _ _ (by omega)) (xup_n _ _ (by omega)), b3, h1, h2, fk, fs, fe, xup_o (by omega) b6, xup_o (by omega) b7, xup_o (by omega) b8, b9⟩
def FrA (M M' : xH) (h : Nat) : Prop := ∀ q, q ≠ h → q ≠ h + 3 → q ≠ h + 4 → q ≠ h + 5 → M' q = M q
theorem FrA.rf (M : xH) (h : Nat) : FrA M M h := fun _ _ _ _ _ => rfl
theorem FrA.tr {M M' M'' : xH} {h : Nat} (a : FrA M M' h) (b : FrA M' M'' h) : FrA M M'' h := fun q x y z w => (b q x y z w).trans (a q x y z w)
theorem FrA.up (M : xH) (h : Nat) (z : xE) : FrA M (xup M h z) h := fun _ hq _ _ _ => xup_n _ _ hq
set_option maxHeartbeats 4000000 in
set_option maxRecDepth 100000 in
theorem c_Rea_fail (d : Nat) {M : xH} {sz h tg pos p : Nat} {t : List UInt8} {tk : List xTk} {ans : Option Nat} (hs : ReA M h t tk tg pos ans) : xC d 0 0 Y_Rea_fail [.ref h, .int (nI p)] M sz (qv sz (fun M' => ReA M' h t tk tg pos (some p) ∧ FrA M M' h)) := by
  refine xC_of (by decide) (Nat.le_of_ble_eq_true rfl) (by simp [Value.category]) (vs := [some (.ref h), some (.int (nI p))]) rfl (fun K hX hE => ?_)
  obtain ⟨h1, h2, h3, h4, h5, -⟩ := id hs
  refine xp_aload_0 (pc := 0) hX d_Rea_fail_0 ?_
  refine xg_sipush (pc := 1) hX (-1000) d_Rea_fail_1 ci_sipush_m1000 ?_
  refine xp_iload_1 (pc := 4) hX d_Rea_fail_4 ?_
  first | refine xn_isub (pc := 5) hX d_Rea_fail_5 (by omega) ?_ | refine xg_isub (pc := 5) hX d_Rea_fail_5 ?_
  refine xg_put (pc := 6) hX (j := 7) k_Rea d_Rea_fail_6 l_Rea_40 (by decide) rfl (by first | assumption | exact xup_s _ _ _ | exact xup_o (by omega) (by assumption) | exact xup_o (by omega) (xup_s _ _ _) | exact xup_o (by omega) (xup_o (by omega) (by assumption)) | exact xup_o (by omega) (xup_o (by omega) (xup_s _ _ _)) | exact xup_o (by omega) (xup_o (by omega) (xup_o (by omega) (by assumption)))) (Nat.le_of_ble_eq_true rfl) rfl rfl (by simp only [List.set_cons_zero, List.set_cons_succ]; exact rfl) ?_
  refine xg_vret (pc := 9) hX hE d_Rea_fail_9 rfl (by omega) (by omega) ?_
  exact ⟨rfl, rfl, hs.put (ans' := some p) h4 h5, FrA.up _ _ _⟩
set_option maxHeartbeats 4000000 in
set_option maxRecDepth 100000 in
theorem c_Rea_begin (d : Nat) {M : xH} {sz h tg pos : Nat} {t : List UInt8} {tk : List xTk} {ans : Option Nat} (hs : ReA M h t tk tg pos ans) : xC d 0 0 Y_Rea_begin [.ref h] M sz (qv sz (fun M' => ReA M' h t [] 0 0 none ∧ FrA M M' h)) := by
  refine xC_of (by decide) (Nat.le_of_ble_eq_true rfl) (by simp [Value.category]) (vs := [some (.ref h)]) rfl (fun K hX hE => ?_)
  obtain ⟨h1, b2, b3, b4, b5, fk, fs, fe, b6, b7, b8, b9⟩ := id hs
  refine xp_aload_0 (pc := 0) hX d_Rea_begin_0 ?_
  refine xg_iconst (pc := 1) hX (nI 0) d_Rea_begin_1 ci_iconst_0 ?_
  refine xg_put (pc := 2) hX (j := 4) k_Rea d_Rea_begin_2 l_Rea_30 (by decide) rfl (by first | assumption | exact xup_s _ _ _ | exact xup_o (by omega) (by assumption) | exact xup_o (by omega) (xup_s _ _ _) | exact xup_o (by omega) (xup_o (by omega) (by assumption)) | exact xup_o (by omega) (xup_o (by omega) (xup_s _ _ _)) | exact xup_o (by omega) (xup_o (by omega) (xup_o (by omega) (by assumption)))) (Nat.le_of_ble_eq_true rfl) rfl rfl (by simp only [List.set_cons_zero, List.set_cons_succ]; exact rfl) ?_
  refine xp_aload_0 (pc := 5) hX d_Rea_begin_5 ?_
  refine xg_iconst (pc := 6) hX (nI 0) d_Rea_begin_6 ci_iconst_0 ?_
  refine xg_put (pc := 7) hX (j := 5) k_Rea d_Rea_begin_7 l_Rea_34 (by decide) rfl (by first | assumption | exact xup_s _ _ _ | exact xup_o (by omega) (by assumption) | exact xup_o (by omega) (xup_s _ _ _) | exact xup_o (by omega) (xup_o (by omega) (by assumption)) | exact xup_o (by omega) (xup_o (by omega) (xup_s _ _ _)) | exact xup_o (by omega) (xup_o (by omega) (xup_o (by omega) (by assumption)))) (Nat.le_of_ble_eq_true rfl) rfl rfl (by simp only [List.set_cons_zero, List.set_cons_succ]; exact rfl) ?_
  refine xp_aload_0 (pc := 10) hX d_Rea_begin_10 ?_
  refine xg_iconst (pc := 11) hX (nI 0) d_Rea_begin_11 ci_iconst_0 ?_
  refine xg_put (pc := 12) hX (j := 6) k_Rea d_Rea_begin_12 l_Rea_37 (by decide) rfl (by first | assumption | exact xup_s _ _ _ | exact xup_o (by omega) (by assumption) | exact xup_o (by omega) (xup_s _ _ _) | exact xup_o (by omega) (xup_o (by omega) (by assumption)) | exact xup_o (by omega) (xup_o (by omega) (xup_s _ _ _)) | exact xup_o (by omega) (xup_o (by omega) (xup_o (by omega) (by assumption)))) (Nat.le_of_ble_eq_true rfl) rfl rfl (by simp only [List.set_cons_zero, List.set_cons_succ]; exact rfl) ?_
  refine xp_aload_0 (pc := 15) hX d_Rea_begin_15 ?_
  refine xg_iconst (pc := 16) hX (nI 0) d_Rea_begin_16 ci_iconst_0 ?_
  refine xg_put (pc := 17) hX (j := 7) k_Rea d_Rea_begin_17 l_Rea_40 (by decide) rfl (by first | assumption | exact xup_s _ _ _ | exact xup_o (by omega) (by assumption) | exact xup_o (by omega) (xup_s _ _ _) | exact xup_o (by omega) (xup_o (by omega) (by assumption)) | exact xup_o (by omega) (xup_o (by omega) (xup_s _ _ _)) | exact xup_o (by omega) (xup_o (by omega) (xup_o (by omega) (by assumption)))) (Nat.le_of_ble_eq_true rfl) rfl rfl (by simp only [List.set_cons_zero, List.set_cons_succ]; exact rfl) ?_
  refine xg_vret (pc := 20) hX hE d_Rea_begin_20 rfl (by omega) (by omega) ?_
  refine ⟨rfl, rfl, ⟨xup_s _ _ _, b2.kept ?_ ?_, Nat.zero_le _, Nat.zero_le _, Nat.zero_le _, fk, fs, fe, ?_, ?_, ?_, fun j e he => by simp at he⟩, (((FrA.up _ _ _).tr (FrA.up _ _ _)).tr (FrA.up _ _ _)).tr (FrA.up _ _ _)⟩ <;> rw [xup_n _ _ (by omega), xup_n _ _ (by omega), xup_n _ _ (by omega), xup_n _ _ (by omega)] <;> assumption
set_option maxHeartbeats 4000000 in
set_option maxRecDepth 100000 in
theorem c_Rea_add (d : Nat) {M : xH} {sz h tg pos k a b : Nat} {t : List UInt8} {tk : List xTk} {ans : Option Nat} (hs : ReA M h t tk tg pos ans) (hl : tk.length < 600) : xC d 0 0 Y_Rea_add [.ref h, .int (nI k), .int (nI a), .int (nI b)] M sz (qv sz (fun M' => ReA M' h t (tk ++ [(k, a, b)]) tg pos ans ∧ FrA M M' h)) := by
  refine xC_of (by decide) (Nat.le_of_ble_eq_true rfl) (by simp [Value.category]) (vs := [some (.ref h), some (.int (nI k)), some (.int (nI a)), some (.int (nI b))]) rfl (fun K hX hE => ?_)
  obtain ⟨h1, b2, b3, b4, b5, fk, fs, fe, b6, b7, b8, b9⟩ := id hs
  refine xp_aload_0 (pc := 0) hX d_Rea_add_0 ?_
  refine xg_get (pc := 1) hX (j := 4) k_Rea d_Rea_add_1 l_Rea_30 (by decide) (by first | assumption | exact xup_s _ _ _ | exact xup_o (by omega) (by assumption) | exact xup_o (by omega) (xup_s _ _ _) | exact xup_o (by omega) (xup_o (by omega) (by assumption)) | exact xup_o (by omega) (xup_o (by omega) (xup_s _ _ _)) | exact xup_o (by omega) (xup_o (by omega) (xup_o (by omega) (by assumption)))) (by rfl) ?_
  refine xn_if_lt (pc := 4) hX 83 d_Rea_add_4 (by decide) (by omega) ?_
  refine xp_aload_0 (pc := 7) hX d_Rea_add_7 ?_
  refine xg_get (pc := 8) hX (j := 4) k_Rea d_Rea_add_8 l_Rea_30 (by decide) (by first | assumption | exact xup_s _ _ _ | exact xup_o (by omega) (by assumption) | exact xup_o (by omega) (xup_s _ _ _) | exact xup_o (by omega) (xup_o (by omega) (by assumption)) | exact xup_o (by omega) (xup_o (by omega) (xup_s _ _ _)) | exact xup_o (by omega) (xup_o (by omega) (xup_o (by omega) (by assumption)))) (by rfl) ?_
  refine xp_aload_0 (pc := 11) hX d_Rea_add_11 ?_
  refine xg_get (pc := 12) hX (j := 1) k_Rea d_Rea_add_12 l_Rea_20 (by decide) (by first | assumption | exact xup_s _ _ _ | exact xup_o (by omega) (by assumption) | exact xup_o (by omega) (xup_s _ _ _) | exact xup_o (by omega) (xup_o (by omega) (by assumption)) | exact xup_o (by omega) (xup_o (by omega) (xup_s _ _ _)) | exact xup_o (by omega) (xup_o (by omega) (xup_o (by omega) (by assumption)))) (by rfl) ?_
  refine xn_alen (pc := 15) hX (t := 1) d_Rea_add_15 rfl (by first | assumption | exact xup_s _ _ _ | exact xup_o (by omega) (by assumption) | exact xup_o (by omega) (xup_s _ _ _) | exact xup_o (by omega) (xup_o (by omega) (by assumption)) | exact xup_o (by omega) (xup_o (by omega) (xup_s _ _ _)) | exact xup_o (by omega) (xup_o (by omega) (xup_o (by omega) (by assumption)))) ?_
  refine xn_icmp_ge (pc := 16) hX 83 d_Rea_add_16 (by decide) (by omega) (by omega) (fun z => absurd z (by omega)) (fun _ => ?_)
  refine xp_aload_0 (pc := 19) hX d_Rea_add_19 ?_
  refine xg_get (pc := 20) hX (j := 4) k_Rea d_Rea_add_20 l_Rea_30 (by decide) (by first | assumption | exact xup_s _ _ _ | exact xup_o (by omega) (by assumption) | exact xup_o (by omega) (xup_s _ _ _) | exact xup_o (by omega) (xup_o (by omega) (by assumption)) | exact xup_o (by omega) (xup_o (by omega) (xup_s _ _ _)) | exact xup_o (by omega) (xup_o (by omega) (xup_o (by omega) (by assumption)))) (by rfl) ?_
  refine xp_aload_0 (pc := 23) hX d_Rea_add_23 ?_
  refine xg_get (pc := 24) hX (j := 2) k_Rea d_Rea_add_24 l_Rea_24 (by decide) (by first | assumption | exact xup_s _ _ _ | exact xup_o (by omega) (by assumption) | exact xup_o (by omega) (xup_s _ _ _) | exact xup_o (by omega) (xup_o (by omega) (by assumption)) | exact xup_o (by omega) (xup_o (by omega) (xup_s _ _ _)) | exact xup_o (by omega) (xup_o (by omega) (xup_o (by omega) (by assumption)))) (by rfl) ?_
  refine xn_alen (pc := 27) hX (t := 1) d_Rea_add_27 rfl (by first | assumption | exact xup_s _ _ _ | exact xup_o (by omega) (by assumption) | exact xup_o (by omega) (xup_s _ _ _) | exact xup_o (by omega) (xup_o (by omega) (by assumption)) | exact xup_o (by omega) (xup_o (by omega) (xup_s _ _ _)) | exact xup_o (by omega) (xup_o (by omega) (xup_o (by omega) (by assumption)))) ?_
  refine xn_icmp_ge (pc := 28) hX 83 d_Rea_add_28 (by decide) (by omega) (by omega) (fun z => absurd z (by omega)) (fun _ => ?_)
  refine xp_aload_0 (pc := 31) hX d_Rea_add_31 ?_
  refine xg_get (pc := 32) hX (j := 4) k_Rea d_Rea_add_32 l_Rea_30 (by decide) (by first | assumption | exact xup_s _ _ _ | exact xup_o (by omega) (by assumption) | exact xup_o (by omega) (xup_s _ _ _) | exact xup_o (by omega) (xup_o (by omega) (by assumption)) | exact xup_o (by omega) (xup_o (by omega) (xup_s _ _ _)) | exact xup_o (by omega) (xup_o (by omega) (xup_o (by omega) (by assumption)))) (by rfl) ?_
  refine xp_aload_0 (pc := 35) hX d_Rea_add_35 ?_
  refine xg_get (pc := 36) hX (j := 3) k_Rea d_Rea_add_36 l_Rea_27 (by decide) (by first | assumption | exact xup_s _ _ _ | exact xup_o (by omega) (by assumption) | exact xup_o (by omega) (xup_s _ _ _) | exact xup_o (by omega) (xup_o (by omega) (by assumption)) | exact xup_o (by omega) (xup_o (by omega) (xup_s _ _ _)) | exact xup_o (by omega) (xup_o (by omega) (xup_o (by omega) (by assumption)))) (by rfl) ?_
  refine xn_alen (pc := 39) hX (t := 1) d_Rea_add_39 rfl (by first | assumption | exact xup_s _ _ _ | exact xup_o (by omega) (by assumption) | exact xup_o (by omega) (xup_s _ _ _) | exact xup_o (by omega) (xup_o (by omega) (by assumption)) | exact xup_o (by omega) (xup_o (by omega) (xup_s _ _ _)) | exact xup_o (by omega) (xup_o (by omega) (xup_o (by omega) (by assumption)))) ?_
  refine xn_icmp_ge (pc := 40) hX 83 d_Rea_add_40 (by decide) (by omega) (by omega) (fun z => absurd z (by omega)) (fun _ => ?_)
  refine xp_aload_0 (pc := 43) hX d_Rea_add_43 ?_
  refine xg_get (pc := 44) hX (j := 1) k_Rea d_Rea_add_44 l_Rea_20 (by decide) (by first | assumption | exact xup_s _ _ _ | exact xup_o (by omega) (by assumption) | exact xup_o (by omega) (xup_s _ _ _) | exact xup_o (by omega) (xup_o (by omega) (by assumption)) | exact xup_o (by omega) (xup_o (by omega) (xup_s _ _ _)) | exact xup_o (by omega) (xup_o (by omega) (xup_o (by omega) (by assumption)))) (by rfl) ?_
  refine xp_aload_0 (pc := 47) hX d_Rea_add_47 ?_
  refine xg_get (pc := 48) hX (j := 4) k_Rea d_Rea_add_48 l_Rea_30 (by decide) (by first | assumption | exact xup_s _ _ _ | exact xup_o (by omega) (by assumption) | exact xup_o (by omega) (xup_s _ _ _) | exact xup_o (by omega) (xup_o (by omega) (by assumption)) | exact xup_o (by omega) (xup_o (by omega) (xup_s _ _ _)) | exact xup_o (by omega) (xup_o (by omega) (xup_o (by omega) (by assumption)))) (by rfl) ?_
  refine xp_iload_1 (pc := 51) hX d_Rea_add_51 ?_
  refine xn_iast (pc := 52) hX d_Rea_add_52 rfl (by first | assumption | exact xup_s _ _ _ | exact xup_o (by omega) (by assumption) | exact xup_o (by omega) (xup_s _ _ _) | exact xup_o (by omega) (xup_o (by omega) (by assumption)) | exact xup_o (by omega) (xup_o (by omega) (xup_s _ _ _)) | exact xup_o (by omega) (xup_o (by omega) (xup_o (by omega) (by assumption)))) (by omega) (by omega) ?_
  refine xp_aload_0 (pc := 53) hX d_Rea_add_53 ?_
  refine xg_get (pc := 54) hX (j := 2) k_Rea d_Rea_add_54 l_Rea_24 (by decide) (by first | assumption | exact xup_s _ _ _ | exact xup_o (by omega) (by assumption) | exact xup_o (by omega) (xup_s _ _ _) | exact xup_o (by omega) (xup_o (by omega) (by assumption)) | exact xup_o (by omega) (xup_o (by omega) (xup_s _ _ _)) | exact xup_o (by omega) (xup_o (by omega) (xup_o (by omega) (by assumption)))) (by rfl) ?_
  refine xp_aload_0 (pc := 57) hX d_Rea_add_57 ?_
  refine xg_get (pc := 58) hX (j := 4) k_Rea d_Rea_add_58 l_Rea_30 (by decide) (by first | assumption | exact xup_s _ _ _ | exact xup_o (by omega) (by assumption) | exact xup_o (by omega) (xup_s _ _ _) | exact xup_o (by omega) (xup_o (by omega) (by assumption)) | exact xup_o (by omega) (xup_o (by omega) (xup_s _ _ _)) | exact xup_o (by omega) (xup_o (by omega) (xup_o (by omega) (by assumption)))) (by rfl) ?_
  refine xp_iload_2 (pc := 61) hX d_Rea_add_61 ?_
  refine xn_iast (pc := 62) hX d_Rea_add_62 rfl (by first | assumption | exact xup_s _ _ _ | exact xup_o (by omega) (by assumption) | exact xup_o (by omega) (xup_s _ _ _) | exact xup_o (by omega) (xup_o (by omega) (by assumption)) | exact xup_o (by omega) (xup_o (by omega) (xup_s _ _ _)) | exact xup_o (by omega) (xup_o (by omega) (xup_o (by omega) (by assumption)))) (by omega) (by omega) ?_
  refine xp_aload_0 (pc := 63) hX d_Rea_add_63 ?_
  refine xg_get (pc := 64) hX (j := 3) k_Rea d_Rea_add_64 l_Rea_27 (by decide) (by first | assumption | exact xup_s _ _ _ | exact xup_o (by omega) (by assumption) | exact xup_o (by omega) (xup_s _ _ _) | exact xup_o (by omega) (xup_o (by omega) (by assumption)) | exact xup_o (by omega) (xup_o (by omega) (xup_s _ _ _)) | exact xup_o (by omega) (xup_o (by omega) (xup_o (by omega) (by assumption)))) (by rfl) ?_
  refine xp_aload_0 (pc := 67) hX d_Rea_add_67 ?_
  refine xg_get (pc := 68) hX (j := 4) k_Rea d_Rea_add_68 l_Rea_30 (by decide) (by first | assumption | exact xup_s _ _ _ | exact xup_o (by omega) (by assumption) | exact xup_o (by omega) (xup_s _ _ _) | exact xup_o (by omega) (xup_o (by omega) (by assumption)) | exact xup_o (by omega) (xup_o (by omega) (xup_s _ _ _)) | exact xup_o (by omega) (xup_o (by omega) (xup_o (by omega) (by assumption)))) (by rfl) ?_
  refine xp_iload_3 (pc := 71) hX d_Rea_add_71 ?_
  refine xn_iast (pc := 72) hX d_Rea_add_72 rfl (by first | assumption | exact xup_s _ _ _ | exact xup_o (by omega) (by assumption) | exact xup_o (by omega) (xup_s _ _ _) | exact xup_o (by omega) (xup_o (by omega) (by assumption)) | exact xup_o (by omega) (xup_o (by omega) (xup_s _ _ _)) | exact xup_o (by omega) (xup_o (by omega) (xup_o (by omega) (by assumption)))) (by omega) (by omega) ?_
  refine xp_aload_0 (pc := 73) hX d_Rea_add_73 ?_
  refine xg_dup (pc := 74) hX d_Rea_add_74 rfl ?_
  refine xg_get (pc := 75) hX (j := 4) k_Rea d_Rea_add_75 l_Rea_30 (by decide) (by first | assumption | exact xup_s _ _ _ | exact xup_o (by omega) (by assumption) | exact xup_o (by omega) (xup_s _ _ _) | exact xup_o (by omega) (xup_o (by omega) (by assumption)) | exact xup_o (by omega) (xup_o (by omega) (xup_s _ _ _)) | exact xup_o (by omega) (xup_o (by omega) (xup_o (by omega) (by assumption)))) (by rfl) ?_
  refine xg_iconst (pc := 78) hX (nI 1) d_Rea_add_78 ci_iconst_1 ?_
  first | refine xn_iadd (pc := 79) hX d_Rea_add_79 ?_ | refine xg_iadd (pc := 79) hX d_Rea_add_79 ?_
  refine xg_put (pc := 80) hX (j := 4) k_Rea d_Rea_add_80 l_Rea_30 (by decide) rfl (by first | assumption | exact xup_s _ _ _ | exact xup_o (by omega) (by assumption) | exact xup_o (by omega) (xup_s _ _ _) | exact xup_o (by omega) (xup_o (by omega) (by assumption)) | exact xup_o (by omega) (xup_o (by omega) (xup_s _ _ _)) | exact xup_o (by omega) (xup_o (by omega) (xup_o (by omega) (by assumption)))) (Nat.le_of_ble_eq_true rfl) rfl rfl (by simp only [List.set_cons_zero, List.set_cons_succ]; exact rfl) ?_
  refine xg_vret (pc := 83) hX hE d_Rea_add_83 rfl (by omega) (by omega) ?_
  refine ⟨rfl, rfl, ⟨?_, b2.kept ?_ ?_, by simp; omega, b4, b5, upd fk tk.length (nI k), upd fs tk.length (nI a), upd fe tk.length (nI b), ?_, ?_, ?_, ?_⟩, ?_⟩
  · simp [xup]
  · simp [xup]
  · rw [xup_n _ _ (by omega), xup_n _ _ (by omega), xup_n _ _ (by omega), xup_n _ _ (by omega)]
  · simp [xup]
  · simp [xup]
  · simp [xup]
  · intro j e he
    by_cases hj : j = tk.length
    · subst hj
      simp at he
      subst he
      exact ⟨pk_us, pk_us, pk_us⟩
    · rw [List.getElem?_append] at he
      split at he
      · rw [pk_un hj, pk_un hj, pk_un hj]
        exact b9 j e he
      · have := (List.getElem?_eq_some_iff.mp he).1
        simp at this
        omega
  · intro q z1 z2 z3 z4
    rw [xup_n _ _ z1, xup_n _ _ z4, xup_n _ _ z3, xup_n _ _ z2]
/-- what the token says, or 0 -/
def tkK (tk : List xTk) (i : Nat) : Nat := match tk[i]? with
  | none => 0
  | some e => e.1
def tkA (tk : List xTk) (i : Nat) : Nat := match tk[i]? with
  | none => 0
  | some e => e.2.1
def tkB (tk : List xTk) (i : Nat) : Nat := match tk[i]? with
  | none => 0
  | some e => e.2.2
