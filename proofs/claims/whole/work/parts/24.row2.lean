/-! NameRoom$Row, second part -/
theorem low8 (y : Int32) : y.toInt8.toInt32 = sb_b (y.toBitVec.toNat % 256) := by
  unfold sb_b
  congr 1
  apply Int8.toBitVec_inj.mp
  apply BitVec.eq_of_toNat_eq
  simp [nI]
  rw [BitVec.signExtend_eq_setWidth_of_le _ (by omega)]
  simp
def wb (x : Int32) (k : Nat) : UInt8 := UInt8.ofNat (x.toBitVec.toNat / 2 ^ k)
theorem wb_toNat (x : Int32) (k : Nat) : (wb x k).toNat = x.toBitVec.toNat / 2 ^ k % 256 := by
  simp [wb, UInt8.toNat_ofNat]
def w4 (x : Int32) : List UInt8 := [wb x 24, wb x 16, wb x 8, wb x 0]
theorem ush8 (x : Int32) (k : Nat) (hk : k < 32) : ((x.toUInt32 >>> ((nI k).toUInt32 &&& Int32.toUInt32 31)).toInt32).toInt8.toInt32 = sb_b (wb x k).toNat := by
  have h : (((nI k).toUInt32 &&& Int32.toUInt32 31).toBitVec % 32).toNat = k := by
    have : ∀ k, k < 32 → (((nI k).toUInt32 &&& Int32.toUInt32 31).toBitVec % 32).toNat = k := by decide +kernel
    exact this k hk
  rw [low8, pk_ushr x (nI k) k h, wb_toNat]
theorem sb_inj {a b : UInt8} : sb_b a.toNat = sb_b b.toNat ↔ a = b := by
  constructor
  · intro h
    have h1 := sb_and a
    rw [h, sb_and b] at h1
    exact UInt8.toNat_inj.mp ((nI_eq (by_lt31 b) (by_lt31 a)).mp h1).symm
  · intro h; rw [h]
theorem dm_24 : nI 24 + -8 = nI 16 := by decide
theorem dm_16 : nI 16 + -8 = nI 8 := by decide
theorem dm_8 : nI 8 + -8 = nI 0 := by decide
theorem dm_0 : nI 0 + -8 < 0 := by decide
set_option maxHeartbeats 4000000 in
set_option maxRecDepth 100000 in
theorem c_Row_addInt (d : Nat) {M : xH} {sz r w : Nat} {bs : List UInt8} (x : Int32) (hr : RowAt M r w bs) (hl : bs.length + 4 ≤ w) (hw : w < 2147483647) : xC (d + 1) 0 0 Y_Row_addInt [.ref r, .int x] M sz (qv sz (fun M' => RowAt M' r w (bs ++ w4 x) ∧ Fr2 M M' r)) := by
  refine xC_of (by decide) (Nat.le_of_ble_eq_true rfl) (by simp [Value.category]) (vs := [some (.ref r), some (.int x), none]) rfl (fun K hX hE => ?_)
  have step : ∀ (M1 : xH) (cs : List UInt8) (k : Nat), k < 32 → cs.length < w → RowAt M1 r w cs → Fr2 M M1 r → (∀ M2, RowAt M2 r w (cs ++ [wb x k]) → Fr2 M M2 r → xG K 18 [some (.ref r), some (.int x), some (.int (nI k + -8))] [] M2 sz 0 0) → xG K 3 [some (.ref r), some (.int x), some (.int (nI k))] [] M1 sz 0 0 := by
    intro M1 cs k hk hc h1 hf kk
    obtain ⟨hr0, hr1⟩ := id h1
    refine xp_iload_2 (pc := 3) hX d_Row_addInt_3 ?_
    refine xn_if_lt (pc := 4) hX 21 d_Row_addInt_4 (by decide) (by omega) ?_
    refine xp_aload_0 (pc := 7) hX d_Row_addInt_7 ?_
    refine xp_iload_1 (pc := 8) hX d_Row_addInt_8 ?_
    refine xp_iload_2 (pc := 9) hX d_Row_addInt_9 ?_
    refine xg_iushr (pc := 10) hX d_Row_addInt_10 ?_
    refine xi_V (Y2 := Y_Row_add) (pc := 11) hX [_] k_Row m_Row_add d_Row_addInt_11 l_Row_25 rfl rfl (by simp [Value.category]) (by first | assumption | exact xup_s _ _ _ | exact xup_o (by omega) (by assumption) | exact xup_o (by omega) (xup_s _ _ _) | exact xup_o (by omega) (xup_o (by omega) (by assumption)) | exact xup_o (by omega) (xup_o (by omega) (xup_s _ _ _)) | exact xup_o (by omega) (xup_o (by omega) (xup_o (by omega) (by assumption)))) (c_Row_add d _ (wb x k) (ush8 x k hk) h1 hw) (by omega) (by omega) ?_
    intro y M2 h
    refine xg_pop (pc := 14) hX d_Row_addInt_14 rfl ?_
    refine xg_iinc (pc := 15) hX d_Row_addInt_15 (by decide) rfl ci_iconst_m8 (by rfl) ?_
    rcases h with ⟨-, -, h2, h3⟩ | ⟨h, -, -⟩
    · exact kk M2 h2 (hf.tr h3)
    · exact absurd h (by omega)
  refine xg_bipush (pc := 0) hX (nI 24) d_Row_addInt_0 ci_bipush_24 ?_
  refine xp_istore_2 (pc := 2) hX d_Row_addInt_2 (by decide) ?_
  refine step M bs 24 (by omega) (by omega) hr (Fr2.rf M r) (fun M1 h1 f1 => ?_)
  refine xg_goto (pc := 18) hX 3 d_Row_addInt_18 (by decide) ?_
  rw [dm_24]
  refine step M1 _ 16 (by omega) (by simp; omega) h1 f1 (fun M2 h2 f2 => ?_)
  refine xg_goto (pc := 18) hX 3 d_Row_addInt_18 (by decide) ?_
  rw [dm_16]
  refine step M2 _ 8 (by omega) (by simp; omega) h2 f2 (fun M3 h3 f3 => ?_)
  refine xg_goto (pc := 18) hX 3 d_Row_addInt_18 (by decide) ?_
  rw [dm_8]
  refine step M3 _ 0 (by omega) (by simp; omega) h3 f3 (fun M4 h4 f4 => ?_)
  refine xg_goto (pc := 18) hX 3 d_Row_addInt_18 (by decide) ?_
  refine xp_iload_2 (pc := 3) hX d_Row_addInt_3 ?_
  refine xg_if_lt (pc := 4) hX 21 d_Row_addInt_4 (by decide) (fun _ => ?_) (fun h => absurd dm_0 h)
  refine xg_vret (pc := 21) hX hE d_Row_addInt_21 rfl (by omega) (by omega) ?_
  refine ⟨rfl, rfl, ?_, f4⟩
  have e : bs ++ w4 x = bs ++ [wb x 24] ++ [wb x 16] ++ [wb x 8] ++ [wb x 0] := by simp [w4]
  rw [e]
  exact h4
/-- the bytes from a up to b -/
def sl (bs : List UInt8) (a b : Nat) : List UInt8 := (bs.drop a).take (b - a)
theorem sl_len {bs : List UInt8} {a b : Nat} (h : b ≤ bs.length) : (sl bs a b).length = b - a := by
  simp [sl]; omega
theorem sl_at {bs : List UInt8} {a b j : Nat} (h : j < b - a) : (sl bs a b)[j]? = bs[a + j]? := by
  unfold sl
  rw [List.getElem?_take_of_lt h, List.getElem?_drop]
theorem sl_succ {bs : List UInt8} {a i : Nat} (ha : a ≤ i) (h : i < bs.length) : sl bs a (i + 1) = sl bs a i ++ [bs[i]] := by
  unfold sl
  rw [show i + 1 - a = (i - a) + 1 by omega, List.take_succ, List.getElem?_drop, show a + (i - a) = i by omega, List.getElem?_eq_getElem h]
  rfl
theorem sl_same {bs : List UInt8} {a : Nat} : sl bs a a = [] := by simp [sl]
theorem sl_all {bs : List UInt8} : sl bs 0 bs.length = bs := by simp [sl]
theorem fits_sb (b : UInt8) : fits .byte (.int (sb_b b.toNat)) = true := sb_fitB b.toNat
set_option maxHeartbeats 4000000 in
set_option maxRecDepth 100000 in
theorem c_Row_addPart (d : Nat) {M : xH} {sz r w s ws : Nat} {bs src : List UInt8} {a b : Nat} (hr : RowAt M r w bs) (hs : RowAt M s ws src) (hrs : r ≠ s) (hab : a ≤ b) (hb : b ≤ src.length) (hw : w < 2147483647) (hws : ws < 2147483647) : xC (d + 1) 0 0 Y_Row_addPart [.ref r, .ref s, .int (nI a), .int (nI b)] M sz (qi sz (fun y M' => (bs.length + (b - a) ≤ w ∧ y = nI 1 ∧ RowAt M' r w (bs ++ sl src a b) ∧ Fr2 M M' r) ∨ (w < bs.length + (b - a) ∧ y = nI 0 ∧ M' = M))) := by
  refine xC_of (by decide) (Nat.le_of_ble_eq_true rfl) (by simp [Value.category]) (vs := [some (.ref r), some (.ref s), some (.int (nI a)), some (.int (nI b)), none]) rfl (fun K hX hE => ?_)
  obtain ⟨h1, h2, f, h3, h4⟩ := hr
  obtain ⟨g1, g2, g, g3, g4⟩ := hs
  have hne : s + 1 ≠ r := fun q => by rw [q] at g3; rw [g3] at h1; cases h1
  have hne2 : r + 1 ≠ s := fun q => by rw [q] at h3; rw [h3] at g1; cases g1
  refine xp_iload_3 (pc := 0) hX d_Row_addPart_0 ?_
  refine xp_iload_2 (pc := 1) hX d_Row_addPart_1 ?_
  first | refine xn_isub (pc := 2) hX d_Row_addPart_2 (by omega) ?_ | refine xg_isub (pc := 2) hX d_Row_addPart_2 ?_
  refine xp_istore_4 (pc := 3) hX d_Row_addPart_3 (by decide) ?_
  refine xp_iload_2 (pc := 5) hX d_Row_addPart_5 ?_
  refine xn_if_lt (pc := 6) hX 23 d_Row_addPart_6 (by decide) (by omega) ?_
  refine xp_iload_4 (pc := 9) hX d_Row_addPart_9 ?_
  refine xn_if_lt (pc := 11) hX 23 d_Row_addPart_11 (by decide) (by omega) ?_
  refine xp_iload_3 (pc := 14) hX d_Row_addPart_14 ?_
  refine xp_aload_1 (pc := 15) hX d_Row_addPart_15 ?_
  refine xg_get (pc := 16) hX (j := 0) k_Row d_Row_addPart_16 l_Row_15 (by decide) (by first | assumption | exact xup_s _ _ _ | exact xup_o (by omega) (by assumption) | exact xup_o (by omega) (xup_s _ _ _) | exact xup_o (by omega) (xup_o (by omega) (by assumption)) | exact xup_o (by omega) (xup_o (by omega) (xup_s _ _ _)) | exact xup_o (by omega) (xup_o (by omega) (xup_o (by omega) (by assumption)))) (by rfl) ?_
  refine xn_alen (pc := 19) hX (t := 0) d_Row_addPart_19 rfl (by first | assumption | exact xup_s _ _ _ | exact xup_o (by omega) (by assumption) | exact xup_o (by omega) (xup_s _ _ _) | exact xup_o (by omega) (xup_o (by omega) (by assumption)) | exact xup_o (by omega) (xup_o (by omega) (xup_s _ _ _)) | exact xup_o (by omega) (xup_o (by omega) (xup_o (by omega) (by assumption)))) ?_
  refine xn_icmp_le (pc := 20) hX 25 d_Row_addPart_20 (by decide) (by omega) (by show ws < _; omega) (fun _ => ?_) (fun h => absurd h (by show ¬ ws < b; omega))
  refine xp_aload_0 (pc := 25) hX d_Row_addPart_25 ?_
  refine xg_get (pc := 26) hX (j := 1) k_Row d_Row_addPart_26 l_Row_21 (by decide) (by first | assumption | exact xup_s _ _ _ | exact xup_o (by omega) (by assumption) | exact xup_o (by omega) (xup_s _ _ _) | exact xup_o (by omega) (xup_o (by omega) (by assumption)) | exact xup_o (by omega) (xup_o (by omega) (xup_s _ _ _)) | exact xup_o (by omega) (xup_o (by omega) (xup_o (by omega) (by assumption)))) (by rfl) ?_
  refine xn_if_lt (pc := 29) hX 47 d_Row_addPart_29 (by decide) (by omega) ?_
  refine xp_iload_4 (pc := 32) hX d_Row_addPart_32 ?_
  refine xp_aload_0 (pc := 34) hX d_Row_addPart_34 ?_
  refine xg_get (pc := 35) hX (j := 0) k_Row d_Row_addPart_35 l_Row_15 (by decide) (by first | assumption | exact xup_s _ _ _ | exact xup_o (by omega) (by assumption) | exact xup_o (by omega) (xup_s _ _ _) | exact xup_o (by omega) (xup_o (by omega) (by assumption)) | exact xup_o (by omega) (xup_o (by omega) (xup_s _ _ _)) | exact xup_o (by omega) (xup_o (by omega) (xup_o (by omega) (by assumption)))) (by rfl) ?_
  refine xn_alen (pc := 38) hX (t := 0) d_Row_addPart_38 rfl (by first | assumption | exact xup_s _ _ _ | exact xup_o (by omega) (by assumption) | exact xup_o (by omega) (xup_s _ _ _) | exact xup_o (by omega) (xup_o (by omega) (by assumption)) | exact xup_o (by omega) (xup_o (by omega) (xup_s _ _ _)) | exact xup_o (by omega) (xup_o (by omega) (xup_o (by omega) (by assumption)))) ?_
  refine xp_aload_0 (pc := 39) hX d_Row_addPart_39 ?_
  refine xg_get (pc := 40) hX (j := 1) k_Row d_Row_addPart_40 l_Row_21 (by decide) (by first | assumption | exact xup_s _ _ _ | exact xup_o (by omega) (by assumption) | exact xup_o (by omega) (xup_s _ _ _) | exact xup_o (by omega) (xup_o (by omega) (by assumption)) | exact xup_o (by omega) (xup_o (by omega) (xup_s _ _ _)) | exact xup_o (by omega) (xup_o (by omega) (xup_o (by omega) (by assumption)))) (by rfl) ?_
  refine xn_isub (pc := 43) (a := w) hX d_Row_addPart_43 h2 ?_
  refine xn_icmp_le (pc := 44) hX 49 d_Row_addPart_44 (by decide) (by omega) (by omega) (fun h => ?_) (fun h => ?_)
  · refine xp_aload_1 (pc := 49) hX d_Row_addPart_49 ?_
    refine xg_get (pc := 50) hX (j := 0) k_Row d_Row_addPart_50 l_Row_15 (by decide) (by first | assumption | exact xup_s _ _ _ | exact xup_o (by omega) (by assumption) | exact xup_o (by omega) (xup_s _ _ _) | exact xup_o (by omega) (xup_o (by omega) (by assumption)) | exact xup_o (by omega) (xup_o (by omega) (xup_s _ _ _)) | exact xup_o (by omega) (xup_o (by omega) (xup_o (by omega) (by assumption)))) (by rfl) ?_
    refine xp_iload_2 (pc := 53) hX d_Row_addPart_53 ?_
    refine xp_aload_0 (pc := 54) hX d_Row_addPart_54 ?_
    refine xg_get (pc := 55) hX (j := 0) k_Row d_Row_addPart_55 l_Row_15 (by decide) (by first | assumption | exact xup_s _ _ _ | exact xup_o (by omega) (by assumption) | exact xup_o (by omega) (xup_s _ _ _) | exact xup_o (by omega) (xup_o (by omega) (by assumption)) | exact xup_o (by omega) (xup_o (by omega) (xup_s _ _ _)) | exact xup_o (by omega) (xup_o (by omega) (xup_o (by omega) (by assumption)))) (by rfl) ?_
    refine xp_aload_0 (pc := 58) hX d_Row_addPart_58 ?_
    refine xg_get (pc := 59) hX (j := 1) k_Row d_Row_addPart_59 l_Row_21 (by decide) (by first | assumption | exact xup_s _ _ _ | exact xup_o (by omega) (by assumption) | exact xup_o (by omega) (xup_s _ _ _) | exact xup_o (by omega) (xup_o (by omega) (by assumption)) | exact xup_o (by omega) (xup_o (by omega) (xup_s _ _ _)) | exact xup_o (by omega) (xup_o (by omega) (xup_o (by omega) (by assumption)))) (by rfl) ?_
    refine xp_iload_4 (pc := 62) hX d_Row_addPart_62 ?_
    refine xg_copy (pc := 64) (t := 0) (n0 := ws) (n1 := w) (f := g) (g := f) (ty := .byte) hX d_Row_addPart_64 l_Row_29 wj_copyN wj_copyS wj_copyI rfl rfl g3 h3 (nI_pos (by omega)) (nI_pos (by omega)) (nI_pos (by omega)) (by rw [nI_clamp (by omega), nI_clamp (by omega)]; omega) (by rw [nI_clamp (by omega), nI_clamp (by omega)]; omega) (fun i hi => ?_) (by show 1 ≤ d + 1; omega) (by show _ ≤ 40 * (d + 1); simp [nativeFrameWords]; omega) ?_
    · rw [nI_clamp (by omega)] at hi ⊢
      rw [g4 (a + i) _ (List.getElem?_eq_getElem (by omega))]
      exact fits_sb _
    · rw [nI_clamp (by omega), nI_clamp (by omega), nI_clamp (by omega)]
      refine xp_aload_0 (pc := 67) hX d_Row_addPart_67 ?_
      refine xg_dup (pc := 68) hX d_Row_addPart_68 rfl ?_
      refine xg_get (pc := 69) hX (j := 1) k_Row d_Row_addPart_69 l_Row_21 (by decide) (by first | assumption | exact xup_s _ _ _ | exact xup_o (by omega) (by assumption) | exact xup_o (by omega) (xup_s _ _ _) | exact xup_o (by omega) (xup_o (by omega) (by assumption)) | exact xup_o (by omega) (xup_o (by omega) (xup_s _ _ _)) | exact xup_o (by omega) (xup_o (by omega) (xup_o (by omega) (by assumption)))) (by rfl) ?_
      refine xp_iload_4 (pc := 72) hX d_Row_addPart_72 ?_
      first | refine xn_iadd (pc := 74) hX d_Row_addPart_74 ?_ | refine xg_iadd (pc := 74) hX d_Row_addPart_74 ?_
      refine xg_put (pc := 75) hX (j := 1) k_Row d_Row_addPart_75 l_Row_21 (by decide) rfl (by first | assumption | exact xup_s _ _ _ | exact xup_o (by omega) (by assumption) | exact xup_o (by omega) (xup_s _ _ _) | exact xup_o (by omega) (xup_o (by omega) (by assumption)) | exact xup_o (by omega) (xup_o (by omega) (xup_s _ _ _)) | exact xup_o (by omega) (xup_o (by omega) (xup_o (by omega) (by assumption)))) (Nat.le_of_ble_eq_true rfl) rfl rfl (by simp only [List.set_cons_zero, List.set_cons_succ]; exact rfl) ?_
      refine xg_iconst (pc := 78) hX (nI 1) d_Row_addPart_78 ci_iconst_1 ?_
      refine xg_iret (pc := 79) hX hE d_Row_addPart_79 rfl rfl (by omega) (by omega) ?_
      refine ⟨rfl, _, rfl, Or.inl ⟨by omega, rfl, ⟨?_, ?_, va_cpy g f a bs.length (b - a), ?_, ?_⟩, ?_⟩⟩
      · rw [xup_s, List.length_append, sl_len hb]
      · rw [List.length_append, sl_len hb]; omega
      · exact xup_o (by omega) (xup_s _ _ _)
      · intro j c hj
        by_cases hl : j < bs.length
        · rw [List.getElem?_append_left hl] at hj
          rw [pk_cpy_out (Or.inl hl)]
          exact h4 j c hj
        · rw [List.getElem?_append_right (by omega)] at hj
          have hlt := (List.getElem?_eq_some_iff.mp hj).1
          rw [sl_len hb] at hlt
          rw [pk_cpy_in (by omega) (by omega)]
          rw [sl_at hlt] at hj
          exact g4 _ c hj
      · intro q hq hq1
        rw [xup_n _ _ hq, xup_n _ _ hq1]
  · refine xg_iconst (pc := 47) hX (nI 0) d_Row_addPart_47 ci_iconst_0 ?_
    refine xg_iret (pc := 48) hX hE d_Row_addPart_48 rfl rfl (by omega) (by omega) ?_
    exact ⟨rfl, _, rfl, Or.inr ⟨by omega, rfl, rfl⟩⟩
