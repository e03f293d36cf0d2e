/-! NameRoom: the names -/
def NamC (B : Nat) : xE := .inr (7, [.ref (B + 1 + 1), .ref (B + 7), .ref (B + 9), .ref (B + 11), .ref (B + 13), .ref (B + 15), .ref (B + 1), .ref (B + 17), .ref (B + 519), .ref (B + 773)])
/-- the part of the room that knows names: full name at hand, entries, pools -/
def NW (M : xH) (B : Nat) (full : List UInt8) (g : Nat → Nat) (L : Nat → xEn × Bool) (es : List xEn) (dp : Nat) (se : List xSe) : Prop :=
  M B = some (.inr (7, [.ref (B + 1 + 1), .ref (B + 7), .ref (B + 9), .ref (B + 11), .ref (B + 13), .ref (B + 15), .ref (B + 1), .ref (B + 17), .ref (B + 519), .ref (B + 773)])) ∧ RowAt M (B + 9) 200 full ∧ (∃ x, RowAt M (B + 11) 200 x) ∧ (∃ x, RowAt M (B + 13) 30 x) ∧ ShA M (B + 17) g L es ∧ PoA M (B + 519) dp se ∧ (∀ s ∈ se, 1 ≤ s.1) ∧ 1 ≤ dp ∧ dp ≤ 8
def FrN (M M' : xH) (B : Nat) : Prop := ∀ q, ¬ ((B + 9 ≤ q ∧ q < B + 15) ∨ (B + 17 ≤ q ∧ q < B + 773)) → M' q = M q
theorem FrN.rf (M : xH) (B : Nat) : FrN M M B := fun _ _ => rfl
theorem FrN.tr {M M' M'' : xH} {B : Nat} (a : FrN M M' B) (b : FrN M' M'' B) : FrN M M'' B := fun q h => (b q h).trans (a q h)
theorem FrN.r2 {M M' : xH} {B r : Nat} (h : Fr2 M M' r) (hr : (B + 9 ≤ r ∧ r + 1 < B + 15) ∨ (B + 17 ≤ r ∧ r + 1 < B + 773)) : FrN M M' B := fun q hq => h q (by omega) (by omega)
theorem FrN.rR {M M' : xH} {B a b : Nat} (h : FrR M M' a b) (hr : (B + 9 ≤ a ∧ b ≤ B + 15) ∨ (B + 17 ≤ a ∧ b ≤ B + 773)) : FrN M M' B := fun q hq => h q (by omega)
theorem NW.stem {M M' : xH} {B : Nat} {full x : List UInt8} {g : Nat → Nat} {L : Nat → xEn × Bool} {es : List xEn} {dp : Nat} {se : List xSe} (h : NW M B full g L es dp se) (hf : Fr2 M M' (B + 11)) (hx : RowAt M' (B + 11) 200 x) : NW M' B full g L es dp se := by
  obtain ⟨h1, h2, -, ⟨y, h4⟩, h5, h6, h7, h8⟩ := h
  exact ⟨by rw [hf B (by omega) (by omega)]; exact h1, h2.kept (hf _ (by omega) (by omega)) (hf _ (by omega) (by omega)), ⟨x, hx⟩, ⟨y, h4.kept (hf _ (by omega) (by omega)) (hf _ (by omega) (by omega))⟩, h5.kept (fun q a b => hf q (by omega) (by omega)), h6.kept (fun q a b => hf q (by omega) (by omega)), h7, h8⟩
theorem NW.fullx {M M' : xH} {B : Nat} {full x : List UInt8} {g : Nat → Nat} {L : Nat → xEn × Bool} {es : List xEn} {dp : Nat} {se : List xSe} (h : NW M B full g L es dp se) (hf : Fr2 M M' (B + 9)) (hx : RowAt M' (B + 9) 200 x) : NW M' B x g L es dp se := by
  obtain ⟨h1, -, ⟨z, h3⟩, ⟨y, h4⟩, h5, h6, h7, h8⟩ := h
  exact ⟨by rw [hf B (by omega) (by omega)]; exact h1, hx, ⟨z, h3.kept (hf _ (by omega) (by omega)) (hf _ (by omega) (by omega))⟩, ⟨y, h4.kept (hf _ (by omega) (by omega)) (hf _ (by omega) (by omega))⟩, h5.kept (fun q a b => hf q (by omega) (by omega)), h6.kept (fun q a b => hf q (by omega) (by omega)), h7, h8⟩
theorem NW.tailx {M M' : xH} {B : Nat} {full x : List UInt8} {g : Nat → Nat} {L : Nat → xEn × Bool} {es : List xEn} {dp : Nat} {se : List xSe} (h : NW M B full g L es dp se) (hf : Fr2 M M' (B + 13)) (hx : RowAt M' (B + 13) 30 x) : NW M' B full g L es dp se := by
  obtain ⟨h1, h2, ⟨z, h3⟩, -, h5, h6, h7, h8⟩ := h
  exact ⟨by rw [hf B (by omega) (by omega)]; exact h1, h2.kept (hf _ (by omega) (by omega)) (hf _ (by omega) (by omega)), ⟨z, h3.kept (hf _ (by omega) (by omega)) (hf _ (by omega) (by omega))⟩, ⟨x, hx⟩, h5.kept (fun q a b => hf q (by omega) (by omega)), h6.kept (fun q a b => hf q (by omega) (by omega)), h7, h8⟩
theorem NW.shelf {M M' : xH} {B : Nat} {full : List UInt8} {g g' : Nat → Nat} {L L' : Nat → xEn × Bool} {es es' : List xEn} {dp : Nat} {se : List xSe} (h : NW M B full g L es dp se) (hf : FrR M M' (B + 17) (B + 17 + 502)) (hx : ShA M' (B + 17) g' L' es') : NW M' B full g' L' es' dp se := by
  obtain ⟨h1, h2, ⟨z, h3⟩, ⟨y, h4⟩, -, h6, h7, h8⟩ := h
  exact ⟨by rw [hf B (by omega)]; exact h1, h2.kept (hf _ (by omega)) (hf _ (by omega)), ⟨z, h3.kept (hf _ (by omega)) (hf _ (by omega))⟩, ⟨y, h4.kept (hf _ (by omega)) (hf _ (by omega))⟩, hx, h6.kept (fun q a b => hf q (by omega)), h7, h8⟩
theorem NW.pools {M M' : xH} {B : Nat} {full : List UInt8} {g : Nat → Nat} {L : Nat → xEn × Bool} {es : List xEn} {dp dp' : Nat} {se se' : List xSe} (h : NW M B full g L es dp se) (hf : FrR M M' (B + 519) (B + 519 + 254)) (hx : PoA M' (B + 519) dp' se') (h1p : ∀ s ∈ se', 1 ≤ s.1) (hd : 1 ≤ dp' ∧ dp' ≤ 8) : NW M' B full g L es dp' se' := by
  obtain ⟨h1, h2, ⟨z, h3⟩, ⟨y, h4⟩, h5, -, -, -⟩ := h
  exact ⟨by rw [hf B (by omega)]; exact h1, h2.kept (hf _ (by omega)) (hf _ (by omega)), ⟨z, h3.kept (hf _ (by omega)) (hf _ (by omega))⟩, ⟨y, h4.kept (hf _ (by omega)) (hf _ (by omega))⟩, h5.kept (fun q a b => hf q (by omega)), hx, h1p, hd⟩
theorem NW.kept {M M' : xH} {B : Nat} {full : List UInt8} {g : Nat → Nat} {L : Nat → xEn × Bool} {es : List xEn} {dp : Nat} {se : List xSe} (h : NW M B full g L es dp se) (hf : ∀ q, (q = B ∨ (B + 9 ≤ q ∧ q < B + 15) ∨ (B + 17 ≤ q ∧ q < B + 773)) → M' q = M q) : NW M' B full g L es dp se := by
  obtain ⟨h1, h2, ⟨z, h3⟩, ⟨y, h4⟩, h5, h6, h7, h8⟩ := h
  exact ⟨by rw [hf B (by omega)]; exact h1, h2.kept (hf _ (by omega)) (hf _ (by omega)), ⟨z, h3.kept (hf _ (by omega)) (hf _ (by omega))⟩, ⟨y, h4.kept (hf _ (by omega)) (hf _ (by omega))⟩, h5.kept (fun q a b => hf q (by omega)), h6.kept (fun q a b => hf q (by omega)), h7, h8⟩
/-- the STEM of a name -/
def stB (nm : List UInt8) : List UInt8 := nm.take (nm.idxOf 46 + 1)
theorem sl_take (bs : List UInt8) (k : Nat) : sl bs 0 k = bs.take k := by simp [sl]
def stI (es : List xEn) (se : List xSe) (p : Nat) (nm : List UInt8) : Option Nat := if isCo nm then eIdx es (own se (stB nm) p) (stB nm) else none
set_option maxHeartbeats 4000000 in
set_option maxRecDepth 100000 in
theorem c_Nam_stemOf (d : Nat) {M : xH} {sz B dp p : Nat} {full : List UInt8} {g : Nat → Nat} {L : Nat → xEn × Bool} {es : List xEn} {se : List xSe} (h : NW M B full g L es dp se) (hne : 0 < full.length) (hp : p < 1000) : xC (d + 3) 0 0 Y_Nam_stemOf [.ref B, .int (nI p)] M sz (qr sz (fun o M' => o = (stI es se p full).map (fun i => B + 17 + 2 + 5 * g i) ∧ NW M' B full g L es dp se ∧ FrN M M' B)) := by
  refine xC_of (by decide) (Nat.le_of_ble_eq_true rfl) (by simp [Value.category]) (vs := [some (.ref B), some (.int (nI p))]) rfl (fun K hX hE => ?_)
  obtain ⟨h1, h2, ⟨x, h3⟩, h4, h5, h6, h7, h8⟩ := id h
  obtain ⟨r2, r2l, -⟩ := id h2
  obtain ⟨r3, -⟩ := id h3
  refine xp_aload_0 (pc := 0) hX d_Nam_stemOf_0 ?_
  refine xg_get (pc := 1) hX (j := 2) k_Nam d_Nam_stemOf_1 l_Nam_31 (by decide) (by first | assumption | exact xup_s _ _ _ | exact xup_o (by omega) (by assumption) | exact xup_o (by omega) (xup_s _ _ _) | exact xup_o (by omega) (xup_o (by omega) (by assumption)) | exact xup_o (by omega) (xup_o (by omega) (xup_s _ _ _)) | exact xup_o (by omega) (xup_o (by omega) (xup_o (by omega) (by assumption)))) (by rfl) ?_
  refine xi_V (Y2 := Y_Row_isCompound) (pc := 4) hX [] k_Row m_Row_isCompound d_Nam_stemOf_4 l_Nam_227 rfl rfl (by simp [Value.category]) (by first | assumption | exact xup_s _ _ _ | exact xup_o (by omega) (by assumption) | exact xup_o (by omega) (xup_s _ _ _) | exact xup_o (by omega) (xup_o (by omega) (by assumption)) | exact xup_o (by omega) (xup_o (by omega) (xup_s _ _ _)) | exact xup_o (by omega) (xup_o (by omega) (xup_o (by omega) (by assumption)))) (c_Row_isCompound (d + 1) h2 hne (by omega)) (by omega) (by omega) ?_
  rintro y M1 ⟨rfl, rfl⟩
  refine xg_if_ne (pc := 7) hX 12 d_Nam_stemOf_7 (by decide) (fun w => ?_) (fun w => ?_)
  · have w := bI_ne0.mp w
    have hidx : full.idxOf 46 + 1 < full.length := by simpa [isCo] using w
    refine xp_aload_0 (pc := 12) hX d_Nam_stemOf_12 ?_
    refine xg_get (pc := 13) hX (j := 3) k_Nam d_Nam_stemOf_13 l_Nam_34 (by decide) (by first | assumption | exact xup_s _ _ _ | exact xup_o (by omega) (by assumption) | exact xup_o (by omega) (xup_s _ _ _) | exact xup_o (by omega) (xup_o (by omega) (by assumption)) | exact xup_o (by omega) (xup_o (by omega) (xup_s _ _ _)) | exact xup_o (by omega) (xup_o (by omega) (xup_o (by omega) (by assumption)))) (by rfl) ?_
    refine xv_V (Y2 := Y_Row_clear) (pc := 16) hX [] k_Row m_Row_clear d_Nam_stemOf_16 l_Nam_89 rfl rfl (by simp [Value.category]) (by first | assumption | exact xup_s _ _ _ | exact xup_o (by omega) (by assumption) | exact xup_o (by omega) (xup_s _ _ _) | exact xup_o (by omega) (xup_o (by omega) (by assumption)) | exact xup_o (by omega) (xup_o (by omega) (xup_s _ _ _)) | exact xup_o (by omega) (xup_o (by omega) (xup_o (by omega) (by assumption)))) (c_Row_clear (d + 2) h3) (by omega) (by omega) ?_
    rintro M2 ⟨a1, a2⟩
    have g1 := (a2 B (by omega) (by omega)).trans h1
    have g2 : RowAt M2 (B + 9) 200 full := h2.kept (a2 _ (by omega) (by omega)) (a2 _ (by omega) (by omega))
    obtain ⟨r2, -⟩ := id g2
    obtain ⟨r3, -⟩ := id a1
    refine xp_aload_0 (pc := 19) hX d_Nam_stemOf_19 ?_
    refine xg_get (pc := 20) hX (j := 3) k_Nam d_Nam_stemOf_20 l_Nam_34 (by decide) (by first | assumption | exact xup_s _ _ _ | exact xup_o (by omega) (by assumption) | exact xup_o (by omega) (xup_s _ _ _) | exact xup_o (by omega) (xup_o (by omega) (by assumption)) | exact xup_o (by omega) (xup_o (by omega) (xup_s _ _ _)) | exact xup_o (by omega) (xup_o (by omega) (xup_o (by omega) (by assumption)))) (by rfl) ?_
    refine xp_aload_0 (pc := 23) hX d_Nam_stemOf_23 ?_
    refine xg_get (pc := 24) hX (j := 2) k_Nam d_Nam_stemOf_24 l_Nam_31 (by decide) (by first | assumption | exact xup_s _ _ _ | exact xup_o (by omega) (by assumption) | exact xup_o (by omega) (xup_s _ _ _) | exact xup_o (by omega) (xup_o (by omega) (by assumption)) | exact xup_o (by omega) (xup_o (by omega) (xup_s _ _ _)) | exact xup_o (by omega) (xup_o (by omega) (xup_o (by omega) (by assumption)))) (by rfl) ?_
    refine xg_iconst (pc := 27) hX (nI 0) d_Nam_stemOf_27 ci_iconst_0 ?_
    refine xp_aload_0 (pc := 28) hX d_Nam_stemOf_28 ?_
    refine xg_get (pc := 29) hX (j := 2) k_Nam d_Nam_stemOf_29 l_Nam_31 (by decide) (by first | assumption | exact xup_s _ _ _ | exact xup_o (by omega) (by assumption) | exact xup_o (by omega) (xup_s _ _ _) | exact xup_o (by omega) (xup_o (by omega) (by assumption)) | exact xup_o (by omega) (xup_o (by omega) (xup_s _ _ _)) | exact xup_o (by omega) (xup_o (by omega) (xup_o (by omega) (by assumption)))) (by rfl) ?_
    refine xg_iconst (pc := 32) hX (nI 0) d_Nam_stemOf_32 ci_iconst_0 ?_
    refine xp_aload_0 (pc := 33) hX d_Nam_stemOf_33 ?_
    refine xg_get (pc := 34) hX (j := 2) k_Nam d_Nam_stemOf_34 l_Nam_31 (by decide) (by first | assumption | exact xup_s _ _ _ | exact xup_o (by omega) (by assumption) | exact xup_o (by omega) (xup_s _ _ _) | exact xup_o (by omega) (xup_o (by omega) (by assumption)) | exact xup_o (by omega) (xup_o (by omega) (xup_s _ _ _)) | exact xup_o (by omega) (xup_o (by omega) (xup_o (by omega) (by assumption)))) (by rfl) ?_
    refine xg_get (pc := 37) hX (j := 1) k_Row d_Nam_stemOf_37 l_Nam_64 (by decide) (by first | assumption | exact xup_s _ _ _ | exact xup_o (by omega) (by assumption) | exact xup_o (by omega) (xup_s _ _ _) | exact xup_o (by omega) (xup_o (by omega) (by assumption)) | exact xup_o (by omega) (xup_o (by omega) (xup_s _ _ _)) | exact xup_o (by omega) (xup_o (by omega) (xup_o (by omega) (by assumption)))) (by rfl) ?_
    refine xi_V (Y2 := Y_Row_dotFrom) (pc := 40) hX [_, _] k_Row m_Row_dotFrom d_Nam_stemOf_40 l_Nam_195 rfl rfl (by simp [Value.category]) (by first | assumption | exact xup_s _ _ _ | exact xup_o (by omega) (by assumption) | exact xup_o (by omega) (xup_s _ _ _) | exact xup_o (by omega) (xup_o (by omega) (by assumption)) | exact xup_o (by omega) (xup_o (by omega) (xup_s _ _ _)) | exact xup_o (by omega) (xup_o (by omega) (xup_o (by omega) (by assumption)))) (c_Row_dotFrom (d + 2) (a := 0) (b := full.length) g2 (Nat.zero_le _) (Nat.le_refl _) (by omega)) (by omega) (by omega) ?_
    rintro y M3 ⟨rfl, rfl⟩
    rw [dotF_all]
    refine xg_iconst (pc := 43) hX (nI 1) d_Nam_stemOf_43 ci_iconst_1 ?_
    first | refine xn_iadd (pc := 44) hX d_Nam_stemOf_44 ?_ | refine xg_iadd (pc := 44) hX d_Nam_stemOf_44 ?_
    refine xi_V (Y2 := Y_Row_addPart) (pc := 45) hX [_, _, _] k_Row m_Row_addPart d_Nam_stemOf_45 l_Nam_221 rfl rfl (by simp [Value.category]) (by first | assumption | exact xup_s _ _ _ | exact xup_o (by omega) (by assumption) | exact xup_o (by omega) (xup_s _ _ _) | exact xup_o (by omega) (xup_o (by omega) (by assumption)) | exact xup_o (by omega) (xup_o (by omega) (xup_s _ _ _)) | exact xup_o (by omega) (xup_o (by omega) (xup_o (by omega) (by assumption)))) (c_Row_addPart (d + 1) (a := 0) (b := full.idxOf 46 + 1) a1 g2 (by omega) (Nat.zero_le _) (by omega) (by omega) (by omega)) (by omega) (by omega) ?_
    intro y M4 hadd
    rcases hadd with ⟨-, -, b1, b2⟩ | ⟨z, -, -⟩
    · rw [sl_take, List.nil_append] at b1
      have nw4 : NW M4 B full g L es dp se := h.stem (a2.tr b2) b1
      obtain ⟨n1, n2, -, -, n5, n6, -⟩ := id nw4
      obtain ⟨S, ⟨n6', -⟩, -⟩ := id n6
      obtain ⟨⟨n5', -⟩, -⟩ := id n5
      refine xg_pop (pc := 48) hX d_Nam_stemOf_48 rfl ?_
      refine xp_aload_0 (pc := 49) hX d_Nam_stemOf_49 ?_
      refine xg_get (pc := 50) hX (j := 7) k_Nam d_Nam_stemOf_50 l_Nam_46 (by decide) (by first | assumption | exact xup_s _ _ _ | exact xup_o (by omega) (by assumption) | exact xup_o (by omega) (xup_s _ _ _) | exact xup_o (by omega) (xup_o (by omega) (by assumption)) | exact xup_o (by omega) (xup_o (by omega) (xup_s _ _ _)) | exact xup_o (by omega) (xup_o (by omega) (xup_o (by omega) (by assumption)))) (by rfl) ?_
      refine xp_aload_0 (pc := 53) hX d_Nam_stemOf_53 ?_
      refine xg_get (pc := 54) hX (j := 3) k_Nam d_Nam_stemOf_54 l_Nam_34 (by decide) (by first | assumption | exact xup_s _ _ _ | exact xup_o (by omega) (by assumption) | exact xup_o (by omega) (xup_s _ _ _) | exact xup_o (by omega) (xup_o (by omega) (by assumption)) | exact xup_o (by omega) (xup_o (by omega) (xup_s _ _ _)) | exact xup_o (by omega) (xup_o (by omega) (xup_o (by omega) (by assumption)))) (by rfl) ?_
      refine xp_aload_0 (pc := 57) hX d_Nam_stemOf_57 ?_
      refine xg_get (pc := 58) hX (j := 8) k_Nam d_Nam_stemOf_58 l_Nam_53 (by decide) (by first | assumption | exact xup_s _ _ _ | exact xup_o (by omega) (by assumption) | exact xup_o (by omega) (xup_s _ _ _) | exact xup_o (by omega) (xup_o (by omega) (by assumption)) | exact xup_o (by omega) (xup_o (by omega) (xup_s _ _ _)) | exact xup_o (by omega) (xup_o (by omega) (xup_o (by omega) (by assumption)))) (by rfl) ?_
      refine xp_aload_0 (pc := 61) hX d_Nam_stemOf_61 ?_
      refine xg_get (pc := 62) hX (j := 3) k_Nam d_Nam_stemOf_62 l_Nam_34 (by decide) (by first | assumption | exact xup_s _ _ _ | exact xup_o (by omega) (by assumption) | exact xup_o (by omega) (xup_s _ _ _) | exact xup_o (by omega) (xup_o (by omega) (by assumption)) | exact xup_o (by omega) (xup_o (by omega) (xup_s _ _ _)) | exact xup_o (by omega) (xup_o (by omega) (xup_o (by omega) (by assumption)))) (by rfl) ?_
      refine xp_iload_1 (pc := 65) hX d_Nam_stemOf_65 ?_
      refine xi_V (Y2 := Y_Poo_owner) (pc := 66) hX [_, _] k_Poo m_Poo_owner d_Nam_stemOf_66 l_Nam_213 rfl rfl (by simp [Value.category]) (by first | assumption | exact xup_s _ _ _ | exact xup_o (by omega) (by assumption) | exact xup_o (by omega) (xup_s _ _ _) | exact xup_o (by omega) (xup_o (by omega) (by assumption)) | exact xup_o (by omega) (xup_o (by omega) (xup_s _ _ _)) | exact xup_o (by omega) (xup_o (by omega) (xup_o (by omega) (by assumption)))) (c_Poo_owner d n6 h7 b1 (by omega) (by omega)) (by omega) (by omega) ?_
      rintro y M5 ⟨rfl, rfl⟩
      have hole := own_le se (full.take (full.idxOf 46 + 1)) p
      refine xr_V (Y2 := Y_She_find) (pc := 69) hX [_, _] k_She m_She_find d_Nam_stemOf_69 l_Nam_217 rfl rfl (by simp [Value.category]) (by first | assumption | exact xup_s _ _ _ | exact xup_o (by omega) (by assumption) | exact xup_o (by omega) (xup_s _ _ _) | exact xup_o (by omega) (xup_o (by omega) (by assumption)) | exact xup_o (by omega) (xup_o (by omega) (xup_s _ _ _)) | exact xup_o (by omega) (xup_o (by omega) (xup_o (by omega) (by assumption)))) (c_She_find' (d + 1) n5 b1 (by omega) (by omega)) (by omega) (by omega) ?_
      rintro o M6 ⟨rfl, rfl⟩
      have hfin : qr sz (fun o M' => o = (stI es se p full).map (fun i => B + 17 + 2 + 5 * g i) ∧ NW M' B full g L es dp se ∧ FrN M1 M' B) (some (va_rf ((eIdx es (own se (full.take (full.idxOf 46 + 1)) p) (full.take (full.idxOf 46 + 1))).map (fun i => B + 17 + 2 + 5 * g i)))) M6 sz := ⟨rfl, _, rfl, by unfold stI; rw [if_pos w]; rfl, nw4, (FrN.r2 a2 (by omega)).tr (FrN.r2 b2 (by omega))⟩
      exact xg_aret (pc := 72) hX hE d_Nam_stemOf_72 rfl (va_rf_or _) (by omega) (by omega) hfin
    · simp at z
      omega
  · have w := bI_eq0.mp w
    refine xg_null (pc := 10) hX d_Nam_stemOf_10 ?_
    refine xg_aret (pc := 11) hX hE d_Nam_stemOf_11 rfl (Or.inl rfl) (by omega) (by omega) ?_
    exact ⟨rfl, none, rfl, by unfold stI; rw [w]; rfl, h, FrN.rf _ _⟩
/-- which entry a name tells the value of -/
def tellI (es : List xEn) (se : List xSe) (ip : Nat) (nm : List UInt8) : Option Nat := match eIdx es (own se nm ip) nm with
  | some i => if (es[i]?.any (fun e => e.2.2.isSome)) then some i else none
  | none => stI es se (own se nm ip) nm
set_option maxHeartbeats 4000000 in
set_option maxRecDepth 100000 in
theorem c_Nam_told (d : Nat) {M : xH} {sz B dp : Nat} {full : List UInt8} {g : Nat → Nat} {L : Nat → xEn × Bool} {es : List xEn} {se : List xSe} (h : NW M B full g L es dp se) (hne : 0 < full.length) : xC (d + 4) 0 0 Y_Nam_told [.ref B] M sz (qr sz (fun o M' => o = (tellI es se (dp - 1) full).map (fun i => B + 17 + 2 + 5 * g i) ∧ NW M' B full g L es dp se ∧ FrN M M' B)) := by
  refine xC_of (by decide) (Nat.le_of_ble_eq_true rfl) (by simp [Value.category]) (vs := [some (.ref B), none, none]) rfl (fun K hX hE => ?_)
  obtain ⟨h1, h2, -, -, h5, h6, h7, h8, h9⟩ := id h
  obtain ⟨r2, r2l, -⟩ := id h2
  obtain ⟨S, ⟨n6', -⟩, -⟩ := id h6
  obtain ⟨⟨n5', n5l, -, -, -, n5e⟩, n5L⟩ := id h5
  have hole := own_le se full (dp - 1)
  refine xp_aload_0 (pc := 0) hX d_Nam_told_0 ?_
  refine xg_get (pc := 1) hX (j := 8) k_Nam d_Nam_told_1 l_Nam_53 (by decide) (by first | assumption | exact xup_s _ _ _ | exact xup_o (by omega) (by assumption) | exact xup_o (by omega) (xup_s _ _ _) | exact xup_o (by omega) (xup_o (by omega) (by assumption)) | exact xup_o (by omega) (xup_o (by omega) (xup_s _ _ _)) | exact xup_o (by omega) (xup_o (by omega) (xup_o (by omega) (by assumption)))) (by rfl) ?_
  refine xp_aload_0 (pc := 4) hX d_Nam_told_4 ?_
  refine xg_get (pc := 5) hX (j := 2) k_Nam d_Nam_told_5 l_Nam_31 (by decide) (by first | assumption | exact xup_s _ _ _ | exact xup_o (by omega) (by assumption) | exact xup_o (by omega) (xup_s _ _ _) | exact xup_o (by omega) (xup_o (by omega) (by assumption)) | exact xup_o (by omega) (xup_o (by omega) (xup_s _ _ _)) | exact xup_o (by omega) (xup_o (by omega) (xup_o (by omega) (by assumption)))) (by rfl) ?_
  refine xp_aload_0 (pc := 8) hX d_Nam_told_8 ?_
  refine xg_get (pc := 9) hX (j := 8) k_Nam d_Nam_told_9 l_Nam_53 (by decide) (by first | assumption | exact xup_s _ _ _ | exact xup_o (by omega) (by assumption) | exact xup_o (by omega) (xup_s _ _ _) | exact xup_o (by omega) (xup_o (by omega) (by assumption)) | exact xup_o (by omega) (xup_o (by omega) (xup_s _ _ _)) | exact xup_o (by omega) (xup_o (by omega) (xup_o (by omega) (by assumption)))) (by rfl) ?_
  refine xi_V (Y2 := Y_Poo_innermost) (pc := 12) hX [] k_Poo m_Poo_innermost d_Nam_told_12 l_Nam_128 rfl rfl (by simp [Value.category]) (by first | assumption | exact xup_s _ _ _ | exact xup_o (by omega) (by assumption) | exact xup_o (by omega) (xup_s _ _ _) | exact xup_o (by omega) (xup_o (by omega) (by assumption)) | exact xup_o (by omega) (xup_o (by omega) (xup_s _ _ _)) | exact xup_o (by omega) (xup_o (by omega) (xup_o (by omega) (by assumption)))) (c_Poo_innermost (d + 3) h6) (by omega) (by omega) ?_
  rintro y M1 ⟨rfl, rfl⟩
  refine xi_V (Y2 := Y_Poo_owner) (pc := 15) hX [_, _] k_Poo m_Poo_owner d_Nam_told_15 l_Nam_213 rfl rfl (by simp [Value.category]) (by first | assumption | exact xup_s _ _ _ | exact xup_o (by omega) (by assumption) | exact xup_o (by omega) (xup_s _ _ _) | exact xup_o (by omega) (xup_o (by omega) (by assumption)) | exact xup_o (by omega) (xup_o (by omega) (xup_s _ _ _)) | exact xup_o (by omega) (xup_o (by omega) (xup_o (by omega) (by assumption)))) (c_Poo_owner (d + 1) h6 h7 h2 (by omega) (by omega)) (by omega) (by omega) ?_
  rintro y M1 ⟨rfl, rfl⟩
  generalize hq : own se full (dp - 1) = p at *
  refine xp_istore_1 (pc := 18) hX d_Nam_told_18 (by decide) ?_
  refine xp_aload_0 (pc := 19) hX d_Nam_told_19 ?_
  refine xg_get (pc := 20) hX (j := 7) k_Nam d_Nam_told_20 l_Nam_46 (by decide) (by first | assumption | exact xup_s _ _ _ | exact xup_o (by omega) (by assumption) | exact xup_o (by omega) (xup_s _ _ _) | exact xup_o (by omega) (xup_o (by omega) (by assumption)) | exact xup_o (by omega) (xup_o (by omega) (xup_s _ _ _)) | exact xup_o (by omega) (xup_o (by omega) (xup_o (by omega) (by assumption)))) (by rfl) ?_
  refine xp_aload_0 (pc := 23) hX d_Nam_told_23 ?_
  refine xg_get (pc := 24) hX (j := 2) k_Nam d_Nam_told_24 l_Nam_31 (by decide) (by first | assumption | exact xup_s _ _ _ | exact xup_o (by omega) (by assumption) | exact xup_o (by omega) (xup_s _ _ _) | exact xup_o (by omega) (xup_o (by omega) (by assumption)) | exact xup_o (by omega) (xup_o (by omega) (xup_s _ _ _)) | exact xup_o (by omega) (xup_o (by omega) (xup_o (by omega) (by assumption)))) (by rfl) ?_
  refine xp_iload_1 (pc := 27) hX d_Nam_told_27 ?_
  refine xr_V (Y2 := Y_She_find) (pc := 28) hX [_, _] k_She m_She_find d_Nam_told_28 l_Nam_217 rfl rfl (by simp [Value.category]) (by first | assumption | exact xup_s _ _ _ | exact xup_o (by omega) (by assumption) | exact xup_o (by omega) (xup_s _ _ _) | exact xup_o (by omega) (xup_o (by omega) (by assumption)) | exact xup_o (by omega) (xup_o (by omega) (xup_s _ _ _)) | exact xup_o (by omega) (xup_o (by omega) (xup_o (by omega) (by assumption)))) (c_She_find' (d + 2) h5 h2 (by omega) (by omega)) (by omega) (by omega) ?_
  rintro o M2 ⟨rfl, rfl⟩
  cases he : eIdx es p full with
  | none =>
    refine xp_astoreN_2 (pc := 31) hX d_Nam_told_31 (by decide) ?_
    refine xp_aloadN_2 (pc := 32) hX d_Nam_told_32 ?_
    refine xg_ifnullN (pc := 33) hX 49 d_Nam_told_33 (by decide) ?_
    refine xp_aload_0 (pc := 49) hX d_Nam_told_49 ?_
    refine xp_iload_1 (pc := 50) hX d_Nam_told_50 ?_
    refine xr_V (Y2 := Y_Nam_stemOf) (pc := 51) hX [_] k_Nam m_Nam_stemOf d_Nam_told_51 l_Nam_224 rfl rfl (by simp [Value.category]) (by first | assumption | exact xup_s _ _ _ | exact xup_o (by omega) (by assumption) | exact xup_o (by omega) (xup_s _ _ _) | exact xup_o (by omega) (xup_o (by omega) (by assumption)) | exact xup_o (by omega) (xup_o (by omega) (xup_s _ _ _)) | exact xup_o (by omega) (xup_o (by omega) (xup_o (by omega) (by assumption)))) (c_Nam_stemOf d h hne (by omega)) (by omega) (by omega) ?_
    rintro o M3 ⟨rfl, a1, a2⟩
    have hfin : qr sz (fun o M' => o = (tellI es se (dp - 1) full).map (fun i => B + 17 + 2 + 5 * g i) ∧ NW M' B full g L es dp se ∧ FrN M2 M' B) (some (va_rf ((stI es se p full).map (fun i => B + 17 + 2 + 5 * g i)))) M3 sz := ⟨rfl, _, rfl, by unfold tellI; rw [hq, he], a1, a2⟩
    exact xg_aret (pc := 54) hX hE d_Nam_told_54 rfl (va_rf_or _) (by omega) (by omega) hfin
  | some i =>
    have hi := eIdx_lt he
    have hie : es[i]? = some es[i] := List.getElem?_eq_getElem hi
    obtain ⟨e1, -⟩ := n5e i (by omega)
    rw [n5L i _ hie] at e1
    dsimp only at e1
    refine xp_astore_2 (x := B + 17 + 2 + 5 * g i) (pc := 31) hX d_Nam_told_31 (by decide) ?_
    refine xp_aload_2 (pc := 32) hX d_Nam_told_32 ?_
    refine xg_ifnull (pc := 33) hX d_Nam_told_33 ?_
    refine xp_aload_2 (pc := 36) hX d_Nam_told_36 ?_
    refine xg_get (pc := 37) hX (j := 3) k_Ent d_Nam_told_37 l_Nam_167 (by decide) (by first | assumption | exact xup_s _ _ _ | exact xup_o (by omega) (by assumption) | exact xup_o (by omega) (xup_s _ _ _) | exact xup_o (by omega) (xup_o (by omega) (by assumption)) | exact xup_o (by omega) (xup_o (by omega) (xup_s _ _ _)) | exact xup_o (by omega) (xup_o (by omega) (xup_o (by omega) (by assumption)))) (by rfl) ?_
    refine xg_if_eq (pc := 40) hX 47 d_Nam_told_40 (by decide) (fun w => ?_) (fun w => ?_)
    · have w := bI_eq0.mp w
      refine xp_aload_2 (pc := 47) hX d_Nam_told_47 ?_
      refine xg_aret (pc := 48) hX hE d_Nam_told_48 rfl (Or.inr ⟨_, rfl⟩) (by omega) (by omega) ?_
      refine ⟨rfl, some _, rfl, ?_, h, FrN.rf _ _⟩
      unfold tellI
      rw [hq, he]
      dsimp only
      rw [if_pos (by rw [hie]; simpa using w)]
      rfl
    · have w := bI_ne0.mp w
      refine xg_null (pc := 43) hX d_Nam_told_43 ?_
      refine xg_goto (pc := 44) hX 48 d_Nam_told_44 (by decide) ?_
      refine xg_aret (pc := 48) hX hE d_Nam_told_48 rfl (Or.inl rfl) (by omega) (by omega) ?_
      refine ⟨rfl, none, rfl, ?_, h, FrN.rf _ _⟩
      unfold tellI
      rw [hq, he]
      dsimp only
      rw [if_neg (by rw [hie]; simpa using w)]
      rfl
