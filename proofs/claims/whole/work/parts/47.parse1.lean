/-! NameRoom: cutting, handing over -/
/-- only a COMPOUND name is ever GONE -/
def gI (es : List xEn) : Prop := ∀ e ∈ es, e.2.2 = none → isCo e.2.1 = true
theorem stB_co (nm : List UInt8) : isCo (stB nm) = false := by
  unfold isCo stB
  have h : (nm.take (nm.idxOf 46 + 1)).length ≤ nm.idxOf 46 + 1 := by rw [List.length_take]; omega
  have h2 : nm.idxOf 46 ≤ (nm.take (nm.idxOf 46 + 1)).idxOf 46 ∨ (nm.take (nm.idxOf 46 + 1)).length ≤ (nm.take (nm.idxOf 46 + 1)).idxOf 46 := by
    by_cases hm : (46 : UInt8) ∈ nm.take (nm.idxOf 46 + 1)
    · left
      have e : nm = nm.take (nm.idxOf 46 + 1) ++ nm.drop (nm.idxOf 46 + 1) := (List.take_append_drop _ _).symm
      have e2 : nm.idxOf 46 = (nm.take (nm.idxOf 46 + 1)).idxOf 46 := by
        conv => lhs; rw [e]
        rw [List.idxOf_append, if_pos hm]
      omega
    · right
      rw [List.idxOf_eq_length hm]
      exact Nat.le_refl _
  simp
  rw [List.length_take] at h2
  omega
theorem tellI_some {es : List xEn} {se : List xSe} {ip i : Nat} {nm : List UInt8} (hg : gI es) (h : tellI es se ip nm = some i) : ∃ e u, es[i]? = some e ∧ e.2.2 = some u := by
  unfold tellI at h
  cases he : eIdx es (own se nm ip) nm with
  | some j =>
    rw [he] at h
    dsimp only at h
    split at h
    · rename_i hs
      cases h
      cases hj : es[i]? with
      | none => rw [hj] at hs; cases hs
      | some e =>
        rw [hj] at hs
        have hs : e.2.2.isSome = true := hs
        obtain ⟨u, hu⟩ := Option.isSome_iff_exists.mp hs
        exact ⟨e, u, rfl, hu⟩
    · cases h
  | none =>
    rw [he] at h
    unfold stI at h
    dsimp only at h
    split at h
    · obtain ⟨vo, hv⟩ := eIdx_get h
      refine ⟨_, vo.getD [], hv, ?_⟩
      cases vo with
      | some u => rfl
      | none =>
        have := hg _ (List.mem_of_getElem? hv) rfl
        dsimp only at this
        rw [stB_co] at this
        cases this
    · cases h
/-- what a name tells, or itself -/
def tellT (es : List xEn) (se : List xSe) (ip : Nat) (nm : List UInt8) : List UInt8 := match tellI es se ip nm with
  | none => nm
  | some i => (match es[i]? with | none => nm | some e => e.2.2.getD nm)
/-- a token of a template, as it must be -/
def tkG (t : List UInt8) (e : xTk) : Prop := e.1 < 8 ∧ e.2.2 ≤ t.length ∧ e.2.1 ≤ e.2.2 ∧ ((e.1 = 1 ∨ e.1 = 4) → e.2.1 < e.2.2 ∧ e.2.2 - e.2.1 ≤ 30) ∧ (e.1 = 3 → 1 ≤ e.2.1 ∧ e.2.2 - e.2.1 ≤ 200) ∧ (5 ≤ e.1 → ∀ c ∈ sl t e.2.1 e.2.2, dig c = true)
def patS (sub : List UInt8) (fr : Nat) (pat : List UInt8) : Nat × Nat × Nat × Nat := (fr, plc sub pat fr, plc sub pat fr, min (plc sub pat fr + pat.length) (sub.length + 1))
def plS (sub : List UInt8) (fr : Nat) (x : Int32) : Nat × Nat × Nat × Nat := (fr, if fr < keepIn (sub.length + 1) x then keepIn (sub.length + 1) x else sub.length + 1, keepIn (sub.length + 1) x, keepIn (sub.length + 1) x)
/-- cutting at a token: the part's from and to, BEGAN, FROM; none: LONG -/
def cutS (es : List xEn) (se : List xSe) (ip : Nat) (t sub : List UInt8) (fr bg : Nat) (o : Option xTk) : Option (Nat × Nat × Nat × Nat) := match o with
  | none => some (fr, sub.length + 1, bg, fr)
  | some e => if e.1 = 3 then some (patS sub fr (unq t (t.getD (e.2.1 - 1) 0) e.2.2 (e.2.2 - e.2.1) e.2.1))
    else if e.1 = 4 then (if (FN es se ip t e.2.1 e.2.2).length ≤ 200 then some (patS sub fr (tellT es se ip (FN es se ip t e.2.1 e.2.2))) else none)
    else if e.1 = 5 then some (plS sub fr (nI (numb (sl t e.2.1 e.2.2))))
    else if e.1 = 6 then some (plS sub fr (nI bg + nI (numb (sl t e.2.1 e.2.2))))
    else if e.1 = 7 then some (plS sub fr (nI bg - nI (numb (sl t e.2.1 e.2.2))))
    else some (fr, sub.length + 1, bg, fr)
/-- all that lies in the room but the names -/
def XW (M : xH) (B : Nat) (t : List UInt8) (tk : List xTk) (tg pos : Nat) (ans : Option Nat) (out sub : List UInt8) (fr bg pf pt : Nat) : Prop := ReA M (B + 1) t tk tg pos ans ∧ RowAt M (B + 7) 200 out ∧ (∃ x, RowAt M (B + 15) 200 x) ∧ ∃ sf st, CuA M (B + 773) sub fr bg sf st pf pt
theorem XW.nn {M M' : xH} {B : Nat} {t : List UInt8} {tk : List xTk} {tg pos : Nat} {ans : Option Nat} {out sub : List UInt8} {fr bg pf pt : Nat} (h : XW M B t tk tg pos ans out sub fr bg pf pt) (hf : FrN M M' B) : XW M' B t tk tg pos ans out sub fr bg pf pt := by
  obtain ⟨h1, h2, ⟨x, h3⟩, sf, st, h4⟩ := h
  exact ⟨h1.nn hf, h2.kept (hf _ (by omega)) (hf _ (by omega)), ⟨x, h3.kept (hf _ (by omega)) (hf _ (by omega))⟩, sf, st, h4.kept (fun q a b => hf q (by omega))⟩
theorem XW.pat {M M' : xH} {B : Nat} {t x : List UInt8} {tk : List xTk} {tg pos : Nat} {ans : Option Nat} {out sub : List UInt8} {fr bg pf pt : Nat} (h : XW M B t tk tg pos ans out sub fr bg pf pt) (hf : Fr2 M M' (B + 15)) (hx : RowAt M' (B + 15) 200 x) : XW M' B t tk tg pos ans out sub fr bg pf pt := by
  obtain ⟨h1, h2, -, sf, st, h4⟩ := h
  exact ⟨h1.kept (fun q a b => hf q (by omega) (by omega)), h2.kept (hf _ (by omega) (by omega)) (hf _ (by omega) (by omega)), ⟨x, hx⟩, sf, st, h4.kept (fun q a b => hf q (by omega) (by omega))⟩
theorem XW.cut {M M' : xH} {B : Nat} {t : List UInt8} {tk : List xTk} {tg pos : Nat} {ans : Option Nat} {out sub : List UInt8} {fr bg pf pt fr' bg' sf' st' pf' pt' : Nat} (h : XW M B t tk tg pos ans out sub fr bg pf pt) (hf : Fr1 M M' (B + 773)) (hx : CuA M' (B + 773) sub fr' bg' sf' st' pf' pt') : XW M' B t tk tg pos ans out sub fr' bg' pf' pt' := by
  obtain ⟨h1, h2, ⟨x, h3⟩, -⟩ := h
  exact ⟨h1.kept (fun q a b => hf q (by omega)), h2.kept (hf _ (by omega)) (hf _ (by omega)), ⟨x, h3.kept (hf _ (by omega)) (hf _ (by omega))⟩, sf', st', hx⟩
def FrB (M M' : xH) (B : Nat) : Prop := FrR M M' B (B + 776)
theorem FrB.tr {M M' M'' : xH} {B : Nat} (a : FrB M M' B) (b : FrB M' M'' B) : FrB M M'' B := FrR.tr a b
theorem FrB.n {M M' : xH} {B : Nat} (h : FrN M M' B) : FrB M M' B := fun q hq => h q (by omega)
theorem FrB.w {M M' : xH} {B : Nat} (h : FrW M M' B) : FrB M M' B := fun q hq => h q (by omega)
theorem FrB.r2 {M M' : xH} {B r : Nat} (h : Fr2 M M' r) (h1 : B ≤ r) (h2 : r + 1 < B + 776) : FrB M M' B := fun q hq => h q (by omega) (by omega)
theorem FrB.r1 {M M' : xH} {B r : Nat} (h : Fr1 M M' r) (h1 : B ≤ r) (h2 : r < B + 776) : FrB M M' B := fun q hq => h q (by omega)
theorem FrB.rR {M M' : xH} {B a b : Nat} (h : FrR M M' a b) (h1 : B ≤ a) (h2 : b ≤ B + 776) : FrB M M' B := fun q hq => h q (by omega)
theorem FrB.rf (M : xH) (B : Nat) : FrB M M B := fun _ _ => rfl
set_option maxHeartbeats 4000000 in
set_option maxRecDepth 100000 in
theorem c_Nam_cutAt (d : Nat) {M : xH} {sz B dp i tg pos fr bg pf pt : Nat} {ans : Option Nat} {t full out sub : List UInt8} {tk : List xTk} {g : Nat → Nat} {L : Nat → xEn × Bool} {es : List xEn} {se : List xSe} (h : NW M B full g L es dp se) (hx : XW M B t tk tg pos ans out sub fr bg pf pt) (hgood : ∀ e ∈ tk, tkG t e) (hi : i ≤ tk.length) (hnt : isTg (tkK tk i) = false) (hgI : gI es) (hf1 : 1 ≤ fr) (hf2 : fr ≤ sub.length + 1) (hbg : bg ≤ 300) : xC (d + 5) 0 0 Y_Nam_cutAt [.ref B, .int (nI i)] M sz (qi sz (fun y M' => ((∃ f R, cutS es se (dp - 1) t sub fr bg tk[i]? = some R ∧ y = nI 0 ∧ NW M' B f g L es dp se ∧ XW M' B t tk tg pos ans out sub R.2.2.2 R.2.2.1 R.1 R.2.1) ∨ (∃ f, cutS es se (dp - 1) t sub fr bg tk[i]? = none ∧ y = -2 ∧ NW M' B f g L es dp se ∧ XW M' B t tk tg pos ans out sub fr bg pf pt)) ∧ FrB M M' B)) := by
  refine xC_of (by decide) (Nat.le_of_ble_eq_true rfl) (by simp [Value.category]) (vs := [some (.ref B), some (.int (nI i))]) rfl (fun K hX hE => ?_)
  obtain ⟨h1, h2, -⟩ := id h
  obtain ⟨hr, x2, ⟨pt0, x3⟩, sf, st, hc⟩ := id hx
  obtain ⟨q1, q2, q3, -⟩ := id hr
  obtain ⟨c1, c2⟩ := id hc
  obtain ⟨r3, -⟩ := id x3
  have hsl : sub.length ≤ 200 := c2.2.1
  refine xp_aload_0 (pc := 0) hX d_Nam_cutAt_0 ?_
  refine xg_get (pc := 1) hX (j := 6) k_Nam d_Nam_cutAt_1 l_Nam_10 (by decide) (by first | assumption | exact xup_s _ _ _ | exact xup_o (by omega) (by assumption) | exact xup_o (by omega) (xup_s _ _ _) | exact xup_o (by omega) (xup_o (by omega) (by assumption)) | exact xup_o (by omega) (xup_o (by omega) (xup_s _ _ _)) | exact xup_o (by omega) (xup_o (by omega) (xup_o (by omega) (by assumption)))) (by rfl) ?_
  refine xp_iload_1 (pc := 4) hX d_Nam_cutAt_4 ?_
  refine xi_V (Y2 := Y_Rea_kindOf) (pc := 5) hX [_] k_Rea m_Rea_kindOf d_Nam_cutAt_5 l_Nam_250 rfl rfl (by simp [Value.category]) (by first | assumption | exact xup_s _ _ _ | exact xup_o (by omega) (by assumption) | exact xup_o (by omega) (xup_s _ _ _) | exact xup_o (by omega) (xup_o (by omega) (by assumption)) | exact xup_o (by omega) (xup_o (by omega) (xup_s _ _ _)) | exact xup_o (by omega) (xup_o (by omega) (xup_o (by omega) (by assumption)))) (c_Rea_kindOf (d + 4) hr (by omega)) (by omega) (by omega) ?_
  rintro y M1 ⟨rfl, rfl⟩
  have k175 : cutS es se (dp - 1) t sub fr bg tk[i]? = some (fr, sub.length + 1, bg, fr) → xG K 175 [some (.ref B), some (.int (nI i))] [] M1 sz 0 0 := by
    intro hR
    refine xp_aload_0 (pc := 175) hX d_Nam_cutAt_175 ?_
    refine xg_get (pc := 176) hX (j := 9) k_Nam d_Nam_cutAt_176 l_Nam_60 (by decide) (by first | assumption | exact xup_s _ _ _ | exact xup_o (by omega) (by assumption) | exact xup_o (by omega) (xup_s _ _ _) | exact xup_o (by omega) (xup_o (by omega) (by assumption)) | exact xup_o (by omega) (xup_o (by omega) (xup_s _ _ _)) | exact xup_o (by omega) (xup_o (by omega) (xup_o (by omega) (by assumption)))) (by rfl) ?_
    refine xv_V (Y2 := Y_Cut_cutAtEnd) (pc := 179) hX [] k_Cut m_Cut_cutAtEnd d_Nam_cutAt_179 l_Nam_266 rfl rfl (by simp [Value.category]) (by first | assumption | exact xup_s _ _ _ | exact xup_o (by omega) (by assumption) | exact xup_o (by omega) (xup_s _ _ _) | exact xup_o (by omega) (xup_o (by omega) (by assumption)) | exact xup_o (by omega) (xup_o (by omega) (xup_s _ _ _)) | exact xup_o (by omega) (xup_o (by omega) (xup_o (by omega) (by assumption)))) (c_Cut_cutAtEnd (d + 4) hc) (by omega) (by omega) ?_
    rintro M2 ⟨a1, a2⟩
    refine xg_iconst (pc := 182) hX (nI 0) d_Nam_cutAt_182 ci_iconst_0 ?_
    refine xg_iret (pc := 183) hX hE d_Nam_cutAt_183 rfl rfl (by omega) (by omega) ?_
    exact ⟨rfl, _, rfl, Or.inl ⟨full, _, hR, rfl, h.kept (fun q hq => a2 q (by omega)), hx.cut a2 a1⟩, FrB.r1 a2 (by omega) (by omega)⟩
  cases hie : tk[i]? with
  | none =>
    rw [hie] at hE k175
    have hk0 : tkK tk i = 0 := by unfold tkK; rw [hie]
    rw [hk0]
    refine xg_tableOut (pc := 8) hX 175 d_Nam_cutAt_8 (by left; decide) (by decide) ?_
    exact k175 rfl
  | some e =>
    rw [hie] at hE k175
    have hk0 : tkK tk i = e.1 := by unfold tkK; rw [hie]
    rw [hk0] at hnt ⊢
    obtain ⟨k, a, b⟩ := e
    obtain ⟨g1, g2, g3, g4, g5, g6⟩ := hgood _ (List.mem_of_getElem? hie)
    dsimp only at g1 g2 g3 g4 g5 g6 hnt ⊢
    have htl : t.length ≤ 600 := q2.2.1
    have kpat : ∀ (M2 : xH) (f pat : List UInt8), NW M2 B f g L es dp se → XW M2 B t tk tg pos ans out sub fr bg pf pt → RowAt M2 (B + 15) 200 pat → FrB M1 M2 B → cutS es se (dp - 1) t sub fr bg (some (k, a, b)) = some (patS sub fr pat) → ∀ pcx, (pcx = 56 ∨ pcx = 95) → xG K pcx [some (.ref B), some (.int (nI i))] [] M2 sz 0 0 := by
      intro M2 f pat nw2 xw2 hp fb hR pcx hpc
      obtain ⟨n1, -⟩ := id nw2
      obtain ⟨-, -, -, sf2, st2, hc2⟩ := id xw2
      obtain ⟨c1, -⟩ := id hc2
      obtain ⟨r3, -⟩ := id hp
      rcases hpc with rfl | rfl
      · refine xp_aload_0 (pc := 56) hX d_Nam_cutAt_56 ?_
        refine xg_get (pc := 57) hX (j := 9) k_Nam d_Nam_cutAt_57 l_Nam_60 (by decide) (by first | assumption | exact xup_s _ _ _ | exact xup_o (by omega) (by assumption) | exact xup_o (by omega) (xup_s _ _ _) | exact xup_o (by omega) (xup_o (by omega) (by assumption)) | exact xup_o (by omega) (xup_o (by omega) (xup_s _ _ _)) | exact xup_o (by omega) (xup_o (by omega) (xup_o (by omega) (by assumption)))) (by rfl) ?_
        refine xp_aload_0 (pc := 60) hX d_Nam_cutAt_60 ?_
        refine xg_get (pc := 61) hX (j := 5) k_Nam d_Nam_cutAt_61 l_Nam_40 (by decide) (by first | assumption | exact xup_s _ _ _ | exact xup_o (by omega) (by assumption) | exact xup_o (by omega) (xup_s _ _ _) | exact xup_o (by omega) (xup_o (by omega) (by assumption)) | exact xup_o (by omega) (xup_o (by omega) (xup_s _ _ _)) | exact xup_o (by omega) (xup_o (by omega) (xup_o (by omega) (by assumption)))) (by rfl) ?_
        refine xv_V (Y2 := Y_Cut_cutAtPattern) (pc := 64) hX [_] k_Cut m_Cut_cutAtPattern d_Nam_cutAt_64 l_Nam_257 rfl rfl (by simp [Value.category]) (by first | assumption | exact xup_s _ _ _ | exact xup_o (by omega) (by assumption) | exact xup_o (by omega) (xup_s _ _ _) | exact xup_o (by omega) (xup_o (by omega) (by assumption)) | exact xup_o (by omega) (xup_o (by omega) (xup_s _ _ _)) | exact xup_o (by omega) (xup_o (by omega) (xup_o (by omega) (by assumption)))) (c_Cut_cutAtPattern (d + 1) hc2 hp (by omega) hf1 hf2 (by omega)) (by omega) (by omega) ?_
        rintro M3 ⟨a1, a2⟩
        refine xg_iconst (pc := 67) hX (nI 0) d_Nam_cutAt_67 ci_iconst_0 ?_
        refine xg_iret (pc := 68) hX hE d_Nam_cutAt_68 rfl rfl (by omega) (by omega) ?_
        exact ⟨rfl, _, rfl, Or.inl ⟨f, _, hR, rfl, nw2.kept (fun q hq => a2 q (by omega)), xw2.cut a2 a1⟩, fb.tr (FrB.r1 a2 (by omega) (by omega))⟩
      · refine xp_aload_0 (pc := 95) hX d_Nam_cutAt_95 ?_
        refine xg_get (pc := 96) hX (j := 9) k_Nam d_Nam_cutAt_96 l_Nam_60 (by decide) (by first | assumption | exact xup_s _ _ _ | exact xup_o (by omega) (by assumption) | exact xup_o (by omega) (xup_s _ _ _) | exact xup_o (by omega) (xup_o (by omega) (by assumption)) | exact xup_o (by omega) (xup_o (by omega) (xup_s _ _ _)) | exact xup_o (by omega) (xup_o (by omega) (xup_o (by omega) (by assumption)))) (by rfl) ?_
        refine xp_aload_0 (pc := 99) hX d_Nam_cutAt_99 ?_
        refine xg_get (pc := 100) hX (j := 5) k_Nam d_Nam_cutAt_100 l_Nam_40 (by decide) (by first | assumption | exact xup_s _ _ _ | exact xup_o (by omega) (by assumption) | exact xup_o (by omega) (xup_s _ _ _) | exact xup_o (by omega) (xup_o (by omega) (by assumption)) | exact xup_o (by omega) (xup_o (by omega) (xup_s _ _ _)) | exact xup_o (by omega) (xup_o (by omega) (xup_o (by omega) (by assumption)))) (by rfl) ?_
        refine xv_V (Y2 := Y_Cut_cutAtPattern) (pc := 103) hX [_] k_Cut m_Cut_cutAtPattern d_Nam_cutAt_103 l_Nam_257 rfl rfl (by simp [Value.category]) (by first | assumption | exact xup_s _ _ _ | exact xup_o (by omega) (by assumption) | exact xup_o (by omega) (xup_s _ _ _) | exact xup_o (by omega) (xup_o (by omega) (by assumption)) | exact xup_o (by omega) (xup_o (by omega) (xup_s _ _ _)) | exact xup_o (by omega) (xup_o (by omega) (xup_o (by omega) (by assumption)))) (c_Cut_cutAtPattern (d + 1) hc2 hp (by omega) hf1 hf2 (by omega)) (by omega) (by omega) ?_
        rintro M3 ⟨a1, a2⟩
        refine xg_iconst (pc := 106) hX (nI 0) d_Nam_cutAt_106 ci_iconst_0 ?_
        refine xg_iret (pc := 107) hX hE d_Nam_cutAt_107 rfl rfl (by omega) (by omega) ?_
        exact ⟨rfl, _, rfl, Or.inl ⟨f, _, hR, rfl, nw2.kept (fun q hq => a2 q (by omega)), xw2.cut a2 a1⟩, fb.tr (FrB.r1 a2 (by omega) (by omega))⟩
    rcases (show k = 0 ∨ k = 3 ∨ k = 4 ∨ k = 5 ∨ k = 6 ∨ k = 7 by
      have : k ≠ 1 := fun q => by rw [q] at hnt; cases hnt
      have : k ≠ 2 := fun q => by rw [q] at hnt; cases hnt
      omega) with rfl | rfl | rfl | rfl | rfl | rfl
    · refine xg_tableOut (pc := 8) hX 175 d_Nam_cutAt_8 (by left; decide) (by decide) ?_
      exact k175 rfl
    · obtain ⟨u1, u2⟩ := g5 rfl
      refine xg_tableIn (pc := 8) hX 44 d_Nam_cutAt_8 (by decide) (by decide) (off := 36) (by decide) (by decide) ?_
      have hqq : t[a - 1]? = some (t.getD (a - 1) 0) := by
        rw [List.getD_eq_getElem?_getD, List.getElem?_eq_getElem (by omega)]
        rfl
      refine xp_aload_0 (pc := 44) hX d_Nam_cutAt_44 ?_
      refine xg_get (pc := 45) hX (j := 6) k_Nam d_Nam_cutAt_45 l_Nam_10 (by decide) (by first | assumption | exact xup_s _ _ _ | exact xup_o (by omega) (by assumption) | exact xup_o (by omega) (xup_s _ _ _) | exact xup_o (by omega) (xup_o (by omega) (by assumption)) | exact xup_o (by omega) (xup_o (by omega) (xup_s _ _ _)) | exact xup_o (by omega) (xup_o (by omega) (xup_o (by omega) (by assumption)))) (by rfl) ?_
      refine xp_iload_1 (pc := 48) hX d_Nam_cutAt_48 ?_
      refine xp_aload_0 (pc := 49) hX d_Nam_cutAt_49 ?_
      refine xg_get (pc := 50) hX (j := 5) k_Nam d_Nam_cutAt_50 l_Nam_40 (by decide) (by first | assumption | exact xup_s _ _ _ | exact xup_o (by omega) (by assumption) | exact xup_o (by omega) (xup_s _ _ _) | exact xup_o (by omega) (xup_o (by omega) (by assumption)) | exact xup_o (by omega) (xup_o (by omega) (xup_s _ _ _)) | exact xup_o (by omega) (xup_o (by omega) (xup_o (by omega) (by assumption)))) (by rfl) ?_
      refine xv_V (Y2 := Y_Rea_copyString) (pc := 53) hX [_, _] k_Rea m_Rea_copyString d_Nam_cutAt_53 l_Nam_253 rfl rfl (by simp [Value.category]) (by first | assumption | exact xup_s _ _ _ | exact xup_o (by omega) (by assumption) | exact xup_o (by omega) (xup_s _ _ _) | exact xup_o (by omega) (xup_o (by omega) (by assumption)) | exact xup_o (by omega) (xup_o (by omega) (xup_s _ _ _)) | exact xup_o (by omega) (xup_o (by omega) (xup_o (by omega) (by assumption)))) (c_Rea_copyString (d + 3) hr x3 (by omega) hie u1 g3 g2 hqq u2) (by omega) (by omega) ?_
      rintro M2 ⟨a1, a2⟩
      exact kpat M2 full _ (h.kept (fun q hq => a2 q (by omega) (by omega))) (hx.pat a2 a1) a1 (FrB.r2 a2 (by omega) (by omega)) rfl 56 (Or.inl rfl)
    · obtain ⟨u1, u2⟩ := g4 (Or.inr rfl)
      refine xg_tableIn (pc := 8) hX 69 d_Nam_cutAt_8 (by decide) (by decide) (off := 61) (by decide) (by decide) ?_
      refine xp_aload_0 (pc := 69) hX d_Nam_cutAt_69 ?_
      refine xp_iload_1 (pc := 70) hX d_Nam_cutAt_70 ?_
      refine xi_V (Y2 := Y_Nam_workOut) (pc := 71) hX [_] k_Nam m_Nam_workOut d_Nam_cutAt_71 l_Nam_79 rfl rfl (by simp [Value.category]) (by first | assumption | exact xup_s _ _ _ | exact xup_o (by omega) (by assumption) | exact xup_o (by omega) (xup_s _ _ _) | exact xup_o (by omega) (xup_o (by omega) (by assumption)) | exact xup_o (by omega) (xup_o (by omega) (xup_s _ _ _)) | exact xup_o (by omega) (xup_o (by omega) (xup_o (by omega) (by assumption)))) (c_Nam_workOut d h hr hie u1 g2 u2) (by omega) (by omega) ?_
      rintro y M2 ⟨hc2, f2⟩
      have hR : cutS es se (dp - 1) t sub fr bg (some (4, a, b)) = (if (FN es se (dp - 1) t a b).length ≤ 200 then some (patS sub fr (tellT es se (dp - 1) (FN es se (dp - 1) t a b))) else none) := rfl
      have hnz : 0 < (FN es se (dp - 1) t a b).length := by
        unfold FN
        have hd := dotF_le (bs := t) (a := a) (b := b) (by omega) g2
        split
        · rw [List.length_append, List.length_map, sl_len (by omega)]; omega
        · rw [List.length_map, sl_len g2]; omega
      generalize FN es se (dp - 1) t a b = nm at *
      rcases hc2 with ⟨v1, rfl, v2⟩ | ⟨v1, rfl, f', v2⟩
      · rw [if_pos v1] at hR
        refine xn_if_ne (pc := 74) hX 80 d_Nam_cutAt_74 (by decide) (by decide) (fun _ => ?_) (fun z => absurd z (by decide))
        obtain ⟨n1, -⟩ := id v2
        refine xp_aload_0 (pc := 80) hX d_Nam_cutAt_80 ?_
        refine xg_get (pc := 81) hX (j := 5) k_Nam d_Nam_cutAt_81 l_Nam_40 (by decide) (by first | assumption | exact xup_s _ _ _ | exact xup_o (by omega) (by assumption) | exact xup_o (by omega) (xup_s _ _ _) | exact xup_o (by omega) (xup_o (by omega) (by assumption)) | exact xup_o (by omega) (xup_o (by omega) (xup_s _ _ _)) | exact xup_o (by omega) (xup_o (by omega) (xup_o (by omega) (by assumption)))) (by rfl) ?_
        refine xp_aload_0 (pc := 84) hX d_Nam_cutAt_84 ?_
        refine xp_aload_0 (pc := 85) hX d_Nam_cutAt_85 ?_
        refine xr_V (Y2 := Y_Nam_told) (pc := 86) hX [] k_Nam m_Nam_told d_Nam_cutAt_86 l_Nam_98 rfl rfl (by simp [Value.category]) (by first | assumption | exact xup_s _ _ _ | exact xup_o (by omega) (by assumption) | exact xup_o (by omega) (xup_s _ _ _) | exact xup_o (by omega) (xup_o (by omega) (by assumption)) | exact xup_o (by omega) (xup_o (by omega) (xup_s _ _ _)) | exact xup_o (by omega) (xup_o (by omega) (xup_o (by omega) (by assumption)))) (c_Nam_told d v2 hnz) (by omega) (by omega) ?_
        rintro o M3 ⟨rfl, nw3, f3⟩
        have ho : ∀ j, tellI es se (dp - 1) nm = some j → j < es.length := by
          intro j hj
          obtain ⟨e, u, w1, -⟩ := tellI_some hgI hj
          exact (List.getElem?_eq_some_iff.mp w1).1
        obtain ⟨n1, n2, -, -, n5, -⟩ := id nw3
        refine xr_V (Y2 := Y_Nam_textOf) (pc := 89) hX [_] k_Nam m_Nam_textOf d_Nam_cutAt_89 l_Nam_102 rfl rfl (by simp [Value.category]) (by first | assumption | exact xup_s _ _ _ | exact xup_o (by omega) (by assumption) | exact xup_o (by omega) (xup_s _ _ _) | exact xup_o (by omega) (xup_o (by omega) (by assumption)) | exact xup_o (by omega) (xup_o (by omega) (xup_s _ _ _)) | exact xup_o (by omega) (xup_o (by omega) (xup_o (by omega) (by assumption)))) (c_Nam_textOf (d + 4) nw3 ho) (by omega) (by omega) ?_
        rintro o M4 ⟨rfl, rfl⟩
        have xw3 := (hx.nn f2).nn f3
        obtain ⟨-, -, ⟨pt1, x3'⟩, -⟩ := id xw3
        obtain ⟨r3', -⟩ := id x3'
        -- the row that is told
        have htold : ∃ r, txA B g (tellI es se (dp - 1) nm) = r ∧ B + 15 ≠ r ∧ RowAt M4 r 200 (tellT es se (dp - 1) nm) := by
          refine ⟨_, rfl, ?_, ?_⟩
          · cases htI : tellI es se (dp - 1) nm with
            | none => show B + 15 ≠ B + 9; omega
            | some j => show B + 15 ≠ B + 17 + 2 + 5 * g j + 3; omega
          · cases htI : tellI es se (dp - 1) nm with
            | none =>
              have e1 : tellT es se (dp - 1) nm = nm := by unfold tellT; rw [htI]
              rw [e1]; exact n2
            | some j =>
              obtain ⟨e, u, w1, w2⟩ := tellI_some hgI htI
              have e1 : tellT es se (dp - 1) nm = u := by
                unfold tellT; rw [htI]; dsimp only; rw [w1]; dsimp only; rw [w2]; rfl
              rw [e1]
              have hjl := (List.getElem?_eq_some_iff.mp w1).1
              obtain ⟨-, -, -, v, w4, w5⟩ := n5.1.2.2.2.2.2 j (by have := n5.1.2.1; omega)
              rw [n5.2 j e w1] at w5
              rw [← w5 u w2]
              exact w4
        obtain ⟨r, hr1, hr2, hr3⟩ := htold
        rw [hr1]
        refine xv_V (Y2 := Y_Row_become) (pc := 92) hX [_] k_Row m_Row_become d_Nam_cutAt_92 l_Nam_106 rfl rfl (by simp [Value.category]) (by first | assumption | exact xup_s _ _ _ | exact xup_o (by omega) (by assumption) | exact xup_o (by omega) (xup_s _ _ _) | exact xup_o (by omega) (xup_o (by omega) (by assumption)) | exact xup_o (by omega) (xup_o (by omega) (xup_s _ _ _)) | exact xup_o (by omega) (xup_o (by omega) (xup_o (by omega) (by assumption)))) (c_Row_become (d + 2) x3' hr3 hr2 hr3.2.1 (by omega) (by omega)) (by omega) (by omega) ?_
        rintro M5 ⟨a1, a2⟩
        exact kpat M5 nm _ (nw3.kept (fun q hq => a2 q (by omega) (by omega))) (xw3.pat a2 a1) a1 ((FrB.n (f2.tr f3)).tr (FrB.r2 a2 (by omega) (by omega))) hR 95 (Or.inr rfl)
      · rw [if_neg (by omega)] at hR
        refine xn_if_ne (pc := 74) hX 80 d_Nam_cutAt_74 (by decide) (by decide) (fun z => absurd z (by decide)) (fun _ => ?_)
        refine xg_bipush (pc := 77) hX (-2) d_Nam_cutAt_77 ci_bipush_m2 ?_
        refine xg_iret (pc := 79) hX hE d_Nam_cutAt_79 rfl rfl (by omega) (by omega) ?_
        exact ⟨rfl, _, rfl, Or.inr ⟨f', hR, rfl, v2, hx.nn f2⟩, FrB.n f2⟩
    · refine xg_tableIn (pc := 8) hX 108 d_Nam_cutAt_8 (by decide) (by decide) (off := 100) (by decide) (by decide) ?_
      refine xp_aload_0 (pc := 108) hX d_Nam_cutAt_108 ?_
      refine xg_get (pc := 109) hX (j := 9) k_Nam d_Nam_cutAt_109 l_Nam_60 (by decide) (by first | assumption | exact xup_s _ _ _ | exact xup_o (by omega) (by assumption) | exact xup_o (by omega) (xup_s _ _ _) | exact xup_o (by omega) (xup_o (by omega) (by assumption)) | exact xup_o (by omega) (xup_o (by omega) (xup_s _ _ _)) | exact xup_o (by omega) (xup_o (by omega) (xup_o (by omega) (by assumption)))) (by rfl) ?_
      refine xp_aload_0 (pc := 112) hX d_Nam_cutAt_112 ?_
      refine xg_get (pc := 113) hX (j := 6) k_Nam d_Nam_cutAt_113 l_Nam_10 (by decide) (by first | assumption | exact xup_s _ _ _ | exact xup_o (by omega) (by assumption) | exact xup_o (by omega) (xup_s _ _ _) | exact xup_o (by omega) (xup_o (by omega) (by assumption)) | exact xup_o (by omega) (xup_o (by omega) (xup_s _ _ _)) | exact xup_o (by omega) (xup_o (by omega) (xup_o (by omega) (by assumption)))) (by rfl) ?_
      refine xp_iload_1 (pc := 116) hX d_Nam_cutAt_116 ?_
      refine xi_V (Y2 := Y_Rea_numberOf) (pc := 117) hX [_] k_Rea m_Rea_numberOf d_Nam_cutAt_117 l_Nam_260 rfl rfl (by simp [Value.category]) (by first | assumption | exact xup_s _ _ _ | exact xup_o (by omega) (by assumption) | exact xup_o (by omega) (xup_s _ _ _) | exact xup_o (by omega) (xup_o (by omega) (by assumption)) | exact xup_o (by omega) (xup_o (by omega) (xup_s _ _ _)) | exact xup_o (by omega) (xup_o (by omega) (xup_o (by omega) (by assumption)))) (c_Rea_numberOf (d + 3) hr hie g3 g2 (g6 (by omega))) (by omega) (by omega) ?_
      rintro y M2 ⟨rfl, rfl⟩
      refine xv_V (Y2 := Y_Cut_cutAtPlace) (pc := 120) hX [_] k_Cut m_Cut_cutAtPlace d_Nam_cutAt_120 l_Nam_263 rfl rfl (by simp [Value.category]) (by first | assumption | exact xup_s _ _ _ | exact xup_o (by omega) (by assumption) | exact xup_o (by omega) (xup_s _ _ _) | exact xup_o (by omega) (xup_o (by omega) (by assumption)) | exact xup_o (by omega) (xup_o (by omega) (xup_s _ _ _)) | exact xup_o (by omega) (xup_o (by omega) (xup_o (by omega) (by assumption)))) (c_Cut_cutAtPlace (d + 3) _ hc (by omega)) (by omega) (by omega) ?_
      rintro M3 ⟨a1, a2⟩
      refine xg_iconst (pc := 123) hX (nI 0) d_Nam_cutAt_123 ci_iconst_0 ?_
      refine xg_iret (pc := 124) hX hE d_Nam_cutAt_124 rfl rfl (by omega) (by omega) ?_
      exact ⟨rfl, _, rfl, Or.inl ⟨full, _, rfl, rfl, h.kept (fun q hq => a2 q (by omega)), hx.cut a2 a1⟩, FrB.r1 a2 (by omega) (by omega)⟩
    · refine xg_tableIn (pc := 8) hX 125 d_Nam_cutAt_8 (by decide) (by decide) (off := 117) (by decide) (by decide) ?_
      refine xp_aload_0 (pc := 125) hX d_Nam_cutAt_125 ?_
      refine xg_get (pc := 126) hX (j := 9) k_Nam d_Nam_cutAt_126 l_Nam_60 (by decide) (by first | assumption | exact xup_s _ _ _ | exact xup_o (by omega) (by assumption) | exact xup_o (by omega) (xup_s _ _ _) | exact xup_o (by omega) (xup_o (by omega) (by assumption)) | exact xup_o (by omega) (xup_o (by omega) (xup_s _ _ _)) | exact xup_o (by omega) (xup_o (by omega) (xup_o (by omega) (by assumption)))) (by rfl) ?_
      refine xp_aload_0 (pc := 129) hX d_Nam_cutAt_129 ?_
      refine xg_get (pc := 130) hX (j := 9) k_Nam d_Nam_cutAt_130 l_Nam_60 (by decide) (by first | assumption | exact xup_s _ _ _ | exact xup_o (by omega) (by assumption) | exact xup_o (by omega) (xup_s _ _ _) | exact xup_o (by omega) (xup_o (by omega) (by assumption)) | exact xup_o (by omega) (xup_o (by omega) (xup_s _ _ _)) | exact xup_o (by omega) (xup_o (by omega) (xup_o (by omega) (by assumption)))) (by rfl) ?_
      refine xg_get (pc := 133) hX (j := 2) k_Cut d_Nam_cutAt_133 l_Nam_183 (by decide) (by first | assumption | exact xup_s _ _ _ | exact xup_o (by omega) (by assumption) | exact xup_o (by omega) (xup_s _ _ _) | exact xup_o (by omega) (xup_o (by omega) (by assumption)) | exact xup_o (by omega) (xup_o (by omega) (xup_s _ _ _)) | exact xup_o (by omega) (xup_o (by omega) (xup_o (by omega) (by assumption)))) (by rfl) ?_
      refine xp_aload_0 (pc := 136) hX d_Nam_cutAt_136 ?_
      refine xg_get (pc := 137) hX (j := 6) k_Nam d_Nam_cutAt_137 l_Nam_10 (by decide) (by first | assumption | exact xup_s _ _ _ | exact xup_o (by omega) (by assumption) | exact xup_o (by omega) (xup_s _ _ _) | exact xup_o (by omega) (xup_o (by omega) (by assumption)) | exact xup_o (by omega) (xup_o (by omega) (xup_s _ _ _)) | exact xup_o (by omega) (xup_o (by omega) (xup_o (by omega) (by assumption)))) (by rfl) ?_
      refine xp_iload_1 (pc := 140) hX d_Nam_cutAt_140 ?_
      refine xi_V (Y2 := Y_Rea_numberOf) (pc := 141) hX [_] k_Rea m_Rea_numberOf d_Nam_cutAt_141 l_Nam_260 rfl rfl (by simp [Value.category]) (by first | assumption | exact xup_s _ _ _ | exact xup_o (by omega) (by assumption) | exact xup_o (by omega) (xup_s _ _ _) | exact xup_o (by omega) (xup_o (by omega) (by assumption)) | exact xup_o (by omega) (xup_o (by omega) (xup_s _ _ _)) | exact xup_o (by omega) (xup_o (by omega) (xup_o (by omega) (by assumption)))) (c_Rea_numberOf (d + 3) hr hie g3 g2 (g6 (by omega))) (by omega) (by omega) ?_
      rintro y M2 ⟨rfl, rfl⟩
      refine xg_iadd (pc := 144) hX d_Nam_cutAt_144 ?_
      refine xv_V (Y2 := Y_Cut_cutAtPlace) (pc := 145) hX [_] k_Cut m_Cut_cutAtPlace d_Nam_cutAt_145 l_Nam_263 rfl rfl (by simp [Value.category]) (by first | assumption | exact xup_s _ _ _ | exact xup_o (by omega) (by assumption) | exact xup_o (by omega) (xup_s _ _ _) | exact xup_o (by omega) (xup_o (by omega) (by assumption)) | exact xup_o (by omega) (xup_o (by omega) (xup_s _ _ _)) | exact xup_o (by omega) (xup_o (by omega) (xup_o (by omega) (by assumption)))) (c_Cut_cutAtPlace (d + 3) _ hc (by omega)) (by omega) (by omega) ?_
      rintro M3 ⟨a1, a2⟩
      refine xg_iconst (pc := 148) hX (nI 0) d_Nam_cutAt_148 ci_iconst_0 ?_
      refine xg_iret (pc := 149) hX hE d_Nam_cutAt_149 rfl rfl (by omega) (by omega) ?_
      exact ⟨rfl, _, rfl, Or.inl ⟨full, _, rfl, rfl, h.kept (fun q hq => a2 q (by omega)), hx.cut a2 a1⟩, FrB.r1 a2 (by omega) (by omega)⟩
    · refine xg_tableIn (pc := 8) hX 150 d_Nam_cutAt_8 (by decide) (by decide) (off := 142) (by decide) (by decide) ?_
      refine xp_aload_0 (pc := 150) hX d_Nam_cutAt_150 ?_
      refine xg_get (pc := 151) hX (j := 9) k_Nam d_Nam_cutAt_151 l_Nam_60 (by decide) (by first | assumption | exact xup_s _ _ _ | exact xup_o (by omega) (by assumption) | exact xup_o (by omega) (xup_s _ _ _) | exact xup_o (by omega) (xup_o (by omega) (by assumption)) | exact xup_o (by omega) (xup_o (by omega) (xup_s _ _ _)) | exact xup_o (by omega) (xup_o (by omega) (xup_o (by omega) (by assumption)))) (by rfl) ?_
      refine xp_aload_0 (pc := 154) hX d_Nam_cutAt_154 ?_
      refine xg_get (pc := 155) hX (j := 9) k_Nam d_Nam_cutAt_155 l_Nam_60 (by decide) (by first | assumption | exact xup_s _ _ _ | exact xup_o (by omega) (by assumption) | exact xup_o (by omega) (xup_s _ _ _) | exact xup_o (by omega) (xup_o (by omega) (by assumption)) | exact xup_o (by omega) (xup_o (by omega) (xup_s _ _ _)) | exact xup_o (by omega) (xup_o (by omega) (xup_o (by omega) (by assumption)))) (by rfl) ?_
      refine xg_get (pc := 158) hX (j := 2) k_Cut d_Nam_cutAt_158 l_Nam_183 (by decide) (by first | assumption | exact xup_s _ _ _ | exact xup_o (by omega) (by assumption) | exact xup_o (by omega) (xup_s _ _ _) | exact xup_o (by omega) (xup_o (by omega) (by assumption)) | exact xup_o (by omega) (xup_o (by omega) (xup_s _ _ _)) | exact xup_o (by omega) (xup_o (by omega) (xup_o (by omega) (by assumption)))) (by rfl) ?_
      refine xp_aload_0 (pc := 161) hX d_Nam_cutAt_161 ?_
      refine xg_get (pc := 162) hX (j := 6) k_Nam d_Nam_cutAt_162 l_Nam_10 (by decide) (by first | assumption | exact xup_s _ _ _ | exact xup_o (by omega) (by assumption) | exact xup_o (by omega) (xup_s _ _ _) | exact xup_o (by omega) (xup_o (by omega) (by assumption)) | exact xup_o (by omega) (xup_o (by omega) (xup_s _ _ _)) | exact xup_o (by omega) (xup_o (by omega) (xup_o (by omega) (by assumption)))) (by rfl) ?_
      refine xp_iload_1 (pc := 165) hX d_Nam_cutAt_165 ?_
      refine xi_V (Y2 := Y_Rea_numberOf) (pc := 166) hX [_] k_Rea m_Rea_numberOf d_Nam_cutAt_166 l_Nam_260 rfl rfl (by simp [Value.category]) (by first | assumption | exact xup_s _ _ _ | exact xup_o (by omega) (by assumption) | exact xup_o (by omega) (xup_s _ _ _) | exact xup_o (by omega) (xup_o (by omega) (by assumption)) | exact xup_o (by omega) (xup_o (by omega) (xup_s _ _ _)) | exact xup_o (by omega) (xup_o (by omega) (xup_o (by omega) (by assumption)))) (c_Rea_numberOf (d + 3) hr hie g3 g2 (g6 (by omega))) (by omega) (by omega) ?_
      rintro y M2 ⟨rfl, rfl⟩
      refine xg_isub (pc := 169) hX d_Nam_cutAt_169 ?_
      refine xv_V (Y2 := Y_Cut_cutAtPlace) (pc := 170) hX [_] k_Cut m_Cut_cutAtPlace d_Nam_cutAt_170 l_Nam_263 rfl rfl (by simp [Value.category]) (by first | assumption | exact xup_s _ _ _ | exact xup_o (by omega) (by assumption) | exact xup_o (by omega) (xup_s _ _ _) | exact xup_o (by omega) (xup_o (by omega) (by assumption)) | exact xup_o (by omega) (xup_o (by omega) (xup_s _ _ _)) | exact xup_o (by omega) (xup_o (by omega) (xup_o (by omega) (by assumption)))) (c_Cut_cutAtPlace (d + 3) _ hc (by omega)) (by omega) (by omega) ?_
      rintro M3 ⟨a1, a2⟩
      refine xg_iconst (pc := 173) hX (nI 0) d_Nam_cutAt_173 ci_iconst_0 ?_
      refine xg_iret (pc := 174) hX hE d_Nam_cutAt_174 rfl rfl (by omega) (by omega) ?_
      exact ⟨rfl, _, rfl, Or.inl ⟨full, _, rfl, rfl, h.kept (fun q hq => a2 q (by omega)), hx.cut a2 a1⟩, FrB.r1 a2 (by omega) (by omega)⟩
