/-! NameRoom: handing over, parsing -/
def wrdS (last : Bool) (sub : List UInt8) (pf pt : Nat) : Nat × Nat × Nat := if last then (pf, pt, pt) else (sc bl sub (pf - 1) (pt - 1) + 1, sc nbl sub (sc bl sub (pf - 1) (pt - 1) + 1 - 1) (pt - 1) + 1, min (sc nbl sub (sc bl sub (pf - 1) (pt - 1) + 1 - 1) (pt - 1) + 1 + 1) pt)
theorem wrdS_in {last : Bool} {sub : List UInt8} {pf pt : Nat} (h1 : 1 ≤ pf) (h2 : pf ≤ pt) (h3 : pt ≤ sub.length + 1) : 1 ≤ (wrdS last sub pf pt).1 ∧ (wrdS last sub pf pt).1 ≤ (wrdS last sub pf pt).2.1 ∧ (wrdS last sub pf pt).2.1 ≤ pt ∧ 1 ≤ (wrdS last sub pf pt).2.2 ∧ (wrdS last sub pf pt).2.2 ≤ pt := by
  unfold wrdS
  have a := sc_le (P := bl) (bs := sub) (a := pf - 1) (b := pt - 1) (by omega) (by omega)
  have b := sc_le (P := nbl) (bs := sub) (a := sc bl sub (pf - 1) (pt - 1) + 1 - 1) (b := pt - 1) (by omega) (by omega)
  split
  · dsimp only; omega
  · dsimp only; omega
/-- giving a name a value -/
def givE (es : List xEn) (se : List xSe) (ip : Nat) (nm v : List UInt8) : Int32 × List xEn := match putE (clE es (own se nm ip) nm) (own se nm ip) nm (some v) with
  | some es2 => (nI 0, es2)
  | none => (-4, clE es (own se nm ip) nm)
/-- one target gets its share -/
def hd1 (es : List xEn) (se : List xSe) (ip : Nat) (t sub : List UInt8) (s e : Nat) (k : xTk) : Int32 × List xEn := if k.1 = 1 then (if (FN es se ip t k.2.1 k.2.2).length ≤ 200 then givE es se ip (FN es se ip t k.2.1 k.2.2) (sl sub (s - 1) (e - 1)) else (-2, es)) else (nI 0, es)
set_option maxHeartbeats 4000000 in
set_option maxRecDepth 100000 in
theorem c_Nam_handOver (d : Nat) {M : xH} {sz B dp i tg pos fr bg pf pt : Nat} {ans : Option Nat} {t full out sub : List UInt8} {tk : List xTk} {g : Nat → Nat} {L : Nat → xEn × Bool} {es : List xEn} {se : List xSe} {last : Bool} {k : xTk} (h : NW M B full g L es dp se) (hx : XW M B t tk tg pos ans out sub fr bg pf pt) (hk : tk[i]? = some k) (hgood : tkG t k) (hf1 : 1 ≤ pf) (hf2 : pf ≤ pt) (hf3 : pt ≤ sub.length + 1) : xC (d + 5) 0 0 Y_Nam_handOver [.ref B, .int (nI i), .int (bI last)] M sz (qi sz (fun y M' => y = (hd1 es se (dp - 1) t sub (wrdS last sub pf pt).1 (wrdS last sub pf pt).2.1 k).1 ∧ (∃ f g' L', NW M' B f g' L' (hd1 es se (dp - 1) t sub (wrdS last sub pf pt).1 (wrdS last sub pf pt).2.1 k).2 dp se) ∧ XW M' B t tk tg pos ans out sub fr bg (wrdS last sub pf pt).2.2 pt ∧ FrB M M' B)) := by
  refine xC_of (by decide) (Nat.le_of_ble_eq_true rfl) (by simp [Value.category]) (vs := [some (.ref B), some (.int (nI i)), some (.int (bI last))]) rfl (fun K hX hE => ?_)
  obtain ⟨h1, h2, -⟩ := id h
  obtain ⟨hr, -, -, sf, st, hc⟩ := id hx
  obtain ⟨c1, c2⟩ := id hc
  have hsl : sub.length ≤ 200 := c2.2.1
  have hkl := (List.getElem?_eq_some_iff.mp hk).1
  have htl := hr.2.2.1
  have hw := wrdS_in (last := last) hf1 hf2 hf3
  generalize hW : wrdS last sub pf pt = W at *
  have k21 : ∀ (M1 : xH), CuA M1 (B + 773) sub fr bg W.1 W.2.1 W.2.2 pt → Fr1 M M1 (B + 773) → xG K 21 [some (.ref B), some (.int (nI i)), some (.int (bI last))] [] M1 sz 0 0 := by
    intro M1 hc1 f1
    have nw1 := h.kept (fun q hq => f1 q (by omega))
    have xw1 := hx.cut f1 hc1
    obtain ⟨hr1, -⟩ := id xw1
    obtain ⟨n1, -⟩ := id nw1
    obtain ⟨q1, -⟩ := id hr1
    have hk0 : tkK tk i = k.1 := by unfold tkK; rw [hk]
    obtain ⟨w1, w2, w3, w4, -⟩ := id hgood
    refine xp_aload_0 (pc := 21) hX d_Nam_handOver_21 ?_
    refine xg_get (pc := 22) hX (j := 6) k_Nam d_Nam_handOver_22 l_Nam_10 (by decide) (by first | assumption | exact xup_s _ _ _ | exact xup_o (by omega) (by assumption) | exact xup_o (by omega) (xup_s _ _ _) | exact xup_o (by omega) (xup_o (by omega) (by assumption)) | exact xup_o (by omega) (xup_o (by omega) (xup_s _ _ _)) | exact xup_o (by omega) (xup_o (by omega) (xup_o (by omega) (by assumption)))) (by rfl) ?_
    refine xp_iload_1 (pc := 25) hX d_Nam_handOver_25 ?_
    refine xi_V (Y2 := Y_Rea_kindOf) (pc := 26) hX [_] k_Rea m_Rea_kindOf d_Nam_handOver_26 l_Nam_250 rfl rfl (by simp [Value.category]) (by first | assumption | exact xup_s _ _ _ | exact xup_o (by omega) (by assumption) | exact xup_o (by omega) (xup_s _ _ _) | exact xup_o (by omega) (xup_o (by omega) (by assumption)) | exact xup_o (by omega) (xup_o (by omega) (xup_s _ _ _)) | exact xup_o (by omega) (xup_o (by omega) (xup_o (by omega) (by assumption)))) (c_Rea_kindOf (d + 4) hr1 (by omega)) (by omega) (by omega) ?_
    rintro y M2 ⟨rfl, rfl⟩
    rw [hk0]
    refine xg_iconst (pc := 29) hX (nI 1) d_Nam_handOver_29 ci_iconst_1 ?_
    refine xn_icmp_eq (pc := 30) hX 35 d_Nam_handOver_30 (by decide) (by omega) (by omega) (fun z => ?_) (fun z => ?_)
    · obtain ⟨u1, u2⟩ := w4 (Or.inl z)
      have hh : hd1 es se (dp - 1) t sub W.1 W.2.1 k = (if (FN es se (dp - 1) t k.2.1 k.2.2).length ≤ 200 then givE es se (dp - 1) (FN es se (dp - 1) t k.2.1 k.2.2) (sl sub (W.1 - 1) (W.2.1 - 1)) else (-2, es)) := by unfold hd1; rw [if_pos z]
      refine xp_aload_0 (pc := 35) hX d_Nam_handOver_35 ?_
      refine xp_iload_1 (pc := 36) hX d_Nam_handOver_36 ?_
      refine xi_V (Y2 := Y_Nam_workOut) (pc := 37) hX [_] k_Nam m_Nam_workOut d_Nam_handOver_37 l_Nam_79 rfl rfl (by simp [Value.category]) (by first | assumption | exact xup_s _ _ _ | exact xup_o (by omega) (by assumption) | exact xup_o (by omega) (xup_s _ _ _) | exact xup_o (by omega) (xup_o (by omega) (by assumption)) | exact xup_o (by omega) (xup_o (by omega) (xup_s _ _ _)) | exact xup_o (by omega) (xup_o (by omega) (xup_o (by omega) (by assumption)))) (c_Nam_workOut d nw1 hr1 hk u1 w2 u2) (by omega) (by omega) ?_
      rintro y M3 ⟨hc3, f3⟩
      generalize FN es se (dp - 1) t k.2.1 k.2.2 = nm at *
      rcases hc3 with ⟨v1, rfl, v2⟩ | ⟨v1, rfl, f', v2⟩
      · rw [if_pos v1] at hh
        refine xn_if_ne (pc := 40) hX 46 d_Nam_handOver_40 (by decide) (by decide) (fun _ => ?_) (fun z => absurd z (by decide))
        have xw3 := xw1.nn f3
        have hc3 : CuA M3 (B + 773) sub fr bg W.1 W.2.1 W.2.2 pt := hc1.kept (fun q a b => f3 q (by omega))
        obtain ⟨n1, -⟩ := id v2
        obtain ⟨c1, c2⟩ := id hc3
        refine xp_aload_0 (pc := 46) hX d_Nam_handOver_46 ?_
        refine xp_aload_0 (pc := 47) hX d_Nam_handOver_47 ?_
        refine xg_get (pc := 48) hX (j := 9) k_Nam d_Nam_handOver_48 l_Nam_60 (by decide) (by first | assumption | exact xup_s _ _ _ | exact xup_o (by omega) (by assumption) | exact xup_o (by omega) (xup_s _ _ _) | exact xup_o (by omega) (xup_o (by omega) (by assumption)) | exact xup_o (by omega) (xup_o (by omega) (xup_s _ _ _)) | exact xup_o (by omega) (xup_o (by omega) (xup_o (by omega) (by assumption)))) (by rfl) ?_
        refine xg_get (pc := 51) hX (j := 0) k_Cut d_Nam_handOver_51 l_Nam_177 (by decide) (by first | assumption | exact xup_s _ _ _ | exact xup_o (by omega) (by assumption) | exact xup_o (by omega) (xup_s _ _ _) | exact xup_o (by omega) (xup_o (by omega) (by assumption)) | exact xup_o (by omega) (xup_o (by omega) (xup_s _ _ _)) | exact xup_o (by omega) (xup_o (by omega) (xup_o (by omega) (by assumption)))) (by rfl) ?_
        refine xp_aload_0 (pc := 54) hX d_Nam_handOver_54 ?_
        refine xg_get (pc := 55) hX (j := 9) k_Nam d_Nam_handOver_55 l_Nam_60 (by decide) (by first | assumption | exact xup_s _ _ _ | exact xup_o (by omega) (by assumption) | exact xup_o (by omega) (xup_s _ _ _) | exact xup_o (by omega) (xup_o (by omega) (by assumption)) | exact xup_o (by omega) (xup_o (by omega) (xup_s _ _ _)) | exact xup_o (by omega) (xup_o (by omega) (xup_o (by omega) (by assumption)))) (by rfl) ?_
        refine xg_get (pc := 58) hX (j := 3) k_Cut d_Nam_handOver_58 l_Nam_275 (by decide) (by first | assumption | exact xup_s _ _ _ | exact xup_o (by omega) (by assumption) | exact xup_o (by omega) (xup_s _ _ _) | exact xup_o (by omega) (xup_o (by omega) (by assumption)) | exact xup_o (by omega) (xup_o (by omega) (xup_s _ _ _)) | exact xup_o (by omega) (xup_o (by omega) (xup_o (by omega) (by assumption)))) (by rfl) ?_
        refine xg_iconst (pc := 61) hX (nI 1) d_Nam_handOver_61 ci_iconst_1 ?_
        first | refine xn_isub (pc := 62) hX d_Nam_handOver_62 (by omega) ?_ | refine xg_isub (pc := 62) hX d_Nam_handOver_62 ?_
        refine xp_aload_0 (pc := 63) hX d_Nam_handOver_63 ?_
        refine xg_get (pc := 64) hX (j := 9) k_Nam d_Nam_handOver_64 l_Nam_60 (by decide) (by first | assumption | exact xup_s _ _ _ | exact xup_o (by omega) (by assumption) | exact xup_o (by omega) (xup_s _ _ _) | exact xup_o (by omega) (xup_o (by omega) (by assumption)) | exact xup_o (by omega) (xup_o (by omega) (xup_s _ _ _)) | exact xup_o (by omega) (xup_o (by omega) (xup_o (by omega) (by assumption)))) (by rfl) ?_
        refine xg_get (pc := 67) hX (j := 4) k_Cut d_Nam_handOver_67 l_Nam_278 (by decide) (by first | assumption | exact xup_s _ _ _ | exact xup_o (by omega) (by assumption) | exact xup_o (by omega) (xup_s _ _ _) | exact xup_o (by omega) (xup_o (by omega) (by assumption)) | exact xup_o (by omega) (xup_o (by omega) (xup_s _ _ _)) | exact xup_o (by omega) (xup_o (by omega) (xup_o (by omega) (by assumption)))) (by rfl) ?_
        refine xg_iconst (pc := 70) hX (nI 1) d_Nam_handOver_70 ci_iconst_1 ?_
        first | refine xn_isub (pc := 71) hX d_Nam_handOver_71 (by omega) ?_ | refine xg_isub (pc := 71) hX d_Nam_handOver_71 ?_
        refine xi_V (Y2 := Y_Nam_give) (pc := 72) hX [_, _, _] k_Nam m_Nam_give d_Nam_handOver_72 l_Nam_85 rfl rfl (by simp [Value.category]) (by first | assumption | exact xup_s _ _ _ | exact xup_o (by omega) (by assumption) | exact xup_o (by omega) (xup_s _ _ _) | exact xup_o (by omega) (xup_o (by omega) (by assumption)) | exact xup_o (by omega) (xup_o (by omega) (xup_s _ _ _)) | exact xup_o (by omega) (xup_o (by omega) (xup_o (by omega) (by assumption)))) (c_Nam_give d v2 c2 (by omega) (by omega) (by omega) (by omega) (by omega)) (by omega) (by omega) ?_
        rintro y M4 ⟨hgv, f4⟩
        have hgE : givE es se (dp - 1) nm (sl sub (W.1 - 1) (W.2.1 - 1)) = (match putE (clE es (own se nm (dp - 1)) nm) (own se nm (dp - 1)) nm (some (sl sub (W.1 - 1) (W.2.1 - 1))) with | some es2 => (nI 0, es2) | none => (-4, clE es (own se nm (dp - 1)) nm)) := rfl
        rcases hgv with ⟨es2, g', L', e1, rfl, e2⟩ | ⟨g', L', e1, rfl, e2⟩
        · rw [e1] at hgE
          refine xg_iret (pc := 75) hX hE d_Nam_handOver_75 rfl rfl (by omega) (by omega) ?_
          rw [hh, hgE]
          exact ⟨rfl, _, rfl, rfl, ⟨nm, g', L', e2⟩, xw3.nn f4, (FrB.r1 f1 (by omega) (by omega)).tr (FrB.n (f3.tr f4))⟩
        · rw [e1] at hgE
          refine xg_iret (pc := 75) hX hE d_Nam_handOver_75 rfl rfl (by omega) (by omega) ?_
          rw [hh, hgE]
          exact ⟨rfl, _, rfl, rfl, ⟨nm, g', L', e2⟩, xw3.nn f4, (FrB.r1 f1 (by omega) (by omega)).tr (FrB.n (f3.tr f4))⟩
      · rw [if_neg (by omega)] at hh
        refine xn_if_ne (pc := 40) hX 46 d_Nam_handOver_40 (by decide) (by decide) (fun z => absurd z (by decide)) (fun _ => ?_)
        refine xg_bipush (pc := 43) hX (-2) d_Nam_handOver_43 ci_bipush_m2 ?_
        refine xg_iret (pc := 45) hX hE d_Nam_handOver_45 rfl rfl (by omega) (by omega) ?_
        rw [hh]
        exact ⟨rfl, _, rfl, rfl, ⟨f', g, L, v2⟩, xw1.nn f3, (FrB.r1 f1 (by omega) (by omega)).tr (FrB.n f3)⟩
    · have hh : hd1 es se (dp - 1) t sub W.1 W.2.1 k = (nI 0, es) := by unfold hd1; rw [if_neg z]
      refine xg_iconst (pc := 33) hX (nI 0) d_Nam_handOver_33 ci_iconst_0 ?_
      refine xg_iret (pc := 34) hX hE d_Nam_handOver_34 rfl rfl (by omega) (by omega) ?_
      rw [hh]
      exact ⟨rfl, _, rfl, rfl, ⟨full, g, L, nw1⟩, xw1, FrB.r1 f1 (by omega) (by omega)⟩
  refine xp_iload_2 (pc := 0) hX d_Nam_handOver_0 ?_
  refine xg_if_eq (pc := 1) hX 14 d_Nam_handOver_1 (by decide) (fun z => ?_) (fun z => ?_)
  · have z := bI_eq0.mp z
    refine xp_aload_0 (pc := 14) hX d_Nam_handOver_14 ?_
    refine xg_get (pc := 15) hX (j := 9) k_Nam d_Nam_handOver_15 l_Nam_60 (by decide) (by first | assumption | exact xup_s _ _ _ | exact xup_o (by omega) (by assumption) | exact xup_o (by omega) (xup_s _ _ _) | exact xup_o (by omega) (xup_o (by omega) (by assumption)) | exact xup_o (by omega) (xup_o (by omega) (xup_s _ _ _)) | exact xup_o (by omega) (xup_o (by omega) (xup_o (by omega) (by assumption)))) (by rfl) ?_
    refine xv_V (Y2 := Y_Cut_takeWord) (pc := 18) hX [] k_Cut m_Cut_takeWord d_Nam_handOver_18 l_Nam_272 rfl rfl (by simp [Value.category]) (by first | assumption | exact xup_s _ _ _ | exact xup_o (by omega) (by assumption) | exact xup_o (by omega) (xup_s _ _ _) | exact xup_o (by omega) (xup_o (by omega) (by assumption)) | exact xup_o (by omega) (xup_o (by omega) (xup_s _ _ _)) | exact xup_o (by omega) (xup_o (by omega) (xup_o (by omega) (by assumption)))) (c_Cut_takeWord (d + 3) hc hf1 hf2 hf3) (by omega) (by omega) ?_
    rintro M1 ⟨⟨s, e, rfl, rfl, a1⟩, a2⟩
    refine k21 M1 ?_ a2
    rw [← hW, z]
    exact a1
  · have z := bI_ne0.mp z
    refine xp_aload_0 (pc := 4) hX d_Nam_handOver_4 ?_
    refine xg_get (pc := 5) hX (j := 9) k_Nam d_Nam_handOver_5 l_Nam_60 (by decide) (by first | assumption | exact xup_s _ _ _ | exact xup_o (by omega) (by assumption) | exact xup_o (by omega) (xup_s _ _ _) | exact xup_o (by omega) (xup_o (by omega) (by assumption)) | exact xup_o (by omega) (xup_o (by omega) (xup_s _ _ _)) | exact xup_o (by omega) (xup_o (by omega) (xup_o (by omega) (by assumption)))) (by rfl) ?_
    refine xv_V (Y2 := Y_Cut_takeRest) (pc := 8) hX [] k_Cut m_Cut_takeRest d_Nam_handOver_8 l_Nam_269 rfl rfl (by simp [Value.category]) (by first | assumption | exact xup_s _ _ _ | exact xup_o (by omega) (by assumption) | exact xup_o (by omega) (xup_s _ _ _) | exact xup_o (by omega) (xup_o (by omega) (by assumption)) | exact xup_o (by omega) (xup_o (by omega) (xup_s _ _ _)) | exact xup_o (by omega) (xup_o (by omega) (xup_o (by omega) (by assumption)))) (c_Cut_takeRest (d + 4) hc) (by omega) (by omega) ?_
    rintro M1 ⟨a1, a2⟩
    refine xg_goto (pc := 11) hX 21 d_Nam_handOver_11 (by decide) ?_
    refine k21 M1 ?_ a2
    rw [← hW, z]
    exact a1
/-- the targets get the part, one by one -/
def hndL (se : List xSe) (ip : Nat) (t sub : List UInt8) (pt : Nat) : List xTk → Nat → List xEn → Int32 × List xEn
  | [], _, es => (nI 0, es)
  | k :: r, pf, es => if (hd1 es se ip t sub (wrdS r.isEmpty sub pf pt).1 (wrdS r.isEmpty sub pf pt).2.1 k).1 = nI 0 then hndL se ip t sub pt r (wrdS r.isEmpty sub pf pt).2.2 (hd1 es se ip t sub (wrdS r.isEmpty sub pf pt).1 (wrdS r.isEmpty sub pf pt).2.1 k).2 else hd1 es se ip t sub (wrdS r.isEmpty sub pf pt).1 (wrdS r.isEmpty sub pf pt).2.1 k
/-- cutting the subject by tokens: answer, entries, FROM, BEGAN -/
def prsS (se : List xSe) (ip : Nat) (t sub : List UInt8) : List xTk → List xTk → List xEn → Nat → Nat → Int32 × List xEn × Nat × Nat
  | [], pend, es, fr, bg => ((hndL se ip t sub (sub.length + 1) pend fr es).1, (hndL se ip t sub (sub.length + 1) pend fr es).2, fr, bg)
  | k :: r, pend, es, fr, bg => if isTg k.1 then prsS se ip t sub r (pend ++ [k]) es fr bg else match cutS es se ip t sub fr bg (some k) with
    | none => (-2, es, fr, bg)
    | some R => if (hndL se ip t sub R.2.1 pend R.1 es).1 = nI 0 then prsS se ip t sub r [] (hndL se ip t sub R.2.1 pend R.1 es).2 R.2.2.2 R.2.2.1 else ((hndL se ip t sub R.2.1 pend R.1 es).1, (hndL se ip t sub R.2.1 pend R.1 es).2, R.2.2.2, R.2.2.1)
theorem cutS_in {es : List xEn} {se : List xSe} {ip : Nat} {t sub : List UInt8} {fr bg : Nat} {o : Option xTk} {R : Nat × Nat × Nat × Nat} (h1 : 1 ≤ fr) (h2 : fr ≤ sub.length + 1) (hb1 : 1 ≤ bg) (hb2 : bg ≤ sub.length + 1) (h : cutS es se ip t sub fr bg o = some R) : R.1 = fr ∧ fr ≤ R.2.1 ∧ R.2.1 ≤ sub.length + 1 ∧ 1 ≤ R.2.2.1 ∧ R.2.2.1 ≤ sub.length + 1 ∧ 1 ≤ R.2.2.2 ∧ R.2.2.2 ≤ sub.length + 1 := by
  have hp : ∀ pat : List UInt8, patS sub fr pat = R → R.1 = fr ∧ fr ≤ R.2.1 ∧ R.2.1 ≤ sub.length + 1 ∧ 1 ≤ R.2.2.1 ∧ R.2.2.1 ≤ sub.length + 1 ∧ 1 ≤ R.2.2.2 ∧ R.2.2.2 ≤ sub.length + 1 := by
    intro pat e
    subst e
    have := plc_in (pat := pat) h2
    unfold patS
    dsimp only
    omega
  have hq : ∀ x : Int32, plS sub fr x = R → R.1 = fr ∧ fr ≤ R.2.1 ∧ R.2.1 ≤ sub.length + 1 ∧ 1 ≤ R.2.2.1 ∧ R.2.2.1 ≤ sub.length + 1 ∧ 1 ≤ R.2.2.2 ∧ R.2.2.2 ≤ sub.length + 1 := by
    intro x e
    subst e
    have := keepIn_in (e := sub.length + 1) (by omega) x
    unfold plS
    dsimp only
    split <;> omega
  have hz : (fr, sub.length + 1, bg, fr) = R → R.1 = fr ∧ fr ≤ R.2.1 ∧ R.2.1 ≤ sub.length + 1 ∧ 1 ≤ R.2.2.1 ∧ R.2.2.1 ≤ sub.length + 1 ∧ 1 ≤ R.2.2.2 ∧ R.2.2.2 ≤ sub.length + 1 := by
    intro e
    subst e
    dsimp only
    omega
  cases o with
  | none => exact hz (Option.some.inj h)
  | some e =>
    unfold cutS at h
    dsimp only at h
    split at h
    · exact hp _ (Option.some.inj h)
    · split at h
      · split at h
        · exact hp _ (Option.some.inj h)
        · cases h
      · split at h
        · exact hq _ (Option.some.inj h)
        · split at h
          · exact hq _ (Option.some.inj h)
          · split at h
            · exact hq _ (Option.some.inj h)
            · exact hz (Option.some.inj h)
theorem gI_filter {es : List xEn} {P : xEn → Bool} (h : gI es) : gI (es.filter P) := fun e he => h e (List.mem_filter.mp he).1
theorem gI_clE {es : List xEn} {p : Nat} {nm : List UInt8} (h : gI es) : gI (clE es p nm) := by
  unfold clE
  split
  · exact gI_filter h
  · exact h
theorem gI_putE {es es2 : List xEn} {p : Nat} {nm : List UInt8} {vo : Option (List UInt8)} (h : gI es) (hv : vo = none → isCo nm = true) (e : putE es p nm vo = some es2) : gI es2 := by
  unfold putE at e
  split at e
  · cases e
    intro x hx hn
    rcases List.mem_or_eq_of_mem_set hx with q | q
    · exact h x q hn
    · rw [q] at hn ⊢
      exact hv hn
  · split at e
    · cases e
      intro x hx hn
      rcases List.mem_append.mp hx with q | q
      · exact h x q hn
      · rw [List.mem_singleton.mp q] at hn ⊢
        exact hv hn
    · cases e
theorem gI_givE {es : List xEn} {se : List xSe} {ip : Nat} {nm v : List UInt8} (h : gI es) : gI (givE es se ip nm v).2 := by
  unfold givE
  split
  · rename_i es2 e
    exact gI_putE (gI_clE h) (fun q => by cases q) e
  · exact gI_clE h
theorem gI_hd1 {es : List xEn} {se : List xSe} {ip : Nat} {t sub : List UInt8} {s e : Nat} {k : xTk} (h : gI es) : gI (hd1 es se ip t sub s e k).2 := by
  unfold hd1
  split
  · split
    · exact gI_givE h
    · exact h
  · exact h
theorem gI_hndL {se : List xSe} {ip : Nat} {t sub : List UInt8} {pt : Nat} : ∀ (r : List xTk) (pf : Nat) (es : List xEn), gI es → gI (hndL se ip t sub pt r pf es).2
  | [], _, _, h => h
  | k :: r, pf, es, h => by
    unfold hndL
    split
    · exact gI_hndL r _ _ (gI_hd1 h)
    · exact gI_hd1 h
