/-! the room by what it says: tape, out, entries, pools, seen names, subject, FROM, BEGAN -/
abbrev xS : Type := List UInt8 × List UInt8 × List xEn × Nat × List xSe × List UInt8 × Nat × Nat
def CW (M : xH) (B : Nat) (S : xS) : Prop := match S with
  | (t, out, es, dp, se, sub, fr, bg) => (∃ f g L, NW M B f g L es dp se) ∧ ∃ tk tg pos ans pf pt, XW M B t tk tg pos ans out sub fr bg pf pt
def Inv (S : xS) : Prop := match S with
  | (t, out, es, dp, se, sub, fr, bg) => gI es ∧ (∀ s ∈ se, 1 ≤ s.1 ∧ s.1 < dp) ∧ se.length ≤ 12 * (dp - 1) ∧ 1 ≤ dp ∧ dp ≤ 8 ∧ fr ≤ 300 ∧ bg ≤ 300
def sFeed (a b c d e : Int32) (S : xS) : Int32 × xS := match S with
  | (t, r) => if t.length + 20 ≤ 600 then (nI (t.length + 20), (t ++ w4 a ++ w4 b ++ w4 c ++ w4 d ++ w4 e, r)) else (-4, S)
def sEnd (n : Int32) (S : xS) : Int32 × xS := match S with
  | (t, r) => if n < 0 ∨ nI t.length < n then (-1, S) else (n, (t.take n.toNatClampNeg, r))
def sOut (i : Int32) (S : xS) : Int32 × xS := (oI (rAt S.2.1 i), S)
def sClose (S : xS) : Int32 × xS := match S with
  | (t, out, es, dp, se, r) => if dp ≤ 1 then (-3, S) else (nI (dp - 1), (t, out, es.filter (fun e => !(e.1 == dp - 1)), dp - 1, se.take (se.length - cnt se (dp - 1)), r))
def sSubject (cp : Bool) (S : xS) : Int32 × xS := match S with
  | (t, out, es, dp, se, sub, r) => if t.length ≤ 200 then (nI t.length, ([], out, es, dp, se, if cp then t.map cap else t, r)) else (-4, ([], out, es, dp, se, sub, r))
def sName (i : Int32) (S : xS) : Int32 × xS := match S with
  | (t, out, es, r) => match rIx es.length i with
    | none => (-1, S)
    | some j => match es[j]? with
      | none => (-1, S)
      | some e => (nI e.1, (t, e.2.1, es, r))
def sValue (i : Int32) (S : xS) : Int32 × xS := match S with
  | (t, out, es, r) => match rIx es.length i with
    | none => (-1, S)
    | some j => match es[j]? with
      | none => (-1, S)
      | some e => match e.2.2 with
        | none => (-3, S)
        | some v => (nI v.length, (t, v, es, r))
def sCount (w : Int32) (S : xS) : Int32 × xS := match S with
  | (t, out, es, dp, se, sub, fr, bg) => (if w = nI 0 then nI es.length else if w = nI 1 then nI dp else if w = nI 2 then nI (cnt se (dp - 1)) else if w = nI 3 then nI sub.length else if w = nI 4 then nI out.length else if w = nI 5 then nI fr else if w = nI 6 then nI bg else -1, S)
theorem NW.tape {M M' : xH} {B : Nat} {full : List UInt8} {g : Nat → Nat} {L : Nat → xEn × Bool} {es : List xEn} {dp : Nat} {se : List xSe} (h : NW M B full g L es dp se) (hf : FrR M M' (B + 1 + 1) (B + 4)) : NW M' B full g L es dp se := h.kept (fun q hq => hf q (by omega))
theorem XW.out {M M' : xH} {B : Nat} {t : List UInt8} {tk : List xTk} {tg pos : Nat} {ans : Option Nat} {out out' sub : List UInt8} {fr bg pf pt : Nat} (h : XW M B t tk tg pos ans out sub fr bg pf pt) (hf : Fr2 M M' (B + 7)) (hx : RowAt M' (B + 7) 200 out') : XW M' B t tk tg pos ans out' sub fr bg pf pt := by
  obtain ⟨h1, -, ⟨x, h3⟩, sf, st, h4⟩ := h
  exact ⟨h1.kept (fun q a b => hf q (by omega) (by omega)), hx, ⟨x, h3.kept (hf _ (by omega) (by omega)) (hf _ (by omega) (by omega))⟩, sf, st, h4.kept (fun q a b => hf q (by omega) (by omega))⟩
theorem NW.out {M M' : xH} {B : Nat} {full : List UInt8} {g : Nat → Nat} {L : Nat → xEn × Bool} {es : List xEn} {dp : Nat} {se : List xSe} (h : NW M B full g L es dp se) (hf : Fr2 M M' (B + 7)) : NW M' B full g L es dp se := h.kept (fun q hq => hf q (by omega) (by omega))
set_option maxHeartbeats 4000000 in
set_option maxRecDepth 100000 in
theorem a_feed (d : Nat) {M : xH} {sz B : Nat} {S : xS} (a b c e f : Int32) (h : CW M B S) : xC (d + 2) 0 0 Y_Nam_feed [.ref B, .int a, .int b, .int c, .int e, .int f] M sz (qi sz (fun y M' => y = (sFeed a b c e f S).1 ∧ CW M' B (sFeed a b c e f S).2 ∧ FrB M M' B)) := by
  obtain ⟨t, out, es, dp, se, sub, fr, bg⟩ := S
  refine xC_of (by decide) (Nat.le_of_ble_eq_true rfl) (by simp [Value.category]) (vs := [some (.ref B), some (.int a), some (.int b), some (.int c), some (.int e), some (.int f)]) rfl (fun K hX hE => ?_)
  obtain ⟨⟨full, g, L, nw⟩, tk, tg, pos, ans, pf, pt, xw⟩ := id h
  obtain ⟨n1, -⟩ := id nw
  obtain ⟨hr, -⟩ := id xw
  obtain ⟨q1, q2, -⟩ := id hr
  obtain ⟨r1, r2, -⟩ := id q2
  refine xp_aload_0 (pc := 0) hX d_Nam_feed_0 ?_
  refine xg_get (pc := 1) hX (j := 0) k_Nam d_Nam_feed_1 l_Nam_20 (by decide) (by first | assumption | exact xup_s _ _ _ | exact xup_o (by omega) (by assumption) | exact xup_o (by omega) (xup_s _ _ _) | exact xup_o (by omega) (xup_o (by omega) (by assumption)) | exact xup_o (by omega) (xup_o (by omega) (xup_s _ _ _)) | exact xup_o (by omega) (xup_o (by omega) (xup_o (by omega) (by assumption)))) (by rfl) ?_
  refine xg_get (pc := 4) hX (j := 1) k_Row d_Nam_feed_4 l_Nam_64 (by decide) (by first | assumption | exact xup_s _ _ _ | exact xup_o (by omega) (by assumption) | exact xup_o (by omega) (xup_s _ _ _) | exact xup_o (by omega) (xup_o (by omega) (by assumption)) | exact xup_o (by omega) (xup_o (by omega) (xup_s _ _ _)) | exact xup_o (by omega) (xup_o (by omega) (xup_o (by omega) (by assumption)))) (by rfl) ?_
  refine xg_bipush (pc := 7) hX (nI 20) d_Nam_feed_7 ci_bipush_20 ?_
  first | refine xn_iadd (pc := 9) hX d_Nam_feed_9 ?_ | refine xg_iadd (pc := 9) hX d_Nam_feed_9 ?_
  refine xg_sipush (pc := 10) hX (nI 600) d_Nam_feed_10 ci_sipush_600 ?_
  refine xn_icmp_le (pc := 13) hX 19 d_Nam_feed_13 (by decide) (by omega) (by omega) (fun z => ?_) (fun z => ?_)
  · have hS : sFeed a b c e f (t, out, es, dp, se, sub, fr, bg) = (nI (t.length + 20), (t ++ w4 a ++ w4 b ++ w4 c ++ w4 e ++ w4 f, out, es, dp, se, sub, fr, bg)) := by
      unfold sFeed
      dsimp only
      rw [if_pos z]
    rw [hS] at hE
    have l4 : ∀ x : Int32, (w4 x).length = 4 := fun _ => rfl
    refine xp_aload_0 (pc := 19) hX d_Nam_feed_19 ?_
    refine xg_get (pc := 20) hX (j := 0) k_Nam d_Nam_feed_20 l_Nam_20 (by decide) (by first | assumption | exact xup_s _ _ _ | exact xup_o (by omega) (by assumption) | exact xup_o (by omega) (xup_s _ _ _) | exact xup_o (by omega) (xup_o (by omega) (by assumption)) | exact xup_o (by omega) (xup_o (by omega) (xup_s _ _ _)) | exact xup_o (by omega) (xup_o (by omega) (xup_o (by omega) (by assumption)))) (by rfl) ?_
    refine xp_iload_1 (pc := 23) hX d_Nam_feed_23 ?_
    refine xv_V (Y2 := Y_Row_addInt) (pc := 24) hX [_] k_Row m_Row_addInt d_Nam_feed_24 l_Nam_68 rfl rfl (by simp [Value.category]) (by first | assumption | exact xup_s _ _ _ | exact xup_o (by omega) (by assumption) | exact xup_o (by omega) (xup_s _ _ _) | exact xup_o (by omega) (xup_o (by omega) (by assumption)) | exact xup_o (by omega) (xup_o (by omega) (xup_s _ _ _)) | exact xup_o (by omega) (xup_o (by omega) (xup_o (by omega) (by assumption)))) (c_Row_addInt d a q2 (by omega) (by omega)) (by omega) (by omega) ?_
    rintro M1 ⟨a1, a2⟩
    have g1 := (a2 B (by omega) (by omega)).trans n1
    obtain ⟨r1, -⟩ := id a1
    refine xp_aload_0 (pc := 27) hX d_Nam_feed_27 ?_
    refine xg_get (pc := 28) hX (j := 0) k_Nam d_Nam_feed_28 l_Nam_20 (by decide) (by first | assumption | exact xup_s _ _ _ | exact xup_o (by omega) (by assumption) | exact xup_o (by omega) (xup_s _ _ _) | exact xup_o (by omega) (xup_o (by omega) (by assumption)) | exact xup_o (by omega) (xup_o (by omega) (xup_s _ _ _)) | exact xup_o (by omega) (xup_o (by omega) (xup_o (by omega) (by assumption)))) (by rfl) ?_
    refine xp_iload_2 (pc := 31) hX d_Nam_feed_31 ?_
    refine xv_V (Y2 := Y_Row_addInt) (pc := 32) hX [_] k_Row m_Row_addInt d_Nam_feed_32 l_Nam_68 rfl rfl (by simp [Value.category]) (by first | assumption | exact xup_s _ _ _ | exact xup_o (by omega) (by assumption) | exact xup_o (by omega) (xup_s _ _ _) | exact xup_o (by omega) (xup_o (by omega) (by assumption)) | exact xup_o (by omega) (xup_o (by omega) (xup_s _ _ _)) | exact xup_o (by omega) (xup_o (by omega) (xup_o (by omega) (by assumption)))) (c_Row_addInt d b a1 (by simp [l4]; omega) (by omega)) (by omega) (by omega) ?_
    rintro M2 ⟨b1, b2⟩
    have g2 := (b2 B (by omega) (by omega)).trans g1
    obtain ⟨r1, -⟩ := id b1
    refine xp_aload_0 (pc := 35) hX d_Nam_feed_35 ?_
    refine xg_get (pc := 36) hX (j := 0) k_Nam d_Nam_feed_36 l_Nam_20 (by decide) (by first | assumption | exact xup_s _ _ _ | exact xup_o (by omega) (by assumption) | exact xup_o (by omega) (xup_s _ _ _) | exact xup_o (by omega) (xup_o (by omega) (by assumption)) | exact xup_o (by omega) (xup_o (by omega) (xup_s _ _ _)) | exact xup_o (by omega) (xup_o (by omega) (xup_o (by omega) (by assumption)))) (by rfl) ?_
    refine xp_iload_3 (pc := 39) hX d_Nam_feed_39 ?_
    refine xv_V (Y2 := Y_Row_addInt) (pc := 40) hX [_] k_Row m_Row_addInt d_Nam_feed_40 l_Nam_68 rfl rfl (by simp [Value.category]) (by first | assumption | exact xup_s _ _ _ | exact xup_o (by omega) (by assumption) | exact xup_o (by omega) (xup_s _ _ _) | exact xup_o (by omega) (xup_o (by omega) (by assumption)) | exact xup_o (by omega) (xup_o (by omega) (xup_s _ _ _)) | exact xup_o (by omega) (xup_o (by omega) (xup_o (by omega) (by assumption)))) (c_Row_addInt d c b1 (by simp [l4]; omega) (by omega)) (by omega) (by omega) ?_
    rintro M3 ⟨c1, c2⟩
    have g3 := (c2 B (by omega) (by omega)).trans g2
    obtain ⟨r1, -⟩ := id c1
    refine xp_aload_0 (pc := 43) hX d_Nam_feed_43 ?_
    refine xg_get (pc := 44) hX (j := 0) k_Nam d_Nam_feed_44 l_Nam_20 (by decide) (by first | assumption | exact xup_s _ _ _ | exact xup_o (by omega) (by assumption) | exact xup_o (by omega) (xup_s _ _ _) | exact xup_o (by omega) (xup_o (by omega) (by assumption)) | exact xup_o (by omega) (xup_o (by omega) (xup_s _ _ _)) | exact xup_o (by omega) (xup_o (by omega) (xup_o (by omega) (by assumption)))) (by rfl) ?_
    refine xp_iload_4 (pc := 47) hX d_Nam_feed_47 ?_
    refine xv_V (Y2 := Y_Row_addInt) (pc := 49) hX [_] k_Row m_Row_addInt d_Nam_feed_49 l_Nam_68 rfl rfl (by simp [Value.category]) (by first | assumption | exact xup_s _ _ _ | exact xup_o (by omega) (by assumption) | exact xup_o (by omega) (xup_s _ _ _) | exact xup_o (by omega) (xup_o (by omega) (by assumption)) | exact xup_o (by omega) (xup_o (by omega) (xup_s _ _ _)) | exact xup_o (by omega) (xup_o (by omega) (xup_o (by omega) (by assumption)))) (c_Row_addInt d e c1 (by simp [l4]; omega) (by omega)) (by omega) (by omega) ?_
    rintro M4 ⟨d1, d2⟩
    have g4 := (d2 B (by omega) (by omega)).trans g3
    obtain ⟨r1, -⟩ := id d1
    refine xp_aload_0 (pc := 52) hX d_Nam_feed_52 ?_
    refine xg_get (pc := 53) hX (j := 0) k_Nam d_Nam_feed_53 l_Nam_20 (by decide) (by first | assumption | exact xup_s _ _ _ | exact xup_o (by omega) (by assumption) | exact xup_o (by omega) (xup_s _ _ _) | exact xup_o (by omega) (xup_o (by omega) (by assumption)) | exact xup_o (by omega) (xup_o (by omega) (xup_s _ _ _)) | exact xup_o (by omega) (xup_o (by omega) (xup_o (by omega) (by assumption)))) (by rfl) ?_
    refine xp_iload_5 (pc := 56) hX d_Nam_feed_56 ?_
    refine xv_V (Y2 := Y_Row_addInt) (pc := 58) hX [_] k_Row m_Row_addInt d_Nam_feed_58 l_Nam_68 rfl rfl (by simp [Value.category]) (by first | assumption | exact xup_s _ _ _ | exact xup_o (by omega) (by assumption) | exact xup_o (by omega) (xup_s _ _ _) | exact xup_o (by omega) (xup_o (by omega) (by assumption)) | exact xup_o (by omega) (xup_o (by omega) (xup_s _ _ _)) | exact xup_o (by omega) (xup_o (by omega) (xup_o (by omega) (by assumption)))) (c_Row_addInt d f d1 (by simp [l4]; omega) (by omega)) (by omega) (by omega) ?_
    rintro M5 ⟨e1, e2⟩
    have g5 := (e2 B (by omega) (by omega)).trans g4
    obtain ⟨r1, -⟩ := id e1
    have fa : Fr2 M M5 (B + 1 + 1) := (((a2.tr b2).tr c2).tr d2).tr e2
    refine xp_aload_0 (pc := 61) hX d_Nam_feed_61 ?_
    refine xg_get (pc := 62) hX (j := 0) k_Nam d_Nam_feed_62 l_Nam_20 (by decide) (by first | assumption | exact xup_s _ _ _ | exact xup_o (by omega) (by assumption) | exact xup_o (by omega) (xup_s _ _ _) | exact xup_o (by omega) (xup_o (by omega) (by assumption)) | exact xup_o (by omega) (xup_o (by omega) (xup_s _ _ _)) | exact xup_o (by omega) (xup_o (by omega) (xup_o (by omega) (by assumption)))) (by rfl) ?_
    refine xg_get (pc := 65) hX (j := 1) k_Row d_Nam_feed_65 l_Nam_64 (by decide) (by first | assumption | exact xup_s _ _ _ | exact xup_o (by omega) (by assumption) | exact xup_o (by omega) (xup_s _ _ _) | exact xup_o (by omega) (xup_o (by omega) (by assumption)) | exact xup_o (by omega) (xup_o (by omega) (xup_s _ _ _)) | exact xup_o (by omega) (xup_o (by omega) (xup_o (by omega) (by assumption)))) (by rfl) ?_
    refine xg_iret (pc := 68) hX hE d_Nam_feed_68 rfl rfl (by omega) (by omega) ?_
    refine ⟨rfl, _, rfl, ?_, ⟨⟨_, _, _, nw.txt fa⟩, _, _, _, _, _, _, xw.txt fa e1⟩, FrB.r2 fa (by omega) (by omega)⟩
    congr 1
    simp [l4]
  · have hS : sFeed a b c e f (t, out, es, dp, se, sub, fr, bg) = (-4, (t, out, es, dp, se, sub, fr, bg)) := by
      unfold sFeed
      dsimp only
      rw [if_neg (by omega)]
    rw [hS] at hE
    refine xg_bipush (pc := 16) hX (-4) d_Nam_feed_16 ci_bipush_m4 ?_
    refine xg_iret (pc := 18) hX hE d_Nam_feed_18 rfl rfl (by omega) (by omega) ?_
    exact ⟨rfl, _, rfl, rfl, h, FrB.rf _ _⟩
theorem RowAt.cut {M : xH} {r w n : Nat} {bs : List UInt8} (h : RowAt M r w bs) (hn : n ≤ bs.length) : RowAt (xup M r (.inr (0, [.ref (r + 1), .int (nI n)]))) r w (bs.take n) := by
  obtain ⟨h1, h2, f, h3, h4⟩ := h
  refine ⟨by rw [xup_s, List.length_take, Nat.min_eq_left hn], by rw [List.length_take]; omega, f, xup_o (by omega) h3, fun j b hj => h4 j b ?_⟩
  have := (List.getElem?_eq_some_iff.mp hj).1
  rw [List.length_take] at this
  rw [List.getElem?_take_of_lt (by omega)] at hj
  exact hj
set_option maxHeartbeats 4000000 in
set_option maxRecDepth 100000 in
theorem a_end (d : Nat) {M : xH} {sz B : Nat} {S : xS} (x : Int32) (h : CW M B S) : xC d 0 0 Y_Nam_end [.ref B, .int x] M sz (qi sz (fun y M' => y = (sEnd x S).1 ∧ CW M' B (sEnd x S).2 ∧ FrB M M' B)) := by
  obtain ⟨t, out, es, dp, se, sub, fr, bg⟩ := S
  refine xC_of (by decide) (Nat.le_of_ble_eq_true rfl) (by simp [Value.category]) (vs := [some (.ref B), some (.int x)]) rfl (fun K hX hE => ?_)
  obtain ⟨⟨full, g, L, nw⟩, tk, tg, pos, ans, pf, pt, xw⟩ := id h
  obtain ⟨n1, -⟩ := id nw
  obtain ⟨hr, -⟩ := id xw
  obtain ⟨q1, q2, -⟩ := id hr
  obtain ⟨r1, r2, -⟩ := id q2
  have k15 : (x < 0 ∨ nI t.length < x) → xG K 15 [some (.ref B), some (.int x)] [] M sz 0 0 := by
    intro hb
    have hS : sEnd x (t, out, es, dp, se, sub, fr, bg) = (-1, (t, out, es, dp, se, sub, fr, bg)) := by
      unfold sEnd
      dsimp only
      rw [if_pos hb]
    rw [hS] at hE
    refine xg_iconst (pc := 15) hX (-1) d_Nam_end_15 ci_iconst_m1 ?_
    refine xg_iret (pc := 16) hX hE d_Nam_end_16 rfl rfl (by omega) (by omega) ?_
    exact ⟨rfl, _, rfl, rfl, h, FrB.rf _ _⟩
  refine xp_iload_1 (pc := 0) hX d_Nam_end_0 ?_
  refine xg_if_lt (pc := 1) hX 15 d_Nam_end_1 (by decide) (fun z => k15 (Or.inl z)) (fun z => ?_)
  obtain ⟨n, hn, rfl⟩ := nI_of z
  have hn : n < 2147483648 := hn
  refine xp_iload_1 (pc := 4) hX d_Nam_end_4 ?_
  refine xp_aload_0 (pc := 5) hX d_Nam_end_5 ?_
  refine xg_get (pc := 6) hX (j := 0) k_Nam d_Nam_end_6 l_Nam_20 (by decide) (by first | assumption | exact xup_s _ _ _ | exact xup_o (by omega) (by assumption) | exact xup_o (by omega) (xup_s _ _ _) | exact xup_o (by omega) (xup_o (by omega) (by assumption)) | exact xup_o (by omega) (xup_o (by omega) (xup_s _ _ _)) | exact xup_o (by omega) (xup_o (by omega) (xup_o (by omega) (by assumption)))) (by rfl) ?_
  refine xg_get (pc := 9) hX (j := 1) k_Row d_Nam_end_9 l_Nam_64 (by decide) (by first | assumption | exact xup_s _ _ _ | exact xup_o (by omega) (by assumption) | exact xup_o (by omega) (xup_s _ _ _) | exact xup_o (by omega) (xup_o (by omega) (by assumption)) | exact xup_o (by omega) (xup_o (by omega) (xup_s _ _ _)) | exact xup_o (by omega) (xup_o (by omega) (xup_o (by omega) (by assumption)))) (by rfl) ?_
  refine xn_icmp_le (pc := 12) hX 17 d_Nam_end_12 (by decide) (by omega) (by omega) (fun z1 => ?_) (fun z1 => ?_)
  · have hS : sEnd (nI n) (t, out, es, dp, se, sub, fr, bg) = (nI n, (t.take n, out, es, dp, se, sub, fr, bg)) := by
      unfold sEnd
      dsimp only
      rw [if_neg (by
        rintro (q | q)
        · exact z q
        · have := (nI_ltI (by omega) (by omega)).mp q
          omega), nI_clamp hn]
    rw [hS] at hE
    refine xp_aload_0 (pc := 17) hX d_Nam_end_17 ?_
    refine xg_get (pc := 18) hX (j := 0) k_Nam d_Nam_end_18 l_Nam_20 (by decide) (by first | assumption | exact xup_s _ _ _ | exact xup_o (by omega) (by assumption) | exact xup_o (by omega) (xup_s _ _ _) | exact xup_o (by omega) (xup_o (by omega) (by assumption)) | exact xup_o (by omega) (xup_o (by omega) (xup_s _ _ _)) | exact xup_o (by omega) (xup_o (by omega) (xup_o (by omega) (by assumption)))) (by rfl) ?_
    refine xp_iload_1 (pc := 21) hX d_Nam_end_21 ?_
    refine xg_put (pc := 22) hX (j := 1) k_Row d_Nam_end_22 l_Nam_64 (by decide) rfl (by first | assumption | exact xup_s _ _ _ | exact xup_o (by omega) (by assumption) | exact xup_o (by omega) (xup_s _ _ _) | exact xup_o (by omega) (xup_o (by omega) (by assumption)) | exact xup_o (by omega) (xup_o (by omega) (xup_s _ _ _)) | exact xup_o (by omega) (xup_o (by omega) (xup_o (by omega) (by assumption)))) (Nat.le_of_ble_eq_true rfl) rfl rfl (by simp only [List.set_cons_zero, List.set_cons_succ]; exact rfl) ?_
    refine xp_iload_1 (pc := 25) hX d_Nam_end_25 ?_
    refine xg_iret (pc := 26) hX hE d_Nam_end_26 rfl rfl (by omega) (by omega) ?_
    have fa : Fr2 M (xup M (B + 1 + 1) (.inr (0, [.ref (B + 1 + 1 + 1), .int (nI n)]))) (B + 1 + 1) := fun q a _ => xup_n _ _ a
    exact ⟨rfl, _, rfl, rfl, ⟨⟨_, _, _, nw.txt fa⟩, _, _, _, _, _, _, xw.txt fa (q2.cut z1)⟩, FrB.r2 fa (by omega) (by omega)⟩
  · exact k15 (Or.inr ((nI_ltI (by omega) (by omega)).mpr z1))
set_option maxHeartbeats 4000000 in
set_option maxRecDepth 100000 in
theorem a_out (d : Nat) {M : xH} {sz B : Nat} {S : xS} (x : Int32) (h : CW M B S) : xC (d + 1) 0 0 Y_Nam_out [.ref B, .int x] M sz (qi sz (fun y M' => y = (sOut x S).1 ∧ CW M' B (sOut x S).2 ∧ FrB M M' B)) := by
  obtain ⟨t, out, es, dp, se, sub, fr, bg⟩ := S
  refine xC_of (by decide) (Nat.le_of_ble_eq_true rfl) (by simp [Value.category]) (vs := [some (.ref B), some (.int x)]) rfl (fun K hX hE => ?_)
  obtain ⟨⟨full, g, L, nw⟩, tk, tg, pos, ans, pf, pt, xw⟩ := id h
  obtain ⟨n1, -⟩ := id nw
  obtain ⟨-, x2, -⟩ := id xw
  obtain ⟨r1, -⟩ := id x2
  refine xp_aload_0 (pc := 0) hX d_Nam_out_0 ?_
  refine xg_get (pc := 1) hX (j := 1) k_Nam d_Nam_out_1 l_Nam_28 (by decide) (by first | assumption | exact xup_s _ _ _ | exact xup_o (by omega) (by assumption) | exact xup_o (by omega) (xup_s _ _ _) | exact xup_o (by omega) (xup_o (by omega) (by assumption)) | exact xup_o (by omega) (xup_o (by omega) (xup_s _ _ _)) | exact xup_o (by omega) (xup_o (by omega) (xup_o (by omega) (by assumption)))) (by rfl) ?_
  refine xp_iload_1 (pc := 4) hX d_Nam_out_4 ?_
  refine xi_V (Y2 := Y_Row_at) (pc := 5) hX [_] k_Row m_Row_at d_Nam_out_5 l_Nam_71 rfl rfl (by simp [Value.category]) (by first | assumption | exact xup_s _ _ _ | exact xup_o (by omega) (by assumption) | exact xup_o (by omega) (xup_s _ _ _) | exact xup_o (by omega) (xup_o (by omega) (by assumption)) | exact xup_o (by omega) (xup_o (by omega) (xup_s _ _ _)) | exact xup_o (by omega) (xup_o (by omega) (xup_o (by omega) (by assumption)))) (c_Row_at d x x2 (by omega)) (by omega) (by omega) ?_
  rintro y M1 ⟨rfl, rfl⟩
  refine xg_iret (pc := 8) hX hE d_Nam_out_8 rfl rfl (by omega) (by omega) ?_
  exact ⟨rfl, _, rfl, rfl, h, FrB.rf _ _⟩
set_option maxHeartbeats 4000000 in
set_option maxRecDepth 100000 in
theorem a_close (d : Nat) {M : xH} {sz B : Nat} {S : xS} (h : CW M B S) (hI : Inv S) : xC (d + 3) 0 0 Y_Nam_close [.ref B] M sz (qi sz (fun y M' => y = (sClose S).1 ∧ CW M' B (sClose S).2 ∧ FrB M M' B)) := by
  obtain ⟨t, out, es, dp, se, sub, fr, bg⟩ := S
  refine xC_of (by decide) (Nat.le_of_ble_eq_true rfl) (by simp [Value.category]) (vs := [some (.ref B)]) rfl (fun K hX hE => ?_)
  obtain ⟨⟨full, g, L, nw⟩, tk, tg, pos, ans, pf, pt, xw⟩ := id h
  obtain ⟨n1, -, -, -, n5, n6, n7, n8, n9⟩ := id nw
  obtain ⟨Sx, ⟨n6', -⟩, -⟩ := id n6
  obtain ⟨⟨n5', -⟩, -⟩ := id n5
  refine xp_aload_0 (pc := 0) hX d_Nam_close_0 ?_
  refine xg_get (pc := 1) hX (j := 8) k_Nam d_Nam_close_1 l_Nam_53 (by decide) (by first | assumption | exact xup_s _ _ _ | exact xup_o (by omega) (by assumption) | exact xup_o (by omega) (xup_s _ _ _) | exact xup_o (by omega) (xup_o (by omega) (by assumption)) | exact xup_o (by omega) (xup_o (by omega) (xup_s _ _ _)) | exact xup_o (by omega) (xup_o (by omega) (xup_o (by omega) (by assumption)))) (by rfl) ?_
  refine xg_get (pc := 4) hX (j := 2) k_Poo d_Nam_close_4 l_Nam_122 (by decide) (by first | assumption | exact xup_s _ _ _ | exact xup_o (by omega) (by assumption) | exact xup_o (by omega) (xup_s _ _ _) | exact xup_o (by omega) (xup_o (by omega) (by assumption)) | exact xup_o (by omega) (xup_o (by omega) (xup_s _ _ _)) | exact xup_o (by omega) (xup_o (by omega) (xup_o (by omega) (by assumption)))) (by rfl) ?_
  refine xg_iconst (pc := 7) hX (nI 1) d_Nam_close_7 ci_iconst_1 ?_
  refine xn_icmp_gt (pc := 8) hX 14 d_Nam_close_8 (by decide) (by omega) (by omega) (fun z => ?_) (fun z => ?_)
  · have hS : sClose (t, out, es, dp, se, sub, fr, bg) = (nI (dp - 1), (t, out, es.filter (fun e => !(e.1 == dp - 1)), dp - 1, se.take (se.length - cnt se (dp - 1)), sub, fr, bg)) := by
      unfold sClose
      dsimp only
      rw [if_neg (by omega)]
    rw [hS] at hE
    refine xp_aload_0 (pc := 14) hX d_Nam_close_14 ?_
    refine xg_get (pc := 15) hX (j := 7) k_Nam d_Nam_close_15 l_Nam_46 (by decide) (by first | assumption | exact xup_s _ _ _ | exact xup_o (by omega) (by assumption) | exact xup_o (by omega) (xup_s _ _ _) | exact xup_o (by omega) (xup_o (by omega) (by assumption)) | exact xup_o (by omega) (xup_o (by omega) (xup_s _ _ _)) | exact xup_o (by omega) (xup_o (by omega) (xup_o (by omega) (by assumption)))) (by rfl) ?_
    refine xp_aload_0 (pc := 18) hX d_Nam_close_18 ?_
    refine xg_get (pc := 19) hX (j := 8) k_Nam d_Nam_close_19 l_Nam_53 (by decide) (by first | assumption | exact xup_s _ _ _ | exact xup_o (by omega) (by assumption) | exact xup_o (by omega) (xup_s _ _ _) | exact xup_o (by omega) (xup_o (by omega) (by assumption)) | exact xup_o (by omega) (xup_o (by omega) (xup_s _ _ _)) | exact xup_o (by omega) (xup_o (by omega) (xup_o (by omega) (by assumption)))) (by rfl) ?_
    refine xi_V (Y2 := Y_Poo_innermost) (pc := 22) hX [] k_Poo m_Poo_innermost d_Nam_close_22 l_Nam_128 rfl rfl (by simp [Value.category]) (by first | assumption | exact xup_s _ _ _ | exact xup_o (by omega) (by assumption) | exact xup_o (by omega) (xup_s _ _ _) | exact xup_o (by omega) (xup_o (by omega) (by assumption)) | exact xup_o (by omega) (xup_o (by omega) (xup_s _ _ _)) | exact xup_o (by omega) (xup_o (by omega) (xup_o (by omega) (by assumption)))) (c_Poo_innermost (d + 2) n6) (by omega) (by omega) ?_
    rintro y M1 ⟨rfl, rfl⟩
    refine xv_V (Y2 := Y_She_clearPool) (pc := 25) hX [_] k_She m_She_clearPool d_Nam_close_25 l_Nam_131 rfl rfl (by simp [Value.category]) (by first | assumption | exact xup_s _ _ _ | exact xup_o (by omega) (by assumption) | exact xup_o (by omega) (xup_s _ _ _) | exact xup_o (by omega) (xup_o (by omega) (by assumption)) | exact xup_o (by omega) (xup_o (by omega) (xup_s _ _ _)) | exact xup_o (by omega) (xup_o (by omega) (xup_o (by omega) (by assumption)))) (c_She_clearPool (d + 1) n5 (by omega)) (by omega) (by omega) ?_
    rintro M2 ⟨⟨g', L', a1⟩, a2⟩
    have nw2 := nw.shelf a2 a1
    obtain ⟨p1, -, -, -, -, p6, -⟩ := id nw2
    obtain ⟨Sy, ⟨p6', -⟩, -⟩ := id p6
    refine xp_aload_0 (pc := 28) hX d_Nam_close_28 ?_
    refine xg_get (pc := 29) hX (j := 8) k_Nam d_Nam_close_29 l_Nam_53 (by decide) (by first | assumption | exact xup_s _ _ _ | exact xup_o (by omega) (by assumption) | exact xup_o (by omega) (xup_s _ _ _) | exact xup_o (by omega) (xup_o (by omega) (by assumption)) | exact xup_o (by omega) (xup_o (by omega) (xup_s _ _ _)) | exact xup_o (by omega) (xup_o (by omega) (xup_o (by omega) (by assumption)))) (by rfl) ?_
    refine xv_V (Y2 := Y_Poo_leave) (pc := 32) hX [] k_Poo m_Poo_leave d_Nam_close_32 l_Nam_134 rfl rfl (by simp [Value.category]) (by first | assumption | exact xup_s _ _ _ | exact xup_o (by omega) (by assumption) | exact xup_o (by omega) (xup_s _ _ _) | exact xup_o (by omega) (xup_o (by omega) (by assumption)) | exact xup_o (by omega) (xup_o (by omega) (xup_s _ _ _)) | exact xup_o (by omega) (xup_o (by omega) (xup_o (by omega) (by assumption)))) (c_Poo_leave d p6 (by omega)) (by omega) (by omega) ?_
    rintro M3 ⟨b1, b2⟩
    have b3 : FrR M2 M3 (B + 519) (B + 519 + 254) := fun q hq => b2 q (by omega)
    have nw3 := nw2.pools b3 b1 (fun s hs => n7 s (List.mem_of_mem_take hs)) (by omega)
    obtain ⟨p1, -⟩ := id nw3
    obtain ⟨Sz, ⟨b1', -⟩, -⟩ := id b1
    refine xp_aload_0 (pc := 35) hX d_Nam_close_35 ?_
    refine xg_get (pc := 36) hX (j := 8) k_Nam d_Nam_close_36 l_Nam_53 (by decide) (by first | assumption | exact xup_s _ _ _ | exact xup_o (by omega) (by assumption) | exact xup_o (by omega) (xup_s _ _ _) | exact xup_o (by omega) (xup_o (by omega) (by assumption)) | exact xup_o (by omega) (xup_o (by omega) (xup_s _ _ _)) | exact xup_o (by omega) (xup_o (by omega) (xup_o (by omega) (by assumption)))) (by rfl) ?_
    refine xg_get (pc := 39) hX (j := 2) k_Poo d_Nam_close_39 l_Nam_122 (by decide) (by first | assumption | exact xup_s _ _ _ | exact xup_o (by omega) (by assumption) | exact xup_o (by omega) (xup_s _ _ _) | exact xup_o (by omega) (xup_o (by omega) (by assumption)) | exact xup_o (by omega) (xup_o (by omega) (xup_s _ _ _)) | exact xup_o (by omega) (xup_o (by omega) (xup_o (by omega) (by assumption)))) (by rfl) ?_
    refine xg_iret (pc := 42) hX hE d_Nam_close_42 rfl rfl (by omega) (by omega) ?_
    have fn : FrN M1 M3 B := (FrN.rR a2 (by omega)).tr (FrN.rR b3 (by omega))
    exact ⟨rfl, _, rfl, rfl, ⟨⟨_, _, _, nw3⟩, _, _, _, _, _, _, xw.nn fn⟩, FrB.n fn⟩
  · have hS : sClose (t, out, es, dp, se, sub, fr, bg) = (-3, (t, out, es, dp, se, sub, fr, bg)) := by
      unfold sClose
      dsimp only
      rw [if_pos z]
    rw [hS] at hE
    refine xg_bipush (pc := 11) hX (-3) d_Nam_close_11 ci_bipush_m3 ?_
    refine xg_iret (pc := 13) hX hE d_Nam_close_13 rfl rfl (by omega) (by omega) ?_
    exact ⟨rfl, _, rfl, rfl, h, FrB.rf _ _⟩
theorem XW.sub {M M' : xH} {B : Nat} {t : List UInt8} {tk : List xTk} {tg pos : Nat} {ans : Option Nat} {out sub sub' : List UInt8} {fr bg pf pt sf' st' fr' bg' pf' pt' : Nat} (h : XW M B t tk tg pos ans out sub fr bg pf pt) (hf : FrR M M' (B + 773) (B + 773 + 3)) (hx : CuA M' (B + 773) sub' fr' bg' sf' st' pf' pt') : XW M' B t tk tg pos ans out sub' fr' bg' pf' pt' := by
  obtain ⟨h1, h2, ⟨x, h3⟩, -⟩ := h
  exact ⟨h1.kept (fun q a b => hf q (by omega)), h2.kept (hf _ (by omega)) (hf _ (by omega)), ⟨x, h3.kept (hf _ (by omega)) (hf _ (by omega))⟩, sf', st', hx⟩
set_option maxHeartbeats 4000000 in
set_option maxRecDepth 100000 in
theorem a_subject (d : Nat) {M : xH} {sz B : Nat} {S : xS} (cp : Bool) (h : CW M B S) : xC (d + 3) 0 0 Y_Nam_subject [.ref B, .int (bI cp)] M sz (qi sz (fun y M' => y = (sSubject cp S).1 ∧ CW M' B (sSubject cp S).2 ∧ FrB M M' B)) := by
  obtain ⟨t, out, es, dp, se, sub, fr, bg⟩ := S
  refine xC_of (by decide) (Nat.le_of_ble_eq_true rfl) (by simp [Value.category]) (vs := [some (.ref B), some (.int (bI cp)), none]) rfl (fun K hX hE => ?_)
  obtain ⟨⟨full, g, L, nw⟩, tk, tg, pos, ans, pf, pt, xw⟩ := id h
  obtain ⟨n1, -⟩ := id nw
  obtain ⟨hr, -, -, sf, st, hcu⟩ := id xw
  obtain ⟨q1, q2, -⟩ := id hr
  obtain ⟨r1, r2, -⟩ := id q2
  obtain ⟨c1, -⟩ := id hcu
  have fin : ∀ (M1 : xH) (sub' : List UInt8), NW M1 B full g L es dp se → XW M1 B t tk tg pos ans out sub' fr bg pf pt → FrB M M1 B → sSubject cp (t, out, es, dp, se, sub, fr, bg) = (if t.length ≤ 200 then nI t.length else -4, ([], out, es, dp, se, sub', fr, bg)) → xG K 27 [some (.ref B), some (.int (bI cp)), some (.int (nI t.length))] [] M1 sz 0 0 := by
    intro M1 sub' nw1 xw1 fb hS
    obtain ⟨n1, -⟩ := id nw1
    obtain ⟨hr, -⟩ := id xw1
    obtain ⟨q1, q2, -⟩ := id hr
    obtain ⟨r1, r2, -⟩ := id q2
    rw [hS] at hE
    refine xp_aload_0 (pc := 27) hX d_Nam_subject_27 ?_
    refine xg_get (pc := 28) hX (j := 0) k_Nam d_Nam_subject_28 l_Nam_20 (by decide) (by first | assumption | exact xup_s _ _ _ | exact xup_o (by omega) (by assumption) | exact xup_o (by omega) (xup_s _ _ _) | exact xup_o (by omega) (xup_o (by omega) (by assumption)) | exact xup_o (by omega) (xup_o (by omega) (xup_s _ _ _)) | exact xup_o (by omega) (xup_o (by omega) (xup_o (by omega) (by assumption)))) (by rfl) ?_
    refine xv_V (Y2 := Y_Row_clear) (pc := 31) hX [] k_Row m_Row_clear d_Nam_subject_31 l_Nam_89 rfl rfl (by simp [Value.category]) (by first | assumption | exact xup_s _ _ _ | exact xup_o (by omega) (by assumption) | exact xup_o (by omega) (xup_s _ _ _) | exact xup_o (by omega) (xup_o (by omega) (by assumption)) | exact xup_o (by omega) (xup_o (by omega) (xup_s _ _ _)) | exact xup_o (by omega) (xup_o (by omega) (xup_o (by omega) (by assumption)))) (c_Row_clear (d + 2) q2) (by omega) (by omega) ?_
    rintro M2 ⟨a1, a2⟩
    refine xp_iload_2 (pc := 34) hX d_Nam_subject_34 ?_
    refine xg_sipush (pc := 35) hX (nI 200) d_Nam_subject_35 ci_sipush_200 ?_
    refine xn_icmp_gt (pc := 38) hX 45 d_Nam_subject_38 (by decide) (by omega) (by omega) (fun z => ?_) (fun z => ?_)
    · refine xg_bipush (pc := 45) hX (-4) d_Nam_subject_45 ci_bipush_m4 ?_
      refine xg_iret (pc := 47) hX hE d_Nam_subject_47 rfl rfl (by omega) (by omega) ?_
      refine ⟨rfl, _, rfl, ?_, ⟨⟨_, _, _, nw1.txt a2⟩, _, _, _, _, _, _, xw1.txt a2 a1⟩, fb.tr (FrB.r2 a2 (by omega) (by omega))⟩
      dsimp only
      rw [if_neg (by omega)]
    · refine xp_iload_2 (pc := 41) hX d_Nam_subject_41 ?_
      refine xg_goto (pc := 42) hX 47 d_Nam_subject_42 (by decide) ?_
      refine xg_iret (pc := 47) hX hE d_Nam_subject_47 rfl rfl (by omega) (by omega) ?_
      refine ⟨rfl, _, rfl, ?_, ⟨⟨_, _, _, nw1.txt a2⟩, _, _, _, _, _, _, xw1.txt a2 a1⟩, fb.tr (FrB.r2 a2 (by omega) (by omega))⟩
      dsimp only
      rw [if_pos z]
  refine xp_aload_0 (pc := 0) hX d_Nam_subject_0 ?_
  refine xg_get (pc := 1) hX (j := 0) k_Nam d_Nam_subject_1 l_Nam_20 (by decide) (by first | assumption | exact xup_s _ _ _ | exact xup_o (by omega) (by assumption) | exact xup_o (by omega) (xup_s _ _ _) | exact xup_o (by omega) (xup_o (by omega) (by assumption)) | exact xup_o (by omega) (xup_o (by omega) (xup_s _ _ _)) | exact xup_o (by omega) (xup_o (by omega) (xup_o (by omega) (by assumption)))) (by rfl) ?_
  refine xg_get (pc := 4) hX (j := 1) k_Row d_Nam_subject_4 l_Nam_64 (by decide) (by first | assumption | exact xup_s _ _ _ | exact xup_o (by omega) (by assumption) | exact xup_o (by omega) (xup_s _ _ _) | exact xup_o (by omega) (xup_o (by omega) (by assumption)) | exact xup_o (by omega) (xup_o (by omega) (xup_s _ _ _)) | exact xup_o (by omega) (xup_o (by omega) (xup_o (by omega) (by assumption)))) (by rfl) ?_
  refine xp_istore_2 (pc := 7) hX d_Nam_subject_7 (by decide) ?_
  refine xp_iload_2 (pc := 8) hX d_Nam_subject_8 ?_
  refine xg_sipush (pc := 9) hX (nI 200) d_Nam_subject_9 ci_sipush_200 ?_
  refine xn_icmp_gt (pc := 12) hX 27 d_Nam_subject_12 (by decide) (by omega) (by omega) (fun z => ?_) (fun z => ?_)
  · refine fin M sub nw xw (FrB.rf _ _) ?_
    unfold sSubject
    dsimp only
    rw [if_neg (by omega), if_neg (by omega)]
  · refine xp_aload_0 (pc := 15) hX d_Nam_subject_15 ?_
    refine xg_get (pc := 16) hX (j := 9) k_Nam d_Nam_subject_16 l_Nam_60 (by decide) (by first | assumption | exact xup_s _ _ _ | exact xup_o (by omega) (by assumption) | exact xup_o (by omega) (xup_s _ _ _) | exact xup_o (by omega) (xup_o (by omega) (by assumption)) | exact xup_o (by omega) (xup_o (by omega) (xup_s _ _ _)) | exact xup_o (by omega) (xup_o (by omega) (xup_o (by omega) (by assumption)))) (by rfl) ?_
    refine xp_aload_0 (pc := 19) hX d_Nam_subject_19 ?_
    refine xg_get (pc := 20) hX (j := 0) k_Nam d_Nam_subject_20 l_Nam_20 (by decide) (by first | assumption | exact xup_s _ _ _ | exact xup_o (by omega) (by assumption) | exact xup_o (by omega) (xup_s _ _ _) | exact xup_o (by omega) (xup_o (by omega) (by assumption)) | exact xup_o (by omega) (xup_o (by omega) (xup_s _ _ _)) | exact xup_o (by omega) (xup_o (by omega) (xup_o (by omega) (by assumption)))) (by rfl) ?_
    refine xp_iload_1 (pc := 23) hX d_Nam_subject_23 ?_
    refine xv_V (Y2 := Y_Cut_take) (pc := 24) hX [_, _] k_Cut m_Cut_take d_Nam_subject_24 l_Nam_137 rfl rfl (by simp [Value.category]) (by first | assumption | exact xup_s _ _ _ | exact xup_o (by omega) (by assumption) | exact xup_o (by omega) (xup_s _ _ _) | exact xup_o (by omega) (xup_o (by omega) (by assumption)) | exact xup_o (by omega) (xup_o (by omega) (xup_s _ _ _)) | exact xup_o (by omega) (xup_o (by omega) (xup_o (by omega) (by assumption)))) (c_Cut_take d hcu q2 (by omega) z (by omega)) (by omega) (by omega) ?_
    rintro M1 ⟨a1, a2⟩
    refine fin M1 _ (nw.kept (fun q hq => a2 q (by omega))) (xw.sub a2 a1) (FrB.rR a2 (by omega) (by omega)) ?_
    unfold sSubject
    dsimp only
    rw [if_pos z, if_pos z]
