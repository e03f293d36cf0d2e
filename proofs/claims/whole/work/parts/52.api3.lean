/-! the room's calls that read the tape -/
def sSet (S : xS) : Int32 × xS := match S with
  | (t, out, es, dp, se, r) => if (rdG t).2 = true then (if (FN es se (dp - 1) t 0 (rdG t).1).length ≤ 200 then (if (givE es se (dp - 1) (FN es se (dp - 1) t 0 (rdG t).1) (sl t ((rdG t).1 + 1) t.length)).1 = nI 0 then nI (givE es se (dp - 1) (FN es se (dp - 1) t 0 (rdG t).1) (sl t ((rdG t).1 + 1) t.length)).2.length else (givE es se (dp - 1) (FN es se (dp - 1) t 0 (rdG t).1) (sl t ((rdG t).1 + 1) t.length)).1, ([], out, (givE es se (dp - 1) (FN es se (dp - 1) t 0 (rdG t).1) (sl t ((rdG t).1 + 1) t.length)).2, dp, se, r)) else (-2, ([], out, es, dp, se, r))) else (aI (some (rdG t).1), ([], out, es, dp, se, r))
def sGet (S : xS) : Int32 × xS := match S with
  | (t, out, es, dp, se, r) => if (rdA t).2 = true then (if (FN es se (dp - 1) t 0 (rdA t).1).length ≤ 200 then (nI (tellT es se (dp - 1) (FN es se (dp - 1) t 0 (rdA t).1)).length, ([], tellT es se (dp - 1) (FN es se (dp - 1) t 0 (rdA t).1), es, dp, se, r)) else (-2, ([], out, es, dp, se, r))) else (aI (some (rdA t).1), ([], out, es, dp, se, r))
def knI (es : List xEn) (se : List xSe) (ip : Nat) (nm : List UInt8) : Int32 := match tellI es se ip nm with
  | none => nI 0
  | some i => if es[i]?.map (fun e => e.2.1.length) = some nm.length then nI 2 else nI 1
def sKnown (S : xS) : Int32 × xS := match S with
  | (t, out, es, dp, se, r) => if (rdA t).2 = true then (if (FN es se (dp - 1) t 0 (rdA t).1).length ≤ 200 then (knI es se (dp - 1) (FN es se (dp - 1) t 0 (rdA t).1), ([], out, es, dp, se, r)) else (-2, ([], out, es, dp, se, r))) else (aI (some (rdA t).1), ([], out, es, dp, se, r))
def drpL (se : List xSe) (ip : Nat) (t : List UInt8) : List xTk → List xEn → Int32 × List xEn
  | [], es => (nI 0, es)
  | e :: r, es => if (FN es se ip t e.2.1 e.2.2).length ≤ 200 then (match dropE es se (own se (FN es se ip t e.2.1 e.2.2) ip) (FN es se ip t e.2.1 e.2.2) with | some es2 => drpL se ip t r es2 | none => (-4, clE es (own se (FN es se ip t e.2.1 e.2.2) ip) (FN es se ip t e.2.1 e.2.2))) else (-2, es)
def sDrop (S : xS) : Int32 × xS := match S with
  | (t, out, es, dp, se, r) => if (rdM t 600).1.2 = true then (if (rdM t 600).2 = [] then (-1000, ([], out, es, dp, se, r)) else (if (drpL se (dp - 1) t (rdM t 600).2 es).1 = nI 0 then nI (drpL se (dp - 1) t (rdM t 600).2 es).2.length else (drpL se (dp - 1) t (rdM t 600).2 es).1, ([], out, (drpL se (dp - 1) t (rdM t 600).2 es).2, dp, se, r))) else (aI (some (rdM t 600).1.1), ([], out, es, dp, se, r))
def sOpen (S : xS) : Int32 × xS := match S with
  | (t, out, es, dp, se, r) => if (rdM t 12).1.2 = true then (if dp < 8 then (match opn es t dp (rdM t 12).2 se with | some se' => (nI (dp + 1), ([], out, es, dp + 1, se', r)) | none => (-2, ([], out, es, dp, se, r))) else (-4, ([], out, es, dp, se, r))) else (aI (some (rdM t 12).1.1), ([], out, es, dp, se, r))
def sParse (S : xS) : Int32 × xS := match S with
  | (t, out, es, dp, se, sub, fr, bg) => if (toks t 600 0 []).1.2 = true then (if (prsS se (dp - 1) t sub (toks t 600 0 []).2 [] es 1 1).1 = nI 0 then nI ((toks t 600 0 []).2.filter (fun e => isTg e.1)).length else (prsS se (dp - 1) t sub (toks t 600 0 []).2 [] es 1 1).1, ([], out, (prsS se (dp - 1) t sub (toks t 600 0 []).2 [] es 1 1).2.1, dp, se, sub, (prsS se (dp - 1) t sub (toks t 600 0 []).2 [] es 1 1).2.2.1, (prsS se (dp - 1) t sub (toks t 600 0 []).2 [] es 1 1).2.2.2)) else (aI (some (toks t 600 0 []).1.1), ([], out, es, dp, se, sub, fr, bg))
theorem FN_pos {es : List xEn} {se : List xSe} {ip : Nat} {t : List UInt8} {a b : Nat} (hab : a < b) (hb : b ≤ t.length) : 0 < (FN es se ip t a b).length := by
  unfold FN
  have hd := dotF_le (bs := t) (a := a) (b := b) (by omega) hb
  split
  · rw [List.length_append, List.length_map, sl_len (by omega)]; omega
  · rw [List.length_map, sl_len hb]; omega
theorem rdG_ok {t : List UInt8} (h : (rdG t).2 = true) : 0 < (rdG t).1 ∧ (rdG t).1 < t.length ∧ (rdG t).1 ≤ 30 ∧ t.length - ((rdG t).1 + 1) ≤ 200 ∧ t[(rdG t).1]? = some 61 ∧ rdV t 0 = ((rdG t).1, true) := by
  unfold rdG at h ⊢
  by_cases c : (rdV t 0).2 = true
  · have hok := rdV_ok c
    rw [if_pos c] at h ⊢
    by_cases c2 : t[(rdV t 0).1]? = some 61
    · have hlt := (List.getElem?_eq_some_iff.mp c2).1
      rw [if_pos c2] at h ⊢
      by_cases c3 : 200 < t.length - ((rdV t 0).1 + 1)
      · rw [if_pos c3] at h; cases h
      · rw [if_neg c3]
        exact ⟨by dsimp only; omega, by dsimp only; omega, by dsimp only; omega, by dsimp only; omega, c2, by rw [← c]⟩
    · rw [if_neg c2] at h; cases h
  · rw [if_neg c] at h
    exact absurd h c
theorem rdG_le {t : List UInt8} (ht : t.length ≤ 600) : (rdG t).1 ≤ 900 := by
  have := rdV_le (t := t) (s := 0) (by omega)
  unfold rdG
  split
  · split
    · split <;> (dsimp only; omega)
    · dsimp only; omega
  · omega
theorem rdA_ok {t : List UInt8} (h : (rdA t).2 = true) : 0 < (rdA t).1 ∧ (rdA t).1 = t.length ∧ (rdA t).1 ≤ 30 ∧ rdV t 0 = ((rdA t).1, true) := by
  unfold rdA at h ⊢
  by_cases c : (rdV t 0).2 = true
  · have hok := rdV_ok c
    rw [if_pos c] at h ⊢
    by_cases c3 : (rdV t 0).1 < t.length
    · rw [if_pos c3] at h; cases h
    · rw [if_neg c3]
      exact ⟨by dsimp only; omega, by dsimp only; omega, by dsimp only; omega, by rw [← c]⟩
  · rw [if_neg c] at h
    exact absurd h c
theorem rdA_le {t : List UInt8} : (rdA t).1 ≤ t.length := by
  have := rdV_le (t := t) (s := 0) (by omega)
  unfold rdA
  split
  · split <;> (dsimp only; omega)
  · omega
theorem rdL_ok {t : List UInt8} : ∀ (n s : Nat) (acc : List xTk), tkOK t acc → tkOK t (rdL t n s acc).2 ∧ (rdL t n s acc).2.length ≤ acc.length + n
  | 0, s, acc, h => ⟨h, by show acc.length ≤ _; omega⟩
  | n + 1, s, acc, h => by
    unfold rdL
    by_cases c : (rdV t s).2 = true
    · have hok := rdV_ok c
      have h2 : tkOK t (acc ++ [(1, s, (rdV t s).1)]) := by
        intro e he
        rcases List.mem_append.mp he with q | q
        · exact h e q
        · rw [List.mem_singleton] at q
          subst q
          exact hok
      rw [if_pos c]
      split
      · split
        · obtain ⟨i1, i2⟩ := rdL_ok n ((rdV t s).1 + 1) _ h2
          refine ⟨i1, ?_⟩
          rw [List.length_append] at i2
          simp only [List.length_cons, List.length_nil] at i2
          omega
        · exact ⟨h2, by simp⟩
      · exact ⟨h2, by simp⟩
    · rw [if_neg c]
      exact ⟨h, by dsimp only; omega⟩
theorem rdM_ok {t : List UInt8} {most : Nat} : tkOK t (rdM t most).2 ∧ (rdM t most).2.length ≤ most := by
  unfold rdM
  split
  · exact ⟨fun e he => absurd he List.not_mem_nil, Nat.zero_le _⟩
  · have := rdL_ok (t := t) most 0 [] (fun e he => absurd he List.not_mem_nil)
    simpa using this
theorem rdL_bd {t : List UInt8} : ∀ (n s : Nat) (acc : List xTk), s ≤ t.length → (rdL t n s acc).1.1 ≤ t.length
  | 0, s, acc, h => h
  | n + 1, s, acc, h => by
    unfold rdL
    have hl := rdV_le h
    split
    · split
      · split
        · exact rdL_bd n _ _ (by omega)
        · exact hl.2
      · exact hl.2
    · exact hl.2
theorem rdM_bd {t : List UInt8} {most : Nat} : (rdM t most).1.1 ≤ t.length := by
  unfold rdM
  split
  · exact Nat.zero_le _
  · exact rdL_bd most 0 [] (by omega)
theorem XW.w {M M' : xH} {B : Nat} {t : List UInt8} {tk tk' : List xTk} {tg pos tg' pos' : Nat} {ans ans' : Option Nat} {out sub : List UInt8} {fr bg pf pt : Nat} (h : XW M B t tk tg pos ans out sub fr bg pf pt) (hf : FrW M M' B) (hx : ReA M' (B + 1) t tk' tg' pos' ans') : XW M' B t tk' tg' pos' ans' out sub fr bg pf pt := by
  obtain ⟨-, h2, ⟨x, h3⟩, sf, st, h4⟩ := h
  exact ⟨hx, h2.kept (hf _ (by omega)) (hf _ (by omega)), ⟨x, h3.kept (hf _ (by omega)) (hf _ (by omega))⟩, sf, st, h4.kept (fun q a b => hf q (by omega))⟩
set_option maxHeartbeats 4000000 in
set_option maxRecDepth 100000 in
theorem a_set (d : Nat) {M : xH} {sz B : Nat} {S : xS} (h : CW M B S) : xC (d + 5) 0 0 Y_Nam_set [.ref B] M sz (qi sz (fun y M' => y = (sSet S).1 ∧ CW M' B (sSet S).2 ∧ FrB M M' B)) := by
  obtain ⟨t, out, es, dp, se, sub, fr, bg⟩ := S
  refine xC_of (by decide) (Nat.le_of_ble_eq_true rfl) (by simp [Value.category]) (vs := [some (.ref B), none]) rfl (fun K hX hE => ?_)
  obtain ⟨⟨full, g, L, nw⟩, tk, tg, pos, ans, pf, pt, xw⟩ := id h
  obtain ⟨n1, -⟩ := id nw
  obtain ⟨hr, -⟩ := id xw
  obtain ⟨q1, q2, -⟩ := id hr
  have htl : t.length ≤ 600 := q2.2.1
  have k48 : ∀ (M1 : xH) (y : Int32) (es1 : List xEn) (tk1 : List xTk) (tg1 pos1 : Nat) (ans1 : Option Nat), (∃ f g' L', NW M1 B f g' L' es1 dp se) → XW M1 B t tk1 tg1 pos1 ans1 out sub fr bg pf pt → FrB M M1 B → sSet (t, out, es, dp, se, sub, fr, bg) = (if y = nI 0 then nI es1.length else y, ([], out, es1, dp, se, sub, fr, bg)) → xG K 48 [some (.ref B), some (.int y)] [] M1 sz 0 0 := by
    rintro M1 y es1 tk1 tg1 pos1 ans1 ⟨f, g', L', nw1⟩ xw1 fb hS
    rw [hS] at hE
    obtain ⟨n1, -⟩ := id nw1
    obtain ⟨hr, -⟩ := id xw1
    obtain ⟨q1, q2, -⟩ := id hr
    obtain ⟨r1, -⟩ := id q2
    refine xp_aload_0 (pc := 48) hX d_Nam_set_48 ?_
    refine xg_get (pc := 49) hX (j := 0) k_Nam d_Nam_set_49 l_Nam_20 (by decide) (by first | assumption | exact xup_s _ _ _ | exact xup_o (by omega) (by assumption) | exact xup_o (by omega) (xup_s _ _ _) | exact xup_o (by omega) (xup_o (by omega) (by assumption)) | exact xup_o (by omega) (xup_o (by omega) (xup_s _ _ _)) | exact xup_o (by omega) (xup_o (by omega) (xup_o (by omega) (by assumption)))) (by rfl) ?_
    refine xv_V (Y2 := Y_Row_clear) (pc := 52) hX [] k_Row m_Row_clear d_Nam_set_52 l_Nam_89 rfl rfl (by simp [Value.category]) (by first | assumption | exact xup_s _ _ _ | exact xup_o (by omega) (by assumption) | exact xup_o (by omega) (xup_s _ _ _) | exact xup_o (by omega) (xup_o (by omega) (by assumption)) | exact xup_o (by omega) (xup_o (by omega) (xup_s _ _ _)) | exact xup_o (by omega) (xup_o (by omega) (xup_o (by omega) (by assumption)))) (c_Row_clear (d + 4) q2) (by omega) (by omega) ?_
    rintro M2 ⟨a1, a2⟩
    have nw2 := nw1.txt a2
    obtain ⟨n1, -, -, -, ⟨⟨n5, -⟩, -⟩, -⟩ := id nw2
    have fe : FrB M M2 B := fb.tr (FrB.r2 a2 (by omega) (by omega))
    refine xp_iload_1 (pc := 55) hX d_Nam_set_55 ?_
    refine xg_if_ne (pc := 56) hX 69 d_Nam_set_56 (by decide) (fun z => ?_) (fun z => ?_)
    · refine xp_iload_1 (pc := 69) hX d_Nam_set_69 ?_
      refine xg_iret (pc := 70) hX hE d_Nam_set_70 rfl rfl (by omega) (by omega) ?_
      refine ⟨rfl, _, rfl, ?_, ⟨⟨_, _, _, nw2⟩, _, _, _, _, _, _, xw1.txt a2 a1⟩, fe⟩
      dsimp only
      rw [if_neg (fun q => z (by rw [q]; decide))]
    · refine xp_aload_0 (pc := 59) hX d_Nam_set_59 ?_
      refine xg_get (pc := 60) hX (j := 7) k_Nam d_Nam_set_60 l_Nam_46 (by decide) (by first | assumption | exact xup_s _ _ _ | exact xup_o (by omega) (by assumption) | exact xup_o (by omega) (xup_s _ _ _) | exact xup_o (by omega) (xup_o (by omega) (by assumption)) | exact xup_o (by omega) (xup_o (by omega) (xup_s _ _ _)) | exact xup_o (by omega) (xup_o (by omega) (xup_o (by omega) (by assumption)))) (by rfl) ?_
      refine xg_get (pc := 63) hX (j := 1) k_She d_Nam_set_63 l_Nam_92 (by decide) (by first | assumption | exact xup_s _ _ _ | exact xup_o (by omega) (by assumption) | exact xup_o (by omega) (xup_s _ _ _) | exact xup_o (by omega) (xup_o (by omega) (by assumption)) | exact xup_o (by omega) (xup_o (by omega) (xup_s _ _ _)) | exact xup_o (by omega) (xup_o (by omega) (xup_o (by omega) (by assumption)))) (by rfl) ?_
      refine xg_goto (pc := 66) hX 70 d_Nam_set_66 (by decide) ?_
      refine xg_iret (pc := 70) hX hE d_Nam_set_70 rfl rfl (by omega) (by omega) ?_
      refine ⟨rfl, _, rfl, ?_, ⟨⟨_, _, _, nw2⟩, _, _, _, _, _, _, xw1.txt a2 a1⟩, fe⟩
      dsimp only
      rw [if_pos (by rw [z]; decide)]
  refine xp_aload_0 (pc := 0) hX d_Nam_set_0 ?_
  refine xg_get (pc := 1) hX (j := 6) k_Nam d_Nam_set_1 l_Nam_10 (by decide) (by first | assumption | exact xup_s _ _ _ | exact xup_o (by omega) (by assumption) | exact xup_o (by omega) (xup_s _ _ _) | exact xup_o (by omega) (xup_o (by omega) (by assumption)) | exact xup_o (by omega) (xup_o (by omega) (xup_s _ _ _)) | exact xup_o (by omega) (xup_o (by omega) (xup_o (by omega) (by assumption)))) (by rfl) ?_
  refine xi_V (Y2 := Y_Rea_readGift) (pc := 4) hX [] k_Rea m_Rea_readGift d_Nam_set_4 l_Nam_75 rfl rfl (by simp [Value.category]) (by first | assumption | exact xup_s _ _ _ | exact xup_o (by omega) (by assumption) | exact xup_o (by omega) (xup_s _ _ _) | exact xup_o (by omega) (xup_o (by omega) (by assumption)) | exact xup_o (by omega) (xup_o (by omega) (xup_s _ _ _)) | exact xup_o (by omega) (xup_o (by omega) (xup_o (by omega) (by assumption)))) (c_Rea_readGift (d + 1) hr) (by omega) (by omega) ?_
  rintro y M1 ⟨hc, f1⟩
  have nw1 := nw.rea f1
  obtain ⟨n1, -⟩ := id nw1
  rcases hc with ⟨b1, rfl, tg1, b2⟩ | ⟨b1, rfl, tk1, tg1, pos1, b2⟩
  · obtain ⟨o1, o2, o3, o4, -⟩ := rdG_ok b1
    have xw1 := xw.rea f1 b2
    generalize hnm : FN es se (dp - 1) t 0 (rdG t).1 = nm at *
    refine xp_istore_1 (pc := 7) hX d_Nam_set_7 (by decide) ?_
    refine xp_iload_1 (pc := 8) hX d_Nam_set_8 ?_
    refine xn_if_ne (pc := 9) hX 48 d_Nam_set_9 (by decide) (by decide) (fun z => absurd z (by decide)) (fun _ => ?_)
    refine xp_aload_0 (pc := 12) hX d_Nam_set_12 ?_
    refine xg_iconst (pc := 13) hX (nI 0) d_Nam_set_13 ci_iconst_0 ?_
    refine xi_V (Y2 := Y_Nam_workOut) (pc := 14) hX [_] k_Nam m_Nam_workOut d_Nam_set_14 l_Nam_79 rfl rfl (by simp [Value.category]) (by first | assumption | exact xup_s _ _ _ | exact xup_o (by omega) (by assumption) | exact xup_o (by omega) (xup_s _ _ _) | exact xup_o (by omega) (xup_o (by omega) (by assumption)) | exact xup_o (by omega) (xup_o (by omega) (xup_s _ _ _)) | exact xup_o (by omega) (xup_o (by omega) (xup_o (by omega) (by assumption)))) (c_Nam_workOut d (i := 0) nw1 b2 rfl (by omega) (by omega) (by omega)) (by omega) (by omega) ?_
    rintro y M2 ⟨hc, f2⟩
    rw [hnm] at hc
    have xw2 := xw1.nn f2
    obtain ⟨hr2, -⟩ := id xw2
    obtain ⟨q1', q2', -⟩ := id hr2
    obtain ⟨r1, -⟩ := id q2'
    rcases hc with ⟨c1, rfl, nw2⟩ | ⟨c1, rfl, f', nw2⟩
    · refine xn_if_eq (pc := 17) hX 45 d_Nam_set_17 (by decide) (by decide) (fun z => absurd z (by decide)) (fun _ => ?_)
      obtain ⟨n1, -⟩ := id nw2
      refine xp_aload_0 (pc := 20) hX d_Nam_set_20 ?_
      refine xp_aload_0 (pc := 21) hX d_Nam_set_21 ?_
      refine xg_get (pc := 22) hX (j := 0) k_Nam d_Nam_set_22 l_Nam_20 (by decide) (by first | assumption | exact xup_s _ _ _ | exact xup_o (by omega) (by assumption) | exact xup_o (by omega) (xup_s _ _ _) | exact xup_o (by omega) (xup_o (by omega) (by assumption)) | exact xup_o (by omega) (xup_o (by omega) (xup_s _ _ _)) | exact xup_o (by omega) (xup_o (by omega) (xup_o (by omega) (by assumption)))) (by rfl) ?_
      refine xp_aload_0 (pc := 25) hX d_Nam_set_25 ?_
      refine xg_get (pc := 26) hX (j := 6) k_Nam d_Nam_set_26 l_Nam_10 (by decide) (by first | assumption | exact xup_s _ _ _ | exact xup_o (by omega) (by assumption) | exact xup_o (by omega) (xup_s _ _ _) | exact xup_o (by omega) (xup_o (by omega) (by assumption)) | exact xup_o (by omega) (xup_o (by omega) (xup_s _ _ _)) | exact xup_o (by omega) (xup_o (by omega) (xup_o (by omega) (by assumption)))) (by rfl) ?_
      refine xg_get (pc := 29) hX (j := 6) k_Rea d_Nam_set_29 l_Nam_83 (by decide) (by first | assumption | exact xup_s _ _ _ | exact xup_o (by omega) (by assumption) | exact xup_o (by omega) (xup_s _ _ _) | exact xup_o (by omega) (xup_o (by omega) (by assumption)) | exact xup_o (by omega) (xup_o (by omega) (xup_s _ _ _)) | exact xup_o (by omega) (xup_o (by omega) (xup_o (by omega) (by assumption)))) (by rfl) ?_
      refine xp_aload_0 (pc := 32) hX d_Nam_set_32 ?_
      refine xg_get (pc := 33) hX (j := 0) k_Nam d_Nam_set_33 l_Nam_20 (by decide) (by first | assumption | exact xup_s _ _ _ | exact xup_o (by omega) (by assumption) | exact xup_o (by omega) (xup_s _ _ _) | exact xup_o (by omega) (xup_o (by omega) (by assumption)) | exact xup_o (by omega) (xup_o (by omega) (xup_s _ _ _)) | exact xup_o (by omega) (xup_o (by omega) (xup_o (by omega) (by assumption)))) (by rfl) ?_
      refine xg_get (pc := 36) hX (j := 1) k_Row d_Nam_set_36 l_Nam_64 (by decide) (by first | assumption | exact xup_s _ _ _ | exact xup_o (by omega) (by assumption) | exact xup_o (by omega) (xup_s _ _ _) | exact xup_o (by omega) (xup_o (by omega) (by assumption)) | exact xup_o (by omega) (xup_o (by omega) (xup_s _ _ _)) | exact xup_o (by omega) (xup_o (by omega) (xup_o (by omega) (by assumption)))) (by rfl) ?_
      refine xi_V (Y2 := Y_Nam_give) (pc := 39) hX [_, _, _] k_Nam m_Nam_give d_Nam_set_39 l_Nam_85 rfl rfl (by simp [Value.category]) (by first | assumption | exact xup_s _ _ _ | exact xup_o (by omega) (by assumption) | exact xup_o (by omega) (xup_s _ _ _) | exact xup_o (by omega) (xup_o (by omega) (by assumption)) | exact xup_o (by omega) (xup_o (by omega) (xup_s _ _ _)) | exact xup_o (by omega) (xup_o (by omega) (xup_o (by omega) (by assumption)))) (c_Nam_give d nw2 q2' (by omega) (by omega) (by omega) (by omega) (by omega)) (by omega) (by omega) ?_
      rintro y M3 ⟨hgv, f3⟩
      have hgE : givE es se (dp - 1) nm (sl t ((rdG t).1 + 1) t.length) = (match putE (clE es (own se nm (dp - 1)) nm) (own se nm (dp - 1)) nm (some (sl t ((rdG t).1 + 1) t.length)) with | some es2 => (nI 0, es2) | none => (-4, clE es (own se nm (dp - 1)) nm)) := rfl
      have hS : sSet (t, out, es, dp, se, sub, fr, bg) = (if (givE es se (dp - 1) nm (sl t ((rdG t).1 + 1) t.length)).1 = nI 0 then nI (givE es se (dp - 1) nm (sl t ((rdG t).1 + 1) t.length)).2.length else (givE es se (dp - 1) nm (sl t ((rdG t).1 + 1) t.length)).1, ([], out, (givE es se (dp - 1) nm (sl t ((rdG t).1 + 1) t.length)).2, dp, se, sub, fr, bg)) := by
        unfold sSet
        dsimp only
        rw [if_pos b1, hnm, if_pos c1]
      have fe : FrB M M3 B := (FrB.a f1).tr (FrB.n (f2.tr f3))
      rcases hgv with ⟨es2, g', L', e1, rfl, e2⟩ | ⟨g', L', e1, rfl, e2⟩
      · rw [e1] at hgE
        rw [hgE] at hS
        refine xg_goto (pc := 42) hX 47 d_Nam_set_42 (by decide) ?_
        refine xp_istore_1 (pc := 47) hX d_Nam_set_47 (by decide) ?_
        exact k48 M3 _ _ _ _ _ _ ⟨_, _, _, e2⟩ (xw2.nn f3) fe hS
      · rw [e1] at hgE
        rw [hgE] at hS
        refine xg_goto (pc := 42) hX 47 d_Nam_set_42 (by decide) ?_
        refine xp_istore_1 (pc := 47) hX d_Nam_set_47 (by decide) ?_
        exact k48 M3 _ _ _ _ _ _ ⟨_, _, _, e2⟩ (xw2.nn f3) fe hS
    · refine xn_if_eq (pc := 17) hX 45 d_Nam_set_17 (by decide) (by decide) (fun _ => ?_) (fun z => absurd z (by decide))
      have hS : sSet (t, out, es, dp, se, sub, fr, bg) = (-2, ([], out, es, dp, se, sub, fr, bg)) := by
        unfold sSet
        dsimp only
        rw [if_pos b1, hnm, if_neg (by omega)]
      refine xg_bipush (pc := 45) hX (-2) d_Nam_set_45 ci_bipush_m2 ?_
      refine xp_istore_1 (pc := 47) hX d_Nam_set_47 (by decide) ?_
      refine k48 M2 (-2) _ _ _ _ _ ⟨_, _, _, nw2⟩ xw2 ((FrB.a f1).tr (FrB.n f2)) (by rw [hS, if_neg (by decide)])
  · have xw1 := xw.rea f1 b2
    have hS : sSet (t, out, es, dp, se, sub, fr, bg) = (aI (some (rdG t).1), ([], out, es, dp, se, sub, fr, bg)) := by
      unfold sSet
      dsimp only
      rw [if_neg (by rw [b1]; decide)]
    have hle := rdG_le htl
    have hz : ¬ aI (some (rdG t).1) = 0 := aI_some (by omega)
    refine xp_istore_1 (pc := 7) hX d_Nam_set_7 (by decide) ?_
    refine xp_iload_1 (pc := 8) hX d_Nam_set_8 ?_
    refine xg_if_ne (pc := 9) hX 48 d_Nam_set_9 (by decide) (fun z => ?_) (fun z => absurd z hz)
    exact k48 M1 _ _ _ _ _ _ ⟨_, _, _, nw1⟩ xw1 (FrB.a f1) (by rw [hS, if_neg (fun q => hz (by rw [q]; decide))])
