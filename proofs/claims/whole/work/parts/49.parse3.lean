/-! NameRoom: parse -/
theorem rdS_bd {t : List UInt8} {q : UInt8} {s : Nat} : ∀ (n i held : Nat), held ≤ 40 → (rdS t q s n i held).2 = true → i ≤ (rdS t q s n i held).1 ∧ (rdS t q s n i held).1 ≤ i + 2 * (40 - held)
  | 0, _, _, _, h => by cases h
  | n + 1, i, held, hh, h => by
    unfold rdS at h ⊢
    split at h
    · cases h
    · split at h
      · rename_i z
        rw [if_pos z]
        dsimp only; omega
      · rename_i z
        rw [if_neg z]
        split at h
        · cases h
        · rename_i z2
          rw [if_neg z2]
          have := rdS_bd n _ (held + 1) (by omega) h
          revert this
          split <;> (intro this; omega)
theorem sc_all {P : UInt8 → Bool} {bs : List UInt8} {a b : Nat} : ∀ c ∈ sl bs a (sc P bs a b), P c = true := by
  intro c hc
  have e : sl bs a (sc P bs a b) = (sl bs a b).takeWhile P := by
    unfold sc
    have h1 := List.takeWhile_prefix P (l := sl bs a b)
    have h2 := List.prefix_iff_eq_take.mp h1
    have h3 := h1.length_le
    conv => rhs; rw [h2]
    show (bs.drop a).take (a + ((sl bs a b).takeWhile P).length - a) = ((bs.drop a).take (b - a)).take _
    rw [List.take_take, Nat.add_sub_cancel_left]
    congr 1
    have h4 : (sl bs a b).length ≤ b - a := by unfold sl; rw [List.length_take]; omega
    omega
  rw [e] at hc
  exact List.all_eq_true.mp (List.all_takeWhile) c hc
theorem rdP_G {t : List UInt8} {s k : Nat} (hs : s ≤ t.length) (hk : 5 ≤ k) (hk2 : k < 8) : tkG t (k, s, (rdP t s).1) := by
  have h1 := rdP_le (t := t) (s := s) hs
  refine ⟨hk2, h1.2, h1.1, fun q => ?_, fun q => ?_, fun _ => ?_⟩
  · dsimp only at q; omega
  · dsimp only at q; omega
  · show ∀ c ∈ sl t s (sc dig t s (min (s + 4) t.length)), dig c = true
    exact sc_all
theorem tok1_G {t : List UInt8} {s : Nat} (hs : s < t.length) (hl : t.length ≤ 600) (hok : (tok1 t s).1.2 = true) : ∀ e ∈ (tok1 t s).2.toList, tkG t e := by
  have hb : t[s]? = some t[s] := List.getElem?_eq_getElem hs
  have hA := sc_le (P := bl) (bs := t) (a := s + 1) (b := t.length) (by omega) (by omega)
  unfold tok1 at hok ⊢
  rw [hb] at hok ⊢
  generalize t[s] = b at hb hok ⊢
  dsimp only at hok ⊢
  split
  · intro e he; simp at he
  · rename_i c1
    rw [if_neg c1] at hok
    split
    · rename_i c2
      rw [if_pos c2] at hok
      split
      · rename_i z
        intro e he
        simp at he
        subst he
        have h1 := rdS_lt (q := b) hs (t.length - s) (s + 1) 0
        have h2 := rdS_bd (t := t) (q := b) (s := s) (t.length - s) (s + 1) 0 (by omega) z
        exact ⟨by dsimp only; omega, by dsimp only; omega, by dsimp only; omega, fun q => by dsimp only at q; omega, fun _ => by dsimp only; omega, fun q => by dsimp only at q; omega⟩
      · intro e he; simp at he
    · rename_i c2
      rw [if_neg c2] at hok
      split
      · rename_i c3
        rw [if_pos c3] at hok
        split
        · rename_i z
          intro e he
          simp at he
          subst he
          unfold rdB at z ⊢
          dsimp only at z ⊢
          by_cases hv : (rdV t (sc bl t (s + 1) t.length)).2 = true
          · rw [if_pos hv] at z ⊢
            have hok2 := rdV_ok hv
            split
            · exact ⟨by dsimp only; omega, by dsimp only; omega, by dsimp only; omega, fun _ => by dsimp only; omega, fun q => by dsimp only at q; omega, fun q => by dsimp only at q; omega⟩
            · exact ⟨by dsimp only; omega, by dsimp only; omega, by dsimp only; omega, fun _ => by dsimp only; omega, fun q => by dsimp only at q; omega, fun q => by dsimp only at q; omega⟩
          · rw [if_neg hv] at z
            exact absurd z hv
        · intro e he; simp at he
      · rename_i c3
        rw [if_neg c3] at hok
        split
        · split
          · intro e he
            simp at he
            subst he
            refine rdP_G (by omega) ?_ ?_
            · split
              · omega
              · split <;> omega
            · split
              · omega
              · split <;> omega
          · intro e he; simp at he
        · split
          · split
            · intro e he
              simp at he
              subst he
              exact rdP_G (by omega) (by omega) (by omega)
            · intro e he; simp at he
          · split
            · intro e he
              simp at he
              subst he
              exact ⟨by dsimp only; omega, by dsimp only; omega, by dsimp only; omega, fun q => by dsimp only at q; omega, fun q => by dsimp only at q; omega, fun q => by dsimp only at q; omega⟩
            · split
              · rename_i z
                intro e he
                simp at he
                subst he
                have hok2 := rdV_ok z
                exact ⟨by dsimp only; omega, by dsimp only; omega, by dsimp only; omega, fun _ => by dsimp only; omega, fun q => by dsimp only at q; omega, fun q => by dsimp only at q; omega⟩
              · intro e he; simp at he
theorem toks_G {t : List UInt8} (hl : t.length ≤ 600) : ∀ (n s : Nat) (acc : List xTk), (∀ e ∈ acc, tkG t e) → ∀ e ∈ (toks t n s acc).2, tkG t e
  | 0, _, _, h => h
  | n + 1, s, acc, h => by
    unfold toks
    split
    · rename_i hs
      split
      · rename_i hok
        refine toks_G hl n _ _ (fun e he => ?_)
        rcases List.mem_append.mp he with q | q
        · exact h e q
        · exact tok1_G hs hl hok e q
      · exact h
    · exact h
theorem toks_bad {t : List UInt8} : ∀ (n s : Nat) (acc : List xTk), (toks t n s acc).1.2 = false → (toks t n s acc).1.1 ≤ t.length
  | 0, _, _, h => by cases h
  | n + 1, s, acc, h => by
    unfold toks at h ⊢
    split at h
    · rename_i hs
      rw [if_pos hs]
      split at h
      · rename_i hok
        rw [if_pos hok]
        exact toks_bad n _ _ h
      · rename_i hok
        rw [if_neg hok]
        exact (tok1_le hs).1
    · cases h
theorem ReA.txt {M M' : xH} {h : Nat} {t t' : List UInt8} {tk : List xTk} {tg pos : Nat} {ans : Option Nat} (hs : ReA M h t tk tg pos ans) (hf : Fr2 M M' (h + 1)) (hr : RowAt M' (h + 1) 600 t') : ReA M' h t' tk tg pos ans := by
  obtain ⟨h1, -, h3, h4, h5, fk, fs, fe, h6, h7, h8, h9⟩ := hs
  exact ⟨by rw [hf h (by omega) (by omega)]; exact h1, hr, h3, h4, h5, fk, fs, fe, by rw [hf _ (by omega) (by omega)]; exact h6, by rw [hf _ (by omega) (by omega)]; exact h7, by rw [hf _ (by omega) (by omega)]; exact h8, h9⟩
theorem XW.txt {M M' : xH} {B : Nat} {t t' : List UInt8} {tk : List xTk} {tg pos : Nat} {ans : Option Nat} {out sub : List UInt8} {fr bg pf pt : Nat} (h : XW M B t tk tg pos ans out sub fr bg pf pt) (hf : Fr2 M M' (B + 1 + 1)) (hx : RowAt M' (B + 1 + 1) 600 t') : XW M' B t' tk tg pos ans out sub fr bg pf pt := by
  obtain ⟨h1, h2, ⟨x, h3⟩, sf, st, h4⟩ := h
  exact ⟨h1.txt hf hx, h2.kept (hf _ (by omega) (by omega)) (hf _ (by omega) (by omega)), ⟨x, h3.kept (hf _ (by omega) (by omega)) (hf _ (by omega) (by omega))⟩, sf, st, h4.kept (fun q a b => hf q (by omega) (by omega))⟩
theorem NW.txt {M M' : xH} {B : Nat} {full : List UInt8} {g : Nat → Nat} {L : Nat → xEn × Bool} {es : List xEn} {dp : Nat} {se : List xSe} (h : NW M B full g L es dp se) (hf : Fr2 M M' (B + 1 + 1)) : NW M' B full g L es dp se := h.kept (fun q hq => hf q (by omega) (by omega))
theorem XW.rea {M M' : xH} {B : Nat} {t : List UInt8} {tk tk' : List xTk} {tg pos tg' pos' : Nat} {ans ans' : Option Nat} {out sub : List UInt8} {fr bg pf pt : Nat} (h : XW M B t tk tg pos ans out sub fr bg pf pt) (hf : FrA M M' (B + 1)) (hx : ReA M' (B + 1) t tk' tg' pos' ans') : XW M' B t tk' tg' pos' ans' out sub fr bg pf pt := by
  obtain ⟨-, h2, ⟨x, h3⟩, sf, st, h4⟩ := h
  exact ⟨hx, h2.kept (hf _ (by omega) (by omega) (by omega) (by omega)) (hf _ (by omega) (by omega) (by omega) (by omega)), ⟨x, h3.kept (hf _ (by omega) (by omega) (by omega) (by omega)) (hf _ (by omega) (by omega) (by omega) (by omega))⟩, sf, st, h4.kept (fun q a b => hf q (by omega) (by omega) (by omega) (by omega))⟩
theorem FrB.a {M M' : xH} {B : Nat} (h : FrA M M' (B + 1)) : FrB M M' B := fun q hq => h q (by omega) (by omega) (by omega) (by omega)
theorem hd1_nz {es : List xEn} {se : List xSe} {ip : Nat} {t sub : List UInt8} {s e : Nat} {k : xTk} : (hd1 es se ip t sub s e k).1 = nI 0 ∨ (hd1 es se ip t sub s e k).1 = -2 ∨ (hd1 es se ip t sub s e k).1 = -4 := by
  unfold hd1
  split
  · split
    · unfold givE
      split
      · exact Or.inl rfl
      · exact Or.inr (Or.inr rfl)
    · exact Or.inr (Or.inl rfl)
  · exact Or.inl rfl
set_option maxHeartbeats 8000000 in
set_option maxRecDepth 100000 in
theorem c_Nam_parse (d : Nat) {M : xH} {sz B dp tg pos fr bg pf pt : Nat} {ans : Option Nat} {t full out sub : List UInt8} {tk : List xTk} {g : Nat → Nat} {L : Nat → xEn × Bool} {es : List xEn} {se : List xSe} (h : NW M B full g L es dp se) (hx : XW M B t tk tg pos ans out sub fr bg pf pt) (hgI : gI es) : xC (d + 6) 0 0 Y_Nam_parse [.ref B] M sz (qi sz (fun y M' => (((toks t 600 0 []).1.2 = true ∧ y = (if (prsS se (dp - 1) t sub (toks t 600 0 []).2 [] es 1 1).1 = nI 0 then nI ((toks t 600 0 []).2.filter (fun e => isTg e.1)).length else (prsS se (dp - 1) t sub (toks t 600 0 []).2 [] es 1 1).1) ∧ (∃ f g' L', NW M' B f g' L' (prsS se (dp - 1) t sub (toks t 600 0 []).2 [] es 1 1).2.1 dp se) ∧ ∃ tk' tg' pos' ans' pf' pt', XW M' B [] tk' tg' pos' ans' out sub (prsS se (dp - 1) t sub (toks t 600 0 []).2 [] es 1 1).2.2.1 (prsS se (dp - 1) t sub (toks t 600 0 []).2 [] es 1 1).2.2.2 pf' pt') ∨ ((toks t 600 0 []).1.2 = false ∧ y = aI (some (toks t 600 0 []).1.1) ∧ (∃ f g' L', NW M' B f g' L' es dp se) ∧ ∃ tk' tg' pos' ans' pf' pt', XW M' B [] tk' tg' pos' ans' out sub fr bg pf' pt')) ∧ FrB M M' B)) := by
  refine xC_of (by decide) (Nat.le_of_ble_eq_true rfl) (by simp [Value.category]) (vs := [some (.ref B), none, none, none, none]) rfl (fun K hX hE => ?_)
  obtain ⟨h1, -⟩ := id h
  obtain ⟨hr, -⟩ := id hx
  obtain ⟨q1, -⟩ := id hr
  have htl : t.length ≤ 600 := hr.2.1.2.1
  have hG := toks_G htl 600 0 [] (fun e he => absurd he List.not_mem_nil)
  have hB := toks_bad (t := t) 600 0 []
  generalize hT : toks t 600 0 [] = T at *
  refine xp_aload_0 (pc := 0) hX d_Nam_parse_0 ?_
  refine xg_get (pc := 1) hX (j := 6) k_Nam d_Nam_parse_1 l_Nam_10 (by decide) (by first | assumption | exact xup_s _ _ _ | exact xup_o (by omega) (by assumption) | exact xup_o (by omega) (xup_s _ _ _) | exact xup_o (by omega) (xup_o (by omega) (by assumption)) | exact xup_o (by omega) (xup_o (by omega) (xup_s _ _ _)) | exact xup_o (by omega) (xup_o (by omega) (xup_o (by omega) (by assumption)))) (by rfl) ?_
  refine xi_V (Y2 := Y_Rea_readTemplate) (pc := 4) hX [] k_Rea m_Rea_readTemplate d_Nam_parse_4 l_Nam_141 rfl rfl (by simp [Value.category]) (by first | assumption | exact xup_s _ _ _ | exact xup_o (by omega) (by assumption) | exact xup_o (by omega) (xup_s _ _ _) | exact xup_o (by omega) (xup_o (by omega) (by assumption)) | exact xup_o (by omega) (xup_o (by omega) (xup_s _ _ _)) | exact xup_o (by omega) (xup_o (by omega) (xup_o (by omega) (by assumption)))) (c_Rea_readTemplate d hr) (by omega) (by omega) ?_
  rw [hT]
  rintro y M1 ⟨hc, f1⟩
  have nw1 := h.rea f1
  obtain ⟨n1, -⟩ := id nw1
  rcases hc with ⟨b1, rfl, pos1, b2⟩ | ⟨b1, rfl, tk1, tg1, pos1, b2⟩
  · have xw1 := hx.rea f1 b2
    obtain ⟨-, -, -, sf, st, hcu⟩ := id xw1
    obtain ⟨c1, c2⟩ := id hcu
    have hsl : sub.length ≤ 200 := c2.2.1
    generalize hR : prsS se (dp - 1) t sub T.2 [] es 1 1 = R at *
    -- the end of the method
    have k104 : ∀ (vs : List (Option Value)) (y : Int32) (M2 : xH) (fr' bg' pf' pt' : Nat), y = R.1 → (∃ f g' L', NW M2 B f g' L' R.2.1 dp se) → XW M2 B t T.2 (T.2.filter (fun e => isTg e.1)).length pos1 none out sub R.2.2.1 R.2.2.2 pf' pt' → FrB M M2 B → xG K 104 (some (.ref B) :: some (.int y) :: vs) [] M2 sz 0 0 := by
      rintro vs y M2 fr' bg' pf' pt' rfl ⟨f, g', L', nw2⟩ xw2 fb
      obtain ⟨n1, -⟩ := id nw2
      obtain ⟨hr2, -⟩ := id xw2
      obtain ⟨q1, q2, -⟩ := id hr2
      obtain ⟨r2, -⟩ := id q2
      refine xp_aload_0 (pc := 104) hX d_Nam_parse_104 ?_
      refine xg_get (pc := 105) hX (j := 0) k_Nam d_Nam_parse_105 l_Nam_20 (by decide) (by first | assumption | exact xup_s _ _ _ | exact xup_o (by omega) (by assumption) | exact xup_o (by omega) (xup_s _ _ _) | exact xup_o (by omega) (xup_o (by omega) (by assumption)) | exact xup_o (by omega) (xup_o (by omega) (xup_s _ _ _)) | exact xup_o (by omega) (xup_o (by omega) (xup_o (by omega) (by assumption)))) (by rfl) ?_
      refine xv_V (Y2 := Y_Row_clear) (pc := 108) hX [] k_Row m_Row_clear d_Nam_parse_108 l_Nam_89 rfl rfl (by simp [Value.category]) (by first | assumption | exact xup_s _ _ _ | exact xup_o (by omega) (by assumption) | exact xup_o (by omega) (xup_s _ _ _) | exact xup_o (by omega) (xup_o (by omega) (by assumption)) | exact xup_o (by omega) (xup_o (by omega) (xup_s _ _ _)) | exact xup_o (by omega) (xup_o (by omega) (xup_o (by omega) (by assumption)))) (c_Row_clear (d + 5) q2) (by omega) (by omega) ?_
      rintro M3 ⟨a1, a2⟩
      have nw3 := nw2.txt a2
      have xw3 := xw2.txt a2 a1
      obtain ⟨n1, -⟩ := id nw3
      obtain ⟨hr3, -⟩ := id xw3
      obtain ⟨q1, -⟩ := id hr3
      refine xp_iload_1 (pc := 111) hX d_Nam_parse_111 ?_
      refine xg_if_ne (pc := 112) hX 125 d_Nam_parse_112 (by decide) (fun z => ?_) (fun z => ?_)
      · refine xp_iload_1 (pc := 125) hX d_Nam_parse_125 ?_
        refine xg_iret (pc := 126) hX hE d_Nam_parse_126 rfl rfl (by omega) (by omega) ?_
        refine ⟨rfl, _, rfl, Or.inl ⟨b1, ?_, ⟨f, g', L', nw3⟩, ⟨_, _, _, _, _, _, xw3⟩⟩, fb.tr (FrB.r2 a2 (by omega) (by omega))⟩
        rw [if_neg (fun q => z (by rw [q]; decide))]
      · refine xp_aload_0 (pc := 115) hX d_Nam_parse_115 ?_
        refine xg_get (pc := 116) hX (j := 6) k_Nam d_Nam_parse_116 l_Nam_10 (by decide) (by first | assumption | exact xup_s _ _ _ | exact xup_o (by omega) (by assumption) | exact xup_o (by omega) (xup_s _ _ _) | exact xup_o (by omega) (xup_o (by omega) (by assumption)) | exact xup_o (by omega) (xup_o (by omega) (xup_s _ _ _)) | exact xup_o (by omega) (xup_o (by omega) (xup_o (by omega) (by assumption)))) (by rfl) ?_
        refine xg_get (pc := 119) hX (j := 5) k_Rea d_Nam_parse_119 l_Nam_157 (by decide) (by first | assumption | exact xup_s _ _ _ | exact xup_o (by omega) (by assumption) | exact xup_o (by omega) (xup_s _ _ _) | exact xup_o (by omega) (xup_o (by omega) (by assumption)) | exact xup_o (by omega) (xup_o (by omega) (xup_s _ _ _)) | exact xup_o (by omega) (xup_o (by omega) (xup_o (by omega) (by assumption)))) (by rfl) ?_
        refine xg_goto (pc := 122) hX 126 d_Nam_parse_122 (by decide) ?_
        refine xg_iret (pc := 126) hX hE d_Nam_parse_126 rfl rfl (by omega) (by omega) ?_
        refine ⟨rfl, _, rfl, Or.inl ⟨b1, ?_, ⟨f, g', L', nw3⟩, ⟨_, _, _, _, _, _, xw3⟩⟩, fb.tr (FrB.r2 a2 (by omega) (by omega))⟩
        rw [if_pos (by rw [z]; decide)]
    -- the loop's head with an answer that is not 0
    have k23f : ∀ (vs : List (Option Value)) (y : Int32) (w i : Nat) (M2 : xH) (pf' pt' : Nat), ¬ y = 0 → i ≤ 602 → y = R.1 → (∃ f g' L', NW M2 B f g' L' R.2.1 dp se) → XW M2 B t T.2 (T.2.filter (fun e => isTg e.1)).length pos1 none out sub R.2.2.1 R.2.2.2 pf' pt' → FrB M M2 B → xG K 23 (some (.ref B) :: some (.int y) :: some (.int (nI w)) :: some (.int (nI i)) :: vs) [] M2 sz 0 0 := by
      intro vs y w i M2 pf' pt' hy hi hyR hn xw2 fb
      obtain ⟨f, g', L', nw2⟩ := id hn
      obtain ⟨n1, -⟩ := id nw2
      obtain ⟨hr2, -⟩ := id xw2
      obtain ⟨q1, -, q3, -⟩ := id hr2
      refine xp_iload_3 (pc := 23) hX d_Nam_parse_23 ?_
      refine xp_aload_0 (pc := 24) hX d_Nam_parse_24 ?_
      refine xg_get (pc := 25) hX (j := 6) k_Nam d_Nam_parse_25 l_Nam_10 (by decide) (by first | assumption | exact xup_s _ _ _ | exact xup_o (by omega) (by assumption) | exact xup_o (by omega) (xup_s _ _ _) | exact xup_o (by omega) (xup_o (by omega) (by assumption)) | exact xup_o (by omega) (xup_o (by omega) (xup_s _ _ _)) | exact xup_o (by omega) (xup_o (by omega) (xup_o (by omega) (by assumption)))) (by rfl) ?_
      refine xg_get (pc := 28) hX (j := 4) k_Rea d_Nam_parse_28 l_Nam_118 (by decide) (by first | assumption | exact xup_s _ _ _ | exact xup_o (by omega) (by assumption) | exact xup_o (by omega) (xup_s _ _ _) | exact xup_o (by omega) (xup_o (by omega) (by assumption)) | exact xup_o (by omega) (xup_o (by omega) (xup_s _ _ _)) | exact xup_o (by omega) (xup_o (by omega) (xup_o (by omega) (by assumption)))) (by rfl) ?_
      refine xn_icmp_gt (pc := 31) hX 104 d_Nam_parse_31 (by decide) (by omega) (by omega) (fun _ => k104 _ y M2 0 0 pf' pt' hyR hn xw2 fb) (fun _ => ?_)
      refine xp_iload_1 (pc := 34) hX d_Nam_parse_34 ?_
      refine xg_if_ne (pc := 35) hX 104 d_Nam_parse_35 (by decide) (fun _ => k104 _ y M2 0 0 pf' pt' hyR hn xw2 fb) (fun z => absurd z hy)
    have htk6 : T.2.length ≤ 600 := b2.2.2.1
    -- handing over
    have inner : ∀ (r : List xTk) (k i w pf0 pt0 : Nat) (es1 : List xEn) (M2 : xH) (fr1 bg1 : Nat), (T.2.drop k).take (i - k) = r → k ≤ i → i ≤ T.2.length → 1 ≤ pf0 → pf0 ≤ pt0 → pt0 ≤ sub.length + 1 → gI es1 → (∃ f g' L', NW M2 B f g' L' es1 dp se) → XW M2 B t T.2 (T.2.filter (fun e => isTg e.1)).length pos1 none out sub fr1 bg1 pf0 pt0 → FrB M M2 B → (∀ (M3 : xH) (kx pf' : Nat), (∃ f g' L', NW M3 B f g' L' (hndL se (dp - 1) t sub pt0 r pf0 es1).2 dp se) → XW M3 B t T.2 (T.2.filter (fun e => isTg e.1)).length pos1 none out sub fr1 bg1 pf' pt0 → FrB M M3 B → xG K 94 [some (.ref B), some (.int (hndL se (dp - 1) t sub pt0 r pf0 es1).1), some (.int (nI w)), some (.int (nI i)), some (.int (nI kx))] [] M3 sz 0 0) → xG K 58 [some (.ref B), some (.int (nI 0)), some (.int (nI w)), some (.int (nI i)), some (.int (nI k))] [] M2 sz 0 0 := by
      intro r
      induction r with
      | nil =>
        intro k i w pf0 pt0 es1 M2 fr1 bg1 hd hki hil hp1 hp2 hp3 hg1 hn xw2 fb kk
        have hke : k = i := by
          have := congrArg List.length hd
          simp at this
          omega
        subst hke
        refine xp_iload_4 (pc := 58) hX d_Nam_parse_58 ?_
        refine xp_iload_3 (pc := 60) hX d_Nam_parse_60 ?_
        refine xn_icmp_ge (pc := 61) hX 94 d_Nam_parse_61 (by decide) (by omega) (by omega) (fun _ => ?_) (fun z => absurd z (by omega))
        exact kk M2 k pf0 hn xw2 fb
      | cons e r ih =>
        intro k i w pf0 pt0 es1 M2 fr1 bg1 hd hki hil hp1 hp2 hp3 hg1 hn xw2 fb kk
        have hlt : k < i := by
          have := congrArg List.length hd
          simp at this
          omega
        have hke : T.2[k]? = some e := by
          have := congrArg (fun l => l[0]?) hd
          simp [show 0 < i - k by omega] at this
          exact this
        have hdr : (T.2.drop (k + 1)).take (i - (k + 1)) = r := by
          have h9 := congrArg (List.drop 1) hd
          rw [List.drop_take, List.drop_drop, show i - k - 1 = i - (k + 1) by omega] at h9
          simpa using h9
        have hre : r.isEmpty = decide (k = i - 1) := by
          have hrl : r.length = i - (k + 1) := by
            rw [← hdr, List.length_take, List.length_drop]
            omega
          cases r with
          | nil =>
            simp at hrl ⊢
            omega
          | cons x r' =>
            simp at hrl ⊢
            omega
        obtain ⟨f, g', L', nw2⟩ := id hn
        obtain ⟨n1, -⟩ := id nw2
        have hw := wrdS_in (last := r.isEmpty) hp1 hp2 hp3
        have hnz := hd1_nz (es := es1) (se := se) (ip := dp - 1) (t := t) (sub := sub) (s := (wrdS r.isEmpty sub pf0 pt0).1) (e := (wrdS r.isEmpty sub pf0 pt0).2.1) (k := e)
        have hgh := gI_hd1 (se := se) (ip := dp - 1) (t := t) (sub := sub) (s := (wrdS r.isEmpty sub pf0 pt0).1) (e := (wrdS r.isEmpty sub pf0 pt0).2.1) (k := e) hg1
        have hh : hndL se (dp - 1) t sub pt0 (e :: r) pf0 es1 = if (hd1 es1 se (dp - 1) t sub (wrdS r.isEmpty sub pf0 pt0).1 (wrdS r.isEmpty sub pf0 pt0).2.1 e).1 = nI 0 then hndL se (dp - 1) t sub pt0 r (wrdS r.isEmpty sub pf0 pt0).2.2 (hd1 es1 se (dp - 1) t sub (wrdS r.isEmpty sub pf0 pt0).1 (wrdS r.isEmpty sub pf0 pt0).2.1 e).2 else hd1 es1 se (dp - 1) t sub (wrdS r.isEmpty sub pf0 pt0).1 (wrdS r.isEmpty sub pf0 pt0).2.1 e := rfl
        have k84 : xG K 84 [some (.ref B), some (.int (nI 0)), some (.int (nI w)), some (.int (nI i)), some (.int (nI k))] [.int (bI r.isEmpty), .int (nI k), .ref B] M2 sz 0 0 := by
          refine xi_V (Y2 := Y_Nam_handOver) (pc := 84) hX [_, _] k_Nam m_Nam_handOver d_Nam_parse_84 l_Nam_153 rfl rfl (by simp [Value.category]) (by first | assumption | exact xup_s _ _ _ | exact xup_o (by omega) (by assumption) | exact xup_o (by omega) (xup_s _ _ _) | exact xup_o (by omega) (xup_o (by omega) (by assumption)) | exact xup_o (by omega) (xup_o (by omega) (xup_s _ _ _)) | exact xup_o (by omega) (xup_o (by omega) (xup_o (by omega) (by assumption)))) (c_Nam_handOver d nw2 xw2 hke (hG e (List.mem_of_getElem? hke)) hp1 hp2 hp3) (by omega) (by omega) ?_
          rintro y M3 ⟨rfl, hn3, xw3, f3⟩
          generalize hd1 es1 se (dp - 1) t sub (wrdS r.isEmpty sub pf0 pt0).1 (wrdS r.isEmpty sub pf0 pt0).2.1 e = HD at *
          generalize wrdS r.isEmpty sub pf0 pt0 = W at *
          refine xp_istore_1 (pc := 87) hX d_Nam_parse_87 (by decide) ?_
          refine xp_inc_4 (pc := 88) hX d_Nam_parse_88 (by decide) ?_
          refine xg_goto (pc := 91) hX 58 d_Nam_parse_91 (by decide) ?_
          by_cases hz : HD.1 = nI 0
          · rw [if_pos hz] at hh
            rw [hh] at kk
            rw [hz]
            exact ih (k + 1) i w W.2.2 pt0 HD.2 M3 fr1 bg1 hdr (by omega) hil (by omega) (by omega) hp3 hgh hn3 xw3 (fb.tr f3) kk
          · rw [if_neg hz] at hh
            rw [hh] at kk
            have k94 := kk M3 (k + 1) W.2.2 hn3 xw3 (fb.tr f3)
            refine xp_iload_4 (pc := 58) hX d_Nam_parse_58 ?_
            refine xp_iload_3 (pc := 60) hX d_Nam_parse_60 ?_
            refine xn_icmp_ge (pc := 61) hX 94 d_Nam_parse_61 (by decide) (by omega) (by omega) (fun _ => k94) (fun _ => ?_)
            refine xp_iload_1 (pc := 64) hX d_Nam_parse_64 ?_
            refine xg_if_ne (pc := 65) hX 94 d_Nam_parse_65 (by decide) (fun _ => k94) (fun z => absurd (by rw [z]; decide) hz)
        refine xp_iload_4 (pc := 58) hX d_Nam_parse_58 ?_
        refine xp_iload_3 (pc := 60) hX d_Nam_parse_60 ?_
        refine xn_icmp_ge (pc := 61) hX 94 d_Nam_parse_61 (by decide) (by omega) (by omega) (fun z => absurd z (by omega)) (fun _ => ?_)
        refine xp_iload_1 (pc := 64) hX d_Nam_parse_64 ?_
        refine xn_if_ne (pc := 65) hX 94 d_Nam_parse_65 (by decide) (by decide) (fun z => absurd z (by decide)) (fun _ => ?_)
        refine xp_aload_0 (pc := 68) hX d_Nam_parse_68 ?_
        refine xp_iload_4 (pc := 69) hX d_Nam_parse_69 ?_
        refine xp_iload_4 (pc := 71) hX d_Nam_parse_71 ?_
        refine xp_iload_3 (pc := 73) hX d_Nam_parse_73 ?_
        refine xg_iconst (pc := 74) hX (nI 1) d_Nam_parse_74 ci_iconst_1 ?_
        first | refine xn_isub (pc := 75) hX d_Nam_parse_75 (by omega) ?_ | refine xg_isub (pc := 75) hX d_Nam_parse_75 ?_
        refine xn_icmp_ne (pc := 76) hX 83 d_Nam_parse_76 (by decide) (by omega) (by omega) (fun z => ?_) (fun z => ?_)
        · refine xg_iconst (pc := 83) hX (nI 0) d_Nam_parse_83 ci_iconst_0 ?_
          rw [hre, decide_eq_false z] at k84
          exact k84
        · refine xg_iconst (pc := 79) hX (nI 1) d_Nam_parse_79 ci_iconst_1 ?_
          refine xg_goto (pc := 80) hX 84 d_Nam_parse_80 (by decide) ?_
          rw [hre, decide_eq_true z] at k84
          exact k84
    -- the tokens
    have loop : ∀ (r : List xTk) (i w : Nat) (es1 : List xEn) (M2 : xH) (fr1 bg1 pf1 pt1 : Nat), T.2.drop i = r → i ≤ T.2.length → w ≤ i → 1 ≤ fr1 → fr1 ≤ sub.length + 1 → 1 ≤ bg1 → bg1 ≤ sub.length + 1 → gI es1 → R = prsS se (dp - 1) t sub r ((T.2.drop w).take (i - w)) es1 fr1 bg1 → (∃ f g' L', NW M2 B f g' L' es1 dp se) → XW M2 B t T.2 (T.2.filter (fun e => isTg e.1)).length pos1 none out sub fr1 bg1 pf1 pt1 → FrB M M2 B → ∀ z4 : Option Value, xG K 23 [some (.ref B), some (.int (nI 0)), some (.int (nI w)), some (.int (nI i)), z4] [] M2 sz 0 0 := by
      intro r
      induction r with
      | nil =>
        intro i w es1 M2 fr1 bg1 pf1 pt1 hd hil hwi hf1 hf2 hb1 hb2 hg1 hRR hn xw2 fb z4
        obtain ⟨f, g', L', nw2⟩ := id hn
        obtain ⟨n1, -⟩ := id nw2
        obtain ⟨hr2, -⟩ := id xw2
        obtain ⟨q1, -⟩ := id hr2
        have hie : i = T.2.length := by
          have := congrArg List.length hd
          simp at this
          omega
        have hnone : T.2[i]? = none := List.getElem?_eq_none (by omega)
        have hk0 : tkK T.2 i = 0 := by unfold tkK; rw [hnone]
        have hR2 : R = ((hndL se (dp - 1) t sub (sub.length + 1) ((T.2.drop w).take (i - w)) fr1 es1).1, (hndL se (dp - 1) t sub (sub.length + 1) ((T.2.drop w).take (i - w)) fr1 es1).2, fr1, bg1) := hRR
        refine xp_iload_3 (pc := 23) hX d_Nam_parse_23 ?_
        refine xp_aload_0 (pc := 24) hX d_Nam_parse_24 ?_
        refine xg_get (pc := 25) hX (j := 6) k_Nam d_Nam_parse_25 l_Nam_10 (by decide) (by first | assumption | exact xup_s _ _ _ | exact xup_o (by omega) (by assumption) | exact xup_o (by omega) (xup_s _ _ _) | exact xup_o (by omega) (xup_o (by omega) (by assumption)) | exact xup_o (by omega) (xup_o (by omega) (xup_s _ _ _)) | exact xup_o (by omega) (xup_o (by omega) (xup_o (by omega) (by assumption)))) (by rfl) ?_
        refine xg_get (pc := 28) hX (j := 4) k_Rea d_Nam_parse_28 l_Nam_118 (by decide) (by first | assumption | exact xup_s _ _ _ | exact xup_o (by omega) (by assumption) | exact xup_o (by omega) (xup_s _ _ _) | exact xup_o (by omega) (xup_o (by omega) (by assumption)) | exact xup_o (by omega) (xup_o (by omega) (xup_s _ _ _)) | exact xup_o (by omega) (xup_o (by omega) (xup_o (by omega) (by assumption)))) (by rfl) ?_
        refine xn_icmp_gt (pc := 31) hX 104 d_Nam_parse_31 (by decide) (by omega) (by omega) (fun z => absurd z (by omega)) (fun _ => ?_)
        refine xp_iload_1 (pc := 34) hX d_Nam_parse_34 ?_
        refine xn_if_ne (pc := 35) hX 104 d_Nam_parse_35 (by decide) (by decide) (fun z => absurd z (by decide)) (fun _ => ?_)
        refine xp_aload_0 (pc := 38) hX d_Nam_parse_38 ?_
        refine xg_get (pc := 39) hX (j := 6) k_Nam d_Nam_parse_39 l_Nam_10 (by decide) (by first | assumption | exact xup_s _ _ _ | exact xup_o (by omega) (by assumption) | exact xup_o (by omega) (xup_s _ _ _) | exact xup_o (by omega) (xup_o (by omega) (by assumption)) | exact xup_o (by omega) (xup_o (by omega) (xup_s _ _ _)) | exact xup_o (by omega) (xup_o (by omega) (xup_o (by omega) (by assumption)))) (by rfl) ?_
        refine xp_iload_3 (pc := 42) hX d_Nam_parse_42 ?_
        refine xi_V (Y2 := Y_Rea_isTarget) (pc := 43) hX [_] k_Rea m_Rea_isTarget d_Nam_parse_43 l_Nam_147 rfl rfl (by simp [Value.category]) (by first | assumption | exact xup_s _ _ _ | exact xup_o (by omega) (by assumption) | exact xup_o (by omega) (xup_s _ _ _) | exact xup_o (by omega) (xup_o (by omega) (by assumption)) | exact xup_o (by omega) (xup_o (by omega) (xup_s _ _ _)) | exact xup_o (by omega) (xup_o (by omega) (xup_o (by omega) (by assumption)))) (c_Rea_isTarget (d + 4) hr2 (by omega) (fun e he => by have := (hG e he).1; omega)) (by omega) (by omega) ?_
        rintro y M3 ⟨rfl, rfl⟩
        rw [hk0]
        refine xg_if_ne (pc := 46) hX 98 d_Nam_parse_46 (by decide) (fun z => absurd (by decide) z) (fun _ => ?_)
        refine xp_aload_0 (pc := 49) hX d_Nam_parse_49 ?_
        refine xp_iload_3 (pc := 50) hX d_Nam_parse_50 ?_
        refine xi_V (Y2 := Y_Nam_cutAt) (pc := 51) hX [_] k_Nam m_Nam_cutAt d_Nam_parse_51 l_Nam_150 rfl rfl (by simp [Value.category]) (by first | assumption | exact xup_s _ _ _ | exact xup_o (by omega) (by assumption) | exact xup_o (by omega) (xup_s _ _ _) | exact xup_o (by omega) (xup_o (by omega) (by assumption)) | exact xup_o (by omega) (xup_o (by omega) (xup_s _ _ _)) | exact xup_o (by omega) (xup_o (by omega) (xup_o (by omega) (by assumption)))) (c_Nam_cutAt d nw2 xw2 hG (by omega) (by rw [hk0]; rfl) hg1 hf1 hf2 (by omega)) (by omega) (by omega) ?_
        rintro y M4 ⟨hcut, f4⟩
        rw [hnone] at hcut
        rcases hcut with ⟨f5, Rc, e1, rfl, nw4, xw4⟩ | ⟨f5, e1, -⟩
        · have e1 : Rc = (fr1, sub.length + 1, bg1, fr1) := (Option.some.inj e1).symm
          subst e1
          dsimp only at xw4
          refine xp_istore_1 (pc := 54) hX d_Nam_parse_54 (by decide) ?_
          refine xp_iload_2 (pc := 55) hX d_Nam_parse_55 ?_
          refine xp_istore_4 (pc := 56) hX d_Nam_parse_56 (by decide) ?_
          refine inner _ w i w fr1 (sub.length + 1) es1 M4 fr1 bg1 rfl hwi hil hf1 hf2 (Nat.le_refl _) hg1 ⟨_, _, _, nw4⟩ xw4 (fb.tr f4) ?_
          intro M5 kx pf' hn5 xw5 f5
          refine xp_iload_3 (pc := 94) hX d_Nam_parse_94 ?_
          refine xg_iconst (pc := 95) hX (nI 1) d_Nam_parse_95 ci_iconst_1 ?_
          first | refine xn_iadd (pc := 96) hX d_Nam_parse_96 ?_ | refine xg_iadd (pc := 96) hX d_Nam_parse_96 ?_
          refine xp_istore_2 (pc := 97) hX d_Nam_parse_97 (by decide) ?_
          refine xp_inc_3 (pc := 98) hX d_Nam_parse_98 (by decide) ?_
          refine xg_goto (pc := 101) hX 23 d_Nam_parse_101 (by decide) ?_
          have hRa : (hndL se (dp - 1) t sub (sub.length + 1) ((T.2.drop w).take (i - w)) fr1 es1).1 = R.1 := by rw [hR2]
          have hRb : (hndL se (dp - 1) t sub (sub.length + 1) ((T.2.drop w).take (i - w)) fr1 es1).2 = R.2.1 := by rw [hR2]
          have hRc : fr1 = R.2.2.1 := by rw [hR2]
          have hRd : bg1 = R.2.2.2 := by rw [hR2]
          rw [hRb] at hn5
          rw [hRc, hRd] at xw5
          rw [hRa]
          obtain ⟨f, g', L', nw5⟩ := id hn5
          obtain ⟨n1, -⟩ := id nw5
          obtain ⟨hr5, -⟩ := id xw5
          obtain ⟨q1, -⟩ := id hr5
          refine xp_iload_3 (pc := 23) hX d_Nam_parse_23 ?_
          refine xp_aload_0 (pc := 24) hX d_Nam_parse_24 ?_
          refine xg_get (pc := 25) hX (j := 6) k_Nam d_Nam_parse_25 l_Nam_10 (by decide) (by first | assumption | exact xup_s _ _ _ | exact xup_o (by omega) (by assumption) | exact xup_o (by omega) (xup_s _ _ _) | exact xup_o (by omega) (xup_o (by omega) (by assumption)) | exact xup_o (by omega) (xup_o (by omega) (xup_s _ _ _)) | exact xup_o (by omega) (xup_o (by omega) (xup_o (by omega) (by assumption)))) (by rfl) ?_
          refine xg_get (pc := 28) hX (j := 4) k_Rea d_Nam_parse_28 l_Nam_118 (by decide) (by first | assumption | exact xup_s _ _ _ | exact xup_o (by omega) (by assumption) | exact xup_o (by omega) (xup_s _ _ _) | exact xup_o (by omega) (xup_o (by omega) (by assumption)) | exact xup_o (by omega) (xup_o (by omega) (xup_s _ _ _)) | exact xup_o (by omega) (xup_o (by omega) (xup_o (by omega) (by assumption)))) (by rfl) ?_
          refine xn_icmp_gt (pc := 31) hX 104 d_Nam_parse_31 (by decide) (by omega) (by omega) (fun _ => ?_) (fun z => absurd z (by omega))
          exact k104 _ R.1 M5 0 0 _ _ rfl hn5 xw5 f5
        · cases e1
      | cons e r ih =>
        intro i w es1 M2 fr1 bg1 pf1 pt1 hd hil hwi hf1 hf2 hb1 hb2 hg1 hRR hn xw2 fb z4
        obtain ⟨f, g', L', nw2⟩ := id hn
        obtain ⟨n1, -⟩ := id nw2
        obtain ⟨hr2, -⟩ := id xw2
        obtain ⟨q1, -⟩ := id hr2
        have hlt : i < T.2.length := by
          have := congrArg List.length hd
          simp at this
          omega
        have hie : T.2[i]? = some e := by
          have := congrArg (fun l => l[0]?) hd
          simpa using this
        have hdr : T.2.drop (i + 1) = r := by
          have h9 := congrArg (List.drop 1) hd
          rw [List.drop_drop] at h9
          simpa using h9
        have hk0 : tkK T.2 i = e.1 := by unfold tkK; rw [hie]
        have hR2 : R = if isTg e.1 then prsS se (dp - 1) t sub r ((T.2.drop w).take (i - w) ++ [e]) es1 fr1 bg1 else match cutS es1 se (dp - 1) t sub fr1 bg1 (some e) with
          | none => (-2, es1, fr1, bg1)
          | some Rc => if (hndL se (dp - 1) t sub Rc.2.1 ((T.2.drop w).take (i - w)) Rc.1 es1).1 = nI 0 then prsS se (dp - 1) t sub r [] (hndL se (dp - 1) t sub Rc.2.1 ((T.2.drop w).take (i - w)) Rc.1 es1).2 Rc.2.2.2 Rc.2.2.1 else ((hndL se (dp - 1) t sub Rc.2.1 ((T.2.drop w).take (i - w)) Rc.1 es1).1, (hndL se (dp - 1) t sub Rc.2.1 ((T.2.drop w).take (i - w)) Rc.1 es1).2, Rc.2.2.2, Rc.2.2.1) := hRR
        refine xp_iload_3 (pc := 23) hX d_Nam_parse_23 ?_
        refine xp_aload_0 (pc := 24) hX d_Nam_parse_24 ?_
        refine xg_get (pc := 25) hX (j := 6) k_Nam d_Nam_parse_25 l_Nam_10 (by decide) (by first | assumption | exact xup_s _ _ _ | exact xup_o (by omega) (by assumption) | exact xup_o (by omega) (xup_s _ _ _) | exact xup_o (by omega) (xup_o (by omega) (by assumption)) | exact xup_o (by omega) (xup_o (by omega) (xup_s _ _ _)) | exact xup_o (by omega) (xup_o (by omega) (xup_o (by omega) (by assumption)))) (by rfl) ?_
        refine xg_get (pc := 28) hX (j := 4) k_Rea d_Nam_parse_28 l_Nam_118 (by decide) (by first | assumption | exact xup_s _ _ _ | exact xup_o (by omega) (by assumption) | exact xup_o (by omega) (xup_s _ _ _) | exact xup_o (by omega) (xup_o (by omega) (by assumption)) | exact xup_o (by omega) (xup_o (by omega) (xup_s _ _ _)) | exact xup_o (by omega) (xup_o (by omega) (xup_o (by omega) (by assumption)))) (by rfl) ?_
        refine xn_icmp_gt (pc := 31) hX 104 d_Nam_parse_31 (by decide) (by omega) (by omega) (fun z => absurd z (by omega)) (fun _ => ?_)
        refine xp_iload_1 (pc := 34) hX d_Nam_parse_34 ?_
        refine xn_if_ne (pc := 35) hX 104 d_Nam_parse_35 (by decide) (by decide) (fun z => absurd z (by decide)) (fun _ => ?_)
        refine xp_aload_0 (pc := 38) hX d_Nam_parse_38 ?_
        refine xg_get (pc := 39) hX (j := 6) k_Nam d_Nam_parse_39 l_Nam_10 (by decide) (by first | assumption | exact xup_s _ _ _ | exact xup_o (by omega) (by assumption) | exact xup_o (by omega) (xup_s _ _ _) | exact xup_o (by omega) (xup_o (by omega) (by assumption)) | exact xup_o (by omega) (xup_o (by omega) (xup_s _ _ _)) | exact xup_o (by omega) (xup_o (by omega) (xup_o (by omega) (by assumption)))) (by rfl) ?_
        refine xp_iload_3 (pc := 42) hX d_Nam_parse_42 ?_
        refine xi_V (Y2 := Y_Rea_isTarget) (pc := 43) hX [_] k_Rea m_Rea_isTarget d_Nam_parse_43 l_Nam_147 rfl rfl (by simp [Value.category]) (by first | assumption | exact xup_s _ _ _ | exact xup_o (by omega) (by assumption) | exact xup_o (by omega) (xup_s _ _ _) | exact xup_o (by omega) (xup_o (by omega) (by assumption)) | exact xup_o (by omega) (xup_o (by omega) (xup_s _ _ _)) | exact xup_o (by omega) (xup_o (by omega) (xup_o (by omega) (by assumption)))) (c_Rea_isTarget (d + 4) hr2 (by omega) (fun e he => by have := (hG e he).1; omega)) (by omega) (by omega) ?_
        rintro y M3 ⟨rfl, rfl⟩
        rw [hk0]
        refine xg_if_ne (pc := 46) hX 98 d_Nam_parse_46 (by decide) (fun z => ?_) (fun z => ?_)
        · have z := bI_ne0.mp z
          rw [if_pos z] at hR2
          refine xp_inc_3 (pc := 98) hX d_Nam_parse_98 (by decide) ?_
          refine xg_goto (pc := 101) hX 23 d_Nam_parse_101 (by decide) ?_
          refine ih (i + 1) w es1 M3 fr1 bg1 pf1 pt1 hdr (by omega) (by omega) hf1 hf2 hb1 hb2 hg1 ?_ hn xw2 fb z4
          rw [hR2]
          congr 1
          rw [show i + 1 - w = (i - w) + 1 by omega, List.take_succ, List.getElem?_drop, show w + (i - w) = i by omega, hie]
          rfl
        · have z := bI_eq0.mp z
          rw [if_neg (by rw [z]; decide)] at hR2
          refine xp_aload_0 (pc := 49) hX d_Nam_parse_49 ?_
          refine xp_iload_3 (pc := 50) hX d_Nam_parse_50 ?_
          refine xi_V (Y2 := Y_Nam_cutAt) (pc := 51) hX [_] k_Nam m_Nam_cutAt d_Nam_parse_51 l_Nam_150 rfl rfl (by simp [Value.category]) (by first | assumption | exact xup_s _ _ _ | exact xup_o (by omega) (by assumption) | exact xup_o (by omega) (xup_s _ _ _) | exact xup_o (by omega) (xup_o (by omega) (by assumption)) | exact xup_o (by omega) (xup_o (by omega) (xup_s _ _ _)) | exact xup_o (by omega) (xup_o (by omega) (xup_o (by omega) (by assumption)))) (c_Nam_cutAt d nw2 xw2 hG (by omega) (by rw [hk0]; exact z) hg1 hf1 hf2 (by omega)) (by omega) (by omega) ?_
          rintro y M4 ⟨hcut, f4⟩
          rw [hie] at hcut
          rcases hcut with ⟨f5, Rc, e1, rfl, nw4, xw4⟩ | ⟨f5, e1, rfl, nw4, xw4⟩
          · have hin := cutS_in hf1 hf2 hb1 hb2 e1
            rw [e1] at hR2
            dsimp only at hR2
            refine xp_istore_1 (pc := 54) hX d_Nam_parse_54 (by decide) ?_
            refine xp_iload_2 (pc := 55) hX d_Nam_parse_55 ?_
            refine xp_istore_4 (pc := 56) hX d_Nam_parse_56 (by decide) ?_
            refine inner _ w i w Rc.1 Rc.2.1 es1 M4 Rc.2.2.2 Rc.2.2.1 rfl hwi hil (by omega) (by omega) (by omega) hg1 ⟨_, _, _, nw4⟩ xw4 (fb.tr f4) ?_
            intro M5 kx pf' hn5 xw5 f5
            have hgh := gI_hndL (se := se) (ip := dp - 1) (t := t) (sub := sub) (pt := Rc.2.1) ((T.2.drop w).take (i - w)) Rc.1 es1 hg1
            generalize hndL se (dp - 1) t sub Rc.2.1 ((T.2.drop w).take (i - w)) Rc.1 es1 = HL at *
            by_cases hz : HL.1 = nI 0
            · rw [if_pos hz] at hR2
              rw [hz]
              refine xp_iload_3 (pc := 94) hX d_Nam_parse_94 ?_
              refine xg_iconst (pc := 95) hX (nI 1) d_Nam_parse_95 ci_iconst_1 ?_
              first | refine xn_iadd (pc := 96) hX d_Nam_parse_96 ?_ | refine xg_iadd (pc := 96) hX d_Nam_parse_96 ?_
              refine xp_istore_2 (pc := 97) hX d_Nam_parse_97 (by decide) ?_
              refine xp_inc_3 (pc := 98) hX d_Nam_parse_98 (by decide) ?_
              refine xg_goto (pc := 101) hX 23 d_Nam_parse_101 (by decide) ?_
              refine ih (i + 1) (i + 1) HL.2 M5 Rc.2.2.2 Rc.2.2.1 pf' Rc.2.1 hdr (by omega) (Nat.le_refl _) (by omega) (by omega) (by omega) (by omega) hgh ?_ hn5 xw5 f5 _
              rw [Nat.sub_self, List.take_zero]
              exact hR2
            · rw [if_neg hz] at hR2
              refine xp_iload_3 (pc := 94) hX d_Nam_parse_94 ?_
              refine xg_iconst (pc := 95) hX (nI 1) d_Nam_parse_95 ci_iconst_1 ?_
              first | refine xn_iadd (pc := 96) hX d_Nam_parse_96 ?_ | refine xg_iadd (pc := 96) hX d_Nam_parse_96 ?_
              refine xp_istore_2 (pc := 97) hX d_Nam_parse_97 (by decide) ?_
              refine xp_inc_3 (pc := 98) hX d_Nam_parse_98 (by decide) ?_
              refine xg_goto (pc := 101) hX 23 d_Nam_parse_101 (by decide) ?_
              have hRa : HL.1 = R.1 := by rw [hR2]
              have hRb : HL.2 = R.2.1 := by rw [hR2]
              have hRc : Rc.2.2.2 = R.2.2.1 := by rw [hR2]
              have hRd : Rc.2.2.1 = R.2.2.2 := by rw [hR2]
              rw [hRb] at hn5
              rw [hRc, hRd] at xw5
              exact k23f _ HL.1 (i + 1) (i + 1) M5 _ _ (fun q => hz (by rw [q]; decide)) (by omega) hRa hn5 xw5 f5
          · rw [e1] at hR2
            dsimp only at hR2
            refine xp_istore_1 (pc := 54) hX d_Nam_parse_54 (by decide) ?_
            refine xp_iload_2 (pc := 55) hX d_Nam_parse_55 ?_
            refine xp_istore_4 (pc := 56) hX d_Nam_parse_56 (by decide) ?_
            refine xp_iload_4 (pc := 58) hX d_Nam_parse_58 ?_
            refine xp_iload_3 (pc := 60) hX d_Nam_parse_60 ?_
            have k94 : xG K 94 [some (.ref B), some (.int (-2)), some (.int (nI w)), some (.int (nI i)), some (.int (nI w))] [] M4 sz 0 0 := by
              refine xp_iload_3 (pc := 94) hX d_Nam_parse_94 ?_
              refine xg_iconst (pc := 95) hX (nI 1) d_Nam_parse_95 ci_iconst_1 ?_
              first | refine xn_iadd (pc := 96) hX d_Nam_parse_96 ?_ | refine xg_iadd (pc := 96) hX d_Nam_parse_96 ?_
              refine xp_istore_2 (pc := 97) hX d_Nam_parse_97 (by decide) ?_
              refine xp_inc_3 (pc := 98) hX d_Nam_parse_98 (by decide) ?_
              refine xg_goto (pc := 101) hX 23 d_Nam_parse_101 (by decide) ?_
              refine k23f _ (-2) (i + 1) (i + 1) M4 pf1 pt1 (by decide) (by omega) (by rw [hR2]) ⟨_, _, _, by rw [hR2]; exact nw4⟩ (by rw [hR2]; exact xw4) (fb.tr f4)
            refine xn_icmp_ge (pc := 61) hX 94 d_Nam_parse_61 (by decide) (by omega) (by omega) (fun _ => k94) (fun _ => ?_)
            refine xp_iload_1 (pc := 64) hX d_Nam_parse_64 ?_
            refine xg_if_ne (pc := 65) hX 94 d_Nam_parse_65 (by decide) (fun _ => k94) (fun z => absurd z (by decide))
    refine xp_istore_1 (pc := 7) hX d_Nam_parse_7 (by decide) ?_
    refine xg_iconst (pc := 8) hX (nI 0) d_Nam_parse_8 ci_iconst_0 ?_
    refine xp_istore_2 (pc := 9) hX d_Nam_parse_9 (by decide) ?_
    refine xp_iload_1 (pc := 10) hX d_Nam_parse_10 ?_
    refine xn_if_ne (pc := 11) hX 21 d_Nam_parse_11 (by decide) (by decide) (fun z => absurd z (by decide)) (fun _ => ?_)
    refine xp_aload_0 (pc := 14) hX d_Nam_parse_14 ?_
    refine xg_get (pc := 15) hX (j := 9) k_Nam d_Nam_parse_15 l_Nam_60 (by decide) (by first | assumption | exact xup_s _ _ _ | exact xup_o (by omega) (by assumption) | exact xup_o (by omega) (xup_s _ _ _) | exact xup_o (by omega) (xup_o (by omega) (by assumption)) | exact xup_o (by omega) (xup_o (by omega) (xup_s _ _ _)) | exact xup_o (by omega) (xup_o (by omega) (xup_o (by omega) (by assumption)))) (by rfl) ?_
    refine xv_V (Y2 := Y_Cut_begin) (pc := 18) hX [] k_Cut m_Cut_begin d_Nam_parse_18 l_Nam_144 rfl rfl (by simp [Value.category]) (by first | assumption | exact xup_s _ _ _ | exact xup_o (by omega) (by assumption) | exact xup_o (by omega) (xup_s _ _ _) | exact xup_o (by omega) (xup_o (by omega) (by assumption)) | exact xup_o (by omega) (xup_o (by omega) (xup_s _ _ _)) | exact xup_o (by omega) (xup_o (by omega) (xup_o (by omega) (by assumption)))) (c_Cut_begin (d + 5) hcu) (by omega) (by omega) ?_
    rintro M2 ⟨a1, a2⟩
    refine xg_iconst (pc := 21) hX (nI 0) d_Nam_parse_21 ci_iconst_0 ?_
    refine xp_istore_3 (pc := 22) hX d_Nam_parse_22 (by decide) ?_
    refine loop T.2 0 0 es M2 1 1 pf pt rfl (Nat.zero_le _) (Nat.le_refl _) (by omega) (by omega) (by omega) (by omega) hgI ?_ ⟨_, _, _, nw1.kept (fun q hq => a2 q (by omega))⟩ (xw1.cut a2 a1) ((FrB.a f1).tr (FrB.r1 a2 (by omega) (by omega))) none
    rw [Nat.sub_zero, List.take_zero]
    exact hR.symm
  · have xw1 := hx.rea f1 b2
    have hle := hB b1
    obtain ⟨g1, g2, g3, -⟩ := id b2
    obtain ⟨r2, -⟩ := id g2
    have hne : ¬ aI (some T.1.1) = 0 := aI_some (by omega)
    refine xp_istore_1 (pc := 7) hX d_Nam_parse_7 (by decide) ?_
    refine xg_iconst (pc := 8) hX (nI 0) d_Nam_parse_8 ci_iconst_0 ?_
    refine xp_istore_2 (pc := 9) hX d_Nam_parse_9 (by decide) ?_
    refine xp_iload_1 (pc := 10) hX d_Nam_parse_10 ?_
    refine xg_if_ne (pc := 11) hX 21 d_Nam_parse_11 (by decide) (fun _ => ?_) (fun z => absurd z hne)
    have k104 : ∀ vs : List (Option Value), xG K 104 (some (.ref B) :: some (.int (aI (some T.1.1))) :: vs) [] M1 sz 0 0 := by
      intro vs
      refine xp_aload_0 (pc := 104) hX d_Nam_parse_104 ?_
      refine xg_get (pc := 105) hX (j := 0) k_Nam d_Nam_parse_105 l_Nam_20 (by decide) (by first | assumption | exact xup_s _ _ _ | exact xup_o (by omega) (by assumption) | exact xup_o (by omega) (xup_s _ _ _) | exact xup_o (by omega) (xup_o (by omega) (by assumption)) | exact xup_o (by omega) (xup_o (by omega) (xup_s _ _ _)) | exact xup_o (by omega) (xup_o (by omega) (xup_o (by omega) (by assumption)))) (by rfl) ?_
      refine xv_V (Y2 := Y_Row_clear) (pc := 108) hX [] k_Row m_Row_clear d_Nam_parse_108 l_Nam_89 rfl rfl (by simp [Value.category]) (by first | assumption | exact xup_s _ _ _ | exact xup_o (by omega) (by assumption) | exact xup_o (by omega) (xup_s _ _ _) | exact xup_o (by omega) (xup_o (by omega) (by assumption)) | exact xup_o (by omega) (xup_o (by omega) (xup_s _ _ _)) | exact xup_o (by omega) (xup_o (by omega) (xup_o (by omega) (by assumption)))) (c_Row_clear (d + 5) g2) (by omega) (by omega) ?_
      rintro M3 ⟨a1, a2⟩
      refine xp_iload_1 (pc := 111) hX d_Nam_parse_111 ?_
      refine xg_if_ne (pc := 112) hX 125 d_Nam_parse_112 (by decide) (fun _ => ?_) (fun z => absurd z hne)
      refine xp_iload_1 (pc := 125) hX d_Nam_parse_125 ?_
      refine xg_iret (pc := 126) hX hE d_Nam_parse_126 rfl rfl (by omega) (by omega) ?_
      exact ⟨rfl, _, rfl, Or.inr ⟨b1, rfl, ⟨_, _, _, nw1.txt a2⟩, ⟨_, _, _, _, _, _, xw1.txt a2 a1⟩⟩, (FrB.a f1).tr (FrB.r2 a2 (by omega) (by omega))⟩
    refine xg_iconst (pc := 21) hX (nI 0) d_Nam_parse_21 ci_iconst_0 ?_
    refine xp_istore_3 (pc := 22) hX d_Nam_parse_22 (by decide) ?_
    refine xp_iload_3 (pc := 23) hX d_Nam_parse_23 ?_
    refine xp_aload_0 (pc := 24) hX d_Nam_parse_24 ?_
    refine xg_get (pc := 25) hX (j := 6) k_Nam d_Nam_parse_25 l_Nam_10 (by decide) (by first | assumption | exact xup_s _ _ _ | exact xup_o (by omega) (by assumption) | exact xup_o (by omega) (xup_s _ _ _) | exact xup_o (by omega) (xup_o (by omega) (by assumption)) | exact xup_o (by omega) (xup_o (by omega) (xup_s _ _ _)) | exact xup_o (by omega) (xup_o (by omega) (xup_o (by omega) (by assumption)))) (by rfl) ?_
    refine xg_get (pc := 28) hX (j := 4) k_Rea d_Nam_parse_28 l_Nam_118 (by decide) (by first | assumption | exact xup_s _ _ _ | exact xup_o (by omega) (by assumption) | exact xup_o (by omega) (xup_s _ _ _) | exact xup_o (by omega) (xup_o (by omega) (by assumption)) | exact xup_o (by omega) (xup_o (by omega) (xup_s _ _ _)) | exact xup_o (by omega) (xup_o (by omega) (xup_o (by omega) (by assumption)))) (by rfl) ?_
    refine xn_icmp_gt (pc := 31) hX 104 d_Nam_parse_31 (by decide) (by omega) (by omega) (fun _ => k104 _) (fun _ => ?_)
    refine xp_iload_1 (pc := 34) hX d_Nam_parse_34 ?_
    refine xg_if_ne (pc := 35) hX 104 d_Nam_parse_35 (by decide) (fun _ => k104 _) (fun z => absurd z hne)
