/-! NameRoom: a pool that comes; one name alone -/
/-- tokens that are variables of a text -/
def tkOK (t : List UInt8) (tk : List xTk) : Prop := ∀ e ∈ tk, e.2.1 < e.2.2 ∧ e.2.2 ≤ t.length ∧ e.2.2 - e.2.1 ≤ 30
/-- what the pool ip comes to see, worked out one by one -/
def opn (es : List xEn) (t : List UInt8) (ip : Nat) : List xTk → List xSe → Option (List xSe)
  | [], se => some se
  | e :: r, se => if (FN es se ip t e.2.1 e.2.2).length ≤ 200 then opn es t ip r (if told1 se ip (FN es se ip t e.2.1 e.2.2) then se else se ++ [(ip, FN es se ip t e.2.1 e.2.2)]) else none
theorem cnt_app {se x : List xSe} {q : Nat} (h : ∀ s ∈ se, s.1 ≠ q) (h2 : ∀ s ∈ x, s.1 = q) : (se ++ x).take ((se ++ x).length - cnt (se ++ x) q) = se := by
  have h3 : cnt (se ++ x) q = x.length := by
    unfold cnt
    rw [List.filter_append, List.filter_eq_nil_iff.mpr (fun s hs => by simpa using h s hs), List.filter_eq_self.mpr (fun s hs => by simpa using h2 s hs)]
    rfl
  rw [h3, List.length_append, Nat.add_sub_cancel, List.take_left]
set_option maxHeartbeats 4000000 in
set_option maxRecDepth 100000 in
theorem c_Nam_enterPool (d : Nat) {M : xH} {sz B dp tg pos : Nat} {ans : Option Nat} {t full : List UInt8} {tk : List xTk} {g : Nat → Nat} {L : Nat → xEn × Bool} {es : List xEn} {se : List xSe} (h : NW M B full g L es dp se) (hr : ReA M (B + 1) t tk tg pos ans) (htk : tkOK t tk) (hdp : dp < 8) (hlt : ∀ s ∈ se, s.1 < dp) (hsl : se.length ≤ 12 * (dp - 1)) (hk : tk.length ≤ 12) : xC (d + 5) 0 0 Y_Nam_enterPool [.ref B] M sz (qi sz (fun y M' => ((∃ se' f, opn es t dp tk se = some se' ∧ y = nI 0 ∧ NW M' B f g L es (dp + 1) se') ∨ (∃ f, opn es t dp tk se = none ∧ y = -2 ∧ NW M' B f g L es dp se)) ∧ FrN M M' B)) := by
  refine xC_of (by decide) (Nat.le_of_ble_eq_true rfl) (by simp [Value.category]) (vs := [some (.ref B), none]) rfl (fun K hX hE => ?_)
  obtain ⟨h1, -, -, -, -, h6, h7, h8, h9⟩ := id h
  obtain ⟨S, ⟨n6', -⟩, -⟩ := id h6
  have loop : ∀ (r : List xTk) (i : Nat) (x : List xSe) (f : List UInt8) (M1 : xH), tk.drop i = r → x.length ≤ i → (∀ s ∈ x, s.1 = dp) → opn es t dp tk se = opn es t dp r (se ++ x) → NW M1 B f g L es (dp + 1) (se ++ x) → FrN M M1 B → i ≤ 12 → xG K 9 [some (.ref B), some (.int (nI i))] [] M1 sz 0 0 := by
    intro r
    induction r with
    | nil =>
      intro i x f M1 hd hx hxp ho nw f1 hi12
      have hr1 : ReA M1 (B + 1) t tk tg pos ans := hr.kept (fun q a b => f1 q (by omega))
      obtain ⟨p1, -⟩ := id nw
      obtain ⟨q1, -⟩ := id hr1
      have hil : tk.length ≤ i := by
        have := congrArg List.length hd
        rw [List.length_drop] at this
        simp at this
        omega
      refine xp_iload_1 (pc := 9) hX d_Nam_enterPool_9 ?_
      refine xp_aload_0 (pc := 10) hX d_Nam_enterPool_10 ?_
      refine xg_get (pc := 11) hX (j := 6) k_Nam d_Nam_enterPool_11 l_Nam_10 (by decide) (by first | assumption | exact xup_s _ _ _ | exact xup_o (by omega) (by assumption) | exact xup_o (by omega) (xup_s _ _ _) | exact xup_o (by omega) (xup_o (by omega) (by assumption)) | exact xup_o (by omega) (xup_o (by omega) (xup_s _ _ _)) | exact xup_o (by omega) (xup_o (by omega) (xup_o (by omega) (by assumption)))) (by rfl) ?_
      refine xg_get (pc := 14) hX (j := 4) k_Rea d_Nam_enterPool_14 l_Nam_118 (by decide) (by first | assumption | exact xup_s _ _ _ | exact xup_o (by omega) (by assumption) | exact xup_o (by omega) (xup_s _ _ _) | exact xup_o (by omega) (xup_o (by omega) (by assumption)) | exact xup_o (by omega) (xup_o (by omega) (xup_s _ _ _)) | exact xup_o (by omega) (xup_o (by omega) (xup_o (by omega) (by assumption)))) (by rfl) ?_
      refine xn_icmp_ge (pc := 17) hX 55 d_Nam_enterPool_17 (by decide) (by omega) (by omega) (fun _ => ?_) (fun z => absurd z (by omega))
      refine xg_iconst (pc := 55) hX (nI 0) d_Nam_enterPool_55 ci_iconst_0 ?_
      refine xg_iret (pc := 56) hX hE d_Nam_enterPool_56 rfl rfl (by omega) (by omega) ?_
      exact ⟨rfl, _, rfl, Or.inl ⟨_, f, ho, rfl, nw⟩, f1⟩
    | cons e r ih =>
      intro i x f M1 hd hx hxp ho nw f1 hi12
      have hr1 : ReA M1 (B + 1) t tk tg pos ans := hr.kept (fun q a b => f1 q (by omega))
      obtain ⟨p1, p2, -, -, -, p6, p7, -⟩ := id nw
      obtain ⟨q1, -⟩ := id hr1
      have hil : i < tk.length := by
        have := congrArg List.length hd
        rw [List.length_drop] at this
        simp at this
        omega
      have hie : tk[i]? = some e := by
        have := congrArg (fun l => l[0]?) hd
        simpa using this
      obtain ⟨k, a, b⟩ := e
      obtain ⟨u1, u2, u3⟩ := htk _ (List.mem_of_getElem? hie)
      dsimp only at u1 u2 u3
      have ho2 : opn es t dp ((k, a, b) :: r) (se ++ x) = if (FN es (se ++ x) dp t a b).length ≤ 200 then opn es t dp r (if told1 (se ++ x) dp (FN es (se ++ x) dp t a b) then se ++ x else (se ++ x) ++ [(dp, FN es (se ++ x) dp t a b)]) else none := rfl
      rw [ho2] at ho
      refine xp_iload_1 (pc := 9) hX d_Nam_enterPool_9 ?_
      refine xp_aload_0 (pc := 10) hX d_Nam_enterPool_10 ?_
      refine xg_get (pc := 11) hX (j := 6) k_Nam d_Nam_enterPool_11 l_Nam_10 (by decide) (by first | assumption | exact xup_s _ _ _ | exact xup_o (by omega) (by assumption) | exact xup_o (by omega) (xup_s _ _ _) | exact xup_o (by omega) (xup_o (by omega) (by assumption)) | exact xup_o (by omega) (xup_o (by omega) (xup_s _ _ _)) | exact xup_o (by omega) (xup_o (by omega) (xup_o (by omega) (by assumption)))) (by rfl) ?_
      refine xg_get (pc := 14) hX (j := 4) k_Rea d_Nam_enterPool_14 l_Nam_118 (by decide) (by first | assumption | exact xup_s _ _ _ | exact xup_o (by omega) (by assumption) | exact xup_o (by omega) (xup_s _ _ _) | exact xup_o (by omega) (xup_o (by omega) (by assumption)) | exact xup_o (by omega) (xup_o (by omega) (xup_s _ _ _)) | exact xup_o (by omega) (xup_o (by omega) (xup_o (by omega) (by assumption)))) (by rfl) ?_
      refine xn_icmp_ge (pc := 17) hX 55 d_Nam_enterPool_17 (by decide) (by omega) (by omega) (fun z => absurd z (by omega)) (fun _ => ?_)
      refine xp_aload_0 (pc := 20) hX d_Nam_enterPool_20 ?_
      refine xp_iload_1 (pc := 21) hX d_Nam_enterPool_21 ?_
      refine xi_V (Y2 := Y_Nam_workOut) (pc := 22) hX [_] k_Nam m_Nam_workOut d_Nam_enterPool_22 l_Nam_79 rfl rfl (by simp [Value.category]) (by first | assumption | exact xup_s _ _ _ | exact xup_o (by omega) (by assumption) | exact xup_o (by omega) (xup_s _ _ _) | exact xup_o (by omega) (xup_o (by omega) (by assumption)) | exact xup_o (by omega) (xup_o (by omega) (xup_s _ _ _)) | exact xup_o (by omega) (xup_o (by omega) (xup_o (by omega) (by assumption)))) (c_Nam_workOut d nw hr1 hie u1 u2 u3) (by omega) (by omega) ?_
      rintro y M2 ⟨hc, f2⟩
      rw [Nat.add_sub_cancel] at hc
      generalize FN es (se ++ x) dp t a b = nm at *
      rcases hc with ⟨c1, rfl, c2⟩ | ⟨c1, rfl, f', c2⟩
      · rw [if_pos c1] at ho
        refine xn_if_ne (pc := 25) hX 38 d_Nam_enterPool_25 (by decide) (by decide) (fun _ => ?_) (fun z => absurd z (by decide))
        obtain ⟨p1, p2, -, -, -, p6, p7, -⟩ := id c2
        obtain ⟨s2, -⟩ := id p2
        obtain ⟨S, ⟨n6', -⟩, -⟩ := id p6
        refine xp_aload_0 (pc := 38) hX d_Nam_enterPool_38 ?_
        refine xg_get (pc := 39) hX (j := 8) k_Nam d_Nam_enterPool_39 l_Nam_53 (by decide) (by first | assumption | exact xup_s _ _ _ | exact xup_o (by omega) (by assumption) | exact xup_o (by omega) (xup_s _ _ _) | exact xup_o (by omega) (xup_o (by omega) (by assumption)) | exact xup_o (by omega) (xup_o (by omega) (xup_s _ _ _)) | exact xup_o (by omega) (xup_o (by omega) (xup_o (by omega) (by assumption)))) (by rfl) ?_
        refine xp_aload_0 (pc := 42) hX d_Nam_enterPool_42 ?_
        refine xg_get (pc := 43) hX (j := 2) k_Nam d_Nam_enterPool_43 l_Nam_31 (by decide) (by first | assumption | exact xup_s _ _ _ | exact xup_o (by omega) (by assumption) | exact xup_o (by omega) (xup_s _ _ _) | exact xup_o (by omega) (xup_o (by omega) (by assumption)) | exact xup_o (by omega) (xup_o (by omega) (xup_s _ _ _)) | exact xup_o (by omega) (xup_o (by omega) (xup_o (by omega) (by assumption)))) (by rfl) ?_
        refine xv_V (Y2 := Y_Poo_see) (pc := 46) hX [_] k_Poo m_Poo_see d_Nam_enterPool_46 l_Nam_247 rfl rfl (by simp [Value.category]) (by first | assumption | exact xup_s _ _ _ | exact xup_o (by omega) (by assumption) | exact xup_o (by omega) (xup_s _ _ _) | exact xup_o (by omega) (xup_o (by omega) (by assumption)) | exact xup_o (by omega) (xup_o (by omega) (xup_s _ _ _)) | exact xup_o (by omega) (xup_o (by omega) (xup_o (by omega) (by assumption)))) (c_Poo_see (d + 1) p6 p2 (by omega) c1 (by rw [List.length_append]; omega) (by omega)) (by omega) (by omega) ?_
        rintro M3 ⟨a1, a2⟩
        rw [Nat.add_sub_cancel] at a1
        refine xp_inc_1 (pc := 49) hX d_Nam_enterPool_49 (by decide) ?_
        refine xg_goto (pc := 52) hX 9 d_Nam_enterPool_52 (by decide) ?_
        have hdr : tk.drop (i + 1) = r := by
          have h9 := congrArg (List.drop 1) hd
          rw [List.drop_drop] at h9
          simpa using h9
        by_cases ht1 : told1 (se ++ x) dp nm = true
        · rw [if_pos ht1] at ho a1
          exact ih (i + 1) x nm M3 hdr (by omega) hxp ho (c2.pools a2 a1 p7 (by omega)) ((f1.tr f2).tr (FrN.rR a2 (by omega))) (by omega)
        · rw [if_neg ht1, List.append_assoc] at ho a1
          refine ih (i + 1) (x ++ [(dp, nm)]) nm M3 hdr (by simp; omega) (fun s hs => ?_) ho (c2.pools a2 a1 (fun s hs => ?_) (by omega)) ((f1.tr f2).tr (FrN.rR a2 (by omega))) (by omega)
          · rcases List.mem_append.mp hs with q | q
            · exact hxp s q
            · rw [List.mem_singleton.mp q]
          · rcases List.mem_append.mp hs with q | q
            · exact h7 s q
            · rcases List.mem_append.mp q with q | q
              · rw [hxp s q]; omega
              · rw [List.mem_singleton.mp q]; exact h8
      · rw [if_neg (by omega)] at ho
        refine xn_if_ne (pc := 25) hX 38 d_Nam_enterPool_25 (by decide) (by decide) (fun z => absurd z (by decide)) (fun _ => ?_)
        obtain ⟨p1, p2, -, -, -, p6, p7, -⟩ := id c2
        obtain ⟨S, ⟨n6', -⟩, -⟩ := id p6
        refine xp_aload_0 (pc := 28) hX d_Nam_enterPool_28 ?_
        refine xg_get (pc := 29) hX (j := 8) k_Nam d_Nam_enterPool_29 l_Nam_53 (by decide) (by first | assumption | exact xup_s _ _ _ | exact xup_o (by omega) (by assumption) | exact xup_o (by omega) (xup_s _ _ _) | exact xup_o (by omega) (xup_o (by omega) (by assumption)) | exact xup_o (by omega) (xup_o (by omega) (xup_s _ _ _)) | exact xup_o (by omega) (xup_o (by omega) (xup_o (by omega) (by assumption)))) (by rfl) ?_
        refine xv_V (Y2 := Y_Poo_leave) (pc := 32) hX [] k_Poo m_Poo_leave d_Nam_enterPool_32 l_Nam_134 rfl rfl (by simp [Value.category]) (by first | assumption | exact xup_s _ _ _ | exact xup_o (by omega) (by assumption) | exact xup_o (by omega) (xup_s _ _ _) | exact xup_o (by omega) (xup_o (by omega) (by assumption)) | exact xup_o (by omega) (xup_o (by omega) (xup_s _ _ _)) | exact xup_o (by omega) (xup_o (by omega) (xup_o (by omega) (by assumption)))) (c_Poo_leave (d + 2) p6 (by omega)) (by omega) (by omega) ?_
        rintro M3 ⟨a1, a2⟩
        rw [Nat.add_sub_cancel, cnt_app (fun s hs => by have := hlt s hs; omega) hxp] at a1
        refine xg_bipush (pc := 35) hX (-2) d_Nam_enterPool_35 ci_bipush_m2 ?_
        refine xg_iret (pc := 37) hX hE d_Nam_enterPool_37 rfl rfl (by omega) (by omega) ?_
        have a3 : FrR M2 M3 (B + 519) (B + 519 + 254) := fun q hq => a2 q (by omega)
        exact ⟨rfl, _, rfl, Or.inr ⟨f', ho, rfl, c2.pools a3 a1 h7 (by omega)⟩, (f1.tr f2).tr (FrN.rR a3 (by omega))⟩
  refine xp_aload_0 (pc := 0) hX d_Nam_enterPool_0 ?_
  refine xg_get (pc := 1) hX (j := 8) k_Nam d_Nam_enterPool_1 l_Nam_53 (by decide) (by first | assumption | exact xup_s _ _ _ | exact xup_o (by omega) (by assumption) | exact xup_o (by omega) (xup_s _ _ _) | exact xup_o (by omega) (xup_o (by omega) (by assumption)) | exact xup_o (by omega) (xup_o (by omega) (xup_s _ _ _)) | exact xup_o (by omega) (xup_o (by omega) (xup_o (by omega) (by assumption)))) (by rfl) ?_
  refine xv_V (Y2 := Y_Poo_enter) (pc := 4) hX [] k_Poo m_Poo_enter d_Nam_enterPool_4 l_Nam_244 rfl rfl (by simp [Value.category]) (by first | assumption | exact xup_s _ _ _ | exact xup_o (by omega) (by assumption) | exact xup_o (by omega) (xup_s _ _ _) | exact xup_o (by omega) (xup_o (by omega) (by assumption)) | exact xup_o (by omega) (xup_o (by omega) (xup_s _ _ _)) | exact xup_o (by omega) (xup_o (by omega) (xup_o (by omega) (by assumption)))) (c_Poo_enter (d + 4) h6 (by omega)) (by omega) (by omega) ?_
  rintro M1 ⟨a1, a2⟩
  have a3 : FrR M M1 (B + 519) (B + 519 + 254) := fun q hq => a2 q (by omega)
  refine xg_iconst (pc := 7) hX (nI 0) d_Nam_enterPool_7 ci_iconst_0 ?_
  refine xp_istore_1 (pc := 8) hX d_Nam_enterPool_8 (by decide) ?_
  refine loop tk 0 [] full M1 rfl (Nat.le_refl _) (fun s hs => absurd hs List.not_mem_nil) (by rw [List.append_nil]) ?_ (FrN.rR a3 (by omega)) (by omega)
  rw [List.append_nil]
  exact h.pools a3 a1 h7 (by omega)
/-- reader and names change, no more -/
def FrW (M M' : xH) (B : Nat) : Prop := ∀ q, ¬ (q = B + 1 ∨ (B + 4 ≤ q ∧ q < B + 7) ∨ (B + 9 ≤ q ∧ q < B + 15) ∨ (B + 17 ≤ q ∧ q < B + 773)) → M' q = M q
theorem FrW.tr {M M' M'' : xH} {B : Nat} (a : FrW M M' B) (b : FrW M' M'' B) : FrW M M'' B := fun q h => (b q h).trans (a q h)
theorem FrW.n {M M' : xH} {B : Nat} (h : FrN M M' B) : FrW M M' B := fun q hq => h q (by omega)
theorem FrW.a {M M' : xH} {B : Nat} (h : FrA M M' (B + 1)) : FrW M M' B := fun q hq => h q (by omega) (by omega) (by omega) (by omega)
theorem NW.rea {M M' : xH} {B : Nat} {full : List UInt8} {g : Nat → Nat} {L : Nat → xEn × Bool} {es : List xEn} {dp : Nat} {se : List xSe} (h : NW M B full g L es dp se) (hf : FrA M M' (B + 1)) : NW M' B full g L es dp se := h.kept (fun q hq => hf q (by omega) (by omega) (by omega) (by omega))
theorem ReA.nn {M M' : xH} {B : Nat} {t : List UInt8} {tk : List xTk} {tg pos : Nat} {ans : Option Nat} (h : ReA M (B + 1) t tk tg pos ans) (hf : FrN M M' B) : ReA M' (B + 1) t tk tg pos ans := h.kept (fun q a b => hf q (by omega))
theorem rdV_ok {t : List UInt8} {s : Nat} (h : (rdV t s).2 = true) : s < (rdV t s).1 ∧ (rdV t s).1 ≤ t.length ∧ (rdV t s).1 - s ≤ 30 := by
  by_cases hv : vOK t[s]? = true
  · have hs := vOK_lt hv
    have h5 : sym t[s] = true := by
      unfold vOK at hv
      rw [List.getElem?_eq_getElem hs] at hv
      simp at hv
      exact hv.1.1
    have e : rdV t s = (sc sym t s (min (s + 30) t.length), !osym t[sc sym t s (min (s + 30) t.length)]?) := by unfold rdV; rw [if_pos hv]
    rw [e]
    dsimp only
    rw [sc_miss (by omega) (by omega) h5]
    have h4 := sc_le (P := sym) (bs := t) (a := s + 1) (b := min (s + 30) t.length) (by omega) (by omega)
    omega
  · have e : rdV t s = (s, false) := by unfold rdV; rw [if_neg hv]
    rw [e] at h
    exact absurd (show false = true from h) (by decide)
set_option maxHeartbeats 4000000 in
set_option maxRecDepth 100000 in
theorem c_Nam_workOutAlone (d : Nat) {M : xH} {sz B dp tg pos : Nat} {ans : Option Nat} {t full : List UInt8} {tk : List xTk} {g : Nat → Nat} {L : Nat → xEn × Bool} {es : List xEn} {se : List xSe} (h : NW M B full g L es dp se) (hr : ReA M (B + 1) t tk tg pos ans) : xC (d + 5) 0 0 Y_Nam_workOutAlone [.ref B] M sz (qi sz (fun y M' => (((rdA t).2 = true ∧ (FN es se (dp - 1) t 0 (rdA t).1).length ≤ 200 ∧ y = nI 0 ∧ NW M' B (FN es se (dp - 1) t 0 (rdA t).1) g L es dp se) ∨ ((rdA t).2 = true ∧ 200 < (FN es se (dp - 1) t 0 (rdA t).1).length ∧ y = -2 ∧ ∃ f, NW M' B f g L es dp se) ∨ ((rdA t).2 = false ∧ y = aI (some (rdA t).1) ∧ ∃ f, NW M' B f g L es dp se)) ∧ (∃ tk' tg' pos' ans', ReA M' (B + 1) t tk' tg' pos' ans') ∧ FrW M M' B)) := by
  refine xC_of (by decide) (Nat.le_of_ble_eq_true rfl) (by simp [Value.category]) (vs := [some (.ref B), none]) rfl (fun K hX hE => ?_)
  obtain ⟨h1, -⟩ := id h
  obtain ⟨q1, -⟩ := id hr
  refine xp_aload_0 (pc := 0) hX d_Nam_workOutAlone_0 ?_
  refine xg_get (pc := 1) hX (j := 6) k_Nam d_Nam_workOutAlone_1 l_Nam_10 (by decide) (by first | assumption | exact xup_s _ _ _ | exact xup_o (by omega) (by assumption) | exact xup_o (by omega) (xup_s _ _ _) | exact xup_o (by omega) (xup_o (by omega) (by assumption)) | exact xup_o (by omega) (xup_o (by omega) (xup_s _ _ _)) | exact xup_o (by omega) (xup_o (by omega) (xup_o (by omega) (by assumption)))) (by rfl) ?_
  refine xi_V (Y2 := Y_Rea_readAlone) (pc := 4) hX [] k_Rea m_Rea_readAlone d_Nam_workOutAlone_4 l_Nam_186 rfl rfl (by simp [Value.category]) (by first | assumption | exact xup_s _ _ _ | exact xup_o (by omega) (by assumption) | exact xup_o (by omega) (xup_s _ _ _) | exact xup_o (by omega) (xup_o (by omega) (by assumption)) | exact xup_o (by omega) (xup_o (by omega) (xup_s _ _ _)) | exact xup_o (by omega) (xup_o (by omega) (xup_o (by omega) (by assumption)))) (c_Rea_readAlone (d + 1) hr) (by omega) (by omega) ?_
  rintro y M1 ⟨hc, f1⟩
  have nw1 := h.rea f1
  obtain ⟨p1, -⟩ := id nw1
  rcases hc with ⟨b1, rfl, tg', pos', b2⟩ | ⟨b1, rfl, tk', tg', pos', b2⟩
  · have hv : (rdV t 0).2 = true ∧ (rdA t).1 = (rdV t 0).1 := by
      unfold rdA at b1 ⊢
      by_cases c : (rdV t 0).2 = true
      · rw [if_pos c] at b1 ⊢
        refine ⟨c, ?_⟩
        split <;> rfl
      · rw [if_neg c] at b1
        exact absurd b1 c
    have hok := rdV_ok hv.1
    rw [← hv.2] at hok
    refine xp_istore_1 (pc := 7) hX d_Nam_workOutAlone_7 (by decide) ?_
    refine xp_iload_1 (pc := 8) hX d_Nam_workOutAlone_8 ?_
    refine xn_if_eq (pc := 9) hX 14 d_Nam_workOutAlone_9 (by decide) (by decide) (fun _ => ?_) (fun z => absurd z (by decide))
    refine xp_aload_0 (pc := 14) hX d_Nam_workOutAlone_14 ?_
    refine xg_iconst (pc := 15) hX (nI 0) d_Nam_workOutAlone_15 ci_iconst_0 ?_
    refine xi_V (Y2 := Y_Nam_workOut) (pc := 16) hX [_] k_Nam m_Nam_workOut d_Nam_workOutAlone_16 l_Nam_79 rfl rfl (by simp [Value.category]) (by first | assumption | exact xup_s _ _ _ | exact xup_o (by omega) (by assumption) | exact xup_o (by omega) (xup_s _ _ _) | exact xup_o (by omega) (xup_o (by omega) (by assumption)) | exact xup_o (by omega) (xup_o (by omega) (xup_s _ _ _)) | exact xup_o (by omega) (xup_o (by omega) (xup_o (by omega) (by assumption)))) (c_Nam_workOut d (i := 0) nw1 b2 rfl (by omega) (by omega) (by omega)) (by omega) (by omega) ?_
    rintro y M2 ⟨hc, f2⟩
    rcases hc with ⟨c1, rfl, c2⟩ | ⟨c1, rfl, c2⟩
    · refine xn_if_eq (pc := 19) hX 26 d_Nam_workOutAlone_19 (by decide) (by decide) (fun z => absurd z (by decide)) (fun _ => ?_)
      refine xg_iconst (pc := 22) hX (nI 0) d_Nam_workOutAlone_22 ci_iconst_0 ?_
      refine xg_goto (pc := 23) hX 28 d_Nam_workOutAlone_23 (by decide) ?_
      refine xg_iret (pc := 28) hX hE d_Nam_workOutAlone_28 rfl rfl (by omega) (by omega) ?_
      exact ⟨rfl, _, rfl, Or.inl ⟨b1, c1, rfl, c2⟩, ⟨_, _, _, _, b2.nn f2⟩, (FrW.a f1).tr (FrW.n f2)⟩
    · refine xn_if_eq (pc := 19) hX 26 d_Nam_workOutAlone_19 (by decide) (by decide) (fun _ => ?_) (fun z => absurd z (by decide))
      refine xg_bipush (pc := 26) hX (-2) d_Nam_workOutAlone_26 ci_bipush_m2 ?_
      refine xg_iret (pc := 28) hX hE d_Nam_workOutAlone_28 rfl rfl (by omega) (by omega) ?_
      exact ⟨rfl, _, rfl, Or.inr (Or.inl ⟨b1, c1, rfl, c2⟩), ⟨_, _, _, _, b2.nn f2⟩, (FrW.a f1).tr (FrW.n f2)⟩
  · have hle : (rdA t).1 ≤ t.length := by
      have := rdV_le (t := t) (s := 0) (by omega)
      unfold rdA
      split
      · split <;> (dsimp only; omega)
      · omega
    have htl : t.length ≤ 600 := hr.2.1.2.1
    refine xp_istore_1 (pc := 7) hX d_Nam_workOutAlone_7 (by decide) ?_
    refine xp_iload_1 (pc := 8) hX d_Nam_workOutAlone_8 ?_
    refine xg_if_eq (pc := 9) hX 14 d_Nam_workOutAlone_9 (by decide) (fun z => absurd z (aI_some (by omega))) (fun _ => ?_)
    refine xp_iload_1 (pc := 12) hX d_Nam_workOutAlone_12 ?_
    refine xg_iret (pc := 13) hX hE d_Nam_workOutAlone_13 rfl rfl (by omega) (by omega) ?_
    exact ⟨rfl, _, rfl, Or.inr (Or.inr ⟨b1, rfl, _, nw1⟩), ⟨_, _, _, _, b2⟩, FrW.a f1⟩
