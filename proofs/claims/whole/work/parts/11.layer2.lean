
/-! contracts -/
def xR (d mc ms : Nat) : Room := { frames := d, cells := mc, slots := ms, locals := 40 * d }
def xw (Y : xM) : List Cond := .code Y.1 Y.2.1 Y.2.2.1 Y.2.2.2 :: lw_g
def xA (M : xH) (sz : Nat) : Nat → Prop := fun q => (∃ z, M q = some z) ∨ sz ≤ q
abbrev xQ : Type := Option Value → xH → Nat → Prop
def xPre (D : va_G) (dA : Nat → ClassId) (av : List Value) (M : xH) (sz : Nat) : Array Value → State → Prop := va_Pc av (fun U => xHo D dA (fun _ => True) M sz U.heap ∧ va_K D classes (xTys dA) U ∧ xNs U)
def xPost (D : va_G) (dA : Nat → ClassId) (M : xH) (sz : Nat) (Q : xQ) : Array Value → State → Outcome → State → Prop := fun _ st oc t => (∃ (v : Option Value) (M' : xH) (sz' : Nat), oc = .returned v ∧ Q v M' sz' ∧ xHo D dA (xA M sz) M' sz' t.heap ∧ va_K D classes (xTys dA) t) ∧ va_F (xA M sz) st t
def xC (d mc ms : Nat) (Y : xM) (av : List Value) (M : xH) (sz : Nat) (Q : xQ) : Prop := ∀ (l : Launch) (D : va_G) (dA : Nat → ClassId), Met l Y.1 (xw Y) (xR d mc ms) (xPre D dA av M sz) (xPost D dA M sz Q) mc ms (xA M sz)
/-- the end of a method that is proved by contract -/
def xEd (mc ms : Nat) (M0 : xH) (sz0 : Nat) (Q : xQ) (K : xK) : Prop := match K with
  | (_, _, _, _, s, _, args, below, _, _, Qs, D, dA, A) => Qs = MQ below (xPost D dA M0 sz0 Q) args s mc ms (xA M0 sz0) ∧ A = xA M0 sz0
theorem xL_entry {av : List Value} (hav : ∀ v ∈ av, v.category = 1) : ∀ (i j : Nat) (v : Value), (av.map some)[j]? = some (some v) → (i + j, v) ∈ lv_args i av := by
  induction av with
  | nil => intro i j v h; simp at h
  | cons a l ih =>
    intro i j v h
    have ha : a.category = 1 := hav a List.mem_cons_self
    have e1 : lv_args i (a :: l) = (i, a) :: lv_args (i + 1) l := by
      show (i, a) :: lv_args (if a.category = 2 then i + 2 else i + 1) l = _
      rw [if_neg (by rw [ha]; decide)]
    rw [e1]
    cases j with
    | zero =>
      simp at h
      subst h
      exact List.mem_cons_self
    | succ j =>
      have h2 : (l.map some)[j]? = some (some v) := by simpa using h
      have h3 := ih (fun v hv => hav v (List.mem_cons_of_mem _ hv)) (i + 1) j v h2
      rw [show i + (j + 1) = i + 1 + j by omega]
      exact List.mem_cons_of_mem _ h3
theorem xC_of {d mc ms : Nat} {Y : xM} {av : List Value} {M : xH} {sz : Nat} {Q : xQ} (hpl : plainName Y.1.cls = true) (hn : (lg_sl av).length ≤ Y.2.2.1) (hav : ∀ v ∈ av, v.category = 1) {vs : List (Option Value)} (hvs : av.map some ++ List.replicate (Y.2.2.1 - av.length) none = vs)
    (body : ∀ K : xK, xX Y (xR d mc ms) K → xEd mc ms M sz Q K → xG K 0 vs [] M sz 0 0) : xC d mc ms Y av M sz Q := by
  intro l D dA
  refine Met.ofW (cc := Y.2.1) (maxL := Y.2.2.1) (ret := Y.2.2.2) hpl rfl ?_
  intro p e s m args below meth c s₁ B hml hv
  obtain ⟨rfl, hH, hK, hNs⟩ := hv
  have hts := atoms_spec (ws := xw Y) B.pre
  have hown : s.vm.findClass Y.1.cls = some m.cls := findClass_of_methodNamed B.named
  have hin : meth.name = Y.1.name := (name_of_methodNamed B.named B.method).1
  have hl := lv_entry av hn
  rw [lg_entry_eq]
  generalize (lg_sl av ++ List.replicate (Y.2.2.1 - (lg_sl av).length) Slot.unset).toArray = ls at hl ⊢
  have hA : xHo D dA (xA M sz) M sz s.heap := ⟨hH.1, fun a z hz => ⟨(hH.2 a z hz).1, Or.inl ⟨z, hz⟩⟩⟩
  refine body (p, l, e, _, s, m, _, below, meth, c, _, D, dA, xA M sz) ⟨B.exec, B.bytes, hml, B.returns, B.notSynchronized, hown, fun w hw => hts w (List.mem_cons_of_mem _ hw), hK, fun q hq => Or.inr (by rw [← hH.1]; exact hq), hin, rfl, hNs⟩ ⟨rfl, rfl⟩ s.heap [] ls hA va_S.rf ?_
  rw [hml]
  refine ⟨hl.1, hl.2.1, fun i v hv => ?_⟩
  subst hvs
  have hi : (av.map some)[i]? = some (some v) := by
    by_cases hlt : i < (av.map some).length
    · rw [List.getElem?_append_left hlt] at hv
      exact hv
    · rw [List.getElem?_append_right (by omega)] at hv
      have h1 := List.mem_of_getElem? hv
      rw [List.mem_replicate] at h1
      cases h1.2
  have h1 := xL_entry hav 0 i v hi
  rw [Nat.zero_add] at h1
  refine ⟨hl.2.2 _ h1, ?_⟩
  have h2 := List.mem_of_getElem? hi
  simp at h2
  exact hav v h2
section XRET
variable {Y : xM} {rm : Room} {K : xK} {pc : Nat} {vs : List (Option Value)} {st : List Value} {M M0 : xH} {sz sz0 c n mc ms : Nat} {Q : xQ}
theorem xg_iret (h : xX Y rm K) (he : xEd mc ms M0 sz0 Q K) {v : Int32} {ty : FieldType} (hd : decode Y.2.1 pc = .ok (.ireturn, 1)) (hty : Y.2.2.2 = some ty) (hn : narrow ty (.int v) = .int v) (hc : c ≤ mc) (hs : n ≤ ms) (hq : Q (some (.int v)) M sz) : xG K pc vs [.int v] M sz c n := by
  obtain ⟨p, l, e, R, s, m, args, below, meth, c0, Qs, D, dA, A⟩ := K
  obtain ⟨hx, hb, hml, hr, hlk, hown, hts, hKK, hA, hnm, hR, hNs⟩ := h
  obtain ⟨rfl, rfl⟩ := he
  intro H locs ls hH hS hl
  refine W.widen (k := mc) (n := ms) hc hs ?_
  exact W.zret hx hb (hr.trans hty) hn (fun t ht hW => ⟨⟨some (.int v), M, sz, rfl, hq, by rw [ht]; exact hH, va_K.moved hW.alike hKK⟩, hS.F ht⟩) hS.2.2 hd hlk
theorem xg_vret (h : xX Y rm K) (he : xEd mc ms M0 sz0 Q K) (hd : decode Y.2.1 pc = .ok (.return_, 1)) (hty : Y.2.2.2 = none) (hc : c ≤ mc) (hs : n ≤ ms) (hq : Q none M sz) : xG K pc vs [] M sz c n := by
  obtain ⟨p, l, e, R, s, m, args, below, meth, c0, Qs, D, dA, A⟩ := K
  obtain ⟨hx, hb, hml, hr, hlk, hown, hts, hKK, hA, hnm, hR, hNs⟩ := h
  obtain ⟨rfl, rfl⟩ := he
  intro H locs ls hH hS hl
  refine W.widen (k := mc) (n := ms) hc hs ?_
  exact W.vret hx hb (hr.trans hty) (fun t ht hW => ⟨⟨none, M, sz, rfl, hq, by rw [ht]; exact hH, va_K.moved hW.alike hKK⟩, hS.F ht⟩) hS.2.2 hd hlk
theorem xg_aret (h : xX Y rm K) (he : xEd mc ms M0 sz0 Q K) {v : Value} {C : String} (hd : decode Y.2.1 pc = .ok (.areturn, 1)) (hty : Y.2.2.2 = some (.object C)) (hv : v = .null ∨ ∃ a, v = .ref a) (hc : c ≤ mc) (hs : n ≤ ms) (hq : Q (some v) M sz) : xG K pc vs [v] M sz c n := by
  obtain ⟨p, l, e, R, s, m, args, below, meth, c0, Qs, D, dA, A⟩ := K
  obtain ⟨hx, hb, hml, hr, hlk, hown, hts, hKK, hA, hnm, hR, hNs⟩ := h
  obtain ⟨rfl, rfl⟩ := he
  intro H locs ls hH hS hl
  refine W.widen (k := mc) (n := ms) hc hs ?_
  exact W.aret hx hb (hr.trans hty) (Or.inl ⟨C, rfl⟩) hv (fun t ht hW => ⟨⟨some v, M, sz, rfl, hq, by rw [ht]; exact hH, va_K.moved hW.alike hKK⟩, hS.F ht⟩) hS.2.2 hd hlk
end XRET

/-! calls -/
theorem x_goodAll : GoodIn lw_g lw_g := fun w hw => ⟨hw, good_of_word (List.mem_filter.mp hw).2⟩
theorem x_goodW {Y : xM} (hc : Cond.code Y.1 Y.2.1 Y.2.2.1 Y.2.2.2 ∈ lw_g) : GoodIn lw_g (xw Y) := fun w hw => x_goodAll w (by
  rcases List.mem_cons.mp hw with h | h
  · rw [h]; exact hc
  · exact h)
/-- what the tables say of a method that is called on an object of its class -/
def xVm (Y : xM) (np : Nat) : Prop := Cond.code Y.1 Y.2.1 Y.2.2.1 Y.2.2.2 ∈ lw_g ∧ Cond.instanceMethod Y.1 ∈ lw_g ∧ Cond.selects Y.1.cls Y.1 Y.1 ∈ lw_g ∧ Cond.initialized Y.1.cls ∈ lw_g ∧ (Y.1.cls ≠ "java/lang/invoke/MethodHandle" ∧ Y.1.cls ≠ "java/lang/invoke/VarHandle" ∧ (parseMethodDescriptor Y.1.desc).map (fun d => d.parameters.length) = some np) ∧ Y.2.2.1 ≤ 21
def xIm (Y : xM) (np : Nat) : Prop := Cond.code Y.1 Y.2.1 Y.2.2.1 Y.2.2.2 ∈ lw_g ∧ Cond.instanceMethod Y.1 ∈ lw_g ∧ Y.1.name = "<init>" ∧ Cond.initialized Y.1.cls ∈ lw_g ∧ (Y.1.cls ≠ "java/lang/invoke/MethodHandle" ∧ Y.1.cls ≠ "java/lang/invoke/VarHandle" ∧ (parseMethodDescriptor Y.1.desc).map (fun d => d.parameters.length) = some np) ∧ Y.2.2.1 ≤ 21 ∧ Y.2.2.2 = none
def xSm (Y : xM) (np : Nat) : Prop := Cond.code Y.1 Y.2.1 Y.2.2.1 Y.2.2.2 ∈ lw_g ∧ Cond.static Y.1 ∈ lw_g ∧ Cond.initialized Y.1.cls ∈ lw_g ∧ (Y.1.cls ≠ "java/lang/invoke/MethodHandle" ∧ Y.1.cls ≠ "java/lang/invoke/VarHandle" ∧ (parseMethodDescriptor Y.1.desc).map (fun d => d.parameters.length) = some np) ∧ Y.2.2.1 ≤ 21
theorem xPre_blind {D : va_G} {dA : Nat → ClassId} {av : List Value} {M : xH} {sz : Nat} : FrameBlind (xPre D dA av M sz) := fun a U g mk q => ⟨q.1, q.2.1, va_K.moved (u := U) (U := U.calling g mk a) (Vm.Alike.refl U.vm) q.2.2.1, q.2.2.2.same rfl⟩
section XCALL
variable {Y Y2 : xM} {rm : Room} {K : xK} {pc : Nat} {vs : List (Option Value)} {st : List Value} {M : xH} {sz c n d mc ms mc0 ms0 np ix : Nat} {Q2 : xQ}
/-- behind a call -/
theorem xg_after {p : Program} {l : Launch} {e : Env} {R : Room} {s : State} {m : MethodId} {args : Array Value} {below : List Frame} {meth : Method} {c0 : Code} {H : Heap} {locs : List Loc} {Qs : State → Prop} {D : va_G} {dA : Nat → ClassId} {A : Nat → Prop} {ls : Array Slot} {st0 rest : List Value} {a : Array Value}
    (hr : va_Run p l e R s m args below meth c0 H locs c n mc ms (F0 m pc ls st0) rest (xPost D dA M sz Q2 a) (xA M sz)) (hA : ∀ q : Nat, s.heap.size ≤ q → A q) (hH : xHo D dA A M sz H) (hS : va_S A s.heap H locs)
    (kk : ∀ (v : Option Value) (M' : xH) (sz' : Nat) (H1 : Heap) (locs1 : List Loc), Q2 v M' sz' → xHo D dA A M' sz' H1 → va_S A s.heap H1 locs1 → W p l e R s m args below meth c0 H1 locs1 (c + mc) (n + ms) Qs (F0 m (pc + 3) ls (v.toList ++ rest))) : W p l e R s m args below meth c0 H locs c n Qs (F0 m pc ls st0) := by
  intro T hT X
  obtain ⟨v, st₀, t, T', L, h0, X', hL, e1, e2, ⟨⟨v', M', sz', hv, hp, hH', -⟩, hz, hk⟩, stp⟩ := hr T hT X
  cases hv
  rw [h0] at hz hk
  have hAA : ∀ q, xA M sz q → A q := fun q hq => by
    rcases hq with ⟨z, hz1⟩ | hq
    · exact (hH.2 q z hz1).2
    · exact hA q (Nat.le_trans hS.1 (by rw [hH.1]; exact hq))
  obtain ⟨t2, a1, b1⟩ := kk v M' sz' T'.heap (locs ++ L) hp (by rw [e1]; exact hH'.weak hAA)
    ⟨Nat.le_trans hS.1 (by rw [e1]; exact hz), fun q h1 h2 => by rw [e1, hk q (Nat.lt_of_lt_of_le h1 hS.1) (fun z => h2 (hAA q z))]; exact hS.2.1 q h1 h2, fun q hq => by
      rcases List.mem_append.mp hq with h | h
      · exact hS.2.2 q h
      · exact hAA _ (hL q h)⟩ T' rfl X'
  exact ⟨t2, stp t2 a1, b1⟩
theorem xg_callV (h : xX Y (xR (d + 1) mc0 ms0) K) {ci N b : Nat} {T : u_T} {ty : Nat → FieldType} {fs : List Value} (As : List Value) (hcl : xCl ci Y2.1.cls T N ty) (hm : xVm Y2 np) (hd : decode Y.2.1 pc = .ok (.invokevirtual ix, 3)) (hw : Cond.methodLink Y.1.cls ix Y2.1 ∈ lw_g) (hn : As.length = np) {st0 : List Value} (hst : As.reverse ++ .ref b :: st = st0) (hb8 : (st.map fun v => v.category).sum ≤ 8) (hM : M b = some (.inr (ci, fs))) (hC : xC d mc ms Y2 (.ref b :: As) M sz Q2) (hcc : c + mc ≤ mc0) (hss : n + ms ≤ ms0) (k : ∀ v M' sz', Q2 v M' sz' → xG K (pc + 3) vs (v.toList ++ st) M' sz' (c + mc) (n + ms)) : xG K pc vs st0 M sz c n := by
  subst hst
  obtain ⟨p, l, e, R, s, m, args, below, meth, c0, Qs, D, dA, A⟩ := K
  obtain ⟨hx, hb, hml, hr, hlk, hown, hts, hKK, hA, hnm, hR, hNs⟩ := h
  subst hR
  intro H locs ls hH hS hl
  obtain ⟨w1, w2, w3, w4, w5, w6⟩ := hm
  have hG : GoodIn lw_g (wsV Y.1.cls ix Y2.1.cls Y2.1 (xw Y2)) := by
    intro w hw9
    unfold wsV at hw9
    rcases List.mem_append.mp hw9 with h9 | h9
    · simp only [List.mem_cons, List.not_mem_nil, or_false] at h9
      rcases h9 with rfl | rfl | rfl | rfl
      · exact x_goodAll _ hw
      · exact x_goodAll _ w2
      · exact x_goodAll _ w3
      · exact x_goodAll _ w4
    · exact x_goodW w1 w h9
  refine xg_after (va_runV (As := As) (rest := st) (b := b) (C := Y2.1.cls) (bytes := Y2.2.1) (maxL := Y2.2.2.1) (ret := Y2.2.2.2) ⟨hx, hb, rfl, hown, hts⟩ (hC l D dA) (cwV np hts hG rfl rfl rfl ⟨rfl, w5⟩ ⟨Nat.le_refl _, by show 8 + (Y2.2.2.1 + 11) + 40 * d ≤ 40 * (d + 1); omega⟩) ⟨xPre_blind, va_recv hKK (hH.one hM) hcl.1 (q0 := 0) rfl, fun U hU hW => ⟨rfl, by rw [hU]; exact hH.weak (fun _ _ => trivial), va_K.moved hW.alike hKK, hNs.warm hW⟩⟩ rfl hn hl.1 rfl (lv_room hb8) hd ⟨hcc, hss⟩) hA hH hS ?_
  exact fun v M' sz' H1 locs1 hq hH1 hS1 => k v M' sz' hq H1 locs1 ls hH1 hS1 hl
theorem xg_callI (h : xX Y (xR (d + 1) mc0 ms0) K) {b : Nat} (As : List Value) (hm : xIm Y2 np) (hd : decode Y.2.1 pc = .ok (.invokespecial ix, 3)) (hw : Cond.methodLink Y.1.cls ix Y2.1 ∈ lw_g) (hn : As.length = np) {st0 : List Value} (hst : As.reverse ++ .ref b :: st = st0) (hb8 : (st.map fun v => v.category).sum ≤ 8) (hC : xC d mc ms Y2 (.ref b :: As) M sz Q2) (hcc : c + mc ≤ mc0) (hss : n + ms ≤ ms0) (k : ∀ v M' sz', Q2 v M' sz' → xG K (pc + 3) vs (v.toList ++ st) M' sz' (c + mc) (n + ms)) : xG K pc vs st0 M sz c n := by
  subst hst
  obtain ⟨p, l, e, R, s, m, args, below, meth, c0, Qs, D, dA, A⟩ := K
  obtain ⟨hx, hb, hml, hr, hlk, hown, hts, hKK, hA, hnm, hR, hNs⟩ := h
  subst hR
  intro H locs ls hH hS hl
  obtain ⟨w1, w2, w3, w4, w5, w6, w7⟩ := hm
  have w1' : Cond.code Y2.1 Y2.2.1 Y2.2.2.1 none ∈ lw_g := by rw [← w7]; exact w1
  have hw7 : xw Y2 = Cond.code Y2.1 Y2.2.1 Y2.2.2.1 none :: lw_g := by unfold xw; rw [w7]
  refine xg_after (va_runI (As := As) (rest := st) (b := b) (bytes := Y2.2.1) (maxL := Y2.2.2.1) ⟨hx, hb, rfl, hown, hts⟩ (hC l D dA) (cwI np hts (x_goodW w1) hw7 rfl rfl (hts _ w4) (hts _ hw) (hts _ w2) w3 w5 ⟨Nat.le_refl _, by show 8 + (Y2.2.2.1 + 11) + 40 * d ≤ 40 * (d + 1); omega⟩) ⟨xPre_blind, fun U hU hW => ⟨rfl, by rw [hU]; exact hH.weak (fun _ _ => trivial), va_K.moved hW.alike hKK, hNs.warm hW⟩⟩ rfl hn hl.1 rfl (lv_room hb8) hd ⟨hcc, hss⟩) hA hH hS ?_
  exact fun v M' sz' H1 locs1 hq hH1 hS1 => k v M' sz' hq H1 locs1 ls hH1 hS1 hl
theorem xg_callS (h : xX Y (xR (d + 1) mc0 ms0) K) (As : List Value) (hm : xSm Y2 np) (hd : decode Y.2.1 pc = .ok (.invokestatic ix, 3)) (hw : Cond.methodLink Y.1.cls ix Y2.1 ∈ lw_g) (hn : As.length = np) {st0 : List Value} (hst : As.reverse ++ st = st0) (hb8 : (st.map fun v => v.category).sum ≤ 8) (hC : xC d mc ms Y2 As M sz Q2) (hcc : c + mc ≤ mc0) (hss : n + ms ≤ ms0) (k : ∀ v M' sz', Q2 v M' sz' → xG K (pc + 3) vs (v.toList ++ st) M' sz' (c + mc) (n + ms)) : xG K pc vs st0 M sz c n := by
  subst hst
  obtain ⟨p, l, e, R, s, m, args, below, meth, c0, Qs, D, dA, A⟩ := K
  obtain ⟨hx, hb, hml, hr, hlk, hown, hts, hKK, hA, hnm, hR, hNs⟩ := h
  subst hR
  intro H locs ls hH hS hl
  obtain ⟨w1, w2, w4, w5, w6⟩ := hm
  refine xg_after (va_runS (As := As) (rest := st) (bytes := Y2.2.1) (maxL := Y2.2.2.1) (ret := Y2.2.2.2) ⟨hx, hb, rfl, hown, hts⟩ (hC l D dA) ⟨callB_of np hts (x_goodW w1) rfl rfl rfl (hts _ w4) (hts _ hw) w5 ⟨Nat.le_refl _, by show 8 + (Y2.2.2.1 + 11) + 40 * d ≤ 40 * (d + 1); omega⟩, hts _ w2⟩ ⟨xPre_blind, fun U hU hW => ⟨rfl, by rw [hU]; exact hH.weak (fun _ _ => trivial), va_K.moved hW.alike hKK, hNs.warm hW⟩⟩ rfl hn hl.1 rfl (lv_room hb8) hd ⟨hcc, hss⟩) hA hH hS ?_
  exact fun v M' sz' H1 locs1 hq hH1 hS1 => k v M' sz' hq H1 locs1 ls hH1 hS1 hl
theorem xg_callSN (h : xX Y (xR (d + 1) mc0 ms0) K) {host : String} (As : List Value) (hm : xSm Y2 np) (hd : decode Y.2.1 pc = .ok (.invokestatic ix, 3)) (hw : (Y.1.cls, ix, Y2.1, host) ∈ xNl) (hn : As.length = np) {st0 : List Value} (hst : As.reverse ++ st = st0) (hb8 : (st.map fun v => v.category).sum ≤ 8) (hC : xC d mc ms Y2 As M sz Q2) (hcc : c + mc ≤ mc0) (hss : n + ms ≤ ms0) (k : ∀ v M' sz', Q2 v M' sz' → xG K (pc + 3) vs (v.toList ++ st) M' sz' (c + mc) (n + ms)) : xG K pc vs st0 M sz c n := by
  subst hst
  obtain ⟨p, l, e, R, s, m, args, below, meth, c0, Qs, D, dA, A⟩ := K
  obtain ⟨hx, hb, hml, hr, hlk, hown, hts, hKK, hA, hnm, hR, hNs⟩ := h
  subst hR
  intro H locs ls hH hS hl
  obtain ⟨w1, w2, w4, w5, w6⟩ := hm
  refine xg_after (va_runSN (As := As) (rest := st) (host := host) (bytes := Y2.2.1) (maxL := Y2.2.2.1) (ret := Y2.2.2.2) ⟨hx, hb, rfl, hown, hts⟩ (hC l D dA) ⟨⟨⟨rfl, rfl, Nat.le_refl _, by show 8 + (Y2.2.2.1 + 11) + 40 * d ≤ 40 * (d + 1); omega, pay_in hts (x_goodW w1), List.mem_cons_self⟩, hts _ w1, hts _ w4, ⟨w5.1, w5.2.1⟩, fun sig hsig => by
      have h2 := w5.2.2
      rw [hsig] at h2
      exact (Option.some.inj h2).symm, va_Nw.use rfl (hNs.1 _ hw)⟩, hts _ w2, trivial⟩ ⟨xPre_blind, fun U hU hW => ⟨rfl, by rw [hU]; exact hH.weak (fun _ _ => trivial), va_K.moved hW.alike hKK, hNs.warm hW⟩⟩ rfl hn hl.1 rfl (lv_room hb8) hd ⟨hcc, hss⟩) hA hH hS ?_
  exact fun v M' sz' H1 locs1 hq hH1 hS1 => k v M' sz' hq H1 locs1 ls hH1 hS1 hl
end XCALL
