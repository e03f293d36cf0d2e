/-! THE LAYER: an abstract heap (address to cell) and one judgement xG over it: every row of the machine that the walks need, once. -/
abbrev xE : Type := (Nat × vp_A) ⊕ (Nat × List Value)
abbrev xH : Type := Nat → Option xE
abbrev xK : Type := Program × Launch × Env × Room × State × MethodId × Array Value × List Frame × Method × Code × (State → Prop) × va_G × (Nat → ClassId) × (Nat → Prop)
def xe (dA : Nat → ClassId) (z : xE) : va_E := match z with
  | .inl q => .inl (dA q.1, q.2)
  | .inr q => .inr q
def xup (M : xH) (a : Nat) (z : xE) : xH := fun q => if q = a then some z else M q
theorem xup_s (M : xH) (a : Nat) (z : xE) : xup M a z a = some z := if_pos rfl
theorem xup_n (M : xH) {a b : Nat} (z : xE) (h : b ≠ a) : xup M a z b = M b := if_neg h
def xTys (dA : Nat → ClassId) : List (ClassId × FieldType) := xTy.zipIdx.map (fun q => (dA q.2, q.1))
theorem xTys_at (dA : Nat → ClassId) {t : Nat} {ty : FieldType} (h : xTy[t]? = some ty) : (xTys dA)[t]? = some (dA t, ty) := by
  simp [xTys, List.getElem?_map, List.getElem?_zipIdx, h]
/-- the machine's heap, of sz cells, holds the abstract one -/
def xHo (D : va_G) (dA : Nat → ClassId) (A : Nat → Prop) (M : xH) (sz : Nat) (H : Heap) : Prop :=
  H.size = sz ∧ ∀ (a : Nat) (z : xE), M a = some z → va_at D classes (a, xe dA z) H ∧ A a
theorem xHo.weak {D : va_G} {dA : Nat → ClassId} {A B : Nat → Prop} {M : xH} {sz : Nat} {H : Heap} (h : xHo D dA A M sz H) (hAB : ∀ q, A q → B q) : xHo D dA B M sz H :=
  ⟨h.1, fun a z hz => ⟨(h.2 a z hz).1, hAB a (h.2 a z hz).2⟩⟩
theorem xHo.lt {D : va_G} {dA : Nat → ClassId} {A : Nat → Prop} {M : xH} {sz : Nat} {H : Heap} (h : xHo D dA A M sz H) {a : Nat} {z : xE} (hz : M a = some z) : a < sz := by
  rw [← h.1]; exact (h.2 a z hz).1.lt
theorem xHo.put {D : va_G} {dA : Nat → ClassId} {A : Nat → Prop} {M : xH} {sz : Nat} {H H1 : Heap} (h : xHo D dA A M sz H) {a : Nat} {z : xE} (hA : A a) (h1 : va_at D classes (a, xe dA z) H1) (hs : H1.size = H.size) (ho : ∀ q : Nat, q ≠ a → H1[q]? = H[q]?) : xHo D dA A (xup M a z) sz H1 := by
  refine ⟨by rw [hs]; exact h.1, fun b w hw => ?_⟩
  by_cases hb : b = a
  · subst hb
    rw [xup_s] at hw
    cases hw
    exact ⟨h1, hA⟩
  · rw [xup_n M z hb] at hw
    exact ⟨(h.2 b w hw).1.kept (ho b hb), (h.2 b w hw).2⟩
theorem xHo.push {D : va_G} {dA : Nat → ClassId} {A : Nat → Prop} {M : xH} {sz : Nat} {H H1 : Heap} (h : xHo D dA A M sz H) {z : xE} (hA : A sz) (h1 : va_at D classes (sz, xe dA z) H1) (hs : H1.size = sz + 1) (ho : ∀ q : Nat, q < sz → H1[q]? = H[q]?) : xHo D dA A (xup M sz z) (sz + 1) H1 := by
  refine ⟨hs, fun b w hw => ?_⟩
  by_cases hb : b = sz
  · subst hb
    rw [xup_s] at hw
    cases hw
    exact ⟨h1, hA⟩
  · rw [xup_n M z hb] at hw
    exact ⟨(h.2 b w hw).1.kept (ho b (h.lt hw)), (h.2 b w hw).2⟩
/-- one cell as a world of the kit -/
theorem xHo.one {D : va_G} {dA : Nat → ClassId} {A : Nat → Prop} {M : xH} {sz : Nat} {H : Heap} (h : xHo D dA A M sz H) {a : Nat} {z : xE} (hz : M a = some z) : va_P D classes [(a, xe dA z)] H := by
  intro k q hk
  cases k with
  | zero => cases hk; exact (h.2 a z hz).1
  | succ k => simp at hk
/-- locals: what is listed is held; only one-word values -/
def xL (ls : Array Slot) (nL : Nat) (vs : List (Option Value)) : Prop := ls.size = nL ∧ lv_wf ls ∧ ∀ (i : Nat) (v : Value), vs[i]? = some (some v) → ls[i]? = some (.val v) ∧ v.category = 1
def xlv (vs : List (Option Value)) : List (Nat × Value) := vs.zipIdx.filterMap (fun q => q.1.map (fun v => (q.2, v)))
theorem xlv_mem {vs : List (Option Value)} {q : Nat × Value} : q ∈ xlv vs ↔ vs[q.1]? = some (some q.2) := by
  unfold xlv
  rw [List.mem_filterMap]
  constructor
  · rintro ⟨⟨o, i⟩, h1, h2⟩
    rw [List.mem_zipIdx_iff_getElem?] at h1
    cases o with
    | none => cases h2
    | some v =>
      cases h2
      exact h1
  · intro h
    exact ⟨(some q.2, q.1), by rw [List.mem_zipIdx_iff_getElem?]; exact h, rfl⟩
theorem xL.has {ls : Array Slot} {nL : Nat} {vs : List (Option Value)} (h : xL ls nL vs) : lv_has ls nL (xlv vs) := ⟨h.1, h.2.1, fun q hq => (h.2.2 q.1 q.2 (xlv_mem.mp hq)).1⟩
theorem xL.store {ls ls' : Array Slot} {nL : Nat} {vs : List (Option Value)} (h : xL ls nL vs) {i : Nat} {v : Value} (hv : v.category = 1) (h' : lv_has ls' nL ((i, v) :: (xlv vs).filter (fun q => !(q.1 == i) && !(q.1 + 1 == i && q.2.category == 2)))) : xL ls' nL (vs.set i (some v)) := by
  refine ⟨h'.1, h'.2.1, fun j w hw => ?_⟩
  by_cases hj : i = j
  · subst hj
    have hlt : i < vs.length := by
      rcases Nat.lt_or_ge i vs.length with q | q
      · exact q
      · rw [List.getElem?_eq_none (by rw [List.length_set]; exact q)] at hw
        cases hw
    rw [List.getElem?_set_self hlt] at hw
    cases hw
    exact ⟨h'.2.2 (i, v) List.mem_cons_self, hv⟩
  · rw [List.getElem?_set_ne hj] at hw
    have hc := (h.2.2 j w hw).2
    refine ⟨h'.2.2 (j, w) (List.mem_cons_of_mem _ (List.mem_filter.mpr ⟨xlv_mem.mpr hw, ?_⟩)), hc⟩
    have h1 : (j == i) = false := by simp [Ne.symm hj]
    simp [h1, hc]
theorem xL.sub {ls : Array Slot} {nL : Nat} {vs vs' : List (Option Value)} (h : xL ls nL vs) (hs : ∀ (i : Nat) (v : Value), vs'[i]? = some (some v) → vs[i]? = some (some v)) : xL ls nL vs' := ⟨h.1, h.2.1, fun i v hv => h.2.2 i v (hs i v hv)⟩
/-- the words that a change of the tables' warmth doesn't keep by itself: nest mates' links, arrays over classes -/
def xNs (U : State) : Prop := (∀ q ∈ xNl, va_Nw (.methodLinkNest q.1 q.2.1 q.2.2.1 q.2.2.2) U) ∧ ∀ C ∈ xAo, va_AO C U
theorem xNs.warm {s U : State} (hW : s.WarmedH U.vm) (h : xNs s) : xNs U := ⟨fun q hq => (h.1 q hq).warmM hW, fun C hC => (h.2 C hC).moved hW.alike⟩
theorem xNs.same {s U : State} (e : s.vm = U.vm) (h : xNs s) : xNs U := ⟨fun q hq => (h.1 q hq).same rfl e, fun C hC => (h.2 C hC).moved (by rw [e]; exact Vm.Alike.refl U.vm)⟩
/-- the context: the method's code and tables -/
def xX (Y : xM) (rm : Room) (K : xK) : Prop := match K with
  | (p, _, _, R, s, m, args, _, meth, c0, _, D, dA, A) => p.tables.exec = Jvm.exec ∧ c0.code = Y.2.1 ∧ c0.maxLocals = Y.2.2.1 ∧ meth.sig.returnType = Y.2.2.2 ∧ meth.locks = false ∧ s.vm.findClass Y.1.cls = some m.cls ∧ (∀ w ∈ lw_g, w.before args s = true) ∧ va_K D classes (xTys dA) s ∧ (∀ q : Nat, s.heap.size ≤ q → A q) ∧ meth.name = Y.1.name ∧ R = rm ∧ xNs s
/-- the judgement -/
def xG (K : xK) (pc : Nat) (vs : List (Option Value)) (st : List Value) (M : xH) (sz c n : Nat) : Prop := match K with
  | (p, l, e, R, s, m, args, below, meth, c0, Q, D, dA, A) => ∀ (H : Heap) (locs : List Loc) (ls : Array Slot), xHo D dA A M sz H → va_S A s.heap H locs → xL ls c0.maxLocals vs → W p l e R s m args below meth c0 H locs c n Q (F0 m pc ls st)
section XG
variable {Y : xM} {rm : Room} {K : xK} {pc : Nat} {vs : List (Option Value)} {st : List Value} {M : xH} {sz c n : Nat}
theorem xg_pc {pc' : Nat} (h : pc = pc') (k : xG K pc' vs st M sz c n) : xG K pc vs st M sz c n := by subst h; exact k
theorem xg_sub {vs' : List (Option Value)} (hs : ∀ (i : Nat) (v : Value), vs'[i]? = some (some v) → vs[i]? = some (some v)) (k : xG K pc vs' st M sz c n) : xG K pc vs st M sz c n := by
  obtain ⟨p, l, e, R, s, m, args, below, meth, c0, Q, D, dA, A⟩ := K
  exact fun H locs ls hH hS hl => k H locs ls hH hS (hl.sub hs)
theorem xg_iconst (h : xX Y rm K) {z : Int} (v : Int32) (hd : decode Y.2.1 pc = .ok (.iconst z, 1)) (hv : Int32.ofInt z = v) (k : xG K (pc + 1) vs (.int v :: st) M sz c n) : xG K pc vs st M sz c n := by
  obtain ⟨p, l, e, R, s, m, args, below, meth, c0, Q, D, dA, A⟩ := K
  exact fun H locs ls hH hS hl => lv_iconst h.1 h.2.1 hd hv (k H locs ls hH hS hl)
theorem xg_bipush (h : xX Y rm K) {z : Int} (v : Int32) (hd : decode Y.2.1 pc = .ok (.bipush z, 2)) (hv : (Int8.ofInt z).toInt32 = v) (k : xG K (pc + 2) vs (.int v :: st) M sz c n) : xG K pc vs st M sz c n := by
  obtain ⟨p, l, e, R, s, m, args, below, meth, c0, Q, D, dA, A⟩ := K
  exact fun H locs ls hH hS hl => lv_bipush h.1 h.2.1 hd hv (k H locs ls hH hS hl)
theorem xg_sipush (h : xX Y rm K) {z : Int} (v : Int32) (hd : decode Y.2.1 pc = .ok (.sipush z, 3)) (hv : (Int16.ofInt z).toInt32 = v) (k : xG K (pc + 3) vs (.int v :: st) M sz c n) : xG K pc vs st M sz c n := by
  obtain ⟨p, l, e, R, s, m, args, below, meth, c0, Q, D, dA, A⟩ := K
  exact fun H locs ls hH hS hl => lv_sipush h.1 h.2.1 hd hv (k H locs ls hH hS hl)
theorem xg_ldc (h : xX Y rm K) {ix : Nat} (v : Int32) (hd : decode Y.2.1 pc = .ok (.ldc ix, 2)) (hw : Cond.constant Y.1.cls ix v ∈ lw_g) (k : xG K (pc + 2) vs (.int v :: st) M sz c n) : xG K pc vs st M sz c n := by
  obtain ⟨p, l, e, R, s, m, args, below, meth, c0, Q, D, dA, A⟩ := K
  obtain ⟨hx, hb, hml, hr, hlk, hown, hts, hKK, hA, hnm, hR, hNs⟩ := h
  exact fun H locs ls hH hS hl => lv_ldc hx hb hown (hts _ hw) hd (k H locs ls hH hS hl)
theorem xg_null (h : xX Y rm K) (hd : decode Y.2.1 pc = .ok (.aconst_null, 1)) (k : xG K (pc + 1) vs (.null :: st) M sz c n) : xG K pc vs st M sz c n := by
  obtain ⟨p, l, e, R, s, m, args, below, meth, c0, Q, D, dA, A⟩ := K
  exact fun H locs ls hH hS hl => lv_null h.1 h.2.1 hd (k H locs ls hH hS hl)
theorem xg_iload_n (h : xX Y rm K) {i : Fin 4} {x : Int32} (hd : decode Y.2.1 pc = .ok (.iload_n i, 1)) (hv : vs[(i : Nat)]? = some (some (.int x))) (k : xG K (pc + 1) vs (.int x :: st) M sz c n) : xG K pc vs st M sz c n := by
  obtain ⟨p, l, e, R, s, m, args, below, meth, c0, Q, D, dA, A⟩ := K
  exact fun H locs ls hH hS hl => lv_iload_n h.1 h.2.1 hd rfl (hl.2.2 _ _ hv).1 (k H locs ls hH hS hl)
theorem xg_iload_w (h : xX Y rm K) {i : Nat} {x : Int32} (hd : decode Y.2.1 pc = .ok (.iload i, 2)) (hv : vs[i]? = some (some (.int x))) (k : xG K (pc + 2) vs (.int x :: st) M sz c n) : xG K pc vs st M sz c n := by
  obtain ⟨p, l, e, R, s, m, args, below, meth, c0, Q, D, dA, A⟩ := K
  exact fun H locs ls hH hS hl => lv_iload h.1 h.2.1 hd (hl.2.2 _ _ hv).1 (k H locs ls hH hS hl)
theorem xg_aload_n (h : xX Y rm K) {i : Fin 4} {x : Nat} (hd : decode Y.2.1 pc = .ok (.aload_n i, 1)) (hv : vs[(i : Nat)]? = some (some (.ref x))) (k : xG K (pc + 1) vs (.ref x :: st) M sz c n) : xG K pc vs st M sz c n := by
  obtain ⟨p, l, e, R, s, m, args, below, meth, c0, Q, D, dA, A⟩ := K
  exact fun H locs ls hH hS hl => lv_aload_n h.1 h.2.1 hd rfl (hl.2.2 _ _ hv).1 (k H locs ls hH hS hl)
theorem xg_aload_w (h : xX Y rm K) {i : Nat} {x : Nat} (hd : decode Y.2.1 pc = .ok (.aload i, 2)) (hv : vs[i]? = some (some (.ref x))) (k : xG K (pc + 2) vs (.ref x :: st) M sz c n) : xG K pc vs st M sz c n := by
  obtain ⟨p, l, e, R, s, m, args, below, meth, c0, Q, D, dA, A⟩ := K
  exact fun H locs ls hH hS hl => lv_aload h.1 h.2.1 hd (hl.2.2 _ _ hv).1 (k H locs ls hH hS hl)
theorem xg_aloadN_n (h : xX Y rm K) {i : Fin 4} (hd : decode Y.2.1 pc = .ok (.aload_n i, 1)) (hv : vs[(i : Nat)]? = some (some .null)) (k : xG K (pc + 1) vs (.null :: st) M sz c n) : xG K pc vs st M sz c n := by
  obtain ⟨p, l, e, R, s, m, args, below, meth, c0, Q, D, dA, A⟩ := K
  exact fun H locs ls hH hS hl => lv_aload_nN h.1 h.2.1 hd rfl (hl.2.2 _ _ hv).1 (k H locs ls hH hS hl)
theorem xg_aloadN_w (h : xX Y rm K) {i : Nat} (hd : decode Y.2.1 pc = .ok (.aload i, 2)) (hv : vs[i]? = some (some .null)) (k : xG K (pc + 2) vs (.null :: st) M sz c n) : xG K pc vs st M sz c n := by
  obtain ⟨p, l, e, R, s, m, args, below, meth, c0, Q, D, dA, A⟩ := K
  exact fun H locs ls hH hS hl => lv_aloadN h.1 h.2.1 hd (hl.2.2 _ _ hv).1 (k H locs ls hH hS hl)
theorem xg_istore_n (h : xX Y rm K) {i : Fin 4} {x : Int32} (hd : decode Y.2.1 pc = .ok (.istore_n i, 1)) (hi : (i : Nat) < Y.2.2.1) {vs' : List (Option Value)} (hv : vs.set (i : Nat) (some (.int x)) = vs') (k : xG K (pc + 1) vs' st M sz c n) : xG K pc vs (.int x :: st) M sz c n := by
  subst hv
  obtain ⟨p, l, e, R, s, m, args, below, meth, c0, Q, D, dA, A⟩ := K
  obtain ⟨hx, hb, hml, hr, hlk, hown, hts, hKK, hA, hnm, hR, hNs⟩ := h
  exact fun H locs ls hH hS hl => lv_istore_n hx hb hd rfl hl.has (by rw [hml]; exact hi) rfl (fun ls' hl' => k H locs ls' hH hS (hl.store rfl hl'))
theorem xg_istore_w (h : xX Y rm K) {i : Nat} {x : Int32} (hd : decode Y.2.1 pc = .ok (.istore i, 2)) (hi : i < Y.2.2.1) {vs' : List (Option Value)} (hv : vs.set i (some (.int x)) = vs') (k : xG K (pc + 2) vs' st M sz c n) : xG K pc vs (.int x :: st) M sz c n := by
  subst hv
  obtain ⟨p, l, e, R, s, m, args, below, meth, c0, Q, D, dA, A⟩ := K
  obtain ⟨hx, hb, hml, hr, hlk, hown, hts, hKK, hA, hnm, hR, hNs⟩ := h
  exact fun H locs ls hH hS hl => lv_istore hx hb hd hl.has (by rw [hml]; exact hi) rfl (fun ls' hl' => k H locs ls' hH hS (hl.store rfl hl'))
theorem xg_astore_n (h : xX Y rm K) {i : Fin 4} {x : Nat} (hd : decode Y.2.1 pc = .ok (.astore_n i, 1)) (hi : (i : Nat) < Y.2.2.1) {vs' : List (Option Value)} (hv : vs.set (i : Nat) (some (.ref x)) = vs') (k : xG K (pc + 1) vs' st M sz c n) : xG K pc vs (.ref x :: st) M sz c n := by
  subst hv
  obtain ⟨p, l, e, R, s, m, args, below, meth, c0, Q, D, dA, A⟩ := K
  obtain ⟨hx, hb, hml, hr, hlk, hown, hts, hKK, hA, hnm, hR, hNs⟩ := h
  exact fun H locs ls hH hS hl => lv_astore_n hx hb hd rfl hl.has (by rw [hml]; exact hi) rfl (fun ls' hl' => k H locs ls' hH hS (hl.store rfl hl'))
theorem xg_astore_w (h : xX Y rm K) {i : Nat} {x : Nat} (hd : decode Y.2.1 pc = .ok (.astore i, 2)) (hi : i < Y.2.2.1) {vs' : List (Option Value)} (hv : vs.set i (some (.ref x)) = vs') (k : xG K (pc + 2) vs' st M sz c n) : xG K pc vs (.ref x :: st) M sz c n := by
  subst hv
  obtain ⟨p, l, e, R, s, m, args, below, meth, c0, Q, D, dA, A⟩ := K
  obtain ⟨hx, hb, hml, hr, hlk, hown, hts, hKK, hA, hnm, hR, hNs⟩ := h
  exact fun H locs ls hH hS hl => lv_astore hx hb hd hl.has (by rw [hml]; exact hi) rfl (fun ls' hl' => k H locs ls' hH hS (hl.store rfl hl'))
theorem xg_astoreN_n (h : xX Y rm K) {i : Fin 4} (hd : decode Y.2.1 pc = .ok (.astore_n i, 1)) (hi : (i : Nat) < Y.2.2.1) {vs' : List (Option Value)} (hv : vs.set (i : Nat) (some .null) = vs') (k : xG K (pc + 1) vs' st M sz c n) : xG K pc vs (.null :: st) M sz c n := by
  subst hv
  obtain ⟨p, l, e, R, s, m, args, below, meth, c0, Q, D, dA, A⟩ := K
  obtain ⟨hx, hb, hml, hr, hlk, hown, hts, hKK, hA, hnm, hR, hNs⟩ := h
  exact fun H locs ls hH hS hl => lv_astore_nN hx hb hd rfl hl.has (by rw [hml]; exact hi) rfl (fun ls' hl' => k H locs ls' hH hS (hl.store rfl hl'))
theorem xg_astoreN_w (h : xX Y rm K) {i : Nat} (hd : decode Y.2.1 pc = .ok (.astore i, 2)) (hi : i < Y.2.2.1) {vs' : List (Option Value)} (hv : vs.set i (some .null) = vs') (k : xG K (pc + 2) vs' st M sz c n) : xG K pc vs (.null :: st) M sz c n := by
  subst hv
  obtain ⟨p, l, e, R, s, m, args, below, meth, c0, Q, D, dA, A⟩ := K
  obtain ⟨hx, hb, hml, hr, hlk, hown, hts, hKK, hA, hnm, hR, hNs⟩ := h
  exact fun H locs ls hH hS hl => lv_astoreN hx hb hd hl.has (by rw [hml]; exact hi) rfl (fun ls' hl' => k H locs ls' hH hS (hl.store rfl hl'))
theorem xg_iinc (h : xX Y rm K) {i : Nat} {z : Int} {x v : Int32} (hd : decode Y.2.1 pc = .ok (.iinc i z, 3)) (hi : i < Y.2.2.1) (h0 : vs[i]? = some (some (.int x))) (hz : Int32.ofInt z = v) {vs' : List (Option Value)} (hv : vs.set i (some (.int (x + v))) = vs') (k : xG K (pc + 3) vs' st M sz c n) : xG K pc vs st M sz c n := by
  subst hv
  subst hz
  obtain ⟨p, l, e, R, s, m, args, below, meth, c0, Q, D, dA, A⟩ := K
  obtain ⟨hx, hb, hml, hr, hlk, hown, hts, hKK, hA, hnm, hR, hNs⟩ := h
  intro H locs ls hH hS hl
  obtain ⟨j, hj⟩ := List.getElem?_of_mem ((xlv_mem (q := (i, .int x))).mpr h0)
  exact lv_iinc hx hb hd hl.has hj rfl (by rw [hml]; exact hi) rfl (fun ls' hl' => k H locs ls' hH hS (hl.store rfl hl'))
theorem xg_iadd (h : xX Y rm K) {x y : Int32} (hd : decode Y.2.1 pc = .ok (.iadd, 1)) (k : xG K (pc + 1) vs (.int (x + y) :: st) M sz c n) : xG K pc vs (.int y :: .int x :: st) M sz c n := by
  obtain ⟨p, l, e, R, s, m, args, below, meth, c0, Q, D, dA, A⟩ := K
  exact fun H locs ls hH hS hl => lv_iadd h.1 h.2.1 hd (k H locs ls hH hS hl)
theorem xg_isub (h : xX Y rm K) {x y : Int32} (hd : decode Y.2.1 pc = .ok (.isub, 1)) (k : xG K (pc + 1) vs (.int (x - y) :: st) M sz c n) : xG K pc vs (.int y :: .int x :: st) M sz c n := by
  obtain ⟨p, l, e, R, s, m, args, below, meth, c0, Q, D, dA, A⟩ := K
  exact fun H locs ls hH hS hl => lv_isub h.1 h.2.1 hd (k H locs ls hH hS hl)
theorem xg_imul (h : xX Y rm K) {x y : Int32} (hd : decode Y.2.1 pc = .ok (.imul, 1)) (k : xG K (pc + 1) vs (.int (x * y) :: st) M sz c n) : xG K pc vs (.int y :: .int x :: st) M sz c n := by
  obtain ⟨p, l, e, R, s, m, args, below, meth, c0, Q, D, dA, A⟩ := K
  exact fun H locs ls hH hS hl => lv_imul h.1 h.2.1 hd (k H locs ls hH hS hl)
theorem xg_iand (h : xX Y rm K) {x y : Int32} (hd : decode Y.2.1 pc = .ok (.iand, 1)) (k : xG K (pc + 1) vs (.int (x &&& y) :: st) M sz c n) : xG K pc vs (.int y :: .int x :: st) M sz c n := by
  obtain ⟨p, l, e, R, s, m, args, below, meth, c0, Q, D, dA, A⟩ := K
  exact fun H locs ls hH hS hl => lv_iand h.1 h.2.1 hd (k H locs ls hH hS hl)
theorem xg_ior (h : xX Y rm K) {x y : Int32} (hd : decode Y.2.1 pc = .ok (.ior, 1)) (k : xG K (pc + 1) vs (.int (x ||| y) :: st) M sz c n) : xG K pc vs (.int y :: .int x :: st) M sz c n := by
  obtain ⟨p, l, e, R, s, m, args, below, meth, c0, Q, D, dA, A⟩ := K
  exact fun H locs ls hH hS hl => lv_ior h.1 h.2.1 hd (k H locs ls hH hS hl)
theorem xg_ixor (h : xX Y rm K) {x y : Int32} (hd : decode Y.2.1 pc = .ok (.ixor, 1)) (k : xG K (pc + 1) vs (.int (x ^^^ y) :: st) M sz c n) : xG K pc vs (.int y :: .int x :: st) M sz c n := by
  obtain ⟨p, l, e, R, s, m, args, below, meth, c0, Q, D, dA, A⟩ := K
  exact fun H locs ls hH hS hl => lv_ixor h.1 h.2.1 hd (k H locs ls hH hS hl)
theorem xg_idiv (h : xX Y rm K) {x y : Int32} (hd : decode Y.2.1 pc = .ok (.idiv, 1)) (h0 : ¬ y = 0) (k : xG K (pc + 1) vs (.int (x / y) :: st) M sz c n) : xG K pc vs (.int y :: .int x :: st) M sz c n := by
  obtain ⟨p, l, e, R, s, m, args, below, meth, c0, Q, D, dA, A⟩ := K
  exact fun H locs ls hH hS hl => lv_idiv h.1 h.2.1 hd h0 (k H locs ls hH hS hl)
theorem xg_irem (h : xX Y rm K) {x y : Int32} (hd : decode Y.2.1 pc = .ok (.irem, 1)) (h0 : ¬ y = 0) (k : xG K (pc + 1) vs (.int (x - x / y * y) :: st) M sz c n) : xG K pc vs (.int y :: .int x :: st) M sz c n := by
  obtain ⟨p, l, e, R, s, m, args, below, meth, c0, Q, D, dA, A⟩ := K
  exact fun H locs ls hH hS hl => lv_irem h.1 h.2.1 hd h0 (k H locs ls hH hS hl)
theorem xg_ineg (h : xX Y rm K) {x : Int32} (hd : decode Y.2.1 pc = .ok (.ineg, 1)) (k : xG K (pc + 1) vs (.int (-x) :: st) M sz c n) : xG K pc vs (.int x :: st) M sz c n := by
  obtain ⟨p, l, e, R, s, m, args, below, meth, c0, Q, D, dA, A⟩ := K
  exact fun H locs ls hH hS hl => lv_ineg h.1 h.2.1 hd (k H locs ls hH hS hl)
theorem xg_iushr (h : xX Y rm K) {x y : Int32} (hd : decode Y.2.1 pc = .ok (.iushr, 1)) (k : xG K (pc + 1) vs (.int (x.toUInt32 >>> (y.toUInt32 &&& Int32.toUInt32 31)).toInt32 :: st) M sz c n) : xG K pc vs (.int y :: .int x :: st) M sz c n := by
  obtain ⟨p, l, e, R, s, m, args, below, meth, c0, Q, D, dA, A⟩ := K
  exact fun H locs ls hH hS hl => lv_iushr h.1 h.2.1 hd rfl (k H locs ls hH hS hl)
theorem xg_i2b (h : xX Y rm K) {x : Int32} (hd : decode Y.2.1 pc = .ok (.i2b, 1)) (k : xG K (pc + 1) vs (.int (x.toInt8.toInt32) :: st) M sz c n) : xG K pc vs (.int x :: st) M sz c n := by
  obtain ⟨p, l, e, R, s, m, args, below, meth, c0, Q, D, dA, A⟩ := K
  exact fun H locs ls hH hS hl => lv_i2b h.1 h.2.1 hd rfl (k H locs ls hH hS hl)
theorem xg_i2c (h : xX Y rm K) {x : Int32} (hd : decode Y.2.1 pc = .ok (.i2c, 1)) (k : xG K (pc + 1) vs (.int ((x.toUInt32 % 65536).toInt32) :: st) M sz c n) : xG K pc vs (.int x :: st) M sz c n := by
  obtain ⟨p, l, e, R, s, m, args, below, meth, c0, Q, D, dA, A⟩ := K
  exact fun H locs ls hH hS hl => lv_i2c h.1 h.2.1 hd rfl (k H locs ls hH hS hl)
theorem xg_i2s (h : xX Y rm K) {x : Int32} (hd : decode Y.2.1 pc = .ok (.i2s, 1)) (k : xG K (pc + 1) vs (.int (x.toInt16.toInt32) :: st) M sz c n) : xG K pc vs (.int x :: st) M sz c n := by
  obtain ⟨p, l, e, R, s, m, args, below, meth, c0, Q, D, dA, A⟩ := K
  exact fun H locs ls hH hS hl => lv_i2s h.1 h.2.1 hd rfl (k H locs ls hH hS hl)
theorem xg_dup (h : xX Y rm K) {v : Value} (hd : decode Y.2.1 pc = .ok (.dup, 1)) (hv : v.category = 1) (k : xG K (pc + 1) vs (v :: v :: st) M sz c n) : xG K pc vs (v :: st) M sz c n := by
  obtain ⟨p, l, e, R, s, m, args, below, meth, c0, Q, D, dA, A⟩ := K
  exact fun H locs ls hH hS hl => lv_dup h.1 h.2.1 hd hv (k H locs ls hH hS hl)
theorem xg_pop (h : xX Y rm K) {v : Value} (hd : decode Y.2.1 pc = .ok (.pop, 1)) (hv : v.category = 1) (k : xG K (pc + 1) vs st M sz c n) : xG K pc vs (v :: st) M sz c n := by
  obtain ⟨p, l, e, R, s, m, args, below, meth, c0, Q, D, dA, A⟩ := K
  exact fun H locs ls hH hS hl => lv_pop h.1 h.2.1 hd hv (k H locs ls hH hS hl)
theorem xg_dup_x1 (h : xX Y rm K) {v w : Value} (hd : decode Y.2.1 pc = .ok (.dup_x1, 1)) (hv : v.category = 1) (hw : w.category = 1) (k : xG K (pc + 1) vs (v :: w :: v :: st) M sz c n) : xG K pc vs (v :: w :: st) M sz c n := by
  obtain ⟨p, l, e, R, s, m, args, below, meth, c0, Q, D, dA, A⟩ := K
  exact fun H locs ls hH hS hl => lv_dup_x1 h.1 h.2.1 hd hv hw (k H locs ls hH hS hl)
theorem xg_dup_x2 (h : xX Y rm K) {v w u : Value} (hd : decode Y.2.1 pc = .ok (.dup_x2, 1)) (hv : v.category = 1) (hw : w.category = 1) (hu : u.category = 1) (k : xG K (pc + 1) vs (v :: w :: u :: v :: st) M sz c n) : xG K pc vs (v :: w :: u :: st) M sz c n := by
  obtain ⟨p, l, e, R, s, m, args, below, meth, c0, Q, D, dA, A⟩ := K
  exact fun H locs ls hH hS hl => lv_dup_x2 h.1 h.2.1 hd hv hw hu (k H locs ls hH hS hl)
theorem xg_dup2 (h : xX Y rm K) {v w : Value} (hd : decode Y.2.1 pc = .ok (.dup2, 1)) (hv : v.category = 1) (hw : w.category = 1) (k : xG K (pc + 1) vs (v :: w :: v :: w :: st) M sz c n) : xG K pc vs (v :: w :: st) M sz c n := by
  obtain ⟨p, l, e, R, s, m, args, below, meth, c0, Q, D, dA, A⟩ := K
  exact fun H locs ls hH hS hl => lv_dup2_11 h.1 h.2.1 hd hv hw (k H locs ls hH hS hl)
theorem xg_if_eq (h : xX Y rm K) {x : Int32} {off : Int} (tgt : Nat) (hd : decode Y.2.1 pc = .ok (.ifCond .eq off, 3)) (ht : (pc : Int) + off = (tgt : Int)) (kt : x = 0 → xG K tgt vs st M sz c n) (kf : ¬ x = 0 → xG K (pc + 3) vs st M sz c n) : xG K pc vs (.int x :: st) M sz c n := by
  obtain ⟨p, l, e, R, s, m, args, below, meth, c0, Q, D, dA, A⟩ := K
  exact fun H locs ls hH hS hl => lv_if_eq h.1 h.2.1 hd ht (fun q => kt q H locs ls hH hS hl) (fun q => kf q H locs ls hH hS hl)
theorem xg_icmp_eq (h : xX Y rm K) {x y : Int32} {off : Int} (tgt : Nat) (hd : decode Y.2.1 pc = .ok (.if_icmp .eq off, 3)) (ht : (pc : Int) + off = (tgt : Int)) (kt : x = y → xG K tgt vs st M sz c n) (kf : ¬ x = y → xG K (pc + 3) vs st M sz c n) : xG K pc vs (.int y :: .int x :: st) M sz c n := by
  obtain ⟨p, l, e, R, s, m, args, below, meth, c0, Q, D, dA, A⟩ := K
  exact fun H locs ls hH hS hl => lv_icmp_eq h.1 h.2.1 hd ht (fun q => kt q H locs ls hH hS hl) (fun q => kf q H locs ls hH hS hl)
theorem xg_if_ne (h : xX Y rm K) {x : Int32} {off : Int} (tgt : Nat) (hd : decode Y.2.1 pc = .ok (.ifCond .ne off, 3)) (ht : (pc : Int) + off = (tgt : Int)) (kt : ¬ x = 0 → xG K tgt vs st M sz c n) (kf : x = 0 → xG K (pc + 3) vs st M sz c n) : xG K pc vs (.int x :: st) M sz c n := by
  obtain ⟨p, l, e, R, s, m, args, below, meth, c0, Q, D, dA, A⟩ := K
  exact fun H locs ls hH hS hl => lv_if_ne h.1 h.2.1 hd ht (fun q => kt q H locs ls hH hS hl) (fun q => kf q H locs ls hH hS hl)
theorem xg_icmp_ne (h : xX Y rm K) {x y : Int32} {off : Int} (tgt : Nat) (hd : decode Y.2.1 pc = .ok (.if_icmp .ne off, 3)) (ht : (pc : Int) + off = (tgt : Int)) (kt : ¬ x = y → xG K tgt vs st M sz c n) (kf : x = y → xG K (pc + 3) vs st M sz c n) : xG K pc vs (.int y :: .int x :: st) M sz c n := by
  obtain ⟨p, l, e, R, s, m, args, below, meth, c0, Q, D, dA, A⟩ := K
  exact fun H locs ls hH hS hl => lv_icmp_ne h.1 h.2.1 hd ht (fun q => kt q H locs ls hH hS hl) (fun q => kf q H locs ls hH hS hl)
theorem xg_if_lt (h : xX Y rm K) {x : Int32} {off : Int} (tgt : Nat) (hd : decode Y.2.1 pc = .ok (.ifCond .lt off, 3)) (ht : (pc : Int) + off = (tgt : Int)) (kt : x < 0 → xG K tgt vs st M sz c n) (kf : ¬ x < 0 → xG K (pc + 3) vs st M sz c n) : xG K pc vs (.int x :: st) M sz c n := by
  obtain ⟨p, l, e, R, s, m, args, below, meth, c0, Q, D, dA, A⟩ := K
  exact fun H locs ls hH hS hl => lv_if_lt h.1 h.2.1 hd ht (fun q => kt q H locs ls hH hS hl) (fun q => kf q H locs ls hH hS hl)
theorem xg_icmp_lt (h : xX Y rm K) {x y : Int32} {off : Int} (tgt : Nat) (hd : decode Y.2.1 pc = .ok (.if_icmp .lt off, 3)) (ht : (pc : Int) + off = (tgt : Int)) (kt : x < y → xG K tgt vs st M sz c n) (kf : ¬ x < y → xG K (pc + 3) vs st M sz c n) : xG K pc vs (.int y :: .int x :: st) M sz c n := by
  obtain ⟨p, l, e, R, s, m, args, below, meth, c0, Q, D, dA, A⟩ := K
  exact fun H locs ls hH hS hl => lv_icmp_lt h.1 h.2.1 hd ht (fun q => kt q H locs ls hH hS hl) (fun q => kf q H locs ls hH hS hl)
theorem xg_if_ge (h : xX Y rm K) {x : Int32} {off : Int} (tgt : Nat) (hd : decode Y.2.1 pc = .ok (.ifCond .ge off, 3)) (ht : (pc : Int) + off = (tgt : Int)) (kt : 0 ≤ x → xG K tgt vs st M sz c n) (kf : ¬ 0 ≤ x → xG K (pc + 3) vs st M sz c n) : xG K pc vs (.int x :: st) M sz c n := by
  obtain ⟨p, l, e, R, s, m, args, below, meth, c0, Q, D, dA, A⟩ := K
  exact fun H locs ls hH hS hl => lv_if_ge h.1 h.2.1 hd ht (fun q => kt q H locs ls hH hS hl) (fun q => kf q H locs ls hH hS hl)
theorem xg_icmp_ge (h : xX Y rm K) {x y : Int32} {off : Int} (tgt : Nat) (hd : decode Y.2.1 pc = .ok (.if_icmp .ge off, 3)) (ht : (pc : Int) + off = (tgt : Int)) (kt : y ≤ x → xG K tgt vs st M sz c n) (kf : ¬ y ≤ x → xG K (pc + 3) vs st M sz c n) : xG K pc vs (.int y :: .int x :: st) M sz c n := by
  obtain ⟨p, l, e, R, s, m, args, below, meth, c0, Q, D, dA, A⟩ := K
  exact fun H locs ls hH hS hl => lv_icmp_ge h.1 h.2.1 hd ht (fun q => kt q H locs ls hH hS hl) (fun q => kf q H locs ls hH hS hl)
theorem xg_if_gt (h : xX Y rm K) {x : Int32} {off : Int} (tgt : Nat) (hd : decode Y.2.1 pc = .ok (.ifCond .gt off, 3)) (ht : (pc : Int) + off = (tgt : Int)) (kt : 0 < x → xG K tgt vs st M sz c n) (kf : ¬ 0 < x → xG K (pc + 3) vs st M sz c n) : xG K pc vs (.int x :: st) M sz c n := by
  obtain ⟨p, l, e, R, s, m, args, below, meth, c0, Q, D, dA, A⟩ := K
  exact fun H locs ls hH hS hl => lv_if_gt h.1 h.2.1 hd ht (fun q => kt q H locs ls hH hS hl) (fun q => kf q H locs ls hH hS hl)
theorem xg_icmp_gt (h : xX Y rm K) {x y : Int32} {off : Int} (tgt : Nat) (hd : decode Y.2.1 pc = .ok (.if_icmp .gt off, 3)) (ht : (pc : Int) + off = (tgt : Int)) (kt : y < x → xG K tgt vs st M sz c n) (kf : ¬ y < x → xG K (pc + 3) vs st M sz c n) : xG K pc vs (.int y :: .int x :: st) M sz c n := by
  obtain ⟨p, l, e, R, s, m, args, below, meth, c0, Q, D, dA, A⟩ := K
  exact fun H locs ls hH hS hl => lv_icmp_gt h.1 h.2.1 hd ht (fun q => kt q H locs ls hH hS hl) (fun q => kf q H locs ls hH hS hl)
theorem xg_if_le (h : xX Y rm K) {x : Int32} {off : Int} (tgt : Nat) (hd : decode Y.2.1 pc = .ok (.ifCond .le off, 3)) (ht : (pc : Int) + off = (tgt : Int)) (kt : x ≤ 0 → xG K tgt vs st M sz c n) (kf : ¬ x ≤ 0 → xG K (pc + 3) vs st M sz c n) : xG K pc vs (.int x :: st) M sz c n := by
  obtain ⟨p, l, e, R, s, m, args, below, meth, c0, Q, D, dA, A⟩ := K
  exact fun H locs ls hH hS hl => lv_if_le h.1 h.2.1 hd ht (fun q => kt q H locs ls hH hS hl) (fun q => kf q H locs ls hH hS hl)
theorem xg_icmp_le (h : xX Y rm K) {x y : Int32} {off : Int} (tgt : Nat) (hd : decode Y.2.1 pc = .ok (.if_icmp .le off, 3)) (ht : (pc : Int) + off = (tgt : Int)) (kt : x ≤ y → xG K tgt vs st M sz c n) (kf : ¬ x ≤ y → xG K (pc + 3) vs st M sz c n) : xG K pc vs (.int y :: .int x :: st) M sz c n := by
  obtain ⟨p, l, e, R, s, m, args, below, meth, c0, Q, D, dA, A⟩ := K
  exact fun H locs ls hH hS hl => lv_icmp_le h.1 h.2.1 hd ht (fun q => kt q H locs ls hH hS hl) (fun q => kf q H locs ls hH hS hl)
theorem xg_goto (h : xX Y rm K) {off : Int} (tgt : Nat) (hd : decode Y.2.1 pc = .ok (.goto off, 3)) (ht : (pc : Int) + off = (tgt : Int)) (k : xG K tgt vs st M sz c n) : xG K pc vs st M sz c n := by
  obtain ⟨p, l, e, R, s, m, args, below, meth, c0, Q, D, dA, A⟩ := K
  exact fun H locs ls hH hS hl => lv_goto h.1 h.2.1 hd ht (k H locs ls hH hS hl)
theorem xg_ifnonnull (h : xX Y rm K) {x : Nat} {off : Int} (tgt : Nat) (hd : decode Y.2.1 pc = .ok (.ifnonnull off, 3)) (ht : (pc : Int) + off = (tgt : Int)) (k : xG K tgt vs st M sz c n) : xG K pc vs (.ref x :: st) M sz c n := by
  obtain ⟨p, l, e, R, s, m, args, below, meth, c0, Q, D, dA, A⟩ := K
  exact fun H locs ls hH hS hl => lv_ifnonnull h.1 h.2.1 hd ht (k H locs ls hH hS hl)
theorem xg_ifnull (h : xX Y rm K) {x : Nat} {off : Int} (hd : decode Y.2.1 pc = .ok (.ifnull off, 3)) (k : xG K (pc + 3) vs st M sz c n) : xG K pc vs (.ref x :: st) M sz c n := by
  obtain ⟨p, l, e, R, s, m, args, below, meth, c0, Q, D, dA, A⟩ := K
  exact fun H locs ls hH hS hl => lv_ifnull h.1 h.2.1 hd (k H locs ls hH hS hl)
theorem xg_ifnullN (h : xX Y rm K) {off : Int} (tgt : Nat) (hd : decode Y.2.1 pc = .ok (.ifnull off, 3)) (ht : (pc : Int) + off = (tgt : Int)) (k : xG K tgt vs st M sz c n) : xG K pc vs (.null :: st) M sz c n := by
  obtain ⟨p, l, e, R, s, m, args, below, meth, c0, Q, D, dA, A⟩ := K
  exact fun H locs ls hH hS hl => lv_ifnullN h.1 h.2.1 hd ht (k H locs ls hH hS hl)
theorem xg_ifnonnullN (h : xX Y rm K) {off : Int} (hd : decode Y.2.1 pc = .ok (.ifnonnull off, 3)) (k : xG K (pc + 3) vs st M sz c n) : xG K pc vs (.null :: st) M sz c n := by
  obtain ⟨p, l, e, R, s, m, args, below, meth, c0, Q, D, dA, A⟩ := K
  exact fun H locs ls hH hS hl => lv_ifnonnullN h.1 h.2.1 hd (k H locs ls hH hS hl)
theorem xg_lookup (h : xX Y rm K) {dflt : Int} {ps : Array (Int × Int)} {len : Nat} {x : Int32} {off : Int} (tgt : Nat) (hd : decode Y.2.1 pc = .ok (.lookupswitch dflt ps, len)) (hp : (ps.toList.zip (ps.toList.drop 1)).all (fun (a, next) => a.1 < next.1) = true) (ho : Op.lookupswitch.offset ps.toList dflt x.toInt = off) (ht : (pc : Int) + off = (tgt : Int)) (k : xG K tgt vs st M sz c n) : xG K pc vs (.int x :: st) M sz c n := by
  obtain ⟨p, l, e, R, s, m, args, below, meth, c0, Q, D, dA, A⟩ := K
  exact fun H locs ls hH hS hl => lv_lookup h.1 h.2.1 hd hp ho ht (k H locs ls hH hS hl)
theorem xg_tableOut (h : xX Y rm K) {dflt lo hi : Int} {offs : Array Int} {len : Nat} {x : Int32} (tgt : Nat) (hd : decode Y.2.1 pc = .ok (.tableswitch dflt lo hi offs, len)) (h0 : x.toInt < lo ∨ hi < x.toInt) (ht : (pc : Int) + dflt = (tgt : Int)) (k : xG K tgt vs st M sz c n) : xG K pc vs (.int x :: st) M sz c n := by
  obtain ⟨p, l, e, R, s, m, args, below, meth, c0, Q, D, dA, A⟩ := K
  exact fun H locs ls hH hS hl => lv_tableOut h.1 h.2.1 hd h0 ht (k H locs ls hH hS hl)
theorem xg_tableIn (h : xX Y rm K) {dflt lo hi : Int} {offs : Array Int} {len : Nat} {x : Int32} {off : Int} (tgt : Nat) (hd : decode Y.2.1 pc = .ok (.tableswitch dflt lo hi offs, len)) (h1 : ¬ x.toInt < lo) (h2 : ¬ hi < x.toInt) (ho : offs[(x.toInt - lo).toNat]? = some off) (ht : (pc : Int) + off = (tgt : Int)) (k : xG K tgt vs st M sz c n) : xG K pc vs (.int x :: st) M sz c n := by
  obtain ⟨p, l, e, R, s, m, args, below, meth, c0, Q, D, dA, A⟩ := K
  exact fun H locs ls hH hS hl => lv_tableIn h.1 h.2.1 hd h1 h2 ho ht (k H locs ls hH hS hl)
/-- what the tables say of a class of the world: its number, name, field table, slots, types -/
def xCl (ci : Nat) (C : String) (T : u_T) (N : Nat) (ty : Nat → FieldType) : Prop := classes[ci]? = some (C, T, N) ∧ (∀ w ∈ u_ws C T N, w ∈ lw_g) ∧ (∀ k, k < N → parseFieldDescriptor (T k).2.2.1 = some (ty k)) ∧ ∀ a, a < N → ∀ b, b < N → a ≠ b → (T a).2.1 ≠ (T b).2.1
theorem xg_get (h : xX Y rm K) {ci N j ix a : Nat} {C : String} {T : u_T} {ty : Nat → FieldType} {fs : List Value} {v : Value} (hc : xCl ci C T N ty) (hd : decode Y.2.1 pc = .ok (.getfield ix, 3)) (hw : Cond.fieldLink Y.1.cls ix (T j).1 (T j).2.1 (T j).2.2.1 ∈ lw_g) (hj : j < N) (hM : M a = some (.inr (ci, fs))) (hv : fs[j]? = some v) (k : xG K (pc + 3) vs (v :: st) M sz c n) : xG K pc vs (.ref a :: st) M sz c n := by
  obtain ⟨p, l, e, R, s, m, args, below, meth, c0, Q, D, dA, A⟩ := K
  obtain ⟨hx, hb, hml, hr, hlk, hown, hts, hKK, hA, hnm, hR, hNs⟩ := h
  exact fun H locs ls hH hS hl => va_get (D := D) (cl := classes) (tys := xTys dA) (ws := [(a, xe dA (.inr (ci, fs)))]) hx hb hts hc.2.1 hown hKK (hH.one hM) 0 rfl hc.1 j hj (hts _ hw) (fun _ h9 => h9) hv hd (k H locs ls hH hS hl)
theorem xg_put (h : xX Y rm K) {ci N j ix a : Nat} {C : String} {T : u_T} {ty : Nat → FieldType} {fs : List Value} {v : Value} (hc : xCl ci C T N ty) (hd : decode Y.2.1 pc = .ok (.putfield ix, 3)) (hw : Cond.fieldLink Y.1.cls ix (T j).1 (T j).2.1 (T j).2.2.1 ∈ lw_g) (hj : j < N) (hf : (T j).2.2.2 = false) (hM : M a = some (.inr (ci, fs))) (hl0 : j < fs.length) (hn : narrow (ty j) v = v) (hft : fits (ty j) v = true) {fs' : List Value} (hv : fs.set j v = fs') (k : xG K (pc + 3) vs st (xup M a (.inr (ci, fs'))) sz c n) : xG K pc vs (v :: .ref a :: st) M sz c n := by
  subst hv
  obtain ⟨p, l, e, R, s, m, args, below, meth, c0, Q, D, dA, A⟩ := K
  obtain ⟨hx, hb, hml, hr, hlk, hown, hts, hKK, hA, hnm, hR, hNs⟩ := h
  intro H locs ls hH hS hl
  have hap := va_apart (own := Y.1.cls) hts hc.2.1 ty hc.2.2.1 hc.2.2.2 hKK hc.1
  obtain ⟨⟨r, h1, cell, q1, q2, q3, q4⟩, hAa⟩ := hH.2 a _ hM
  have hr1 : r = (C, T, N) := Option.some.inj (h1.symm.trans hc.1)
  subst hr1
  obtain ⟨hSl, hfc, kC, hkC, hkind⟩ := hKK.1 ci _ hc.1
  obtain ⟨cf, kf, fi, f, hi, hsl⟩ := hSl j hj
  have hlay := hts _ (hc.2.1 _ (u_in_lay hj))
  unfold u_lay at hlay
  rw [if_neg (by rw [hf]; decide)] at hlay
  have hst := (u_facts hfc hkC (u_lays hts hc.2.1 hj) hi).1
  have h6 := u_store hfc hkC hkind hlay hi (hc.2.2.1 j hj) hn hft
  refine W.putK hx hb (f := f) ⟨hown, hts _ hw, ⟨_, _, _, hi⟩, hst⟩ (by rw [q2]; exact h6) q1 q3 (by rw [hsl]; exact k2_hasslot (q4 j hj)) rfl rfl hd fun H' e1 e2 e3 => ?_
  rw [hsl] at e1 ⊢
  exact k H' _ ls (hH.put hAa ⟨_, hc.1, t_OB.to (V := updV (vp_V fs) j v) ⟨_, e1, q2, q3, t_set q4 hap hj v⟩ (fun i _ => vp_updV_set hl0 v i)⟩ e2 e3) (hS.put e2 e3 hAa) hl
theorem xg_putF (h : xX Y rm K) {ci N j ix a : Nat} {C : String} {T : u_T} {ty : Nat → FieldType} {fs : List Value} {v : Value} (hc : xCl ci C T N ty) (hd : decode Y.2.1 pc = .ok (.putfield ix, 3)) (hw : Cond.fieldLink Y.1.cls ix (T j).1 (T j).2.1 (T j).2.2.1 ∈ lw_g) (hj : j < N) (hf : (T j).2.2.2 = true) (hin : Y.1.name = "<init>") (hcls : (T j).1 = Y.1.cls) (hM : M a = some (.inr (ci, fs))) (hl0 : j < fs.length) (hn : narrow (ty j) v = v) (hft : fits (ty j) v = true) {fs' : List Value} (hv : fs.set j v = fs') (k : xG K (pc + 3) vs st (xup M a (.inr (ci, fs'))) sz c n) : xG K pc vs (v :: .ref a :: st) M sz c n := by
  subst hv
  obtain ⟨p, l, e, R, s, m, args, below, meth, c0, Q, D, dA, A⟩ := K
  obtain ⟨hx, hb, hml, hr, hlk, hown, hts, hKK, hA, hnm, hR, hNs⟩ := h
  intro H locs ls hH hS hl
  have hap := va_apart (own := Y.1.cls) hts hc.2.1 ty hc.2.2.1 hc.2.2.2 hKK hc.1
  obtain ⟨⟨r, h1, cell, q1, q2, q3, q4⟩, hAa⟩ := hH.2 a _ hM
  have hr1 : r = (C, T, N) := Option.some.inj (h1.symm.trans hc.1)
  subst hr1
  obtain ⟨hSl, hfc, kC, hkC, hkind⟩ := hKK.1 ci _ hc.1
  obtain ⟨cf, kf, fi, f, hi, hsl⟩ := hSl j hj
  have hlay := hts _ (hc.2.1 _ (u_in_lay hj))
  unfold u_lay at hlay
  rw [if_pos hf] at hlay
  have hst := (u_facts hfc hkC (u_lays hts hc.2.1 hj) hi).1
  have hcf : m.cls = cf := by
    obtain ⟨_, _, c', _, _, _, -, -, hf', -, -, -, hown2, -⟩ := Cond.laysFinal_spec hlay
    have e1 : c' = cf := by have := hi.symm.trans hf'; simp at this; exact this.1.symm
    rw [hcls] at hown2
    rw [← e1]; exact Option.some.inj (hown.symm.trans hown2)
  have h6 := u_fits hfc hkC hkind (Or.inr hlay) hi (hc.2.2.1 j hj) hn hft
  refine W.putFinK hx hb hown (hts _ hw) hi hst hcf (hnm.trans hin) (by rw [q2]; exact h6) q1 q3 (by rw [hsl]; exact k2_hasslot (q4 j hj)) rfl rfl hd fun H' e1 e2 e3 => ?_
  rw [hsl] at e1 ⊢
  exact k H' _ ls (hH.put hAa ⟨_, hc.1, t_OB.to (V := updV (vp_V fs) j v) ⟨_, e1, q2, q3, t_set q4 hap hj v⟩ (fun i _ => vp_updV_set hl0 v i)⟩ e2 e3) (hS.put e2 e3 hAa) hl
theorem xg_bald (h : xX Y rm K) {t n0 a : Nat} {f : Nat → Int32} {i : Int32} (hd : decode Y.2.1 pc = .ok (.baload, 1)) (ht : xTy[t]? = some .byte) (hM : M a = some (.inl (t, n0, .inl f))) (hi : vp_in i n0) (k : xG K (pc + 1) vs (.int (f i.toNatClampNeg) :: st) M sz c n) : xG K pc vs (.int i :: .ref a :: st) M sz c n := by
  obtain ⟨p, l, e, R, s, m, args, below, meth, c0, Q, D, dA, A⟩ := K
  obtain ⟨hx, hb, hml, hr, hlk, hown, hts, hKK, hA, hnm, hR, hNs⟩ := h
  exact fun H locs ls hH hS hl => va_bald (D := D) (cl := classes) (tys := xTys dA) (ws := [(a, xe dA (.inl (t, n0, .inl f)))]) hx hb hKK (hH.one hM) 0 t rfl (xTys_at dA ht) hi hd (k H locs ls hH hS hl)
theorem xg_iald (h : xX Y rm K) {t n0 a : Nat} {f : Nat → Int32} {i : Int32} (hd : decode Y.2.1 pc = .ok (.iaload, 1)) (ht : xTy[t]? = some .int) (hM : M a = some (.inl (t, n0, .inl f))) (hi : vp_in i n0) (k : xG K (pc + 1) vs (.int (f i.toNatClampNeg) :: st) M sz c n) : xG K pc vs (.int i :: .ref a :: st) M sz c n := by
  obtain ⟨p, l, e, R, s, m, args, below, meth, c0, Q, D, dA, A⟩ := K
  obtain ⟨hx, hb, hml, hr, hlk, hown, hts, hKK, hA, hnm, hR, hNs⟩ := h
  exact fun H locs ls hH hS hl => va_iald (D := D) (cl := classes) (tys := xTys dA) (ws := [(a, xe dA (.inl (t, n0, .inl f)))]) hx hb hKK (hH.one hM) 0 t rfl (xTys_at dA ht) hi hd (k H locs ls hH hS hl)
theorem xg_zald (h : xX Y rm K) {t n0 a : Nat} {f : Nat → Int32} {i : Int32} (hd : decode Y.2.1 pc = .ok (.baload, 1)) (ht : xTy[t]? = some .boolean) (hM : M a = some (.inl (t, n0, .inl f))) (hi : vp_in i n0) (k : xG K (pc + 1) vs (.int (f i.toNatClampNeg) :: st) M sz c n) : xG K pc vs (.int i :: .ref a :: st) M sz c n := by
  obtain ⟨p, l, e, R, s, m, args, below, meth, c0, Q, D, dA, A⟩ := K
  obtain ⟨hx, hb, hml, hr, hlk, hown, hts, hKK, hA, hnm, hR, hNs⟩ := h
  exact fun H locs ls hH hS hl => va_zald (D := D) (cl := classes) (tys := xTys dA) (ws := [(a, xe dA (.inl (t, n0, .inl f)))]) hx hb hKK (hH.one hM) 0 t rfl (xTys_at dA ht) hi hd (k H locs ls hH hS hl)
theorem xg_cald (h : xX Y rm K) {t n0 a : Nat} {f : Nat → Int32} {i : Int32} (hd : decode Y.2.1 pc = .ok (.caload, 1)) (ht : xTy[t]? = some .char) (hM : M a = some (.inl (t, n0, .inl f))) (hi : vp_in i n0) (k : xG K (pc + 1) vs (.int (f i.toNatClampNeg) :: st) M sz c n) : xG K pc vs (.int i :: .ref a :: st) M sz c n := by
  obtain ⟨p, l, e, R, s, m, args, below, meth, c0, Q, D, dA, A⟩ := K
  obtain ⟨hx, hb, hml, hr, hlk, hown, hts, hKK, hA, hnm, hR, hNs⟩ := h
  exact fun H locs ls hH hS hl => va_cald (D := D) (cl := classes) (tys := xTys dA) (ws := [(a, xe dA (.inl (t, n0, .inl f)))]) hx hb hKK (hH.one hM) 0 t rfl (xTys_at dA ht) hi hd (k H locs ls hH hS hl)
theorem xg_aald (h : xX Y rm K) {t n0 a : Nat} {f : Nat → Option Nat} {i : Int32} {C : String} {v : Value} (hd : decode Y.2.1 pc = .ok (.aaload, 1)) (ht : xTy[t]? = some (.object C)) (hM : M a = some (.inl (t, n0, .inr (.inr (.inr (.inr f)))))) (hi : vp_in i n0) (hv : va_rf (f i.toNatClampNeg) = v) (k : xG K (pc + 1) vs (v :: st) M sz c n) : xG K pc vs (.int i :: .ref a :: st) M sz c n := by
  subst hv
  obtain ⟨p, l, e, R, s, m, args, below, meth, c0, Q, D, dA, A⟩ := K
  obtain ⟨hx, hb, hml, hr, hlk, hown, hts, hKK, hA, hnm, hR, hNs⟩ := h
  exact fun H locs ls hH hS hl => va_aldq (D := D) (cl := classes) (tys := xTys dA) (ws := [(a, xe dA (.inl (t, n0, .inr (.inr (.inr (.inr f))))))]) hx hb hKK (hH.one hM) 0 t rfl (xTys_at dA ht) hi hd (k H locs ls hH hS hl)
theorem xg_alen (h : xX Y rm K) {t a : Nat} {x : vp_A} {ty : FieldType} (hd : decode Y.2.1 pc = .ok (.arraylength, 1)) (ht : xTy[t]? = some ty) (hM : M a = some (.inl (t, x))) (k : xG K (pc + 1) vs (.int (nI x.1) :: st) M sz c n) : xG K pc vs (.ref a :: st) M sz c n := by
  obtain ⟨p, l, e, R, s, m, args, below, meth, c0, Q, D, dA, A⟩ := K
  obtain ⟨hx, hb, hml, hr, hlk, hown, hts, hKK, hA, hnm, hR, hNs⟩ := h
  exact fun H locs ls hH hS hl => va_alen (D := D) (cl := classes) (tys := xTys dA) (ws := [(a, xe dA (.inl (t, x)))]) hx hb hKK (hH.one hM) 0 t rfl (xTys_at dA ht) rfl hd (k H locs ls hH hS hl)
theorem xg_bast (h : xX Y rm K) {t n0 a : Nat} {f : Nat → Int32} {i x : Int32} (hd : decode Y.2.1 pc = .ok (.bastore, 1)) (ht : xTy[t]? = some .byte) (hM : M a = some (.inl (t, n0, .inl f))) (hi : vp_in i n0) (k : xG K (pc + 1) vs st (xup M a (.inl (t, n0, .inl (upd f i.toNatClampNeg (vp_nar .byte x))))) sz c n) : xG K pc vs (.int x :: .int i :: .ref a :: st) M sz c n := by
  obtain ⟨p, l, e, R, s, m, args, below, meth, c0, Q, D, dA, A⟩ := K
  obtain ⟨hx, hb, hml, hr, hlk, hown, hts, hKK, hA, hnm, hR, hNs⟩ := h
  intro H locs ls hH hS hl
  obtain ⟨h1, hAa⟩ := hH.2 a _ hM
  have h1 : H[a]? = some (vp_cell (dA t) (n0, .inl f)) := h1
  refine W.bast hx hb h1 ((hKK.2 t _ (xTys_at dA ht)).1 n0 (fun j => .int (f j))) (fun q => by cases q) (by show ¬ (i < 0 ∨ (arrV _ _ _).slots.size ≤ _); rw [arrV_size]; exact hi) rfl rfl hd fun H1 e9 z oq => ?_
  refine k H1 _ ls (hH.put hAa ?_ z oq) (hS.put z oq hAa) hl
  show H1[a]? = some (vp_cell _ _)
  rw [e9, vp_cell_i, vp_cell_i, arrV_store]
  congr 2
  funext q
  by_cases hq : q = i.toNatClampNeg
  · subst hq
    simp [updV, upd, vp_nar]
    try rfl
  · simp [updV, upd, hq]
theorem xg_iast (h : xX Y rm K) {t n0 a : Nat} {f : Nat → Int32} {i x : Int32} (hd : decode Y.2.1 pc = .ok (.iastore, 1)) (ht : xTy[t]? = some .int) (hM : M a = some (.inl (t, n0, .inl f))) (hi : vp_in i n0) (k : xG K (pc + 1) vs st (xup M a (.inl (t, n0, .inl (upd f i.toNatClampNeg x)))) sz c n) : xG K pc vs (.int x :: .int i :: .ref a :: st) M sz c n := by
  obtain ⟨p, l, e, R, s, m, args, below, meth, c0, Q, D, dA, A⟩ := K
  obtain ⟨hx, hb, hml, hr, hlk, hown, hts, hKK, hA, hnm, hR, hNs⟩ := h
  intro H locs ls hH hS hl
  obtain ⟨h1, hAa⟩ := hH.2 a _ hM
  have h1 : H[a]? = some (vp_cell (dA t) (n0, .inl f)) := h1
  refine W.iast hx hb h1 ((hKK.2 t _ (xTys_at dA ht)).1 n0 (fun j => .int (f j))) (fun q => by cases q) (by show ¬ (i < 0 ∨ (arrV _ _ _).slots.size ≤ _); rw [arrV_size]; exact hi) rfl rfl hd fun H1 e9 z oq => ?_
  refine k H1 _ ls (hH.put hAa ?_ z oq) (hS.put z oq hAa) hl
  show H1[a]? = some (vp_cell _ _)
  rw [e9, vp_cell_i, vp_cell_i, arrV_store]
  congr 2
  funext q
  by_cases hq : q = i.toNatClampNeg
  · subst hq
    simp [updV, upd, vp_nar]
    try rfl
  · simp [updV, upd, hq]
theorem xg_zast (h : xX Y rm K) {t n0 a : Nat} {f : Nat → Int32} {i x : Int32} (hd : decode Y.2.1 pc = .ok (.bastore, 1)) (ht : xTy[t]? = some .boolean) (hM : M a = some (.inl (t, n0, .inl f))) (hi : vp_in i n0) (k : xG K (pc + 1) vs st (xup M a (.inl (t, n0, .inl (upd f i.toNatClampNeg (vp_nar .boolean x))))) sz c n) : xG K pc vs (.int x :: .int i :: .ref a :: st) M sz c n := by
  obtain ⟨p, l, e, R, s, m, args, below, meth, c0, Q, D, dA, A⟩ := K
  obtain ⟨hx, hb, hml, hr, hlk, hown, hts, hKK, hA, hnm, hR, hNs⟩ := h
  intro H locs ls hH hS hl
  obtain ⟨h1, hAa⟩ := hH.2 a _ hM
  have h1 : H[a]? = some (vp_cell (dA t) (n0, .inl f)) := h1
  refine W.zast hx hb h1 ((hKK.2 t _ (xTys_at dA ht)).1 n0 (fun j => .int (f j))) (fun q => by cases q) (by show ¬ (i < 0 ∨ (arrV _ _ _).slots.size ≤ _); rw [arrV_size]; exact hi) rfl rfl hd fun H1 e9 z oq => ?_
  refine k H1 _ ls (hH.put hAa ?_ z oq) (hS.put z oq hAa) hl
  show H1[a]? = some (vp_cell _ _)
  rw [e9, vp_cell_i, vp_cell_i, arrV_store]
  congr 2
  funext q
  by_cases hq : q = i.toNatClampNeg
  · subst hq
    simp [updV, upd, vp_nar]
    try rfl
  · simp [updV, upd, hq]
theorem xg_cast (h : xX Y rm K) {t n0 a : Nat} {f : Nat → Int32} {i x : Int32} (hd : decode Y.2.1 pc = .ok (.castore, 1)) (ht : xTy[t]? = some .char) (hM : M a = some (.inl (t, n0, .inl f))) (hi : vp_in i n0) (k : xG K (pc + 1) vs st (xup M a (.inl (t, n0, .inl (upd f i.toNatClampNeg (vp_nar .char x))))) sz c n) : xG K pc vs (.int x :: .int i :: .ref a :: st) M sz c n := by
  obtain ⟨p, l, e, R, s, m, args, below, meth, c0, Q, D, dA, A⟩ := K
  obtain ⟨hx, hb, hml, hr, hlk, hown, hts, hKK, hA, hnm, hR, hNs⟩ := h
  intro H locs ls hH hS hl
  obtain ⟨h1, hAa⟩ := hH.2 a _ hM
  have h1 : H[a]? = some (vp_cell (dA t) (n0, .inl f)) := h1
  refine W.cast hx hb h1 ((hKK.2 t _ (xTys_at dA ht)).1 n0 (fun j => .int (f j))) (fun q => by cases q) (by show ¬ (i < 0 ∨ (arrV _ _ _).slots.size ≤ _); rw [arrV_size]; exact hi) rfl rfl hd fun H1 e9 z oq => ?_
  refine k H1 _ ls (hH.put hAa ?_ z oq) (hS.put z oq hAa) hl
  show H1[a]? = some (vp_cell _ _)
  rw [e9, vp_cell_i, vp_cell_i, arrV_store]
  congr 2
  funext q
  by_cases hq : q = i.toNatClampNeg
  · subst hq
    simp [updV, upd, vp_nar]
    try rfl
  · simp [updV, upd, hq]
theorem xg_aast (h : xX Y rm K) {t n0 a v ci N : Nat} {f : Nat → Option Nat} {i : Int32} {C : String} {T : u_T} {ty : Nat → FieldType} {fs : List Value} (hc : xCl ci C T N ty) (hd : decode Y.2.1 pc = .ok (.aastore, 1)) (ht : xTy[t]? = some (.object C)) (hM : M a = some (.inl (t, n0, .inr (.inr (.inr (.inr f)))))) (hv : M v = some (.inr (ci, fs))) (hi : vp_in i n0) (k : xG K (pc + 1) vs st (xup M a (.inl (t, n0, .inr (.inr (.inr (.inr (va_up f i.toNatClampNeg (some v)))))))) sz c n) : xG K pc vs (.ref v :: .int i :: .ref a :: st) M sz c n := by
  obtain ⟨p, l, e, R, s, m, args, below, meth, c0, Q, D, dA, A⟩ := K
  obtain ⟨hx, hb, hml, hr, hlk, hown, hts, hKK, hA, hnm, hR, hNs⟩ := h
  intro H locs ls hH hS hl
  obtain ⟨h1, hAa⟩ := hH.2 a _ hM
  have h1 : H[a]? = some (vp_cell (dA t) (n0, .inr (.inr (.inr (.inr f))))) := h1
  have hlt : i.toNatClampNeg < n0 := Nat.not_le.mp fun q => hi (Or.inr q)
  have h0 : ¬ i < 0 := fun q => hi (Or.inl q)
  obtain ⟨⟨r', hr', cellV, g1, g2, g3, -⟩, -⟩ := hH.2 v _ hv
  have hcls := (hKK.1 ci _ hc.1).2
  obtain ⟨kA, comp, k1, k2, k3, -⟩ := (hKK.2 t _ (xTys_at dA ht)).2
  have hcomp : comp = D.1 ci := Option.some.inj (k3.symm.trans hcls.1)
  subst hcomp
  obtain ⟨kC, hkC, -⟩ := hcls.2
  refine W.aast hx hb h1 (fun q h => by cases h) (fun h => by cases h) k1 k2 rfl hkC ⟨h0, by show _ < (arrV _ _ _).slots.size; rw [arrV_size]; exact hlt⟩ g1 (fun q h => by rw [g3] at h; cases h) (by rw [g2]; exact hkC) (by rw [g2]; exact va_assign hcls) rfl rfl hd fun H1 e9 z oq => ?_
  refine k H1 _ ls (hH.put hAa ?_ z oq) (hS.put z oq hAa) hl
  show H1[a]? = some (vp_cell _ _)
  rw [e9, vp_cell_q, vp_cell_q, arrV_store]
  congr 2
  funext q
  by_cases hq : q = i.toNatClampNeg
  · subst hq
    simp [updV, va_up, va_rf]
  · simp [updV, va_up, hq]
theorem xg_new (h : xX Y rm K) {ci N ix : Nat} {C : String} {T : u_T} {ty : Nat → FieldType} (fs : List Value) (hc : xCl ci C T N ty) (hd : decode Y.2.1 pc = .ok (.new ix, 3)) (hw1 : Cond.classLink Y.1.cls ix C ∈ lw_g) (hw2 : Cond.instantiable C N ∈ lw_g) (hw3 : Cond.initialized C ∈ lw_g) (hfs : ∀ j, j < N → defaultValue (ty j) = vp_V fs j) (hcc : c + 1 ≤ rm.cells) (hss : n + N ≤ rm.slots) (k : M sz = none → xG K (pc + 3) vs (.ref sz :: st) (xup M sz (.inr (ci, fs))) (sz + 1) (c + 1) (n + N)) : xG K pc vs st M sz c n := by
  obtain ⟨p, l, e, R, s, m, args, below, meth, c0, Q, D, dA, A⟩ := K
  obtain ⟨hx, hb, hml, hr, hlk, hown, hts, hKK, hA, hnm, hR, hNs⟩ := h
  subst hR
  intro H locs ls hH hS hl
  have hKn := hKK.1 ci _ hc.1
  have hfr : M sz = none := by
    cases hz : M sz with
    | none => rfl
    | some z => exact absurd (hH.lt hz) (Nat.lt_irrefl _)
  have hAs : A sz := hA sz (by rw [← hH.1]; exact hS.1)
  refine W.newcK hx hb hown (hts _ hw1) (hts _ hw2) (hts _ hw3) rfl hd hcc hss hKn.2.1 hH.1 fun H1 kC hkC e1 z1 o1 => ?_
  exact k hfr H1 locs ls (hH.push hAs ⟨_, hc.1, (u_born ty hts hc.2.1 hKn hkC e1 hc.2.2.1).to hfs⟩ z1 o1) ⟨by rw [z1, ← hH.1]; exact Nat.le_succ_of_le hS.1, fun q h1 h2 => (o1 q (by rw [← hH.1]; exact Nat.lt_of_lt_of_le h1 hS.1)).trans (hS.2.1 q h1 h2), hS.2.2⟩ hl
theorem xg_newa (h : xX Y rm K) {t : Nat} {atype : ArrayType} {ty : FieldType} {x : Int32} (N : Nat) (hd : decode Y.2.1 pc = .ok (.newarray atype, 2)) (hw : Cond.arrayClass (newarray.typeOf atype) ∈ lw_g) (ha : newarray.typeOf atype = ty) (ht : xTy[t]? = some ty) (hprim : ∃ v : Int32, defaultValue ty = .int v ∧ v = 0) (hrf : ∀ C, ty ≠ .object C) (hx0 : ¬ x < 0) (hN : x.toNatClampNeg = N) (hby : N * componentBytes ty ≤ 536870912) (hcc : c + 1 ≤ rm.cells) (hss : n + N ≤ rm.slots) (k : M sz = none → xG K (pc + 2) vs (.ref sz :: st) (xup M sz (.inl (t, N, .inl (fun _ => 0)))) (sz + 1) (c + 1) (n + N)) : xG K pc vs (.int x :: st) M sz c n := by
  subst ha
  obtain ⟨p, l, e, R, s, m, args, below, meth, c0, Q, D, dA, A⟩ := K
  obtain ⟨hx, hb, hml, hr, hlk, hown, hts, hKK, hA, hnm, hR, hNs⟩ := h
  subst hR
  intro H locs ls hH hS hl
  have hfr : M sz = none := by
    cases hz : M sz with
    | none => rfl
    | some z => exact absurd (hH.lt hz) (Nat.lt_irrefl _)
  have hAs : A sz := hA sz (by rw [← hH.1]; exact hS.1)
  refine va_newaK hx hb (hts _ hw) rfl hd rfl hx0 hN hby hcc hss hH.1 fun H1 cA e1 z1 o1 hAr hNm => ?_
  have hcA : cA = dA t := by
    have h2 := (hKK.2 t _ (xTys_at dA ht)).2
    have h3 : s.vm.findClass ("[" ++ (newarray.typeOf atype).toString) = some (dA t) := by cases atype <;> exact h2
    exact Option.some.inj (hNm.symm.trans h3)
  subst hcA
  obtain ⟨v, hv1, rfl⟩ := hprim
  refine k hfr H1 locs ls (hH.push hAs ?_ z1 o1) ⟨by rw [z1, ← hH.1]; exact Nat.le_succ_of_le hS.1, fun q h1 h2 => (o1 q (by rw [← hH.1]; exact Nat.lt_of_lt_of_le h1 hS.1)).trans (hS.2.1 q h1 h2), hS.2.2⟩ hl
  show H1[sz]? = some (vp_cell _ _)
  rw [e1, vp_cell_i, hv1]
theorem xg_newq (h : xX Y rm K) {t ix : Nat} {C : String} {x : Int32} (N : Nat) (hd : decode Y.2.1 pc = .ok (.anewarray ix, 3)) (hw : Cond.classLink Y.1.cls ix C ∈ lw_g) (hw2 : C ∈ xAo) (ht : xTy[t]? = some (.object C)) (hx0 : ¬ x < 0) (hN : x.toNatClampNeg = N) (hby : N * 4 ≤ 536870912) (hcc : c + 1 ≤ rm.cells) (hss : n + N ≤ rm.slots) (k : M sz = none → xG K (pc + 3) vs (.ref sz :: st) (xup M sz (.inl (t, N, .inr (.inr (.inr (.inr (fun _ => none))))))) (sz + 1) (c + 1) (n + N)) : xG K pc vs (.int x :: st) M sz c n := by
  subst hN
  obtain ⟨p, l, e, R, s, m, args, below, meth, c0, Q, D, dA, A⟩ := K
  obtain ⟨hx, hb, hml, hr, hlk, hown, hts, hKK, hA, hnm, hR, hNs⟩ := h
  subst hR
  intro H locs ls hH hS hl
  have hfr : M sz = none := by
    cases hz : M sz with
    | none => rfl
    | some z => exact absurd (hH.lt hz) (Nat.lt_irrefl _)
  have hAs : A sz := hA sz (by rw [← hH.1]; exact hS.1)
  refine W.anew hx hb hown (hts _ hw) (va_AO.use (hNs.2 C hw2)) rfl hd rfl hx0 hby hcc hss fun cA kA comp f1 f2 f3 f4 => ?_
  generalize hH1 : H.push ({ cls := cA, slots := Array.replicate x.toNatClampNeg .null, vm := .none } : Cell) = H1
  have z1 : H1.size = sz + 1 := by rw [← hH1, Array.size_push, hH.1]
  have e1 : H1[sz]? = some (arrV cA x.toNatClampNeg (fun _ => .null)) := by rw [← hH1, ← hH.1, Array.getElem?_push_size, ← arrV_new]
  have o1 : ∀ q : Nat, q < sz → H1[q]? = H[q]? := fun q hq => by rw [← hH1, Array.getElem?_push, if_neg (Nat.ne_of_lt (by rw [hH.1]; exact hq))]
  have hcA : cA = dA t := by
    obtain ⟨kA2, comp2, -, -, -, g4⟩ := (hKK.2 t _ (xTys_at dA ht)).2
    exact Option.some.inj (f1.symm.trans g4)
  subst hcA
  have k9 := k hfr H1 locs ls (hH.push hAs (by show H1[sz]? = some (vp_cell _ _); rw [e1, vp_cell_q]; rfl) z1 o1) ⟨by rw [z1, ← hH.1]; exact Nat.le_succ_of_le hS.1, fun q h1 h2 => (o1 q (by rw [← hH.1]; exact Nat.lt_of_lt_of_le h1 hS.1)).trans (hS.2.1 q h1 h2), hS.2.2⟩ hl
  rw [hH.1]
  exact k9
theorem xg_min (h : xX Y rm K) {ix : Nat} {x y : Int32} (hd : decode Y.2.1 pc = .ok (.invokestatic ix, 3)) (hw : Cond.methodLink Y.1.cls ix Lib.Math.min.name ∈ lw_g) (hw2 : Cond.static Lib.Math.min.name ∈ lw_g) (hw3 : Cond.initialized "java/lang/Math" ∈ lw_g) (hw4 : Cond.code Lib.Math.min.name Lib.Math.min.code 2 (some .int) ∈ lw_g) (hfr : 1 ≤ rm.frames) (hlo : (st.map fun v => v.category).sum + 13 ≤ rm.locals) (hcc : c ≤ rm.cells) (hss : n ≤ rm.slots) (k : xG K (pc + 3) vs (.int (if y < x then y else x) :: st) M sz c n) : xG K pc vs (.int y :: .int x :: st) M sz c n := by
  obtain ⟨p, l, e, R, s, m, args, below, meth, c0, Q, D, dA, A⟩ := K
  obtain ⟨hx, hb, hml, hr, hlk, hown, hts, hKK, hA, hnm, hR, hNs⟩ := h
  subst hR
  exact fun H locs ls hH hS hl => va_mmin hx hb hl.1.symm hown (hts _ hw) (hts _ hw2) (hts _ hw3) (hts _ hw4) hfr hlo hcc hss hd (k H locs ls hH hS hl)
theorem xg_max (h : xX Y rm K) {ix : Nat} {x y : Int32} (hd : decode Y.2.1 pc = .ok (.invokestatic ix, 3)) (hw : Cond.methodLink Y.1.cls ix Lib.Math.max.name ∈ lw_g) (hw2 : Cond.static Lib.Math.max.name ∈ lw_g) (hw3 : Cond.initialized "java/lang/Math" ∈ lw_g) (hw4 : Cond.code Lib.Math.max.name Lib.Math.max.code 2 (some .int) ∈ lw_g) (hfr : 1 ≤ rm.frames) (hlo : (st.map fun v => v.category).sum + 13 ≤ rm.locals) (hcc : c ≤ rm.cells) (hss : n ≤ rm.slots) (k : xG K (pc + 3) vs (.int (if x < y then y else x) :: st) M sz c n) : xG K pc vs (.int y :: .int x :: st) M sz c n := by
  obtain ⟨p, l, e, R, s, m, args, below, meth, c0, Q, D, dA, A⟩ := K
  obtain ⟨hx, hb, hml, hr, hlk, hown, hts, hKK, hA, hnm, hR, hNs⟩ := h
  subst hR
  exact fun H locs ls hH hS hl => va_mmax hx hb hl.1.symm hown (hts _ hw) (hts _ hw2) (hts _ hw3) (hts _ hw4) hfr hlo hcc hss hd (k H locs ls hH hS hl)
theorem xg_oinit (h : xX Y rm K) {ix a : Nat} (hd : decode Y.2.1 pc = .ok (.invokespecial ix, 3)) (hw : Cond.methodLink Y.1.cls ix Lib.objectInit ∈ lw_g) (hw2 : Cond.instanceMethod Lib.objectInit ∈ lw_g) (hw3 : Cond.code Lib.objectInit ⟨#[0xb1]⟩ 1 none ∈ lw_g) (hfr : 1 ≤ rm.frames) (hlo : (st.map fun v => v.category).sum + 12 ≤ rm.locals) (k : xG K (pc + 3) vs st M sz c n) : xG K pc vs (.ref a :: st) M sz c n := by
  obtain ⟨p, l, e, R, s, m, args, below, meth, c0, Q, D, dA, A⟩ := K
  obtain ⟨hx, hb, hml, hr, hlk, hown, hts, hKK, hA, hnm, hR, hNs⟩ := h
  subst hR
  exact fun H locs ls hH hS hl => W.objInit hx hb hown (hts _ hw) (hts _ hw2) (hts _ hw3) rfl hl.1 rfl hd hfr (by show 2 * 0 + _ + 12 ≤ _; omega) (k H locs ls hH hS hl)
theorem xg_copy (h : xX Y rm K) {t ix n0 n1 a0 a : Nat} {f g : Nat → Int32} {ty : FieldType} {sp dp w : Int32} (hd : decode Y.2.1 pc = .ok (.invokestatic ix, 3)) (hw : Cond.methodLink Y.1.cls ix arraycopyName ∈ lw_g) (hw2 : Cond.native arraycopyName ∈ lw_g) (hw3 : Cond.static arraycopyName ∈ lw_g) (hw4 : Cond.initialized "java/lang/System" ∈ lw_g) (ht : xTy[t]? = some ty) (hprim : refKind ty = false) (hM0 : M a0 = some (.inl (t, n0, .inl f))) (hM1 : M a = some (.inl (t, n1, .inl g))) (h1 : ¬ sp < 0) (h2 : ¬ dp < 0) (h3 : ¬ w < 0) (h4 : sp.toNatClampNeg + w.toNatClampNeg ≤ n0) (h5 : dp.toNatClampNeg + w.toNatClampNeg ≤ n1) (hfit : ∀ i, i < w.toNatClampNeg → fits ty (.int (f (sp.toNatClampNeg + i))) = true) (hfr : 1 ≤ rm.frames) (hlo : (st.map fun v => v.category).sum + (nativeFrameWords "java/lang/System" "arraycopy" 5 + 11) ≤ rm.locals) (k : xG K (pc + 3) vs st (xup M a (.inl (t, n1, .inl (va_cpy f g sp.toNatClampNeg dp.toNatClampNeg w.toNatClampNeg)))) sz c n) : xG K pc vs (.int w :: .int dp :: .ref a :: .int sp :: .ref a0 :: st) M sz c n := by
  obtain ⟨p, l, e, R, s, m, args, below, meth, c0, Q, D, dA, A⟩ := K
  obtain ⟨hx, hb, hml, hr, hlk, hown, hts, hKK, hA, hnm, hR, hNs⟩ := h
  subst hR
  intro H locs ls hH hS hl T hT X
  have nn : ∀ z : Int32, ¬ z < 0 → z.toInt = (z.toNatClampNeg : Int) := by
    intro z hz
    have hz0 : (0 : Int) ≤ z.toInt := by
      have := Int32.not_lt.mp hz
      simpa using Int32.le_iff_toInt_le.mp this
    show z.toInt = ((z.toInt.toNat : Nat) : Int)
    omega
  have hc0 : H[a0]? = some (vp_cell (dA t) (n0, .inl f)) := (hH.2 a0 _ hM0).1
  obtain ⟨hc1, hAa⟩ := hH.2 a _ hM1
  have hc1 : H[a]? = some (vp_cell (dA t) (n1, .inl g)) := hc1
  obtain ⟨-, k0, hk0, cm0, hkk0⟩ := (hKK.2 t _ (xTys_at dA ht)).1 n0 (fun j => .int (f j))
  obtain ⟨vm', X', step⟩ := X.arraycopy hx hown (hts _ hw) (hts _ hw2) (hts _ hw3) (hts _ hw4) (src := a0) (dst := a) (cs := vp_cell (dA t) (n0, .inl f)) (cd := vp_cell (dA t) (n1, .inl g)) (srcPos := sp) (destPos := dp) (n := w) (by rw [hT]; exact hc0) (by rw [hT]; exact hc1)
    (fun _ h => by cases h) (fun _ h => by cases h) (fun h => by cases h) (fun h => by cases h) hk0 hk0 hkk0 hkk0 (by simp [hprim]) h1 h2 h3
    (by rw [nn sp h1, nn w h3]; show ¬ _ > ((arrV (dA t) n0 (fun j => .int (f j))).slots.size : Int); rw [arrV_size]; omega)
    (by rw [nn dp h2, nn w h3]; show ¬ _ > ((arrV (dA t) n1 (fun j => .int (g j))).slots.size : Int); rw [arrV_size]; omega)
    (fun vm₁ _ i hi => by
      have e9 : (vp_cell (dA t) (n0, .inl f)).slots.getD (sp.toNatClampNeg + i) .null = .int (f (sp.toNatClampNeg + i)) := by
        show (arrV (dA t) n0 (fun j => .int (f j))).slots.getD _ _ = _
        rw [Array.getD_eq_getD_getElem?, arrV_read _ _ (by omega)]
        rfl
      refine ⟨?_, ?_⟩
      · rw [e9]
        exact hfit i hi
      · rw [e9]
        exact trivial)
    (g := F0 m pc ls (.int w :: .int dp :: .ref a :: .int sp :: .ref a0 :: st)) rfl hl.1 (rest := st) rfl (by rw [hb]; exact hd) hfr (by show 2 * 0 + _ + _ ≤ _; omega)
  have e1 : copied (vp_cell (dA t) (n0, .inl f)) (vp_cell (dA t) (n1, .inl g)) sp dp w = vp_cell (dA t) (n1, .inl (va_cpy f g sp.toNatClampNeg dp.toNatClampNeg w.toNatClampNeg)) := va_copied (fun z => .int z) (dA t) (dA t) f g h4
  rw [e1] at X' step
  have hla : a < H.size := (Array.getElem?_eq_some_iff.mp hc1).1
  generalize hN : vp_cell (dA t) (n1, .inl (va_cpy f g sp.toNatClampNeg dp.toNatClampNeg w.toNatClampNeg)) = N9 at X' step
  have hheap : ((T.setVm vm').setCell a N9).heap = H.setIfInBounds a N9 := by rw [← hT]; rfl
  have oq : ∀ q : Nat, q ≠ a → (H.setIfInBounds a N9)[q]? = H[q]? := fun q hq => by simp [Array.getElem?_setIfInBounds, Ne.symm hq]
  have z9 : (H.setIfInBounds a N9).size = H.size := by simp
  obtain ⟨t9, a1, b1⟩ := k (H.setIfInBounds a N9) _ ls (hH.put hAa (by show (H.setIfInBounds a N9)[a]? = some _; rw [hN]; simp [Array.getElem?_setIfInBounds, hla]) z9 oq) ⟨by rw [z9]; exact hS.1, fun q g1 g2 => by
      rw [oq q (fun e9 => g2 (by rw [e9]; exact hAa))]
      exact hS.2.1 q g1 g2, fun q hq => by
      rcases List.mem_append.mp hq with h | h
      · exact hS.2.2 q h
      · obtain ⟨z, -, hz⟩ := List.mem_map.mp h
        rw [← hz]
        exact hAa⟩ hl _ hheap X'
  exact ⟨t9, step t9 a1, b1⟩
theorem xg_ishr (h : xX Y rm K) {x y : Int32} (hd : decode Y.2.1 pc = .ok (.ishr, 1)) (k : xG K (pc + 1) vs (.int (x >>> (y &&& 31)) :: st) M sz c n) : xG K pc vs (.int y :: .int x :: st) M sz c n := by
  obtain ⟨p, l, e, R, s, m, args, below, meth, c0, Q, D, dA, A⟩ := K
  exact fun H locs ls hH hS hl => lv_ishr h.1 h.2.1 hd (k H locs ls hH hS hl)
end XG
