/-! forms of contracts: an int, nothing, a reference or null as the answer; no cell is made -/
def qi (sz : Nat) (P : Int32 → xH → Prop) : xQ := fun v M' sz' => sz' = sz ∧ ∃ x, v = some (.int x) ∧ P x M'
def qv (sz : Nat) (P : xH → Prop) : xQ := fun v M' sz' => sz' = sz ∧ v = none ∧ P M'
def qr (sz : Nat) (P : Option Nat → xH → Prop) : xQ := fun v M' sz' => sz' = sz ∧ ∃ o, v = some (va_rf o) ∧ P o M'
section XF
variable {Y Y2 : xM} {K : xK} {pc : Nat} {vs : List (Option Value)} {st : List Value} {M : xH} {sz c n d mc0 ms0 np ix : Nat}
theorem xi_V (h : xX Y (xR (d + 1) mc0 ms0) K) {ci N b : Nat} {T : u_T} {ty : Nat → FieldType} {fs : List Value} {P : Int32 → xH → Prop} (As : List Value) (hcl : xCl ci Y2.1.cls T N ty) (hm : xVm Y2 np) (hd : decode Y.2.1 pc = .ok (.invokevirtual ix, 3)) (hw : Cond.methodLink Y.1.cls ix Y2.1 ∈ lw_g) (hn : As.length = np) {st0 : List Value} (hst : As.reverse ++ .ref b :: st = st0) (hb8 : (st.map fun v => v.category).sum ≤ 8) (hM : M b = some (.inr (ci, fs))) (hC : xC d 0 0 Y2 (.ref b :: As) M sz (qi sz P)) (hcc : c ≤ mc0) (hss : n ≤ ms0) (k : ∀ x M', P x M' → xG K (pc + 3) vs (.int x :: st) M' sz c n) : xG K pc vs st0 M sz c n :=
  xg_callV h As hcl hm hd hw hn hst hb8 hM hC hcc hss (fun v M' sz' hq => by
    obtain ⟨rfl, x, rfl, hp⟩ := hq
    exact k x M' hp)
theorem xv_V (h : xX Y (xR (d + 1) mc0 ms0) K) {ci N b : Nat} {T : u_T} {ty : Nat → FieldType} {fs : List Value} {P : xH → Prop} (As : List Value) (hcl : xCl ci Y2.1.cls T N ty) (hm : xVm Y2 np) (hd : decode Y.2.1 pc = .ok (.invokevirtual ix, 3)) (hw : Cond.methodLink Y.1.cls ix Y2.1 ∈ lw_g) (hn : As.length = np) {st0 : List Value} (hst : As.reverse ++ .ref b :: st = st0) (hb8 : (st.map fun v => v.category).sum ≤ 8) (hM : M b = some (.inr (ci, fs))) (hC : xC d 0 0 Y2 (.ref b :: As) M sz (qv sz P)) (hcc : c ≤ mc0) (hss : n ≤ ms0) (k : ∀ M', P M' → xG K (pc + 3) vs st M' sz c n) : xG K pc vs st0 M sz c n :=
  xg_callV h As hcl hm hd hw hn hst hb8 hM hC hcc hss (fun v M' sz' hq => by
    obtain ⟨rfl, rfl, hp⟩ := hq
    exact k M' hp)
theorem xr_V (h : xX Y (xR (d + 1) mc0 ms0) K) {ci N b : Nat} {T : u_T} {ty : Nat → FieldType} {fs : List Value} {P : Option Nat → xH → Prop} (As : List Value) (hcl : xCl ci Y2.1.cls T N ty) (hm : xVm Y2 np) (hd : decode Y.2.1 pc = .ok (.invokevirtual ix, 3)) (hw : Cond.methodLink Y.1.cls ix Y2.1 ∈ lw_g) (hn : As.length = np) {st0 : List Value} (hst : As.reverse ++ .ref b :: st = st0) (hb8 : (st.map fun v => v.category).sum ≤ 8) (hM : M b = some (.inr (ci, fs))) (hC : xC d 0 0 Y2 (.ref b :: As) M sz (qr sz P)) (hcc : c ≤ mc0) (hss : n ≤ ms0) (k : ∀ o M', P o M' → xG K (pc + 3) vs (va_rf o :: st) M' sz c n) : xG K pc vs st0 M sz c n :=
  xg_callV h As hcl hm hd hw hn hst hb8 hM hC hcc hss (fun v M' sz' hq => by
    obtain ⟨rfl, o, rfl, hp⟩ := hq
    exact k o M' hp)
theorem xi_S (h : xX Y (xR (d + 1) mc0 ms0) K) {P : Int32 → xH → Prop} (As : List Value) (hm : xSm Y2 np) (hd : decode Y.2.1 pc = .ok (.invokestatic ix, 3)) (hw : Cond.methodLink Y.1.cls ix Y2.1 ∈ lw_g) (hn : As.length = np) {st0 : List Value} (hst : As.reverse ++ st = st0) (hb8 : (st.map fun v => v.category).sum ≤ 8) (hC : xC d 0 0 Y2 As M sz (qi sz P)) (hcc : c ≤ mc0) (hss : n ≤ ms0) (k : ∀ x M', P x M' → xG K (pc + 3) vs (.int x :: st) M' sz c n) : xG K pc vs st0 M sz c n :=
  xg_callS h As hm hd hw hn hst hb8 hC hcc hss (fun v M' sz' hq => by
    obtain ⟨rfl, x, rfl, hp⟩ := hq
    exact k x M' hp)
theorem xi_SN (h : xX Y (xR (d + 1) mc0 ms0) K) {host : String} {P : Int32 → xH → Prop} (As : List Value) (hm : xSm Y2 np) (hd : decode Y.2.1 pc = .ok (.invokestatic ix, 3)) (hw : (Y.1.cls, ix, Y2.1, host) ∈ xNl) (hn : As.length = np) {st0 : List Value} (hst : As.reverse ++ st = st0) (hb8 : (st.map fun v => v.category).sum ≤ 8) (hC : xC d 0 0 Y2 As M sz (qi sz P)) (hcc : c ≤ mc0) (hss : n ≤ ms0) (k : ∀ x M', P x M' → xG K (pc + 3) vs (.int x :: st) M' sz c n) : xG K pc vs st0 M sz c n :=
  xg_callSN h As hm hd hw hn hst hb8 hC hcc hss (fun v M' sz' hq => by
    obtain ⟨rfl, x, rfl, hp⟩ := hq
    exact k x M' hp)
end XF
/-! bytes -/
def oI (o : Option UInt8) : Int32 := match o with
  | none => -1
  | some b => nI b.toNat
def bI (b : Bool) : Int32 := nI b.toNat
def dig (b : UInt8) : Bool := decide (48 ≤ b.toNat) && decide (b.toNat ≤ 57)
def sym (b : UInt8) : Bool := dig b || (decide (65 ≤ b.toNat) && decide (b.toNat ≤ 90)) || (decide (97 ≤ b.toNat) && decide (b.toNat ≤ 122)) || b.toNat == 46 || b.toNat == 33 || b.toNat == 63 || b.toNat == 95
def cap (b : UInt8) : UInt8 := if 97 ≤ b.toNat ∧ b.toNat ≤ 122 then UInt8.ofNat (b.toNat - 32) else b
def odig (o : Option UInt8) : Bool := match o with
  | none => false
  | some b => dig b
def osym (o : Option UInt8) : Bool := match o with
  | none => false
  | some b => sym b
theorem by_lt (b : UInt8) : b.toNat < 256 := b.toNat_lt
theorem by_lt31 (b : UInt8) : b.toNat < 2147483648 := Nat.lt_trans b.toNat_lt (by decide)
theorem by_ofNat {n : Nat} (h : n < 256) : (UInt8.ofNat n).toNat = n := by
  simp [UInt8.toNat_ofNat]; omega
theorem cap_toNat (b : UInt8) : (cap b).toNat = if 97 ≤ b.toNat ∧ b.toNat ≤ 122 then b.toNat - 32 else b.toNat := by
  unfold cap
  have := by_lt b
  split
  · rw [by_ofNat (by omega)]
  · rfl
theorem oI_le {o : Option UInt8} {k : Nat} (hk : k < 2147483648) : nI k ≤ oI o ↔ ∃ b, o = some b ∧ k ≤ b.toNat := by
  cases o with
  | none =>
    constructor
    · intro h
      have h1 : (0 : Int32) ≤ nI k := nI_pos' hk
      exact absurd (Int32.le_trans h1 h) (by decide)
    · rintro ⟨b, h, -⟩
      cases h
  | some b =>
    show nI k ≤ nI b.toNat ↔ _
    rw [nI_leI hk (by_lt31 b)]
    simp
theorem oI_ge {o : Option UInt8} {k : Nat} (hk : k < 2147483648) : oI o ≤ nI k ↔ ∀ b, o = some b → b.toNat ≤ k := by
  cases o with
  | none =>
    constructor
    · intro _ b h
      cases h
    · intro _
      exact Int32.le_trans (show (-1 : Int32) ≤ 0 from by decide) (nI_pos' hk)
  | some b =>
    show nI b.toNat ≤ nI k ↔ _
    rw [nI_leI (by_lt31 b) hk]
    simp
theorem oI_eq {o : Option UInt8} {k : Nat} (hk : k < 256) : oI o = nI k ↔ o = some (UInt8.ofNat k) := by
  cases o with
  | none =>
    constructor
    · intro h
      have h1 : (0 : Int32) ≤ nI k := nI_pos' (by omega)
      rw [← h] at h1
      exact absurd h1 (by decide)
    · intro h
      cases h
  | some b =>
    show nI b.toNat = nI k ↔ _
    rw [nI_eq (by_lt31 b) (by omega)]
    constructor
    · intro h
      rw [← h]; simp
    · intro h
      cases h
      exact by_ofNat hk
theorem oI_inj {o p : Option UInt8} : oI o = oI p ↔ o = p := by
  cases p with
  | none =>
    cases o with
    | none => exact ⟨fun _ => rfl, fun _ => rfl⟩
    | some b =>
      constructor
      · intro h
        have h1 : (0 : Int32) ≤ nI b.toNat := nI_pos' (by_lt31 b)
        have h2 : nI b.toNat = -1 := h
        rw [h2] at h1
        exact absurd h1 (by decide)
      · intro h
        cases h
  | some b =>
    show oI o = nI b.toNat ↔ _
    rw [oI_eq (by_lt b)]
    simp
theorem bI_ne0 {b : Bool} : ¬ bI b = 0 ↔ b = true := by cases b <;> decide
theorem bI_eq0 {b : Bool} : bI b = 0 ↔ b = false := by cases b <;> decide
/-- the row at r: its bytes lie at r + 1, with room for w of them; bs are held -/
def RowAt (M : xH) (r w : Nat) (bs : List UInt8) : Prop := M r = some (.inr (0, [.ref (r + 1), .int (nI bs.length)])) ∧ bs.length ≤ w ∧ ∃ f : Nat → Int32, M (r + 1) = some (.inl (0, w, .inl f)) ∧ ∀ (j : Nat) (b : UInt8), bs[j]? = some b → f j = sb_b b.toNat
theorem RowAt.kept {M M' : xH} {r w : Nat} {bs : List UInt8} (h : RowAt M r w bs) (h0 : M' r = M r) (h1 : M' (r + 1) = M (r + 1)) : RowAt M' r w bs := by
  obtain ⟨a, b, f, c, d⟩ := h
  exact ⟨by rw [h0]; exact a, b, f, by rw [h1]; exact c, d⟩
theorem sb_and (b : UInt8) : sb_b b.toNat &&& nI 255 = nI b.toNat := (sb_byte b.toNat (by_lt b)).1
def rAt (bs : List UInt8) (x : Int32) : Option UInt8 := if x < 0 then none else bs[x.toNatClampNeg]?
theorem rAt_nI {bs : List UInt8} {i : Nat} (h : i < 2147483648) : rAt bs (nI i) = bs[i]? := by
  unfold rAt
  rw [if_neg (nI_pos h), nI_clamp h]
