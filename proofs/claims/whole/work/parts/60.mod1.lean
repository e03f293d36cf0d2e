/-! THE REFERENCE: one object at O, its arrays at O + 1 .. O + 15 -/
section XM1
variable {t x out full : List UInt8} {es : List xEn} {pool : Nat} {se : List xSe} {sub fd : List UInt8} {fr bg : Nat} {wr : Option Nat} {nx kd fi la va : Nat}
def wI (o : Option Nat) : Int32 := match o with
  | none => -1
  | some p => nI p
def vI (o : Option (List UInt8)) : Int32 := match o with
  | none => -1
  | some u => nI u.length
abbrev moC (O : Nat) (t x out full : List UInt8) (es : List xEn) (pool : Nat) (se : List xSe) (sub fd : List UInt8) (fr bg : Nat) (wr : Option Nat) (nx kd fi la va : Nat) : xE := .inr (8, [.ref (O + 1), .ref (O + 2), .ref (O + 3), .ref (O + 4), .int (nI t.length), .int (nI x.length), .int (nI out.length), .int (nI full.length), .ref (O + 5), .ref (O + 6), .ref (O + 7), .ref (O + 8), .ref (O + 9), .int (nI es.length), .ref (O + 10), .ref (O + 11), .ref (O + 12), .int (nI pool), .ref (O + 13), .ref (O + 14), .int (nI sub.length), .int (nI fd.length), .int (nI fr), .int (nI bg), .int (wI wr), .int (nI nx), .ref (O + 15), .int (nI kd), .int (nI fi), .int (nI la), .int (nI va)])
/-- an int array whose first elements are these bytes -/
def Ar (M : xH) (a n : Nat) (bs : List UInt8) : Prop := bs.length ≤ n ∧ ∃ f : Nat → Int32, M a = some (.inl (1, n, .inl f)) ∧ ∀ (j : Nat) (b : UInt8), bs[j]? = some b → f j = nI b.toNat
theorem Ar.kept {M M' : xH} {a n : Nat} {bs : List UInt8} (h : Ar M a n bs) (h0 : M' a = M a) : Ar M' a n bs := by
  obtain ⟨h1, f, h2, h3⟩ := h
  exact ⟨h1, f, by rw [h0]; exact h2, h3⟩
/-- the entry's place k in the arrays: its name; its value -/
def EnN (fn fz fp : Nat → Int32) (k : Nat) (e : xEn) : Prop := fp k = nI e.1 ∧ e.1 < 8 ∧ fz k = nI e.2.1.length ∧ e.2.1.length ≤ 200 ∧ ∀ (i : Nat) (b : UInt8), e.2.1[i]? = some b → fn (200 * k + i) = nI b.toNat
def EnV (fv fvz : Nat → Int32) (k : Nat) (e : xEn) : Prop := fvz k = vI e.2.2 ∧ ∀ u, e.2.2 = some u → u.length ≤ 200 ∧ ∀ (i : Nat) (b : UInt8), u[i]? = some b → fv (200 * k + i) = nI b.toNat
def EnQ (ok : Nat → Prop) (M : xH) (O : Nat) (es : List xEn) : Prop := es.length ≤ 100 ∧ ∃ fn fz fv fvz fp : Nat → Int32, M (O + 5) = some (.inl (1, 20200, .inl fn)) ∧ M (O + 6) = some (.inl (1, 101, .inl fz)) ∧ M (O + 7) = some (.inl (1, 20200, .inl fv)) ∧ M (O + 8) = some (.inl (1, 101, .inl fvz)) ∧ M (O + 9) = some (.inl (1, 101, .inl fp)) ∧ ∀ (k : Nat) (e : xEn), es[k]? = some e → EnN fn fz fp k e ∧ (ok k → EnV fv fvz k e)
abbrev EnM (M : xH) (O : Nat) (es : List xEn) : Prop := EnQ (fun _ => True) M O es
theorem EnQ.kept {ok : Nat → Prop} {M M' : xH} {O : Nat} {es : List xEn} (h : EnQ ok M O es) (hk : ∀ q, O + 5 ≤ q → q < O + 10 → M' q = M q) : EnQ ok M' O es := by
  obtain ⟨h0, fn, fz, fv, fvz, fp, h1, h2, h3, h4, h5, h6⟩ := h
  exact ⟨h0, fn, fz, fv, fvz, fp, by rw [hk _ (by omega) (by omega)]; exact h1, by rw [hk _ (by omega) (by omega)]; exact h2, by rw [hk _ (by omega) (by omega)]; exact h3, by rw [hk _ (by omega) (by omega)]; exact h4, by rw [hk _ (by omega) (by omega)]; exact h5, h6⟩
/-- the names that a pool sees, in order -/
def sOf (se : List xSe) (p : Nat) : List (List UInt8) := (se.filter (fun s => s.1 == p)).map (fun s => s.2)
def SeM (M : xH) (O pool : Nat) (se : List xSe) : Prop := pool ≤ 7 ∧ ∃ fs fz fc : Nat → Int32, M (O + 10) = some (.inl (1, 19200, .inl fs)) ∧ M (O + 11) = some (.inl (1, 96, .inl fz)) ∧ M (O + 12) = some (.inl (1, 8, .inl fc)) ∧ ∀ p, 1 ≤ p → p ≤ pool → (sOf se p).length ≤ 12 ∧ fc p = nI (sOf se p).length ∧ ∀ (k : Nat) (s : List UInt8), (sOf se p)[k]? = some s → fz (12 * p + k) = nI s.length ∧ (1 ≤ s.length ∧ s.length ≤ 200) ∧ ∀ (i : Nat) (b : UInt8), s[i]? = some b → fs (200 * (12 * p + k) + i) = nI b.toNat
theorem SeM.kept {M M' : xH} {O pool : Nat} {se : List xSe} (h : SeM M O pool se) (hk : ∀ q, O + 10 ≤ q → q < O + 13 → M' q = M q) : SeM M' O pool se := by
  obtain ⟨h0, fs, fz, fc, h1, h2, h3, h4⟩ := h
  exact ⟨h0, fs, fz, fc, by rw [hk _ (by omega) (by omega)]; exact h1, by rw [hk _ (by omega) (by omega)]; exact h2, by rw [hk _ (by omega) (by omega)]; exact h3, h4⟩
def KeM (M : xH) (O : Nat) : Prop := ∃ f : Nat → Int32, M (O + 15) = some (.inl (1, 201, .inl f))
/-- the reference's world -/
def Wd (M : xH) (O : Nat) (t x out full : List UInt8) (es : List xEn) (pool : Nat) (se : List xSe) (sub fd : List UInt8) (fr bg : Nat) (wr : Option Nat) (nx kd fi la va : Nat) : Prop := M O = some (moC O t x out full es pool se sub fd fr bg wr nx kd fi la va) ∧ Ar M (O + 1) 600 t ∧ Ar M (O + 2) 600 x ∧ Ar M (O + 3) 200 out ∧ Ar M (O + 4) 201 full ∧ EnM M O es ∧ SeM M O pool se ∧ Ar M (O + 13) 200 sub ∧ Ar M (O + 14) 200 fd ∧ KeM M O
def FrO (M M' : xH) (O : Nat) : Prop := FrR M M' O (O + 16)
theorem FrO.tr {M M' M'' : xH} {O : Nat} (a : FrO M M' O) (b : FrO M' M'' O) : FrO M M'' O := FrR.tr a b
theorem FrO.rf (M : xH) (O : Nat) : FrO M M O := fun _ _ => rfl
theorem FrO.up (M : xH) (O : Nat) {q : Nat} (z : xE) (h1 : O ≤ q) (h2 : q < O + 16) : FrO M (xup M q z) O := fun p hp => xup_n _ _ (by omega)
theorem FrO.up' {M M' : xH} {O q : Nat} (h : FrO M M' O) (z : xE) (h1 : O ≤ q) (h2 : q < O + 16) : FrO M (xup M' q z) O := h.tr (FrO.up M' O z h1 h2)
/-- the object's own ints change -/
theorem Wd.ob {M M' : xH} {O : Nat} {fr' bg' nx' kd' fi' la' va' : Nat} {wr' : Option Nat}  (h : Wd M O t x out full es pool se sub fd fr bg wr nx kd fi la va) (ho : M' O = some (moC O t x out full es pool se sub fd fr' bg' wr' nx' kd' fi' la' va'))  (hf : ∀ q, q ≠ O → M' q = M q) : Wd M' O t x out full es pool se sub fd fr' bg' wr' nx' kd' fi' la' va' := by
  obtain ⟨-, h1, h2, h3, h4, h5, h6, h7, h8, f, h9⟩ := h
  exact ⟨ho, h1.kept (hf _ (by omega)), h2.kept (hf _ (by omega)), h3.kept (hf _ (by omega)), h4.kept (hf _ (by omega)), h5.kept (fun q _ _ => hf q (by omega)), h6.kept (fun q _ _ => hf q (by omega)), h7.kept (hf _ (by omega)), h8.kept (hf _ (by omega)), f, by rw [hf _ (by omega)]; exact h9⟩
/-- the tape changes -/
theorem Wd.st {M M' : xH} {O : Nat} {fr' bg' nx' kd' fi' la' va' : Nat} {wr' : Option Nat} {t' : List UInt8} (h : Wd M O t x out full es pool se sub fd fr bg wr nx kd fi la va) (ho : M' O = some (moC O t' x out full es pool se sub fd fr' bg' wr' nx' kd' fi' la' va')) (ht : Ar M' (O + 1) 600 t') (hf : ∀ q, q ≠ O → q ≠ O + 1 → M' q = M q) : Wd M' O t' x out full es pool se sub fd fr' bg' wr' nx' kd' fi' la' va' := by
  obtain ⟨-, h1, h2, h3, h4, h5, h6, h7, h8, f, h9⟩ := h
  exact ⟨ho, ht, h2.kept (hf _ (by omega) (by omega)), h3.kept (hf _ (by omega) (by omega)), h4.kept (hf _ (by omega) (by omega)), h5.kept (fun q _ _ => hf q (by omega) (by omega)), h6.kept (fun q _ _ => hf q (by omega) (by omega)), h7.kept (hf _ (by omega) (by omega)), h8.kept (hf _ (by omega) (by omega)), f, by rw [hf _ (by omega) (by omega)]; exact h9⟩
/-- the text changes -/
theorem Wd.sx {M M' : xH} {O : Nat} {fr' bg' nx' kd' fi' la' va' : Nat} {wr' : Option Nat} {x' : List UInt8} (h : Wd M O t x out full es pool se sub fd fr bg wr nx kd fi la va) (ho : M' O = some (moC O t x' out full es pool se sub fd fr' bg' wr' nx' kd' fi' la' va')) (ht : Ar M' (O + 2) 600 x') (hf : ∀ q, q ≠ O → q ≠ O + 2 → M' q = M q) : Wd M' O t x' out full es pool se sub fd fr' bg' wr' nx' kd' fi' la' va' := by
  obtain ⟨-, h1, h2, h3, h4, h5, h6, h7, h8, f, h9⟩ := h
  exact ⟨ho, h1.kept (hf _ (by omega) (by omega)), ht, h3.kept (hf _ (by omega) (by omega)), h4.kept (hf _ (by omega) (by omega)), h5.kept (fun q _ _ => hf q (by omega) (by omega)), h6.kept (fun q _ _ => hf q (by omega) (by omega)), h7.kept (hf _ (by omega) (by omega)), h8.kept (hf _ (by omega) (by omega)), f, by rw [hf _ (by omega) (by omega)]; exact h9⟩
/-- what is written changes -/
theorem Wd.so {M M' : xH} {O : Nat} {fr' bg' nx' kd' fi' la' va' : Nat} {wr' : Option Nat} {out' : List UInt8} (h : Wd M O t x out full es pool se sub fd fr bg wr nx kd fi la va) (ho : M' O = some (moC O t x out' full es pool se sub fd fr' bg' wr' nx' kd' fi' la' va')) (ht : Ar M' (O + 3) 200 out') (hf : ∀ q, q ≠ O → q ≠ O + 3 → M' q = M q) : Wd M' O t x out' full es pool se sub fd fr' bg' wr' nx' kd' fi' la' va' := by
  obtain ⟨-, h1, h2, h3, h4, h5, h6, h7, h8, f, h9⟩ := h
  exact ⟨ho, h1.kept (hf _ (by omega) (by omega)), h2.kept (hf _ (by omega) (by omega)), ht, h4.kept (hf _ (by omega) (by omega)), h5.kept (fun q _ _ => hf q (by omega) (by omega)), h6.kept (fun q _ _ => hf q (by omega) (by omega)), h7.kept (hf _ (by omega) (by omega)), h8.kept (hf _ (by omega) (by omega)), f, by rw [hf _ (by omega) (by omega)]; exact h9⟩
/-- the full name changes -/
theorem Wd.sf {M M' : xH} {O : Nat} {fr' bg' nx' kd' fi' la' va' : Nat} {wr' : Option Nat} {full' : List UInt8} (h : Wd M O t x out full es pool se sub fd fr bg wr nx kd fi la va) (ho : M' O = some (moC O t x out full' es pool se sub fd fr' bg' wr' nx' kd' fi' la' va')) (ht : Ar M' (O + 4) 201 full') (hf : ∀ q, q ≠ O → q ≠ O + 4 → M' q = M q) : Wd M' O t x out full' es pool se sub fd fr' bg' wr' nx' kd' fi' la' va' := by
  obtain ⟨-, h1, h2, h3, h4, h5, h6, h7, h8, f, h9⟩ := h
  exact ⟨ho, h1.kept (hf _ (by omega) (by omega)), h2.kept (hf _ (by omega) (by omega)), h3.kept (hf _ (by omega) (by omega)), ht, h5.kept (fun q _ _ => hf q (by omega) (by omega)), h6.kept (fun q _ _ => hf q (by omega) (by omega)), h7.kept (hf _ (by omega) (by omega)), h8.kept (hf _ (by omega) (by omega)), f, by rw [hf _ (by omega) (by omega)]; exact h9⟩
/-- the entries change -/
theorem Wd.sn {M M' : xH} {O : Nat} {fr' bg' nx' kd' fi' la' va' : Nat} {wr' : Option Nat} {es' : List xEn} (h : Wd M O t x out full es pool se sub fd fr bg wr nx kd fi la va) (ho : M' O = some (moC O t x out full es' pool se sub fd fr' bg' wr' nx' kd' fi' la' va')) (ht : EnM M' O es') (hf : ∀ q, q ≠ O → (q < O + 5 ∨ O + 10 ≤ q) → M' q = M q) : Wd M' O t x out full es' pool se sub fd fr' bg' wr' nx' kd' fi' la' va' := by
  obtain ⟨-, h1, h2, h3, h4, h5, h6, h7, h8, f, h9⟩ := h
  exact ⟨ho, h1.kept (hf _ (by omega) (by omega)), h2.kept (hf _ (by omega) (by omega)), h3.kept (hf _ (by omega) (by omega)), h4.kept (hf _ (by omega) (by omega)), ht, h6.kept (fun q _ _ => hf q (by omega) (by omega)), h7.kept (hf _ (by omega) (by omega)), h8.kept (hf _ (by omega) (by omega)), f, by rw [hf _ (by omega) (by omega)]; exact h9⟩
/-- what the pools see changes -/
theorem Wd.sp {M M' : xH} {O : Nat} {fr' bg' nx' kd' fi' la' va' : Nat} {wr' : Option Nat} {pool' : Nat} {se' : List xSe} (h : Wd M O t x out full es pool se sub fd fr bg wr nx kd fi la va) (ho : M' O = some (moC O t x out full es pool' se' sub fd fr' bg' wr' nx' kd' fi' la' va')) (ht : SeM M' O pool' se') (hf : ∀ q, q ≠ O → (q < O + 10 ∨ O + 13 ≤ q) → M' q = M q) : Wd M' O t x out full es pool' se' sub fd fr' bg' wr' nx' kd' fi' la' va' := by
  obtain ⟨-, h1, h2, h3, h4, h5, h6, h7, h8, f, h9⟩ := h
  exact ⟨ho, h1.kept (hf _ (by omega) (by omega)), h2.kept (hf _ (by omega) (by omega)), h3.kept (hf _ (by omega) (by omega)), h4.kept (hf _ (by omega) (by omega)), h5.kept (fun q _ _ => hf q (by omega) (by omega)), ht, h7.kept (hf _ (by omega) (by omega)), h8.kept (hf _ (by omega) (by omega)), f, by rw [hf _ (by omega) (by omega)]; exact h9⟩
/-- the subject changes -/
theorem Wd.ss {M M' : xH} {O : Nat} {fr' bg' nx' kd' fi' la' va' : Nat} {wr' : Option Nat} {sub' : List UInt8} (h : Wd M O t x out full es pool se sub fd fr bg wr nx kd fi la va) (ho : M' O = some (moC O t x out full es pool se sub' fd fr' bg' wr' nx' kd' fi' la' va')) (ht : Ar M' (O + 13) 200 sub') (hf : ∀ q, q ≠ O → q ≠ O + 13 → M' q = M q) : Wd M' O t x out full es pool se sub' fd fr' bg' wr' nx' kd' fi' la' va' := by
  obtain ⟨-, h1, h2, h3, h4, h5, h6, h7, h8, f, h9⟩ := h
  exact ⟨ho, h1.kept (hf _ (by omega) (by omega)), h2.kept (hf _ (by omega) (by omega)), h3.kept (hf _ (by omega) (by omega)), h4.kept (hf _ (by omega) (by omega)), h5.kept (fun q _ _ => hf q (by omega) (by omega)), h6.kept (fun q _ _ => hf q (by omega) (by omega)), ht, h8.kept (hf _ (by omega) (by omega)), f, by rw [hf _ (by omega) (by omega)]; exact h9⟩
/-- the pattern changes -/
theorem Wd.sd {M M' : xH} {O : Nat} {fr' bg' nx' kd' fi' la' va' : Nat} {wr' : Option Nat} {fd' : List UInt8} (h : Wd M O t x out full es pool se sub fd fr bg wr nx kd fi la va) (ho : M' O = some (moC O t x out full es pool se sub fd' fr' bg' wr' nx' kd' fi' la' va')) (ht : Ar M' (O + 14) 200 fd') (hf : ∀ q, q ≠ O → q ≠ O + 14 → M' q = M q) : Wd M' O t x out full es pool se sub fd' fr' bg' wr' nx' kd' fi' la' va' := by
  obtain ⟨-, h1, h2, h3, h4, h5, h6, h7, h8, f, h9⟩ := h
  exact ⟨ho, h1.kept (hf _ (by omega) (by omega)), h2.kept (hf _ (by omega) (by omega)), h3.kept (hf _ (by omega) (by omega)), h4.kept (hf _ (by omega) (by omega)), h5.kept (fun q _ _ => hf q (by omega) (by omega)), h6.kept (fun q _ _ => hf q (by omega) (by omega)), h7.kept (hf _ (by omega) (by omega)), ht, f, by rw [hf _ (by omega) (by omega)]; exact h9⟩
theorem Wd.up {M : xH} {O : Nat} {fr' bg' nx' kd' fi' la' va' : Nat} {wr' : Option Nat} (h : Wd M O t x out full es pool se sub fd fr bg wr nx kd fi la va) : Wd (xup M O (moC O t x out full es pool se sub fd fr' bg' wr' nx' kd' fi' la' va')) O t x out full es pool se sub fd fr' bg' wr' nx' kd' fi' la' va' := h.ob (xup_s _ _ _) (fun q hq => xup_n _ _ hq)
/-- the scratch array changes -/
theorem Wd.sk {M M' : xH} {O : Nat} (h : Wd M O t x out full es pool se sub fd fr bg wr nx kd fi la va) (ht : KeM M' O) (hf : ∀ q, q ≠ O + 15 → M' q = M q) : Wd M' O t x out full es pool se sub fd fr bg wr nx kd fi la va := by
  obtain ⟨h0, h1, h2, h3, h4, h5, h6, h7, h8, -⟩ := h
  exact ⟨by rw [hf _ (by omega)]; exact h0, h1.kept (hf _ (by omega)), h2.kept (hf _ (by omega)), h3.kept (hf _ (by omega)), h4.kept (hf _ (by omega)), h5.kept (fun q _ _ => hf q (by omega)), h6.kept (fun q _ _ => hf q (by omega)), h7.kept (hf _ (by omega)), h8.kept (hf _ (by omega)), ht⟩
theorem Wd.xl {M : xH} {O : Nat} (h : Wd M O t x out full es pool se sub fd fr bg wr nx kd fi la va) : t.length ≤ 600 ∧ x.length ≤ 600 ∧ out.length ≤ 200 ∧ full.length ≤ 201 ∧ es.length ≤ 100 ∧ pool ≤ 7 ∧ sub.length ≤ 200 ∧ fd.length ≤ 200 := ⟨h.2.1.1, h.2.2.1.1, h.2.2.2.1.1, h.2.2.2.2.1.1, h.2.2.2.2.2.1.1, h.2.2.2.2.2.2.1.1, h.2.2.2.2.2.2.2.1.1, h.2.2.2.2.2.2.2.2.1.1⟩
/-- writing one element behind the bytes at hand -/
theorem Ar.push {M : xH} {a n : Nat} {bs : List UInt8} {f : Nat → Int32} {b : UInt8} (hl : bs.length < n) (hf : ∀ (j : Nat) (b : UInt8), bs[j]? = some b → f j = nI b.toNat) : Ar (xup M a (.inl (1, n, .inl (upd f bs.length (nI b.toNat))))) a n (bs ++ [b]) := by
  refine ⟨by simp; omega, _, xup_s _ _ _, fun j c hj => ?_⟩
  by_cases e : j = bs.length
  · subst e
    simp at hj
    subst hj
    exact pk_us
  · rw [List.getElem?_append] at hj
    split at hj
    · rw [pk_un e]; exact hf j c hj
    · have := (List.getElem?_eq_some_iff.mp hj).1
      simp at this
      omega
theorem Ar.cut {M : xH} {a n k : Nat} {bs : List UInt8} (h : Ar M a n bs) : Ar M a n (bs.take k) := by
  obtain ⟨h1, f, h2, h3⟩ := h
  refine ⟨by rw [List.length_take]; omega, f, h2, fun j b hj => h3 j b ?_⟩
  have := (List.getElem?_eq_some_iff.mp hj).1
  rw [List.length_take] at this
  rw [List.getElem?_take_of_lt (by omega)] at hj
  exact hj
theorem wI_lt {o : Option Nat} (h : ∀ p, o = some p → p < 2147483648) : wI o < 0 ↔ o = none := by
  cases o with
  | none => exact ⟨fun _ => rfl, fun _ => by decide⟩
  | some p =>
    constructor
    · intro q; exact absurd q (nI_pos (h p rfl))
    · intro q; cases q
end XM1
