/-! what the tables say at the law's start: the classes of the world, the arrays -/
theorem y_class {s : State} {args : Array Value} (hts : ∀ w ∈ lw_g, w.before args s = true) : ∃ D : va_G, ∀ (k : Nat) (q : vw_C), classes[k]? = some q → u_Kn s q.1 q.2.1 q.2.2 (D.1 k) (D.2 k) := by
  obtain ⟨c0, i0, h0⟩ := u_known (n := 2) hts k_Row.2.1 (hts _ kw_Row)
  obtain ⟨c1, i1, h1⟩ := u_known (n := 5) hts k_Ent.2.1 (hts _ kw_Ent)
  obtain ⟨c2, i2, h2⟩ := u_known (n := 2) hts k_She.2.1 (hts _ kw_She)
  obtain ⟨c3, i3, h3⟩ := u_known (n := 3) hts k_Sig.2.1 (hts _ kw_Sig)
  obtain ⟨c4, i4, h4⟩ := u_known (n := 3) hts k_Poo.2.1 (hts _ kw_Poo)
  obtain ⟨c5, i5, h5⟩ := u_known (n := 8) hts k_Rea.2.1 (hts _ kw_Rea)
  obtain ⟨c6, i6, h6⟩ := u_known (n := 7) hts k_Cut.2.1 (hts _ kw_Cut)
  obtain ⟨c7, i7, h7⟩ := u_known (n := 10) hts k_Nam.2.1 (hts _ kw_Nam)
  obtain ⟨c8, i8, h8⟩ := u_known (n := 31) hts k_Mod.2.1 (hts _ kw_Mod)
  refine ⟨(fun k => ([c0, c1, c2, c3, c4, c5, c6, c7, c8][k]?).getD c0, fun k => ([i0, i1, i2, i3, i4, i5, i6, i7, i8][k]?).getD i0), fun k q hq => ?_⟩
  match k, hq with
  | 0, hq => cases hq; exact h0
  | 1, hq => cases hq; exact h1
  | 2, hq => cases hq; exact h2
  | 3, hq => cases hq; exact h3
  | 4, hq => cases hq; exact h4
  | 5, hq => cases hq; exact h5
  | 6, hq => cases hq; exact h6
  | 7, hq => cases hq; exact h7
  | 8, hq => cases hq; exact h8
  | k + 9, hq => simp [classes] at hq
theorem y_prim {s : State} {args : Array Value} {ty : FieldType} (h : (Cond.arrayClass ty).before args s = true) : ∃ c : ClassId, ArrOfT s c ty ∧ s.vm.findClass ("[" ++ ty.toString) = some c := by
  obtain ⟨c, k, comp, h1, h2, h3⟩ := Cond.arrayClass_spec h
  exact ⟨c, fun n z => ⟨fun k h => (by cases h), k, h2, comp, h3⟩, h1⟩
theorem y_over {s : State} {C : String} (h : va_AO C s) : ∃ c : ClassId, ArrOfT s c (.object C) ∧ va_RA s c (.object C) := by
  obtain ⟨comp, c, k, h1, -, h2, h3, h4⟩ := Cond.arrayOver_spec h
  exact ⟨c, fun n z => ⟨fun k h => (by cases h), k, h2, comp, h3⟩, k, comp, h2, h3, h1, h4⟩
theorem y_arrs {s : State} {args : Array Value} (hts : ∀ w ∈ lw_g, w.before args s = true) (hNs : xNs s) : ∃ dA : Nat → ClassId, ∀ (k : Nat) (q : ClassId × FieldType), (xTys dA)[k]? = some q → ArrOfT s q.1 q.2 ∧ va_RA s q.1 q.2 := by
  obtain ⟨c0, a0, r0⟩ := y_prim (hts _ wa_byte)
  obtain ⟨c1, a1, r1⟩ := y_prim (hts _ wa_int)
  obtain ⟨c2, a2, r2⟩ := y_over (hNs.2 "NameRoom$Entry" (by decide))
  obtain ⟨c3, a3, r3⟩ := y_over (hNs.2 "NameRoom$Sight" (by decide))
  refine ⟨fun k => ([c0, c1, c2, c3][k]?).getD c0, fun k q hq => ?_⟩
  match k, hq with
  | 0, hq => cases hq; exact ⟨a0, r0⟩
  | 1, hq => cases hq; exact ⟨a1, r1⟩
  | 2, hq => cases hq; exact ⟨a2, r2⟩
  | 3, hq => cases hq; exact ⟨a3, r3⟩
  | k + 4, hq => simp [xTys, xTy] at hq
