/-! what stays true from call to call -/
def InvG (S : xS) : Prop := InvF S ∧ ∀ p, cnt S.2.2.2.2.1 p ≤ 12
theorem se_bound : ∀ (n : Nat) (se : List xSe), (∀ s ∈ se, 1 ≤ s.1 ∧ s.1 < n + 1) → (∀ p, cnt se p ≤ 12) → se.length ≤ 12 * n
  | 0, se, h, _ => by
    cases se with
    | nil => simp
    | cons s l => have := h s List.mem_cons_self; omega
  | n + 1, se, h, hc => by
    have h1 := se_bound n (se.filter (fun s => !(s.1 == n + 1))) (fun s hs => by
      obtain ⟨a, b⟩ := List.mem_filter.mp hs
      have := h s a
      simp at b
      omega) (fun p => by
      exact Nat.le_trans ((List.filter_sublist (p := fun s => !(s.1 == n + 1)) (l := se)).filter _).length_le (hc p))
    have h2 := hc (n + 1)
    have h3 : se.length = cnt se (n + 1) + (se.filter (fun s => !(s.1 == n + 1))).length := by
      unfold cnt
      clear h hc h1 h2
      induction se with
      | nil => rfl
      | cons s l ih =>
        rw [List.filter_cons, List.filter_cons, List.length_cons, ih]
        cases (s.1 == n + 1)
        · simp; omega
        · simp; omega
    omega
theorem inv_same {t out es dp se sub fr bg t' out' sub'} (h : InvG (t, out, es, dp, se, sub, fr, bg)) : InvG (t', out', es, dp, se, sub', fr, bg) := h
theorem inv_es {t out es dp se sub fr bg t' out' es' sub'} (h : InvG (t, out, es, dp, se, sub, fr, bg)) (hg : gI es') : InvG (t', out', es', dp, se, sub', fr, bg) := ⟨⟨⟨hg, h.1.1.2⟩, h.1.2⟩, h.2⟩
theorem i_feed {S : xS} {a b c d e : Int32} (h : InvG S) : InvG (sFeed a b c d e S).2 := by
  obtain ⟨t, out, es, dp, se, sub, fr, bg⟩ := S
  unfold sFeed
  dsimp only
  split
  · exact inv_same h
  · exact h
theorem i_end {S : xS} {a : Int32} (h : InvG S) : InvG (sEnd a S).2 := by
  obtain ⟨t, out, es, dp, se, sub, fr, bg⟩ := S
  unfold sEnd
  dsimp only
  split
  · exact h
  · exact inv_same h
theorem i_name {S : xS} {a : Int32} (h : InvG S) : InvG (sName a S).2 := by
  obtain ⟨t, out, es, dp, se, sub, fr, bg⟩ := S
  unfold sName
  dsimp only
  split
  · exact h
  · split
    · exact h
    · exact inv_same h
theorem i_value {S : xS} {a : Int32} (h : InvG S) : InvG (sValue a S).2 := by
  obtain ⟨t, out, es, dp, se, sub, fr, bg⟩ := S
  unfold sValue
  dsimp only
  split
  · exact h
  · split
    · exact h
    · split
      · exact h
      · exact inv_same h
theorem i_count {S : xS} {a : Int32} (h : InvG S) : InvG (sCount a S).2 := h
theorem i_out {S : xS} {a : Int32} (h : InvG S) : InvG (sOut a S).2 := h
theorem i_subject {S : xS} {a : Bool} (h : InvG S) : InvG (sSubject a S).2 := by
  obtain ⟨t, out, es, dp, se, sub, fr, bg⟩ := S
  unfold sSubject
  dsimp only
  split
  · exact inv_same h
  · exact inv_same h
theorem i_get {S : xS} (h : InvG S) : InvG (sGet S).2 := by
  obtain ⟨t, out, es, dp, se, sub, fr, bg⟩ := S
  unfold sGet
  dsimp only
  split
  · split
    · exact inv_same h
    · exact inv_same h
  · exact inv_same h
theorem i_known {S : xS} (h : InvG S) : InvG (sKnown S).2 := by
  obtain ⟨t, out, es, dp, se, sub, fr, bg⟩ := S
  unfold sKnown
  dsimp only
  split
  · split
    · exact inv_same h
    · exact inv_same h
  · exact inv_same h
theorem i_set {S : xS} (h : InvG S) : InvG (sSet S).2 := by
  obtain ⟨t, out, es, dp, se, sub, fr, bg⟩ := S
  unfold sSet
  dsimp only
  split
  · split
    · exact inv_es h (gI_givE h.1.1.1)
    · exact inv_same h
  · exact inv_same h
theorem gI_drpL {se : List xSe} {ip : Nat} {t : List UInt8} : ∀ (r : List xTk) (es : List xEn), gI es → gI (drpL se ip t r es).2
  | [], es, h => h
  | e :: r, es, h => by
    unfold drpL
    split
    · cases hd : dropE es se (own se (FN es se ip t e.2.1 e.2.2) ip) (FN es se ip t e.2.1 e.2.2) with
      | some es2 => exact gI_drpL r es2 (gI_dropE h hd)
      | none => exact gI_clE h
    · exact h
theorem i_drop {S : xS} (h : InvG S) : InvG (sDrop S).2 := by
  obtain ⟨t, out, es, dp, se, sub, fr, bg⟩ := S
  unfold sDrop
  dsimp only
  split
  · split
    · exact inv_same h
    · exact inv_es h (gI_drpL _ _ h.1.1.1)
  · exact inv_same h
theorem i_close {S : xS} (h : InvG S) : InvG (sClose S).2 := by
  obtain ⟨t, out, es, dp, se, sub, fr, bg⟩ := S
  unfold sClose
  dsimp only
  split
  · exact h
  · rename_i hdp
    obtain ⟨⟨⟨h1, h2, h3, h4, h5, h6, h7⟩, h8⟩, h9⟩ := h
    have h8 : SeO se := h8
    have h9 : ∀ p, cnt se p ≤ 12 := h9
    obtain ⟨t1, -⟩ := se_take h8 (q := dp - 1) (fun s hs => by have := (h2 s hs).2; omega)
    have hsub : (se.take (se.length - cnt se (dp - 1))).Sublist se := List.take_sublist _ _
    have hc : ∀ p, cnt (se.take (se.length - cnt se (dp - 1))) p ≤ 12 := fun p => Nat.le_trans (hsub.filter _).length_le (h9 p)
    have hb : ∀ s ∈ se.take (se.length - cnt se (dp - 1)), 1 ≤ s.1 ∧ s.1 < dp - 1 := fun s hs => ⟨(h2 s (List.mem_of_mem_take hs)).1, t1 s hs⟩
    have hl := se_bound (dp - 2) _ (fun s hs => by have := hb s hs; omega) hc
    refine ⟨⟨⟨gI_filter h1, hb, by rw [show dp - 1 - 1 = dp - 2 by omega]; exact hl, by omega, by omega, h6, h7⟩, ⟨fun s hs => (hb s hs).1, h8.2.sublist hsub⟩⟩, hc⟩
theorem opn_in {es : List xEn} {t : List UInt8} {ip : Nat} (hip : 1 ≤ ip) : ∀ (T : List xTk) (se se' : List xSe), opn es t ip T se = some se' → (∀ s ∈ se, 1 ≤ s.1 ∧ s.1 ≤ ip) → SeO se → (∀ s ∈ se', 1 ≤ s.1 ∧ s.1 ≤ ip) ∧ SeO se' ∧ cnt se' ip ≤ cnt se ip + T.length ∧ ∀ p, p ≠ ip → cnt se' p = cnt se p
  | [], se, se', h, h1, h2 => by
    have : some se = some se' := h
    cases this
    exact ⟨h1, h2, by simp, fun _ _ => rfl⟩
  | e :: r, se, se', h, h1, h2 => by
    unfold opn at h
    split at h
    · by_cases ht : told1 se ip (FN es se ip t e.2.1 e.2.2) = true
      · rw [if_pos ht] at h
        obtain ⟨a, b, c, d⟩ := opn_in hip r se se' h h1 h2
        exact ⟨a, b, by rw [List.length_cons]; omega, d⟩
      · rw [if_neg ht] at h
        obtain ⟨a, b, c, d⟩ := opn_in hip r _ se' h (fun s hs => by
          rcases List.mem_append.mp hs with z | z
          · exact h1 s z
          · rw [List.mem_singleton.mp z]; exact ⟨hip, Nat.le_refl _⟩) (SeO_app h2 hip (fun s hs => (h1 s hs).2))
        have hc : ∀ p, cnt (se ++ [(ip, FN es se ip t e.2.1 e.2.2)]) p = cnt se p + if p = ip then 1 else 0 := by
          intro p
          unfold cnt
          rw [List.filter_append, List.length_append, List.filter_cons]
          by_cases z : p = ip
          · subst z; simp
          · rw [if_neg z, if_neg (by simp only [beq_iff_eq]; exact fun q => z q.symm)]
            simp
        refine ⟨a, b, ?_, fun p hp => ?_⟩
        · have := hc ip
          rw [if_pos rfl] at this
          rw [List.length_cons]
          omega
        · rw [d p hp, hc p, if_neg hp]
          rfl
    · cases h
theorem i_open {S : xS} (h : InvG S) : InvG (sOpen S).2 := by
  obtain ⟨t, out, es, dp, se, sub, fr, bg⟩ := S
  unfold sOpen
  dsimp only
  split
  · split
    · rename_i hdp
      cases ho : opn es t dp (rdM t 12).2 se with
      | none => exact inv_same h
      | some se' =>
        obtain ⟨⟨⟨h1, h2, h3, h4, h5, h6, h7⟩, h8⟩, h9⟩ := h
        have h8 : SeO se := h8
        have h9 : ∀ p, cnt se p ≤ 12 := h9
        obtain ⟨a, b, c, d⟩ := opn_in h4 _ se se' ho (fun s hs => by have := h2 s hs; omega) h8
        have hl := (rdM_ok (t := t) (most := 12)).2
        have hz : cnt se dp = 0 := by
          unfold cnt
          rw [List.length_eq_zero_iff, List.filter_eq_nil_iff]
          intro s hs
          have := (h2 s hs).2
          simp only [beq_iff_eq]
          omega
        have hc : ∀ p, cnt se' p ≤ 12 := fun p => by
          by_cases z : p = dp
          · subst z; omega
          · rw [d p z]; exact h9 p
        have hb := se_bound dp se' (fun s hs => by have := a s hs; omega) hc
        exact ⟨⟨⟨h1, fun s hs => by have := a s hs; omega, by rw [show dp + 1 - 1 = dp by omega]; exact hb, by omega, by omega, h6, h7⟩, b⟩, hc⟩
    · exact inv_same h
  · exact inv_same h
theorem prsS_in {se : List xSe} {ip : Nat} {t sub : List UInt8} : ∀ (T pend : List xTk) (es : List xEn) (fr bg : Nat), gI es → 1 ≤ fr → fr ≤ sub.length + 1 → 1 ≤ bg → bg ≤ sub.length + 1 → gI (prsS se ip t sub T pend es fr bg).2.1 ∧ (prsS se ip t sub T pend es fr bg).2.2.1 ≤ sub.length + 1 ∧ (prsS se ip t sub T pend es fr bg).2.2.2 ≤ sub.length + 1
  | [], pend, es, fr, bg, h, h1, h2, h3, h4 => ⟨gI_hndL pend fr es h, h2, h4⟩
  | k :: r, pend, es, fr, bg, h, h1, h2, h3, h4 => by
    unfold prsS
    split
    · exact prsS_in r _ _ _ _ h h1 h2 h3 h4
    · cases hc : cutS es se ip t sub fr bg (some k) with
      | none => exact ⟨h, h2, h4⟩
      | some R =>
        obtain ⟨-, -, -, u4, u5, u6, u7⟩ := cutS_in h1 h2 h3 h4 hc
        dsimp only
        split
        · exact prsS_in r _ _ _ _ (gI_hndL pend _ es h) u6 u7 u4 u5
        · exact ⟨gI_hndL pend _ es h, u7, u5⟩
theorem i_parse {S : xS} (h : InvG S) (hs : S.2.2.2.2.2.1.length ≤ 200) : InvG (sParse S).2 := by
  obtain ⟨t, out, es, dp, se, sub, fr, bg⟩ := S
  have hs : sub.length ≤ 200 := hs
  unfold sParse
  dsimp only
  split
  · obtain ⟨a, b, c⟩ := prsS_in (se := se) (ip := dp - 1) (t := t) (sub := sub) (toks t 600 0 []).2 [] es 1 1 h.1.1.1 (by omega) (by omega) (by omega) (by omega)
    obtain ⟨⟨⟨h1, h2, h3, h4, h5, h6, h7⟩, h8⟩, h9⟩ := h
    exact ⟨⟨⟨a, h2, h3, h4, h5, by omega, by omega⟩, h8⟩, h9⟩
  · exact inv_same h
theorem inv0 : InvG ([], [], [], 1, [], [], 1, 1) := ⟨⟨⟨fun e he => absurd he List.not_mem_nil, fun s hs => absurd hs List.not_mem_nil, by simp, by omega, by omega, by omega, by omega⟩, fun s hs => absurd hs List.not_mem_nil, List.Pairwise.nil⟩, fun p => by show ([] : List xSe).length ≤ 12; simp⟩
theorem MW.sub {M : xH} {O : Nat} {S : xS} (h : MW M O S) : S.2.2.2.2.2.1.length ≤ 200 := by
  obtain ⟨t, out, es, dp, se, sub, fr, bg⟩ := S
  obtain ⟨-, x, full, fd, wr, nx, kd, fi, la, va, hw⟩ := h
  exact hw.xl.2.2.2.2.2.2.1
