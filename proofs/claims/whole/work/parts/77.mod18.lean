/-! the reference: pattern, look, give -/
def patA (sub pat : List UInt8) (fr : Nat) : Nat := if pat.length = 0 then sub.length + 1 else (fnd sub pat fr).getD 0
/-- tokens that follow one another from p on, up to q -/
def ChP (x : List UInt8) : Nat → List xTk → Nat → Prop
  | p, [], q => sc bl x p x.length = sc bl x q x.length
  | p, k :: r, q => ∃ e, sc bl x p x.length < x.length ∧ tok1 x (sc bl x p x.length) = ((e, true), some k) ∧ ChP x e r q
theorem sc_stop {P : UInt8 → Bool} {bs : List UInt8} : ∀ (n p : Nat), bs.length - p = n → p ≤ bs.length → sc P bs p bs.length < bs.length → ∃ b, bs[sc P bs p bs.length]? = some b ∧ P b = false
  | 0, p, h, hp, hs => by
    rw [show p = bs.length by omega, sc_end] at hs
    omega
  | n + 1, p, h, hp, hs => by
    have hlt : p < bs.length := by omega
    cases hh : P bs[p] with
    | true =>
      rw [sc_miss hlt (Nat.le_refl _) hh] at hs ⊢
      exact sc_stop n (p + 1) (by omega) (by omega) hs
    | false =>
      rw [sc_hit hlt (Nat.le_refl _) hh]
      exact ⟨bs[p], List.getElem?_eq_getElem hlt, hh⟩
theorem sc_idem {P : UInt8 → Bool} {bs : List UInt8} {p : Nat} (hp : p ≤ bs.length) : sc P bs (sc P bs p bs.length) bs.length = sc P bs p bs.length := by
  have hl := sc_le (P := P) (bs := bs) hp (Nat.le_refl _)
  rcases (show sc P bs p bs.length < bs.length ∨ sc P bs p bs.length = bs.length by omega) with q | q
  · obtain ⟨b, h1, h2⟩ := sc_stop _ p rfl hp q
    refine sc_hit q (Nat.le_refl _) ?_
    rw [List.getElem?_eq_getElem q] at h1
    rw [Option.some.inj h1]
    exact h2
  · rw [q, sc_end]
theorem bl_ne {b : UInt8} (h : bl b = false) : ¬ b.toNat = 32 := by
  intro q
  have : b = 32 := UInt8.toNat_inj.mp q
  rw [this] at h
  exact absurd h (by decide)
section XM18
variable {t x out full : List UInt8} {es : List xEn} {pool : Nat} {se : List xSe} {sub fd : List UInt8} {fr bg : Nat} {wr : Option Nat} {nx kd fi la va : Nat}
set_option maxHeartbeats 8000000 in
set_option maxRecDepth 100000 in
theorem c_Mod_pattern (d : Nat) {M : xH} {sz O a : Nat} (h : Wd M O t x out full es pool se sub fd fr bg wr nx kd fi la va) (ha1 : 1 ≤ a) (ha : a ≤ sub.length + 1) : xC d 0 0 Y_Mod_pattern [.ref O, .int (nI a)] M sz (qi sz (fun y M' => y = nI (patA sub fd a) ∧ M' = M)) := by
  refine xC_of (by decide) (Nat.le_of_ble_eq_true rfl) (by simp [Value.category]) (vs := [some (.ref O), some (.int (nI a)), none, none, none]) rfl (fun K hX hE => ?_)
  obtain ⟨h0, -, -, -, -, -, -, ⟨hsl, gs, hsa, hsb⟩, ⟨hfl, gf, hfa, hfb⟩, -⟩ := id h
  refine xp_aload_0 (pc := 0) hX d_Mod_pattern_0 ?_
  refine xg_get (pc := 1) hX (j := 21) k_Mod d_Mod_pattern_1 l_Mod_176 (by decide) (by first | assumption | exact xup_s _ _ _ | exact xup_o (by omega) (by assumption) | exact xup_o (by omega) (xup_s _ _ _) | exact xup_o (by omega) (xup_o (by omega) (by assumption)) | exact xup_o (by omega) (xup_o (by omega) (xup_s _ _ _)) | exact xup_o (by omega) (xup_o (by omega) (xup_o (by omega) (by assumption)))) (by rfl) ?_
  refine xn_if_ne (pc := 4) hX 14 d_Mod_pattern_4 (by decide) (by omega) (fun z => ?_) (fun z => ?_)
  · have none_of : (∀ j, a ≤ j → j + fd.length ≤ sub.length + 1 → fd.isPrefixOf (sub.drop (j - 1)) = false) → fnd sub fd a = none := by
      intro hn
      exact List.find?_range_eq_none.mpr (fun j hj => by
        by_cases a1 : a ≤ j
        · by_cases a2 : j + fd.length ≤ sub.length + 1
          · simp only [hn j a1 a2]; simp
          · simp [a2]
        · simp [a1])
    have loop : ∀ (m i : Nat) (v3 v4 : Option Value), i + m = sub.length + 2 → a ≤ i → (∀ j, a ≤ j → j < i → j + fd.length ≤ sub.length + 1 → fd.isPrefixOf (sub.drop (j - 1)) = false) → xG K 16 [some (.ref O), some (.int (nI a)), some (.int (nI i)), v3, v4] [] M sz 0 0 := by
      intro m
      induction m with
      | zero =>
        intro i v3 v4 hi hf hn
        refine xp_iload_2 (pc := 16) hX d_Mod_pattern_16 ?_
        refine xp_aload_0 (pc := 17) hX d_Mod_pattern_17 ?_
        refine xg_get (pc := 18) hX (j := 21) k_Mod d_Mod_pattern_18 l_Mod_176 (by decide) (by first | assumption | exact xup_s _ _ _ | exact xup_o (by omega) (by assumption) | exact xup_o (by omega) (xup_s _ _ _) | exact xup_o (by omega) (xup_o (by omega) (by assumption)) | exact xup_o (by omega) (xup_o (by omega) (xup_s _ _ _)) | exact xup_o (by omega) (xup_o (by omega) (xup_o (by omega) (by assumption)))) (by rfl) ?_
        first | refine xn_iadd (pc := 21) hX d_Mod_pattern_21 ?_ | refine xg_iadd (pc := 21) hX d_Mod_pattern_21 ?_
        refine xp_aload_0 (pc := 22) hX d_Mod_pattern_22 ?_
        refine xg_get (pc := 23) hX (j := 20) k_Mod d_Mod_pattern_23 l_Mod_173 (by decide) (by first | assumption | exact xup_s _ _ _ | exact xup_o (by omega) (by assumption) | exact xup_o (by omega) (xup_s _ _ _) | exact xup_o (by omega) (xup_o (by omega) (by assumption)) | exact xup_o (by omega) (xup_o (by omega) (xup_s _ _ _)) | exact xup_o (by omega) (xup_o (by omega) (xup_o (by omega) (by assumption)))) (by rfl) ?_
        refine xg_iconst (pc := 26) hX (nI 1) d_Mod_pattern_26 ci_iconst_1 ?_
        first | refine xn_iadd (pc := 27) hX d_Mod_pattern_27 ?_ | refine xg_iadd (pc := 27) hX d_Mod_pattern_27 ?_
        refine xn_icmp_gt (pc := 28) hX 94 d_Mod_pattern_28 (by decide) (by omega) (by omega) (fun _ => ?_) (fun z => absurd z (by omega))
        refine xg_iconst (pc := 94) hX (nI 0) d_Mod_pattern_94 ci_iconst_0 ?_
        refine xg_iret (pc := 95) hX hE d_Mod_pattern_95 rfl rfl (by omega) (by omega) ?_
        refine ⟨rfl, _, rfl, ?_, rfl⟩
        unfold patA
        rw [if_neg (by omega), none_of (fun j a1 a2 => hn j a1 (by omega) a2)]
        rfl
      | succ m ih =>
        intro i v3 v4 hi hf hn
        refine xp_iload_2 (pc := 16) hX d_Mod_pattern_16 ?_
        refine xp_aload_0 (pc := 17) hX d_Mod_pattern_17 ?_
        refine xg_get (pc := 18) hX (j := 21) k_Mod d_Mod_pattern_18 l_Mod_176 (by decide) (by first | assumption | exact xup_s _ _ _ | exact xup_o (by omega) (by assumption) | exact xup_o (by omega) (xup_s _ _ _) | exact xup_o (by omega) (xup_o (by omega) (by assumption)) | exact xup_o (by omega) (xup_o (by omega) (xup_s _ _ _)) | exact xup_o (by omega) (xup_o (by omega) (xup_o (by omega) (by assumption)))) (by rfl) ?_
        first | refine xn_iadd (pc := 21) hX d_Mod_pattern_21 ?_ | refine xg_iadd (pc := 21) hX d_Mod_pattern_21 ?_
        refine xp_aload_0 (pc := 22) hX d_Mod_pattern_22 ?_
        refine xg_get (pc := 23) hX (j := 20) k_Mod d_Mod_pattern_23 l_Mod_173 (by decide) (by first | assumption | exact xup_s _ _ _ | exact xup_o (by omega) (by assumption) | exact xup_o (by omega) (xup_s _ _ _) | exact xup_o (by omega) (xup_o (by omega) (by assumption)) | exact xup_o (by omega) (xup_o (by omega) (xup_s _ _ _)) | exact xup_o (by omega) (xup_o (by omega) (xup_o (by omega) (by assumption)))) (by rfl) ?_
        refine xg_iconst (pc := 26) hX (nI 1) d_Mod_pattern_26 ci_iconst_1 ?_
        first | refine xn_iadd (pc := 27) hX d_Mod_pattern_27 ?_ | refine xg_iadd (pc := 27) hX d_Mod_pattern_27 ?_
        refine xn_icmp_gt (pc := 28) hX 94 d_Mod_pattern_28 (by decide) (by omega) (by omega) (fun z1 => ?_) (fun z1 => ?_)
        · refine xg_iconst (pc := 94) hX (nI 0) d_Mod_pattern_94 ci_iconst_0 ?_
          refine xg_iret (pc := 95) hX hE d_Mod_pattern_95 rfl rfl (by omega) (by omega) ?_
          refine ⟨rfl, _, rfl, ?_, rfl⟩
          unfold patA
          rw [if_neg (by omega), none_of (fun j a1 a2 => hn j a1 (by omega) a2)]
          rfl
        · have hdl : (sub.drop (i - 1)).length = sub.length - (i - 1) := List.length_drop
          have k82 : ∀ (b : Bool) (v4 : Option Value), fd.isPrefixOf (sub.drop (i - 1)) = b → xG K 82 [some (.ref O), some (.int (nI a)), some (.int (nI i)), some (.int (bI b)), v4] [] M sz 0 0 := by
            intro b v4 hb
            refine xp_iload_3 (pc := 82) hX d_Mod_pattern_82 ?_
            refine xg_if_eq (pc := 83) hX 88 d_Mod_pattern_83 (by decide) (fun z2 => ?_) (fun z2 => ?_)
            · have z2 := bI_eq0.mp z2
              refine xp_inc_2 (pc := 88) hX d_Mod_pattern_88 (by decide) ?_
              refine xg_goto (pc := 91) hX 16 d_Mod_pattern_91 (by decide) ?_
              refine ih (i + 1) _ _ (by omega) (by omega) (fun j a1 a2 a3 => ?_)
              rcases Nat.lt_or_ge j i with c | c
              · exact hn j a1 c a3
              · rw [show j = i by omega, hb, z2]
            · have z2 := bI_ne0.mp z2
              refine xp_iload_2 (pc := 86) hX d_Mod_pattern_86 ?_
              refine xg_iret (pc := 87) hX hE d_Mod_pattern_87 rfl rfl (by omega) (by omega) ?_
              refine ⟨rfl, _, rfl, ?_, rfl⟩
              have : fnd sub fd a = some i := List.find?_range_eq_some.mpr ⟨by simp [hf, z1]; exact List.isPrefixOf_iff_prefix.mp (by rw [hb, z2]), List.mem_range.mpr (by omega), fun j hj => by
                by_cases a1 : a ≤ j
                · by_cases a2 : j + fd.length ≤ sub.length + 1
                  · simp only [hn j a1 (by omega) a2]; simp
                  · simp [a2]
                · simp [a1]⟩
              unfold patA
              rw [if_neg (by omega), this]
              rfl
          have inner : ∀ (r k : Nat), fd.length - k = r → k ≤ fd.length → fd.take k <+: sub.drop (i - 1) → xG K 36 [some (.ref O), some (.int (nI a)), some (.int (nI i)), some (.int (nI 1)), some (.int (nI k))] [] M sz 0 0 := by
            intro r
            induction r with
            | zero =>
              intro k hr hk hp
              rw [List.take_of_length_le (by omega)] at hp
              refine xp_iload_4 (pc := 36) hX d_Mod_pattern_36 ?_
              refine xp_aload_0 (pc := 38) hX d_Mod_pattern_38 ?_
              refine xg_get (pc := 39) hX (j := 21) k_Mod d_Mod_pattern_39 l_Mod_176 (by decide) (by first | assumption | exact xup_s _ _ _ | exact xup_o (by omega) (by assumption) | exact xup_o (by omega) (xup_s _ _ _) | exact xup_o (by omega) (xup_o (by omega) (by assumption)) | exact xup_o (by omega) (xup_o (by omega) (xup_s _ _ _)) | exact xup_o (by omega) (xup_o (by omega) (xup_o (by omega) (by assumption)))) (by rfl) ?_
              exact xn_icmp_ge (pc := 42) hX 82 d_Mod_pattern_42 (by decide) (by omega) (by omega) (fun _ => k82 true _ (List.isPrefixOf_iff_prefix.mpr hp)) (fun z => absurd z (by omega))
            | succ r ihr =>
              intro k hr hk hp
              have hk1 : k < fd.length := by omega
              have hk2 : k < (sub.drop (i - 1)).length := by omega
              have hk3 : i - 1 + k < sub.length := by omega
              have hdk : (sub.drop (i - 1))[k] = sub[i - 1 + k] := List.getElem_drop
              have b1 := by_lt fd[k]
              have b2 := by_lt sub[i - 1 + k]
              refine xp_iload_4 (pc := 36) hX d_Mod_pattern_36 ?_
              refine xp_aload_0 (pc := 38) hX d_Mod_pattern_38 ?_
              refine xg_get (pc := 39) hX (j := 21) k_Mod d_Mod_pattern_39 l_Mod_176 (by decide) (by first | assumption | exact xup_s _ _ _ | exact xup_o (by omega) (by assumption) | exact xup_o (by omega) (xup_s _ _ _) | exact xup_o (by omega) (xup_o (by omega) (by assumption)) | exact xup_o (by omega) (xup_o (by omega) (xup_s _ _ _)) | exact xup_o (by omega) (xup_o (by omega) (xup_o (by omega) (by assumption)))) (by rfl) ?_
              refine xn_icmp_ge (pc := 42) hX 82 d_Mod_pattern_42 (by decide) (by omega) (by omega) (fun z => absurd z (by omega)) (fun _ => ?_)
              refine xp_iload_3 (pc := 45) hX d_Mod_pattern_45 ?_
              refine xn_if_eq (a := 1) (pc := 46) hX 82 d_Mod_pattern_46 (by decide) (by decide) (fun z => absurd z (by decide)) (fun _ => ?_)
              refine xp_aload_0 (pc := 49) hX d_Mod_pattern_49 ?_
              refine xg_get (pc := 50) hX (j := 18) k_Mod d_Mod_pattern_50 l_Mod_46 (by decide) (by first | assumption | exact xup_s _ _ _ | exact xup_o (by omega) (by assumption) | exact xup_o (by omega) (xup_s _ _ _) | exact xup_o (by omega) (xup_o (by omega) (by assumption)) | exact xup_o (by omega) (xup_o (by omega) (xup_s _ _ _)) | exact xup_o (by omega) (xup_o (by omega) (xup_o (by omega) (by assumption)))) (by rfl) ?_
              refine xp_iload_2 (pc := 53) hX d_Mod_pattern_53 ?_
              refine xg_iconst (pc := 54) hX (nI 1) d_Mod_pattern_54 ci_iconst_1 ?_
              first | refine xn_isub (pc := 55) hX d_Mod_pattern_55 (by omega) ?_ | refine xg_isub (pc := 55) hX d_Mod_pattern_55 ?_
              refine xp_iload_4 (pc := 56) hX d_Mod_pattern_56 ?_
              first | refine xn_iadd (pc := 58) hX d_Mod_pattern_58 ?_ | refine xg_iadd (pc := 58) hX d_Mod_pattern_58 ?_
              refine xn_iald (pc := 59) hX d_Mod_pattern_59 rfl (by first | assumption | exact xup_s _ _ _ | exact xup_o (by omega) (by assumption) | exact xup_o (by omega) (xup_s _ _ _) | exact xup_o (by omega) (xup_o (by omega) (by assumption)) | exact xup_o (by omega) (xup_o (by omega) (xup_s _ _ _)) | exact xup_o (by omega) (xup_o (by omega) (xup_o (by omega) (by assumption)))) (by omega) (by omega) ?_
              refine xp_aload_0 (pc := 60) hX d_Mod_pattern_60 ?_
              refine xg_get (pc := 61) hX (j := 19) k_Mod d_Mod_pattern_61 l_Mod_49 (by decide) (by first | assumption | exact xup_s _ _ _ | exact xup_o (by omega) (by assumption) | exact xup_o (by omega) (xup_s _ _ _) | exact xup_o (by omega) (xup_o (by omega) (by assumption)) | exact xup_o (by omega) (xup_o (by omega) (xup_s _ _ _)) | exact xup_o (by omega) (xup_o (by omega) (xup_o (by omega) (by assumption)))) (by rfl) ?_
              refine xp_iload_4 (pc := 64) hX d_Mod_pattern_64 ?_
              refine xn_iald (pc := 66) hX d_Mod_pattern_66 rfl (by first | assumption | exact xup_s _ _ _ | exact xup_o (by omega) (by assumption) | exact xup_o (by omega) (xup_s _ _ _) | exact xup_o (by omega) (xup_o (by omega) (by assumption)) | exact xup_o (by omega) (xup_o (by omega) (xup_s _ _ _)) | exact xup_o (by omega) (xup_o (by omega) (xup_o (by omega) (by assumption)))) (by omega) (by omega) ?_
              rw [hsb (i - 1 + k) sub[i - 1 + k] (List.getElem?_eq_getElem hk3), hfb k fd[k] (List.getElem?_eq_getElem hk1)]
              refine xn_icmp_ne (pc := 67) hX 74 d_Mod_pattern_67 (by decide) (by omega) (by omega) (fun z2 => ?_) (fun z2 => ?_)
              · have hno : fd.isPrefixOf (sub.drop (i - 1)) = false := by
                  rw [Bool.eq_false_iff]
                  intro q
                  have := pre_ne hk1 hk2 (List.isPrefixOf_iff_prefix.mp q)
                  rw [hdk] at this
                  exact z2 (by rw [this])
                refine xg_iconst (pc := 74) hX (nI 0) d_Mod_pattern_74 ci_iconst_0 ?_
                refine xp_istore_3 (pc := 75) hX d_Mod_pattern_75 (by decide) ?_
                refine xp_inc_4 (pc := 76) hX d_Mod_pattern_76 (by decide) ?_
                refine xg_goto (pc := 79) hX 36 d_Mod_pattern_79 (by decide) ?_
                refine xp_iload_4 (pc := 36) hX d_Mod_pattern_36 ?_
                refine xp_aload_0 (pc := 38) hX d_Mod_pattern_38 ?_
                refine xg_get (pc := 39) hX (j := 21) k_Mod d_Mod_pattern_39 l_Mod_176 (by decide) (by first | assumption | exact xup_s _ _ _ | exact xup_o (by omega) (by assumption) | exact xup_o (by omega) (xup_s _ _ _) | exact xup_o (by omega) (xup_o (by omega) (by assumption)) | exact xup_o (by omega) (xup_o (by omega) (xup_s _ _ _)) | exact xup_o (by omega) (xup_o (by omega) (xup_o (by omega) (by assumption)))) (by rfl) ?_
                refine xn_icmp_ge (pc := 42) hX 82 d_Mod_pattern_42 (by decide) (by omega) (by omega) (fun _ => k82 false _ hno) (fun _ => ?_)
                refine xp_iload_3 (pc := 45) hX d_Mod_pattern_45 ?_
                exact xn_if_eq (a := 0) (pc := 46) hX 82 d_Mod_pattern_46 (by decide) (by decide) (fun _ => k82 false _ hno) (fun z => absurd z (by decide))
              · refine xg_iconst (pc := 70) hX (nI 1) d_Mod_pattern_70 ci_iconst_1 ?_
                refine xg_goto (pc := 71) hX 75 d_Mod_pattern_71 (by decide) ?_
                refine xp_istore_3 (pc := 75) hX d_Mod_pattern_75 (by decide) ?_
                refine xp_inc_4 (pc := 76) hX d_Mod_pattern_76 (by decide) ?_
                refine xg_goto (pc := 79) hX 36 d_Mod_pattern_79 (by decide) ?_
                exact ihr (k + 1) (by omega) (by omega) (pre_step hk1 hk2 hp (by rw [hdk]; exact UInt8.toNat_inj.mp z2))
          refine xg_iconst (pc := 31) hX (nI 1) d_Mod_pattern_31 ci_iconst_1 ?_
          refine xp_istore_3 (pc := 32) hX d_Mod_pattern_32 (by decide) ?_
          refine xg_iconst (pc := 33) hX (nI 0) d_Mod_pattern_33 ci_iconst_0 ?_
          refine xp_istore_4 (pc := 34) hX d_Mod_pattern_34 (by decide) ?_
          exact inner fd.length 0 (by omega) (by omega) (by simp)
    refine xp_iload_1 (pc := 14) hX d_Mod_pattern_14 ?_
    refine xp_istore_2 (pc := 15) hX d_Mod_pattern_15 (by decide) ?_
    exact loop (sub.length + 2 - a) a _ _ (by omega) (Nat.le_refl _) (fun j a1 a2 => absurd a2 (by omega))
  · refine xp_aload_0 (pc := 7) hX d_Mod_pattern_7 ?_
    refine xg_get (pc := 8) hX (j := 20) k_Mod d_Mod_pattern_8 l_Mod_173 (by decide) (by first | assumption | exact xup_s _ _ _ | exact xup_o (by omega) (by assumption) | exact xup_o (by omega) (xup_s _ _ _) | exact xup_o (by omega) (xup_o (by omega) (by assumption)) | exact xup_o (by omega) (xup_o (by omega) (xup_s _ _ _)) | exact xup_o (by omega) (xup_o (by omega) (xup_o (by omega) (by assumption)))) (by rfl) ?_
    refine xg_iconst (pc := 11) hX (nI 1) d_Mod_pattern_11 ci_iconst_1 ?_
    first | refine xn_iadd (pc := 12) hX d_Mod_pattern_12 ?_ | refine xg_iadd (pc := 12) hX d_Mod_pattern_12 ?_
    refine xg_iret (pc := 13) hX hE d_Mod_pattern_13 rfl rfl (by omega) (by omega) ?_
    refine ⟨rfl, _, rfl, ?_, rfl⟩
    unfold patA
    rw [if_pos z]
set_option maxHeartbeats 8000000 in
set_option maxRecDepth 100000 in
theorem c_Mod_look (d : Nat) {M : xH} {sz O : Nat} (h : Wd M O t x out full es pool se sub fd fr bg wr nx kd fi la va) (hso : SeO se) (hgI : gI es) (hl : full.length ≤ 200) : xC (d + 3) 0 0 Y_Mod_look [.ref O] M sz (qv sz (fun M' => Wd M' O t x out full es pool se sub (tellT es se pool full) fr bg wr nx kd fi la va ∧ FrO M M' O)) := by
  refine xC_of (by decide) (Nat.le_of_ble_eq_true rfl) (by simp [Value.category]) (vs := [some (.ref O), none, none]) rfl (fun K hX hE => ?_)
  obtain ⟨h0, -, -, -, ⟨h4l, g, h4a, h4b⟩, ⟨h5l, fn, fz, fv, fvz, fp, h5, h6, h7, h8, h9, h10⟩, -, -, ⟨hfl, gf, hfa, hfb⟩, -⟩ := id h
  have hT : tellT es se pool full = (match tellI es se pool full with | none => full | some i => (match es[i]? with | none => full | some e => e.2.2.getD full)) := rfl
  refine xp_aload_0 (pc := 0) hX d_Mod_look_0 ?_
  refine xi_V (Y2 := Y_Mod_tells) (pc := 1) hX [] k_Mod m_Mod_tells d_Mod_look_1 l_Mod_128 rfl rfl (by simp [Value.category]) (by first | assumption | exact xup_s _ _ _ | exact xup_o (by omega) (by assumption) | exact xup_o (by omega) (xup_s _ _ _) | exact xup_o (by omega) (xup_o (by omega) (by assumption)) | exact xup_o (by omega) (xup_o (by omega) (xup_s _ _ _)) | exact xup_o (by omega) (xup_o (by omega) (xup_o (by omega) (by assumption)))) (c_Mod_tells d h hso hgI) (by omega) (by omega) ?_
  rintro y M1 ⟨rfl, rfl⟩
  -- copying T, where the source says its bytes
  have cpy : ∀ (vo : Option Nat) (T : List UInt8), T.length ≤ 200 → (match vo with | none => T = full | some i => i < es.length ∧ ∀ (j : Nat) (b : UInt8), T[j]? = some b → fv (200 * i + j) = nI b.toNat) → tellT es se pool full = T → ∀ (r i : Nat) (M2 : xH) (gf2 : Nat → Int32), T.length - i = r → i ≤ T.length → M2 O = some (moC O t x out full es pool se sub T fr bg wr nx kd fi la va) → M2 (O + 4) = some (.inl (1, 201, .inl g)) → M2 (O + 7) = some (.inl (1, 20200, .inl fv)) → M2 (O + 14) = some (.inl (1, 200, .inl gf2)) → (∀ (j : Nat) (b : UInt8), j < i → T[j]? = some b → gf2 j = nI b.toNat) → (∀ q, q ≠ O → q ≠ O + 14 → M2 q = M1 q) → xG K 29 [some (.ref O), some (.int (wI vo)), some (.int (nI i))] [] M2 sz 0 0 := by
    intro vo T hTl hvo hTe r
    induction r with
    | zero =>
      intro i M2 gf2 hr hi ho h4 h7 h14 hb hq
      refine xp_iload_2 (pc := 29) hX d_Mod_look_29 ?_
      refine xp_aload_0 (pc := 30) hX d_Mod_look_30 ?_
      refine xg_get (pc := 31) hX (j := 21) k_Mod d_Mod_look_31 l_Mod_176 (by decide) (by first | assumption | exact xup_s _ _ _ | exact xup_o (by omega) (by assumption) | exact xup_o (by omega) (xup_s _ _ _) | exact xup_o (by omega) (xup_o (by omega) (by assumption)) | exact xup_o (by omega) (xup_o (by omega) (xup_s _ _ _)) | exact xup_o (by omega) (xup_o (by omega) (xup_o (by omega) (by assumption)))) (by rfl) ?_
      refine xn_icmp_ge (pc := 34) hX 75 d_Mod_look_34 (by decide) (by omega) (by omega) (fun _ => ?_) (fun z => absurd z (by omega))
      refine xg_vret (pc := 75) hX hE d_Mod_look_75 rfl (by omega) (by omega) ?_
      rw [hTe]
      exact ⟨rfl, rfl, h.sd ho ⟨hTl, gf2, h14, fun j b hj => hb j b (by have := (List.getElem?_eq_some_iff.mp hj).1; omega) hj⟩ hq, fun q hq1 => hq q (by omega) (by omega)⟩
    | succ r ih =>
      intro i M2 gf2 hr hi ho h4 h7 h14 hb hq
      have hi1 : i < T.length := by omega
      have hTi : T[i]? = some T[i] := List.getElem?_eq_getElem hi1
      have k68 : ∀ (y : Int32), y = nI T[i].toNat → xG K 68 [some (.ref O), some (.int (wI vo)), some (.int (nI i))] [.int y, .int (nI i), .ref (O + 14)] M2 sz 0 0 := by
        rintro y rfl
        refine xn_iast (pc := 68) hX d_Mod_look_68 rfl (by first | assumption | exact xup_s _ _ _ | exact xup_o (by omega) (by assumption) | exact xup_o (by omega) (xup_s _ _ _) | exact xup_o (by omega) (xup_o (by omega) (by assumption)) | exact xup_o (by omega) (xup_o (by omega) (xup_s _ _ _)) | exact xup_o (by omega) (xup_o (by omega) (xup_o (by omega) (by assumption)))) (by omega) (by omega) ?_
        refine xp_inc_2 (pc := 69) hX d_Mod_look_69 (by decide) ?_
        refine xg_goto (pc := 72) hX 29 d_Mod_look_72 (by decide) ?_
        refine ih (i + 1) _ _ (by omega) (by omega) ?_ ?_ ?_ (xup_s _ _ _) (fun j c hj hc => ?_) (fun q a b => ?_)
        · rw [xup_n _ _ (by omega)]; exact ho
        · rw [xup_n _ _ (by omega)]; exact h4
        · rw [xup_n _ _ (by omega)]; exact h7
        · by_cases e : j = i
          · subst e
            rw [pk_us]
            rw [hTi] at hc
            rw [Option.some.inj hc]
          · rw [pk_un e]
            exact hb j c (by omega) hc
        · rw [xup_n _ _ b]; exact hq q a b
      refine xp_iload_2 (pc := 29) hX d_Mod_look_29 ?_
      refine xp_aload_0 (pc := 30) hX d_Mod_look_30 ?_
      refine xg_get (pc := 31) hX (j := 21) k_Mod d_Mod_look_31 l_Mod_176 (by decide) (by first | assumption | exact xup_s _ _ _ | exact xup_o (by omega) (by assumption) | exact xup_o (by omega) (xup_s _ _ _) | exact xup_o (by omega) (xup_o (by omega) (by assumption)) | exact xup_o (by omega) (xup_o (by omega) (xup_s _ _ _)) | exact xup_o (by omega) (xup_o (by omega) (xup_o (by omega) (by assumption)))) (by rfl) ?_
      refine xn_icmp_ge (pc := 34) hX 75 d_Mod_look_34 (by decide) (by omega) (by omega) (fun z => absurd z (by omega)) (fun _ => ?_)
      refine xp_aload_0 (pc := 37) hX d_Mod_look_37 ?_
      refine xg_get (pc := 38) hX (j := 19) k_Mod d_Mod_look_38 l_Mod_49 (by decide) (by first | assumption | exact xup_s _ _ _ | exact xup_o (by omega) (by assumption) | exact xup_o (by omega) (xup_s _ _ _) | exact xup_o (by omega) (xup_o (by omega) (by assumption)) | exact xup_o (by omega) (xup_o (by omega) (xup_s _ _ _)) | exact xup_o (by omega) (xup_o (by omega) (xup_o (by omega) (by assumption)))) (by rfl) ?_
      refine xp_iload_2 (pc := 41) hX d_Mod_look_41 ?_
      refine xp_iload_1 (pc := 42) hX d_Mod_look_42 ?_
      refine xg_iconst (pc := 43) hX (-1) d_Mod_look_43 ci_iconst_m1 ?_
      cases vo with
      | none =>
        have hvo : T = full := hvo
        refine xg_icmp_ne (pc := 44) hX 56 d_Mod_look_44 (by decide) (fun z => absurd rfl z) (fun _ => ?_)
        refine xp_aload_0 (pc := 47) hX d_Mod_look_47 ?_
        refine xg_get (pc := 48) hX (j := 3) k_Mod d_Mod_look_48 l_Mod_19 (by decide) (by first | assumption | exact xup_s _ _ _ | exact xup_o (by omega) (by assumption) | exact xup_o (by omega) (xup_s _ _ _) | exact xup_o (by omega) (xup_o (by omega) (by assumption)) | exact xup_o (by omega) (xup_o (by omega) (xup_s _ _ _)) | exact xup_o (by omega) (xup_o (by omega) (xup_o (by omega) (by assumption)))) (by rfl) ?_
        refine xp_iload_2 (pc := 51) hX d_Mod_look_51 ?_
        refine xn_iald (pc := 52) hX d_Mod_look_52 rfl (by first | assumption | exact xup_s _ _ _ | exact xup_o (by omega) (by assumption) | exact xup_o (by omega) (xup_s _ _ _) | exact xup_o (by omega) (xup_o (by omega) (by assumption)) | exact xup_o (by omega) (xup_o (by omega) (xup_s _ _ _)) | exact xup_o (by omega) (xup_o (by omega) (xup_o (by omega) (by assumption)))) (by omega) (by omega) ?_
        refine xg_goto (pc := 53) hX 68 d_Mod_look_53 (by decide) ?_
        exact k68 _ (h4b i _ (by rw [← hvo]; exact hTi))
      | some i0 =>
        obtain ⟨v1, v2⟩ := hvo
        refine xg_icmp_ne (pc := 44) hX 56 d_Mod_look_44 (by decide) (fun _ => ?_) (fun z => absurd z (nI_nm1 (by omega)))
        refine xp_aload_0 (pc := 56) hX d_Mod_look_56 ?_
        refine xg_get (pc := 57) hX (j := 10) k_Mod d_Mod_look_57 l_Mod_28 (by decide) (by first | assumption | exact xup_s _ _ _ | exact xup_o (by omega) (by assumption) | exact xup_o (by omega) (xup_s _ _ _) | exact xup_o (by omega) (xup_o (by omega) (by assumption)) | exact xup_o (by omega) (xup_o (by omega) (xup_s _ _ _)) | exact xup_o (by omega) (xup_o (by omega) (xup_o (by omega) (by assumption)))) (by rfl) ?_
        refine xg_sipush (pc := 60) hX (nI 200) d_Mod_look_60 ci_sipush_200 ?_
        refine xp_iload_1 (x := nI i0) (pc := 63) hX d_Mod_look_63 ?_
        first | refine xn_imul (pc := 64) hX d_Mod_look_64 ?_ | refine xg_imul (pc := 64) hX d_Mod_look_64 ?_
        refine xp_iload_2 (pc := 65) hX d_Mod_look_65 ?_
        first | refine xn_iadd (pc := 66) hX d_Mod_look_66 ?_ | refine xg_iadd (pc := 66) hX d_Mod_look_66 ?_
        refine xn_iald (pc := 67) hX d_Mod_look_67 rfl (by first | assumption | exact xup_s _ _ _ | exact xup_o (by omega) (by assumption) | exact xup_o (by omega) (xup_s _ _ _) | exact xup_o (by omega) (xup_o (by omega) (by assumption)) | exact xup_o (by omega) (xup_o (by omega) (xup_s _ _ _)) | exact xup_o (by omega) (xup_o (by omega) (xup_o (by omega) (by assumption)))) (by omega) (by omega) ?_
        exact k68 _ (v2 i _ hTi)
  have fin : ∀ (vo : Option Nat) (T : List UInt8), T.length ≤ 200 → (match vo with | none => T = full | some i => i < es.length ∧ ∀ (j : Nat) (b : UInt8), T[j]? = some b → fv (200 * i + j) = nI b.toNat) → tellT es se pool full = T → ∀ (v2 : Option Value), xG K 24 [some (.ref O), some (.int (wI vo)), v2] [.int (nI T.length), .ref O] M1 sz 0 0 := by
    intro vo T hTl hvo hTe v2
    refine xg_put (pc := 24) hX (j := 21) k_Mod d_Mod_look_24 l_Mod_176 (by decide) rfl (by first | assumption | exact xup_s _ _ _ | exact xup_o (by omega) (by assumption) | exact xup_o (by omega) (xup_s _ _ _) | exact xup_o (by omega) (xup_o (by omega) (by assumption)) | exact xup_o (by omega) (xup_o (by omega) (xup_s _ _ _)) | exact xup_o (by omega) (xup_o (by omega) (xup_o (by omega) (by assumption)))) (Nat.le_of_ble_eq_true rfl) rfl rfl (by simp only [List.set_cons_zero, List.set_cons_succ]; exact rfl) ?_
    refine xg_iconst (pc := 27) hX (nI 0) d_Mod_look_27 ci_iconst_0 ?_
    refine xp_istore_2 (pc := 28) hX d_Mod_look_28 (by decide) ?_
    refine cpy vo T hTl hvo hTe _ 0 _ gf rfl (by omega) (xup_s _ _ _) ?_ ?_ ?_ (fun j b hj => absurd hj (by omega)) (fun q a _ => xup_n _ _ a)
    · rw [xup_n _ _ (by omega)]; exact h4a
    · rw [xup_n _ _ (by omega)]; exact h7
    · rw [xup_n _ _ (by omega)]; exact hfa
  refine xp_istore_1 (pc := 4) hX d_Mod_look_4 (by decide) ?_
  refine xp_aload_0 (pc := 5) hX d_Mod_look_5 ?_
  refine xp_iload_1 (pc := 6) hX d_Mod_look_6 ?_
  refine xg_iconst (pc := 7) hX (-1) d_Mod_look_7 ci_iconst_m1 ?_
  cases hi : tellI es se pool full with
  | none =>
    rw [hi] at hT
    refine xg_icmp_ne (pc := 8) hX 18 d_Mod_look_8 (by decide) (fun z => absurd rfl z) (fun _ => ?_)
    refine xp_aload_0 (pc := 11) hX d_Mod_look_11 ?_
    refine xg_get (pc := 12) hX (j := 7) k_Mod d_Mod_look_12 l_Mod_95 (by decide) (by first | assumption | exact xup_s _ _ _ | exact xup_o (by omega) (by assumption) | exact xup_o (by omega) (xup_s _ _ _) | exact xup_o (by omega) (xup_o (by omega) (by assumption)) | exact xup_o (by omega) (xup_o (by omega) (xup_s _ _ _)) | exact xup_o (by omega) (xup_o (by omega) (xup_o (by omega) (by assumption)))) (by rfl) ?_
    refine xg_goto (pc := 15) hX 24 d_Mod_look_15 (by decide) ?_
    exact fin none full hl rfl hT _
  | some i =>
    obtain ⟨⟨p, nm2, vo⟩, u, q1, q2⟩ := tellI_some hgI hi
    dsimp only at q2
    subst q2
    have hil := (List.getElem?_eq_some_iff.mp q1).1
    rw [hi] at hT
    dsimp only at hT
    rw [q1] at hT
    have hT : tellT es se pool full = u := hT
    obtain ⟨v1, v2⟩ := (h10 i _ q1).2 trivial
    dsimp only at v1
    obtain ⟨v3, v4⟩ := v2 u rfl
    refine xg_icmp_ne (pc := 8) hX 18 d_Mod_look_8 (by decide) (fun _ => ?_) (fun z => absurd z (nI_nm1 (by omega)))
    refine xp_aload_0 (pc := 18) hX d_Mod_look_18 ?_
    refine xg_get (pc := 19) hX (j := 11) k_Mod d_Mod_look_19 l_Mod_31 (by decide) (by first | assumption | exact xup_s _ _ _ | exact xup_o (by omega) (by assumption) | exact xup_o (by omega) (xup_s _ _ _) | exact xup_o (by omega) (xup_o (by omega) (by assumption)) | exact xup_o (by omega) (xup_o (by omega) (xup_s _ _ _)) | exact xup_o (by omega) (xup_o (by omega) (xup_o (by omega) (by assumption)))) (by rfl) ?_
    refine xp_iload_1 (x := nI i) (pc := 22) hX d_Mod_look_22 ?_
    refine xn_iald (pc := 23) hX d_Mod_look_23 rfl (by first | assumption | exact xup_s _ _ _ | exact xup_o (by omega) (by assumption) | exact xup_o (by omega) (xup_s _ _ _) | exact xup_o (by omega) (xup_o (by omega) (by assumption)) | exact xup_o (by omega) (xup_o (by omega) (xup_s _ _ _)) | exact xup_o (by omega) (xup_o (by omega) (xup_o (by omega) (by assumption)))) (by omega) (by omega) ?_
    rw [v1]
    exact fin (some i) u v3 ⟨hil, v4⟩ hT _
end XM18
