/-! NameRoom$Reader: strings, brackets, tokens -/
/-- reading a STRING: q its quote, s the place of the first one, i the next byte, held so many bytes -/
def rdS (t : List UInt8) (q : UInt8) (s : Nat) : Nat → Nat → Nat → Nat × Bool
  | 0, _, _ => (s, false)
  | n + 1, i, held => match t[i]? with
    | none => (s, false)
    | some b => if (b == q && !(t[i + 1]? == some q)) = true then (i, true) else if held = 40 then (i, false) else rdS t q s n (if b == q then i + 2 else i + 1) (held + 1)
theorem rdS_end {t : List UInt8} {q : UInt8} {s n i held : Nat} (h : t.length ≤ i) : rdS t q s n i held = (s, false) := by
  cases n with
  | zero => rfl
  | succ n => unfold rdS; rw [List.getElem?_eq_none h]
set_option maxHeartbeats 4000000 in
set_option maxRecDepth 100000 in
theorem c_Rea_readString (d : Nat) {M : xH} {sz h tg pos : Nat} {t : List UInt8} {tk : List xTk} {q : UInt8} (hs : ReA M h t tk tg pos none) (hp : pos < t.length) (htk : tk.length < 600) : xC (d + 1) 0 0 Y_Rea_readString [.ref h, .int (nI q.toNat)] M sz (qv sz (fun M' => (((rdS t q pos (t.length - pos) (pos + 1) 0).2 = true ∧ ReA M' h t (tk ++ [(3, pos + 1, (rdS t q pos (t.length - pos) (pos + 1) 0).1)]) tg ((rdS t q pos (t.length - pos) (pos + 1) 0).1 + 1) none) ∨ ((rdS t q pos (t.length - pos) (pos + 1) 0).2 = false ∧ ∃ pos', ReA M' h t tk tg pos' (some (rdS t q pos (t.length - pos) (pos + 1) 0).1))) ∧ FrA M M' h)) := by
  refine xC_of (by decide) (Nat.le_of_ble_eq_true rfl) (by simp [Value.category]) (vs := [some (.ref h), some (.int (nI q.toNat)), none, none, none, none]) rfl (fun K hX hE => ?_)
  have hl : t.length ≤ 600 := hs.2.1.2.1
  have ht4 := hs.2.2.2.1
  obtain ⟨h1, h2, -⟩ := id hs
  obtain ⟨r1, -⟩ := id h2
  generalize hR : rdS t q pos (t.length - pos) (pos + 1) 0 = R at *
  have loop : ∀ (n i held : Nat), t.length < i + n → pos < i → held ≤ 40 → R = rdS t q pos n i held → i ≤ t.length + 1 → xG K 12 [some (.ref h), some (.int (nI q.toNat)), some (.int (nI (pos + 1))), some (.int (nI held)), some (.int (nI i)), none] [] M sz 0 0 := by
    intro n
    induction n with
    | zero =>
      intro i held hn hpi hh hr hi
      refine xp_iload_4 (pc := 12) hX d_Rea_readString_12 ?_
      refine xp_aload_0 (pc := 14) hX d_Rea_readString_14 ?_
      refine xg_get (pc := 15) hX (j := 0) k_Rea d_Rea_readString_15 l_Rea_14 (by decide) (by first | assumption | exact xup_s _ _ _ | exact xup_o (by omega) (by assumption) | exact xup_o (by omega) (xup_s _ _ _) | exact xup_o (by omega) (xup_o (by omega) (by assumption)) | exact xup_o (by omega) (xup_o (by omega) (xup_s _ _ _)) | exact xup_o (by omega) (xup_o (by omega) (xup_o (by omega) (by assumption)))) (by rfl) ?_
      refine xg_get (pc := 18) hX (j := 1) k_Row d_Rea_readString_18 l_Rea_68 (by decide) (by first | assumption | exact xup_s _ _ _ | exact xup_o (by omega) (by assumption) | exact xup_o (by omega) (xup_s _ _ _) | exact xup_o (by omega) (xup_o (by omega) (by assumption)) | exact xup_o (by omega) (xup_o (by omega) (xup_s _ _ _)) | exact xup_o (by omega) (xup_o (by omega) (xup_o (by omega) (by assumption)))) (by rfl) ?_
      refine xn_icmp_ge (pc := 21) hX 111 d_Rea_readString_21 (by decide) (by omega) (by omega) (fun _ => ?_) (fun z => absurd z (by omega))
      refine xp_aload_0 (pc := 111) hX d_Rea_readString_111 ?_
      refine xp_aload_0 (pc := 112) hX d_Rea_readString_112 ?_
      refine xg_get (pc := 113) hX (j := 6) k_Rea d_Rea_readString_113 l_Rea_37 (by decide) (by first | assumption | exact xup_s _ _ _ | exact xup_o (by omega) (by assumption) | exact xup_o (by omega) (xup_s _ _ _) | exact xup_o (by omega) (xup_o (by omega) (by assumption)) | exact xup_o (by omega) (xup_o (by omega) (xup_s _ _ _)) | exact xup_o (by omega) (xup_o (by omega) (xup_o (by omega) (by assumption)))) (by rfl) ?_
      refine xv_V (Y2 := Y_Rea_fail) (pc := 116) hX [_] k_Rea m_Rea_fail d_Rea_readString_116 l_Rea_71 rfl rfl (by simp [Value.category]) (by first | assumption | exact xup_s _ _ _ | exact xup_o (by omega) (by assumption) | exact xup_o (by omega) (xup_s _ _ _) | exact xup_o (by omega) (xup_o (by omega) (by assumption)) | exact xup_o (by omega) (xup_o (by omega) (xup_s _ _ _)) | exact xup_o (by omega) (xup_o (by omega) (xup_o (by omega) (by assumption)))) (c_Rea_fail d (p := pos) hs) (by omega) (by omega) ?_
      rintro M4 ⟨a1, a2⟩
      refine xg_vret (pc := 119) hX hE d_Rea_readString_119 rfl (by omega) (by omega) ?_
      rw [rdS_end (by omega)] at hr
      exact ⟨rfl, rfl, Or.inr ⟨by rw [hr], pos, by rw [hr]; exact a1⟩, a2⟩
    | succ n ih =>
      intro i held hn hpi hh hr hi
      rcases Nat.lt_or_ge i t.length with hlt | hge
      · have hb : t[i]? = some t[i] := List.getElem?_eq_getElem hlt
        generalize t[i] = b at hb
        have hr2 : R = if (b == q && !(t[i + 1]? == some q)) = true then (i, true) else if held = 40 then (i, false) else rdS t q pos n (if b == q then i + 2 else i + 1) (held + 1) := by
          rw [hr]
          show (match t[i]? with | none => (pos, false) | some b => if (b == q && !(t[i + 1]? == some q)) = true then (i, true) else if held = 40 then (i, false) else rdS t q pos n (if b == q then i + 2 else i + 1) (held + 1)) = _
          rw [hb]
        have k81 : (b == q && !(t[i + 1]? == some q)) = false → xG K 81 [some (.ref h), some (.int (nI q.toNat)), some (.int (nI (pos + 1))), some (.int (nI held)), some (.int (nI i)), some (.int (bI (b == q)))] [] M sz 0 0 := by
          intro hno
          rw [hno] at hr2
          rw [if_neg (by decide)] at hr2
          refine xp_iload_3 (pc := 81) hX d_Rea_readString_81 ?_
          refine xg_bipush (pc := 82) hX (nI 40) d_Rea_readString_82 ci_bipush_40 ?_
          refine xn_icmp_ne (pc := 84) hX 94 d_Rea_readString_84 (by decide) (by omega) (by omega) (fun w => ?_) (fun w => ?_)
          · rw [if_neg w] at hr2
            refine xp_inc_3 (pc := 94) hX d_Rea_readString_94 (by decide) ?_
            refine xp_iload_5 (pc := 97) hX d_Rea_readString_97 ?_
            refine xg_if_eq (pc := 99) hX 105 d_Rea_readString_99 (by decide) (fun w1 => ?_) (fun w1 => ?_)
            · refine xp_inc_4 (pc := 105) hX d_Rea_readString_105 (by decide) ?_
              refine xg_goto (pc := 108) hX 12 d_Rea_readString_108 (by decide) ?_
              refine xp_drop_5 ?_
              refine ih (i + 1) (held + 1) (by omega) (by omega) (by omega) ?_ (by omega)
              rw [hr2, bI_eq0.mp w1]; rfl
            · refine xp_inc_4 (pc := 102) hX d_Rea_readString_102 (by decide) ?_
              refine xp_inc_4 (pc := 105) hX d_Rea_readString_105 (by decide) ?_
              refine xg_goto (pc := 108) hX 12 d_Rea_readString_108 (by decide) ?_
              refine xp_drop_5 ?_
              refine ih (i + 1 + 1) (held + 1) (by omega) (by omega) (by omega) ?_ ?_
              · rw [hr2, bI_ne0.mp w1]; rfl
              · omega
          · rw [if_pos w] at hr2
            refine xp_aload_0 (pc := 87) hX d_Rea_readString_87 ?_
            refine xp_iload_4 (pc := 88) hX d_Rea_readString_88 ?_
            refine xv_V (Y2 := Y_Rea_fail) (pc := 90) hX [_] k_Rea m_Rea_fail d_Rea_readString_90 l_Rea_71 rfl rfl (by simp [Value.category]) (by first | assumption | exact xup_s _ _ _ | exact xup_o (by omega) (by assumption) | exact xup_o (by omega) (xup_s _ _ _) | exact xup_o (by omega) (xup_o (by omega) (by assumption)) | exact xup_o (by omega) (xup_o (by omega) (xup_s _ _ _)) | exact xup_o (by omega) (xup_o (by omega) (xup_o (by omega) (by assumption)))) (c_Rea_fail d (p := i) hs) (by omega) (by omega) ?_
            rintro M4 ⟨a1, a2⟩
            refine xg_vret (pc := 93) hX hE d_Rea_readString_93 rfl (by omega) (by omega) ?_
            exact ⟨rfl, rfl, Or.inr ⟨by rw [hr2], pos, by rw [hr2]; exact a1⟩, a2⟩
        have k42 : xG K 42 [some (.ref h), some (.int (nI q.toNat)), some (.int (nI (pos + 1))), some (.int (nI held)), some (.int (nI i)), none] [.int (bI (b == q))] M sz 0 0 := by
          refine xp_istore_5 (pc := 42) hX d_Rea_readString_42 (by decide) ?_
          refine xp_iload_5 (pc := 44) hX d_Rea_readString_44 ?_
          refine xg_if_eq (pc := 46) hX 81 d_Rea_readString_46 (by decide) (fun w => ?_) (fun w => ?_)
          · exact k81 (by rw [bI_eq0.mp w]; rfl)
          · have w := bI_ne0.mp w
            refine xp_aload_0 (pc := 49) hX d_Rea_readString_49 ?_
            refine xg_get (pc := 50) hX (j := 0) k_Rea d_Rea_readString_50 l_Rea_14 (by decide) (by first | assumption | exact xup_s _ _ _ | exact xup_o (by omega) (by assumption) | exact xup_o (by omega) (xup_s _ _ _) | exact xup_o (by omega) (xup_o (by omega) (by assumption)) | exact xup_o (by omega) (xup_o (by omega) (xup_s _ _ _)) | exact xup_o (by omega) (xup_o (by omega) (xup_o (by omega) (by assumption)))) (by rfl) ?_
            refine xp_iload_4 (pc := 53) hX d_Rea_readString_53 ?_
            refine xg_iconst (pc := 55) hX (nI 1) d_Rea_readString_55 ci_iconst_1 ?_
            first | refine xn_iadd (pc := 56) hX d_Rea_readString_56 ?_ | refine xg_iadd (pc := 56) hX d_Rea_readString_56 ?_
            refine xi_V (Y2 := Y_Row_at) (pc := 57) hX [_] k_Row m_Row_at d_Rea_readString_57 l_Rea_53 rfl rfl (by simp [Value.category]) (by first | assumption | exact xup_s _ _ _ | exact xup_o (by omega) (by assumption) | exact xup_o (by omega) (xup_s _ _ _) | exact xup_o (by omega) (xup_o (by omega) (by assumption)) | exact xup_o (by omega) (xup_o (by omega) (xup_s _ _ _)) | exact xup_o (by omega) (xup_o (by omega) (xup_o (by omega) (by assumption)))) (c_Row_at d (nI (i + 1)) h2 (by omega)) (by omega) (by omega) ?_
            rintro y M2 ⟨rfl, rfl⟩
            rw [rAt_nI (by omega)]
            refine xp_iload_1 (pc := 60) hX d_Rea_readString_60 ?_
            refine xg_icmp_eq (pc := 61) hX 81 d_Rea_readString_61 (by decide) (fun w1 => ?_) (fun w1 => ?_)
            · have w1 : t[i + 1]? = some q := oI_inj.mp w1
              exact k81 (by rw [w1]; simp)
            · have w1 : ¬ t[i + 1]? = some q := fun z => w1 (by rw [z]; rfl)
              have hyes : (b == q && !(t[i + 1]? == some q)) = true := by rw [w]; simpa using w1
              rw [if_pos hyes] at hr2
              refine xp_aload_0 (pc := 64) hX d_Rea_readString_64 ?_
              refine xg_iconst (pc := 65) hX (nI 3) d_Rea_readString_65 ci_iconst_3 ?_
              refine xp_iload_2 (pc := 66) hX d_Rea_readString_66 ?_
              refine xp_iload_4 (pc := 67) hX d_Rea_readString_67 ?_
              refine xv_V (Y2 := Y_Rea_add) (pc := 69) hX [_, _, _] k_Rea m_Rea_add d_Rea_readString_69 l_Rea_98 rfl rfl (by simp [Value.category]) (by first | assumption | exact xup_s _ _ _ | exact xup_o (by omega) (by assumption) | exact xup_o (by omega) (xup_s _ _ _) | exact xup_o (by omega) (xup_o (by omega) (by assumption)) | exact xup_o (by omega) (xup_o (by omega) (xup_s _ _ _)) | exact xup_o (by omega) (xup_o (by omega) (xup_o (by omega) (by assumption)))) (c_Rea_add d hs htk) (by omega) (by omega) ?_
              rintro M4 ⟨a1, a2⟩
              obtain ⟨h1', -⟩ := id a1
              refine xp_aload_0 (pc := 72) hX d_Rea_readString_72 ?_
              refine xp_iload_4 (pc := 73) hX d_Rea_readString_73 ?_
              refine xg_iconst (pc := 75) hX (nI 1) d_Rea_readString_75 ci_iconst_1 ?_
              first | refine xn_iadd (pc := 76) hX d_Rea_readString_76 ?_ | refine xg_iadd (pc := 76) hX d_Rea_readString_76 ?_
              refine xg_put (pc := 77) hX (j := 6) k_Rea d_Rea_readString_77 l_Rea_37 (by decide) rfl (by first | assumption | exact xup_s _ _ _ | exact xup_o (by omega) (by assumption) | exact xup_o (by omega) (xup_s _ _ _) | exact xup_o (by omega) (xup_o (by omega) (by assumption)) | exact xup_o (by omega) (xup_o (by omega) (xup_s _ _ _)) | exact xup_o (by omega) (xup_o (by omega) (xup_o (by omega) (by assumption)))) (Nat.le_of_ble_eq_true rfl) rfl rfl (by simp only [List.set_cons_zero, List.set_cons_succ]; exact rfl) ?_
              refine xg_vret (pc := 80) hX hE d_Rea_readString_80 rfl (by omega) (by omega) ?_
              exact ⟨rfl, rfl, Or.inl ⟨by rw [hr2], by rw [hr2]; exact a1.put ht4 (by omega)⟩, a2.tr (FrA.up _ _ _)⟩
        refine xp_iload_4 (pc := 12) hX d_Rea_readString_12 ?_
        refine xp_aload_0 (pc := 14) hX d_Rea_readString_14 ?_
        refine xg_get (pc := 15) hX (j := 0) k_Rea d_Rea_readString_15 l_Rea_14 (by decide) (by first | assumption | exact xup_s _ _ _ | exact xup_o (by omega) (by assumption) | exact xup_o (by omega) (xup_s _ _ _) | exact xup_o (by omega) (xup_o (by omega) (by assumption)) | exact xup_o (by omega) (xup_o (by omega) (xup_s _ _ _)) | exact xup_o (by omega) (xup_o (by omega) (xup_o (by omega) (by assumption)))) (by rfl) ?_
        refine xg_get (pc := 18) hX (j := 1) k_Row d_Rea_readString_18 l_Rea_68 (by decide) (by first | assumption | exact xup_s _ _ _ | exact xup_o (by omega) (by assumption) | exact xup_o (by omega) (xup_s _ _ _) | exact xup_o (by omega) (xup_o (by omega) (by assumption)) | exact xup_o (by omega) (xup_o (by omega) (xup_s _ _ _)) | exact xup_o (by omega) (xup_o (by omega) (xup_o (by omega) (by assumption)))) (by rfl) ?_
        refine xn_icmp_ge (pc := 21) hX 111 d_Rea_readString_21 (by decide) (by omega) (by omega) (fun z => absurd z (by omega)) (fun _ => ?_)
        refine xp_aload_0 (pc := 24) hX d_Rea_readString_24 ?_
        refine xg_get (pc := 25) hX (j := 0) k_Rea d_Rea_readString_25 l_Rea_14 (by decide) (by first | assumption | exact xup_s _ _ _ | exact xup_o (by omega) (by assumption) | exact xup_o (by omega) (xup_s _ _ _) | exact xup_o (by omega) (xup_o (by omega) (by assumption)) | exact xup_o (by omega) (xup_o (by omega) (xup_s _ _ _)) | exact xup_o (by omega) (xup_o (by omega) (xup_o (by omega) (by assumption)))) (by rfl) ?_
        refine xp_iload_4 (pc := 28) hX d_Rea_readString_28 ?_
        refine xi_V (Y2 := Y_Row_at) (pc := 30) hX [_] k_Row m_Row_at d_Rea_readString_30 l_Rea_53 rfl rfl (by simp [Value.category]) (by first | assumption | exact xup_s _ _ _ | exact xup_o (by omega) (by assumption) | exact xup_o (by omega) (xup_s _ _ _) | exact xup_o (by omega) (xup_o (by omega) (by assumption)) | exact xup_o (by omega) (xup_o (by omega) (xup_s _ _ _)) | exact xup_o (by omega) (xup_o (by omega) (xup_o (by omega) (by assumption)))) (c_Row_at d (nI i) h2 (by omega)) (by omega) (by omega) ?_
        rintro y M2 ⟨rfl, rfl⟩
        rw [rAt_nI (by omega), hb]
        refine xp_iload_1 (pc := 33) hX d_Rea_readString_33 ?_
        refine xg_icmp_ne (pc := 34) hX 41 d_Rea_readString_34 (by decide) (fun w => ?_) (fun w => ?_)
        · have w : (b == q) = false := by
            rw [beq_eq_false_iff_ne]
            intro z; exact w (by rw [z]; rfl)
          refine xg_iconst (pc := 41) hX (nI 0) d_Rea_readString_41 ci_iconst_0 ?_
          rw [w] at k42
          exact k42
        · have w : (b == q) = true := by
            have := oI_inj.mp (show oI (some b) = oI (some q) from w)
            simpa using this
          refine xg_iconst (pc := 37) hX (nI 1) d_Rea_readString_37 ci_iconst_1 ?_
          refine xg_goto (pc := 38) hX 42 d_Rea_readString_38 (by decide) ?_
          rw [w] at k42
          exact k42
      · refine xp_iload_4 (pc := 12) hX d_Rea_readString_12 ?_
        refine xp_aload_0 (pc := 14) hX d_Rea_readString_14 ?_
        refine xg_get (pc := 15) hX (j := 0) k_Rea d_Rea_readString_15 l_Rea_14 (by decide) (by first | assumption | exact xup_s _ _ _ | exact xup_o (by omega) (by assumption) | exact xup_o (by omega) (xup_s _ _ _) | exact xup_o (by omega) (xup_o (by omega) (by assumption)) | exact xup_o (by omega) (xup_o (by omega) (xup_s _ _ _)) | exact xup_o (by omega) (xup_o (by omega) (xup_o (by omega) (by assumption)))) (by rfl) ?_
        refine xg_get (pc := 18) hX (j := 1) k_Row d_Rea_readString_18 l_Rea_68 (by decide) (by first | assumption | exact xup_s _ _ _ | exact xup_o (by omega) (by assumption) | exact xup_o (by omega) (xup_s _ _ _) | exact xup_o (by omega) (xup_o (by omega) (by assumption)) | exact xup_o (by omega) (xup_o (by omega) (xup_s _ _ _)) | exact xup_o (by omega) (xup_o (by omega) (xup_o (by omega) (by assumption)))) (by rfl) ?_
        refine xn_icmp_ge (pc := 21) hX 111 d_Rea_readString_21 (by decide) (by omega) (by omega) (fun _ => ?_) (fun z => absurd z (by omega))
        refine xp_aload_0 (pc := 111) hX d_Rea_readString_111 ?_
        refine xp_aload_0 (pc := 112) hX d_Rea_readString_112 ?_
        refine xg_get (pc := 113) hX (j := 6) k_Rea d_Rea_readString_113 l_Rea_37 (by decide) (by first | assumption | exact xup_s _ _ _ | exact xup_o (by omega) (by assumption) | exact xup_o (by omega) (xup_s _ _ _) | exact xup_o (by omega) (xup_o (by omega) (by assumption)) | exact xup_o (by omega) (xup_o (by omega) (xup_s _ _ _)) | exact xup_o (by omega) (xup_o (by omega) (xup_o (by omega) (by assumption)))) (by rfl) ?_
        refine xv_V (Y2 := Y_Rea_fail) (pc := 116) hX [_] k_Rea m_Rea_fail d_Rea_readString_116 l_Rea_71 rfl rfl (by simp [Value.category]) (by first | assumption | exact xup_s _ _ _ | exact xup_o (by omega) (by assumption) | exact xup_o (by omega) (xup_s _ _ _) | exact xup_o (by omega) (xup_o (by omega) (by assumption)) | exact xup_o (by omega) (xup_o (by omega) (xup_s _ _ _)) | exact xup_o (by omega) (xup_o (by omega) (xup_o (by omega) (by assumption)))) (c_Rea_fail d (p := pos) hs) (by omega) (by omega) ?_
        rintro M4 ⟨a1, a2⟩
        refine xg_vret (pc := 119) hX hE d_Rea_readString_119 rfl (by omega) (by omega) ?_
        rw [rdS_end (by omega)] at hr
        exact ⟨rfl, rfl, Or.inr ⟨by rw [hr], pos, by rw [hr]; exact a1⟩, a2⟩
  refine xp_aload_0 (pc := 0) hX d_Rea_readString_0 ?_
  refine xg_get (pc := 1) hX (j := 6) k_Rea d_Rea_readString_1 l_Rea_37 (by decide) (by first | assumption | exact xup_s _ _ _ | exact xup_o (by omega) (by assumption) | exact xup_o (by omega) (xup_s _ _ _) | exact xup_o (by omega) (xup_o (by omega) (by assumption)) | exact xup_o (by omega) (xup_o (by omega) (xup_s _ _ _)) | exact xup_o (by omega) (xup_o (by omega) (xup_o (by omega) (by assumption)))) (by rfl) ?_
  refine xg_iconst (pc := 4) hX (nI 1) d_Rea_readString_4 ci_iconst_1 ?_
  first | refine xn_iadd (pc := 5) hX d_Rea_readString_5 ?_ | refine xg_iadd (pc := 5) hX d_Rea_readString_5 ?_
  refine xp_istore_2 (pc := 6) hX d_Rea_readString_6 (by decide) ?_
  refine xg_iconst (pc := 7) hX (nI 0) d_Rea_readString_7 ci_iconst_0 ?_
  refine xp_istore_3 (pc := 8) hX d_Rea_readString_8 (by decide) ?_
  refine xp_iload_2 (pc := 9) hX d_Rea_readString_9 ?_
  refine xp_istore_4 (pc := 10) hX d_Rea_readString_10 (by decide) ?_
  exact loop (t.length - pos) (pos + 1) 0 (by omega) (by omega) (by omega) hR.symm (by omega)
/-- brackets -/
def rdB (t : List UInt8) (s : Nat) : (Nat × Bool) × Nat × Nat := let a := sc bl t (s + 1) t.length; let v := rdV t a; if v.2 then (let e := sc bl t v.1 t.length; if t[e]? = some 41 then ((e + 1, true), a, v.1) else ((e, false), a, v.1)) else (v, a, v.1)
set_option maxHeartbeats 4000000 in
set_option maxRecDepth 100000 in
theorem c_Rea_readBracket (d : Nat) {M : xH} {sz h tg pos : Nat} {t : List UInt8} {tk : List xTk} (hs : ReA M h t tk tg pos none) (hp : pos < t.length) (htk : tk.length < 600) : xC (d + 3) 0 0 Y_Rea_readBracket [.ref h] M sz (qv sz (fun M' => (((rdB t pos).1.2 = true ∧ ReA M' h t (tk ++ [(4, (rdB t pos).2.1, (rdB t pos).2.2)]) tg (rdB t pos).1.1 none) ∨ ((rdB t pos).1.2 = false ∧ ∃ tk' pos', ReA M' h t tk' tg pos' (some (rdB t pos).1.1))) ∧ FrA M M' h)) := by
  refine xC_of (by decide) (Nat.le_of_ble_eq_true rfl) (by simp [Value.category]) (vs := [some (.ref h)]) rfl (fun K hX hE => ?_)
  have hl : t.length ≤ 600 := hs.2.1.2.1
  have ht4 := hs.2.2.2.1
  obtain ⟨h1, h2, -⟩ := id hs
  have ha := sc_le (P := bl) (bs := t) (a := pos + 1) (b := t.length) (by omega) (by omega)
  have hR : rdB t pos = (if (rdV t (sc bl t (pos + 1) t.length)).2 then (if t[sc bl t (rdV t (sc bl t (pos + 1) t.length)).1 t.length]? = some 41 then ((sc bl t (rdV t (sc bl t (pos + 1) t.length)).1 t.length + 1, true), sc bl t (pos + 1) t.length, (rdV t (sc bl t (pos + 1) t.length)).1) else ((sc bl t (rdV t (sc bl t (pos + 1) t.length)).1 t.length, false), sc bl t (pos + 1) t.length, (rdV t (sc bl t (pos + 1) t.length)).1)) else (rdV t (sc bl t (pos + 1) t.length), sc bl t (pos + 1) t.length, (rdV t (sc bl t (pos + 1) t.length)).1)) := rfl
  refine xp_aload_0 (pc := 0) hX d_Rea_readBracket_0 ?_
  refine xg_dup (pc := 1) hX d_Rea_readBracket_1 rfl ?_
  refine xg_get (pc := 2) hX (j := 6) k_Rea d_Rea_readBracket_2 l_Rea_37 (by decide) (by first | assumption | exact xup_s _ _ _ | exact xup_o (by omega) (by assumption) | exact xup_o (by omega) (xup_s _ _ _) | exact xup_o (by omega) (xup_o (by omega) (by assumption)) | exact xup_o (by omega) (xup_o (by omega) (xup_s _ _ _)) | exact xup_o (by omega) (xup_o (by omega) (xup_o (by omega) (by assumption)))) (by rfl) ?_
  refine xg_iconst (pc := 5) hX (nI 1) d_Rea_readBracket_5 ci_iconst_1 ?_
  first | refine xn_iadd (pc := 6) hX d_Rea_readBracket_6 ?_ | refine xg_iadd (pc := 6) hX d_Rea_readBracket_6 ?_
  refine xg_put (pc := 7) hX (j := 6) k_Rea d_Rea_readBracket_7 l_Rea_37 (by decide) rfl (by first | assumption | exact xup_s _ _ _ | exact xup_o (by omega) (by assumption) | exact xup_o (by omega) (xup_s _ _ _) | exact xup_o (by omega) (xup_o (by omega) (by assumption)) | exact xup_o (by omega) (xup_o (by omega) (xup_s _ _ _)) | exact xup_o (by omega) (xup_o (by omega) (xup_o (by omega) (by assumption)))) (Nat.le_of_ble_eq_true rfl) rfl rfl (by simp only [List.set_cons_zero, List.set_cons_succ]; exact rfl) ?_
  refine xp_aload_0 (pc := 10) hX d_Rea_readBracket_10 ?_
  have hs1 : ReA _ h t tk tg (pos + 1) none := hs.put (ans' := none) ht4 (show pos + 1 ≤ 700 by omega)
  obtain ⟨h1, -⟩ := id hs1
  refine xv_V (Y2 := Y_Rea_skipBlanks) (pc := 11) hX [] k_Rea m_Rea_skipBlanks d_Rea_readBracket_11 l_Rea_101 rfl rfl (by simp [Value.category]) (by first | assumption | exact xup_s _ _ _ | exact xup_o (by omega) (by assumption) | exact xup_o (by omega) (xup_s _ _ _) | exact xup_o (by omega) (xup_o (by omega) (by assumption)) | exact xup_o (by omega) (xup_o (by omega) (xup_s _ _ _)) | exact xup_o (by omega) (xup_o (by omega) (xup_o (by omega) (by assumption)))) (c_Rea_skipBlanks (d + 1) hs1 (by omega)) (by omega) (by omega) ?_
  rintro M2 ⟨a1, a2⟩
  generalize sc bl t (pos + 1) t.length = a at *
  have hv := rdV_le (t := t) (s := a) (by omega)
  obtain ⟨h1', -⟩ := id a1
  refine xp_aload_0 (pc := 14) hX d_Rea_readBracket_14 ?_
  refine xg_iconst (pc := 15) hX (nI 4) d_Rea_readBracket_15 ci_iconst_4 ?_
  refine xv_V (Y2 := Y_Rea_readVariable) (pc := 16) hX [_] k_Rea m_Rea_readVariable d_Rea_readBracket_16 l_Rea_65 rfl rfl (by simp [Value.category]) (by first | assumption | exact xup_s _ _ _ | exact xup_o (by omega) (by assumption) | exact xup_o (by omega) (xup_s _ _ _) | exact xup_o (by omega) (xup_o (by omega) (by assumption)) | exact xup_o (by omega) (xup_o (by omega) (xup_s _ _ _)) | exact xup_o (by omega) (xup_o (by omega) (xup_o (by omega) (by assumption)))) (c_Rea_readVariable d (k := 4) a1 (by omega) htk) (by omega) (by omega) ?_
  rintro M3 ⟨a3, a4⟩
  generalize rdV t a = v at *
  rcases a3 with ⟨b1, b2⟩ | ⟨b1, p', b2, -⟩
  · obtain ⟨h1'', -⟩ := id b2
    rw [if_pos b1] at hR
    refine xp_aload_0 (pc := 19) hX d_Rea_readBracket_19 ?_
    refine xg_get (pc := 20) hX (j := 7) k_Rea d_Rea_readBracket_20 l_Rea_40 (by decide) (by first | assumption | exact xup_s _ _ _ | exact xup_o (by omega) (by assumption) | exact xup_o (by omega) (xup_s _ _ _) | exact xup_o (by omega) (xup_o (by omega) (by assumption)) | exact xup_o (by omega) (xup_o (by omega) (xup_s _ _ _)) | exact xup_o (by omega) (xup_o (by omega) (xup_o (by omega) (by assumption)))) (by rfl) ?_
    refine xn_if_eq (pc := 23) hX 27 d_Rea_readBracket_23 (by decide) (by decide) (fun _ => ?_) (fun w => absurd w (by decide))
    have he := sc_le (P := bl) (bs := t) (a := v.1) (b := t.length) (by omega) (by omega)
    refine xp_aload_0 (pc := 27) hX d_Rea_readBracket_27 ?_
    refine xv_V (Y2 := Y_Rea_skipBlanks) (pc := 28) hX [] k_Rea m_Rea_skipBlanks d_Rea_readBracket_28 l_Rea_101 rfl rfl (by simp [Value.category]) (by first | assumption | exact xup_s _ _ _ | exact xup_o (by omega) (by assumption) | exact xup_o (by omega) (xup_s _ _ _) | exact xup_o (by omega) (xup_o (by omega) (by assumption)) | exact xup_o (by omega) (xup_o (by omega) (xup_s _ _ _)) | exact xup_o (by omega) (xup_o (by omega) (xup_o (by omega) (by assumption)))) (c_Rea_skipBlanks (d + 1) b2 (by omega)) (by omega) (by omega) ?_
    rintro M4 ⟨c1, c2⟩
    generalize sc bl t v.1 t.length = e at *
    obtain ⟨g1, g2, -⟩ := id c1
    obtain ⟨r1, -⟩ := id g2
    refine xp_aload_0 (pc := 31) hX d_Rea_readBracket_31 ?_
    refine xg_get (pc := 32) hX (j := 0) k_Rea d_Rea_readBracket_32 l_Rea_14 (by decide) (by first | assumption | exact xup_s _ _ _ | exact xup_o (by omega) (by assumption) | exact xup_o (by omega) (xup_s _ _ _) | exact xup_o (by omega) (xup_o (by omega) (by assumption)) | exact xup_o (by omega) (xup_o (by omega) (xup_s _ _ _)) | exact xup_o (by omega) (xup_o (by omega) (xup_o (by omega) (by assumption)))) (by rfl) ?_
    refine xp_aload_0 (pc := 35) hX d_Rea_readBracket_35 ?_
    refine xg_get (pc := 36) hX (j := 6) k_Rea d_Rea_readBracket_36 l_Rea_37 (by decide) (by first | assumption | exact xup_s _ _ _ | exact xup_o (by omega) (by assumption) | exact xup_o (by omega) (xup_s _ _ _) | exact xup_o (by omega) (xup_o (by omega) (by assumption)) | exact xup_o (by omega) (xup_o (by omega) (xup_s _ _ _)) | exact xup_o (by omega) (xup_o (by omega) (xup_o (by omega) (by assumption)))) (by rfl) ?_
    refine xi_V (Y2 := Y_Row_at) (pc := 39) hX [_] k_Row m_Row_at d_Rea_readBracket_39 l_Rea_53 rfl rfl (by simp [Value.category]) (by first | assumption | exact xup_s _ _ _ | exact xup_o (by omega) (by assumption) | exact xup_o (by omega) (xup_s _ _ _) | exact xup_o (by omega) (xup_o (by omega) (by assumption)) | exact xup_o (by omega) (xup_o (by omega) (xup_s _ _ _)) | exact xup_o (by omega) (xup_o (by omega) (xup_o (by omega) (by assumption)))) (c_Row_at (d + 2) (nI e) g2 (by omega)) (by omega) (by omega) ?_
    rintro y M5 ⟨rfl, rfl⟩
    rw [rAt_nI (by omega)]
    refine xg_bipush (pc := 42) hX (nI 41) d_Rea_readBracket_42 ci_bipush_41 ?_
    refine xg_icmp_ne (pc := 44) hX 60 d_Rea_readBracket_44 (by decide) (fun w => ?_) (fun w => ?_)
    · have w : ¬ t[e]? = some 41 := fun z => w ((oI_eq (by decide)).mpr (by rw [z]; rfl))
      rw [if_neg w] at hR
      refine xp_aload_0 (pc := 60) hX d_Rea_readBracket_60 ?_
      refine xp_aload_0 (pc := 61) hX d_Rea_readBracket_61 ?_
      refine xg_get (pc := 62) hX (j := 6) k_Rea d_Rea_readBracket_62 l_Rea_37 (by decide) (by first | assumption | exact xup_s _ _ _ | exact xup_o (by omega) (by assumption) | exact xup_o (by omega) (xup_s _ _ _) | exact xup_o (by omega) (xup_o (by omega) (by assumption)) | exact xup_o (by omega) (xup_o (by omega) (xup_s _ _ _)) | exact xup_o (by omega) (xup_o (by omega) (xup_o (by omega) (by assumption)))) (by rfl) ?_
      refine xv_V (Y2 := Y_Rea_fail) (pc := 65) hX [_] k_Rea m_Rea_fail d_Rea_readBracket_65 l_Rea_71 rfl rfl (by simp [Value.category]) (by first | assumption | exact xup_s _ _ _ | exact xup_o (by omega) (by assumption) | exact xup_o (by omega) (xup_s _ _ _) | exact xup_o (by omega) (xup_o (by omega) (by assumption)) | exact xup_o (by omega) (xup_o (by omega) (xup_s _ _ _)) | exact xup_o (by omega) (xup_o (by omega) (xup_o (by omega) (by assumption)))) (c_Rea_fail (d + 2) (p := e) c1) (by omega) (by omega) ?_
      rintro M6 ⟨d1, d2⟩
      refine xg_vret (pc := 68) hX hE d_Rea_readBracket_68 rfl (by omega) (by omega) ?_
      refine ⟨rfl, rfl, Or.inr ⟨by rw [hR], _, e, by rw [hR]; exact d1⟩, ?_⟩
      exact ((((FrA.up _ _ _).tr a2).tr a4).tr c2).tr d2
    · have w : t[e]? = some 41 := (oI_eq (by decide)).mp w
      rw [if_pos w] at hR
      have hlt := (List.getElem?_eq_some_iff.mp w).1
      refine xp_aload_0 (pc := 47) hX d_Rea_readBracket_47 ?_
      refine xg_dup (pc := 48) hX d_Rea_readBracket_48 rfl ?_
      refine xg_get (pc := 49) hX (j := 6) k_Rea d_Rea_readBracket_49 l_Rea_37 (by decide) (by first | assumption | exact xup_s _ _ _ | exact xup_o (by omega) (by assumption) | exact xup_o (by omega) (xup_s _ _ _) | exact xup_o (by omega) (xup_o (by omega) (by assumption)) | exact xup_o (by omega) (xup_o (by omega) (xup_s _ _ _)) | exact xup_o (by omega) (xup_o (by omega) (xup_o (by omega) (by assumption)))) (by rfl) ?_
      refine xg_iconst (pc := 52) hX (nI 1) d_Rea_readBracket_52 ci_iconst_1 ?_
      first | refine xn_iadd (pc := 53) hX d_Rea_readBracket_53 ?_ | refine xg_iadd (pc := 53) hX d_Rea_readBracket_53 ?_
      refine xg_put (pc := 54) hX (j := 6) k_Rea d_Rea_readBracket_54 l_Rea_37 (by decide) rfl (by first | assumption | exact xup_s _ _ _ | exact xup_o (by omega) (by assumption) | exact xup_o (by omega) (xup_s _ _ _) | exact xup_o (by omega) (xup_o (by omega) (by assumption)) | exact xup_o (by omega) (xup_o (by omega) (xup_s _ _ _)) | exact xup_o (by omega) (xup_o (by omega) (xup_o (by omega) (by assumption)))) (Nat.le_of_ble_eq_true rfl) rfl rfl (by simp only [List.set_cons_zero, List.set_cons_succ]; exact rfl) ?_
      refine xg_goto (pc := 57) hX 68 d_Rea_readBracket_57 (by decide) ?_
      refine xg_vret (pc := 68) hX hE d_Rea_readBracket_68 rfl (by omega) (by omega) ?_
      refine ⟨rfl, rfl, Or.inl ⟨by rw [hR], by rw [hR]; exact c1.put ht4 (by omega)⟩, ?_⟩
      exact ((((FrA.up _ _ _).tr a2).tr a4).tr c2).tr (FrA.up _ _ _)
  · obtain ⟨h1'', -⟩ := id b2
    rw [if_neg (by rw [b1]; decide)] at hR
    refine xp_aload_0 (pc := 19) hX d_Rea_readBracket_19 ?_
    refine xg_get (pc := 20) hX (j := 7) k_Rea d_Rea_readBracket_20 l_Rea_40 (by decide) (by first | assumption | exact xup_s _ _ _ | exact xup_o (by omega) (by assumption) | exact xup_o (by omega) (xup_s _ _ _) | exact xup_o (by omega) (xup_o (by omega) (by assumption)) | exact xup_o (by omega) (xup_o (by omega) (xup_s _ _ _)) | exact xup_o (by omega) (xup_o (by omega) (xup_o (by omega) (by assumption)))) (by rfl) ?_
    refine xg_if_eq (pc := 23) hX 27 d_Rea_readBracket_23 (by decide) (fun w => absurd w (aI_some (by omega))) (fun _ => ?_)
    refine xg_vret (pc := 26) hX hE d_Rea_readBracket_26 rfl (by omega) (by omega) ?_
    refine ⟨rfl, rfl, Or.inr ⟨by rw [hR]; exact b1, tk, p', by rw [hR]; exact b2⟩, ?_⟩
    exact ((FrA.up _ _ _).tr a2).tr a4
set_option maxHeartbeats 4000000 in
set_option maxRecDepth 100000 in
theorem c_Rea_readSignedPlace (d : Nat) {M : xH} {sz h tg pos k : Nat} {t : List UInt8} {tk : List xTk} (hs : ReA M h t tk tg pos none) (hp : pos < t.length) (htk : tk.length < 600) : xC (d + 3) 0 0 Y_Rea_readSignedPlace [.ref h, .int (nI k)] M sz (qv sz (fun M' => (((rdP t (sc bl t (pos + 1) t.length)).2 = true ∧ ReA M' h t (tk ++ [(k, sc bl t (pos + 1) t.length, (rdP t (sc bl t (pos + 1) t.length)).1)]) tg (rdP t (sc bl t (pos + 1) t.length)).1 none) ∨ ((rdP t (sc bl t (pos + 1) t.length)).2 = false ∧ ∃ pos', ReA M' h t tk tg pos' (some (rdP t (sc bl t (pos + 1) t.length)).1))) ∧ FrA M M' h)) := by
  refine xC_of (by decide) (Nat.le_of_ble_eq_true rfl) (by simp [Value.category]) (vs := [some (.ref h), some (.int (nI k))]) rfl (fun K hX hE => ?_)
  have hl : t.length ≤ 600 := hs.2.1.2.1
  have ht4 := hs.2.2.2.1
  obtain ⟨h1, h2, -⟩ := id hs
  have ha := sc_le (P := bl) (bs := t) (a := pos + 1) (b := t.length) (by omega) (by omega)
  refine xp_aload_0 (pc := 0) hX d_Rea_readSignedPlace_0 ?_
  refine xg_dup (pc := 1) hX d_Rea_readSignedPlace_1 rfl ?_
  refine xg_get (pc := 2) hX (j := 6) k_Rea d_Rea_readSignedPlace_2 l_Rea_37 (by decide) (by first | assumption | exact xup_s _ _ _ | exact xup_o (by omega) (by assumption) | exact xup_o (by omega) (xup_s _ _ _) | exact xup_o (by omega) (xup_o (by omega) (by assumption)) | exact xup_o (by omega) (xup_o (by omega) (xup_s _ _ _)) | exact xup_o (by omega) (xup_o (by omega) (xup_o (by omega) (by assumption)))) (by rfl) ?_
  refine xg_iconst (pc := 5) hX (nI 1) d_Rea_readSignedPlace_5 ci_iconst_1 ?_
  first | refine xn_iadd (pc := 6) hX d_Rea_readSignedPlace_6 ?_ | refine xg_iadd (pc := 6) hX d_Rea_readSignedPlace_6 ?_
  refine xg_put (pc := 7) hX (j := 6) k_Rea d_Rea_readSignedPlace_7 l_Rea_37 (by decide) rfl (by first | assumption | exact xup_s _ _ _ | exact xup_o (by omega) (by assumption) | exact xup_o (by omega) (xup_s _ _ _) | exact xup_o (by omega) (xup_o (by omega) (by assumption)) | exact xup_o (by omega) (xup_o (by omega) (xup_s _ _ _)) | exact xup_o (by omega) (xup_o (by omega) (xup_o (by omega) (by assumption)))) (Nat.le_of_ble_eq_true rfl) rfl rfl (by simp only [List.set_cons_zero, List.set_cons_succ]; exact rfl) ?_
  refine xp_aload_0 (pc := 10) hX d_Rea_readSignedPlace_10 ?_
  have hs1 : ReA _ h t tk tg (pos + 1) none := hs.put (ans' := none) ht4 (show pos + 1 ≤ 700 by omega)
  obtain ⟨h1, -⟩ := id hs1
  refine xv_V (Y2 := Y_Rea_skipBlanks) (pc := 11) hX [] k_Rea m_Rea_skipBlanks d_Rea_readSignedPlace_11 l_Rea_101 rfl rfl (by simp [Value.category]) (by first | assumption | exact xup_s _ _ _ | exact xup_o (by omega) (by assumption) | exact xup_o (by omega) (xup_s _ _ _) | exact xup_o (by omega) (xup_o (by omega) (by assumption)) | exact xup_o (by omega) (xup_o (by omega) (xup_s _ _ _)) | exact xup_o (by omega) (xup_o (by omega) (xup_o (by omega) (by assumption)))) (c_Rea_skipBlanks (d + 1) hs1 (by omega)) (by omega) (by omega) ?_
  rintro M2 ⟨a1, a2⟩
  generalize sc bl t (pos + 1) t.length = a at *
  obtain ⟨h1', -⟩ := id a1
  refine xp_aload_0 (pc := 14) hX d_Rea_readSignedPlace_14 ?_
  refine xp_iload_1 (pc := 15) hX d_Rea_readSignedPlace_15 ?_
  refine xv_V (Y2 := Y_Rea_readPlace) (pc := 16) hX [_] k_Rea m_Rea_readPlace d_Rea_readSignedPlace_16 l_Rea_92 rfl rfl (by simp [Value.category]) (by first | assumption | exact xup_s _ _ _ | exact xup_o (by omega) (by assumption) | exact xup_o (by omega) (xup_s _ _ _) | exact xup_o (by omega) (xup_o (by omega) (by assumption)) | exact xup_o (by omega) (xup_o (by omega) (xup_s _ _ _)) | exact xup_o (by omega) (xup_o (by omega) (xup_o (by omega) (by assumption)))) (c_Rea_readPlace d (k := k) a1 (by omega) htk) (by omega) (by omega) ?_
  rintro M3 ⟨a3, a4⟩
  refine xg_vret (pc := 19) hX hE d_Rea_readSignedPlace_19 rfl (by omega) (by omega) ?_
  exact ⟨rfl, rfl, a3, ((FrA.up _ _ _).tr a2).tr a4⟩
