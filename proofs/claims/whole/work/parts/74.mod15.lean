/-! the reference: open -/
theorem sOf_app {se : List xSe} {q p : Nat} {nm : List UInt8} : sOf (se ++ [(q, nm)]) p = if p = q then sOf se p ++ [nm] else sOf se p := by
  unfold sOf
  rw [List.filter_append, List.map_append, List.filter_cons]
  by_cases c : p = q
  · subst c
    simp
  · rw [if_neg c, if_neg (by simp only [beq_iff_eq]; exact fun z => c z.symm)]
    simp
theorem told1_sOf {se : List xSe} {q : Nat} {nm : List UInt8} : told1 se q nm = (sOf se q).any (fun s => s == nm) := by
  unfold told1 sOf
  rw [List.any_map, List.any_filter]
  rfl
theorem SeO_app {se : List xSe} {q : Nat} {nm : List UInt8} (h : SeO se) (hq : 1 ≤ q) (hl : ∀ s ∈ se, s.1 ≤ q) : SeO (se ++ [(q, nm)]) := by
  refine ⟨fun s hs => ?_, List.pairwise_append.mpr ⟨h.2, List.pairwise_singleton _ _, fun a ha b hb => ?_⟩⟩
  · rcases List.mem_append.mp hs with z | z
    · exact h.1 s z
    · rw [List.mem_singleton.mp z]; exact hq
  · rw [List.mem_singleton.mp hb]
    exact hl a ha
/-- the words that are left at a -/
def WL (x : List UInt8) (a : Nat) (T : List xTk) : Prop := match T with
  | [] => x.length ≤ a
  | k :: r => WC x a (k :: r)
theorem WC.wl {x : List UInt8} {a : Nat} {T : List xTk} (h : WC x a T) : WL x a T := by
  cases T with
  | nil => exact Nat.le_of_lt h
  | cons k r => exact h
section XM15
variable {t x out full : List UInt8} {es : List xEn} {pool : Nat} {se : List xSe} {sub fd : List UInt8} {fr bg : Nat} {wr : Option Nat} {nx kd fi la va : Nat}
set_option maxHeartbeats 16000000 in
set_option maxRecDepth 100000 in
theorem b_open (d : Nat) {M : xH} {sz O : Nat} {S : xS} (h : MW M O S) (hI : InvF S) : xC (d + 5) 0 0 Y_Mod_open [.ref O] M sz (qi sz (fun z M' => z = (sOpen S).1 ∧ MW M' O (sOpen S).2 ∧ FrO M M' O)) := by
  obtain ⟨t, out, es, dp, se, sub, fr, bg⟩ := S
  obtain ⟨hdp, x, full, fd, wr, nx, kd, fi, la, va, hw⟩ := id h
  obtain ⟨⟨hgI, i2, i3, i4, i5, -⟩, hso⟩ := hI
  have hso : SeO se := hso
  refine xC_of (by decide) (Nat.le_of_ble_eq_true rfl) (by simp [Value.category]) (vs := [some (.ref O), none, none, none, none]) rfl (fun K hX hE => ?_)
  obtain ⟨h0, -⟩ := id hw
  have htl := hw.xl.1
  have hbd := rdM_bd (t := t) (most := 12)
  have hlen := (rdM_ok (t := t) (most := 12)).2
  have hWL : (rdM t 12).1.2 = true → WL t 0 (rdM t 12).2 := by
    unfold rdM
    by_cases c : t.length = 0
    · rw [if_pos c]
      intro _
      show t.length ≤ 0
      omega
    · rw [if_neg c]
      intro hh
      obtain ⟨T, e1, e2⟩ := rdL_wc (x := t) 12 0 [] hh
      rw [e1, List.nil_append]
      exact e2.wl
  have hSb : (rdM t 12).1.2 = false → sOpen (t, out, es, dp, se, sub, fr, bg) = (aI (some (rdM t 12).1.1), ([], out, es, dp, se, sub, fr, bg)) := by
    intro hb
    unfold sOpen
    dsimp only
    rw [if_neg (by rw [hb]; decide)]
  have hSg : (rdM t 12).1.2 = true → sOpen (t, out, es, dp, se, sub, fr, bg) = (if dp < 8 then (match opn es t dp (rdM t 12).2 se with | some se' => (nI (dp + 1), ([], out, es, dp + 1, se', sub, fr, bg)) | none => (-2, ([], out, es, dp, se, sub, fr, bg))) else (-4, ([], out, es, dp, se, sub, fr, bg))) := by
    intro hb
    unfold sOpen
    dsimp only
    rw [if_pos hb]
    rfl
  have hrM : t.length ≠ 0 → rdM t 12 = rdL t 12 0 [] := fun c => by unfold rdM; rw [if_neg c]
  have hrM0 : t.length = 0 → rdM t 12 = ((0, true), []) := fun c => by unfold rdM; rw [if_pos c]
  generalize rdM t 12 = L at *
  have k18 : ∀ (M2 : xH) (nx2 : Nat), Wd M2 O [] t out full es (dp - 1) se sub fd fr bg (if L.1.2 = true then none else some L.1.1) nx2 kd fi la va → FrO M M2 O → xG K 18 [some (.ref O), none, none, none, none] [] M2 sz 0 0 := by
    intro M2 nx2 w2 f2
    obtain ⟨h0, -⟩ := id w2
    refine xp_aload_0 (pc := 18) hX d_Mod_open_18 ?_
    refine xg_get (pc := 19) hX (j := 24) k_Mod d_Mod_open_19 l_Mod_75 (by decide) (by first | assumption | exact xup_s _ _ _ | exact xup_o (by omega) (by assumption) | exact xup_o (by omega) (xup_s _ _ _) | exact xup_o (by omega) (xup_o (by omega) (by assumption)) | exact xup_o (by omega) (xup_o (by omega) (xup_s _ _ _)) | exact xup_o (by omega) (xup_o (by omega) (xup_o (by omega) (by assumption)))) (by rfl) ?_
    by_cases c : L.1.2 = true
    · have hS := hSg c
      have hWL := hWL c
      rw [if_pos c] at w2 h0 ⊢
      refine xg_if_lt (pc := 22) hX 34 d_Mod_open_22 (by decide) (fun _ => ?_) (fun z => absurd (by decide) z)
      refine xp_aload_0 (pc := 34) hX d_Mod_open_34 ?_
      refine xg_get (pc := 35) hX (j := 17) k_Mod d_Mod_open_35 l_Mod_108 (by decide) (by first | assumption | exact xup_s _ _ _ | exact xup_o (by omega) (by assumption) | exact xup_o (by omega) (xup_s _ _ _) | exact xup_o (by omega) (xup_o (by omega) (by assumption)) | exact xup_o (by omega) (xup_o (by omega) (xup_s _ _ _)) | exact xup_o (by omega) (xup_o (by omega) (xup_o (by omega) (by assumption)))) (by rfl) ?_
      refine xg_iconst (pc := 38) hX (nI 1) d_Mod_open_38 ci_iconst_1 ?_
      first | refine xn_iadd (pc := 39) hX d_Mod_open_39 ?_ | refine xg_iadd (pc := 39) hX d_Mod_open_39 ?_
      refine xg_bipush (pc := 40) hX (nI 8) d_Mod_open_40 ci_bipush_8 ?_
      refine xn_icmp_ne (pc := 42) hX 48 d_Mod_open_42 (by decide) (by omega) (by omega) (fun z => ?_) (fun z => ?_)
      · rw [if_pos (by omega)] at hS
        obtain ⟨-, -, -, -, -, -, ⟨g1, fs, fz, fc, g2, g3, g4, g5⟩, -⟩ := id w2
        refine xp_aload_0 (pc := 48) hX d_Mod_open_48 ?_
        refine xg_dup (pc := 49) hX d_Mod_open_49 rfl ?_
        refine xg_get (pc := 50) hX (j := 17) k_Mod d_Mod_open_50 l_Mod_108 (by decide) (by first | assumption | exact xup_s _ _ _ | exact xup_o (by omega) (by assumption) | exact xup_o (by omega) (xup_s _ _ _) | exact xup_o (by omega) (xup_o (by omega) (by assumption)) | exact xup_o (by omega) (xup_o (by omega) (xup_s _ _ _)) | exact xup_o (by omega) (xup_o (by omega) (xup_o (by omega) (by assumption)))) (by rfl) ?_
        refine xg_iconst (pc := 53) hX (nI 1) d_Mod_open_53 ci_iconst_1 ?_
        first | refine xn_iadd (pc := 54) hX d_Mod_open_54 ?_ | refine xg_iadd (pc := 54) hX d_Mod_open_54 ?_
        refine xg_put (pc := 55) hX (j := 17) k_Mod d_Mod_open_55 l_Mod_108 (by decide) rfl (by first | assumption | exact xup_s _ _ _ | exact xup_o (by omega) (by assumption) | exact xup_o (by omega) (xup_s _ _ _) | exact xup_o (by omega) (xup_o (by omega) (by assumption)) | exact xup_o (by omega) (xup_o (by omega) (xup_s _ _ _)) | exact xup_o (by omega) (xup_o (by omega) (xup_o (by omega) (by assumption)))) (Nat.le_of_ble_eq_true rfl) rfl rfl (by simp only [List.set_cons_zero, List.set_cons_succ]; exact rfl) ?_
        refine xp_aload_0 (pc := 58) hX d_Mod_open_58 ?_
        refine xg_get (pc := 59) hX (j := 16) k_Mod d_Mod_open_59 l_Mod_43 (by decide) (by first | assumption | exact xup_s _ _ _ | exact xup_o (by omega) (by assumption) | exact xup_o (by omega) (xup_s _ _ _) | exact xup_o (by omega) (xup_o (by omega) (by assumption)) | exact xup_o (by omega) (xup_o (by omega) (xup_s _ _ _)) | exact xup_o (by omega) (xup_o (by omega) (xup_o (by omega) (by assumption)))) (by rfl) ?_
        refine xp_aload_0 (pc := 62) hX d_Mod_open_62 ?_
        refine xg_get (pc := 63) hX (j := 17) k_Mod d_Mod_open_63 l_Mod_108 (by decide) (by first | assumption | exact xup_s _ _ _ | exact xup_o (by omega) (by assumption) | exact xup_o (by omega) (xup_s _ _ _) | exact xup_o (by omega) (xup_o (by omega) (by assumption)) | exact xup_o (by omega) (xup_o (by omega) (xup_s _ _ _)) | exact xup_o (by omega) (xup_o (by omega) (xup_o (by omega) (by assumption)))) (by rfl) ?_
        refine xg_iconst (pc := 66) hX (nI 0) d_Mod_open_66 ci_iconst_0 ?_
        refine xn_iast (pc := 67) hX d_Mod_open_67 rfl (by first | assumption | exact xup_s _ _ _ | exact xup_o (by omega) (by assumption) | exact xup_o (by omega) (xup_s _ _ _) | exact xup_o (by omega) (xup_o (by omega) (by assumption)) | exact xup_o (by omega) (xup_o (by omega) (xup_s _ _ _)) | exact xup_o (by omega) (xup_o (by omega) (xup_o (by omega) (by assumption)))) (by omega) (by omega) ?_
        refine xg_iconst (pc := 68) hX (nI 0) d_Mod_open_68 ci_iconst_0 ?_
        refine xp_istore_1 (pc := 69) hX d_Mod_open_69 (by decide) ?_
        -- the words
        have loop : ∀ (T1 : List xTk) (a : Nat) (M3 : xH) (se1 : List xSe) (f : List UInt8) (v2 v3 v4 : Option Value), WL t a T1 → a < 2000 → Wd M3 O [] t out f es dp se1 sub fd fr bg none nx2 kd fi la va → FrO M M3 O → SeO se1 → (∀ s ∈ se1, s.1 ≤ dp) → (∀ p, p < dp → sOf se1 p = sOf se p) → (sOf se1 dp).length + T1.length ≤ 12 → opn es t dp L.2 se = opn es t dp T1 se1 → xG K 70 [some (.ref O), some (.int (nI a)), v2, v3, v4] [] M3 sz 0 0 := by
          intro T1
          induction T1 with
          | nil =>
            intro a M3 se1 f v2 v3 v4 hWL1 ha w3 f3 hso1 hdp1 hp1 hc1 hop
            have hWL1 : t.length ≤ a := hWL1
            have hop2 : opn es t dp L.2 se = some se1 := hop
            rw [hop2] at hS
            dsimp only at hS
            rw [hS] at hE
            obtain ⟨h0, -⟩ := id w3
            refine xp_iload_1 (pc := 70) hX d_Mod_open_70 ?_
            refine xp_aload_0 (pc := 71) hX d_Mod_open_71 ?_
            refine xg_get (pc := 72) hX (j := 5) k_Mod d_Mod_open_72 l_Mod_72 (by decide) (by first | assumption | exact xup_s _ _ _ | exact xup_o (by omega) (by assumption) | exact xup_o (by omega) (xup_s _ _ _) | exact xup_o (by omega) (xup_o (by omega) (by assumption)) | exact xup_o (by omega) (xup_o (by omega) (xup_s _ _ _)) | exact xup_o (by omega) (xup_o (by omega) (xup_o (by omega) (by assumption)))) (by rfl) ?_
            refine xn_icmp_ge (pc := 75) hX 273 d_Mod_open_75 (by decide) (by omega) (by omega) (fun _ => ?_) (fun z => absurd z (by omega))
            refine xp_aload_0 (pc := 273) hX d_Mod_open_273 ?_
            refine xg_get (pc := 274) hX (j := 17) k_Mod d_Mod_open_274 l_Mod_108 (by decide) (by first | assumption | exact xup_s _ _ _ | exact xup_o (by omega) (by assumption) | exact xup_o (by omega) (xup_s _ _ _) | exact xup_o (by omega) (xup_o (by omega) (by assumption)) | exact xup_o (by omega) (xup_o (by omega) (xup_s _ _ _)) | exact xup_o (by omega) (xup_o (by omega) (xup_o (by omega) (by assumption)))) (by rfl) ?_
            refine xg_iconst (pc := 277) hX (nI 1) d_Mod_open_277 ci_iconst_1 ?_
            first | refine xn_iadd (pc := 278) hX d_Mod_open_278 ?_ | refine xg_iadd (pc := 278) hX d_Mod_open_278 ?_
            refine xg_iret (pc := 279) hX hE d_Mod_open_279 rfl rfl (by omega) (by omega) ?_
            exact ⟨rfl, _, rfl, rfl, ⟨by omega, _, _, _, _, _, _, _, _, _, by rw [show dp + 1 - 1 = dp by omega]; exact w3⟩, f3⟩
          | cons kk r ih =>
            intro a M3 se1 f v2 v3 v4 hWL1 ha w3 f3 hso1 hdp1 hp1 hc1 hop
            obtain ⟨hk, hv, hor, hWC2⟩ := (show WC t a (kk :: r) from hWL1)
            have hwe := wEnd hv hor
            have hvk := rdV_ok hv
            generalize (rdV t a).1 = e at *
            subst hk
            obtain ⟨h0, -⟩ := id w3
            have hnz := FN_pos (es := es) (se := se1) (ip := dp) (t := t) hvk.1 hvk.2.1
            have hop2 : opn es t dp L.2 se = (if (FN es se1 dp t a e).length ≤ 200 then opn es t dp r (if told1 se1 dp (FN es se1 dp t a e) then se1 else se1 ++ [(dp, FN es se1 dp t a e)]) else none) := by rw [hop]; rfl
            refine xp_iload_1 (pc := 70) hX d_Mod_open_70 ?_
            refine xp_aload_0 (pc := 71) hX d_Mod_open_71 ?_
            refine xg_get (pc := 72) hX (j := 5) k_Mod d_Mod_open_72 l_Mod_72 (by decide) (by first | assumption | exact xup_s _ _ _ | exact xup_o (by omega) (by assumption) | exact xup_o (by omega) (xup_s _ _ _) | exact xup_o (by omega) (xup_o (by omega) (by assumption)) | exact xup_o (by omega) (xup_o (by omega) (xup_s _ _ _)) | exact xup_o (by omega) (xup_o (by omega) (xup_o (by omega) (by assumption)))) (by rfl) ?_
            refine xn_icmp_ge (pc := 75) hX 273 d_Mod_open_75 (by decide) (by omega) (by omega) (fun z => absurd z (by omega)) (fun _ => ?_)
            refine xp_aload_0 (pc := 78) hX d_Mod_open_78 ?_
            refine xp_iload_1 (pc := 79) hX d_Mod_open_79 ?_
            refine xp_aload_0 (pc := 80) hX d_Mod_open_80 ?_
            refine xp_iload_1 (pc := 81) hX d_Mod_open_81 ?_
            refine xi_V (Y2 := Y_Mod_wordEnd) (pc := 82) hX [_] k_Mod m_Mod_wordEnd d_Mod_open_82 l_Mod_166 rfl rfl (by simp [Value.category]) (by first | assumption | exact xup_s _ _ _ | exact xup_o (by omega) (by assumption) | exact xup_o (by omega) (xup_s _ _ _) | exact xup_o (by omega) (xup_o (by omega) (by assumption)) | exact xup_o (by omega) (xup_o (by omega) (xup_s _ _ _)) | exact xup_o (by omega) (xup_o (by omega) (xup_o (by omega) (by assumption)))) (c_Mod_wordEnd (d + 4) w3 (by omega)) (by omega) (by omega) ?_
            rintro y M4 ⟨rfl, rfl⟩
            rw [hwe]
            refine xi_V (Y2 := Y_Mod_nameOf) (pc := 85) hX [_, _] k_Mod m_Mod_nameOf d_Mod_open_85 l_Mod_149 rfl rfl (by simp [Value.category]) (by first | assumption | exact xup_s _ _ _ | exact xup_o (by omega) (by assumption) | exact xup_o (by omega) (xup_s _ _ _) | exact xup_o (by omega) (xup_o (by omega) (by assumption)) | exact xup_o (by omega) (xup_o (by omega) (xup_s _ _ _)) | exact xup_o (by omega) (xup_o (by omega) (xup_o (by omega) (by assumption)))) (c_Mod_nameOf d w3 hso1 hgI hvk.1 hvk.2.1 hvk.2.2) (by omega) (by omega) ?_
            generalize FN es se1 dp t a e = nm at *
            rintro y M5 ⟨hc, f5⟩
            rcases hc with ⟨c1, rfl, w5⟩ | ⟨c1, rfl, f', w5⟩
            · rw [if_pos c1] at hop2
              refine xn_if_ne (a := 1) (pc := 88) hX 104 d_Mod_open_88 (by decide) (by decide) (fun _ => ?_) (fun z => absurd z (by decide))
              -- behind the word
              have k262 : ∀ (M6 : xH) (se2 : List xSe) (v2 v3 v4 : Option Value), Wd M6 O [] t out nm es dp se2 sub fd fr bg none nx2 kd fi la va → FrO M M6 O → SeO se2 → (∀ s ∈ se2, s.1 ≤ dp) → (∀ p, p < dp → sOf se2 p = sOf se p) → (sOf se2 dp).length + r.length ≤ 12 → se2 = (if told1 se1 dp nm then se1 else se1 ++ [(dp, nm)]) → xG K 262 [some (.ref O), some (.int (nI a)), v2, v3, v4] [] M6 sz 0 0 := by
                intro M6 se2 v2 v3 v4 w6 f6 s1 s2 s3 s4 s5
                rw [← s5] at hop2
                obtain ⟨h0, -⟩ := id w6
                refine xp_aload_0 (pc := 262) hX d_Mod_open_262 ?_
                refine xp_iload_1 (pc := 263) hX d_Mod_open_263 ?_
                refine xi_V (Y2 := Y_Mod_wordEnd) (pc := 264) hX [_] k_Mod m_Mod_wordEnd d_Mod_open_264 l_Mod_166 rfl rfl (by simp [Value.category]) (by first | assumption | exact xup_s _ _ _ | exact xup_o (by omega) (by assumption) | exact xup_o (by omega) (xup_s _ _ _) | exact xup_o (by omega) (xup_o (by omega) (by assumption)) | exact xup_o (by omega) (xup_o (by omega) (xup_s _ _ _)) | exact xup_o (by omega) (xup_o (by omega) (xup_o (by omega) (by assumption)))) (c_Mod_wordEnd (d + 4) w6 (by omega)) (by omega) (by omega) ?_
                rintro y M7 ⟨rfl, rfl⟩
                rw [hwe]
                refine xg_iconst (pc := 267) hX (nI 1) d_Mod_open_267 ci_iconst_1 ?_
                first | refine xn_iadd (pc := 268) hX d_Mod_open_268 ?_ | refine xg_iadd (pc := 268) hX d_Mod_open_268 ?_
                refine xp_istore_1 (pc := 269) hX d_Mod_open_269 (by decide) ?_
                refine xg_goto (pc := 270) hX 70 d_Mod_open_270 (by decide) ?_
                exact ih (e + 1) M7 se2 nm _ _ _ hWC2.wl (by omega) w6 f6 s1 s2 s3 s4 hop2
              obtain ⟨h0, -, -, -, ⟨h4l, gf, h4a, h4b⟩, -, ⟨q1, fs, fz, fc, q2, q3, q4, q5⟩, -⟩ := id w5
              obtain ⟨u1, u2, u3⟩ := q5 dp hdp (Nat.le_refl _)
              have htold : told1 se1 dp nm = (sOf se1 dp).any (fun s => s == nm) := told1_sOf
              have hc1' : (sOf se1 dp).length + r.length + 1 ≤ 12 := by rw [List.length_cons] at hc1; omega
              have hSA : ∀ p, sOf (se1 ++ [(dp, nm)]) p = if p = dp then sOf se1 p ++ [nm] else sOf se1 p := fun p => sOf_app
              generalize hLL : sOf se1 dp = LL at *
              -- it comes to be seen
              have k183 : ∀ (v2 v3 v4 : Option Value), told1 se1 dp nm = false → xG K 183 [some (.ref O), some (.int (nI a)), v2, v3, v4] [] M5 sz 0 0 := by
                intro v2 v3 v4 htd
                refine xg_bipush (pc := 183) hX (nI 12) d_Mod_open_183 ci_bipush_12 ?_
                refine xp_aload_0 (pc := 185) hX d_Mod_open_185 ?_
                refine xg_get (pc := 186) hX (j := 17) k_Mod d_Mod_open_186 l_Mod_108 (by decide) (by first | assumption | exact xup_s _ _ _ | exact xup_o (by omega) (by assumption) | exact xup_o (by omega) (xup_s _ _ _) | exact xup_o (by omega) (xup_o (by omega) (by assumption)) | exact xup_o (by omega) (xup_o (by omega) (xup_s _ _ _)) | exact xup_o (by omega) (xup_o (by omega) (xup_o (by omega) (by assumption)))) (by rfl) ?_
                first | refine xn_imul (pc := 189) hX d_Mod_open_189 ?_ | refine xg_imul (pc := 189) hX d_Mod_open_189 ?_
                refine xp_aload_0 (pc := 190) hX d_Mod_open_190 ?_
                refine xg_get (pc := 191) hX (j := 16) k_Mod d_Mod_open_191 l_Mod_43 (by decide) (by first | assumption | exact xup_s _ _ _ | exact xup_o (by omega) (by assumption) | exact xup_o (by omega) (xup_s _ _ _) | exact xup_o (by omega) (xup_o (by omega) (by assumption)) | exact xup_o (by omega) (xup_o (by omega) (xup_s _ _ _)) | exact xup_o (by omega) (xup_o (by omega) (xup_o (by omega) (by assumption)))) (by rfl) ?_
                refine xp_aload_0 (pc := 194) hX d_Mod_open_194 ?_
                refine xg_get (pc := 195) hX (j := 17) k_Mod d_Mod_open_195 l_Mod_108 (by decide) (by first | assumption | exact xup_s _ _ _ | exact xup_o (by omega) (by assumption) | exact xup_o (by omega) (xup_s _ _ _) | exact xup_o (by omega) (xup_o (by omega) (by assumption)) | exact xup_o (by omega) (xup_o (by omega) (xup_s _ _ _)) | exact xup_o (by omega) (xup_o (by omega) (xup_o (by omega) (by assumption)))) (by rfl) ?_
                refine xn_iald (pc := 198) hX d_Mod_open_198 rfl (by first | assumption | exact xup_s _ _ _ | exact xup_o (by omega) (by assumption) | exact xup_o (by omega) (xup_s _ _ _) | exact xup_o (by omega) (xup_o (by omega) (by assumption)) | exact xup_o (by omega) (xup_o (by omega) (xup_s _ _ _)) | exact xup_o (by omega) (xup_o (by omega) (xup_o (by omega) (by assumption)))) (by omega) (by omega) ?_
                rw [u2]
                first | refine xn_iadd (pc := 199) hX d_Mod_open_199 ?_ | refine xg_iadd (pc := 199) hX d_Mod_open_199 ?_
                refine xp_istore_3 (pc := 200) hX d_Mod_open_200 (by decide) ?_
                refine xp_aload_0 (pc := 201) hX d_Mod_open_201 ?_
                refine xg_get (pc := 202) hX (j := 15) k_Mod d_Mod_open_202 l_Mod_40 (by decide) (by first | assumption | exact xup_s _ _ _ | exact xup_o (by omega) (by assumption) | exact xup_o (by omega) (xup_s _ _ _) | exact xup_o (by omega) (xup_o (by omega) (by assumption)) | exact xup_o (by omega) (xup_o (by omega) (xup_s _ _ _)) | exact xup_o (by omega) (xup_o (by omega) (xup_o (by omega) (by assumption)))) (by rfl) ?_
                refine xp_iload_3 (pc := 205) hX d_Mod_open_205 ?_
                refine xp_aload_0 (pc := 206) hX d_Mod_open_206 ?_
                refine xg_get (pc := 207) hX (j := 7) k_Mod d_Mod_open_207 l_Mod_95 (by decide) (by first | assumption | exact xup_s _ _ _ | exact xup_o (by omega) (by assumption) | exact xup_o (by omega) (xup_s _ _ _) | exact xup_o (by omega) (xup_o (by omega) (by assumption)) | exact xup_o (by omega) (xup_o (by omega) (xup_s _ _ _)) | exact xup_o (by omega) (xup_o (by omega) (xup_o (by omega) (by assumption)))) (by rfl) ?_
                refine xn_iast (pc := 210) hX d_Mod_open_210 rfl (by first | assumption | exact xup_s _ _ _ | exact xup_o (by omega) (by assumption) | exact xup_o (by omega) (xup_s _ _ _) | exact xup_o (by omega) (xup_o (by omega) (by assumption)) | exact xup_o (by omega) (xup_o (by omega) (xup_s _ _ _)) | exact xup_o (by omega) (xup_o (by omega) (xup_o (by omega) (by assumption)))) (by omega) (by omega) ?_
                refine xg_iconst (pc := 211) hX (nI 0) d_Mod_open_211 ci_iconst_0 ?_
                refine xp_istore_4 (pc := 212) hX d_Mod_open_212 (by decide) ?_
                have cp : ∀ (r2 i : Nat) (M6 : xH) (fs2 : Nat → Int32), nm.length - i = r2 → i ≤ nm.length → M6 O = some (moC O [] t out nm es dp se1 sub fd fr bg none nx2 kd fi la va) → M6 (O + 4) = some (.inl (1, 201, .inl gf)) → M6 (O + 10) = some (.inl (1, 19200, .inl fs2)) → M6 (O + 11) = some (.inl (1, 96, .inl (upd fz (12 * dp + LL.length) (nI nm.length)))) → M6 (O + 12) = some (.inl (1, 8, .inl fc)) → (∀ (j : Nat) (c : UInt8), j < i → nm[j]? = some c → fs2 (200 * (12 * dp + LL.length) + j) = nI c.toNat) → (∀ q, q < 200 * (12 * dp + LL.length) → fs2 q = fs q) → (∀ q, (q < O + 10 ∨ O + 13 ≤ q) → M6 q = M5 q) → xG K 214 [some (.ref O), some (.int (nI a)), v2, some (.int (nI (12 * dp + LL.length))), some (.int (nI i))] [] M6 sz 0 0 := by
                  intro r2
                  induction r2 with
                  | zero =>
                    intro i M6 fs2 hr hi h0 h4 h10 h11 h12 hn1 hn2 hq
                    refine xp_iload_4 (pc := 214) hX d_Mod_open_214 ?_
                    refine xp_aload_0 (pc := 216) hX d_Mod_open_216 ?_
                    refine xg_get (pc := 217) hX (j := 7) k_Mod d_Mod_open_217 l_Mod_95 (by decide) (by first | assumption | exact xup_s _ _ _ | exact xup_o (by omega) (by assumption) | exact xup_o (by omega) (xup_s _ _ _) | exact xup_o (by omega) (xup_o (by omega) (by assumption)) | exact xup_o (by omega) (xup_o (by omega) (xup_s _ _ _)) | exact xup_o (by omega) (xup_o (by omega) (xup_o (by omega) (by assumption)))) (by rfl) ?_
                    refine xn_icmp_ge (pc := 220) hX 249 d_Mod_open_220 (by decide) (by omega) (by omega) (fun _ => ?_) (fun z => absurd z (by omega))
                    refine xp_aload_0 (pc := 249) hX d_Mod_open_249 ?_
                    refine xg_get (pc := 250) hX (j := 16) k_Mod d_Mod_open_250 l_Mod_43 (by decide) (by first | assumption | exact xup_s _ _ _ | exact xup_o (by omega) (by assumption) | exact xup_o (by omega) (xup_s _ _ _) | exact xup_o (by omega) (xup_o (by omega) (by assumption)) | exact xup_o (by omega) (xup_o (by omega) (xup_s _ _ _)) | exact xup_o (by omega) (xup_o (by omega) (xup_o (by omega) (by assumption)))) (by rfl) ?_
                    refine xp_aload_0 (pc := 253) hX d_Mod_open_253 ?_
                    refine xg_get (pc := 254) hX (j := 17) k_Mod d_Mod_open_254 l_Mod_108 (by decide) (by first | assumption | exact xup_s _ _ _ | exact xup_o (by omega) (by assumption) | exact xup_o (by omega) (xup_s _ _ _) | exact xup_o (by omega) (xup_o (by omega) (by assumption)) | exact xup_o (by omega) (xup_o (by omega) (xup_s _ _ _)) | exact xup_o (by omega) (xup_o (by omega) (xup_o (by omega) (by assumption)))) (by rfl) ?_
                    refine xg_dup2 (pc := 257) hX d_Mod_open_257 rfl rfl ?_
                    refine xn_iald (pc := 258) hX d_Mod_open_258 rfl (by first | assumption | exact xup_s _ _ _ | exact xup_o (by omega) (by assumption) | exact xup_o (by omega) (xup_s _ _ _) | exact xup_o (by omega) (xup_o (by omega) (by assumption)) | exact xup_o (by omega) (xup_o (by omega) (xup_s _ _ _)) | exact xup_o (by omega) (xup_o (by omega) (xup_o (by omega) (by assumption)))) (by omega) (by omega) ?_
                    rw [u2]
                    refine xg_iconst (pc := 259) hX (nI 1) d_Mod_open_259 ci_iconst_1 ?_
                    first | refine xn_iadd (pc := 260) hX d_Mod_open_260 ?_ | refine xg_iadd (pc := 260) hX d_Mod_open_260 ?_
                    refine xn_iast (pc := 261) hX d_Mod_open_261 rfl (by first | assumption | exact xup_s _ _ _ | exact xup_o (by omega) (by assumption) | exact xup_o (by omega) (xup_s _ _ _) | exact xup_o (by omega) (xup_o (by omega) (by assumption)) | exact xup_o (by omega) (xup_o (by omega) (xup_s _ _ _)) | exact xup_o (by omega) (xup_o (by omega) (xup_o (by omega) (by assumption)))) (by omega) (by omega) ?_
                    refine k262 _ (se1 ++ [(dp, nm)]) _ _ _ ?_ ?_ (SeO_app hso1 hdp hdp1) ?_ ?_ ?_ (by rw [htd]; rfl)
                    · refine w5.sp (pool' := dp) (se' := se1 ++ [(dp, nm)]) ?_ ⟨by omega, fs2, upd fz (12 * dp + LL.length) (nI nm.length), upd fc dp (nI (LL.length + 1)), ?_, ?_, xup_s _ _ _, fun p hp1' hp2' => ?_⟩ (fun q a b => ?_)
                      · rw [xup_n _ _ (by omega)]; exact h0
                      · rw [xup_n _ _ (by omega)]; exact h10
                      · rw [xup_n _ _ (by omega)]; exact h11
                      · rw [hSA p]
                        by_cases hpd : p = dp
                        · subst hpd
                          rw [if_pos rfl, hLL]
                          refine ⟨by simp; omega, by rw [pk_us]; simp, fun k s hs => ?_⟩
                          by_cases hk : k = LL.length
                          · subst hk
                            simp at hs
                            subst hs
                            exact ⟨pk_us, ⟨hnz, c1⟩, fun j c hc => hn1 j c (by have := (List.getElem?_eq_some_iff.mp hc).1; omega) hc⟩
                          · rw [List.getElem?_append] at hs
                            split at hs
                            · rename_i hkl
                              obtain ⟨y1, y2, y3⟩ := u3 k s hs
                              exact ⟨by rw [pk_un (by omega)]; exact y1, y2, fun j c hc => by rw [hn2 _ (by have := (List.getElem?_eq_some_iff.mp hc).1; omega)]; exact y3 j c hc⟩
                            · have := (List.getElem?_eq_some_iff.mp hs).1
                              simp at this
                              omega
                        · rw [if_neg hpd]
                          obtain ⟨x1, x2, x3⟩ := q5 p hp1' hp2'
                          refine ⟨x1, by rw [pk_un hpd]; exact x2, fun k s hs => ?_⟩
                          have hkl := (List.getElem?_eq_some_iff.mp hs).1
                          obtain ⟨y1, y2, y3⟩ := x3 k s hs
                          exact ⟨by rw [pk_un (by omega)]; exact y1, y2, fun j c hc => by rw [hn2 _ (by have := (List.getElem?_eq_some_iff.mp hc).1; omega)]; exact y3 j c hc⟩
                      · rw [xup_n _ _ (by omega)]; exact hq q b
                    · refine (f3.tr f5).tr (fun q hq1 => ?_)
                      rw [xup_n _ _ (by omega)]
                      exact hq q (by omega)
                    · intro s hs
                      rcases List.mem_append.mp hs with z | z
                      · exact hdp1 s z
                      · rw [List.mem_singleton.mp z]; exact Nat.le_refl _
                    · intro p hp
                      rw [hSA p, if_neg (by omega)]
                      exact hp1 p hp
                    · rw [hSA dp, if_pos rfl, hLL, List.length_append]
                      simp only [List.length_cons, List.length_nil]
                      omega
                  | succ r2 ih2 =>
                    intro i M6 fs2 hr hi h0 h4 h10 h11 h12 hn1 hn2 hq
                    refine xp_iload_4 (pc := 214) hX d_Mod_open_214 ?_
                    refine xp_aload_0 (pc := 216) hX d_Mod_open_216 ?_
                    refine xg_get (pc := 217) hX (j := 7) k_Mod d_Mod_open_217 l_Mod_95 (by decide) (by first | assumption | exact xup_s _ _ _ | exact xup_o (by omega) (by assumption) | exact xup_o (by omega) (xup_s _ _ _) | exact xup_o (by omega) (xup_o (by omega) (by assumption)) | exact xup_o (by omega) (xup_o (by omega) (xup_s _ _ _)) | exact xup_o (by omega) (xup_o (by omega) (xup_o (by omega) (by assumption)))) (by rfl) ?_
                    refine xn_icmp_ge (pc := 220) hX 249 d_Mod_open_220 (by decide) (by omega) (by omega) (fun z => absurd z (by omega)) (fun _ => ?_)
                    refine xp_aload_0 (pc := 223) hX d_Mod_open_223 ?_
                    refine xg_get (pc := 224) hX (j := 14) k_Mod d_Mod_open_224 l_Mod_37 (by decide) (by first | assumption | exact xup_s _ _ _ | exact xup_o (by omega) (by assumption) | exact xup_o (by omega) (xup_s _ _ _) | exact xup_o (by omega) (xup_o (by omega) (by assumption)) | exact xup_o (by omega) (xup_o (by omega) (xup_s _ _ _)) | exact xup_o (by omega) (xup_o (by omega) (xup_o (by omega) (by assumption)))) (by rfl) ?_
                    refine xg_sipush (pc := 227) hX (nI 200) d_Mod_open_227 ci_sipush_200 ?_
                    refine xp_iload_3 (pc := 230) hX d_Mod_open_230 ?_
                    first | refine xn_imul (pc := 231) hX d_Mod_open_231 ?_ | refine xg_imul (pc := 231) hX d_Mod_open_231 ?_
                    refine xp_iload_4 (pc := 232) hX d_Mod_open_232 ?_
                    first | refine xn_iadd (pc := 234) hX d_Mod_open_234 ?_ | refine xg_iadd (pc := 234) hX d_Mod_open_234 ?_
                    refine xp_aload_0 (pc := 235) hX d_Mod_open_235 ?_
                    refine xg_get (pc := 236) hX (j := 3) k_Mod d_Mod_open_236 l_Mod_19 (by decide) (by first | assumption | exact xup_s _ _ _ | exact xup_o (by omega) (by assumption) | exact xup_o (by omega) (xup_s _ _ _) | exact xup_o (by omega) (xup_o (by omega) (by assumption)) | exact xup_o (by omega) (xup_o (by omega) (xup_s _ _ _)) | exact xup_o (by omega) (xup_o (by omega) (xup_o (by omega) (by assumption)))) (by rfl) ?_
                    refine xp_iload_4 (pc := 239) hX d_Mod_open_239 ?_
                    refine xn_iald (pc := 241) hX d_Mod_open_241 rfl (by first | assumption | exact xup_s _ _ _ | exact xup_o (by omega) (by assumption) | exact xup_o (by omega) (xup_s _ _ _) | exact xup_o (by omega) (xup_o (by omega) (by assumption)) | exact xup_o (by omega) (xup_o (by omega) (xup_s _ _ _)) | exact xup_o (by omega) (xup_o (by omega) (xup_o (by omega) (by assumption)))) (by omega) (by omega) ?_
                    refine xn_iast (pc := 242) hX d_Mod_open_242 rfl (by first | assumption | exact xup_s _ _ _ | exact xup_o (by omega) (by assumption) | exact xup_o (by omega) (xup_s _ _ _) | exact xup_o (by omega) (xup_o (by omega) (by assumption)) | exact xup_o (by omega) (xup_o (by omega) (xup_s _ _ _)) | exact xup_o (by omega) (xup_o (by omega) (xup_o (by omega) (by assumption)))) (by omega) (by omega) ?_
                    refine xp_inc_4 (pc := 243) hX d_Mod_open_243 (by decide) ?_
                    refine xg_goto (pc := 246) hX 214 d_Mod_open_246 (by decide) ?_
                    refine ih2 (i + 1) _ _ (by omega) (by omega) ?_ ?_ (xup_s _ _ _) ?_ ?_ (fun j c hj hc => ?_) (fun q hq1 => ?_) (fun q hq1 => ?_)
                    · rw [xup_n _ _ (by omega)]; exact h0
                    · rw [xup_n _ _ (by omega)]; exact h4
                    · rw [xup_n _ _ (by omega)]; exact h11
                    · rw [xup_n _ _ (by omega)]; exact h12
                    · by_cases e : j = i
                      · subst e
                        rw [pk_us]
                        exact h4b j c hc
                      · rw [pk_un (by omega)]
                        exact hn1 j c (by omega) hc
                    · rw [pk_un (by omega)]
                      exact hn2 q hq1
                    · rw [xup_n _ _ (by omega)]; exact hq q hq1
                refine cp _ 0 _ fs rfl (by omega) ?_ ?_ ?_ (xup_s _ _ _) ?_ (fun j c hj => absurd hj (by omega)) (fun _ _ => rfl) (fun q hq1 => xup_n _ _ (by omega))
                · rw [xup_n _ _ (by omega)]; exact h0
                · rw [xup_n _ _ (by omega)]; exact h4a
                · rw [xup_n _ _ (by omega)]; exact q2
                · rw [xup_n _ _ (by omega)]; exact q4
              refine xg_iconst (pc := 104) hX (nI 0) d_Mod_open_104 ci_iconst_0 ?_
              refine xp_istore_2 (pc := 105) hX d_Mod_open_105 (by decide) ?_
              refine xg_bipush (pc := 106) hX (nI 12) d_Mod_open_106 ci_bipush_12 ?_
              refine xp_aload_0 (pc := 108) hX d_Mod_open_108 ?_
              refine xg_get (pc := 109) hX (j := 17) k_Mod d_Mod_open_109 l_Mod_108 (by decide) (by first | assumption | exact xup_s _ _ _ | exact xup_o (by omega) (by assumption) | exact xup_o (by omega) (xup_s _ _ _) | exact xup_o (by omega) (xup_o (by omega) (by assumption)) | exact xup_o (by omega) (xup_o (by omega) (xup_s _ _ _)) | exact xup_o (by omega) (xup_o (by omega) (xup_o (by omega) (by assumption)))) (by rfl) ?_
              first | refine xn_imul (pc := 112) hX d_Mod_open_112 ?_ | refine xg_imul (pc := 112) hX d_Mod_open_112 ?_
              refine xp_istore_3 (pc := 113) hX d_Mod_open_113 (by decide) ?_
              have had : ∀ (r2 j : Nat) (b : Bool), LL.length - j = r2 → j ≤ LL.length → (LL.take j).any (fun s => s == nm) = b → xG K 114 [some (.ref O), some (.int (nI a)), some (.int (bI b)), some (.int (nI (12 * dp + j))), v4] [] M5 sz 0 0 := by
                intro r2
                induction r2 with
                | zero =>
                  intro j b hr hj hb
                  rw [List.take_of_length_le (by omega), ← htold] at hb
                  refine xp_iload_3 (pc := 114) hX d_Mod_open_114 ?_
                  refine xg_bipush (pc := 115) hX (nI 12) d_Mod_open_115 ci_bipush_12 ?_
                  refine xp_aload_0 (pc := 117) hX d_Mod_open_117 ?_
                  refine xg_get (pc := 118) hX (j := 17) k_Mod d_Mod_open_118 l_Mod_108 (by decide) (by first | assumption | exact xup_s _ _ _ | exact xup_o (by omega) (by assumption) | exact xup_o (by omega) (xup_s _ _ _) | exact xup_o (by omega) (xup_o (by omega) (by assumption)) | exact xup_o (by omega) (xup_o (by omega) (xup_s _ _ _)) | exact xup_o (by omega) (xup_o (by omega) (xup_o (by omega) (by assumption)))) (by rfl) ?_
                  first | refine xn_imul (pc := 121) hX d_Mod_open_121 ?_ | refine xg_imul (pc := 121) hX d_Mod_open_121 ?_
                  refine xp_aload_0 (pc := 122) hX d_Mod_open_122 ?_
                  refine xg_get (pc := 123) hX (j := 16) k_Mod d_Mod_open_123 l_Mod_43 (by decide) (by first | assumption | exact xup_s _ _ _ | exact xup_o (by omega) (by assumption) | exact xup_o (by omega) (xup_s _ _ _) | exact xup_o (by omega) (xup_o (by omega) (by assumption)) | exact xup_o (by omega) (xup_o (by omega) (xup_s _ _ _)) | exact xup_o (by omega) (xup_o (by omega) (xup_o (by omega) (by assumption)))) (by rfl) ?_
                  refine xp_aload_0 (pc := 126) hX d_Mod_open_126 ?_
                  refine xg_get (pc := 127) hX (j := 17) k_Mod d_Mod_open_127 l_Mod_108 (by decide) (by first | assumption | exact xup_s _ _ _ | exact xup_o (by omega) (by assumption) | exact xup_o (by omega) (xup_s _ _ _) | exact xup_o (by omega) (xup_o (by omega) (by assumption)) | exact xup_o (by omega) (xup_o (by omega) (xup_s _ _ _)) | exact xup_o (by omega) (xup_o (by omega) (xup_o (by omega) (by assumption)))) (by rfl) ?_
                  refine xn_iald (pc := 130) hX d_Mod_open_130 rfl (by first | assumption | exact xup_s _ _ _ | exact xup_o (by omega) (by assumption) | exact xup_o (by omega) (xup_s _ _ _) | exact xup_o (by omega) (xup_o (by omega) (by assumption)) | exact xup_o (by omega) (xup_o (by omega) (xup_s _ _ _)) | exact xup_o (by omega) (xup_o (by omega) (xup_o (by omega) (by assumption)))) (by omega) (by omega) ?_
                  rw [u2]
                  first | refine xn_iadd (pc := 131) hX d_Mod_open_131 ?_ | refine xg_iadd (pc := 131) hX d_Mod_open_131 ?_
                  refine xn_icmp_ge (pc := 132) hX 176 d_Mod_open_132 (by decide) (by omega) (by omega) (fun _ => ?_) (fun z => absurd z (by omega))
                  refine xp_iload_2 (pc := 176) hX d_Mod_open_176 ?_
                  refine xg_if_eq (pc := 177) hX 183 d_Mod_open_177 (by decide) (fun z => ?_) (fun z => ?_)
                  · exact k183 _ _ _ (by rw [hb]; exact bI_eq0.mp z)
                  · have z := bI_ne0.mp z
                    refine xg_goto (pc := 180) hX 262 d_Mod_open_180 (by decide) ?_
                    exact k262 M5 se1 _ _ _ w5 (f3.tr f5) hso1 hdp1 hp1 (by rw [hLL]; omega) (by rw [hb, z]; rfl)
                | succ r2 ih2 =>
                  intro j b hr hj hb
                  have hj1 : j < LL.length := by omega
                  obtain ⟨y1, ⟨y2, y2'⟩, y3⟩ := u3 j LL[j] (List.getElem?_eq_getElem hj1)
                  have hnext : ∀ b2, (b || LL[j] == nm) = b2 → (LL.take (j + 1)).any (fun s => s == nm) = b2 := by
                    intro b2 hb2
                    rw [List.take_succ_eq_append_getElem hj1, List.any_append, hb]
                    simp only [List.any_cons, List.any_nil, Bool.or_false]
                    exact hb2
                  generalize LL[j] = s at *
                  have k169 : ∀ (b2 : Bool), (b || s == nm) = b2 → xG K 169 [some (.ref O), some (.int (nI a)), some (.int (bI b)), some (.int (nI (12 * dp + j))), v4] [.int (bI b2)] M5 sz 0 0 := by
                    intro b2 hb2
                    refine xp_istore_2 (pc := 169) hX d_Mod_open_169 (by decide) ?_
                    refine xp_inc_3 (pc := 170) hX d_Mod_open_170 (by decide) ?_
                    refine xg_goto (pc := 173) hX 114 d_Mod_open_173 (by decide) ?_
                    exact ih2 (j + 1) b2 (by omega) (by omega) (hnext b2 hb2)
                  have k164 : (b || s == nm) = true → xG K 164 [some (.ref O), some (.int (nI a)), some (.int (bI b)), some (.int (nI (12 * dp + j))), v4] [] M5 sz 0 0 := by
                    intro hb2
                    refine xg_iconst (pc := 164) hX (nI 1) d_Mod_open_164 ci_iconst_1 ?_
                    refine xg_goto (pc := 165) hX 169 d_Mod_open_165 (by decide) ?_
                    exact k169 true hb2
                  have k168 : (b || s == nm) = false → xG K 168 [some (.ref O), some (.int (nI a)), some (.int (bI b)), some (.int (nI (12 * dp + j))), v4] [] M5 sz 0 0 := by
                    intro hb2
                    refine xg_iconst (pc := 168) hX (nI 0) d_Mod_open_168 ci_iconst_0 ?_
                    exact k169 false hb2
                  refine xp_iload_3 (pc := 114) hX d_Mod_open_114 ?_
                  refine xg_bipush (pc := 115) hX (nI 12) d_Mod_open_115 ci_bipush_12 ?_
                  refine xp_aload_0 (pc := 117) hX d_Mod_open_117 ?_
                  refine xg_get (pc := 118) hX (j := 17) k_Mod d_Mod_open_118 l_Mod_108 (by decide) (by first | assumption | exact xup_s _ _ _ | exact xup_o (by omega) (by assumption) | exact xup_o (by omega) (xup_s _ _ _) | exact xup_o (by omega) (xup_o (by omega) (by assumption)) | exact xup_o (by omega) (xup_o (by omega) (xup_s _ _ _)) | exact xup_o (by omega) (xup_o (by omega) (xup_o (by omega) (by assumption)))) (by rfl) ?_
                  first | refine xn_imul (pc := 121) hX d_Mod_open_121 ?_ | refine xg_imul (pc := 121) hX d_Mod_open_121 ?_
                  refine xp_aload_0 (pc := 122) hX d_Mod_open_122 ?_
                  refine xg_get (pc := 123) hX (j := 16) k_Mod d_Mod_open_123 l_Mod_43 (by decide) (by first | assumption | exact xup_s _ _ _ | exact xup_o (by omega) (by assumption) | exact xup_o (by omega) (xup_s _ _ _) | exact xup_o (by omega) (xup_o (by omega) (by assumption)) | exact xup_o (by omega) (xup_o (by omega) (xup_s _ _ _)) | exact xup_o (by omega) (xup_o (by omega) (xup_o (by omega) (by assumption)))) (by rfl) ?_
                  refine xp_aload_0 (pc := 126) hX d_Mod_open_126 ?_
                  refine xg_get (pc := 127) hX (j := 17) k_Mod d_Mod_open_127 l_Mod_108 (by decide) (by first | assumption | exact xup_s _ _ _ | exact xup_o (by omega) (by assumption) | exact xup_o (by omega) (xup_s _ _ _) | exact xup_o (by omega) (xup_o (by omega) (by assumption)) | exact xup_o (by omega) (xup_o (by omega) (xup_s _ _ _)) | exact xup_o (by omega) (xup_o (by omega) (xup_o (by omega) (by assumption)))) (by rfl) ?_
                  refine xn_iald (pc := 130) hX d_Mod_open_130 rfl (by first | assumption | exact xup_s _ _ _ | exact xup_o (by omega) (by assumption) | exact xup_o (by omega) (xup_s _ _ _) | exact xup_o (by omega) (xup_o (by omega) (by assumption)) | exact xup_o (by omega) (xup_o (by omega) (xup_s _ _ _)) | exact xup_o (by omega) (xup_o (by omega) (xup_o (by omega) (by assumption)))) (by omega) (by omega) ?_
                  rw [u2]
                  first | refine xn_iadd (pc := 131) hX d_Mod_open_131 ?_ | refine xg_iadd (pc := 131) hX d_Mod_open_131 ?_
                  refine xn_icmp_ge (pc := 132) hX 176 d_Mod_open_132 (by decide) (by omega) (by omega) (fun z => absurd z (by omega)) (fun _ => ?_)
                  refine xp_iload_2 (pc := 135) hX d_Mod_open_135 ?_
                  refine xg_if_ne (pc := 136) hX 164 d_Mod_open_136 (by decide) (fun z => ?_) (fun z => ?_)
                  · exact k164 (by rw [bI_ne0.mp z]; rfl)
                  · have zb := bI_eq0.mp z
                    refine xp_aload_0 (pc := 139) hX d_Mod_open_139 ?_
                    refine xg_get (pc := 140) hX (j := 15) k_Mod d_Mod_open_140 l_Mod_40 (by decide) (by first | assumption | exact xup_s _ _ _ | exact xup_o (by omega) (by assumption) | exact xup_o (by omega) (xup_s _ _ _) | exact xup_o (by omega) (xup_o (by omega) (by assumption)) | exact xup_o (by omega) (xup_o (by omega) (xup_s _ _ _)) | exact xup_o (by omega) (xup_o (by omega) (xup_o (by omega) (by assumption)))) (by rfl) ?_
                    refine xp_iload_3 (pc := 143) hX d_Mod_open_143 ?_
                    refine xn_iald (pc := 144) hX d_Mod_open_144 rfl (by first | assumption | exact xup_s _ _ _ | exact xup_o (by omega) (by assumption) | exact xup_o (by omega) (xup_s _ _ _) | exact xup_o (by omega) (xup_o (by omega) (by assumption)) | exact xup_o (by omega) (xup_o (by omega) (xup_s _ _ _)) | exact xup_o (by omega) (xup_o (by omega) (xup_o (by omega) (by assumption)))) (by omega) (by omega) ?_
                    rw [y1]
                    refine xp_aload_0 (pc := 145) hX d_Mod_open_145 ?_
                    refine xg_get (pc := 146) hX (j := 7) k_Mod d_Mod_open_146 l_Mod_95 (by decide) (by first | assumption | exact xup_s _ _ _ | exact xup_o (by omega) (by assumption) | exact xup_o (by omega) (xup_s _ _ _) | exact xup_o (by omega) (xup_o (by omega) (by assumption)) | exact xup_o (by omega) (xup_o (by omega) (xup_s _ _ _)) | exact xup_o (by omega) (xup_o (by omega) (xup_o (by omega) (by assumption)))) (by rfl) ?_
                    refine xn_icmp_ne (pc := 149) hX 168 d_Mod_open_149 (by decide) (by omega) (by omega) (fun z1 => ?_) (fun z1 => ?_)
                    · exact k168 (by rw [zb, show (s == nm) = false by rw [beq_eq_false_iff_ne]; exact fun q => z1 (by rw [q])]; rfl)
                    · refine xp_aload_0 (pc := 152) hX d_Mod_open_152 ?_
                      refine xp_iload_3 (pc := 153) hX d_Mod_open_153 ?_
                      refine xp_aload_0 (pc := 154) hX d_Mod_open_154 ?_
                      refine xg_get (pc := 155) hX (j := 7) k_Mod d_Mod_open_155 l_Mod_95 (by decide) (by first | assumption | exact xup_s _ _ _ | exact xup_o (by omega) (by assumption) | exact xup_o (by omega) (xup_s _ _ _) | exact xup_o (by omega) (xup_o (by omega) (by assumption)) | exact xup_o (by omega) (xup_o (by omega) (xup_s _ _ _)) | exact xup_o (by omega) (xup_o (by omega) (xup_o (by omega) (by assumption)))) (by rfl) ?_
                      rw [← z1]
                      refine xi_V (Y2 := Y_Mod_isAlike) (pc := 158) hX [_, _] k_Mod m_Mod_isAlike d_Mod_open_158 l_Mod_101 rfl rfl (by simp [Value.category]) (by first | assumption | exact xup_s _ _ _ | exact xup_o (by omega) (by assumption) | exact xup_o (by omega) (xup_s _ _ _) | exact xup_o (by omega) (xup_o (by omega) (by assumption)) | exact xup_o (by omega) (xup_o (by omega) (xup_s _ _ _)) | exact xup_o (by omega) (xup_o (by omega) (xup_o (by omega) (by assumption)))) (c_Mod_isAlike (d + 4) w5 q2 (by omega) y2' (by omega) y3) (by omega) (by omega) ?_
                      rintro y M6 ⟨rfl, rfl⟩
                      have hpe := pre_eq (a := nm) (b := s) z1.symm
                      have hsym : (nm == s) = (s == nm) := by
                        rw [Bool.eq_iff_iff, beq_iff_eq, beq_iff_eq]
                        exact eq_comm
                      rw [hpe, hsym]
                      refine xg_if_eq (pc := 161) hX 168 d_Mod_open_161 (by decide) (fun z2 => ?_) (fun z2 => ?_)
                      · exact k168 (by rw [zb, bI_eq0.mp z2]; rfl)
                      · exact k164 (by rw [bI_ne0.mp z2]; simp)
              exact had _ 0 false rfl (by omega) (by simp)
            · rw [if_neg (by omega)] at hop2
              rw [hop2] at hS
              dsimp only at hS
              rw [hS] at hE
              obtain ⟨h0, -, -, -, -, -, ⟨q1, fs, fz, fc, q2, q3, q4, q5⟩, -⟩ := id w5
              refine xn_if_ne (a := 0) (pc := 88) hX 104 d_Mod_open_88 (by decide) (by decide) (fun z => absurd z (by decide)) (fun _ => ?_)
              refine xp_aload_0 (pc := 91) hX d_Mod_open_91 ?_
              refine xg_dup (pc := 92) hX d_Mod_open_92 rfl ?_
              refine xg_get (pc := 93) hX (j := 17) k_Mod d_Mod_open_93 l_Mod_108 (by decide) (by first | assumption | exact xup_s _ _ _ | exact xup_o (by omega) (by assumption) | exact xup_o (by omega) (xup_s _ _ _) | exact xup_o (by omega) (xup_o (by omega) (by assumption)) | exact xup_o (by omega) (xup_o (by omega) (xup_s _ _ _)) | exact xup_o (by omega) (xup_o (by omega) (xup_o (by omega) (by assumption)))) (by rfl) ?_
              refine xg_iconst (pc := 96) hX (nI 1) d_Mod_open_96 ci_iconst_1 ?_
              first | refine xn_isub (pc := 97) hX d_Mod_open_97 (by omega) ?_ | refine xg_isub (pc := 97) hX d_Mod_open_97 ?_
              refine xg_put (pc := 98) hX (j := 17) k_Mod d_Mod_open_98 l_Mod_108 (by decide) rfl (by first | assumption | exact xup_s _ _ _ | exact xup_o (by omega) (by assumption) | exact xup_o (by omega) (xup_s _ _ _) | exact xup_o (by omega) (xup_o (by omega) (by assumption)) | exact xup_o (by omega) (xup_o (by omega) (xup_s _ _ _)) | exact xup_o (by omega) (xup_o (by omega) (xup_o (by omega) (by assumption)))) (Nat.le_of_ble_eq_true rfl) rfl rfl (by simp only [List.set_cons_zero, List.set_cons_succ]; exact rfl) ?_
              refine xg_bipush (pc := 101) hX (-2) d_Mod_open_101 ci_bipush_m2 ?_
              refine xg_iret (pc := 103) hX hE d_Mod_open_103 rfl rfl (by omega) (by omega) ?_
              refine ⟨rfl, _, rfl, rfl, ⟨hdp, t, f', fd, none, nx2, kd, fi, la, va, w5.sp (pool' := dp - 1) (se' := se) (xup_s _ _ _) ⟨by omega, fs, fz, fc, ?_, ?_, ?_, fun p hp1' hp2' => ?_⟩ (fun q a _ => xup_n _ _ a)⟩, (f3.tr f5).up' _ (by omega) (by omega)⟩
              · rw [xup_n _ _ (by omega)]; exact q2
              · rw [xup_n _ _ (by omega)]; exact q3
              · rw [xup_n _ _ (by omega)]; exact q4
              · rw [← hp1 p (by omega)]
                exact q5 p hp1' (by omega)
        have hsd : sOf se dp = [] := by
          unfold sOf
          rw [List.filter_eq_nil_iff.mpr (fun s hs => by
            have := (i2 s hs).2
            simp only [beq_iff_eq]
            omega)]
          rfl
        refine loop L.2 0 _ se full _ _ _ hWL (by omega) ?_ ?_ hso (fun s hs => by have := (i2 s hs).2; omega) (fun _ _ => rfl) (by rw [hsd]; simpa using hlen) rfl
        · refine w2.sp (pool' := dp) (se' := se) ?_ ⟨by omega, fs, fz, upd fc dp (nI 0), ?_, ?_, ?_, fun p hp1' hp2' => ?_⟩ (fun q a b => ?_)
          · rw [xup_n _ _ (by omega), xup_s, show dp - 1 + 1 = dp by omega]
          · rw [xup_n _ _ (by omega), xup_n _ _ (by omega)]; exact g2
          · rw [xup_n _ _ (by omega), xup_n _ _ (by omega)]; exact g3
          · rw [xup_s, show dp - 1 + 1 = dp by omega]
          · by_cases hpd : p = dp
            · subst hpd
              rw [hsd]
              exact ⟨Nat.zero_le _, pk_us, fun k s hs => by simp at hs⟩
            · obtain ⟨x1, x2, x3⟩ := g5 p hp1' (by omega)
              exact ⟨x1, by rw [pk_un hpd]; exact x2, x3⟩
          · rw [xup_n _ _ (by omega), xup_n _ _ a]
        · exact (f2.up' _ (by omega) (by omega)).up' _ (by omega) (by omega)
      · rw [if_neg (by omega)] at hS
        rw [hS] at hE
        refine xg_bipush (pc := 45) hX (-4) d_Mod_open_45 ci_bipush_m4 ?_
        refine xg_iret (pc := 47) hX hE d_Mod_open_47 rfl rfl (by omega) (by omega) ?_
        exact ⟨rfl, _, rfl, rfl, ⟨hdp, _, _, _, _, _, _, _, _, _, w2⟩, f2⟩
    · rw [if_neg c] at w2 h0 ⊢
      have hS := hSb (Bool.eq_false_iff.mpr c)
      rw [hS] at hE
      refine xn_if_lt (a := L.1.1) (pc := 22) hX 34 d_Mod_open_22 (by decide) (by omega) ?_
      refine xg_sipush (pc := 25) hX (-1000) d_Mod_open_25 ci_sipush_m1000 ?_
      refine xp_aload_0 (pc := 28) hX d_Mod_open_28 ?_
      refine xg_get (pc := 29) hX (j := 24) k_Mod d_Mod_open_29 l_Mod_75 (by decide) (by first | assumption | exact xup_s _ _ _ | exact xup_o (by omega) (by assumption) | exact xup_o (by omega) (xup_s _ _ _) | exact xup_o (by omega) (xup_o (by omega) (by assumption)) | exact xup_o (by omega) (xup_o (by omega) (xup_s _ _ _)) | exact xup_o (by omega) (xup_o (by omega) (xup_o (by omega) (by assumption)))) (by rfl) ?_
      refine xg_isub (pc := 32) hX d_Mod_open_32 ?_
      refine xg_iret (pc := 33) hX hE d_Mod_open_33 rfl rfl (by omega) (by omega) ?_
      exact ⟨rfl, _, rfl, rfl, ⟨hdp, _, _, _, _, _, _, _, _, _, w2⟩, f2⟩
  refine xp_aload_0 (pc := 0) hX d_Mod_open_0 ?_
  refine xv_V (Y2 := Y_Mod_take) (pc := 1) hX [] k_Mod m_Mod_take d_Mod_open_1 l_Mod_143 rfl rfl (by simp [Value.category]) (by first | assumption | exact xup_s _ _ _ | exact xup_o (by omega) (by assumption) | exact xup_o (by omega) (xup_s _ _ _) | exact xup_o (by omega) (xup_o (by omega) (by assumption)) | exact xup_o (by omega) (xup_o (by omega) (xup_s _ _ _)) | exact xup_o (by omega) (xup_o (by omega) (xup_o (by omega) (by assumption)))) (c_Mod_take (d + 4) hw) (by omega) (by omega) ?_
  rintro M1 ⟨w1, f1⟩
  obtain ⟨h0, -⟩ := id w1
  refine xp_aload_0 (pc := 4) hX d_Mod_open_4 ?_
  refine xg_get (pc := 5) hX (j := 5) k_Mod d_Mod_open_5 l_Mod_72 (by decide) (by first | assumption | exact xup_s _ _ _ | exact xup_o (by omega) (by assumption) | exact xup_o (by omega) (xup_s _ _ _) | exact xup_o (by omega) (xup_o (by omega) (by assumption)) | exact xup_o (by omega) (xup_o (by omega) (xup_s _ _ _)) | exact xup_o (by omega) (xup_o (by omega) (xup_o (by omega) (by assumption)))) (by rfl) ?_
  refine xn_if_le (pc := 8) hX 18 d_Mod_open_8 (by decide) (by omega) (fun z => ?_) (fun z => ?_)
  · refine k18 M1 0 ?_ f1
    rw [hrM0 z, if_pos rfl]
    exact w1
  · refine xp_aload_0 (pc := 11) hX d_Mod_open_11 ?_
    refine xg_bipush (pc := 12) hX (nI 12) d_Mod_open_12 ci_bipush_12 ?_
    refine xi_V (Y2 := Y_Mod_variables) (pc := 14) hX [_] k_Mod m_Mod_variables d_Mod_open_14 l_Mod_163 rfl rfl (by simp [Value.category]) (by first | assumption | exact xup_s _ _ _ | exact xup_o (by omega) (by assumption) | exact xup_o (by omega) (xup_s _ _ _) | exact xup_o (by omega) (xup_o (by omega) (by assumption)) | exact xup_o (by omega) (xup_o (by omega) (xup_s _ _ _)) | exact xup_o (by omega) (xup_o (by omega) (xup_o (by omega) (by assumption)))) (c_Mod_variables (d + 1) w1 (by omega)) (by omega) (by omega) ?_
    rintro y M2 ⟨⟨nx2, w2⟩, f2⟩
    refine xg_pop (pc := 17) hX d_Mod_open_17 rfl ?_
    refine k18 M2 nx2 ?_ (f1.tr f2)
    rw [hrM (by omega)]
    exact w2
end XM15
