/-! the reference: token, pattern, look -/
/-- what the object says of a token -/
def TkV (x : List UInt8) (k : xTk) (fd : List UInt8) (fi la va : Nat) : Prop := 1 ≤ k.1 ∧ k.1 ≤ 7 ∧ ((k.1 = 1 ∨ k.1 = 4) → fi = k.2.1 ∧ la = k.2.2) ∧ (k.1 = 3 → fd = unq x (x.getD (k.2.1 - 1) 0) k.2.2 (k.2.2 - k.2.1) k.2.1) ∧ (5 ≤ k.1 → va = numb (sl x k.2.1 k.2.2))
section XM17
variable {t x out full : List UInt8} {es : List xEn} {pool : Nat} {se : List xSe} {sub fd : List UInt8} {fr bg : Nat} {wr : Option Nat} {nx kd fi la va : Nat}
set_option maxHeartbeats 16000000 in
set_option maxRecDepth 100000 in
theorem c_Mod_token (d : Nat) {M : xH} {sz O : Nat} {b : UInt8} (h : Wd M O t x out full es pool se sub fd fr bg none nx kd fi la va) (hb : x[nx]? = some b) (hb32 : ¬ b.toNat = 32) : xC (d + 3) 0 0 Y_Mod_token [.ref O] M sz (qv sz (fun M' => ((∃ p k fd' fi' la' va', tok1 x nx = ((p, true), some k) ∧ TkV x k fd' fi' la' va' ∧ Wd M' O t x out full es pool se sub fd' fr bg none p (k.1 - 1) fi' la' va') ∨ (∃ p nx' kd' fd' fi' la' va', (tok1 x nx).1 = (p, false) ∧ nx' < 1000 ∧ kd' ≤ 6 ∧ Wd M' O t x out full es pool se sub fd' fr bg (some p) nx' kd' fi' la' va')) ∧ FrO M M' O)) := by
  refine xC_of (by decide) (Nat.le_of_ble_eq_true rfl) (by simp [Value.category]) (vs := [some (.ref O), none]) rfl (fun K hX hE => ?_)
  obtain ⟨h0, -⟩ := id h
  have hx6 := h.xl.2.1
  have hnl := (List.getElem?_eq_some_iff.mp hb).1
  have hbl := by_lt b
  have hT : tok1 x nx = (if b.toNat = 32 then ((nx + 1, true), none)
    else if b.toNat = 34 ∨ b.toNat = 39 then (if (rdS x b nx (x.length - nx) (nx + 1) 0).2 then (((rdS x b nx (x.length - nx) (nx + 1) 0).1 + 1, true), some (3, nx + 1, (rdS x b nx (x.length - nx) (nx + 1) 0).1)) else (rdS x b nx (x.length - nx) (nx + 1) 0, none))
    else if b.toNat = 40 then (if (rdB x nx).1.2 then ((rdB x nx).1, some (4, (rdB x nx).2)) else ((rdB x nx).1, none))
    else if b.toNat = 43 ∨ b.toNat = 45 ∨ b.toNat = 61 then (if (rdP x (sc bl x (nx + 1) x.length)).2 then (rdP x (sc bl x (nx + 1) x.length), some (if b.toNat = 43 then 6 else if b.toNat = 45 then 7 else 5, sc bl x (nx + 1) x.length, (rdP x (sc bl x (nx + 1) x.length)).1)) else (rdP x (sc bl x (nx + 1) x.length), none))
    else if dig b then (if (rdP x nx).2 then (rdP x nx, some (5, nx, (rdP x nx).1)) else (rdP x nx, none))
    else if b.toNat = 46 ∧ osym x[nx + 1]? = false then ((nx + 1, true), some (2, nx, nx + 1))
    else (if (rdV x nx).2 then (rdV x nx, some (1, nx, (rdV x nx).1)) else (rdV x nx, none))) := by
    unfold tok1
    rw [hb]
  rw [if_neg hb32] at hT
  have good : ∀ (M1 : xH) (p : Nat) (k : xTk) (fd' : List UInt8) (fi' la' va' : Nat) (v1 : Option Value), tok1 x nx = ((p, true), some k) → TkV x k fd' fi' la' va' → Wd M1 O t x out full es pool se sub fd' fr bg none p (k.1 - 1) fi' la' va' → FrO M M1 O → xG K 293 [some (.ref O), v1] [] M1 sz 0 0 := by
    intro M1 p k fd' fi' la' va' v1 g1 g2 g3 g4
    refine xg_vret (pc := 293) hX hE d_Mod_token_293 rfl (by omega) (by omega) ?_
    exact ⟨rfl, rfl, Or.inl ⟨p, k, fd', fi', la', va', g1, g2, g3⟩, g4⟩
  have bad : ∀ (M1 : xH) (p nx' kd' : Nat) (fd' : List UInt8) (fi' la' va' : Nat) (v1 : Option Value), (tok1 x nx).1 = (p, false) → nx' < 1000 → kd' ≤ 6 → Wd M1 O t x out full es pool se sub fd' fr bg (some p) nx' kd' fi' la' va' → FrO M M1 O → xG K 293 [some (.ref O), v1] [] M1 sz 0 0 := by
    intro M1 p nx' kd' fd' fi' la' va' v1 g1 g2 g3 g4 g5
    refine xg_vret (pc := 293) hX hE d_Mod_token_293 rfl (by omega) (by omega) ?_
    exact ⟨rfl, rfl, Or.inr ⟨p, nx', kd', fd', fi', la', va', g1, g2, g3, g4⟩, g5⟩
  have bfst : ∀ (R : Nat × Bool), R.2 = false → R = (R.1, false) := fun R hR => by rw [← hR]
  have bfst' : ∀ (R : Nat × Bool), R.2 = true → R = (R.1, true) := fun R hR => by rw [← hR]
  refine xp_aload_0 (pc := 0) hX d_Mod_token_0 ?_
  refine xi_V (Y2 := Y_Mod_here) (pc := 1) hX [] k_Mod m_Mod_here d_Mod_token_1 l_Mod_85 rfl rfl (by simp [Value.category]) (by first | assumption | exact xup_s _ _ _ | exact xup_o (by omega) (by assumption) | exact xup_o (by omega) (xup_s _ _ _) | exact xup_o (by omega) (xup_o (by omega) (by assumption)) | exact xup_o (by omega) (xup_o (by omega) (xup_s _ _ _)) | exact xup_o (by omega) (xup_o (by omega) (xup_o (by omega) (by assumption)))) (c_Mod_here (d + 2) h (by omega)) (by omega) (by omega) ?_
  rintro y M1 ⟨rfl, rfl⟩
  rw [hb]
  refine xp_istore_1 (x := nI b.toNat) (pc := 4) hX d_Mod_token_4 (by decide) ?_
  refine xp_aload_0 (pc := 5) hX d_Mod_token_5 ?_
  refine xp_aload_0 (pc := 6) hX d_Mod_token_6 ?_
  refine xg_get (pc := 7) hX (j := 25) k_Mod d_Mod_token_7 l_Mod_78 (by decide) (by first | assumption | exact xup_s _ _ _ | exact xup_o (by omega) (by assumption) | exact xup_o (by omega) (xup_s _ _ _) | exact xup_o (by omega) (xup_o (by omega) (by assumption)) | exact xup_o (by omega) (xup_o (by omega) (xup_s _ _ _)) | exact xup_o (by omega) (xup_o (by omega) (xup_o (by omega) (by assumption)))) (by rfl) ?_
  refine xg_put (pc := 10) hX (j := 28) k_Mod d_Mod_token_10 l_Mod_179 (by decide) rfl (by first | assumption | exact xup_s _ _ _ | exact xup_o (by omega) (by assumption) | exact xup_o (by omega) (xup_s _ _ _) | exact xup_o (by omega) (xup_o (by omega) (by assumption)) | exact xup_o (by omega) (xup_o (by omega) (xup_s _ _ _)) | exact xup_o (by omega) (xup_o (by omega) (xup_o (by omega) (by assumption)))) (Nat.le_of_ble_eq_true rfl) rfl rfl (by simp only [List.set_cons_zero, List.set_cons_succ]; exact rfl) ?_
  refine xp_iload_1 (pc := 13) hX d_Mod_token_13 ?_
  refine xg_bipush (pc := 14) hX (nI 39) d_Mod_token_14 ci_bipush_39 ?_
  have w0 : Wd (xup M1 O (moC O t x out full es pool se sub fd fr bg none nx kd nx la va)) O t x out full es pool se sub fd fr bg none nx kd nx la va := h.up
  have f0 : FrO M1 (xup M1 O (moC O t x out full es pool se sub fd fr bg none nx kd nx la va)) O := FrO.up _ _ _ (by omega) (by omega)
  generalize hM0 : xup M1 O (moC O t x out full es pool se sub fd fr bg none nx kd nx la va) = M0 at *
  obtain ⟨h0', -⟩ := id w0
  -- a STRING
  have k25 : (b.toNat = 34 ∨ b.toNat = 39) → xG K 25 [some (.ref O), some (.int (nI b.toNat))] [] M0 sz 0 0 := by
    intro hq
    rw [if_pos hq] at hT
    refine xp_aload_0 (pc := 25) hX d_Mod_token_25 ?_
    refine xg_iconst (pc := 26) hX (nI 2) d_Mod_token_26 ci_iconst_2 ?_
    refine xg_put (pc := 27) hX (j := 27) k_Mod d_Mod_token_27 l_Mod_182 (by decide) rfl (by first | assumption | exact xup_s _ _ _ | exact xup_o (by omega) (by assumption) | exact xup_o (by omega) (xup_s _ _ _) | exact xup_o (by omega) (xup_o (by omega) (by assumption)) | exact xup_o (by omega) (xup_o (by omega) (xup_s _ _ _)) | exact xup_o (by omega) (xup_o (by omega) (xup_o (by omega) (by assumption)))) (Nat.le_of_ble_eq_true rfl) rfl rfl (by simp only [List.set_cons_zero, List.set_cons_succ]; exact rfl) ?_
    refine xp_aload_0 (pc := 30) hX d_Mod_token_30 ?_
    have w1 : Wd (xup M0 O (moC O t x out full es pool se sub fd fr bg none nx 2 nx la va)) O t x out full es pool se sub fd fr bg none nx 2 nx la va := w0.up
    refine xv_V (Y2 := Y_Mod_string) (pc := 31) hX [] k_Mod m_Mod_string d_Mod_token_31 l_Mod_185 rfl rfl (by simp [Value.category]) (by first | assumption | exact xup_s _ _ _ | exact xup_o (by omega) (by assumption) | exact xup_o (by omega) (xup_s _ _ _) | exact xup_o (by omega) (xup_o (by omega) (by assumption)) | exact xup_o (by omega) (xup_o (by omega) (xup_s _ _ _)) | exact xup_o (by omega) (xup_o (by omega) (xup_o (by omega) (by assumption)))) (c_Mod_string (d + 1) w1 hb) (by omega) (by omega) ?_
    rintro M2 ⟨hc, f2⟩
    have fe : FrO M1 M2 O := (f0.up' _ (by omega) (by omega)).tr f2
    refine xg_goto (pc := 34) hX 293 d_Mod_token_34 (by decide) ?_
    rcases hc with ⟨c1, w2⟩ | ⟨c1, nx', fd', c2, w2⟩
    · rw [if_pos c1] at hT
      refine good M2 _ (3, nx + 1, _) _ _ _ _ _ hT ⟨by simp, by simp, fun q => absurd q (by simp), fun _ => ?_, fun q => absurd q (by simp)⟩ w2 fe
      dsimp only
      rw [show nx + 1 - 1 = nx by omega, List.getD_eq_getElem?_getD, hb]
      rfl
    · rw [if_neg (by rw [c1]; decide)] at hT
      exact bad M2 _ nx' 2 fd' _ _ _ _ (by rw [hT]; exact bfst _ c1) c2 (by omega) w2 fe
  refine xn_icmp_eq (pc := 16) hX 25 d_Mod_token_16 (by decide) (by omega) (by omega) (fun z => k25 (Or.inr z)) (fun z39 => ?_)
  refine xp_iload_1 (pc := 19) hX d_Mod_token_19 ?_
  refine xg_bipush (pc := 20) hX (nI 34) d_Mod_token_20 ci_bipush_34 ?_
  refine xn_icmp_ne (pc := 22) hX 37 d_Mod_token_22 (by decide) (by omega) (by omega) (fun z34 => ?_) (fun z => k25 (Or.inl z))
  rw [if_neg (by omega)] at hT
  refine xp_iload_1 (pc := 37) hX d_Mod_token_37 ?_
  refine xg_bipush (pc := 38) hX (nI 40) d_Mod_token_38 ci_bipush_40 ?_
  refine xn_icmp_ne (pc := 40) hX 130 d_Mod_token_40 (by decide) (by omega) (by omega) (fun z40 => ?_) (fun z40 => ?_)
  · rw [if_neg z40] at hT
    -- a place with a sign
    have ks : ∀ (kk : Nat), (kk = 4 ∨ kk = 5 ∨ kk = 6) → (b.toNat = 43 ∨ b.toNat = 45 ∨ b.toNat = 61) → (if b.toNat = 43 then 6 else if b.toNat = 45 then 7 else 5) = kk + 1 → xG K 171 [some (.ref O), some (.int (nI b.toNat))] [.int (nI kk), .ref O] M0 sz 0 0 := by
      intro kk hkk hq hkd
      rw [if_pos hq, hkd] at hT
      have hsl := sc_le (P := bl) (bs := x) (a := nx + 1) (b := x.length) (by omega) (by omega)
      refine xg_put (pc := 171) hX (j := 27) k_Mod d_Mod_token_171 l_Mod_182 (by decide) rfl (by first | assumption | exact xup_s _ _ _ | exact xup_o (by omega) (by assumption) | exact xup_o (by omega) (xup_s _ _ _) | exact xup_o (by omega) (xup_o (by omega) (by assumption)) | exact xup_o (by omega) (xup_o (by omega) (xup_s _ _ _)) | exact xup_o (by omega) (xup_o (by omega) (xup_o (by omega) (by assumption)))) (Nat.le_of_ble_eq_true rfl) rfl rfl (by simp only [List.set_cons_zero, List.set_cons_succ]; exact rfl) ?_
      refine xp_aload_0 (pc := 174) hX d_Mod_token_174 ?_
      refine xg_dup (pc := 175) hX d_Mod_token_175 rfl ?_
      refine xg_get (pc := 176) hX (j := 25) k_Mod d_Mod_token_176 l_Mod_78 (by decide) (by first | assumption | exact xup_s _ _ _ | exact xup_o (by omega) (by assumption) | exact xup_o (by omega) (xup_s _ _ _) | exact xup_o (by omega) (xup_o (by omega) (by assumption)) | exact xup_o (by omega) (xup_o (by omega) (xup_s _ _ _)) | exact xup_o (by omega) (xup_o (by omega) (xup_o (by omega) (by assumption)))) (by rfl) ?_
      refine xg_iconst (pc := 179) hX (nI 1) d_Mod_token_179 ci_iconst_1 ?_
      first | refine xn_iadd (pc := 180) hX d_Mod_token_180 ?_ | refine xg_iadd (pc := 180) hX d_Mod_token_180 ?_
      refine xg_put (pc := 181) hX (j := 25) k_Mod d_Mod_token_181 l_Mod_78 (by decide) rfl (by first | assumption | exact xup_s _ _ _ | exact xup_o (by omega) (by assumption) | exact xup_o (by omega) (xup_s _ _ _) | exact xup_o (by omega) (xup_o (by omega) (by assumption)) | exact xup_o (by omega) (xup_o (by omega) (xup_s _ _ _)) | exact xup_o (by omega) (xup_o (by omega) (xup_o (by omega) (by assumption)))) (Nat.le_of_ble_eq_true rfl) rfl rfl (by simp only [List.set_cons_zero, List.set_cons_succ]; exact rfl) ?_
      refine xp_aload_0 (pc := 184) hX d_Mod_token_184 ?_
      have w1 : Wd (xup (xup M0 O (moC O t x out full es pool se sub fd fr bg none nx kk nx la va)) O (moC O t x out full es pool se sub fd fr bg none (nx + 1) kk nx la va)) O t x out full es pool se sub fd fr bg none (nx + 1) kk nx la va := Wd.up (Wd.up w0)
      refine xv_V (Y2 := Y_Mod_blanks) (pc := 185) hX [] k_Mod m_Mod_blanks d_Mod_token_185 l_Mod_188 rfl rfl (by simp [Value.category]) (by first | assumption | exact xup_s _ _ _ | exact xup_o (by omega) (by assumption) | exact xup_o (by omega) (xup_s _ _ _) | exact xup_o (by omega) (xup_o (by omega) (by assumption)) | exact xup_o (by omega) (xup_o (by omega) (xup_s _ _ _)) | exact xup_o (by omega) (xup_o (by omega) (xup_o (by omega) (by assumption)))) (c_Mod_blanks (d + 1) w1 (by omega)) (by omega) (by omega) ?_
      rintro M2 ⟨w2, f2⟩
      generalize sc bl x (nx + 1) x.length = a at *
      obtain ⟨h0, -⟩ := id w2
      refine xp_aload_0 (pc := 188) hX d_Mod_token_188 ?_
      refine xp_aload_0 (pc := 189) hX d_Mod_token_189 ?_
      refine xi_V (Y2 := Y_Mod_number) (pc := 190) hX [] k_Mod m_Mod_number d_Mod_token_190 l_Mod_194 rfl rfl (by simp [Value.category]) (by first | assumption | exact xup_s _ _ _ | exact xup_o (by omega) (by assumption) | exact xup_o (by omega) (xup_s _ _ _) | exact xup_o (by omega) (xup_o (by omega) (by assumption)) | exact xup_o (by omega) (xup_o (by omega) (xup_s _ _ _)) | exact xup_o (by omega) (xup_o (by omega) (xup_o (by omega) (by assumption)))) (c_Mod_number d w2 hsl.2) (by omega) (by omega) ?_
      rintro y M3 ⟨rfl, w3, f3⟩
      obtain ⟨h0, -⟩ := id w3
      refine xg_put (pc := 193) hX (j := 30) k_Mod d_Mod_token_193 l_Mod_197 (by decide) rfl (by first | assumption | exact xup_s _ _ _ | exact xup_o (by omega) (by assumption) | exact xup_o (by omega) (xup_s _ _ _) | exact xup_o (by omega) (xup_o (by omega) (by assumption)) | exact xup_o (by omega) (xup_o (by omega) (xup_s _ _ _)) | exact xup_o (by omega) (xup_o (by omega) (xup_o (by omega) (by assumption)))) (Nat.le_of_ble_eq_true rfl) rfl rfl (by simp only [List.set_cons_zero, List.set_cons_succ]; exact rfl) ?_
      refine xg_goto (pc := 196) hX 293 d_Mod_token_196 (by decide) ?_
      have fe : FrO M1 M3 O := (((f0.up' _ (by omega) (by omega)).up' _ (by omega) (by omega)).tr f2).tr f3
      have hle := rdP_le hsl.2
      by_cases c : (rdP x a).2 = true
      · rw [if_pos c] at hT
        have hwr : wrS none (rdP x a) = none := by unfold wrS; rw [if_pos c]
        rw [hwr] at w3 ⊢
        refine good _ _ (kk + 1, a, (rdP x a).1) fd nx la (numb (sl x a (rdP x a).1)) _ (by rw [hT, ← bfst' _ c]) ⟨by dsimp only; omega, by dsimp only; omega, fun q => ?_, fun q => ?_, fun _ => rfl⟩ w3.up (fe.up' _ (by omega) (by omega))
        · dsimp only at q; omega
        · dsimp only at q; omega
      · rw [if_neg c] at hT
        have hwr : wrS none (rdP x a) = some (rdP x a).1 := by unfold wrS; rw [if_neg c]; rfl
        rw [hwr] at w3 ⊢
        exact bad _ _ (rdP x a).1 kk _ _ _ _ _ (by rw [hT]; exact bfst _ (Bool.eq_false_iff.mpr c)) (by omega) (by omega) w3.up (fe.up' _ (by omega) (by omega))
    have k148 : (b.toNat = 43 ∨ b.toNat = 45 ∨ b.toNat = 61) → xG K 148 [some (.ref O), some (.int (nI b.toNat))] [] M0 sz 0 0 := by
      intro hq
      refine xp_aload_0 (pc := 148) hX d_Mod_token_148 ?_
      refine xp_iload_1 (pc := 149) hX d_Mod_token_149 ?_
      refine xg_bipush (pc := 150) hX (nI 43) d_Mod_token_150 ci_bipush_43 ?_
      refine xn_icmp_ne (pc := 152) hX 159 d_Mod_token_152 (by decide) (by omega) (by omega) (fun z => ?_) (fun z => ?_)
      · refine xp_iload_1 (pc := 159) hX d_Mod_token_159 ?_
        refine xg_bipush (pc := 160) hX (nI 45) d_Mod_token_160 ci_bipush_45 ?_
        refine xn_icmp_ne (pc := 162) hX 170 d_Mod_token_162 (by decide) (by omega) (by omega) (fun z1 => ?_) (fun z1 => ?_)
        · refine xg_iconst (pc := 170) hX (nI 4) d_Mod_token_170 ci_iconst_4 ?_
          exact ks 4 (by omega) hq (by rw [if_neg z, if_neg z1])
        · refine xg_bipush (pc := 165) hX (nI 6) d_Mod_token_165 ci_bipush_6 ?_
          refine xg_goto (pc := 167) hX 171 d_Mod_token_167 (by decide) ?_
          exact ks 6 (by omega) hq (by rw [if_neg z, if_pos z1])
      · refine xg_iconst (pc := 155) hX (nI 5) d_Mod_token_155 ci_iconst_5 ?_
        refine xg_goto (pc := 156) hX 171 d_Mod_token_156 (by decide) ?_
        exact ks 5 (by omega) hq (by rw [if_pos z])
    refine xp_iload_1 (pc := 130) hX d_Mod_token_130 ?_
    refine xg_bipush (pc := 131) hX (nI 43) d_Mod_token_131 ci_bipush_43 ?_
    refine xn_icmp_eq (pc := 133) hX 148 d_Mod_token_133 (by decide) (by omega) (by omega) (fun z => k148 (by omega)) (fun z43 => ?_)
    refine xp_iload_1 (pc := 136) hX d_Mod_token_136 ?_
    refine xg_bipush (pc := 137) hX (nI 45) d_Mod_token_137 ci_bipush_45 ?_
    refine xn_icmp_eq (pc := 139) hX 148 d_Mod_token_139 (by decide) (by omega) (by omega) (fun z => k148 (by omega)) (fun z45 => ?_)
    refine xp_iload_1 (pc := 142) hX d_Mod_token_142 ?_
    refine xg_bipush (pc := 143) hX (nI 61) d_Mod_token_143 ci_bipush_61 ?_
    refine xn_icmp_ne (pc := 145) hX 199 d_Mod_token_145 (by decide) (by omega) (by omega) (fun z61 => ?_) (fun z => k148 (by omega))
    rw [if_neg (by omega)] at hT
    refine xp_iload_1 (x := oI (some b)) (pc := 199) hX d_Mod_token_199 ?_
    refine xi_S (Y2 := Y_Mod_isDigit) (pc := 200) hX [_] m_Mod_isDigit d_Mod_token_200 l_Mod_81 rfl rfl (by simp [Value.category]) (c_Mod_isDigit (d + 2) (some b)) (by omega) (by omega) ?_
    rintro y M2 ⟨rfl, rfl⟩
    refine xg_if_eq (pc := 203) hX 222 d_Mod_token_203 (by decide) (fun z => ?_) (fun z => ?_)
    · have hdg : dig b = false := bI_eq0.mp z
      rw [if_neg (by rw [hdg]; decide)] at hT
      -- a VARIABLE
      have k276 : ¬ (b.toNat = 46 ∧ osym x[nx + 1]? = false) → xG K 276 [some (.ref O), some (.int (nI b.toNat))] [] M2 sz 0 0 := by
        intro hv
        rw [if_neg hv] at hT
        refine xp_aload_0 (pc := 276) hX d_Mod_token_276 ?_
        refine xg_iconst (pc := 277) hX (nI 0) d_Mod_token_277 ci_iconst_0 ?_
        refine xg_put (pc := 278) hX (j := 27) k_Mod d_Mod_token_278 l_Mod_182 (by decide) rfl (by first | assumption | exact xup_s _ _ _ | exact xup_o (by omega) (by assumption) | exact xup_o (by omega) (xup_s _ _ _) | exact xup_o (by omega) (xup_o (by omega) (by assumption)) | exact xup_o (by omega) (xup_o (by omega) (xup_s _ _ _)) | exact xup_o (by omega) (xup_o (by omega) (xup_o (by omega) (by assumption)))) (Nat.le_of_ble_eq_true rfl) rfl rfl (by simp only [List.set_cons_zero, List.set_cons_succ]; exact rfl) ?_
        refine xp_aload_0 (pc := 281) hX d_Mod_token_281 ?_
        have w1 : Wd (xup M2 O (moC O t x out full es pool se sub fd fr bg none nx 0 nx la va)) O t x out full es pool se sub fd fr bg none nx 0 nx la va := w0.up
        refine xv_V (Y2 := Y_Mod_variable) (pc := 282) hX [] k_Mod m_Mod_variable d_Mod_token_282 l_Mod_146 rfl rfl (by simp [Value.category]) (by first | assumption | exact xup_s _ _ _ | exact xup_o (by omega) (by assumption) | exact xup_o (by omega) (xup_s _ _ _) | exact xup_o (by omega) (xup_o (by omega) (by assumption)) | exact xup_o (by omega) (xup_o (by omega) (xup_s _ _ _)) | exact xup_o (by omega) (xup_o (by omega) (xup_o (by omega) (by assumption)))) (c_Mod_variable (d) w1 (by intro q hq; cases hq) (by omega)) (by omega) (by omega) ?_
        rintro M3 ⟨w3, f3⟩
        obtain ⟨h0, -⟩ := id w3
        have hle := rdV_le (t := x) (s := nx) (by omega)
        have fe : FrO M1 M3 O := (f0.up' _ (by omega) (by omega)).tr f3
        refine xp_aload_0 (pc := 285) hX d_Mod_token_285 ?_
        refine xp_aload_0 (pc := 286) hX d_Mod_token_286 ?_
        refine xg_get (pc := 287) hX (j := 25) k_Mod d_Mod_token_287 l_Mod_78 (by decide) (by first | assumption | exact xup_s _ _ _ | exact xup_o (by omega) (by assumption) | exact xup_o (by omega) (xup_s _ _ _) | exact xup_o (by omega) (xup_o (by omega) (by assumption)) | exact xup_o (by omega) (xup_o (by omega) (xup_s _ _ _)) | exact xup_o (by omega) (xup_o (by omega) (xup_o (by omega) (by assumption)))) (by rfl) ?_
        refine xg_put (pc := 290) hX (j := 29) k_Mod d_Mod_token_290 l_Mod_191 (by decide) rfl (by first | assumption | exact xup_s _ _ _ | exact xup_o (by omega) (by assumption) | exact xup_o (by omega) (xup_s _ _ _) | exact xup_o (by omega) (xup_o (by omega) (by assumption)) | exact xup_o (by omega) (xup_o (by omega) (xup_s _ _ _)) | exact xup_o (by omega) (xup_o (by omega) (xup_o (by omega) (by assumption)))) (Nat.le_of_ble_eq_true rfl) rfl rfl (by simp only [List.set_cons_zero, List.set_cons_succ]; exact rfl) ?_
        by_cases c : (rdV x nx).2 = true
        · rw [if_pos c] at hT
          have hwr : wrS none (rdV x nx) = none := by unfold wrS; rw [if_pos c]
          rw [hwr] at w3 ⊢
          exact good _ _ (1, nx, (rdV x nx).1) fd nx (rdV x nx).1 va _ (by rw [hT, ← bfst' _ c]) ⟨by simp, by simp, fun _ => ⟨rfl, rfl⟩, fun q => absurd q (by simp), fun q => absurd q (by simp)⟩ w3.up (fe.up' _ (by omega) (by omega))
        · rw [if_neg c] at hT
          have hwr : wrS none (rdV x nx) = some (rdV x nx).1 := by unfold wrS; rw [if_neg c]; rfl
          rw [hwr] at w3 ⊢
          exact bad _ _ (rdV x nx).1 0 _ _ _ _ _ (by rw [hT]; exact bfst _ (Bool.eq_false_iff.mpr c)) (by omega) (by omega) w3.up (fe.up' _ (by omega) (by omega))
      -- a period
      have k258 : b.toNat = 46 → osym x[nx + 1]? = false → xG K 258 [some (.ref O), some (.int (nI b.toNat))] [] M2 sz 0 0 := by
        intro hv1 hv2
        rw [if_pos ⟨hv1, hv2⟩] at hT
        refine xp_aload_0 (pc := 258) hX d_Mod_token_258 ?_
        refine xg_iconst (pc := 259) hX (nI 1) d_Mod_token_259 ci_iconst_1 ?_
        refine xg_put (pc := 260) hX (j := 27) k_Mod d_Mod_token_260 l_Mod_182 (by decide) rfl (by first | assumption | exact xup_s _ _ _ | exact xup_o (by omega) (by assumption) | exact xup_o (by omega) (xup_s _ _ _) | exact xup_o (by omega) (xup_o (by omega) (by assumption)) | exact xup_o (by omega) (xup_o (by omega) (xup_s _ _ _)) | exact xup_o (by omega) (xup_o (by omega) (xup_o (by omega) (by assumption)))) (Nat.le_of_ble_eq_true rfl) rfl rfl (by simp only [List.set_cons_zero, List.set_cons_succ]; exact rfl) ?_
        refine xp_aload_0 (pc := 263) hX d_Mod_token_263 ?_
        refine xg_dup (pc := 264) hX d_Mod_token_264 rfl ?_
        refine xg_get (pc := 265) hX (j := 25) k_Mod d_Mod_token_265 l_Mod_78 (by decide) (by first | assumption | exact xup_s _ _ _ | exact xup_o (by omega) (by assumption) | exact xup_o (by omega) (xup_s _ _ _) | exact xup_o (by omega) (xup_o (by omega) (by assumption)) | exact xup_o (by omega) (xup_o (by omega) (xup_s _ _ _)) | exact xup_o (by omega) (xup_o (by omega) (xup_o (by omega) (by assumption)))) (by rfl) ?_
        refine xg_iconst (pc := 268) hX (nI 1) d_Mod_token_268 ci_iconst_1 ?_
        first | refine xn_iadd (pc := 269) hX d_Mod_token_269 ?_ | refine xg_iadd (pc := 269) hX d_Mod_token_269 ?_
        refine xg_put (pc := 270) hX (j := 25) k_Mod d_Mod_token_270 l_Mod_78 (by decide) rfl (by first | assumption | exact xup_s _ _ _ | exact xup_o (by omega) (by assumption) | exact xup_o (by omega) (xup_s _ _ _) | exact xup_o (by omega) (xup_o (by omega) (by assumption)) | exact xup_o (by omega) (xup_o (by omega) (xup_s _ _ _)) | exact xup_o (by omega) (xup_o (by omega) (xup_o (by omega) (by assumption)))) (Nat.le_of_ble_eq_true rfl) rfl rfl (by simp only [List.set_cons_zero, List.set_cons_succ]; exact rfl) ?_
        refine xg_goto (pc := 273) hX 293 d_Mod_token_273 (by decide) ?_
        have w1 : Wd (xup M2 O (moC O t x out full es pool se sub fd fr bg none nx 1 nx la va)) O t x out full es pool se sub fd fr bg none nx 1 nx la va := w0.up
        exact good _ _ (2, nx, nx + 1) fd nx la va _ hT ⟨by simp, by simp, fun q => absurd q (by simp), fun q => absurd q (by simp), fun q => absurd q (by simp)⟩ w1.up ((f0.up' _ (by omega) (by omega)).up' _ (by omega) (by omega))
      refine xp_iload_1 (x := nI b.toNat) (pc := 222) hX d_Mod_token_222 ?_
      refine xg_bipush (pc := 223) hX (nI 46) d_Mod_token_223 ci_bipush_46 ?_
      refine xn_icmp_ne (pc := 225) hX 276 d_Mod_token_225 (by decide) (by omega) (by omega) (fun z1 => k276 (fun q => z1 q.1)) (fun z1 => ?_)
      obtain ⟨h0'', -, ⟨h2l, gx, h2a, h2b⟩, -⟩ := id w0
      refine xp_aload_0 (pc := 228) hX d_Mod_token_228 ?_
      refine xg_get (pc := 229) hX (j := 25) k_Mod d_Mod_token_229 l_Mod_78 (by decide) (by first | assumption | exact xup_s _ _ _ | exact xup_o (by omega) (by assumption) | exact xup_o (by omega) (xup_s _ _ _) | exact xup_o (by omega) (xup_o (by omega) (by assumption)) | exact xup_o (by omega) (xup_o (by omega) (xup_s _ _ _)) | exact xup_o (by omega) (xup_o (by omega) (xup_o (by omega) (by assumption)))) (by rfl) ?_
      refine xg_iconst (pc := 232) hX (nI 1) d_Mod_token_232 ci_iconst_1 ?_
      first | refine xn_iadd (pc := 233) hX d_Mod_token_233 ?_ | refine xg_iadd (pc := 233) hX d_Mod_token_233 ?_
      refine xp_aload_0 (pc := 234) hX d_Mod_token_234 ?_
      refine xg_get (pc := 235) hX (j := 5) k_Mod d_Mod_token_235 l_Mod_72 (by decide) (by first | assumption | exact xup_s _ _ _ | exact xup_o (by omega) (by assumption) | exact xup_o (by omega) (xup_s _ _ _) | exact xup_o (by omega) (xup_o (by omega) (by assumption)) | exact xup_o (by omega) (xup_o (by omega) (xup_s _ _ _)) | exact xup_o (by omega) (xup_o (by omega) (xup_o (by omega) (by assumption)))) (by rfl) ?_
      refine xn_icmp_ge (pc := 238) hX 258 d_Mod_token_238 (by decide) (by omega) (by omega) (fun z2 => k258 z1 (by rw [List.getElem?_eq_none z2]; rfl)) (fun z2 => ?_)
      have hx1 : x[nx + 1]? = some x[nx + 1] := List.getElem?_eq_getElem z2
      refine xp_aload_0 (pc := 241) hX d_Mod_token_241 ?_
      refine xg_get (pc := 242) hX (j := 1) k_Mod d_Mod_token_242 l_Mod_13 (by decide) (by first | assumption | exact xup_s _ _ _ | exact xup_o (by omega) (by assumption) | exact xup_o (by omega) (xup_s _ _ _) | exact xup_o (by omega) (xup_o (by omega) (by assumption)) | exact xup_o (by omega) (xup_o (by omega) (xup_s _ _ _)) | exact xup_o (by omega) (xup_o (by omega) (xup_o (by omega) (by assumption)))) (by rfl) ?_
      refine xp_aload_0 (pc := 245) hX d_Mod_token_245 ?_
      refine xg_get (pc := 246) hX (j := 25) k_Mod d_Mod_token_246 l_Mod_78 (by decide) (by first | assumption | exact xup_s _ _ _ | exact xup_o (by omega) (by assumption) | exact xup_o (by omega) (xup_s _ _ _) | exact xup_o (by omega) (xup_o (by omega) (by assumption)) | exact xup_o (by omega) (xup_o (by omega) (xup_s _ _ _)) | exact xup_o (by omega) (xup_o (by omega) (xup_o (by omega) (by assumption)))) (by rfl) ?_
      refine xg_iconst (pc := 249) hX (nI 1) d_Mod_token_249 ci_iconst_1 ?_
      first | refine xn_iadd (pc := 250) hX d_Mod_token_250 ?_ | refine xg_iadd (pc := 250) hX d_Mod_token_250 ?_
      refine xn_iald (pc := 251) hX d_Mod_token_251 rfl (by first | assumption | exact xup_s _ _ _ | exact xup_o (by omega) (by assumption) | exact xup_o (by omega) (xup_s _ _ _) | exact xup_o (by omega) (xup_o (by omega) (by assumption)) | exact xup_o (by omega) (xup_o (by omega) (xup_s _ _ _)) | exact xup_o (by omega) (xup_o (by omega) (xup_o (by omega) (by assumption)))) (by omega) (by omega) ?_
      rw [h2b (nx + 1) x[nx + 1] hx1]
      refine xi_S (Y2 := Y_Mod_isSymbol) (pc := 252) hX [_] m_Mod_isSymbol d_Mod_token_252 l_Mod_89 rfl rfl (by simp [Value.category]) (c_Mod_isSymbol (d + 1) (some x[nx + 1])) (by omega) (by omega) ?_
      rintro y M3 ⟨rfl, rfl⟩
      refine xg_if_ne (pc := 255) hX 276 d_Mod_token_255 (by decide) (fun z3 => ?_) (fun z3 => ?_)
      · exact k276 (fun q => by
          have := bI_ne0.mp z3
          rw [← hx1, q.2] at this
          cases this)
      · exact k258 z1 (by rw [hx1]; exact bI_eq0.mp z3)
    · have hdg : dig b = true := bI_ne0.mp z
      rw [if_pos hdg] at hT
      refine xp_aload_0 (pc := 206) hX d_Mod_token_206 ?_
      refine xg_iconst (pc := 207) hX (nI 4) d_Mod_token_207 ci_iconst_4 ?_
      refine xg_put (pc := 208) hX (j := 27) k_Mod d_Mod_token_208 l_Mod_182 (by decide) rfl (by first | assumption | exact xup_s _ _ _ | exact xup_o (by omega) (by assumption) | exact xup_o (by omega) (xup_s _ _ _) | exact xup_o (by omega) (xup_o (by omega) (by assumption)) | exact xup_o (by omega) (xup_o (by omega) (xup_s _ _ _)) | exact xup_o (by omega) (xup_o (by omega) (xup_o (by omega) (by assumption)))) (Nat.le_of_ble_eq_true rfl) rfl rfl (by simp only [List.set_cons_zero, List.set_cons_succ]; exact rfl) ?_
      refine xp_aload_0 (pc := 211) hX d_Mod_token_211 ?_
      refine xp_aload_0 (pc := 212) hX d_Mod_token_212 ?_
      have w1 : Wd (xup M2 O (moC O t x out full es pool se sub fd fr bg none nx 4 nx la va)) O t x out full es pool se sub fd fr bg none nx 4 nx la va := w0.up
      refine xi_V (Y2 := Y_Mod_number) (pc := 213) hX [] k_Mod m_Mod_number d_Mod_token_213 l_Mod_194 rfl rfl (by simp [Value.category]) (by first | assumption | exact xup_s _ _ _ | exact xup_o (by omega) (by assumption) | exact xup_o (by omega) (xup_s _ _ _) | exact xup_o (by omega) (xup_o (by omega) (by assumption)) | exact xup_o (by omega) (xup_o (by omega) (xup_s _ _ _)) | exact xup_o (by omega) (xup_o (by omega) (xup_o (by omega) (by assumption)))) (c_Mod_number d w1 (by omega)) (by omega) (by omega) ?_
      rintro y M3 ⟨rfl, w3, f3⟩
      obtain ⟨h0, -⟩ := id w3
      refine xg_put (pc := 216) hX (j := 30) k_Mod d_Mod_token_216 l_Mod_197 (by decide) rfl (by first | assumption | exact xup_s _ _ _ | exact xup_o (by omega) (by assumption) | exact xup_o (by omega) (xup_s _ _ _) | exact xup_o (by omega) (xup_o (by omega) (by assumption)) | exact xup_o (by omega) (xup_o (by omega) (xup_s _ _ _)) | exact xup_o (by omega) (xup_o (by omega) (xup_o (by omega) (by assumption)))) (Nat.le_of_ble_eq_true rfl) rfl rfl (by simp only [List.set_cons_zero, List.set_cons_succ]; exact rfl) ?_
      refine xg_goto (pc := 219) hX 293 d_Mod_token_219 (by decide) ?_
      have fe : FrO M1 M3 O := (f0.up' _ (by omega) (by omega)).tr f3
      have hle := rdP_le (t := x) (s := nx) (by omega)
      by_cases c : (rdP x nx).2 = true
      · rw [if_pos c] at hT
        have hwr : wrS none (rdP x nx) = none := by unfold wrS; rw [if_pos c]
        rw [hwr] at w3 ⊢
        exact good _ _ (5, nx, (rdP x nx).1) fd nx la (numb (sl x nx (rdP x nx).1)) _ (by rw [hT, ← bfst' _ c]) ⟨by simp, by simp, fun q => absurd q (by simp), fun q => absurd q (by simp), fun _ => rfl⟩ w3.up (fe.up' _ (by omega) (by omega))
      · rw [if_neg c] at hT
        have hwr : wrS none (rdP x nx) = some (rdP x nx).1 := by unfold wrS; rw [if_neg c]; rfl
        rw [hwr] at w3 ⊢
        exact bad _ _ (rdP x nx).1 4 _ _ _ _ _ (by rw [hT]; exact bfst _ (Bool.eq_false_iff.mpr c)) (by omega) (by omega) w3.up (fe.up' _ (by omega) (by omega))
  · rw [if_pos z40] at hT
    have hB : rdB x nx = (if (rdV x (sc bl x (nx + 1) x.length)).2 then (if x[sc bl x (rdV x (sc bl x (nx + 1) x.length)).1 x.length]? = some 41 then ((sc bl x (rdV x (sc bl x (nx + 1) x.length)).1 x.length + 1, true), sc bl x (nx + 1) x.length, (rdV x (sc bl x (nx + 1) x.length)).1) else ((sc bl x (rdV x (sc bl x (nx + 1) x.length)).1 x.length, false), sc bl x (nx + 1) x.length, (rdV x (sc bl x (nx + 1) x.length)).1)) else (rdV x (sc bl x (nx + 1) x.length), sc bl x (nx + 1) x.length, (rdV x (sc bl x (nx + 1) x.length)).1)) := rfl
    have hsl := sc_le (P := bl) (bs := x) (a := nx + 1) (b := x.length) (by omega) (by omega)
    refine xp_aload_0 (pc := 43) hX d_Mod_token_43 ?_
    refine xg_iconst (pc := 44) hX (nI 3) d_Mod_token_44 ci_iconst_3 ?_
    refine xg_put (pc := 45) hX (j := 27) k_Mod d_Mod_token_45 l_Mod_182 (by decide) rfl (by first | assumption | exact xup_s _ _ _ | exact xup_o (by omega) (by assumption) | exact xup_o (by omega) (xup_s _ _ _) | exact xup_o (by omega) (xup_o (by omega) (by assumption)) | exact xup_o (by omega) (xup_o (by omega) (xup_s _ _ _)) | exact xup_o (by omega) (xup_o (by omega) (xup_o (by omega) (by assumption)))) (Nat.le_of_ble_eq_true rfl) rfl rfl (by simp only [List.set_cons_zero, List.set_cons_succ]; exact rfl) ?_
    refine xp_aload_0 (pc := 48) hX d_Mod_token_48 ?_
    refine xg_dup (pc := 49) hX d_Mod_token_49 rfl ?_
    refine xg_get (pc := 50) hX (j := 25) k_Mod d_Mod_token_50 l_Mod_78 (by decide) (by first | assumption | exact xup_s _ _ _ | exact xup_o (by omega) (by assumption) | exact xup_o (by omega) (xup_s _ _ _) | exact xup_o (by omega) (xup_o (by omega) (by assumption)) | exact xup_o (by omega) (xup_o (by omega) (xup_s _ _ _)) | exact xup_o (by omega) (xup_o (by omega) (xup_o (by omega) (by assumption)))) (by rfl) ?_
    refine xg_iconst (pc := 53) hX (nI 1) d_Mod_token_53 ci_iconst_1 ?_
    first | refine xn_iadd (pc := 54) hX d_Mod_token_54 ?_ | refine xg_iadd (pc := 54) hX d_Mod_token_54 ?_
    refine xg_put (pc := 55) hX (j := 25) k_Mod d_Mod_token_55 l_Mod_78 (by decide) rfl (by first | assumption | exact xup_s _ _ _ | exact xup_o (by omega) (by assumption) | exact xup_o (by omega) (xup_s _ _ _) | exact xup_o (by omega) (xup_o (by omega) (by assumption)) | exact xup_o (by omega) (xup_o (by omega) (xup_s _ _ _)) | exact xup_o (by omega) (xup_o (by omega) (xup_o (by omega) (by assumption)))) (Nat.le_of_ble_eq_true rfl) rfl rfl (by simp only [List.set_cons_zero, List.set_cons_succ]; exact rfl) ?_
    refine xp_aload_0 (pc := 58) hX d_Mod_token_58 ?_
    have w1 : Wd (xup (xup M0 O (moC O t x out full es pool se sub fd fr bg none nx 3 nx la va)) O (moC O t x out full es pool se sub fd fr bg none (nx + 1) 3 nx la va)) O t x out full es pool se sub fd fr bg none (nx + 1) 3 nx la va := Wd.up (Wd.up w0)
    refine xv_V (Y2 := Y_Mod_blanks) (pc := 59) hX [] k_Mod m_Mod_blanks d_Mod_token_59 l_Mod_188 rfl rfl (by simp [Value.category]) (by first | assumption | exact xup_s _ _ _ | exact xup_o (by omega) (by assumption) | exact xup_o (by omega) (xup_s _ _ _) | exact xup_o (by omega) (xup_o (by omega) (by assumption)) | exact xup_o (by omega) (xup_o (by omega) (xup_s _ _ _)) | exact xup_o (by omega) (xup_o (by omega) (xup_o (by omega) (by assumption)))) (c_Mod_blanks (d + 1) w1 (by omega)) (by omega) (by omega) ?_
    rintro M2 ⟨w2, f2⟩
    generalize sc bl x (nx + 1) x.length = a at *
    obtain ⟨h0, -⟩ := id w2
    refine xp_aload_0 (pc := 62) hX d_Mod_token_62 ?_
    refine xp_aload_0 (pc := 63) hX d_Mod_token_63 ?_
    refine xg_get (pc := 64) hX (j := 25) k_Mod d_Mod_token_64 l_Mod_78 (by decide) (by first | assumption | exact xup_s _ _ _ | exact xup_o (by omega) (by assumption) | exact xup_o (by omega) (xup_s _ _ _) | exact xup_o (by omega) (xup_o (by omega) (by assumption)) | exact xup_o (by omega) (xup_o (by omega) (xup_s _ _ _)) | exact xup_o (by omega) (xup_o (by omega) (xup_o (by omega) (by assumption)))) (by rfl) ?_
    refine xg_put (pc := 67) hX (j := 28) k_Mod d_Mod_token_67 l_Mod_179 (by decide) rfl (by first | assumption | exact xup_s _ _ _ | exact xup_o (by omega) (by assumption) | exact xup_o (by omega) (xup_s _ _ _) | exact xup_o (by omega) (xup_o (by omega) (by assumption)) | exact xup_o (by omega) (xup_o (by omega) (xup_s _ _ _)) | exact xup_o (by omega) (xup_o (by omega) (xup_o (by omega) (by assumption)))) (Nat.le_of_ble_eq_true rfl) rfl rfl (by simp only [List.set_cons_zero, List.set_cons_succ]; exact rfl) ?_
    refine xp_aload_0 (pc := 70) hX d_Mod_token_70 ?_
    have w3 : Wd (xup M2 O (moC O t x out full es pool se sub fd fr bg none a 3 a la va)) O t x out full es pool se sub fd fr bg none a 3 a la va := w2.up
    refine xv_V (Y2 := Y_Mod_variable) (pc := 71) hX [] k_Mod m_Mod_variable d_Mod_token_71 l_Mod_146 rfl rfl (by simp [Value.category]) (by first | assumption | exact xup_s _ _ _ | exact xup_o (by omega) (by assumption) | exact xup_o (by omega) (xup_s _ _ _) | exact xup_o (by omega) (xup_o (by omega) (by assumption)) | exact xup_o (by omega) (xup_o (by omega) (xup_s _ _ _)) | exact xup_o (by omega) (xup_o (by omega) (xup_o (by omega) (by assumption)))) (c_Mod_variable d w3 (by intro q hq; cases hq) hsl.2) (by omega) (by omega) ?_
    rintro M3 ⟨w4, f4⟩
    obtain ⟨h0, -⟩ := id w4
    have hle := rdV_le hsl.2
    have hsl2 := sc_le (P := bl) (bs := x) (a := (rdV x a).1) (b := x.length) (by omega) (by omega)
    have fe : FrO M1 M3 O := ((((f0.up' _ (by omega) (by omega)).up' _ (by omega) (by omega)).tr f2).up' _ (by omega) (by omega)).tr f4
    generalize rdV x a = V at *
    refine xp_aload_0 (pc := 74) hX d_Mod_token_74 ?_
    refine xp_aload_0 (pc := 75) hX d_Mod_token_75 ?_
    refine xg_get (pc := 76) hX (j := 25) k_Mod d_Mod_token_76 l_Mod_78 (by decide) (by first | assumption | exact xup_s _ _ _ | exact xup_o (by omega) (by assumption) | exact xup_o (by omega) (xup_s _ _ _) | exact xup_o (by omega) (xup_o (by omega) (by assumption)) | exact xup_o (by omega) (xup_o (by omega) (xup_s _ _ _)) | exact xup_o (by omega) (xup_o (by omega) (xup_o (by omega) (by assumption)))) (by rfl) ?_
    refine xg_put (pc := 79) hX (j := 29) k_Mod d_Mod_token_79 l_Mod_191 (by decide) rfl (by first | assumption | exact xup_s _ _ _ | exact xup_o (by omega) (by assumption) | exact xup_o (by omega) (xup_s _ _ _) | exact xup_o (by omega) (xup_o (by omega) (by assumption)) | exact xup_o (by omega) (xup_o (by omega) (xup_s _ _ _)) | exact xup_o (by omega) (xup_o (by omega) (xup_o (by omega) (by assumption)))) (Nat.le_of_ble_eq_true rfl) rfl rfl (by simp only [List.set_cons_zero, List.set_cons_succ]; exact rfl) ?_
    refine xp_aload_0 (pc := 82) hX d_Mod_token_82 ?_
    refine xg_get (pc := 83) hX (j := 24) k_Mod d_Mod_token_83 l_Mod_75 (by decide) (by first | assumption | exact xup_s _ _ _ | exact xup_o (by omega) (by assumption) | exact xup_o (by omega) (xup_s _ _ _) | exact xup_o (by omega) (xup_o (by omega) (by assumption)) | exact xup_o (by omega) (xup_o (by omega) (xup_s _ _ _)) | exact xup_o (by omega) (xup_o (by omega) (xup_o (by omega) (by assumption)))) (by rfl) ?_
    have w5 : Wd (xup M3 O (moC O t x out full es pool se sub fd fr bg (wrS none V) (V.1) 3 a (V.1) va)) O t x out full es pool se sub fd fr bg (wrS none V) (V.1) 3 a (V.1) va := w4.up
    have fe5 : FrO M1 (xup M3 O (moC O t x out full es pool se sub fd fr bg (wrS none V) (V.1) 3 a (V.1) va)) O := fe.up' _ (by omega) (by omega)
    generalize xup M3 O (moC O t x out full es pool se sub fd fr bg (wrS none V) (V.1) 3 a (V.1) va) = M5 at *
    by_cases c : V.2 = true
    · rw [if_pos c] at hB
      have hwr : wrS none V = none := by unfold wrS; rw [if_pos c]
      rw [hwr] at w5 ⊢
      obtain ⟨h0, -⟩ := id w5
      refine xg_if_ge (pc := 86) hX 93 d_Mod_token_86 (by decide) (fun z => absurd z (by decide)) (fun _ => ?_)
      refine xp_aload_0 (pc := 89) hX d_Mod_token_89 ?_
      refine xv_V (Y2 := Y_Mod_blanks) (pc := 90) hX [] k_Mod m_Mod_blanks d_Mod_token_90 l_Mod_188 rfl rfl (by simp [Value.category]) (by first | assumption | exact xup_s _ _ _ | exact xup_o (by omega) (by assumption) | exact xup_o (by omega) (xup_s _ _ _) | exact xup_o (by omega) (xup_o (by omega) (by assumption)) | exact xup_o (by omega) (xup_o (by omega) (xup_s _ _ _)) | exact xup_o (by omega) (xup_o (by omega) (xup_o (by omega) (by assumption)))) (c_Mod_blanks (d + 1) w5 (by omega)) (by omega) (by omega) ?_
      rintro M6 ⟨w6, f6⟩
      generalize sc bl x V.1 x.length = e at *
      obtain ⟨h0, -⟩ := id w6
      refine xp_aload_0 (pc := 93) hX d_Mod_token_93 ?_
      refine xg_get (pc := 94) hX (j := 24) k_Mod d_Mod_token_94 l_Mod_75 (by decide) (by first | assumption | exact xup_s _ _ _ | exact xup_o (by omega) (by assumption) | exact xup_o (by omega) (xup_s _ _ _) | exact xup_o (by omega) (xup_o (by omega) (by assumption)) | exact xup_o (by omega) (xup_o (by omega) (xup_s _ _ _)) | exact xup_o (by omega) (xup_o (by omega) (xup_o (by omega) (by assumption)))) (by rfl) ?_
      refine xg_if_ge (pc := 97) hX 117 d_Mod_token_97 (by decide) (fun z => absurd z (by decide)) (fun _ => ?_)
      refine xp_aload_0 (pc := 100) hX d_Mod_token_100 ?_
      refine xi_V (Y2 := Y_Mod_here) (pc := 101) hX [] k_Mod m_Mod_here d_Mod_token_101 l_Mod_85 rfl rfl (by simp [Value.category]) (by first | assumption | exact xup_s _ _ _ | exact xup_o (by omega) (by assumption) | exact xup_o (by omega) (xup_s _ _ _) | exact xup_o (by omega) (xup_o (by omega) (by assumption)) | exact xup_o (by omega) (xup_o (by omega) (xup_s _ _ _)) | exact xup_o (by omega) (xup_o (by omega) (xup_o (by omega) (by assumption)))) (c_Mod_here (d + 2) w6 (by omega)) (by omega) (by omega) ?_
      rintro y M7 ⟨rfl, rfl⟩
      refine xg_bipush (pc := 104) hX (nI 41) d_Mod_token_104 ci_bipush_41 ?_
      refine xg_icmp_eq (pc := 106) hX 117 d_Mod_token_106 (by decide) (fun z => ?_) (fun z => ?_)
      · have z : x[e]? = some 41 := (oI_eq (by decide)).mp z
        rw [if_pos z] at hB
        rw [hB, if_pos rfl] at hT
        refine xp_aload_0 (pc := 117) hX d_Mod_token_117 ?_
        refine xg_dup (pc := 118) hX d_Mod_token_118 rfl ?_
        refine xg_get (pc := 119) hX (j := 25) k_Mod d_Mod_token_119 l_Mod_78 (by decide) (by first | assumption | exact xup_s _ _ _ | exact xup_o (by omega) (by assumption) | exact xup_o (by omega) (xup_s _ _ _) | exact xup_o (by omega) (xup_o (by omega) (by assumption)) | exact xup_o (by omega) (xup_o (by omega) (xup_s _ _ _)) | exact xup_o (by omega) (xup_o (by omega) (xup_o (by omega) (by assumption)))) (by rfl) ?_
        refine xg_iconst (pc := 122) hX (nI 1) d_Mod_token_122 ci_iconst_1 ?_
        first | refine xn_iadd (pc := 123) hX d_Mod_token_123 ?_ | refine xg_iadd (pc := 123) hX d_Mod_token_123 ?_
        refine xg_put (pc := 124) hX (j := 25) k_Mod d_Mod_token_124 l_Mod_78 (by decide) rfl (by first | assumption | exact xup_s _ _ _ | exact xup_o (by omega) (by assumption) | exact xup_o (by omega) (xup_s _ _ _) | exact xup_o (by omega) (xup_o (by omega) (by assumption)) | exact xup_o (by omega) (xup_o (by omega) (xup_s _ _ _)) | exact xup_o (by omega) (xup_o (by omega) (xup_o (by omega) (by assumption)))) (Nat.le_of_ble_eq_true rfl) rfl rfl (by simp only [List.set_cons_zero, List.set_cons_succ]; exact rfl) ?_
        refine xg_goto (pc := 127) hX 293 d_Mod_token_127 (by decide) ?_
        exact good _ _ (4, a, V.1) fd a V.1 va _ hT ⟨by simp, by simp, fun _ => ⟨rfl, rfl⟩, fun q => absurd q (by simp), fun q => absurd q (by simp)⟩ w6.up ((fe5.tr f6).up' _ (by omega) (by omega))
      · have hne : ¬ x[e]? = some 41 := fun q => z ((oI_eq (by decide)).mpr q)
        rw [if_neg hne] at hB
        rw [hB, if_neg Bool.false_ne_true] at hT
        refine xp_aload_0 (pc := 109) hX d_Mod_token_109 ?_
        refine xp_aload_0 (pc := 110) hX d_Mod_token_110 ?_
        refine xg_get (pc := 111) hX (j := 25) k_Mod d_Mod_token_111 l_Mod_78 (by decide) (by first | assumption | exact xup_s _ _ _ | exact xup_o (by omega) (by assumption) | exact xup_o (by omega) (xup_s _ _ _) | exact xup_o (by omega) (xup_o (by omega) (by assumption)) | exact xup_o (by omega) (xup_o (by omega) (xup_s _ _ _)) | exact xup_o (by omega) (xup_o (by omega) (xup_o (by omega) (by assumption)))) (by rfl) ?_
        refine xv_V (Y2 := Y_Mod_fail) (pc := 114) hX [_] k_Mod m_Mod_fail d_Mod_token_114 l_Mod_92 rfl rfl (by simp [Value.category]) (by first | assumption | exact xup_s _ _ _ | exact xup_o (by omega) (by assumption) | exact xup_o (by omega) (xup_s _ _ _) | exact xup_o (by omega) (xup_o (by omega) (by assumption)) | exact xup_o (by omega) (xup_o (by omega) (xup_s _ _ _)) | exact xup_o (by omega) (xup_o (by omega) (xup_o (by omega) (by assumption)))) (c_Mod_fail (d + 2) w6 (by intro q hq; cases hq)) (by omega) (by omega) ?_
        rintro M8 ⟨w8, f8⟩
        obtain ⟨h0, -⟩ := id w8
        refine xp_aload_0 (pc := 117) hX d_Mod_token_117 ?_
        refine xg_dup (pc := 118) hX d_Mod_token_118 rfl ?_
        refine xg_get (pc := 119) hX (j := 25) k_Mod d_Mod_token_119 l_Mod_78 (by decide) (by first | assumption | exact xup_s _ _ _ | exact xup_o (by omega) (by assumption) | exact xup_o (by omega) (xup_s _ _ _) | exact xup_o (by omega) (xup_o (by omega) (by assumption)) | exact xup_o (by omega) (xup_o (by omega) (xup_s _ _ _)) | exact xup_o (by omega) (xup_o (by omega) (xup_o (by omega) (by assumption)))) (by rfl) ?_
        refine xg_iconst (pc := 122) hX (nI 1) d_Mod_token_122 ci_iconst_1 ?_
        first | refine xn_iadd (pc := 123) hX d_Mod_token_123 ?_ | refine xg_iadd (pc := 123) hX d_Mod_token_123 ?_
        refine xg_put (pc := 124) hX (j := 25) k_Mod d_Mod_token_124 l_Mod_78 (by decide) rfl (by first | assumption | exact xup_s _ _ _ | exact xup_o (by omega) (by assumption) | exact xup_o (by omega) (xup_s _ _ _) | exact xup_o (by omega) (xup_o (by omega) (by assumption)) | exact xup_o (by omega) (xup_o (by omega) (xup_s _ _ _)) | exact xup_o (by omega) (xup_o (by omega) (xup_o (by omega) (by assumption)))) (Nat.le_of_ble_eq_true rfl) rfl rfl (by simp only [List.set_cons_zero, List.set_cons_succ]; exact rfl) ?_
        refine xg_goto (pc := 127) hX 293 d_Mod_token_127 (by decide) ?_
        exact bad _ e (e + 1) 3 _ _ _ _ _ (by rw [hT]) (by omega) (by omega) w8.up (((fe5.tr f6).tr f8).up' _ (by omega) (by omega))
    · rw [if_neg c] at hB
      have hwr : wrS none V = some V.1 := by unfold wrS; rw [if_neg c]; rfl
      rw [hwr] at w5 ⊢
      obtain ⟨h0, -⟩ := id w5
      rw [hB, if_neg c] at hT
      refine xn_if_ge (a := V.1) (pc := 86) hX 93 d_Mod_token_86 (by decide) (by omega) ?_
      refine xp_aload_0 (pc := 93) hX d_Mod_token_93 ?_
      refine xg_get (pc := 94) hX (j := 24) k_Mod d_Mod_token_94 l_Mod_75 (by decide) (by first | assumption | exact xup_s _ _ _ | exact xup_o (by omega) (by assumption) | exact xup_o (by omega) (xup_s _ _ _) | exact xup_o (by omega) (xup_o (by omega) (by assumption)) | exact xup_o (by omega) (xup_o (by omega) (xup_s _ _ _)) | exact xup_o (by omega) (xup_o (by omega) (xup_o (by omega) (by assumption)))) (by rfl) ?_
      refine xn_if_ge (a := V.1) (pc := 97) hX 117 d_Mod_token_97 (by decide) (by omega) ?_
      refine xp_aload_0 (pc := 117) hX d_Mod_token_117 ?_
      refine xg_dup (pc := 118) hX d_Mod_token_118 rfl ?_
      refine xg_get (pc := 119) hX (j := 25) k_Mod d_Mod_token_119 l_Mod_78 (by decide) (by first | assumption | exact xup_s _ _ _ | exact xup_o (by omega) (by assumption) | exact xup_o (by omega) (xup_s _ _ _) | exact xup_o (by omega) (xup_o (by omega) (by assumption)) | exact xup_o (by omega) (xup_o (by omega) (xup_s _ _ _)) | exact xup_o (by omega) (xup_o (by omega) (xup_o (by omega) (by assumption)))) (by rfl) ?_
      refine xg_iconst (pc := 122) hX (nI 1) d_Mod_token_122 ci_iconst_1 ?_
      first | refine xn_iadd (pc := 123) hX d_Mod_token_123 ?_ | refine xg_iadd (pc := 123) hX d_Mod_token_123 ?_
      refine xg_put (pc := 124) hX (j := 25) k_Mod d_Mod_token_124 l_Mod_78 (by decide) rfl (by first | assumption | exact xup_s _ _ _ | exact xup_o (by omega) (by assumption) | exact xup_o (by omega) (xup_s _ _ _) | exact xup_o (by omega) (xup_o (by omega) (by assumption)) | exact xup_o (by omega) (xup_o (by omega) (xup_s _ _ _)) | exact xup_o (by omega) (xup_o (by omega) (xup_o (by omega) (by assumption)))) (Nat.le_of_ble_eq_true rfl) rfl rfl (by simp only [List.set_cons_zero, List.set_cons_succ]; exact rfl) ?_
      refine xg_goto (pc := 127) hX 293 d_Mod_token_127 (by decide) ?_
      exact bad _ V.1 (V.1 + 1) 3 _ _ _ _ _ (by rw [hT]; exact bfst _ (Bool.eq_false_iff.mpr c)) (by omega) (by omega) w5.up (fe5.up' _ (by omega) (by omega))
end XM17
