/-! THE LAW: rows over the script, calls in the law's own room, the fourteen cases, the loop -/
theorem CW.kept {M M' : xH} {B : Nat} {S : xS} (h : CW M B S) (hf : ∀ q, B ≤ q → q < B + 776 → M' q = M q) : CW M' B S := by
  obtain ⟨t, out, es, dp, se, sub, fr, bg⟩ := S
  obtain ⟨⟨f, g, L, h1⟩, tk, tg, pos, ans, pf, pt, h2, h3, ⟨x, h4⟩, sf, st, h5⟩ := h
  exact ⟨⟨f, g, L, h1.kept (fun q hq => hf q (by omega) (by omega))⟩, tk, tg, pos, ans, pf, pt, h2.kept (fun q a b => hf q (by omega) (by omega)), h3.kept (hf _ (by omega) (by omega)) (hf _ (by omega) (by omega)), ⟨x, h4.kept (hf _ (by omega) (by omega)) (hf _ (by omega) (by omega))⟩, sf, st, h5.kept (fun q a b => hf q (by omega) (by omega))⟩
theorem MW.kept {M M' : xH} {O : Nat} {S : xS} (h : MW M O S) (hf : ∀ q, O ≤ q → q < O + 16 → M' q = M q) : MW M' O S := by
  obtain ⟨t, out, es, dp, se, sub, fr, bg⟩ := S
  obtain ⟨hd, x, full, fd, wr, nx, kd, fi, la, va, h0, h1, h2, h3, h4, h5, h6, h7, h8, f, h9⟩ := h
  exact ⟨hd, x, full, fd, wr, nx, kd, fi, la, va, (hf O (by omega) (by omega)).trans h0, h1.kept (hf _ (by omega) (by omega)), h2.kept (hf _ (by omega) (by omega)), h3.kept (hf _ (by omega) (by omega)), h4.kept (hf _ (by omega) (by omega)), h5.kept (fun q a b => hf q (by omega) (by omega)), h6.kept (fun q a b => hf q (by omega) (by omega)), h7.kept (hf _ (by omega) (by omega)), h8.kept (hf _ (by omega) (by omega)), f, (hf _ (by omega) (by omega)).trans h9⟩
theorem CW.cell {M : xH} {B : Nat} {S : xS} (h : CW M B S) : ∃ fs, M B = some (.inr (7, fs)) := by
  obtain ⟨t, out, es, dp, se, sub, fr, bg⟩ := S
  obtain ⟨⟨f, g, L, h1⟩, -⟩ := h
  exact ⟨_, h1.1⟩
theorem MW.cell {M : xH} {O : Nat} {S : xS} (h : MW M O S) : ∃ fs, M O = some (.inr (8, fs)) := by
  obtain ⟨t, out, es, dp, se, sub, fr, bg⟩ := S
  obtain ⟨hd, x, full, fd, wr, nx, kd, fi, la, va, h0, -⟩ := h
  exact ⟨_, h0⟩
abbrev yLaw (nm : String) : xM := (⟨"NameRoomLaw", nm, ""⟩, code, 4, ret)
/-- the script, in the context of the law -/
def xZ (b L : Nat) (xs : Nat → Int32) (K : xK) : Prop := match K with
  | (_, _, _, _, s, _, _, _, _, _, _, _, _, A) => va_X b L xs s s.heap ∧ b < s.heap.size ∧ ¬ A b
section YG
variable {Y Y2 : xM} {rm : Room} {K : xK} {pc : Nat} {vs : List (Option Value)} {st : List Value} {M : xH} {sz c n d np ix mc ms : Nat} {Q2 : xQ}
theorem yn_sld (h : xX Y rm K) {b L : Nat} {xs : Nat → Int32} (hz : xZ b L xs K) {i : Nat} (hd : decode Y.2.1 pc = .ok (.iaload, 1)) (hi : i < L) (hL : L < 2147483648) (k : xG K (pc + 1) vs (.int (xs i) :: st) M sz c n) : xG K pc vs (.int (nI i) :: .ref b :: st) M sz c n := by
  obtain ⟨p, l, e, R, s, m, args, below, meth, c0, Q, D, dA, A⟩ := K
  obtain ⟨z1, z2, z3⟩ := hz
  have hk : (nI i).toNatClampNeg = i := nI_clamp (Nat.lt_trans hi hL)
  exact fun H locs ls hH hS hl => va_sld h.1 h.2.1 z1 z2 z3 hS (nI_in hi hL) hd (by rw [hk]; exact k H locs ls hH hS hl)
theorem yn_slen (h : xX Y rm K) {b L : Nat} {xs : Nat → Int32} (hz : xZ b L xs K) (hd : decode Y.2.1 pc = .ok (.arraylength, 1)) (k : xG K (pc + 1) vs (.int (nI L) :: st) M sz c n) : xG K pc vs (.ref b :: st) M sz c n := by
  obtain ⟨p, l, e, R, s, m, args, below, meth, c0, Q, D, dA, A⟩ := K
  obtain ⟨z1, z2, z3⟩ := hz
  exact fun H locs ls hH hS hl => va_slen h.1 h.2.1 z1 z2 z3 hS hd (k H locs ls hH hS hl)
theorem yg_callV (h : xX Y rm K) (hrf : d + 1 ≤ rm.frames) (hrl : 40 * (d + 1) ≤ rm.locals) {ci N b : Nat} {T : u_T} {ty : Nat → FieldType} {fs : List Value} (As : List Value) (hcl : xCl ci Y2.1.cls T N ty) (hm : xVm Y2 np) (hd : decode Y.2.1 pc = .ok (.invokevirtual ix, 3)) (hw : Cond.methodLink Y.1.cls ix Y2.1 ∈ lw_g) (hn : As.length = np) {st0 : List Value} (hst : As.reverse ++ .ref b :: st = st0) (hb8 : (st.map fun v => v.category).sum ≤ 8) (hM : M b = some (.inr (ci, fs))) (hC : xC d mc ms Y2 (.ref b :: As) M sz Q2) (hcc : c + mc ≤ rm.cells) (hss : n + ms ≤ rm.slots) (k : ∀ v M' sz', Q2 v M' sz' → xG K (pc + 3) vs (v.toList ++ st) M' sz' (c + mc) (n + ms)) : xG K pc vs st0 M sz c n := by
  subst hst
  obtain ⟨p, l, e, R, s, m, args, below, meth, c0, Qs, D, dA, A⟩ := K
  obtain ⟨hx, hb, hml, hr, hlk, hown, hts, hKK, hA, hnm, hR, hNs⟩ := h
  subst hR
  intro H locs ls hH hS hl
  obtain ⟨w1, w2, w3, w4, w5, w6⟩ := hm
  have hG : GoodIn lw_g (wsV Y.1.cls ix Y2.1.cls Y2.1 (xw Y2)) := by
    intro w hw9
    unfold wsV at hw9
    rcases List.mem_append.mp hw9 with h9 | h9
    · simp only [List.mem_cons, List.not_mem_nil, or_false] at h9
      rcases h9 with rfl | rfl | rfl | rfl
      · exact x_goodAll _ hw
      · exact x_goodAll _ w2
      · exact x_goodAll _ w3
      · exact x_goodAll _ w4
    · exact x_goodW w1 w h9
  refine xg_after (va_runV (As := As) (rest := st) (b := b) (C := Y2.1.cls) (bytes := Y2.2.1) (maxL := Y2.2.2.1) (ret := Y2.2.2.2) ⟨hx, hb, rfl, hown, hts⟩ (hC l D dA) (cwV np hts hG rfl rfl rfl ⟨rfl, w5⟩ ⟨hrf, by show 8 + (Y2.2.2.1 + 11) + 40 * d ≤ _; omega⟩) ⟨xPre_blind, va_recv hKK (hH.one hM) hcl.1 (q0 := 0) rfl, fun U hU hW => ⟨rfl, by rw [hU]; exact hH.weak (fun _ _ => trivial), va_K.moved hW.alike hKK, hNs.warm hW⟩⟩ rfl hn hl.1 rfl (lv_room hb8) hd ⟨hcc, hss⟩) hA hH hS ?_
  exact fun v M' sz' H1 locs1 hq hH1 hS1 => k v M' sz' hq H1 locs1 ls hH1 hS1 hl
theorem yg_callI (h : xX Y rm K) (hrf : d + 1 ≤ rm.frames) (hrl : 40 * (d + 1) ≤ rm.locals) {b : Nat} (As : List Value) (hm : xIm Y2 np) (hd : decode Y.2.1 pc = .ok (.invokespecial ix, 3)) (hw : Cond.methodLink Y.1.cls ix Y2.1 ∈ lw_g) (hn : As.length = np) {st0 : List Value} (hst : As.reverse ++ .ref b :: st = st0) (hb8 : (st.map fun v => v.category).sum ≤ 8) (hC : xC d mc ms Y2 (.ref b :: As) M sz Q2) (hcc : c + mc ≤ rm.cells) (hss : n + ms ≤ rm.slots) (k : ∀ v M' sz', Q2 v M' sz' → xG K (pc + 3) vs (v.toList ++ st) M' sz' (c + mc) (n + ms)) : xG K pc vs st0 M sz c n := by
  subst hst
  obtain ⟨p, l, e, R, s, m, args, below, meth, c0, Qs, D, dA, A⟩ := K
  obtain ⟨hx, hb, hml, hr, hlk, hown, hts, hKK, hA, hnm, hR, hNs⟩ := h
  subst hR
  intro H locs ls hH hS hl
  obtain ⟨w1, w2, w3, w4, w5, w6, w7⟩ := hm
  have w1' : Cond.code Y2.1 Y2.2.1 Y2.2.2.1 none ∈ lw_g := by rw [← w7]; exact w1
  have hw7 : xw Y2 = Cond.code Y2.1 Y2.2.1 Y2.2.2.1 none :: lw_g := by unfold xw; rw [w7]
  refine xg_after (va_runI (As := As) (rest := st) (b := b) (bytes := Y2.2.1) (maxL := Y2.2.2.1) ⟨hx, hb, rfl, hown, hts⟩ (hC l D dA) (cwI np hts (x_goodW w1) hw7 rfl rfl (hts _ w4) (hts _ hw) (hts _ w2) w3 w5 ⟨hrf, by show 8 + (Y2.2.2.1 + 11) + 40 * d ≤ _; omega⟩) ⟨xPre_blind, fun U hU hW => ⟨rfl, by rw [hU]; exact hH.weak (fun _ _ => trivial), va_K.moved hW.alike hKK, hNs.warm hW⟩⟩ rfl hn hl.1 rfl (lv_room hb8) hd ⟨hcc, hss⟩) hA hH hS ?_
  exact fun v M' sz' H1 locs1 hq hH1 hS1 => k v M' sz' hq H1 locs1 ls hH1 hS1 hl
theorem yi_V (h : xX Y rm K) (hrf : d + 1 ≤ rm.frames) (hrl : 40 * (d + 1) ≤ rm.locals) {ci N b : Nat} {T : u_T} {ty : Nat → FieldType} {fs : List Value} {P : Int32 → xH → Prop} (As : List Value) (hcl : xCl ci Y2.1.cls T N ty) (hm : xVm Y2 np) (hd : decode Y.2.1 pc = .ok (.invokevirtual ix, 3)) (hw : Cond.methodLink Y.1.cls ix Y2.1 ∈ lw_g) (hn : As.length = np) {st0 : List Value} (hst : As.reverse ++ .ref b :: st = st0) (hb8 : (st.map fun v => v.category).sum ≤ 8) (hM : M b = some (.inr (ci, fs))) (hC : xC d 0 0 Y2 (.ref b :: As) M sz (qi sz P)) (hcc : c ≤ rm.cells) (hss : n ≤ rm.slots) (k : ∀ x M', P x M' → xG K (pc + 3) vs (.int x :: st) M' sz c n) : xG K pc vs st0 M sz c n :=
  yg_callV h hrf hrl As hcl hm hd hw hn hst hb8 hM hC hcc hss (fun v M' sz' hq => by
    obtain ⟨rfl, x, rfl, hp⟩ := hq
    exact k x M' hp)
end YG
theorem y_and15 (x : Int32) : ∃ k, k < 16 ∧ x &&& nI 15 = nI k := by
  refine ⟨(x &&& nI 15).toBitVec.toNat, ?_, ?_⟩
  · rw [Int32.toBitVec_and, BitVec.toNat_and]
    have h : (nI 15).toBitVec.toNat = 15 := by decide +kernel
    rw [h]
    exact Nat.lt_succ_of_le Nat.and_le_right
  · apply Int32.toBitVec_inj.mp
    show _ = BitVec.ofNat 32 _
    rw [BitVec.ofNat_toNat, BitVec.setWidth_eq]
theorem y_fit {i L : Nat} (hL : L ≤ 1000000) (hi : i ≤ 1000010) (h : ¬ nI L - nI 6 < nI i) : i + 6 ≤ L := by
  rcases Nat.lt_or_ge L (i + 6) with q | q
  · refine absurd ?_ h
    rw [Int32.lt_iff_toInt_lt, nI_toInt (by omega), Int32.toInt_sub, nI_toInt (by omega), show (nI 6).toInt = 6 by decide +kernel]
    rw [Int.bmod_def]
    split <;> omega
  · exact q
set_option maxHeartbeats 4000000 in
set_option maxRecDepth 100000 in
theorem y_feed {nm : String} {K : xK} {b L B sz i : Nat} {xs : Nat → Int32} {M : xH} {S : xS} (hX : xX (yLaw nm) room_1 K) (hz : xZ b L xs K) (hi : i + 6 ≤ L) (hL : L ≤ 1000000) (hC : CW M B S) (hO : MW M (B + 776) S) (hI : InvG S) (k : ∀ M1 S1, CW M1 B S1 → MW M1 (B + 776) S1 → InvG S1 → xG K 412 [some (.ref b), some (.ref B), some (.ref (B + 776)), some (.int (nI i))] [] M1 sz 792 124018) : xG K 104 [some (.ref b), some (.ref B), some (.ref (B + 776)), some (.int (nI i))] [] M sz 792 124018 := by
  obtain ⟨f0, hc0⟩ := hC.cell
  refine xp_aload_1 (pc := 104) hX d_Law_law_104 ?_
  refine xp_aload_0 (pc := 105) hX d_Law_law_105 ?_
  refine xp_iload_3 (pc := 106) hX d_Law_law_106 ?_
  refine xg_iconst (pc := 107) hX (nI 1) d_Law_law_107 ci_iconst_1 ?_
  first | refine xn_iadd (pc := 108) hX d_Law_law_108 ?_ | refine xg_iadd (pc := 108) hX d_Law_law_108 ?_
  refine yn_sld (pc := 109) hX hz d_Law_law_109 (by omega) (by omega) ?_
  refine xp_aload_0 (pc := 110) hX d_Law_law_110 ?_
  refine xp_iload_3 (pc := 111) hX d_Law_law_111 ?_
  refine xg_iconst (pc := 112) hX (nI 2) d_Law_law_112 ci_iconst_2 ?_
  first | refine xn_iadd (pc := 113) hX d_Law_law_113 ?_ | refine xg_iadd (pc := 113) hX d_Law_law_113 ?_
  refine yn_sld (pc := 114) hX hz d_Law_law_114 (by omega) (by omega) ?_
  refine xp_aload_0 (pc := 115) hX d_Law_law_115 ?_
  refine xp_iload_3 (pc := 116) hX d_Law_law_116 ?_
  refine xg_iconst (pc := 117) hX (nI 3) d_Law_law_117 ci_iconst_3 ?_
  first | refine xn_iadd (pc := 118) hX d_Law_law_118 ?_ | refine xg_iadd (pc := 118) hX d_Law_law_118 ?_
  refine yn_sld (pc := 119) hX hz d_Law_law_119 (by omega) (by omega) ?_
  refine xp_aload_0 (pc := 120) hX d_Law_law_120 ?_
  refine xp_iload_3 (pc := 121) hX d_Law_law_121 ?_
  refine xg_iconst (pc := 122) hX (nI 4) d_Law_law_122 ci_iconst_4 ?_
  first | refine xn_iadd (pc := 123) hX d_Law_law_123 ?_ | refine xg_iadd (pc := 123) hX d_Law_law_123 ?_
  refine yn_sld (pc := 124) hX hz d_Law_law_124 (by omega) (by omega) ?_
  refine xp_aload_0 (pc := 125) hX d_Law_law_125 ?_
  refine xp_iload_3 (pc := 126) hX d_Law_law_126 ?_
  refine xg_iconst (pc := 127) hX (nI 5) d_Law_law_127 ci_iconst_5 ?_
  first | refine xn_iadd (pc := 128) hX d_Law_law_128 ?_ | refine xg_iadd (pc := 128) hX d_Law_law_128 ?_
  refine yn_sld (pc := 129) hX hz d_Law_law_129 (by omega) (by omega) ?_
  refine yi_V (Y2 := Y_Nam_feed) (d := 9) (pc := 130) hX (Nat.le_of_ble_eq_true rfl) (Nat.le_of_ble_eq_true rfl) [_, _, _, _, _] k_Nam m_Nam_feed d_Law_law_130 l_Law_13 rfl rfl (by simp [Value.category]) hc0 (a_feed 7 _ _ _ _ _ hC) (Nat.le_of_ble_eq_true rfl) (Nat.le_of_ble_eq_true rfl) ?_
  rintro y1 M1 ⟨rfl, hC1, hf1⟩
  have hO1 : MW M1 (B + 776) S := hO.kept (fun q a b => hf1 q (Or.inr a))
  obtain ⟨f1, hc1⟩ := hO1.cell
  refine xp_aload_2 (pc := 133) hX d_Law_law_133 ?_
  refine xp_aload_0 (pc := 134) hX d_Law_law_134 ?_
  refine xp_iload_3 (pc := 135) hX d_Law_law_135 ?_
  refine xg_iconst (pc := 136) hX (nI 1) d_Law_law_136 ci_iconst_1 ?_
  first | refine xn_iadd (pc := 137) hX d_Law_law_137 ?_ | refine xg_iadd (pc := 137) hX d_Law_law_137 ?_
  refine yn_sld (pc := 138) hX hz d_Law_law_138 (by omega) (by omega) ?_
  refine xp_aload_0 (pc := 139) hX d_Law_law_139 ?_
  refine xp_iload_3 (pc := 140) hX d_Law_law_140 ?_
  refine xg_iconst (pc := 141) hX (nI 2) d_Law_law_141 ci_iconst_2 ?_
  first | refine xn_iadd (pc := 142) hX d_Law_law_142 ?_ | refine xg_iadd (pc := 142) hX d_Law_law_142 ?_
  refine yn_sld (pc := 143) hX hz d_Law_law_143 (by omega) (by omega) ?_
  refine xp_aload_0 (pc := 144) hX d_Law_law_144 ?_
  refine xp_iload_3 (pc := 145) hX d_Law_law_145 ?_
  refine xg_iconst (pc := 146) hX (nI 3) d_Law_law_146 ci_iconst_3 ?_
  first | refine xn_iadd (pc := 147) hX d_Law_law_147 ?_ | refine xg_iadd (pc := 147) hX d_Law_law_147 ?_
  refine yn_sld (pc := 148) hX hz d_Law_law_148 (by omega) (by omega) ?_
  refine xp_aload_0 (pc := 149) hX d_Law_law_149 ?_
  refine xp_iload_3 (pc := 150) hX d_Law_law_150 ?_
  refine xg_iconst (pc := 151) hX (nI 4) d_Law_law_151 ci_iconst_4 ?_
  first | refine xn_iadd (pc := 152) hX d_Law_law_152 ?_ | refine xg_iadd (pc := 152) hX d_Law_law_152 ?_
  refine yn_sld (pc := 153) hX hz d_Law_law_153 (by omega) (by omega) ?_
  refine xp_aload_0 (pc := 154) hX d_Law_law_154 ?_
  refine xp_iload_3 (pc := 155) hX d_Law_law_155 ?_
  refine xg_iconst (pc := 156) hX (nI 5) d_Law_law_156 ci_iconst_5 ?_
  first | refine xn_iadd (pc := 157) hX d_Law_law_157 ?_ | refine xg_iadd (pc := 157) hX d_Law_law_157 ?_
  refine yn_sld (pc := 158) hX hz d_Law_law_158 (by omega) (by omega) ?_
  refine yi_V (Y2 := Y_Mod_feed) (d := 9) (pc := 159) hX (Nat.le_of_ble_eq_true rfl) (Nat.le_of_ble_eq_true rfl) [_, _, _, _, _] k_Mod m_Mod_feed d_Law_law_159 l_Law_17 rfl rfl (by simp [Value.category]) hc1 (b_feed 8 _ _ _ _ _ hO1) (Nat.le_of_ble_eq_true rfl) (Nat.le_of_ble_eq_true rfl) ?_
  rintro y2 M2 ⟨rfl, hO2, hf2⟩
  refine xg_icmp_eq (pc := 162) hX 412 d_Law_law_162 (by decide) (fun _ => ?_) (fun h9 => absurd rfl h9)
  exact k M2 _ (hC1.kept (fun q a b => hf2 q (Or.inl b))) hO2 (i_feed hI)
set_option maxHeartbeats 4000000 in
set_option maxRecDepth 100000 in
theorem y_end {nm : String} {K : xK} {b L B sz i : Nat} {xs : Nat → Int32} {M : xH} {S : xS} (hX : xX (yLaw nm) room_1 K) (hz : xZ b L xs K) (hi : i + 6 ≤ L) (hL : L ≤ 1000000) (hC : CW M B S) (hO : MW M (B + 776) S) (hI : InvG S) (k : ∀ M1 S1, CW M1 B S1 → MW M1 (B + 776) S1 → InvG S1 → xG K 412 [some (.ref b), some (.ref B), some (.ref (B + 776)), some (.int (nI i))] [] M1 sz 792 124018) : xG K 167 [some (.ref b), some (.ref B), some (.ref (B + 776)), some (.int (nI i))] [] M sz 792 124018 := by
  obtain ⟨f0, hc0⟩ := hC.cell
  refine xp_aload_1 (pc := 167) hX d_Law_law_167 ?_
  refine xp_aload_0 (pc := 168) hX d_Law_law_168 ?_
  refine xp_iload_3 (pc := 169) hX d_Law_law_169 ?_
  refine xg_iconst (pc := 170) hX (nI 1) d_Law_law_170 ci_iconst_1 ?_
  first | refine xn_iadd (pc := 171) hX d_Law_law_171 ?_ | refine xg_iadd (pc := 171) hX d_Law_law_171 ?_
  refine yn_sld (pc := 172) hX hz d_Law_law_172 (by omega) (by omega) ?_
  refine yi_V (Y2 := Y_Nam_end) (d := 9) (pc := 173) hX (Nat.le_of_ble_eq_true rfl) (Nat.le_of_ble_eq_true rfl) [_] k_Nam m_Nam_end d_Law_law_173 l_Law_18 rfl rfl (by simp [Value.category]) hc0 (a_end 9 _ hC) (Nat.le_of_ble_eq_true rfl) (Nat.le_of_ble_eq_true rfl) ?_
  rintro y1 M1 ⟨rfl, hC1, hf1⟩
  have hO1 : MW M1 (B + 776) S := hO.kept (fun q a b => hf1 q (Or.inr a))
  obtain ⟨f1, hc1⟩ := hO1.cell
  refine xp_aload_2 (pc := 176) hX d_Law_law_176 ?_
  refine xp_aload_0 (pc := 177) hX d_Law_law_177 ?_
  refine xp_iload_3 (pc := 178) hX d_Law_law_178 ?_
  refine xg_iconst (pc := 179) hX (nI 1) d_Law_law_179 ci_iconst_1 ?_
  first | refine xn_iadd (pc := 180) hX d_Law_law_180 ?_ | refine xg_iadd (pc := 180) hX d_Law_law_180 ?_
  refine yn_sld (pc := 181) hX hz d_Law_law_181 (by omega) (by omega) ?_
  refine yi_V (Y2 := Y_Mod_end) (d := 9) (pc := 182) hX (Nat.le_of_ble_eq_true rfl) (Nat.le_of_ble_eq_true rfl) [_] k_Mod m_Mod_end d_Law_law_182 l_Law_22 rfl rfl (by simp [Value.category]) hc1 (b_end 9 _ hO1) (Nat.le_of_ble_eq_true rfl) (Nat.le_of_ble_eq_true rfl) ?_
  rintro y2 M2 ⟨rfl, hO2, hf2⟩
  refine xg_icmp_eq (pc := 185) hX 412 d_Law_law_185 (by decide) (fun _ => ?_) (fun h9 => absurd rfl h9)
  exact k M2 _ (hC1.kept (fun q a b => hf2 q (Or.inl b))) hO2 (i_end hI)
set_option maxHeartbeats 4000000 in
set_option maxRecDepth 100000 in
theorem y_out {nm : String} {K : xK} {b L B sz i : Nat} {xs : Nat → Int32} {M : xH} {S : xS} (hX : xX (yLaw nm) room_1 K) (hz : xZ b L xs K) (hi : i + 6 ≤ L) (hL : L ≤ 1000000) (hC : CW M B S) (hO : MW M (B + 776) S) (hI : InvG S) (k : ∀ M1 S1, CW M1 B S1 → MW M1 (B + 776) S1 → InvG S1 → xG K 412 [some (.ref b), some (.ref B), some (.ref (B + 776)), some (.int (nI i))] [] M1 sz 792 124018) : xG K 190 [some (.ref b), some (.ref B), some (.ref (B + 776)), some (.int (nI i))] [] M sz 792 124018 := by
  obtain ⟨f0, hc0⟩ := hC.cell
  refine xp_aload_1 (pc := 190) hX d_Law_law_190 ?_
  refine xp_aload_0 (pc := 191) hX d_Law_law_191 ?_
  refine xp_iload_3 (pc := 192) hX d_Law_law_192 ?_
  refine xg_iconst (pc := 193) hX (nI 1) d_Law_law_193 ci_iconst_1 ?_
  first | refine xn_iadd (pc := 194) hX d_Law_law_194 ?_ | refine xg_iadd (pc := 194) hX d_Law_law_194 ?_
  refine yn_sld (pc := 195) hX hz d_Law_law_195 (by omega) (by omega) ?_
  refine yi_V (Y2 := Y_Nam_out) (d := 9) (pc := 196) hX (Nat.le_of_ble_eq_true rfl) (Nat.le_of_ble_eq_true rfl) [_] k_Nam m_Nam_out d_Law_law_196 l_Law_23 rfl rfl (by simp [Value.category]) hc0 (a_out 8 _ hC) (Nat.le_of_ble_eq_true rfl) (Nat.le_of_ble_eq_true rfl) ?_
  rintro y1 M1 ⟨rfl, hC1, hf1⟩
  have hO1 : MW M1 (B + 776) S := hO.kept (fun q a b => hf1 q (Or.inr a))
  obtain ⟨f1, hc1⟩ := hO1.cell
  refine xp_aload_2 (pc := 199) hX d_Law_law_199 ?_
  refine xp_aload_0 (pc := 200) hX d_Law_law_200 ?_
  refine xp_iload_3 (pc := 201) hX d_Law_law_201 ?_
  refine xg_iconst (pc := 202) hX (nI 1) d_Law_law_202 ci_iconst_1 ?_
  first | refine xn_iadd (pc := 203) hX d_Law_law_203 ?_ | refine xg_iadd (pc := 203) hX d_Law_law_203 ?_
  refine yn_sld (pc := 204) hX hz d_Law_law_204 (by omega) (by omega) ?_
  refine yi_V (Y2 := Y_Mod_out) (d := 9) (pc := 205) hX (Nat.le_of_ble_eq_true rfl) (Nat.le_of_ble_eq_true rfl) [_] k_Mod m_Mod_out d_Law_law_205 l_Law_26 rfl rfl (by simp [Value.category]) hc1 (b_out 9 _ hO1) (Nat.le_of_ble_eq_true rfl) (Nat.le_of_ble_eq_true rfl) ?_
  rintro y2 M2 ⟨rfl, hO2, hf2⟩
  refine xg_icmp_eq (pc := 208) hX 412 d_Law_law_208 (by decide) (fun _ => ?_) (fun h9 => absurd rfl h9)
  exact k M2 _ (hC1.kept (fun q a b => hf2 q (Or.inl b))) hO2 (i_out hI)
set_option maxHeartbeats 4000000 in
set_option maxRecDepth 100000 in
theorem y_set {nm : String} {K : xK} {b L B sz i : Nat} {xs : Nat → Int32} {M : xH} {S : xS} (hX : xX (yLaw nm) room_1 K) (hz : xZ b L xs K) (hi : i + 6 ≤ L) (hL : L ≤ 1000000) (hC : CW M B S) (hO : MW M (B + 776) S) (hI : InvG S) (k : ∀ M1 S1, CW M1 B S1 → MW M1 (B + 776) S1 → InvG S1 → xG K 412 [some (.ref b), some (.ref B), some (.ref (B + 776)), some (.int (nI i))] [] M1 sz 792 124018) : xG K 213 [some (.ref b), some (.ref B), some (.ref (B + 776)), some (.int (nI i))] [] M sz 792 124018 := by
  obtain ⟨f0, hc0⟩ := hC.cell
  refine xp_aload_1 (pc := 213) hX d_Law_law_213 ?_
  refine yi_V (Y2 := Y_Nam_set) (d := 9) (pc := 214) hX (Nat.le_of_ble_eq_true rfl) (Nat.le_of_ble_eq_true rfl) [] k_Nam m_Nam_set d_Law_law_214 l_Law_27 rfl rfl (by simp [Value.category]) hc0 (a_set 4 hC) (Nat.le_of_ble_eq_true rfl) (Nat.le_of_ble_eq_true rfl) ?_
  rintro y1 M1 ⟨rfl, hC1, hf1⟩
  have hO1 : MW M1 (B + 776) S := hO.kept (fun q a b => hf1 q (Or.inr a))
  obtain ⟨f1, hc1⟩ := hO1.cell
  refine xp_aload_2 (pc := 217) hX d_Law_law_217 ?_
  refine yi_V (Y2 := Y_Mod_set) (d := 9) (pc := 218) hX (Nat.le_of_ble_eq_true rfl) (Nat.le_of_ble_eq_true rfl) [] k_Mod m_Mod_set d_Law_law_218 l_Law_31 rfl rfl (by simp [Value.category]) hc1 (b_set 4 hO1 hI.1) (Nat.le_of_ble_eq_true rfl) (Nat.le_of_ble_eq_true rfl) ?_
  rintro y2 M2 ⟨rfl, hO2, hf2⟩
  refine xg_icmp_eq (pc := 221) hX 412 d_Law_law_221 (by decide) (fun _ => ?_) (fun h9 => absurd rfl h9)
  exact k M2 _ (hC1.kept (fun q a b => hf2 q (Or.inl b))) hO2 (i_set hI)
set_option maxHeartbeats 4000000 in
set_option maxRecDepth 100000 in
theorem y_get {nm : String} {K : xK} {b L B sz i : Nat} {xs : Nat → Int32} {M : xH} {S : xS} (hX : xX (yLaw nm) room_1 K) (hz : xZ b L xs K) (hi : i + 6 ≤ L) (hL : L ≤ 1000000) (hC : CW M B S) (hO : MW M (B + 776) S) (hI : InvG S) (k : ∀ M1 S1, CW M1 B S1 → MW M1 (B + 776) S1 → InvG S1 → xG K 412 [some (.ref b), some (.ref B), some (.ref (B + 776)), some (.int (nI i))] [] M1 sz 792 124018) : xG K 226 [some (.ref b), some (.ref B), some (.ref (B + 776)), some (.int (nI i))] [] M sz 792 124018 := by
  obtain ⟨f0, hc0⟩ := hC.cell
  refine xp_aload_1 (pc := 226) hX d_Law_law_226 ?_
  refine yi_V (Y2 := Y_Nam_get) (d := 9) (pc := 227) hX (Nat.le_of_ble_eq_true rfl) (Nat.le_of_ble_eq_true rfl) [] k_Nam m_Nam_get d_Law_law_227 l_Law_32 rfl rfl (by simp [Value.category]) hc0 (a_get 3 hC hI.1.1) (Nat.le_of_ble_eq_true rfl) (Nat.le_of_ble_eq_true rfl) ?_
  rintro y1 M1 ⟨rfl, hC1, hf1⟩
  have hO1 : MW M1 (B + 776) S := hO.kept (fun q a b => hf1 q (Or.inr a))
  obtain ⟨f1, hc1⟩ := hO1.cell
  refine xp_aload_2 (pc := 230) hX d_Law_law_230 ?_
  refine yi_V (Y2 := Y_Mod_get) (d := 9) (pc := 231) hX (Nat.le_of_ble_eq_true rfl) (Nat.le_of_ble_eq_true rfl) [] k_Mod m_Mod_get d_Law_law_231 l_Law_35 rfl rfl (by simp [Value.category]) hc1 (b_get 3 hO1 hI.1) (Nat.le_of_ble_eq_true rfl) (Nat.le_of_ble_eq_true rfl) ?_
  rintro y2 M2 ⟨rfl, hO2, hf2⟩
  refine xg_icmp_eq (pc := 234) hX 412 d_Law_law_234 (by decide) (fun _ => ?_) (fun h9 => absurd rfl h9)
  exact k M2 _ (hC1.kept (fun q a b => hf2 q (Or.inl b))) hO2 (i_get hI)
set_option maxHeartbeats 4000000 in
set_option maxRecDepth 100000 in
theorem y_known {nm : String} {K : xK} {b L B sz i : Nat} {xs : Nat → Int32} {M : xH} {S : xS} (hX : xX (yLaw nm) room_1 K) (hz : xZ b L xs K) (hi : i + 6 ≤ L) (hL : L ≤ 1000000) (hC : CW M B S) (hO : MW M (B + 776) S) (hI : InvG S) (k : ∀ M1 S1, CW M1 B S1 → MW M1 (B + 776) S1 → InvG S1 → xG K 412 [some (.ref b), some (.ref B), some (.ref (B + 776)), some (.int (nI i))] [] M1 sz 792 124018) : xG K 239 [some (.ref b), some (.ref B), some (.ref (B + 776)), some (.int (nI i))] [] M sz 792 124018 := by
  obtain ⟨f0, hc0⟩ := hC.cell
  refine xp_aload_1 (pc := 239) hX d_Law_law_239 ?_
  refine yi_V (Y2 := Y_Nam_known) (d := 9) (pc := 240) hX (Nat.le_of_ble_eq_true rfl) (Nat.le_of_ble_eq_true rfl) [] k_Nam m_Nam_known d_Law_law_240 l_Law_36 rfl rfl (by simp [Value.category]) hc0 (a_known 3 hC hI.1.1) (Nat.le_of_ble_eq_true rfl) (Nat.le_of_ble_eq_true rfl) ?_
  rintro y1 M1 ⟨rfl, hC1, hf1⟩
  have hO1 : MW M1 (B + 776) S := hO.kept (fun q a b => hf1 q (Or.inr a))
  obtain ⟨f1, hc1⟩ := hO1.cell
  refine xp_aload_2 (pc := 243) hX d_Law_law_243 ?_
  refine yi_V (Y2 := Y_Mod_known) (d := 9) (pc := 244) hX (Nat.le_of_ble_eq_true rfl) (Nat.le_of_ble_eq_true rfl) [] k_Mod m_Mod_known d_Law_law_244 l_Law_39 rfl rfl (by simp [Value.category]) hc1 (b_known 3 hO1 hI.1) (Nat.le_of_ble_eq_true rfl) (Nat.le_of_ble_eq_true rfl) ?_
  rintro y2 M2 ⟨rfl, hO2, hf2⟩
  refine xg_icmp_eq (pc := 247) hX 412 d_Law_law_247 (by decide) (fun _ => ?_) (fun h9 => absurd rfl h9)
  exact k M2 _ (hC1.kept (fun q a b => hf2 q (Or.inl b))) hO2 (i_known hI)
set_option maxHeartbeats 4000000 in
set_option maxRecDepth 100000 in
theorem y_drop {nm : String} {K : xK} {b L B sz i : Nat} {xs : Nat → Int32} {M : xH} {S : xS} (hX : xX (yLaw nm) room_1 K) (hz : xZ b L xs K) (hi : i + 6 ≤ L) (hL : L ≤ 1000000) (hC : CW M B S) (hO : MW M (B + 776) S) (hI : InvG S) (k : ∀ M1 S1, CW M1 B S1 → MW M1 (B + 776) S1 → InvG S1 → xG K 412 [some (.ref b), some (.ref B), some (.ref (B + 776)), some (.int (nI i))] [] M1 sz 792 124018) : xG K 252 [some (.ref b), some (.ref B), some (.ref (B + 776)), some (.int (nI i))] [] M sz 792 124018 := by
  obtain ⟨f0, hc0⟩ := hC.cell
  refine xp_aload_1 (pc := 252) hX d_Law_law_252 ?_
  refine yi_V (Y2 := Y_Nam_drop) (d := 9) (pc := 253) hX (Nat.le_of_ble_eq_true rfl) (Nat.le_of_ble_eq_true rfl) [] k_Nam m_Nam_drop d_Law_law_253 l_Law_40 rfl rfl (by simp [Value.category]) hc0 (a_drop 4 hC) (Nat.le_of_ble_eq_true rfl) (Nat.le_of_ble_eq_true rfl) ?_
  rintro y1 M1 ⟨rfl, hC1, hf1⟩
  have hO1 : MW M1 (B + 776) S := hO.kept (fun q a b => hf1 q (Or.inr a))
  obtain ⟨f1, hc1⟩ := hO1.cell
  refine xp_aload_2 (pc := 256) hX d_Law_law_256 ?_
  refine yi_V (Y2 := Y_Mod_drop) (d := 9) (pc := 257) hX (Nat.le_of_ble_eq_true rfl) (Nat.le_of_ble_eq_true rfl) [] k_Mod m_Mod_drop d_Law_law_257 l_Law_43 rfl rfl (by simp [Value.category]) hc1 (b_drop 4 hO1 hI.1) (Nat.le_of_ble_eq_true rfl) (Nat.le_of_ble_eq_true rfl) ?_
  rintro y2 M2 ⟨rfl, hO2, hf2⟩
  refine xg_icmp_eq (pc := 260) hX 412 d_Law_law_260 (by decide) (fun _ => ?_) (fun h9 => absurd rfl h9)
  exact k M2 _ (hC1.kept (fun q a b => hf2 q (Or.inl b))) hO2 (i_drop hI)
set_option maxHeartbeats 4000000 in
set_option maxRecDepth 100000 in
theorem y_open {nm : String} {K : xK} {b L B sz i : Nat} {xs : Nat → Int32} {M : xH} {S : xS} (hX : xX (yLaw nm) room_1 K) (hz : xZ b L xs K) (hi : i + 6 ≤ L) (hL : L ≤ 1000000) (hC : CW M B S) (hO : MW M (B + 776) S) (hI : InvG S) (k : ∀ M1 S1, CW M1 B S1 → MW M1 (B + 776) S1 → InvG S1 → xG K 412 [some (.ref b), some (.ref B), some (.ref (B + 776)), some (.int (nI i))] [] M1 sz 792 124018) : xG K 265 [some (.ref b), some (.ref B), some (.ref (B + 776)), some (.int (nI i))] [] M sz 792 124018 := by
  obtain ⟨f0, hc0⟩ := hC.cell
  refine xp_aload_1 (pc := 265) hX d_Law_law_265 ?_
  refine yi_V (Y2 := Y_Nam_open) (d := 9) (pc := 266) hX (Nat.le_of_ble_eq_true rfl) (Nat.le_of_ble_eq_true rfl) [] k_Nam m_Nam_open d_Law_law_266 l_Law_44 rfl rfl (by simp [Value.category]) hc0 (a_open 3 hC hI.1.1) (Nat.le_of_ble_eq_true rfl) (Nat.le_of_ble_eq_true rfl) ?_
  rintro y1 M1 ⟨rfl, hC1, hf1⟩
  have hO1 : MW M1 (B + 776) S := hO.kept (fun q a b => hf1 q (Or.inr a))
  obtain ⟨f1, hc1⟩ := hO1.cell
  refine xp_aload_2 (pc := 269) hX d_Law_law_269 ?_
  refine yi_V (Y2 := Y_Mod_open) (d := 9) (pc := 270) hX (Nat.le_of_ble_eq_true rfl) (Nat.le_of_ble_eq_true rfl) [] k_Mod m_Mod_open d_Law_law_270 l_Law_47 rfl rfl (by simp [Value.category]) hc1 (b_open 4 hO1 hI.1) (Nat.le_of_ble_eq_true rfl) (Nat.le_of_ble_eq_true rfl) ?_
  rintro y2 M2 ⟨rfl, hO2, hf2⟩
  refine xg_icmp_eq (pc := 273) hX 412 d_Law_law_273 (by decide) (fun _ => ?_) (fun h9 => absurd rfl h9)
  exact k M2 _ (hC1.kept (fun q a b => hf2 q (Or.inl b))) hO2 (i_open hI)
set_option maxHeartbeats 4000000 in
set_option maxRecDepth 100000 in
theorem y_close {nm : String} {K : xK} {b L B sz i : Nat} {xs : Nat → Int32} {M : xH} {S : xS} (hX : xX (yLaw nm) room_1 K) (hz : xZ b L xs K) (hi : i + 6 ≤ L) (hL : L ≤ 1000000) (hC : CW M B S) (hO : MW M (B + 776) S) (hI : InvG S) (k : ∀ M1 S1, CW M1 B S1 → MW M1 (B + 776) S1 → InvG S1 → xG K 412 [some (.ref b), some (.ref B), some (.ref (B + 776)), some (.int (nI i))] [] M1 sz 792 124018) : xG K 278 [some (.ref b), some (.ref B), some (.ref (B + 776)), some (.int (nI i))] [] M sz 792 124018 := by
  obtain ⟨f0, hc0⟩ := hC.cell
  refine xp_aload_1 (pc := 278) hX d_Law_law_278 ?_
  refine yi_V (Y2 := Y_Nam_close) (d := 9) (pc := 279) hX (Nat.le_of_ble_eq_true rfl) (Nat.le_of_ble_eq_true rfl) [] k_Nam m_Nam_close d_Law_law_279 l_Law_48 rfl rfl (by simp [Value.category]) hc0 (a_close 6 hC hI.1.1) (Nat.le_of_ble_eq_true rfl) (Nat.le_of_ble_eq_true rfl) ?_
  rintro y1 M1 ⟨rfl, hC1, hf1⟩
  have hO1 : MW M1 (B + 776) S := hO.kept (fun q a b => hf1 q (Or.inr a))
  obtain ⟨f1, hc1⟩ := hO1.cell
  refine xp_aload_2 (pc := 282) hX d_Law_law_282 ?_
  refine yi_V (Y2 := Y_Mod_close) (d := 9) (pc := 283) hX (Nat.le_of_ble_eq_true rfl) (Nat.le_of_ble_eq_true rfl) [] k_Mod m_Mod_close d_Law_law_283 l_Law_51 rfl rfl (by simp [Value.category]) hc1 (b_close 8 hO1 hI.1) (Nat.le_of_ble_eq_true rfl) (Nat.le_of_ble_eq_true rfl) ?_
  rintro y2 M2 ⟨rfl, hO2, hf2⟩
  refine xg_icmp_eq (pc := 286) hX 412 d_Law_law_286 (by decide) (fun _ => ?_) (fun h9 => absurd rfl h9)
  exact k M2 _ (hC1.kept (fun q a b => hf2 q (Or.inl b))) hO2 (i_close hI)
set_option maxHeartbeats 4000000 in
set_option maxRecDepth 100000 in
theorem y_subject {nm : String} {K : xK} {b L B sz i : Nat} {xs : Nat → Int32} {M : xH} {S : xS} (hX : xX (yLaw nm) room_1 K) (hz : xZ b L xs K) (hi : i + 6 ≤ L) (hL : L ≤ 1000000) (hC : CW M B S) (hO : MW M (B + 776) S) (hI : InvG S) (k : ∀ M1 S1, CW M1 B S1 → MW M1 (B + 776) S1 → InvG S1 → xG K 412 [some (.ref b), some (.ref B), some (.ref (B + 776)), some (.int (nI i))] [] M1 sz 792 124018) : xG K 291 [some (.ref b), some (.ref B), some (.ref (B + 776)), some (.int (nI i))] [] M sz 792 124018 := by
  obtain ⟨f0, hc0⟩ := hC.cell
  refine xp_aload_1 (pc := 291) hX d_Law_law_291 ?_
  refine xp_aload_0 (pc := 292) hX d_Law_law_292 ?_
  refine xp_iload_3 (pc := 293) hX d_Law_law_293 ?_
  refine xg_iconst (pc := 294) hX (nI 1) d_Law_law_294 ci_iconst_1 ?_
  first | refine xn_iadd (pc := 295) hX d_Law_law_295 ?_ | refine xg_iadd (pc := 295) hX d_Law_law_295 ?_
  refine yn_sld (pc := 296) hX hz d_Law_law_296 (by omega) (by omega) ?_
  refine xg_if_eq (pc := 297) hX 304 d_Law_law_297 (by decide) (fun h297 => ?_) (fun h297 => ?_)
  · refine xg_iconst (pc := 304) hX (nI 0) d_Law_law_304 ci_iconst_0 ?_
    refine yi_V (Y2 := Y_Nam_subject) (d := 9) (pc := 305) hX (Nat.le_of_ble_eq_true rfl) (Nat.le_of_ble_eq_true rfl) [_] k_Nam m_Nam_subject d_Law_law_305 l_Law_52 rfl rfl (by simp [Value.category]) hc0 (a_subject 6 false hC) (Nat.le_of_ble_eq_true rfl) (Nat.le_of_ble_eq_true rfl) ?_
    rintro y1 M1 ⟨rfl, hC1, hf1⟩
    have hO1 : MW M1 (B + 776) S := hO.kept (fun q a b => hf1 q (Or.inr a))
    obtain ⟨f1, hc1⟩ := hO1.cell
    refine xp_aload_2 (pc := 308) hX d_Law_law_308 ?_
    refine xp_aload_0 (pc := 309) hX d_Law_law_309 ?_
    refine xp_iload_3 (pc := 310) hX d_Law_law_310 ?_
    refine xg_iconst (pc := 311) hX (nI 1) d_Law_law_311 ci_iconst_1 ?_
    first | refine xn_iadd (pc := 312) hX d_Law_law_312 ?_ | refine xg_iadd (pc := 312) hX d_Law_law_312 ?_
    refine yn_sld (pc := 313) hX hz d_Law_law_313 (by omega) (by omega) ?_
    refine xg_if_eq (pc := 314) hX 321 d_Law_law_314 (by decide) (fun _ => ?_) (fun h314 => absurd h297 h314)
    refine xg_iconst (pc := 321) hX (nI 0) d_Law_law_321 ci_iconst_0 ?_
    refine yi_V (Y2 := Y_Mod_subject) (d := 9) (pc := 322) hX (Nat.le_of_ble_eq_true rfl) (Nat.le_of_ble_eq_true rfl) [_] k_Mod m_Mod_subject d_Law_law_322 l_Law_56 rfl rfl (by simp [Value.category]) hc1 (b_subject 8 false hO1) (Nat.le_of_ble_eq_true rfl) (Nat.le_of_ble_eq_true rfl) ?_
    rintro y2 M2 ⟨rfl, hO2, hf2⟩
    refine xg_icmp_eq (pc := 325) hX 412 d_Law_law_325 (by decide) (fun _ => ?_) (fun h9 => absurd rfl h9)
    exact k M2 _ (hC1.kept (fun q a b => hf2 q (Or.inl b))) hO2 (i_subject hI)
  · refine xg_iconst (pc := 300) hX (nI 1) d_Law_law_300 ci_iconst_1 ?_
    refine xg_goto (pc := 301) hX 305 d_Law_law_301 (by decide) ?_
    refine yi_V (Y2 := Y_Nam_subject) (d := 9) (pc := 305) hX (Nat.le_of_ble_eq_true rfl) (Nat.le_of_ble_eq_true rfl) [_] k_Nam m_Nam_subject d_Law_law_305 l_Law_52 rfl rfl (by simp [Value.category]) hc0 (a_subject 6 true hC) (Nat.le_of_ble_eq_true rfl) (Nat.le_of_ble_eq_true rfl) ?_
    rintro y1 M1 ⟨rfl, hC1, hf1⟩
    have hO1 : MW M1 (B + 776) S := hO.kept (fun q a b => hf1 q (Or.inr a))
    obtain ⟨f1, hc1⟩ := hO1.cell
    refine xp_aload_2 (pc := 308) hX d_Law_law_308 ?_
    refine xp_aload_0 (pc := 309) hX d_Law_law_309 ?_
    refine xp_iload_3 (pc := 310) hX d_Law_law_310 ?_
    refine xg_iconst (pc := 311) hX (nI 1) d_Law_law_311 ci_iconst_1 ?_
    first | refine xn_iadd (pc := 312) hX d_Law_law_312 ?_ | refine xg_iadd (pc := 312) hX d_Law_law_312 ?_
    refine yn_sld (pc := 313) hX hz d_Law_law_313 (by omega) (by omega) ?_
    refine xg_if_eq (pc := 314) hX 321 d_Law_law_314 (by decide) (fun h314 => absurd h314 h297) (fun _ => ?_)
    refine xg_iconst (pc := 317) hX (nI 1) d_Law_law_317 ci_iconst_1 ?_
    refine xg_goto (pc := 318) hX 322 d_Law_law_318 (by decide) ?_
    refine yi_V (Y2 := Y_Mod_subject) (d := 9) (pc := 322) hX (Nat.le_of_ble_eq_true rfl) (Nat.le_of_ble_eq_true rfl) [_] k_Mod m_Mod_subject d_Law_law_322 l_Law_56 rfl rfl (by simp [Value.category]) hc1 (b_subject 8 true hO1) (Nat.le_of_ble_eq_true rfl) (Nat.le_of_ble_eq_true rfl) ?_
    rintro y2 M2 ⟨rfl, hO2, hf2⟩
    refine xg_icmp_eq (pc := 325) hX 412 d_Law_law_325 (by decide) (fun _ => ?_) (fun h9 => absurd rfl h9)
    exact k M2 _ (hC1.kept (fun q a b => hf2 q (Or.inl b))) hO2 (i_subject hI)
set_option maxHeartbeats 4000000 in
set_option maxRecDepth 100000 in
theorem y_parse {nm : String} {K : xK} {b L B sz i : Nat} {xs : Nat → Int32} {M : xH} {S : xS} (hX : xX (yLaw nm) room_1 K) (hz : xZ b L xs K) (hi : i + 6 ≤ L) (hL : L ≤ 1000000) (hC : CW M B S) (hO : MW M (B + 776) S) (hI : InvG S) (k : ∀ M1 S1, CW M1 B S1 → MW M1 (B + 776) S1 → InvG S1 → xG K 412 [some (.ref b), some (.ref B), some (.ref (B + 776)), some (.int (nI i))] [] M1 sz 792 124018) : xG K 330 [some (.ref b), some (.ref B), some (.ref (B + 776)), some (.int (nI i))] [] M sz 792 124018 := by
  obtain ⟨f0, hc0⟩ := hC.cell
  refine xp_aload_1 (pc := 330) hX d_Law_law_330 ?_
  refine yi_V (Y2 := Y_Nam_parse) (d := 9) (pc := 331) hX (Nat.le_of_ble_eq_true rfl) (Nat.le_of_ble_eq_true rfl) [] k_Nam m_Nam_parse d_Law_law_331 l_Law_57 rfl rfl (by simp [Value.category]) hc0 (a_parse 3 hC hI.1.1) (Nat.le_of_ble_eq_true rfl) (Nat.le_of_ble_eq_true rfl) ?_
  rintro y1 M1 ⟨rfl, hC1, hf1⟩
  have hO1 : MW M1 (B + 776) S := hO.kept (fun q a b => hf1 q (Or.inr a))
  obtain ⟨f1, hc1⟩ := hO1.cell
  refine xp_aload_2 (pc := 334) hX d_Law_law_334 ?_
  refine yi_V (Y2 := Y_Mod_parse) (d := 9) (pc := 335) hX (Nat.le_of_ble_eq_true rfl) (Nat.le_of_ble_eq_true rfl) [] k_Mod m_Mod_parse d_Law_law_335 l_Law_60 rfl rfl (by simp [Value.category]) hc1 (b_parse 2 hO1 hI.1) (Nat.le_of_ble_eq_true rfl) (Nat.le_of_ble_eq_true rfl) ?_
  rintro y2 M2 ⟨rfl, hO2, hf2⟩
  refine xg_icmp_eq (pc := 338) hX 412 d_Law_law_338 (by decide) (fun _ => ?_) (fun h9 => absurd rfl h9)
  exact k M2 _ (hC1.kept (fun q a b => hf2 q (Or.inl b))) hO2 (i_parse hI hO.sub)
set_option maxHeartbeats 4000000 in
set_option maxRecDepth 100000 in
theorem y_name {nm : String} {K : xK} {b L B sz i : Nat} {xs : Nat → Int32} {M : xH} {S : xS} (hX : xX (yLaw nm) room_1 K) (hz : xZ b L xs K) (hi : i + 6 ≤ L) (hL : L ≤ 1000000) (hC : CW M B S) (hO : MW M (B + 776) S) (hI : InvG S) (k : ∀ M1 S1, CW M1 B S1 → MW M1 (B + 776) S1 → InvG S1 → xG K 412 [some (.ref b), some (.ref B), some (.ref (B + 776)), some (.int (nI i))] [] M1 sz 792 124018) : xG K 343 [some (.ref b), some (.ref B), some (.ref (B + 776)), some (.int (nI i))] [] M sz 792 124018 := by
  obtain ⟨f0, hc0⟩ := hC.cell
  refine xp_aload_1 (pc := 343) hX d_Law_law_343 ?_
  refine xp_aload_0 (pc := 344) hX d_Law_law_344 ?_
  refine xp_iload_3 (pc := 345) hX d_Law_law_345 ?_
  refine xg_iconst (pc := 346) hX (nI 1) d_Law_law_346 ci_iconst_1 ?_
  first | refine xn_iadd (pc := 347) hX d_Law_law_347 ?_ | refine xg_iadd (pc := 347) hX d_Law_law_347 ?_
  refine yn_sld (pc := 348) hX hz d_Law_law_348 (by omega) (by omega) ?_
  refine yi_V (Y2 := Y_Nam_name) (d := 9) (pc := 349) hX (Nat.le_of_ble_eq_true rfl) (Nat.le_of_ble_eq_true rfl) [_] k_Nam m_Nam_name d_Law_law_349 l_Law_61 rfl rfl (by simp [Value.category]) hc0 (a_name 6 _ hC) (Nat.le_of_ble_eq_true rfl) (Nat.le_of_ble_eq_true rfl) ?_
  rintro y1 M1 ⟨rfl, hC1, hf1⟩
  have hO1 : MW M1 (B + 776) S := hO.kept (fun q a b => hf1 q (Or.inr a))
  obtain ⟨f1, hc1⟩ := hO1.cell
  refine xp_aload_2 (pc := 352) hX d_Law_law_352 ?_
  refine xp_aload_0 (pc := 353) hX d_Law_law_353 ?_
  refine xp_iload_3 (pc := 354) hX d_Law_law_354 ?_
  refine xg_iconst (pc := 355) hX (nI 1) d_Law_law_355 ci_iconst_1 ?_
  first | refine xn_iadd (pc := 356) hX d_Law_law_356 ?_ | refine xg_iadd (pc := 356) hX d_Law_law_356 ?_
  refine yn_sld (pc := 357) hX hz d_Law_law_357 (by omega) (by omega) ?_
  refine yi_V (Y2 := Y_Mod_name) (d := 9) (pc := 358) hX (Nat.le_of_ble_eq_true rfl) (Nat.le_of_ble_eq_true rfl) [_] k_Mod m_Mod_name d_Law_law_358 l_Law_64 rfl rfl (by simp [Value.category]) hc1 (b_name 8 _ hO1) (Nat.le_of_ble_eq_true rfl) (Nat.le_of_ble_eq_true rfl) ?_
  rintro y2 M2 ⟨rfl, hO2, hf2⟩
  refine xg_icmp_eq (pc := 361) hX 412 d_Law_law_361 (by decide) (fun _ => ?_) (fun h9 => absurd rfl h9)
  exact k M2 _ (hC1.kept (fun q a b => hf2 q (Or.inl b))) hO2 (i_name hI)
set_option maxHeartbeats 4000000 in
set_option maxRecDepth 100000 in
theorem y_value {nm : String} {K : xK} {b L B sz i : Nat} {xs : Nat → Int32} {M : xH} {S : xS} (hX : xX (yLaw nm) room_1 K) (hz : xZ b L xs K) (hi : i + 6 ≤ L) (hL : L ≤ 1000000) (hC : CW M B S) (hO : MW M (B + 776) S) (hI : InvG S) (k : ∀ M1 S1, CW M1 B S1 → MW M1 (B + 776) S1 → InvG S1 → xG K 412 [some (.ref b), some (.ref B), some (.ref (B + 776)), some (.int (nI i))] [] M1 sz 792 124018) : xG K 366 [some (.ref b), some (.ref B), some (.ref (B + 776)), some (.int (nI i))] [] M sz 792 124018 := by
  obtain ⟨f0, hc0⟩ := hC.cell
  refine xp_aload_1 (pc := 366) hX d_Law_law_366 ?_
  refine xp_aload_0 (pc := 367) hX d_Law_law_367 ?_
  refine xp_iload_3 (pc := 368) hX d_Law_law_368 ?_
  refine xg_iconst (pc := 369) hX (nI 1) d_Law_law_369 ci_iconst_1 ?_
  first | refine xn_iadd (pc := 370) hX d_Law_law_370 ?_ | refine xg_iadd (pc := 370) hX d_Law_law_370 ?_
  refine yn_sld (pc := 371) hX hz d_Law_law_371 (by omega) (by omega) ?_
  refine yi_V (Y2 := Y_Nam_value) (d := 9) (pc := 372) hX (Nat.le_of_ble_eq_true rfl) (Nat.le_of_ble_eq_true rfl) [_] k_Nam m_Nam_value d_Law_law_372 l_Law_65 rfl rfl (by simp [Value.category]) hc0 (a_value 6 _ hC) (Nat.le_of_ble_eq_true rfl) (Nat.le_of_ble_eq_true rfl) ?_
  rintro y1 M1 ⟨rfl, hC1, hf1⟩
  have hO1 : MW M1 (B + 776) S := hO.kept (fun q a b => hf1 q (Or.inr a))
  obtain ⟨f1, hc1⟩ := hO1.cell
  refine xp_aload_2 (pc := 375) hX d_Law_law_375 ?_
  refine xp_aload_0 (pc := 376) hX d_Law_law_376 ?_
  refine xp_iload_3 (pc := 377) hX d_Law_law_377 ?_
  refine xg_iconst (pc := 378) hX (nI 1) d_Law_law_378 ci_iconst_1 ?_
  first | refine xn_iadd (pc := 379) hX d_Law_law_379 ?_ | refine xg_iadd (pc := 379) hX d_Law_law_379 ?_
  refine yn_sld (pc := 380) hX hz d_Law_law_380 (by omega) (by omega) ?_
  refine yi_V (Y2 := Y_Mod_value) (d := 9) (pc := 381) hX (Nat.le_of_ble_eq_true rfl) (Nat.le_of_ble_eq_true rfl) [_] k_Mod m_Mod_value d_Law_law_381 l_Law_68 rfl rfl (by simp [Value.category]) hc1 (b_value 8 _ hO1) (Nat.le_of_ble_eq_true rfl) (Nat.le_of_ble_eq_true rfl) ?_
  rintro y2 M2 ⟨rfl, hO2, hf2⟩
  refine xg_icmp_eq (pc := 384) hX 412 d_Law_law_384 (by decide) (fun _ => ?_) (fun h9 => absurd rfl h9)
  exact k M2 _ (hC1.kept (fun q a b => hf2 q (Or.inl b))) hO2 (i_value hI)
set_option maxHeartbeats 4000000 in
set_option maxRecDepth 100000 in
theorem y_count {nm : String} {K : xK} {b L B sz i : Nat} {xs : Nat → Int32} {M : xH} {S : xS} (hX : xX (yLaw nm) room_1 K) (hz : xZ b L xs K) (hi : i + 6 ≤ L) (hL : L ≤ 1000000) (hC : CW M B S) (hO : MW M (B + 776) S) (hI : InvG S) (k : ∀ M1 S1, CW M1 B S1 → MW M1 (B + 776) S1 → InvG S1 → xG K 412 [some (.ref b), some (.ref B), some (.ref (B + 776)), some (.int (nI i))] [] M1 sz 792 124018) : xG K 389 [some (.ref b), some (.ref B), some (.ref (B + 776)), some (.int (nI i))] [] M sz 792 124018 := by
  obtain ⟨f0, hc0⟩ := hC.cell
  refine xp_aload_1 (pc := 389) hX d_Law_law_389 ?_
  refine xp_aload_0 (pc := 390) hX d_Law_law_390 ?_
  refine xp_iload_3 (pc := 391) hX d_Law_law_391 ?_
  refine xg_iconst (pc := 392) hX (nI 1) d_Law_law_392 ci_iconst_1 ?_
  first | refine xn_iadd (pc := 393) hX d_Law_law_393 ?_ | refine xg_iadd (pc := 393) hX d_Law_law_393 ?_
  refine yn_sld (pc := 394) hX hz d_Law_law_394 (by omega) (by omega) ?_
  refine yi_V (Y2 := Y_Nam_count) (d := 9) (pc := 395) hX (Nat.le_of_ble_eq_true rfl) (Nat.le_of_ble_eq_true rfl) [_] k_Nam m_Nam_count d_Law_law_395 l_Law_69 rfl rfl (by simp [Value.category]) hc0 (a_count 6 _ hC) (Nat.le_of_ble_eq_true rfl) (Nat.le_of_ble_eq_true rfl) ?_
  rintro y1 M1 ⟨rfl, hC1, hf1⟩
  have hO1 : MW M1 (B + 776) S := hO.kept (fun q a b => hf1 q (Or.inr a))
  obtain ⟨f1, hc1⟩ := hO1.cell
  refine xp_aload_2 (pc := 398) hX d_Law_law_398 ?_
  refine xp_aload_0 (pc := 399) hX d_Law_law_399 ?_
  refine xp_iload_3 (pc := 400) hX d_Law_law_400 ?_
  refine xg_iconst (pc := 401) hX (nI 1) d_Law_law_401 ci_iconst_1 ?_
  first | refine xn_iadd (pc := 402) hX d_Law_law_402 ?_ | refine xg_iadd (pc := 402) hX d_Law_law_402 ?_
  refine yn_sld (pc := 403) hX hz d_Law_law_403 (by omega) (by omega) ?_
  refine yi_V (Y2 := Y_Mod_count) (d := 9) (pc := 404) hX (Nat.le_of_ble_eq_true rfl) (Nat.le_of_ble_eq_true rfl) [_] k_Mod m_Mod_count d_Law_law_404 l_Law_72 rfl rfl (by simp [Value.category]) hc1 (b_count 9 _ hO1 hI.1.1) (Nat.le_of_ble_eq_true rfl) (Nat.le_of_ble_eq_true rfl) ?_
  rintro y2 M2 ⟨rfl, hO2, hf2⟩
  refine xg_icmp_eq (pc := 407) hX 412 d_Law_law_407 (by decide) (fun _ => ?_) (fun h9 => absurd rfl h9)
  exact k M2 _ (hC1.kept (fun q a b => hf2 q (Or.inl b))) hO2 (i_count hI)
set_option maxHeartbeats 4000000 in
set_option maxRecDepth 100000 in
/-- the loop: at its head class and reference hold the same state -/
theorem y_loop {nm : String} {K : xK} {b L B sz : Nat} {xs : Nat → Int32} (hX : xX (yLaw nm) room_1 K) (hz : xZ b L xs K) (hL : L ≤ 1000000) (hend : ∀ (vs : List (Option Value)) (M : xH), xG K 418 vs [] M sz 792 124018) : ∀ (n i : Nat), i ≤ L + 6 → L + 7 ≤ i + n → ∀ (M : xH) (S : xS), CW M B S → MW M (B + 776) S → InvG S → xG K 18 [some (.ref b), some (.ref B), some (.ref (B + 776)), some (.int (nI i))] [] M sz 792 124018 := by
  intro n
  induction n with
  | zero => intro i h1 h2; exact absurd h2 (by omega)
  | succ n ih =>
    intro i h1 h2 M S hC hO hI
    refine xp_iload_3 (pc := 18) hX d_Law_law_18 ?_
    refine xp_aload_0 (pc := 19) hX d_Law_law_19 ?_
    refine yn_slen (pc := 20) hX hz d_Law_law_20 ?_
    refine xg_bipush (pc := 21) hX (nI 6) d_Law_law_21 ci_bipush_6 ?_
    refine xg_isub (pc := 23) hX d_Law_law_23 ?_
    refine xg_icmp_gt (pc := 24) hX 418 d_Law_law_24 (by decide) (fun _ => hend _ _) (fun h24 => ?_)
    have hi : i + 6 ≤ L := y_fit hL (by omega) h24
    have hnext : ∀ M1 S1, CW M1 B S1 → MW M1 (B + 776) S1 → InvG S1 → xG K 412 [some (.ref b), some (.ref B), some (.ref (B + 776)), some (.int (nI i))] [] M1 sz 792 124018 := by
      intro M1 S1 hC1 hO1 hI1
      refine xg_iinc (pc := 412) (v := nI 6) hX d_Law_law_412 (Nat.le_of_ble_eq_true rfl) rfl ci_iconst_6 (vs' := [some (.ref b), some (.ref B), some (.ref (B + 776)), some (.int (nI (i + 6)))]) (by rw [nI_add]; rfl) ?_
      refine xg_goto (pc := 415) hX 18 d_Law_law_415 (by decide) ?_
      exact ih (i + 6) (by omega) (by omega) M1 S1 hC1 hO1 hI1
    refine xp_aload_0 (pc := 27) hX d_Law_law_27 ?_
    refine xp_iload_3 (pc := 28) hX d_Law_law_28 ?_
    refine yn_sld (pc := 29) hX hz d_Law_law_29 (by omega) (by omega) ?_
    refine xg_bipush (pc := 30) hX (nI 15) d_Law_law_30 ci_bipush_15 ?_
    refine xg_iand (pc := 32) hX d_Law_law_32 ?_
    obtain ⟨k, hk, e⟩ := y_and15 (xs i)
    rw [e]
    rcases (show k = 0 ∨ k = 1 ∨ k = 2 ∨ k = 3 ∨ k = 4 ∨ k = 5 ∨ k = 6 ∨ k = 7 ∨ k = 8 ∨ k = 9 ∨ k = 10 ∨ k = 11 ∨ k = 12 ∨ k = 13 ∨ k = 14 ∨ k = 15 by omega) with rfl | rfl | rfl | rfl | rfl | rfl | rfl | rfl | rfl | rfl | rfl | rfl | rfl | rfl | rfl | rfl
    · exact xg_tableIn (pc := 33) (off := 71) hX 104 d_Law_law_33 (by decide +kernel) (by decide +kernel) (by decide +kernel) (by decide) (y_feed hX hz hi hL hC hO hI hnext)
    · exact xg_tableIn (pc := 33) (off := 134) hX 167 d_Law_law_33 (by decide +kernel) (by decide +kernel) (by decide +kernel) (by decide) (y_end hX hz hi hL hC hO hI hnext)
    · exact xg_tableIn (pc := 33) (off := 157) hX 190 d_Law_law_33 (by decide +kernel) (by decide +kernel) (by decide +kernel) (by decide) (y_out hX hz hi hL hC hO hI hnext)
    · exact xg_tableIn (pc := 33) (off := 180) hX 213 d_Law_law_33 (by decide +kernel) (by decide +kernel) (by decide +kernel) (by decide) (y_set hX hz hi hL hC hO hI hnext)
    · exact xg_tableIn (pc := 33) (off := 193) hX 226 d_Law_law_33 (by decide +kernel) (by decide +kernel) (by decide +kernel) (by decide) (y_get hX hz hi hL hC hO hI hnext)
    · exact xg_tableIn (pc := 33) (off := 206) hX 239 d_Law_law_33 (by decide +kernel) (by decide +kernel) (by decide +kernel) (by decide) (y_known hX hz hi hL hC hO hI hnext)
    · exact xg_tableIn (pc := 33) (off := 219) hX 252 d_Law_law_33 (by decide +kernel) (by decide +kernel) (by decide +kernel) (by decide) (y_drop hX hz hi hL hC hO hI hnext)
    · exact xg_tableIn (pc := 33) (off := 232) hX 265 d_Law_law_33 (by decide +kernel) (by decide +kernel) (by decide +kernel) (by decide) (y_open hX hz hi hL hC hO hI hnext)
    · exact xg_tableIn (pc := 33) (off := 245) hX 278 d_Law_law_33 (by decide +kernel) (by decide +kernel) (by decide +kernel) (by decide) (y_close hX hz hi hL hC hO hI hnext)
    · exact xg_tableIn (pc := 33) (off := 258) hX 291 d_Law_law_33 (by decide +kernel) (by decide +kernel) (by decide +kernel) (by decide) (y_subject hX hz hi hL hC hO hI hnext)
    · exact xg_tableIn (pc := 33) (off := 297) hX 330 d_Law_law_33 (by decide +kernel) (by decide +kernel) (by decide +kernel) (by decide) (y_parse hX hz hi hL hC hO hI hnext)
    · exact xg_tableIn (pc := 33) (off := 310) hX 343 d_Law_law_33 (by decide +kernel) (by decide +kernel) (by decide +kernel) (by decide) (y_name hX hz hi hL hC hO hI hnext)
    · exact xg_tableIn (pc := 33) (off := 333) hX 366 d_Law_law_33 (by decide +kernel) (by decide +kernel) (by decide +kernel) (by decide) (y_value hX hz hi hL hC hO hI hnext)
    · exact xg_tableIn (pc := 33) (off := 356) hX 389 d_Law_law_33 (by decide +kernel) (by decide +kernel) (by decide +kernel) (by decide) (y_count hX hz hi hL hC hO hI hnext)
    · exact xg_tableOut (pc := 33) hX 412 d_Law_law_33 (Or.inr (by decide +kernel)) (by decide) (hnext M S hC hO hI)
    · exact xg_tableOut (pc := 33) hX 412 d_Law_law_33 (Or.inr (by decide +kernel)) (by decide) (hnext M S hC hO hI)
set_option maxHeartbeats 4000000 in
set_option maxRecDepth 100000 in
/-- the law from its first instruction -/
theorem y_start {nm : String} {K : xK} {b L sz : Nat} {xs : Nat → Int32} (hX : xX (yLaw nm) room_1 K) (hz : xZ b L xs K) (hL : L ≤ 1000000) (hend : ∀ (vs : List (Option Value)) (M : xH), xG K 418 vs [] M (sz + 792) 792 124018) : xG K 0 [some (.ref b), none, none, none] [] (fun _ => none) sz 0 0 := by
  refine xg_new (pc := 0) hX [.null, .null, .null, .null, .null, .null, .null, .null, .null, .null] k_Nam d_Law_law_0 lc_Law_7 kw_Nam kz_Nam dv_Nam (Nat.le_of_ble_eq_true rfl) (Nat.le_of_ble_eq_true rfl) (fun _ => ?_)
  refine xg_dup (pc := 3) hX d_Law_law_3 rfl ?_
  refine yg_callI (Y2 := Y_Nam_init) (d := 9) (pc := 4) hX (Nat.le_of_ble_eq_true rfl) (Nat.le_of_ble_eq_true rfl) [] m_Nam_init d_Law_law_4 l_Law_9 rfl rfl (by simp [Value.category]) (c_Nam_init 5 (xup_s _ _ _) rfl) (Nat.le_of_ble_eq_true rfl) (Nat.le_of_ble_eq_true rfl) ?_
  rintro _ M1 _ ⟨rfl, rfl, hC, hf1⟩
  simp only [Option.toList, List.nil_append]
  refine xp_astore_1 (pc := 7) hX d_Law_law_7 (Nat.le_of_ble_eq_true rfl) ?_
  refine xg_new (pc := 8) hX [.null, .null, .null, .null, .int 0, .int 0, .int 0, .int 0, .null, .null, .null, .null, .null, .int 0, .null, .null, .null, .int 0, .null, .null, .int 0, .int 0, .int 0, .int 0, .int 0, .int 0, .null, .int 0, .int 0, .int 0, .int 0] k_Mod d_Law_law_8 lc_Law_10 kw_Mod kz_Mod dv_Mod (Nat.le_of_ble_eq_true rfl) (Nat.le_of_ble_eq_true rfl) (fun _ => ?_)
  refine xg_dup (pc := 11) hX d_Law_law_11 rfl ?_
  refine yg_callI (Y2 := Y_Mod_init) (d := 9) (pc := 12) hX (Nat.le_of_ble_eq_true rfl) (Nat.le_of_ble_eq_true rfl) [] m_Mod_init d_Law_law_12 l_Law_12 rfl rfl (by simp [Value.category]) (c_Mod_init 8 (xup_s _ _ _) rfl) (Nat.le_of_ble_eq_true rfl) (Nat.le_of_ble_eq_true rfl) ?_
  rintro _ M2 _ ⟨rfl, rfl, hO, hf2⟩
  simp only [Option.toList, List.nil_append]
  refine xp_astore_2 (pc := 15) hX d_Law_law_15 (Nat.le_of_ble_eq_true rfl) ?_
  refine xg_iconst (pc := 16) hX (nI 0) d_Law_law_16 ci_iconst_0 ?_
  refine xp_istore_3 (pc := 17) hX d_Law_law_17 (Nat.le_of_ble_eq_true rfl) ?_
  have hC2 := hC.kept (M' := M2) (fun q a b => (hf2 q (Or.inl b)).trans (xup_n _ _ (by omega)))
  exact y_loop hX hz hL hend (L + 7) 0 (Nat.zero_le _) (by omega) M2 _ hC2 hO inv0
