/-! constants as the code pushes them -/
theorem xup_o {M : xH} {a b : Nat} {z w : xE} (h : b ≠ a) (hw : M b = some w) : xup M a z b = some w := by rw [xup_n M z h]; exact hw
theorem ci_bipush_m4 : (Int8.ofInt (-4)).toInt32 = (-4) := by decide +kernel
theorem ci_bipush_m3 : (Int8.ofInt (-3)).toInt32 = (-3) := by decide +kernel
theorem ci_bipush_m2 : (Int8.ofInt (-2)).toInt32 = (-2) := by decide +kernel
theorem ci_bipush_6 : (Int8.ofInt (6)).toInt32 = (nI 6) := by decide +kernel
theorem ci_bipush_7 : (Int8.ofInt (7)).toInt32 = (nI 7) := by decide +kernel
theorem ci_bipush_8 : (Int8.ofInt (8)).toInt32 = (nI 8) := by decide +kernel
theorem ci_bipush_10 : (Int8.ofInt (10)).toInt32 = (nI 10) := by decide +kernel
theorem ci_bipush_12 : (Int8.ofInt (12)).toInt32 = (nI 12) := by decide +kernel
theorem ci_bipush_15 : (Int8.ofInt (15)).toInt32 = (nI 15) := by decide +kernel
theorem ci_bipush_20 : (Int8.ofInt (20)).toInt32 = (nI 20) := by decide +kernel
theorem ci_bipush_24 : (Int8.ofInt (24)).toInt32 = (nI 24) := by decide +kernel
theorem ci_bipush_30 : (Int8.ofInt (30)).toInt32 = (nI 30) := by decide +kernel
theorem ci_bipush_32 : (Int8.ofInt (32)).toInt32 = (nI 32) := by decide +kernel
theorem ci_bipush_33 : (Int8.ofInt (33)).toInt32 = (nI 33) := by decide +kernel
theorem ci_bipush_34 : (Int8.ofInt (34)).toInt32 = (nI 34) := by decide +kernel
theorem ci_bipush_39 : (Int8.ofInt (39)).toInt32 = (nI 39) := by decide +kernel
theorem ci_bipush_40 : (Int8.ofInt (40)).toInt32 = (nI 40) := by decide +kernel
theorem ci_bipush_41 : (Int8.ofInt (41)).toInt32 = (nI 41) := by decide +kernel
theorem ci_bipush_43 : (Int8.ofInt (43)).toInt32 = (nI 43) := by decide +kernel
theorem ci_bipush_45 : (Int8.ofInt (45)).toInt32 = (nI 45) := by decide +kernel
theorem ci_bipush_46 : (Int8.ofInt (46)).toInt32 = (nI 46) := by decide +kernel
theorem ci_bipush_48 : (Int8.ofInt (48)).toInt32 = (nI 48) := by decide +kernel
theorem ci_bipush_57 : (Int8.ofInt (57)).toInt32 = (nI 57) := by decide +kernel
theorem ci_bipush_61 : (Int8.ofInt (61)).toInt32 = (nI 61) := by decide +kernel
theorem ci_bipush_63 : (Int8.ofInt (63)).toInt32 = (nI 63) := by decide +kernel
theorem ci_bipush_65 : (Int8.ofInt (65)).toInt32 = (nI 65) := by decide +kernel
theorem ci_bipush_84 : (Int8.ofInt (84)).toInt32 = (nI 84) := by decide +kernel
theorem ci_bipush_90 : (Int8.ofInt (90)).toInt32 = (nI 90) := by decide +kernel
theorem ci_bipush_95 : (Int8.ofInt (95)).toInt32 = (nI 95) := by decide +kernel
theorem ci_bipush_96 : (Int8.ofInt (96)).toInt32 = (nI 96) := by decide +kernel
theorem ci_bipush_97 : (Int8.ofInt (97)).toInt32 = (nI 97) := by decide +kernel
theorem ci_bipush_100 : (Int8.ofInt (100)).toInt32 = (nI 100) := by decide +kernel
theorem ci_bipush_101 : (Int8.ofInt (101)).toInt32 = (nI 101) := by decide +kernel
theorem ci_bipush_122 : (Int8.ofInt (122)).toInt32 = (nI 122) := by decide +kernel
theorem ci_iconst_m8 : Int32.ofInt (-8) = (-8) := by decide +kernel
theorem ci_iconst_m1 : Int32.ofInt (-1) = (-1) := by decide +kernel
theorem ci_iconst_0 : Int32.ofInt (0) = (nI 0) := by decide +kernel
theorem ci_iconst_1 : Int32.ofInt (1) = (nI 1) := by decide +kernel
theorem ci_iconst_2 : Int32.ofInt (2) = (nI 2) := by decide +kernel
theorem ci_iconst_3 : Int32.ofInt (3) = (nI 3) := by decide +kernel
theorem ci_iconst_4 : Int32.ofInt (4) = (nI 4) := by decide +kernel
theorem ci_iconst_5 : Int32.ofInt (5) = (nI 5) := by decide +kernel
theorem ci_iconst_6 : Int32.ofInt (6) = (nI 6) := by decide +kernel
theorem ci_sipush_m1000 : (Int16.ofInt (-1000)).toInt32 = (-1000) := by decide +kernel
theorem ci_sipush_200 : (Int16.ofInt (200)).toInt32 = (nI 200) := by decide +kernel
theorem ci_sipush_201 : (Int16.ofInt (201)).toInt32 = (nI 201) := by decide +kernel
theorem ci_sipush_255 : (Int16.ofInt (255)).toInt32 = (nI 255) := by decide +kernel
theorem ci_sipush_600 : (Int16.ofInt (600)).toInt32 = (nI 600) := by decide +kernel
theorem ci_sipush_1000 : (Int16.ofInt (1000)).toInt32 = (nI 1000) := by decide +kernel
theorem ci_sipush_19200 : (Int16.ofInt (19200)).toInt32 = (nI 19200) := by decide +kernel
theorem ci_sipush_20200 : (Int16.ofInt (20200)).toInt32 = (nI 20200) := by decide +kernel
theorem xg_forget {K : xK} {pc : Nat} {vs : List (Option Value)} {st : List Value} {M : xH} {sz c n : Nat} (k : Nat) (h : xG K pc (vs.set k none) st M sz c n) : xG K pc vs st M sz c n := by
  refine xg_sub (fun i v hv => ?_) h
  by_cases hk : k = i
  · subst hk
    rw [List.getElem?_set] at hv
    split at hv
    · split at hv <;> cases hv
    · exact hv
  · rw [List.getElem?_set_ne hk] at hv
    exact hv
theorem xp_drop_0 {K : xK} {pc : Nat} {vs : List (Option Value)} {st : List Value} {M : xH} {sz c n : Nat} { z : Option Value} (h : xG K pc (none :: vs) st M sz c n) : xG K pc (z :: vs) st M sz c n := xg_forget 0 h
theorem xp_drop_1 {K : xK} {pc : Nat} {vs : List (Option Value)} {st : List Value} {M : xH} {sz c n : Nat} {a0 z : Option Value} (h : xG K pc (a0 :: none :: vs) st M sz c n) : xG K pc (a0 :: z :: vs) st M sz c n := xg_forget 1 h
theorem xp_drop_2 {K : xK} {pc : Nat} {vs : List (Option Value)} {st : List Value} {M : xH} {sz c n : Nat} {a0 a1 z : Option Value} (h : xG K pc (a0 :: a1 :: none :: vs) st M sz c n) : xG K pc (a0 :: a1 :: z :: vs) st M sz c n := xg_forget 2 h
theorem xp_drop_3 {K : xK} {pc : Nat} {vs : List (Option Value)} {st : List Value} {M : xH} {sz c n : Nat} {a0 a1 a2 z : Option Value} (h : xG K pc (a0 :: a1 :: a2 :: none :: vs) st M sz c n) : xG K pc (a0 :: a1 :: a2 :: z :: vs) st M sz c n := xg_forget 3 h
theorem xp_drop_4 {K : xK} {pc : Nat} {vs : List (Option Value)} {st : List Value} {M : xH} {sz c n : Nat} {a0 a1 a2 a3 z : Option Value} (h : xG K pc (a0 :: a1 :: a2 :: a3 :: none :: vs) st M sz c n) : xG K pc (a0 :: a1 :: a2 :: a3 :: z :: vs) st M sz c n := xg_forget 4 h
theorem xp_drop_5 {K : xK} {pc : Nat} {vs : List (Option Value)} {st : List Value} {M : xH} {sz c n : Nat} {a0 a1 a2 a3 a4 z : Option Value} (h : xG K pc (a0 :: a1 :: a2 :: a3 :: a4 :: none :: vs) st M sz c n) : xG K pc (a0 :: a1 :: a2 :: a3 :: a4 :: z :: vs) st M sz c n := xg_forget 5 h
theorem xp_drop_6 {K : xK} {pc : Nat} {vs : List (Option Value)} {st : List Value} {M : xH} {sz c n : Nat} {a0 a1 a2 a3 a4 a5 z : Option Value} (h : xG K pc (a0 :: a1 :: a2 :: a3 :: a4 :: a5 :: none :: vs) st M sz c n) : xG K pc (a0 :: a1 :: a2 :: a3 :: a4 :: a5 :: z :: vs) st M sz c n := xg_forget 6 h
theorem xp_drop_7 {K : xK} {pc : Nat} {vs : List (Option Value)} {st : List Value} {M : xH} {sz c n : Nat} {a0 a1 a2 a3 a4 a5 a6 z : Option Value} (h : xG K pc (a0 :: a1 :: a2 :: a3 :: a4 :: a5 :: a6 :: none :: vs) st M sz c n) : xG K pc (a0 :: a1 :: a2 :: a3 :: a4 :: a5 :: a6 :: z :: vs) st M sz c n := xg_forget 7 h
theorem xp_drop_8 {K : xK} {pc : Nat} {vs : List (Option Value)} {st : List Value} {M : xH} {sz c n : Nat} {a0 a1 a2 a3 a4 a5 a6 a7 z : Option Value} (h : xG K pc (a0 :: a1 :: a2 :: a3 :: a4 :: a5 :: a6 :: a7 :: none :: vs) st M sz c n) : xG K pc (a0 :: a1 :: a2 :: a3 :: a4 :: a5 :: a6 :: a7 :: z :: vs) st M sz c n := xg_forget 8 h
theorem xp_drop_9 {K : xK} {pc : Nat} {vs : List (Option Value)} {st : List Value} {M : xH} {sz c n : Nat} {a0 a1 a2 a3 a4 a5 a6 a7 a8 z : Option Value} (h : xG K pc (a0 :: a1 :: a2 :: a3 :: a4 :: a5 :: a6 :: a7 :: a8 :: none :: vs) st M sz c n) : xG K pc (a0 :: a1 :: a2 :: a3 :: a4 :: a5 :: a6 :: a7 :: a8 :: z :: vs) st M sz c n := xg_forget 9 h
theorem xp_drop_10 {K : xK} {pc : Nat} {vs : List (Option Value)} {st : List Value} {M : xH} {sz c n : Nat} {a0 a1 a2 a3 a4 a5 a6 a7 a8 a9 z : Option Value} (h : xG K pc (a0 :: a1 :: a2 :: a3 :: a4 :: a5 :: a6 :: a7 :: a8 :: a9 :: none :: vs) st M sz c n) : xG K pc (a0 :: a1 :: a2 :: a3 :: a4 :: a5 :: a6 :: a7 :: a8 :: a9 :: z :: vs) st M sz c n := xg_forget 10 h
theorem xp_drop_11 {K : xK} {pc : Nat} {vs : List (Option Value)} {st : List Value} {M : xH} {sz c n : Nat} {a0 a1 a2 a3 a4 a5 a6 a7 a8 a9 a10 z : Option Value} (h : xG K pc (a0 :: a1 :: a2 :: a3 :: a4 :: a5 :: a6 :: a7 :: a8 :: a9 :: a10 :: none :: vs) st M sz c n) : xG K pc (a0 :: a1 :: a2 :: a3 :: a4 :: a5 :: a6 :: a7 :: a8 :: a9 :: a10 :: z :: vs) st M sz c n := xg_forget 11 h
theorem xp_drop_12 {K : xK} {pc : Nat} {vs : List (Option Value)} {st : List Value} {M : xH} {sz c n : Nat} {a0 a1 a2 a3 a4 a5 a6 a7 a8 a9 a10 a11 z : Option Value} (h : xG K pc (a0 :: a1 :: a2 :: a3 :: a4 :: a5 :: a6 :: a7 :: a8 :: a9 :: a10 :: a11 :: none :: vs) st M sz c n) : xG K pc (a0 :: a1 :: a2 :: a3 :: a4 :: a5 :: a6 :: a7 :: a8 :: a9 :: a10 :: a11 :: z :: vs) st M sz c n := xg_forget 12 h
theorem xn_alen {Y : xM} {rm : Room} {K : xK} {pc : Nat} {vs : List (Option Value)} {st : List Value} {M : xH} {sz c n : Nat} (h : xX Y rm K) {t a n0 : Nat} {y : (Nat → Int32) ⊕ (Nat → Int64) ⊕ (Nat → UInt32) ⊕ (Nat → UInt64) ⊕ (Nat → Option Nat)} {ty : FieldType} (hd : decode Y.2.1 pc = .ok (.arraylength, 1)) (ht : xTy[t]? = some ty) (hM : M a = some (.inl (t, n0, y))) (k : xG K (pc + 1) vs (.int (nI n0) :: st) M sz c n) : xG K pc vs (.ref a :: st) M sz c n := xg_alen h hd ht hM k
