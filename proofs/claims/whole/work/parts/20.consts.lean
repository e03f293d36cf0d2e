/-! constants as the code pushes them -/
theorem xup_o {M : xH} {a b : Nat} {z w : xE} (h : b ≠ a) (hw : M b = some w) : xup M a z b = some w := by rw [xup_n M z h]; exact hw
theorem ci_bipush_m4 : (Int8.ofInt (-4)).toInt32 = (-4) := by decide +kernel
theorem ci_bipush_m3 : (Int8.ofInt (-3)).toInt32 = (-3) := by decide +kernel
theorem ci_bipush_m2 : (Int8.ofInt (-2)).toInt32 = (-2) := by decide +kernel
theorem ci_bipush_6 : (Int8.ofInt (6)).toInt32 = (nI 6) := by decide +kernel
theorem ci_bipush_7 : (Int8.ofInt (7)).toInt32 = (nI 7) := by decide +kernel
theorem ci_bipush_8 : (Int8.ofInt (8)).toInt32 = (nI 8) := by decide +kernel
theorem ci_bipush_10 : (Int8.ofInt (10)).toInt32 = (nI 10) := by decide +kernel
theorem ci_bipush_12 : (Int8.ofInt (12)).toInt32 = (nI 12) := by decide +kernel
theorem ci_bipush_15 : (Int8.ofInt (15)).toInt32 = (nI 15) := by decide +kernel
theorem ci_bipush_20 : (Int8.ofInt (20)).toInt32 = (nI 20) := by decide +kernel
theorem ci_bipush_24 : (Int8.ofInt (24)).toInt32 = (nI 24) := by decide +kernel
theorem ci_bipush_30 : (Int8.ofInt (30)).toInt32 = (nI 30) := by decide +kernel
theorem ci_bipush_32 : (Int8.ofInt (32)).toInt32 = (nI 32) := by decide +kernel
theorem ci_bipush_33 : (Int8.ofInt (33)).toInt32 = (nI 33) := by decide +kernel
theorem ci_bipush_34 : (Int8.ofInt (34)).toInt32 = (nI 34) := by decide +kernel
theorem ci_bipush_39 : (Int8.ofInt (39)).toInt32 = (nI 39) := by decide +kernel
theorem ci_bipush_40 : (Int8.ofInt (40)).toInt32 = (nI 40) := by decide +kernel
theorem ci_bipush_41 : (Int8.ofInt (41)).toInt32 = (nI 41) := by decide +kernel
theorem ci_bipush_43 : (Int8.ofInt (43)).toInt32 = (nI 43) := by decide +kernel
theorem ci_bipush_45 : (Int8.ofInt (45)).toInt32 = (nI 45) := by decide +kernel
theorem ci_bipush_46 : (Int8.ofInt (46)).toInt32 = (nI 46) := by decide +kernel
theorem ci_bipush_48 : (Int8.ofInt (48)).toInt32 = (nI 48) := by decide +kernel
theorem ci_bipush_57 : (Int8.ofInt (57)).toInt32 = (nI 57) := by decide +kernel
theorem ci_bipush_61 : (Int8.ofInt (61)).toInt32 = (nI 61) := by decide +kernel
theorem ci_bipush_63 : (Int8.ofInt (63)).toInt32 = (nI 63) := by decide +kernel
theorem ci_bipush_65 : (Int8.ofInt (65)).toInt32 = (nI 65) := by decide +kernel
theorem ci_bipush_84 : (Int8.ofInt (84)).toInt32 = (nI 84) := by decide +kernel
theorem ci_bipush_90 : (Int8.ofInt (90)).toInt32 = (nI 90) := by decide +kernel
theorem ci_bipush_95 : (Int8.ofInt (95)).toInt32 = (nI 95) := by decide +kernel
theorem ci_bipush_96 : (Int8.ofInt (96)).toInt32 = (nI 96) := by decide +kernel
theorem ci_bipush_97 : (Int8.ofInt (97)).toInt32 = (nI 97) := by decide +kernel
theorem ci_bipush_100 : (Int8.ofInt (100)).toInt32 = (nI 100) := by decide +kernel
theorem ci_bipush_101 : (Int8.ofInt (101)).toInt32 = (nI 101) := by decide +kernel
theorem ci_bipush_122 : (Int8.ofInt (122)).toInt32 = (nI 122) := by decide +kernel
theorem ci_iconst_m8 : Int32.ofInt (-8) = (-8) := by decide +kernel
theorem ci_iconst_m1 : Int32.ofInt (-1) = (-1) := by decide +kernel
theorem ci_iconst_0 : Int32.ofInt (0) = (nI 0) := by decide +kernel
theorem ci_iconst_1 : Int32.ofInt (1) = (nI 1) := by decide +kernel
theorem ci_iconst_2 : Int32.ofInt (2) = (nI 2) := by decide +kernel
theorem ci_iconst_3 : Int32.ofInt (3) = (nI 3) := by decide +kernel
theorem ci_iconst_4 : Int32.ofInt (4) = (nI 4) := by decide +kernel
theorem ci_iconst_5 : Int32.ofInt (5) = (nI 5) := by decide +kernel
theorem ci_iconst_6 : Int32.ofInt (6) = (nI 6) := by decide +kernel
theorem ci_sipush_m1000 : (Int16.ofInt (-1000)).toInt32 = (-1000) := by decide +kernel
theorem ci_sipush_200 : (Int16.ofInt (200)).toInt32 = (nI 200) := by decide +kernel
theorem ci_sipush_201 : (Int16.ofInt (201)).toInt32 = (nI 201) := by decide +kernel
theorem ci_sipush_255 : (Int16.ofInt (255)).toInt32 = (nI 255) := by decide +kernel
theorem ci_sipush_600 : (Int16.ofInt (600)).toInt32 = (nI 600) := by decide +kernel
theorem ci_sipush_1000 : (Int16.ofInt (1000)).toInt32 = (nI 1000) := by decide +kernel
theorem ci_sipush_19200 : (Int16.ofInt (19200)).toInt32 = (nI 19200) := by decide +kernel
theorem ci_sipush_20200 : (Int16.ofInt (20200)).toInt32 = (nI 20200) := by decide +kernel
