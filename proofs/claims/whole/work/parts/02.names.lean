abbrev xM : Type := MethodName × ByteArray × Nat × Option FieldType
def R_Row : String := "NameRoom$Row"
def F_Row : u_T := fun k => match k with
  | 0 => ("NameRoom$Row", "bytes", "[B", true)
  | _ => ("NameRoom$Row", "length", "I", false)
def t_Row : Nat → FieldType := fun k => match k with
  | 0 => .array (.byte)
  | _ => .int
def R_Ent : String := "NameRoom$Entry"
def F_Ent : u_T := fun k => match k with
  | 0 => ("NameRoom$Entry", "title", "LNameRoom$Row;", true)
  | 1 => ("NameRoom$Entry", "held", "LNameRoom$Row;", true)
  | 2 => ("NameRoom$Entry", "pool", "I", false)
  | 3 => ("NameRoom$Entry", "gone", "Z", false)
  | _ => ("NameRoom$Entry", "leaves", "Z", false)
def t_Ent : Nat → FieldType := fun k => match k with
  | 0 => .object "NameRoom$Row"
  | 1 => .object "NameRoom$Row"
  | 2 => .int
  | 3 => .boolean
  | _ => .boolean
def R_She : String := "NameRoom$Shelf"
def F_She : u_T := fun k => match k with
  | 0 => ("NameRoom$Shelf", "entries", "[LNameRoom$Entry;", true)
  | _ => ("NameRoom$Shelf", "size", "I", false)
def t_She : Nat → FieldType := fun k => match k with
  | 0 => .array (.object "NameRoom$Entry")
  | _ => .int
def R_Sig : String := "NameRoom$Sight"
def F_Sig : u_T := fun k => match k with
  | 0 => ("NameRoom$Sight", "title", "LNameRoom$Row;", true)
  | 1 => ("NameRoom$Sight", "pool", "I", false)
  | _ => ("NameRoom$Sight", "withTails", "Z", false)
def t_Sig : Nat → FieldType := fun k => match k with
  | 0 => .object "NameRoom$Row"
  | 1 => .int
  | _ => .boolean
def R_Poo : String := "NameRoom$Pools"
def F_Poo : u_T := fun k => match k with
  | 0 => ("NameRoom$Pools", "sights", "[LNameRoom$Sight;", true)
  | 1 => ("NameRoom$Pools", "size", "I", false)
  | _ => ("NameRoom$Pools", "depth", "I", false)
def t_Poo : Nat → FieldType := fun k => match k with
  | 0 => .array (.object "NameRoom$Sight")
  | 1 => .int
  | _ => .int
def R_Rea : String := "NameRoom$Reader"
def F_Rea : u_T := fun k => match k with
  | 0 => ("NameRoom$Reader", "text", "LNameRoom$Row;", true)
  | 1 => ("NameRoom$Reader", "kinds", "[I", true)
  | 2 => ("NameRoom$Reader", "starts", "[I", true)
  | 3 => ("NameRoom$Reader", "stops", "[I", true)
  | 4 => ("NameRoom$Reader", "size", "I", false)
  | 5 => ("NameRoom$Reader", "targets", "I", false)
  | 6 => ("NameRoom$Reader", "at", "I", false)
  | _ => ("NameRoom$Reader", "answer", "I", false)
def t_Rea : Nat → FieldType := fun k => match k with
  | 0 => .object "NameRoom$Row"
  | 1 => .array (.int)
  | 2 => .array (.int)
  | 3 => .array (.int)
  | 4 => .int
  | 5 => .int
  | 6 => .int
  | _ => .int
def R_Cut : String := "NameRoom$Cutter"
def F_Cut : u_T := fun k => match k with
  | 0 => ("NameRoom$Cutter", "subject", "LNameRoom$Row;", true)
  | 1 => ("NameRoom$Cutter", "from", "I", false)
  | 2 => ("NameRoom$Cutter", "began", "I", false)
  | 3 => ("NameRoom$Cutter", "shareFrom", "I", false)
  | 4 => ("NameRoom$Cutter", "shareTo", "I", false)
  | 5 => ("NameRoom$Cutter", "partFrom", "I", false)
  | _ => ("NameRoom$Cutter", "partTo", "I", false)
def t_Cut : Nat → FieldType := fun k => match k with
  | 0 => .object "NameRoom$Row"
  | 1 => .int
  | 2 => .int
  | 3 => .int
  | 4 => .int
  | 5 => .int
  | _ => .int
def R_Nam : String := "NameRoom"
def F_Nam : u_T := fun k => match k with
  | 0 => ("NameRoom", "tape", "LNameRoom$Row;", true)
  | 1 => ("NameRoom", "written", "LNameRoom$Row;", true)
  | 2 => ("NameRoom", "full", "LNameRoom$Row;", true)
  | 3 => ("NameRoom", "stem", "LNameRoom$Row;", true)
  | 4 => ("NameRoom", "tail", "LNameRoom$Row;", true)
  | 5 => ("NameRoom", "pattern", "LNameRoom$Row;", true)
  | 6 => ("NameRoom", "reader", "LNameRoom$Reader;", true)
  | 7 => ("NameRoom", "shelf", "LNameRoom$Shelf;", true)
  | 8 => ("NameRoom", "pools", "LNameRoom$Pools;", true)
  | _ => ("NameRoom", "cutter", "LNameRoom$Cutter;", true)
def t_Nam : Nat → FieldType := fun k => match k with
  | 0 => .object "NameRoom$Row"
  | 1 => .object "NameRoom$Row"
  | 2 => .object "NameRoom$Row"
  | 3 => .object "NameRoom$Row"
  | 4 => .object "NameRoom$Row"
  | 5 => .object "NameRoom$Row"
  | 6 => .object "NameRoom$Reader"
  | 7 => .object "NameRoom$Shelf"
  | 8 => .object "NameRoom$Pools"
  | _ => .object "NameRoom$Cutter"
def R_Mod : String := "NameRoomModel"
def F_Mod : u_T := fun k => match k with
  | 0 => ("NameRoomModel", "tape", "[I", true)
  | 1 => ("NameRoomModel", "text", "[I", true)
  | 2 => ("NameRoomModel", "out", "[I", true)
  | 3 => ("NameRoomModel", "full", "[I", true)
  | 4 => ("NameRoomModel", "taped", "I", false)
  | 5 => ("NameRoomModel", "size", "I", false)
  | 6 => ("NameRoomModel", "written", "I", false)
  | 7 => ("NameRoomModel", "length", "I", false)
  | 8 => ("NameRoomModel", "names", "[I", true)
  | 9 => ("NameRoomModel", "nameSize", "[I", true)
  | 10 => ("NameRoomModel", "values", "[I", true)
  | 11 => ("NameRoomModel", "valueSize", "[I", true)
  | 12 => ("NameRoomModel", "pools", "[I", true)
  | 13 => ("NameRoomModel", "many", "I", false)
  | 14 => ("NameRoomModel", "seen", "[I", true)
  | 15 => ("NameRoomModel", "seenSize", "[I", true)
  | 16 => ("NameRoomModel", "sees", "[I", true)
  | 17 => ("NameRoomModel", "pool", "I", false)
  | 18 => ("NameRoomModel", "subject", "[I", true)
  | 19 => ("NameRoomModel", "found", "[I", true)
  | 20 => ("NameRoomModel", "subjectSize", "I", false)
  | 21 => ("NameRoomModel", "foundSize", "I", false)
  | 22 => ("NameRoomModel", "from", "I", false)
  | 23 => ("NameRoomModel", "began", "I", false)
  | 24 => ("NameRoomModel", "wrong", "I", false)
  | 25 => ("NameRoomModel", "next", "I", false)
  | 26 => ("NameRoomModel", "kept", "[I", true)
  | 27 => ("NameRoomModel", "kind", "I", false)
  | 28 => ("NameRoomModel", "first", "I", false)
  | 29 => ("NameRoomModel", "last", "I", false)
  | _ => ("NameRoomModel", "value", "I", false)
def t_Mod : Nat → FieldType := fun k => match k with
  | 0 => .array (.int)
  | 1 => .array (.int)
  | 2 => .array (.int)
  | 3 => .array (.int)
  | 4 => .int
  | 5 => .int
  | 6 => .int
  | 7 => .int
  | 8 => .array (.int)
  | 9 => .array (.int)
  | 10 => .array (.int)
  | 11 => .array (.int)
  | 12 => .array (.int)
  | 13 => .int
  | 14 => .array (.int)
  | 15 => .array (.int)
  | 16 => .array (.int)
  | 17 => .int
  | 18 => .array (.int)
  | 19 => .array (.int)
  | 20 => .int
  | 21 => .int
  | 22 => .int
  | 23 => .int
  | 24 => .int
  | 25 => .int
  | 26 => .array (.int)
  | 27 => .int
  | 28 => .int
  | 29 => .int
  | _ => .int
abbrev classes : List vw_C := [(R_Row, F_Row, 2), (R_Ent, F_Ent, 5), (R_She, F_She, 2), (R_Sig, F_Sig, 3), (R_Poo, F_Poo, 3), (R_Rea, F_Rea, 8), (R_Cut, F_Cut, 7), (R_Nam, F_Nam, 10), (R_Mod, F_Mod, 31)]
/-- the kinds of arrays: bytes, ints, entries, sights -/
def xTy : List FieldType := [.byte, .int, .object "NameRoom$Entry", .object "NameRoom$Sight"]
theorem kn_Row : ∀ a, a < 2 → ∀ b, b < 2 → a ≠ b → (F_Row a).2.1 ≠ (F_Row b).2.1 := by decide +kernel
theorem kt_Row : ∀ k, k < 2 → parseFieldDescriptor (F_Row k).2.2.1 = some (t_Row k) := by decide +kernel
theorem ki_Row : ∀ w ∈ u_ws R_Row F_Row 2, w ∈ lw_g := by
  intro w hw0
  have hw := hw0
  have h : u_ws R_Row F_Row 2 = [43, 45].filterMap (fun i => tables_1[i]?) := by decide +kernel
  rw [h] at hw
  obtain ⟨i, -, hi⟩ := List.mem_filterMap.mp hw
  exact lw_in i (List.all_eq_true.mp (show (u_ws R_Row F_Row 2).all goodWord = true from by decide +kernel) w hw0) hi
theorem kw_Row : Cond.instantiable R_Row 2 ∈ lw_g := lw_in 27 rfl (by decide +kernel)
theorem kz_Row : Cond.initialized R_Row ∈ lw_g := lw_in 3 rfl (by decide +kernel)
theorem kn_Ent : ∀ a, a < 5 → ∀ b, b < 5 → a ≠ b → (F_Ent a).2.1 ≠ (F_Ent b).2.1 := by decide +kernel
theorem kt_Ent : ∀ k, k < 5 → parseFieldDescriptor (F_Ent k).2.2.1 = some (t_Ent k) := by decide +kernel
theorem ki_Ent : ∀ w ∈ u_ws R_Ent F_Ent 5, w ∈ lw_g := by
  intro w hw0
  have hw := hw0
  have h : u_ws R_Ent F_Ent 5 = [110, 112, 114, 116, 118].filterMap (fun i => tables_1[i]?) := by decide +kernel
  rw [h] at hw
  obtain ⟨i, -, hi⟩ := List.mem_filterMap.mp hw
  exact lw_in i (List.all_eq_true.mp (show (u_ws R_Ent F_Ent 5).all goodWord = true from by decide +kernel) w hw0) hi
theorem kw_Ent : Cond.instantiable R_Ent 5 ∈ lw_g := lw_in 89 rfl (by decide +kernel)
theorem kz_Ent : Cond.initialized R_Ent ∈ lw_g := lw_in 6 rfl (by decide +kernel)
theorem kn_She : ∀ a, a < 2 → ∀ b, b < 2 → a ≠ b → (F_She a).2.1 ≠ (F_She b).2.1 := by decide +kernel
theorem kt_She : ∀ k, k < 2 → parseFieldDescriptor (F_She k).2.2.1 = some (t_She k) := by decide +kernel
theorem ki_She : ∀ w ∈ u_ws R_She F_She 2, w ∈ lw_g := by
  intro w hw0
  have hw := hw0
  have h : u_ws R_She F_She 2 = [124, 126].filterMap (fun i => tables_1[i]?) := by decide +kernel
  rw [h] at hw
  obtain ⟨i, -, hi⟩ := List.mem_filterMap.mp hw
  exact lw_in i (List.all_eq_true.mp (show (u_ws R_She F_She 2).all goodWord = true from by decide +kernel) w hw0) hi
theorem kw_She : Cond.instantiable R_She 2 ∈ lw_g := lw_in 82 rfl (by decide +kernel)
theorem kz_She : Cond.initialized R_She ∈ lw_g := lw_in 5 rfl (by decide +kernel)
theorem kn_Sig : ∀ a, a < 3 → ∀ b, b < 3 → a ≠ b → (F_Sig a).2.1 ≠ (F_Sig b).2.1 := by decide +kernel
theorem kt_Sig : ∀ k, k < 3 → parseFieldDescriptor (F_Sig k).2.2.1 = some (t_Sig k) := by decide +kernel
theorem ki_Sig : ∀ w ∈ u_ws R_Sig F_Sig 3, w ∈ lw_g := by
  intro w hw0
  have hw := hw0
  have h : u_ws R_Sig F_Sig 3 = [150, 152, 154].filterMap (fun i => tables_1[i]?) := by decide +kernel
  rw [h] at hw
  obtain ⟨i, -, hi⟩ := List.mem_filterMap.mp hw
  exact lw_in i (List.all_eq_true.mp (show (u_ws R_Sig F_Sig 3).all goodWord = true from by decide +kernel) w hw0) hi
theorem kw_Sig : Cond.instantiable R_Sig 3 ∈ lw_g := lw_in 137 rfl (by decide +kernel)
theorem kz_Sig : Cond.initialized R_Sig ∈ lw_g := lw_in 8 rfl (by decide +kernel)
theorem kn_Poo : ∀ a, a < 3 → ∀ b, b < 3 → a ≠ b → (F_Poo a).2.1 ≠ (F_Poo b).2.1 := by decide +kernel
theorem kt_Poo : ∀ k, k < 3 → parseFieldDescriptor (F_Poo k).2.2.1 = some (t_Poo k) := by decide +kernel
theorem ki_Poo : ∀ w ∈ u_ws R_Poo F_Poo 3, w ∈ lw_g := by
  intro w hw0
  have hw := hw0
  have h : u_ws R_Poo F_Poo 3 = [161, 163, 165].filterMap (fun i => tables_1[i]?) := by decide +kernel
  rw [h] at hw
  obtain ⟨i, -, hi⟩ := List.mem_filterMap.mp hw
  exact lw_in i (List.all_eq_true.mp (show (u_ws R_Poo F_Poo 3).all goodWord = true from by decide +kernel) w hw0) hi
theorem kw_Poo : Cond.instantiable R_Poo 3 ∈ lw_g := lw_in 130 rfl (by decide +kernel)
theorem kz_Poo : Cond.initialized R_Poo ∈ lw_g := lw_in 7 rfl (by decide +kernel)
theorem kn_Rea : ∀ a, a < 8 → ∀ b, b < 8 → a ≠ b → (F_Rea a).2.1 ≠ (F_Rea b).2.1 := by decide +kernel
theorem kt_Rea : ∀ k, k < 8 → parseFieldDescriptor (F_Rea k).2.2.1 = some (t_Rea k) := by decide +kernel
theorem ki_Rea : ∀ w ∈ u_ws R_Rea F_Rea 8, w ∈ lw_g := by
  intro w hw0
  have hw := hw0
  have h : u_ws R_Rea F_Rea 8 = [61, 63, 65, 67, 69, 71, 73, 75].filterMap (fun i => tables_1[i]?) := by decide +kernel
  rw [h] at hw
  obtain ⟨i, -, hi⟩ := List.mem_filterMap.mp hw
  exact lw_in i (List.all_eq_true.mp (show (u_ws R_Rea F_Rea 8).all goodWord = true from by decide +kernel) w hw0) hi
theorem kw_Rea : Cond.instantiable R_Rea 8 ∈ lw_g := lw_in 21 rfl (by decide +kernel)
theorem kz_Rea : Cond.initialized R_Rea ∈ lw_g := lw_in 2 rfl (by decide +kernel)
theorem kn_Cut : ∀ a, a < 7 → ∀ b, b < 7 → a ≠ b → (F_Cut a).2.1 ≠ (F_Cut b).2.1 := by decide +kernel
theorem kt_Cut : ∀ k, k < 7 → parseFieldDescriptor (F_Cut k).2.2.1 = some (t_Cut k) := by decide +kernel
theorem ki_Cut : ∀ w ∈ u_ws R_Cut F_Cut 7, w ∈ lw_g := by
  intro w hw0
  have hw := hw0
  have h : u_ws R_Cut F_Cut 7 = [188, 190, 192, 194, 196, 198, 200].filterMap (fun i => tables_1[i]?) := by decide +kernel
  rw [h] at hw
  obtain ⟨i, -, hi⟩ := List.mem_filterMap.mp hw
  exact lw_in i (List.all_eq_true.mp (show (u_ws R_Cut F_Cut 7).all goodWord = true from by decide +kernel) w hw0) hi
theorem kw_Cut : Cond.instantiable R_Cut 7 ∈ lw_g := lw_in 169 rfl (by decide +kernel)
theorem kz_Cut : Cond.initialized R_Cut ∈ lw_g := lw_in 9 rfl (by decide +kernel)
theorem kn_Nam : ∀ a, a < 10 → ∀ b, b < 10 → a ≠ b → (F_Nam a).2.1 ≠ (F_Nam b).2.1 := by decide +kernel
theorem kt_Nam : ∀ k, k < 10 → parseFieldDescriptor (F_Nam k).2.2.1 = some (t_Nam k) := by decide +kernel
theorem ki_Nam : ∀ w ∈ u_ws R_Nam F_Nam 10, w ∈ lw_g := by
  intro w hw0
  have hw := hw0
  have h : u_ws R_Nam F_Nam 10 = [213, 215, 217, 219, 221, 223, 225, 227, 229, 231].filterMap (fun i => tables_1[i]?) := by decide +kernel
  rw [h] at hw
  obtain ⟨i, -, hi⟩ := List.mem_filterMap.mp hw
  exact lw_in i (List.all_eq_true.mp (show (u_ws R_Nam F_Nam 10).all goodWord = true from by decide +kernel) w hw0) hi
theorem kw_Nam : Cond.instantiable R_Nam 10 ∈ lw_g := lw_in 13 rfl (by decide +kernel)
theorem kz_Nam : Cond.initialized R_Nam ∈ lw_g := lw_in 1 rfl (by decide +kernel)
theorem kn_Mod : ∀ a, a < 31 → ∀ b, b < 31 → a ≠ b → (F_Mod a).2.1 ≠ (F_Mod b).2.1 := by decide +kernel
theorem kt_Mod : ∀ k, k < 31 → parseFieldDescriptor (F_Mod k).2.2.1 = some (t_Mod k) := by decide +kernel
theorem ki_Mod : ∀ w ∈ u_ws R_Mod F_Mod 31, w ∈ lw_g := by
  intro w hw0
  have hw := hw0
  have h : u_ws R_Mod F_Mod 31 = [636, 638, 640, 642, 644, 646, 648, 650, 652, 654, 656, 658, 660, 662, 664, 666, 668, 670, 672, 674, 676, 678, 680, 682, 684, 686, 688, 690, 692, 694, 696].filterMap (fun i => tables_1[i]?) := by decide +kernel
  rw [h] at hw
  obtain ⟨i, -, hi⟩ := List.mem_filterMap.mp hw
  exact lw_in i (List.all_eq_true.mp (show (u_ws R_Mod F_Mod 31).all goodWord = true from by decide +kernel) w hw0) hi
theorem kw_Mod : Cond.instantiable R_Mod 31 ∈ lw_g := lw_in 600 rfl (by decide +kernel)
theorem kz_Mod : Cond.initialized R_Mod ∈ lw_g := lw_in 10 rfl (by decide +kernel)
abbrev b_Cut_begin : ByteArray := prog_2_method_2_code
def Y_Cut_begin : xM := (⟨"NameRoom$Cutter", "begin", "()V"⟩, b_Cut_begin, 1, none)
abbrev b_Cut_cutAtEnd : ByteArray := prog_2_method_7_code
def Y_Cut_cutAtEnd : xM := (⟨"NameRoom$Cutter", "cutAtEnd", "()V"⟩, b_Cut_cutAtEnd, 1, none)
abbrev b_Cut_cutAtPattern : ByteArray := prog_2_method_4_code
def Y_Cut_cutAtPattern : xM := (⟨"NameRoom$Cutter", "cutAtPattern", "(LNameRoom$Row;)V"⟩, b_Cut_cutAtPattern, 3, none)
abbrev b_Cut_cutAtPlace : ByteArray := prog_2_method_6_code
def Y_Cut_cutAtPlace : xM := (⟨"NameRoom$Cutter", "cutAtPlace", "(I)V"⟩, b_Cut_cutAtPlace, 4, none)
abbrev b_Cut_init : ByteArray := prog_2_method_1_code
def Y_Cut_init : xM := (⟨"NameRoom$Cutter", "<init>", "()V"⟩, b_Cut_init, 1, none)
abbrev b_Cut_placeOf : ByteArray := prog_2_method_5_code
def Y_Cut_placeOf : xM := (⟨"NameRoom$Cutter", "placeOf", "(LNameRoom$Row;)I"⟩, b_Cut_placeOf, 4, (some .int))
abbrev b_Cut_take : ByteArray := prog_2_method_3_code
def Y_Cut_take : xM := (⟨"NameRoom$Cutter", "take", "(LNameRoom$Row;Z)V"⟩, b_Cut_take, 3, none)
abbrev b_Cut_takeRest : ByteArray := prog_2_method_9_code
def Y_Cut_takeRest : xM := (⟨"NameRoom$Cutter", "takeRest", "()V"⟩, b_Cut_takeRest, 1, none)
abbrev b_Cut_takeWord : ByteArray := prog_2_method_8_code
def Y_Cut_takeWord : xM := (⟨"NameRoom$Cutter", "takeWord", "()V"⟩, b_Cut_takeWord, 1, none)
abbrev b_Ent_init : ByteArray := prog_3_method_1_code
def Y_Ent_init : xM := (⟨"NameRoom$Entry", "<init>", "()V"⟩, b_Ent_init, 1, none)
abbrev b_Mod_add : ByteArray := prog_10_method_13_code
def Y_Mod_add : xM := (⟨"NameRoomModel", "add", "(I)V"⟩, b_Mod_add, 2, none)
abbrev b_Mod_assign : ByteArray := prog_10_method_25_code
def Y_Mod_assign : xM := (⟨"NameRoomModel", "assign", "(ZII)Z"⟩, b_Mod_assign, 7, (some .boolean))
abbrev b_Mod_blanks : ByteArray := prog_10_method_38_code
def Y_Mod_blanks : xM := (⟨"NameRoomModel", "blanks", "()V"⟩, b_Mod_blanks, 1, none)
abbrev b_Mod_capital : ByteArray := prog_10_method_11_code
def Y_Mod_capital : xM := (⟨"NameRoomModel", "capital", "(I)I"⟩, b_Mod_capital, 1, (some .int))
abbrev b_Mod_clear : ByteArray := prog_10_method_23_code
def Y_Mod_clear : xM := (⟨"NameRoomModel", "clear", "(I)V"⟩, b_Mod_clear, 5, none)
abbrev b_Mod_close : ByteArray := prog_10_method_36_code
def Y_Mod_close : xM := (⟨"NameRoomModel", "close", "()I"⟩, b_Mod_close, 2, (some .int))
abbrev b_Mod_count : ByteArray := prog_10_method_50_code
def Y_Mod_count : xM := (⟨"NameRoomModel", "count", "(I)I"⟩, b_Mod_count, 2, (some .int))
abbrev b_Mod_cut : ByteArray := prog_10_method_46_code
def Y_Mod_cut : xM := (⟨"NameRoomModel", "cut", "()I"⟩, b_Mod_cut, 8, (some .int))
abbrev b_Mod_drop : ByteArray := prog_10_method_34_code
def Y_Mod_drop : xM := (⟨"NameRoomModel", "drop", "()I"⟩, b_Mod_drop, 2, (some .int))
abbrev b_Mod_end : ByteArray := prog_10_method_4_code
def Y_Mod_end : xM := (⟨"NameRoomModel", "end", "(I)I"⟩, b_Mod_end, 2, (some .int))
abbrev b_Mod_entry : ByteArray := prog_10_method_18_code
def Y_Mod_entry : xM := (⟨"NameRoomModel", "entry", "(II)I"⟩, b_Mod_entry, 6, (some .int))
abbrev b_Mod_fail : ByteArray := prog_10_method_8_code
def Y_Mod_fail : xM := (⟨"NameRoomModel", "fail", "(I)V"⟩, b_Mod_fail, 2, none)
abbrev b_Mod_feed : ByteArray := prog_10_method_3_code
def Y_Mod_feed : xM := (⟨"NameRoomModel", "feed", "(IIIII)I"⟩, b_Mod_feed, 6, (some .int))
abbrev b_Mod_four : ByteArray := prog_10_method_2_code
def Y_Mod_four : xM := (⟨"NameRoomModel", "four", "(I)V"⟩, b_Mod_four, 3, none)
abbrev b_Mod_get : ByteArray := prog_10_method_30_code
def Y_Mod_get : xM := (⟨"NameRoomModel", "get", "()I"⟩, b_Mod_get, 3, (some .int))
abbrev b_Mod_give : ByteArray := prog_10_method_44_code
def Y_Mod_give : xM := (⟨"NameRoomModel", "give", "(IIIII)I"⟩, b_Mod_give, 12, (some .int))
abbrev b_Mod_held : ByteArray := prog_10_method_43_code
def Y_Mod_held : xM := (⟨"NameRoomModel", "held", "(I)I"⟩, b_Mod_held, 2, (some .int))
abbrev b_Mod_here : ByteArray := prog_10_method_7_code
def Y_Mod_here : xM := (⟨"NameRoomModel", "here", "()I"⟩, b_Mod_here, 1, (some .int))
abbrev b_Mod_init : ByteArray := prog_10_method_1_code
def Y_Mod_init : xM := (⟨"NameRoomModel", "<init>", "()V"⟩, b_Mod_init, 1, none)
abbrev b_Mod_isAlike : ByteArray := prog_10_method_15_code
def Y_Mod_isAlike : xM := (⟨"NameRoomModel", "isAlike", "(II)Z"⟩, b_Mod_isAlike, 4, (some .boolean))
abbrev b_Mod_isDigit : ByteArray := prog_10_method_9_code
def Y_Mod_isDigit : xM := (⟨"NameRoomModel", "isDigit", "(I)Z"⟩, b_Mod_isDigit, 1, (some .boolean))
abbrev b_Mod_isStem : ByteArray := prog_10_method_16_code
def Y_Mod_isStem : xM := (⟨"NameRoomModel", "isStem", "(I)Z"⟩, b_Mod_isStem, 3, (some .boolean))
abbrev b_Mod_isSymbol : ByteArray := prog_10_method_10_code
def Y_Mod_isSymbol : xM := (⟨"NameRoomModel", "isSymbol", "(I)Z"⟩, b_Mod_isSymbol, 1, (some .boolean))
abbrev b_Mod_known : ByteArray := prog_10_method_31_code
def Y_Mod_known : xM := (⟨"NameRoomModel", "known", "()I"⟩, b_Mod_known, 3, (some .int))
abbrev b_Mod_look : ByteArray := prog_10_method_47_code
def Y_Mod_look : xM := (⟨"NameRoomModel", "look", "()V"⟩, b_Mod_look, 3, none)
abbrev b_Mod_lose : ByteArray := prog_10_method_26_code
def Y_Mod_lose : xM := (⟨"NameRoomModel", "lose", "()Z"⟩, b_Mod_lose, 5, (some .boolean))
abbrev b_Mod_name : ByteArray := prog_10_method_48_code
def Y_Mod_name : xM := (⟨"NameRoomModel", "name", "(I)I"⟩, b_Mod_name, 2, (some .int))
abbrev b_Mod_nameOf : ByteArray := prog_10_method_21_code
def Y_Mod_nameOf : xM := (⟨"NameRoomModel", "nameOf", "(II)Z"⟩, b_Mod_nameOf, 10, (some .boolean))
abbrev b_Mod_number : ByteArray := prog_10_method_39_code
def Y_Mod_number : xM := (⟨"NameRoomModel", "number", "()I"⟩, b_Mod_number, 3, (some .int))
abbrev b_Mod_one : ByteArray := prog_10_method_28_code
def Y_Mod_one : xM := (⟨"NameRoomModel", "one", "()I"⟩, b_Mod_one, 1, (some .int))
abbrev b_Mod_open : ByteArray := prog_10_method_35_code
def Y_Mod_open : xM := (⟨"NameRoomModel", "open", "()I"⟩, b_Mod_open, 5, (some .int))
abbrev b_Mod_out : ByteArray := prog_10_method_5_code
def Y_Mod_out : xM := (⟨"NameRoomModel", "out", "(I)I"⟩, b_Mod_out, 2, (some .int))
abbrev b_Mod_parse : ByteArray := prog_10_method_45_code
def Y_Mod_parse : xM := (⟨"NameRoomModel", "parse", "()I"⟩, b_Mod_parse, 3, (some .int))
abbrev b_Mod_pattern : ByteArray := prog_10_method_42_code
def Y_Mod_pattern : xM := (⟨"NameRoomModel", "pattern", "(I)I"⟩, b_Mod_pattern, 5, (some .int))
abbrev b_Mod_place : ByteArray := prog_10_method_24_code
def Y_Mod_place : xM := (⟨"NameRoomModel", "place", "(I)I"⟩, b_Mod_place, 4, (some .int))
abbrev b_Mod_poolOf : ByteArray := prog_10_method_14_code
def Y_Mod_poolOf : xM := (⟨"NameRoomModel", "poolOf", "(II)I"⟩, b_Mod_poolOf, 7, (some .int))
abbrev b_Mod_remove : ByteArray := prog_10_method_22_code
def Y_Mod_remove : xM := (⟨"NameRoomModel", "remove", "(I)V"⟩, b_Mod_remove, 4, none)
abbrev b_Mod_set : ByteArray := prog_10_method_27_code
def Y_Mod_set : xM := (⟨"NameRoomModel", "set", "()I"⟩, b_Mod_set, 2, (some .int))
abbrev b_Mod_stem : ByteArray := prog_10_method_17_code
def Y_Mod_stem : xM := (⟨"NameRoomModel", "stem", "()I"⟩, b_Mod_stem, 2, (some .int))
abbrev b_Mod_string : ByteArray := prog_10_method_40_code
def Y_Mod_string : xM := (⟨"NameRoomModel", "string", "()V"⟩, b_Mod_string, 5, none)
abbrev b_Mod_subject : ByteArray := prog_10_method_37_code
def Y_Mod_subject : xM := (⟨"NameRoomModel", "subject", "(Z)I"⟩, b_Mod_subject, 3, (some .int))
abbrev b_Mod_take : ByteArray := prog_10_method_6_code
def Y_Mod_take : xM := (⟨"NameRoomModel", "take", "()V"⟩, b_Mod_take, 2, none)
abbrev b_Mod_tells : ByteArray := prog_10_method_19_code
def Y_Mod_tells : xM := (⟨"NameRoomModel", "tells", "()I"⟩, b_Mod_tells, 4, (some .int))
abbrev b_Mod_token : ByteArray := prog_10_method_41_code
def Y_Mod_token : xM := (⟨"NameRoomModel", "token", "()V"⟩, b_Mod_token, 2, none)
abbrev b_Mod_told : ByteArray := prog_10_method_20_code
def Y_Mod_told : xM := (⟨"NameRoomModel", "told", "(II)I"⟩, b_Mod_told, 4, (some .int))
abbrev b_Mod_value : ByteArray := prog_10_method_49_code
def Y_Mod_value : xM := (⟨"NameRoomModel", "value", "(I)I"⟩, b_Mod_value, 2, (some .int))
abbrev b_Mod_variable : ByteArray := prog_10_method_12_code
def Y_Mod_variable : xM := (⟨"NameRoomModel", "variable", "()V"⟩, b_Mod_variable, 2, none)
abbrev b_Mod_variables : ByteArray := prog_10_method_32_code
def Y_Mod_variables : xM := (⟨"NameRoomModel", "variables", "(I)I"⟩, b_Mod_variables, 4, (some .int))
abbrev b_Mod_wordEnd : ByteArray := prog_10_method_33_code
def Y_Mod_wordEnd : xM := (⟨"NameRoomModel", "wordEnd", "(I)I"⟩, b_Mod_wordEnd, 3, (some .int))
abbrev b_Mod_write : ByteArray := prog_10_method_29_code
def Y_Mod_write : xM := (⟨"NameRoomModel", "write", "([III)V"⟩, b_Mod_write, 5, none)
abbrev b_Nam_addTail : ByteArray := prog_1_method_18_code
def Y_Nam_addTail : xM := (⟨"NameRoom", "addTail", "(II)Z"⟩, b_Nam_addTail, 4, (some .boolean))
abbrev b_Nam_capital : ByteArray := prog_1_method_29_code
def Y_Nam_capital : xM := (⟨"NameRoom", "capital", "(I)I"⟩, b_Nam_capital, 1, (some .int))
abbrev b_Nam_close : ByteArray := prog_1_method_10_code
def Y_Nam_close : xM := (⟨"NameRoom", "close", "()I"⟩, b_Nam_close, 1, (some .int))
abbrev b_Nam_count : ByteArray := prog_1_method_15_code
def Y_Nam_count : xM := (⟨"NameRoom", "count", "(I)I"⟩, b_Nam_count, 2, (some .int))
abbrev b_Nam_cutAt : ByteArray := prog_1_method_25_code
def Y_Nam_cutAt : xM := (⟨"NameRoom", "cutAt", "(I)I"⟩, b_Nam_cutAt, 2, (some .int))
abbrev b_Nam_drop : ByteArray := prog_1_method_8_code
def Y_Nam_drop : xM := (⟨"NameRoom", "drop", "()I"⟩, b_Nam_drop, 3, (some .int))
abbrev b_Nam_end : ByteArray := prog_1_method_3_code
def Y_Nam_end : xM := (⟨"NameRoom", "end", "(I)I"⟩, b_Nam_end, 2, (some .int))
abbrev b_Nam_enterPool : ByteArray := prog_1_method_24_code
def Y_Nam_enterPool : xM := (⟨"NameRoom", "enterPool", "()I"⟩, b_Nam_enterPool, 2, (some .int))
abbrev b_Nam_feed : ByteArray := prog_1_method_2_code
def Y_Nam_feed : xM := (⟨"NameRoom", "feed", "(IIIII)I"⟩, b_Nam_feed, 6, (some .int))
abbrev b_Nam_get : ByteArray := prog_1_method_6_code
def Y_Nam_get : xM := (⟨"NameRoom", "get", "()I"⟩, b_Nam_get, 2, (some .int))
abbrev b_Nam_give : ByteArray := prog_1_method_22_code
def Y_Nam_give : xM := (⟨"NameRoom", "give", "(LNameRoom$Row;II)I"⟩, b_Nam_give, 6, (some .int))
abbrev b_Nam_handOver : ByteArray := prog_1_method_26_code
def Y_Nam_handOver : xM := (⟨"NameRoom", "handOver", "(IZ)I"⟩, b_Nam_handOver, 3, (some .int))
abbrev b_Nam_init : ByteArray := prog_1_method_1_code
def Y_Nam_init : xM := (⟨"NameRoom", "<init>", "()V"⟩, b_Nam_init, 1, none)
abbrev b_Nam_isDigit : ByteArray := prog_1_method_27_code
def Y_Nam_isDigit : xM := (⟨"NameRoom", "isDigit", "(I)Z"⟩, b_Nam_isDigit, 1, (some .boolean))
abbrev b_Nam_isSymbolByte : ByteArray := prog_1_method_28_code
def Y_Nam_isSymbolByte : xM := (⟨"NameRoom", "isSymbolByte", "(I)Z"⟩, b_Nam_isSymbolByte, 2, (some .boolean))
abbrev b_Nam_known : ByteArray := prog_1_method_7_code
def Y_Nam_known : xM := (⟨"NameRoom", "known", "()I"⟩, b_Nam_known, 3, (some .int))
abbrev b_Nam_name : ByteArray := prog_1_method_13_code
def Y_Nam_name : xM := (⟨"NameRoom", "name", "(I)I"⟩, b_Nam_name, 3, (some .int))
abbrev b_Nam_open : ByteArray := prog_1_method_9_code
def Y_Nam_open : xM := (⟨"NameRoom", "open", "()I"⟩, b_Nam_open, 2, (some .int))
abbrev b_Nam_out : ByteArray := prog_1_method_4_code
def Y_Nam_out : xM := (⟨"NameRoom", "out", "(I)I"⟩, b_Nam_out, 2, (some .int))
abbrev b_Nam_parse : ByteArray := prog_1_method_12_code
def Y_Nam_parse : xM := (⟨"NameRoom", "parse", "()I"⟩, b_Nam_parse, 5, (some .int))
abbrev b_Nam_set : ByteArray := prog_1_method_5_code
def Y_Nam_set : xM := (⟨"NameRoom", "set", "()I"⟩, b_Nam_set, 2, (some .int))
abbrev b_Nam_stemOf : ByteArray := prog_1_method_20_code
def Y_Nam_stemOf : xM := (⟨"NameRoom", "stemOf", "(I)LNameRoom$Entry;"⟩, b_Nam_stemOf, 2, (some (.object "NameRoom$Entry")))
abbrev b_Nam_subject : ByteArray := prog_1_method_11_code
def Y_Nam_subject : xM := (⟨"NameRoom", "subject", "(Z)I"⟩, b_Nam_subject, 3, (some .int))
abbrev b_Nam_takeBack : ByteArray := prog_1_method_23_code
def Y_Nam_takeBack : xM := (⟨"NameRoom", "takeBack", "()I"⟩, b_Nam_takeBack, 3, (some .int))
abbrev b_Nam_textOf : ByteArray := prog_1_method_21_code
def Y_Nam_textOf : xM := (⟨"NameRoom", "textOf", "(LNameRoom$Entry;)LNameRoom$Row;"⟩, b_Nam_textOf, 2, (some (.object "NameRoom$Row")))
abbrev b_Nam_told : ByteArray := prog_1_method_19_code
def Y_Nam_told : xM := (⟨"NameRoom", "told", "()LNameRoom$Entry;"⟩, b_Nam_told, 3, (some (.object "NameRoom$Entry")))
abbrev b_Nam_value : ByteArray := prog_1_method_14_code
def Y_Nam_value : xM := (⟨"NameRoom", "value", "(I)I"⟩, b_Nam_value, 3, (some .int))
abbrev b_Nam_workOut : ByteArray := prog_1_method_17_code
def Y_Nam_workOut : xM := (⟨"NameRoom", "workOut", "(I)Z"⟩, b_Nam_workOut, 8, (some .boolean))
abbrev b_Nam_workOutAlone : ByteArray := prog_1_method_16_code
def Y_Nam_workOutAlone : xM := (⟨"NameRoom", "workOutAlone", "()I"⟩, b_Nam_workOutAlone, 2, (some .int))
abbrev b_Poo_enter : ByteArray := prog_4_method_3_code
def Y_Poo_enter : xM := (⟨"NameRoom$Pools", "enter", "()V"⟩, b_Poo_enter, 1, none)
abbrev b_Poo_init : ByteArray := prog_4_method_1_code
def Y_Poo_init : xM := (⟨"NameRoom$Pools", "<init>", "()V"⟩, b_Poo_init, 2, none)
abbrev b_Poo_innermost : ByteArray := prog_4_method_2_code
def Y_Poo_innermost : xM := (⟨"NameRoom$Pools", "innermost", "()I"⟩, b_Poo_innermost, 1, (some .int))
abbrev b_Poo_leave : ByteArray := prog_4_method_4_code
def Y_Poo_leave : xM := (⟨"NameRoom$Pools", "leave", "()V"⟩, b_Poo_leave, 1, none)
abbrev b_Poo_owner : ByteArray := prog_4_method_5_code
def Y_Poo_owner : xM := (⟨"NameRoom$Pools", "owner", "(LNameRoom$Row;I)I"⟩, b_Poo_owner, 6, (some .int))
abbrev b_Poo_see : ByteArray := prog_4_method_6_code
def Y_Poo_see : xM := (⟨"NameRoom$Pools", "see", "(LNameRoom$Row;)V"⟩, b_Poo_see, 3, none)
abbrev b_Poo_seenByInnermost : ByteArray := prog_4_method_8_code
def Y_Poo_seenByInnermost : xM := (⟨"NameRoom$Pools", "seenByInnermost", "()I"⟩, b_Poo_seenByInnermost, 4, (some .int))
abbrev b_Poo_sees : ByteArray := prog_4_method_7_code
def Y_Poo_sees : xM := (⟨"NameRoom$Pools", "sees", "(LNameRoom$Row;)Z"⟩, b_Poo_sees, 4, (some .boolean))
abbrev b_Rea_add : ByteArray := prog_5_method_21_code
def Y_Rea_add : xM := (⟨"NameRoom$Reader", "add", "(III)V"⟩, b_Rea_add, 4, none)
abbrev b_Rea_begin : ByteArray := prog_5_method_2_code
def Y_Rea_begin : xM := (⟨"NameRoom$Reader", "begin", "()V"⟩, b_Rea_begin, 1, none)
abbrev b_Rea_copyString : ByteArray := prog_5_method_8_code
def Y_Rea_copyString : xM := (⟨"NameRoom$Reader", "copyString", "(ILNameRoom$Row;)V"⟩, b_Rea_copyString, 5, none)
abbrev b_Rea_fail : ByteArray := prog_5_method_22_code
def Y_Rea_fail : xM := (⟨"NameRoom$Reader", "fail", "(I)V"⟩, b_Rea_fail, 2, none)
abbrev b_Rea_init : ByteArray := prog_5_method_1_code
def Y_Rea_init : xM := (⟨"NameRoom$Reader", "<init>", "()V"⟩, b_Rea_init, 1, none)
abbrev b_Rea_isTarget : ByteArray := prog_5_method_3_code
def Y_Rea_isTarget : xM := (⟨"NameRoom$Reader", "isTarget", "(I)Z"⟩, b_Rea_isTarget, 3, (some .boolean))
abbrev b_Rea_kindOf : ByteArray := prog_5_method_4_code
def Y_Rea_kindOf : xM := (⟨"NameRoom$Reader", "kindOf", "(I)I"⟩, b_Rea_kindOf, 2, (some .int))
abbrev b_Rea_numberOf : ByteArray := prog_5_method_7_code
def Y_Rea_numberOf : xM := (⟨"NameRoom$Reader", "numberOf", "(I)I"⟩, b_Rea_numberOf, 4, (some .int))
abbrev b_Rea_readAlone : ByteArray := prog_5_method_9_code
def Y_Rea_readAlone : xM := (⟨"NameRoom$Reader", "readAlone", "()I"⟩, b_Rea_readAlone, 1, (some .int))
abbrev b_Rea_readBareToken : ByteArray := prog_5_method_14_code
def Y_Rea_readBareToken : xM := (⟨"NameRoom$Reader", "readBareToken", "(I)V"⟩, b_Rea_readBareToken, 2, none)
abbrev b_Rea_readBracket : ByteArray := prog_5_method_16_code
def Y_Rea_readBracket : xM := (⟨"NameRoom$Reader", "readBracket", "()V"⟩, b_Rea_readBracket, 1, none)
abbrev b_Rea_readGift : ByteArray := prog_5_method_10_code
def Y_Rea_readGift : xM := (⟨"NameRoom$Reader", "readGift", "()I"⟩, b_Rea_readGift, 1, (some .int))
abbrev b_Rea_readPlace : ByteArray := prog_5_method_18_code
def Y_Rea_readPlace : xM := (⟨"NameRoom$Reader", "readPlace", "(I)V"⟩, b_Rea_readPlace, 3, none)
abbrev b_Rea_readSignedPlace : ByteArray := prog_5_method_17_code
def Y_Rea_readSignedPlace : xM := (⟨"NameRoom$Reader", "readSignedPlace", "(I)V"⟩, b_Rea_readSignedPlace, 2, none)
abbrev b_Rea_readString : ByteArray := prog_5_method_19_code
def Y_Rea_readString : xM := (⟨"NameRoom$Reader", "readString", "(I)V"⟩, b_Rea_readString, 6, none)
abbrev b_Rea_readTemplate : ByteArray := prog_5_method_12_code
def Y_Rea_readTemplate : xM := (⟨"NameRoom$Reader", "readTemplate", "()I"⟩, b_Rea_readTemplate, 2, (some .int))
abbrev b_Rea_readToken : ByteArray := prog_5_method_13_code
def Y_Rea_readToken : xM := (⟨"NameRoom$Reader", "readToken", "()V"⟩, b_Rea_readToken, 2, none)
abbrev b_Rea_readVariable : ByteArray := prog_5_method_15_code
def Y_Rea_readVariable : xM := (⟨"NameRoom$Reader", "readVariable", "(I)V"⟩, b_Rea_readVariable, 4, none)
abbrev b_Rea_readVariables : ByteArray := prog_5_method_11_code
def Y_Rea_readVariables : xM := (⟨"NameRoom$Reader", "readVariables", "(I)I"⟩, b_Rea_readVariables, 4, (some .int))
abbrev b_Rea_skipBlanks : ByteArray := prog_5_method_20_code
def Y_Rea_skipBlanks : xM := (⟨"NameRoom$Reader", "skipBlanks", "()V"⟩, b_Rea_skipBlanks, 1, none)
abbrev b_Rea_startOf : ByteArray := prog_5_method_5_code
def Y_Rea_startOf : xM := (⟨"NameRoom$Reader", "startOf", "(I)I"⟩, b_Rea_startOf, 2, (some .int))
abbrev b_Rea_stopOf : ByteArray := prog_5_method_6_code
def Y_Rea_stopOf : xM := (⟨"NameRoom$Reader", "stopOf", "(I)I"⟩, b_Rea_stopOf, 2, (some .int))
abbrev b_Row_add : ByteArray := prog_6_method_4_code
def Y_Row_add : xM := (⟨"NameRoom$Row", "add", "(I)Z"⟩, b_Row_add, 2, (some .boolean))
abbrev b_Row_addCapitals : ByteArray := prog_6_method_7_code
def Y_Row_addCapitals : xM := (⟨"NameRoom$Row", "addCapitals", "(LNameRoom$Row;II)Z"⟩, b_Row_addCapitals, 6, (some .boolean))
abbrev b_Row_addInt : ByteArray := prog_6_method_5_code
def Y_Row_addInt : xM := (⟨"NameRoom$Row", "addInt", "(I)V"⟩, b_Row_addInt, 3, none)
abbrev b_Row_addPart : ByteArray := prog_6_method_6_code
def Y_Row_addPart : xM := (⟨"NameRoom$Row", "addPart", "(LNameRoom$Row;II)Z"⟩, b_Row_addPart, 5, (some .boolean))
abbrev b_Row_at : ByteArray := prog_6_method_3_code
def Y_Row_at : xM := (⟨"NameRoom$Row", "at", "(I)I"⟩, b_Row_at, 2, (some .int))
abbrev b_Row_become : ByteArray := prog_6_method_8_code
def Y_Row_become : xM := (⟨"NameRoom$Row", "become", "(LNameRoom$Row;)V"⟩, b_Row_become, 2, none)
abbrev b_Row_beginsWith : ByteArray := prog_6_method_9_code
def Y_Row_beginsWith : xM := (⟨"NameRoom$Row", "beginsWith", "(LNameRoom$Row;)Z"⟩, b_Row_beginsWith, 4, (some .boolean))
abbrev b_Row_clear : ByteArray := prog_6_method_2_code
def Y_Row_clear : xM := (⟨"NameRoom$Row", "clear", "()V"⟩, b_Row_clear, 1, none)
abbrev b_Row_dotFrom : ByteArray := prog_6_method_11_code
def Y_Row_dotFrom : xM := (⟨"NameRoom$Row", "dotFrom", "(II)I"⟩, b_Row_dotFrom, 4, (some .int))
abbrev b_Row_init : ByteArray := prog_6_method_1_code
def Y_Row_init : xM := (⟨"NameRoom$Row", "<init>", "(I)V"⟩, b_Row_init, 2, none)
abbrev b_Row_isCompound : ByteArray := prog_6_method_13_code
def Y_Row_isCompound : xM := (⟨"NameRoom$Row", "isCompound", "()Z"⟩, b_Row_isCompound, 1, (some .boolean))
abbrev b_Row_isStem : ByteArray := prog_6_method_12_code
def Y_Row_isStem : xM := (⟨"NameRoom$Row", "isStem", "()Z"⟩, b_Row_isStem, 1, (some .boolean))
abbrev b_Row_standsAt : ByteArray := prog_6_method_10_code
def Y_Row_standsAt : xM := (⟨"NameRoom$Row", "standsAt", "(ILNameRoom$Row;)Z"⟩, b_Row_standsAt, 4, (some .boolean))
abbrev b_She_clearBehind : ByteArray := prog_7_method_6_code
def Y_She_clearBehind : xM := (⟨"NameRoom$Shelf", "clearBehind", "(LNameRoom$Row;I)V"⟩, b_She_clearBehind, 5, none)
abbrev b_She_clearPool : ByteArray := prog_7_method_7_code
def Y_She_clearPool : xM := (⟨"NameRoom$Shelf", "clearPool", "(I)V"⟩, b_She_clearPool, 4, none)
abbrev b_She_entryAt : ByteArray := prog_7_method_2_code
def Y_She_entryAt : xM := (⟨"NameRoom$Shelf", "entryAt", "(I)LNameRoom$Entry;"⟩, b_She_entryAt, 2, (some (.object "NameRoom$Entry")))
abbrev b_She_find : ByteArray := prog_7_method_3_code
def Y_She_find : xM := (⟨"NameRoom$Shelf", "find", "(LNameRoom$Row;I)LNameRoom$Entry;"⟩, b_She_find, 5, (some (.object "NameRoom$Entry")))
abbrev b_She_findOrAdd : ByteArray := prog_7_method_4_code
def Y_She_findOrAdd : xM := (⟨"NameRoom$Shelf", "findOrAdd", "(LNameRoom$Row;I)LNameRoom$Entry;"⟩, b_She_findOrAdd, 5, (some (.object "NameRoom$Entry")))
abbrev b_She_init : ByteArray := prog_7_method_1_code
def Y_She_init : xM := (⟨"NameRoom$Shelf", "<init>", "()V"⟩, b_She_init, 2, none)
abbrev b_She_remove : ByteArray := prog_7_method_5_code
def Y_She_remove : xM := (⟨"NameRoom$Shelf", "remove", "(LNameRoom$Row;I)V"⟩, b_She_remove, 4, none)
abbrev b_She_sweep : ByteArray := prog_7_method_8_code
def Y_She_sweep : xM := (⟨"NameRoom$Shelf", "sweep", "()V"⟩, b_She_sweep, 4, none)
abbrev b_Sig_holds : ByteArray := prog_8_method_2_code
def Y_Sig_holds : xM := (⟨"NameRoom$Sight", "holds", "(LNameRoom$Row;)Z"⟩, b_Sig_holds, 2, (some .boolean))
abbrev b_Sig_init : ByteArray := prog_8_method_1_code
def Y_Sig_init : xM := (⟨"NameRoom$Sight", "<init>", "()V"⟩, b_Sig_init, 1, none)
def xNl : List (String × Nat × MethodName × String) := [("NameRoom$Reader", 95, ⟨"NameRoom", "isSymbolByte", "(I)Z"⟩, "NameRoom"), ("NameRoom$Reader", 89, ⟨"NameRoom", "isDigit", "(I)Z"⟩, "NameRoom"), ("NameRoom$Row", 39, ⟨"NameRoom", "capital", "(I)I"⟩, "NameRoom")]
def xAo : List String := ["NameRoom$Entry", "NameRoom$Sight"]
theorem xNl_ok : ∀ q ∈ xNl, Cond.methodLinkNest q.1 q.2.1 q.2.2.1 q.2.2.2 ∈ lw_tbl := by
  intro q hq
  have h : ∀ q ∈ xNl, Cond.methodLinkNest q.1 q.2.1 q.2.2.1 q.2.2.2 ∈ tables_1 := by decide +kernel
  exact List.mem_append_right _ (h q hq)
theorem xAo_ok : ∀ C ∈ xAo, Cond.arrayOver (.object C) ∈ lw_tbl := by
  intro q hq
  have h : ∀ C ∈ xAo, Cond.arrayOver (.object C) ∈ tables_1 := by decide +kernel
  exact List.mem_append_right _ (h q hq)
