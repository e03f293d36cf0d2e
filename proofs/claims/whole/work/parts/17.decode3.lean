theorem d_Mod_variable_75 : decode b_Mod_variable 75 = .ok (.getfield 78, 3) := by decide +kernel
theorem d_Mod_variable_78 : decode b_Mod_variable 78 = .ok (.iconst 1, 1) := by decide +kernel
theorem d_Mod_variable_79 : decode b_Mod_variable 79 = .ok (.iadd, 1) := by decide +kernel
theorem d_Mod_variable_80 : decode b_Mod_variable 80 = .ok (.putfield 78, 3) := by decide +kernel
theorem d_Mod_variable_83 : decode b_Mod_variable 83 = .ok (.goto (-40), 3) := by decide +kernel
theorem d_Mod_variable_86 : decode b_Mod_variable 86 = .ok (.return_, 1) := by decide +kernel
theorem d_Mod_add_0 : decode b_Mod_add 0 = .ok (.aload_n 0, 1) := by decide +kernel
theorem d_Mod_add_1 : decode b_Mod_add 1 = .ok (.getfield 95, 3) := by decide +kernel
theorem d_Mod_add_4 : decode b_Mod_add 4 = .ok (.sipush 200, 3) := by decide +kernel
theorem d_Mod_add_7 : decode b_Mod_add 7 = .ok (.if_icmp .gt 13, 3) := by decide +kernel
theorem d_Mod_add_10 : decode b_Mod_add 10 = .ok (.aload_n 0, 1) := by decide +kernel
theorem d_Mod_add_11 : decode b_Mod_add 11 = .ok (.getfield 19, 3) := by decide +kernel
theorem d_Mod_add_14 : decode b_Mod_add 14 = .ok (.aload_n 0, 1) := by decide +kernel
theorem d_Mod_add_15 : decode b_Mod_add 15 = .ok (.getfield 95, 3) := by decide +kernel
theorem d_Mod_add_18 : decode b_Mod_add 18 = .ok (.iload_n 1, 1) := by decide +kernel
theorem d_Mod_add_19 : decode b_Mod_add 19 = .ok (.iastore, 1) := by decide +kernel
theorem d_Mod_add_20 : decode b_Mod_add 20 = .ok (.aload_n 0, 1) := by decide +kernel
theorem d_Mod_add_21 : decode b_Mod_add 21 = .ok (.dup, 1) := by decide +kernel
theorem d_Mod_add_22 : decode b_Mod_add 22 = .ok (.getfield 95, 3) := by decide +kernel
theorem d_Mod_add_25 : decode b_Mod_add 25 = .ok (.iconst 1, 1) := by decide +kernel
theorem d_Mod_add_26 : decode b_Mod_add 26 = .ok (.iadd, 1) := by decide +kernel
theorem d_Mod_add_27 : decode b_Mod_add 27 = .ok (.putfield 95, 3) := by decide +kernel
theorem d_Mod_add_30 : decode b_Mod_add 30 = .ok (.return_, 1) := by decide +kernel
theorem d_Mod_poolOf_0 : decode b_Mod_poolOf 0 = .ok (.iload_n 2, 1) := by decide +kernel
theorem d_Mod_poolOf_1 : decode b_Mod_poolOf 1 = .ok (.istore_n 3, 1) := by decide +kernel
theorem d_Mod_poolOf_2 : decode b_Mod_poolOf 2 = .ok (.iconst 1, 1) := by decide +kernel
theorem d_Mod_poolOf_3 : decode b_Mod_poolOf 3 = .ok (.istore 4, 2) := by decide +kernel
theorem d_Mod_poolOf_5 : decode b_Mod_poolOf 5 = .ok (.iload 4, 2) := by decide +kernel
theorem d_Mod_poolOf_7 : decode b_Mod_poolOf 7 = .ok (.ifCond .eq 117, 3) := by decide +kernel
theorem d_Mod_poolOf_10 : decode b_Mod_poolOf 10 = .ok (.iload_n 3, 1) := by decide +kernel
theorem d_Mod_poolOf_11 : decode b_Mod_poolOf 11 = .ok (.ifCond .le 113, 3) := by decide +kernel
theorem d_Mod_poolOf_14 : decode b_Mod_poolOf 14 = .ok (.iconst 0, 1) := by decide +kernel
theorem d_Mod_poolOf_15 : decode b_Mod_poolOf 15 = .ok (.istore 4, 2) := by decide +kernel
theorem d_Mod_poolOf_17 : decode b_Mod_poolOf 17 = .ok (.bipush 12, 2) := by decide +kernel
theorem d_Mod_poolOf_19 : decode b_Mod_poolOf 19 = .ok (.iload_n 3, 1) := by decide +kernel
theorem d_Mod_poolOf_20 : decode b_Mod_poolOf 20 = .ok (.imul, 1) := by decide +kernel
theorem d_Mod_poolOf_21 : decode b_Mod_poolOf 21 = .ok (.istore 5, 2) := by decide +kernel
theorem d_Mod_poolOf_23 : decode b_Mod_poolOf 23 = .ok (.iload 5, 2) := by decide +kernel
theorem d_Mod_poolOf_25 : decode b_Mod_poolOf 25 = .ok (.bipush 12, 2) := by decide +kernel
theorem d_Mod_poolOf_27 : decode b_Mod_poolOf 27 = .ok (.iload_n 3, 1) := by decide +kernel
theorem d_Mod_poolOf_28 : decode b_Mod_poolOf 28 = .ok (.imul, 1) := by decide +kernel
theorem d_Mod_poolOf_29 : decode b_Mod_poolOf 29 = .ok (.aload_n 0, 1) := by decide +kernel
theorem d_Mod_poolOf_30 : decode b_Mod_poolOf 30 = .ok (.getfield 43, 3) := by decide +kernel
theorem d_Mod_poolOf_33 : decode b_Mod_poolOf 33 = .ok (.iload_n 3, 1) := by decide +kernel
theorem d_Mod_poolOf_34 : decode b_Mod_poolOf 34 = .ok (.iaload, 1) := by decide +kernel
theorem d_Mod_poolOf_35 : decode b_Mod_poolOf 35 = .ok (.iadd, 1) := by decide +kernel
theorem d_Mod_poolOf_36 : decode b_Mod_poolOf 36 = .ok (.if_icmp .ge 72, 3) := by decide +kernel
theorem d_Mod_poolOf_39 : decode b_Mod_poolOf 39 = .ok (.iload 4, 2) := by decide +kernel
theorem d_Mod_poolOf_41 : decode b_Mod_poolOf 41 = .ok (.ifCond .ne 67, 3) := by decide +kernel
theorem d_Mod_poolOf_44 : decode b_Mod_poolOf 44 = .ok (.aload_n 0, 1) := by decide +kernel
theorem d_Mod_poolOf_45 : decode b_Mod_poolOf 45 = .ok (.iload 5, 2) := by decide +kernel
theorem d_Mod_poolOf_47 : decode b_Mod_poolOf 47 = .ok (.invokevirtual 98, 3) := by decide +kernel
theorem d_Mod_poolOf_50 : decode b_Mod_poolOf 50 = .ok (.istore 6, 2) := by decide +kernel
theorem d_Mod_poolOf_52 : decode b_Mod_poolOf 52 = .ok (.aload_n 0, 1) := by decide +kernel
theorem d_Mod_poolOf_53 : decode b_Mod_poolOf 53 = .ok (.getfield 40, 3) := by decide +kernel
theorem d_Mod_poolOf_56 : decode b_Mod_poolOf 56 = .ok (.iload 5, 2) := by decide +kernel
theorem d_Mod_poolOf_58 : decode b_Mod_poolOf 58 = .ok (.iaload, 1) := by decide +kernel
theorem d_Mod_poolOf_59 : decode b_Mod_poolOf 59 = .ok (.iload_n 1, 1) := by decide +kernel
theorem d_Mod_poolOf_60 : decode b_Mod_poolOf 60 = .ok (.if_icmp .eq 19, 3) := by decide +kernel
theorem d_Mod_poolOf_63 : decode b_Mod_poolOf 63 = .ok (.iload 6, 2) := by decide +kernel
theorem d_Mod_poolOf_65 : decode b_Mod_poolOf 65 = .ok (.ifCond .eq 34, 3) := by decide +kernel
theorem d_Mod_poolOf_68 : decode b_Mod_poolOf 68 = .ok (.aload_n 0, 1) := by decide +kernel
theorem d_Mod_poolOf_69 : decode b_Mod_poolOf 69 = .ok (.getfield 40, 3) := by decide +kernel
theorem d_Mod_poolOf_72 : decode b_Mod_poolOf 72 = .ok (.iload 5, 2) := by decide +kernel
theorem d_Mod_poolOf_74 : decode b_Mod_poolOf 74 = .ok (.iaload, 1) := by decide +kernel
theorem d_Mod_poolOf_75 : decode b_Mod_poolOf 75 = .ok (.iload_n 1, 1) := by decide +kernel
theorem d_Mod_poolOf_76 : decode b_Mod_poolOf 76 = .ok (.if_icmp .ge 23, 3) := by decide +kernel
theorem d_Mod_poolOf_79 : decode b_Mod_poolOf 79 = .ok (.aload_n 0, 1) := by decide +kernel
theorem d_Mod_poolOf_80 : decode b_Mod_poolOf 80 = .ok (.iload 5, 2) := by decide +kernel
theorem d_Mod_poolOf_82 : decode b_Mod_poolOf 82 = .ok (.aload_n 0, 1) := by decide +kernel
theorem d_Mod_poolOf_83 : decode b_Mod_poolOf 83 = .ok (.getfield 40, 3) := by decide +kernel
theorem d_Mod_poolOf_86 : decode b_Mod_poolOf 86 = .ok (.iload 5, 2) := by decide +kernel
theorem d_Mod_poolOf_88 : decode b_Mod_poolOf 88 = .ok (.iaload, 1) := by decide +kernel
theorem d_Mod_poolOf_89 : decode b_Mod_poolOf 89 = .ok (.invokevirtual 101, 3) := by decide +kernel
theorem d_Mod_poolOf_92 : decode b_Mod_poolOf 92 = .ok (.ifCond .eq 7, 3) := by decide +kernel
theorem d_Mod_poolOf_95 : decode b_Mod_poolOf 95 = .ok (.iconst 1, 1) := by decide +kernel
theorem d_Mod_poolOf_96 : decode b_Mod_poolOf 96 = .ok (.goto 4, 3) := by decide +kernel
theorem d_Mod_poolOf_99 : decode b_Mod_poolOf 99 = .ok (.iconst 0, 1) := by decide +kernel
theorem d_Mod_poolOf_100 : decode b_Mod_poolOf 100 = .ok (.istore 4, 2) := by decide +kernel
theorem d_Mod_poolOf_102 : decode b_Mod_poolOf 102 = .ok (.iinc 5 1, 3) := by decide +kernel
theorem d_Mod_poolOf_105 : decode b_Mod_poolOf 105 = .ok (.goto (-82), 3) := by decide +kernel
theorem d_Mod_poolOf_108 : decode b_Mod_poolOf 108 = .ok (.iload_n 3, 1) := by decide +kernel
theorem d_Mod_poolOf_109 : decode b_Mod_poolOf 109 = .ok (.iload 4, 2) := by decide +kernel
theorem d_Mod_poolOf_111 : decode b_Mod_poolOf 111 = .ok (.ifCond .eq 7, 3) := by decide +kernel
theorem d_Mod_poolOf_114 : decode b_Mod_poolOf 114 = .ok (.iconst 1, 1) := by decide +kernel
theorem d_Mod_poolOf_115 : decode b_Mod_poolOf 115 = .ok (.goto 4, 3) := by decide +kernel
theorem d_Mod_poolOf_118 : decode b_Mod_poolOf 118 = .ok (.iconst 0, 1) := by decide +kernel
theorem d_Mod_poolOf_119 : decode b_Mod_poolOf 119 = .ok (.isub, 1) := by decide +kernel
theorem d_Mod_poolOf_120 : decode b_Mod_poolOf 120 = .ok (.istore_n 3, 1) := by decide +kernel
theorem d_Mod_poolOf_121 : decode b_Mod_poolOf 121 = .ok (.goto (-116), 3) := by decide +kernel
theorem d_Mod_poolOf_124 : decode b_Mod_poolOf 124 = .ok (.iload_n 3, 1) := by decide +kernel
theorem d_Mod_poolOf_125 : decode b_Mod_poolOf 125 = .ok (.ireturn, 1) := by decide +kernel
theorem d_Mod_isAlike_0 : decode b_Mod_isAlike 0 = .ok (.iconst 0, 1) := by decide +kernel
theorem d_Mod_isAlike_1 : decode b_Mod_isAlike 1 = .ok (.istore_n 3, 1) := by decide +kernel
theorem d_Mod_isAlike_2 : decode b_Mod_isAlike 2 = .ok (.iload_n 3, 1) := by decide +kernel
theorem d_Mod_isAlike_3 : decode b_Mod_isAlike 3 = .ok (.iload_n 2, 1) := by decide +kernel
theorem d_Mod_isAlike_4 : decode b_Mod_isAlike 4 = .ok (.if_icmp .ge 32, 3) := by decide +kernel
theorem d_Mod_isAlike_7 : decode b_Mod_isAlike 7 = .ok (.aload_n 0, 1) := by decide +kernel
theorem d_Mod_isAlike_8 : decode b_Mod_isAlike 8 = .ok (.getfield 37, 3) := by decide +kernel
theorem d_Mod_isAlike_11 : decode b_Mod_isAlike 11 = .ok (.sipush 200, 3) := by decide +kernel
theorem d_Mod_isAlike_14 : decode b_Mod_isAlike 14 = .ok (.iload_n 1, 1) := by decide +kernel
theorem d_Mod_isAlike_15 : decode b_Mod_isAlike 15 = .ok (.imul, 1) := by decide +kernel
theorem d_Mod_isAlike_16 : decode b_Mod_isAlike 16 = .ok (.iload_n 3, 1) := by decide +kernel
theorem d_Mod_isAlike_17 : decode b_Mod_isAlike 17 = .ok (.iadd, 1) := by decide +kernel
theorem d_Mod_isAlike_18 : decode b_Mod_isAlike 18 = .ok (.iaload, 1) := by decide +kernel
theorem d_Mod_isAlike_19 : decode b_Mod_isAlike 19 = .ok (.aload_n 0, 1) := by decide +kernel
theorem d_Mod_isAlike_20 : decode b_Mod_isAlike 20 = .ok (.getfield 19, 3) := by decide +kernel
theorem d_Mod_isAlike_23 : decode b_Mod_isAlike 23 = .ok (.iload_n 3, 1) := by decide +kernel
theorem d_Mod_isAlike_24 : decode b_Mod_isAlike 24 = .ok (.iaload, 1) := by decide +kernel
theorem d_Mod_isAlike_25 : decode b_Mod_isAlike 25 = .ok (.if_icmp .eq 5, 3) := by decide +kernel
theorem d_Mod_isAlike_28 : decode b_Mod_isAlike 28 = .ok (.iconst 0, 1) := by decide +kernel
theorem d_Mod_isAlike_29 : decode b_Mod_isAlike 29 = .ok (.ireturn, 1) := by decide +kernel
theorem d_Mod_isAlike_30 : decode b_Mod_isAlike 30 = .ok (.iinc 3 1, 3) := by decide +kernel
theorem d_Mod_isAlike_33 : decode b_Mod_isAlike 33 = .ok (.goto (-31), 3) := by decide +kernel
theorem d_Mod_isAlike_36 : decode b_Mod_isAlike 36 = .ok (.iconst 1, 1) := by decide +kernel
theorem d_Mod_isAlike_37 : decode b_Mod_isAlike 37 = .ok (.ireturn, 1) := by decide +kernel
theorem d_Mod_isStem_0 : decode b_Mod_isStem 0 = .ok (.iconst 0, 1) := by decide +kernel
theorem d_Mod_isStem_1 : decode b_Mod_isStem 1 = .ok (.istore_n 2, 1) := by decide +kernel
theorem d_Mod_isStem_2 : decode b_Mod_isStem 2 = .ok (.iload_n 2, 1) := by decide +kernel
theorem d_Mod_isStem_3 : decode b_Mod_isStem 3 = .ok (.aload_n 0, 1) := by decide +kernel
theorem d_Mod_isStem_4 : decode b_Mod_isStem 4 = .ok (.getfield 40, 3) := by decide +kernel
theorem d_Mod_isStem_7 : decode b_Mod_isStem 7 = .ok (.iload_n 1, 1) := by decide +kernel
theorem d_Mod_isStem_8 : decode b_Mod_isStem 8 = .ok (.iaload, 1) := by decide +kernel
theorem d_Mod_isStem_9 : decode b_Mod_isStem 9 = .ok (.if_icmp .ge 26, 3) := by decide +kernel
theorem d_Mod_isStem_12 : decode b_Mod_isStem 12 = .ok (.aload_n 0, 1) := by decide +kernel
theorem d_Mod_isStem_13 : decode b_Mod_isStem 13 = .ok (.getfield 37, 3) := by decide +kernel
theorem d_Mod_isStem_16 : decode b_Mod_isStem 16 = .ok (.sipush 200, 3) := by decide +kernel
theorem d_Mod_isStem_19 : decode b_Mod_isStem 19 = .ok (.iload_n 1, 1) := by decide +kernel
theorem d_Mod_isStem_20 : decode b_Mod_isStem 20 = .ok (.imul, 1) := by decide +kernel
theorem d_Mod_isStem_21 : decode b_Mod_isStem 21 = .ok (.iload_n 2, 1) := by decide +kernel
theorem d_Mod_isStem_22 : decode b_Mod_isStem 22 = .ok (.iadd, 1) := by decide +kernel
theorem d_Mod_isStem_23 : decode b_Mod_isStem 23 = .ok (.iaload, 1) := by decide +kernel
theorem d_Mod_isStem_24 : decode b_Mod_isStem 24 = .ok (.bipush 46, 2) := by decide +kernel
theorem d_Mod_isStem_26 : decode b_Mod_isStem 26 = .ok (.if_icmp .eq 9, 3) := by decide +kernel
theorem d_Mod_isStem_29 : decode b_Mod_isStem 29 = .ok (.iinc 2 1, 3) := by decide +kernel
theorem d_Mod_isStem_32 : decode b_Mod_isStem 32 = .ok (.goto (-30), 3) := by decide +kernel
theorem d_Mod_isStem_35 : decode b_Mod_isStem 35 = .ok (.iload_n 2, 1) := by decide +kernel
theorem d_Mod_isStem_36 : decode b_Mod_isStem 36 = .ok (.aload_n 0, 1) := by decide +kernel
theorem d_Mod_isStem_37 : decode b_Mod_isStem 37 = .ok (.getfield 40, 3) := by decide +kernel
theorem d_Mod_isStem_40 : decode b_Mod_isStem 40 = .ok (.iload_n 1, 1) := by decide +kernel
theorem d_Mod_isStem_41 : decode b_Mod_isStem 41 = .ok (.iaload, 1) := by decide +kernel
theorem d_Mod_isStem_42 : decode b_Mod_isStem 42 = .ok (.iconst 1, 1) := by decide +kernel
theorem d_Mod_isStem_43 : decode b_Mod_isStem 43 = .ok (.isub, 1) := by decide +kernel
theorem d_Mod_isStem_44 : decode b_Mod_isStem 44 = .ok (.if_icmp .ne 7, 3) := by decide +kernel
theorem d_Mod_isStem_47 : decode b_Mod_isStem 47 = .ok (.iconst 1, 1) := by decide +kernel
theorem d_Mod_isStem_48 : decode b_Mod_isStem 48 = .ok (.goto 4, 3) := by decide +kernel
theorem d_Mod_isStem_51 : decode b_Mod_isStem 51 = .ok (.iconst 0, 1) := by decide +kernel
theorem d_Mod_isStem_52 : decode b_Mod_isStem 52 = .ok (.ireturn, 1) := by decide +kernel
theorem d_Mod_stem_0 : decode b_Mod_stem 0 = .ok (.iconst 0, 1) := by decide +kernel
theorem d_Mod_stem_1 : decode b_Mod_stem 1 = .ok (.istore_n 1, 1) := by decide +kernel
theorem d_Mod_stem_2 : decode b_Mod_stem 2 = .ok (.iload_n 1, 1) := by decide +kernel
theorem d_Mod_stem_3 : decode b_Mod_stem 3 = .ok (.aload_n 0, 1) := by decide +kernel
theorem d_Mod_stem_4 : decode b_Mod_stem 4 = .ok (.getfield 95, 3) := by decide +kernel
theorem d_Mod_stem_7 : decode b_Mod_stem 7 = .ok (.if_icmp .ge 20, 3) := by decide +kernel
theorem d_Mod_stem_10 : decode b_Mod_stem 10 = .ok (.aload_n 0, 1) := by decide +kernel
theorem d_Mod_stem_11 : decode b_Mod_stem 11 = .ok (.getfield 19, 3) := by decide +kernel
theorem d_Mod_stem_14 : decode b_Mod_stem 14 = .ok (.iload_n 1, 1) := by decide +kernel
theorem d_Mod_stem_15 : decode b_Mod_stem 15 = .ok (.iaload, 1) := by decide +kernel
theorem d_Mod_stem_16 : decode b_Mod_stem 16 = .ok (.bipush 46, 2) := by decide +kernel
theorem d_Mod_stem_18 : decode b_Mod_stem 18 = .ok (.if_icmp .eq 9, 3) := by decide +kernel
theorem d_Mod_stem_21 : decode b_Mod_stem 21 = .ok (.iinc 1 1, 3) := by decide +kernel
theorem d_Mod_stem_24 : decode b_Mod_stem 24 = .ok (.goto (-22), 3) := by decide +kernel
theorem d_Mod_stem_27 : decode b_Mod_stem 27 = .ok (.iload_n 1, 1) := by decide +kernel
theorem d_Mod_stem_28 : decode b_Mod_stem 28 = .ok (.aload_n 0, 1) := by decide +kernel
theorem d_Mod_stem_29 : decode b_Mod_stem 29 = .ok (.getfield 95, 3) := by decide +kernel
theorem d_Mod_stem_32 : decode b_Mod_stem 32 = .ok (.if_icmp .ge 9, 3) := by decide +kernel
theorem d_Mod_stem_35 : decode b_Mod_stem 35 = .ok (.iload_n 1, 1) := by decide +kernel
theorem d_Mod_stem_36 : decode b_Mod_stem 36 = .ok (.iconst 1, 1) := by decide +kernel
theorem d_Mod_stem_37 : decode b_Mod_stem 37 = .ok (.iadd, 1) := by decide +kernel
theorem d_Mod_stem_38 : decode b_Mod_stem 38 = .ok (.goto 4, 3) := by decide +kernel
theorem d_Mod_stem_41 : decode b_Mod_stem 41 = .ok (.iconst 0, 1) := by decide +kernel
theorem d_Mod_stem_42 : decode b_Mod_stem 42 = .ok (.ireturn, 1) := by decide +kernel
theorem d_Mod_entry_0 : decode b_Mod_entry 0 = .ok (.iconst 0, 1) := by decide +kernel
theorem d_Mod_entry_1 : decode b_Mod_entry 1 = .ok (.istore_n 3, 1) := by decide +kernel
theorem d_Mod_entry_2 : decode b_Mod_entry 2 = .ok (.iload_n 3, 1) := by decide +kernel
theorem d_Mod_entry_3 : decode b_Mod_entry 3 = .ok (.aload_n 0, 1) := by decide +kernel
theorem d_Mod_entry_4 : decode b_Mod_entry 4 = .ok (.getfield 105, 3) := by decide +kernel
theorem d_Mod_entry_7 : decode b_Mod_entry 7 = .ok (.if_icmp .ge 93, 3) := by decide +kernel
theorem d_Mod_entry_10 : decode b_Mod_entry 10 = .ok (.aload_n 0, 1) := by decide +kernel
theorem d_Mod_entry_11 : decode b_Mod_entry 11 = .ok (.getfield 34, 3) := by decide +kernel
theorem d_Mod_entry_14 : decode b_Mod_entry 14 = .ok (.iload_n 3, 1) := by decide +kernel
theorem d_Mod_entry_15 : decode b_Mod_entry 15 = .ok (.iaload, 1) := by decide +kernel
theorem d_Mod_entry_16 : decode b_Mod_entry 16 = .ok (.iload_n 1, 1) := by decide +kernel
theorem d_Mod_entry_17 : decode b_Mod_entry 17 = .ok (.if_icmp .ne 17, 3) := by decide +kernel
theorem d_Mod_entry_20 : decode b_Mod_entry 20 = .ok (.aload_n 0, 1) := by decide +kernel
theorem d_Mod_entry_21 : decode b_Mod_entry 21 = .ok (.getfield 25, 3) := by decide +kernel
theorem d_Mod_entry_24 : decode b_Mod_entry 24 = .ok (.iload_n 3, 1) := by decide +kernel
theorem d_Mod_entry_25 : decode b_Mod_entry 25 = .ok (.iaload, 1) := by decide +kernel
theorem d_Mod_entry_26 : decode b_Mod_entry 26 = .ok (.iload_n 2, 1) := by decide +kernel
theorem d_Mod_entry_27 : decode b_Mod_entry 27 = .ok (.if_icmp .ne 7, 3) := by decide +kernel
theorem d_Mod_entry_30 : decode b_Mod_entry 30 = .ok (.iconst 1, 1) := by decide +kernel
theorem d_Mod_entry_31 : decode b_Mod_entry 31 = .ok (.goto 4, 3) := by decide +kernel
theorem d_Mod_entry_34 : decode b_Mod_entry 34 = .ok (.iconst 0, 1) := by decide +kernel
theorem d_Mod_entry_35 : decode b_Mod_entry 35 = .ok (.istore 4, 2) := by decide +kernel
theorem d_Mod_entry_37 : decode b_Mod_entry 37 = .ok (.iconst 0, 1) := by decide +kernel
theorem d_Mod_entry_38 : decode b_Mod_entry 38 = .ok (.istore 5, 2) := by decide +kernel
theorem d_Mod_entry_40 : decode b_Mod_entry 40 = .ok (.iload 5, 2) := by decide +kernel
theorem d_Mod_entry_42 : decode b_Mod_entry 42 = .ok (.iload_n 2, 1) := by decide +kernel
theorem d_Mod_entry_43 : decode b_Mod_entry 43 = .ok (.if_icmp .ge 44, 3) := by decide +kernel
theorem d_Mod_entry_46 : decode b_Mod_entry 46 = .ok (.iload 4, 2) := by decide +kernel
theorem d_Mod_entry_48 : decode b_Mod_entry 48 = .ok (.ifCond .eq 39, 3) := by decide +kernel
theorem d_Mod_entry_51 : decode b_Mod_entry 51 = .ok (.aload_n 0, 1) := by decide +kernel
theorem d_Mod_entry_52 : decode b_Mod_entry 52 = .ok (.getfield 22, 3) := by decide +kernel
theorem d_Mod_entry_55 : decode b_Mod_entry 55 = .ok (.sipush 200, 3) := by decide +kernel
theorem d_Mod_entry_58 : decode b_Mod_entry 58 = .ok (.iload_n 3, 1) := by decide +kernel
theorem d_Mod_entry_59 : decode b_Mod_entry 59 = .ok (.imul, 1) := by decide +kernel
theorem d_Mod_entry_60 : decode b_Mod_entry 60 = .ok (.iload 5, 2) := by decide +kernel
theorem d_Mod_entry_62 : decode b_Mod_entry 62 = .ok (.iadd, 1) := by decide +kernel
theorem d_Mod_entry_63 : decode b_Mod_entry 63 = .ok (.iaload, 1) := by decide +kernel
theorem d_Mod_entry_64 : decode b_Mod_entry 64 = .ok (.aload_n 0, 1) := by decide +kernel
theorem d_Mod_entry_65 : decode b_Mod_entry 65 = .ok (.getfield 19, 3) := by decide +kernel
theorem d_Mod_entry_68 : decode b_Mod_entry 68 = .ok (.iload 5, 2) := by decide +kernel
theorem d_Mod_entry_70 : decode b_Mod_entry 70 = .ok (.iaload, 1) := by decide +kernel
theorem d_Mod_entry_71 : decode b_Mod_entry 71 = .ok (.if_icmp .ne 7, 3) := by decide +kernel
theorem d_Mod_entry_74 : decode b_Mod_entry 74 = .ok (.iconst 1, 1) := by decide +kernel
theorem d_Mod_entry_75 : decode b_Mod_entry 75 = .ok (.goto 4, 3) := by decide +kernel
theorem d_Mod_entry_78 : decode b_Mod_entry 78 = .ok (.iconst 0, 1) := by decide +kernel
theorem d_Mod_entry_79 : decode b_Mod_entry 79 = .ok (.istore 4, 2) := by decide +kernel
theorem d_Mod_entry_81 : decode b_Mod_entry 81 = .ok (.iinc 5 1, 3) := by decide +kernel
theorem d_Mod_entry_84 : decode b_Mod_entry 84 = .ok (.goto (-44), 3) := by decide +kernel
theorem d_Mod_entry_87 : decode b_Mod_entry 87 = .ok (.iload 4, 2) := by decide +kernel
theorem d_Mod_entry_89 : decode b_Mod_entry 89 = .ok (.ifCond .eq 5, 3) := by decide +kernel
theorem d_Mod_entry_92 : decode b_Mod_entry 92 = .ok (.iload_n 3, 1) := by decide +kernel
theorem d_Mod_entry_93 : decode b_Mod_entry 93 = .ok (.ireturn, 1) := by decide +kernel
theorem d_Mod_entry_94 : decode b_Mod_entry 94 = .ok (.iinc 3 1, 3) := by decide +kernel
theorem d_Mod_entry_97 : decode b_Mod_entry 97 = .ok (.goto (-95), 3) := by decide +kernel
theorem d_Mod_entry_100 : decode b_Mod_entry 100 = .ok (.iconst (-1), 1) := by decide +kernel
theorem d_Mod_entry_101 : decode b_Mod_entry 101 = .ok (.ireturn, 1) := by decide +kernel
theorem d_Mod_tells_0 : decode b_Mod_tells 0 = .ok (.aload_n 0, 1) := by decide +kernel
theorem d_Mod_tells_1 : decode b_Mod_tells 1 = .ok (.aload_n 0, 1) := by decide +kernel
theorem d_Mod_tells_2 : decode b_Mod_tells 2 = .ok (.getfield 95, 3) := by decide +kernel
theorem d_Mod_tells_5 : decode b_Mod_tells 5 = .ok (.aload_n 0, 1) := by decide +kernel
theorem d_Mod_tells_6 : decode b_Mod_tells 6 = .ok (.getfield 108, 3) := by decide +kernel
theorem d_Mod_tells_9 : decode b_Mod_tells 9 = .ok (.invokevirtual 111, 3) := by decide +kernel
theorem d_Mod_tells_12 : decode b_Mod_tells 12 = .ok (.istore_n 1, 1) := by decide +kernel
theorem d_Mod_tells_13 : decode b_Mod_tells 13 = .ok (.aload_n 0, 1) := by decide +kernel
theorem d_Mod_tells_14 : decode b_Mod_tells 14 = .ok (.iload_n 1, 1) := by decide +kernel
theorem d_Mod_tells_15 : decode b_Mod_tells 15 = .ok (.aload_n 0, 1) := by decide +kernel
theorem d_Mod_tells_16 : decode b_Mod_tells 16 = .ok (.getfield 95, 3) := by decide +kernel
theorem d_Mod_tells_19 : decode b_Mod_tells 19 = .ok (.invokevirtual 115, 3) := by decide +kernel
theorem d_Mod_tells_22 : decode b_Mod_tells 22 = .ok (.istore_n 2, 1) := by decide +kernel
theorem d_Mod_tells_23 : decode b_Mod_tells 23 = .ok (.iload_n 2, 1) := by decide +kernel
theorem d_Mod_tells_24 : decode b_Mod_tells 24 = .ok (.iconst (-1), 1) := by decide +kernel
theorem d_Mod_tells_25 : decode b_Mod_tells 25 = .ok (.if_icmp .eq 18, 3) := by decide +kernel
theorem d_Mod_tells_28 : decode b_Mod_tells 28 = .ok (.aload_n 0, 1) := by decide +kernel
theorem d_Mod_tells_29 : decode b_Mod_tells 29 = .ok (.getfield 31, 3) := by decide +kernel
theorem d_Mod_tells_32 : decode b_Mod_tells 32 = .ok (.iload_n 2, 1) := by decide +kernel
theorem d_Mod_tells_33 : decode b_Mod_tells 33 = .ok (.iaload, 1) := by decide +kernel
theorem d_Mod_tells_34 : decode b_Mod_tells 34 = .ok (.ifCond .ge 7, 3) := by decide +kernel
theorem d_Mod_tells_37 : decode b_Mod_tells 37 = .ok (.iconst (-1), 1) := by decide +kernel
theorem d_Mod_tells_38 : decode b_Mod_tells 38 = .ok (.goto 4, 3) := by decide +kernel
theorem d_Mod_tells_41 : decode b_Mod_tells 41 = .ok (.iload_n 2, 1) := by decide +kernel
theorem d_Mod_tells_42 : decode b_Mod_tells 42 = .ok (.ireturn, 1) := by decide +kernel
theorem d_Mod_tells_43 : decode b_Mod_tells 43 = .ok (.aload_n 0, 1) := by decide +kernel
theorem d_Mod_tells_44 : decode b_Mod_tells 44 = .ok (.invokevirtual 118, 3) := by decide +kernel
theorem d_Mod_tells_47 : decode b_Mod_tells 47 = .ok (.istore_n 3, 1) := by decide +kernel
theorem d_Mod_tells_48 : decode b_Mod_tells 48 = .ok (.iload_n 3, 1) := by decide +kernel
theorem d_Mod_tells_49 : decode b_Mod_tells 49 = .ok (.ifCond .eq 11, 3) := by decide +kernel
theorem d_Mod_tells_52 : decode b_Mod_tells 52 = .ok (.iload_n 3, 1) := by decide +kernel
theorem d_Mod_tells_53 : decode b_Mod_tells 53 = .ok (.aload_n 0, 1) := by decide +kernel
theorem d_Mod_tells_54 : decode b_Mod_tells 54 = .ok (.getfield 95, 3) := by decide +kernel
theorem d_Mod_tells_57 : decode b_Mod_tells 57 = .ok (.if_icmp .ne 5, 3) := by decide +kernel
theorem d_Mod_tells_60 : decode b_Mod_tells 60 = .ok (.iconst (-1), 1) := by decide +kernel
theorem d_Mod_tells_61 : decode b_Mod_tells 61 = .ok (.ireturn, 1) := by decide +kernel
theorem d_Mod_tells_62 : decode b_Mod_tells 62 = .ok (.aload_n 0, 1) := by decide +kernel
theorem d_Mod_tells_63 : decode b_Mod_tells 63 = .ok (.aload_n 0, 1) := by decide +kernel
theorem d_Mod_tells_64 : decode b_Mod_tells 64 = .ok (.iload_n 3, 1) := by decide +kernel
theorem d_Mod_tells_65 : decode b_Mod_tells 65 = .ok (.iload_n 1, 1) := by decide +kernel
theorem d_Mod_tells_66 : decode b_Mod_tells 66 = .ok (.invokevirtual 111, 3) := by decide +kernel
theorem d_Mod_tells_69 : decode b_Mod_tells 69 = .ok (.iload_n 3, 1) := by decide +kernel
theorem d_Mod_tells_70 : decode b_Mod_tells 70 = .ok (.invokevirtual 115, 3) := by decide +kernel
theorem d_Mod_tells_73 : decode b_Mod_tells 73 = .ok (.istore_n 2, 1) := by decide +kernel
theorem d_Mod_tells_74 : decode b_Mod_tells 74 = .ok (.iload_n 2, 1) := by decide +kernel
theorem d_Mod_tells_75 : decode b_Mod_tells 75 = .ok (.iconst (-1), 1) := by decide +kernel
theorem d_Mod_tells_76 : decode b_Mod_tells 76 = .ok (.if_icmp .eq 12, 3) := by decide +kernel
theorem d_Mod_tells_79 : decode b_Mod_tells 79 = .ok (.aload_n 0, 1) := by decide +kernel
theorem d_Mod_tells_80 : decode b_Mod_tells 80 = .ok (.getfield 31, 3) := by decide +kernel
theorem d_Mod_tells_83 : decode b_Mod_tells 83 = .ok (.iload_n 2, 1) := by decide +kernel
theorem d_Mod_tells_84 : decode b_Mod_tells 84 = .ok (.iaload, 1) := by decide +kernel
theorem d_Mod_tells_85 : decode b_Mod_tells 85 = .ok (.ifCond .ge 7, 3) := by decide +kernel
theorem d_Mod_tells_88 : decode b_Mod_tells 88 = .ok (.iconst (-1), 1) := by decide +kernel
theorem d_Mod_tells_89 : decode b_Mod_tells 89 = .ok (.goto 4, 3) := by decide +kernel
theorem d_Mod_tells_92 : decode b_Mod_tells 92 = .ok (.iload_n 2, 1) := by decide +kernel
theorem d_Mod_tells_93 : decode b_Mod_tells 93 = .ok (.ireturn, 1) := by decide +kernel
theorem d_Mod_told_0 : decode b_Mod_told 0 = .ok (.aload_n 0, 1) := by decide +kernel
theorem d_Mod_told_1 : decode b_Mod_told 1 = .ok (.iconst 0, 1) := by decide +kernel
theorem d_Mod_told_2 : decode b_Mod_told 2 = .ok (.putfield 95, 3) := by decide +kernel
theorem d_Mod_told_5 : decode b_Mod_told 5 = .ok (.iload_n 1, 1) := by decide +kernel
theorem d_Mod_told_6 : decode b_Mod_told 6 = .ok (.istore_n 3, 1) := by decide +kernel
theorem d_Mod_told_7 : decode b_Mod_told 7 = .ok (.iload_n 3, 1) := by decide +kernel
theorem d_Mod_told_8 : decode b_Mod_told 8 = .ok (.iload_n 2, 1) := by decide +kernel
theorem d_Mod_told_9 : decode b_Mod_told 9 = .ok (.if_icmp .ge 22, 3) := by decide +kernel
theorem d_Mod_told_12 : decode b_Mod_told 12 = .ok (.aload_n 0, 1) := by decide +kernel
theorem d_Mod_told_13 : decode b_Mod_told 13 = .ok (.aload_n 0, 1) := by decide +kernel
theorem d_Mod_told_14 : decode b_Mod_told 14 = .ok (.getfield 13, 3) := by decide +kernel
theorem d_Mod_told_17 : decode b_Mod_told 17 = .ok (.iload_n 3, 1) := by decide +kernel
theorem d_Mod_told_18 : decode b_Mod_told 18 = .ok (.iaload, 1) := by decide +kernel
theorem d_Mod_told_19 : decode b_Mod_told 19 = .ok (.invokestatic 121, 3) := by decide +kernel
theorem d_Mod_told_22 : decode b_Mod_told 22 = .ok (.invokevirtual 125, 3) := by decide +kernel
theorem d_Mod_told_25 : decode b_Mod_told 25 = .ok (.iinc 3 1, 3) := by decide +kernel
theorem d_Mod_told_28 : decode b_Mod_told 28 = .ok (.goto (-21), 3) := by decide +kernel
theorem d_Mod_told_31 : decode b_Mod_told 31 = .ok (.aload_n 0, 1) := by decide +kernel
theorem d_Mod_told_32 : decode b_Mod_told 32 = .ok (.invokevirtual 128, 3) := by decide +kernel
theorem d_Mod_told_35 : decode b_Mod_told 35 = .ok (.ireturn, 1) := by decide +kernel
theorem d_Mod_nameOf_0 : decode b_Mod_nameOf 0 = .ok (.iconst 0, 1) := by decide +kernel
theorem d_Mod_nameOf_1 : decode b_Mod_nameOf 1 = .ok (.istore_n 3, 1) := by decide +kernel
theorem d_Mod_nameOf_2 : decode b_Mod_nameOf 2 = .ok (.iload_n 1, 1) := by decide +kernel
theorem d_Mod_nameOf_3 : decode b_Mod_nameOf 3 = .ok (.istore 4, 2) := by decide +kernel
theorem d_Mod_nameOf_5 : decode b_Mod_nameOf 5 = .ok (.iload 4, 2) := by decide +kernel
theorem d_Mod_nameOf_7 : decode b_Mod_nameOf 7 = .ok (.iload_n 2, 1) := by decide +kernel
theorem d_Mod_nameOf_8 : decode b_Mod_nameOf 8 = .ok (.if_icmp .ge 21, 3) := by decide +kernel
theorem d_Mod_nameOf_11 : decode b_Mod_nameOf 11 = .ok (.aload_n 0, 1) := by decide +kernel
theorem d_Mod_nameOf_12 : decode b_Mod_nameOf 12 = .ok (.getfield 13, 3) := by decide +kernel
theorem d_Mod_nameOf_15 : decode b_Mod_nameOf 15 = .ok (.iload 4, 2) := by decide +kernel
theorem d_Mod_nameOf_17 : decode b_Mod_nameOf 17 = .ok (.iaload, 1) := by decide +kernel
theorem d_Mod_nameOf_18 : decode b_Mod_nameOf 18 = .ok (.bipush 46, 2) := by decide +kernel
theorem d_Mod_nameOf_20 : decode b_Mod_nameOf 20 = .ok (.if_icmp .eq 9, 3) := by decide +kernel
theorem d_Mod_nameOf_23 : decode b_Mod_nameOf 23 = .ok (.iinc 4 1, 3) := by decide +kernel
theorem d_Mod_nameOf_26 : decode b_Mod_nameOf 26 = .ok (.goto (-21), 3) := by decide +kernel
theorem d_Mod_nameOf_29 : decode b_Mod_nameOf 29 = .ok (.iload 4, 2) := by decide +kernel
theorem d_Mod_nameOf_31 : decode b_Mod_nameOf 31 = .ok (.iload 4, 2) := by decide +kernel
theorem d_Mod_nameOf_33 : decode b_Mod_nameOf 33 = .ok (.iload_n 2, 1) := by decide +kernel
theorem d_Mod_nameOf_34 : decode b_Mod_nameOf 34 = .ok (.if_icmp .ge 7, 3) := by decide +kernel
theorem d_Mod_nameOf_37 : decode b_Mod_nameOf 37 = .ok (.iconst 1, 1) := by decide +kernel
theorem d_Mod_nameOf_38 : decode b_Mod_nameOf 38 = .ok (.goto 4, 3) := by decide +kernel
theorem d_Mod_nameOf_41 : decode b_Mod_nameOf 41 = .ok (.iconst 0, 1) := by decide +kernel
theorem d_Mod_nameOf_42 : decode b_Mod_nameOf 42 = .ok (.iadd, 1) := by decide +kernel
theorem d_Mod_nameOf_43 : decode b_Mod_nameOf 43 = .ok (.istore 4, 2) := by decide +kernel
theorem d_Mod_nameOf_45 : decode b_Mod_nameOf 45 = .ok (.iload_n 1, 1) := by decide +kernel
theorem d_Mod_nameOf_46 : decode b_Mod_nameOf 46 = .ok (.istore 5, 2) := by decide +kernel
theorem d_Mod_nameOf_48 : decode b_Mod_nameOf 48 = .ok (.iload 5, 2) := by decide +kernel
theorem d_Mod_nameOf_50 : decode b_Mod_nameOf 50 = .ok (.iload 4, 2) := by decide +kernel
theorem d_Mod_nameOf_52 : decode b_Mod_nameOf 52 = .ok (.if_icmp .ge 28, 3) := by decide +kernel
theorem d_Mod_nameOf_55 : decode b_Mod_nameOf 55 = .ok (.aload_n 0, 1) := by decide +kernel
theorem d_Mod_nameOf_56 : decode b_Mod_nameOf 56 = .ok (.getfield 59, 3) := by decide +kernel
theorem d_Mod_nameOf_59 : decode b_Mod_nameOf 59 = .ok (.iload_n 3, 1) := by decide +kernel
theorem d_Mod_nameOf_60 : decode b_Mod_nameOf 60 = .ok (.aload_n 0, 1) := by decide +kernel
theorem d_Mod_nameOf_61 : decode b_Mod_nameOf 61 = .ok (.getfield 13, 3) := by decide +kernel
theorem d_Mod_nameOf_64 : decode b_Mod_nameOf 64 = .ok (.iload 5, 2) := by decide +kernel
theorem d_Mod_nameOf_66 : decode b_Mod_nameOf 66 = .ok (.iaload, 1) := by decide +kernel
theorem d_Mod_nameOf_67 : decode b_Mod_nameOf 67 = .ok (.invokestatic 121, 3) := by decide +kernel
theorem d_Mod_nameOf_70 : decode b_Mod_nameOf 70 = .ok (.iastore, 1) := by decide +kernel
theorem d_Mod_nameOf_71 : decode b_Mod_nameOf 71 = .ok (.iinc 3 1, 3) := by decide +kernel
theorem d_Mod_nameOf_74 : decode b_Mod_nameOf 74 = .ok (.iinc 5 1, 3) := by decide +kernel
theorem d_Mod_nameOf_77 : decode b_Mod_nameOf 77 = .ok (.goto (-29), 3) := by decide +kernel
theorem d_Mod_nameOf_80 : decode b_Mod_nameOf 80 = .ok (.iconst 1, 1) := by decide +kernel
theorem d_Mod_nameOf_81 : decode b_Mod_nameOf 81 = .ok (.istore 5, 2) := by decide +kernel
theorem d_Mod_nameOf_83 : decode b_Mod_nameOf 83 = .ok (.iload 4, 2) := by decide +kernel
theorem d_Mod_nameOf_85 : decode b_Mod_nameOf 85 = .ok (.iload_n 2, 1) := by decide +kernel
theorem d_Mod_nameOf_86 : decode b_Mod_nameOf 86 = .ok (.if_icmp .gt 234, 3) := by decide +kernel
theorem d_Mod_nameOf_89 : decode b_Mod_nameOf 89 = .ok (.iload 4, 2) := by decide +kernel
theorem d_Mod_nameOf_91 : decode b_Mod_nameOf 91 = .ok (.iload_n 1, 1) := by decide +kernel
theorem d_Mod_nameOf_92 : decode b_Mod_nameOf 92 = .ok (.if_icmp .le 228, 3) := by decide +kernel
theorem d_Mod_nameOf_95 : decode b_Mod_nameOf 95 = .ok (.aload_n 0, 1) := by decide +kernel
theorem d_Mod_nameOf_96 : decode b_Mod_nameOf 96 = .ok (.getfield 13, 3) := by decide +kernel
theorem d_Mod_nameOf_99 : decode b_Mod_nameOf 99 = .ok (.iload 4, 2) := by decide +kernel
theorem d_Mod_nameOf_101 : decode b_Mod_nameOf 101 = .ok (.iconst 1, 1) := by decide +kernel
theorem d_Mod_nameOf_102 : decode b_Mod_nameOf 102 = .ok (.isub, 1) := by decide +kernel
theorem d_Mod_nameOf_103 : decode b_Mod_nameOf 103 = .ok (.iaload, 1) := by decide +kernel
theorem d_Mod_nameOf_104 : decode b_Mod_nameOf 104 = .ok (.bipush 46, 2) := by decide +kernel
theorem d_Mod_nameOf_106 : decode b_Mod_nameOf 106 = .ok (.if_icmp .ne 214, 3) := by decide +kernel
theorem d_Mod_nameOf_109 : decode b_Mod_nameOf 109 = .ok (.iload 4, 2) := by decide +kernel
theorem d_Mod_nameOf_111 : decode b_Mod_nameOf 111 = .ok (.iload_n 2, 1) := by decide +kernel
theorem d_Mod_nameOf_112 : decode b_Mod_nameOf 112 = .ok (.if_icmp .lt 8, 3) := by decide +kernel
theorem d_Mod_nameOf_115 : decode b_Mod_nameOf 115 = .ok (.iload 5, 2) := by decide +kernel
theorem d_Mod_nameOf_117 : decode b_Mod_nameOf 117 = .ok (.ifCond .ne 203, 3) := by decide +kernel
theorem d_Mod_nameOf_120 : decode b_Mod_nameOf 120 = .ok (.iload 4, 2) := by decide +kernel
theorem d_Mod_nameOf_122 : decode b_Mod_nameOf 122 = .ok (.istore 6, 2) := by decide +kernel
theorem d_Mod_nameOf_124 : decode b_Mod_nameOf 124 = .ok (.iload 6, 2) := by decide +kernel
theorem d_Mod_nameOf_126 : decode b_Mod_nameOf 126 = .ok (.iload_n 2, 1) := by decide +kernel
theorem d_Mod_nameOf_127 : decode b_Mod_nameOf 127 = .ok (.if_icmp .ge 21, 3) := by decide +kernel
theorem d_Mod_nameOf_130 : decode b_Mod_nameOf 130 = .ok (.aload_n 0, 1) := by decide +kernel
theorem d_Mod_nameOf_131 : decode b_Mod_nameOf 131 = .ok (.getfield 13, 3) := by decide +kernel
theorem d_Mod_nameOf_134 : decode b_Mod_nameOf 134 = .ok (.iload 6, 2) := by decide +kernel
theorem d_Mod_nameOf_136 : decode b_Mod_nameOf 136 = .ok (.iaload, 1) := by decide +kernel
theorem d_Mod_nameOf_137 : decode b_Mod_nameOf 137 = .ok (.bipush 46, 2) := by decide +kernel
theorem d_Mod_nameOf_139 : decode b_Mod_nameOf 139 = .ok (.if_icmp .eq 9, 3) := by decide +kernel
theorem d_Mod_nameOf_142 : decode b_Mod_nameOf 142 = .ok (.iinc 6 1, 3) := by decide +kernel
theorem d_Mod_nameOf_145 : decode b_Mod_nameOf 145 = .ok (.goto (-21), 3) := by decide +kernel
theorem d_Mod_nameOf_148 : decode b_Mod_nameOf 148 = .ok (.iload 4, 2) := by decide +kernel
theorem d_Mod_nameOf_150 : decode b_Mod_nameOf 150 = .ok (.iload 6, 2) := by decide +kernel
theorem d_Mod_nameOf_152 : decode b_Mod_nameOf 152 = .ok (.if_icmp .ge 27, 3) := by decide +kernel
theorem d_Mod_nameOf_155 : decode b_Mod_nameOf 155 = .ok (.aload_n 0, 1) := by decide +kernel
theorem d_Mod_nameOf_156 : decode b_Mod_nameOf 156 = .ok (.getfield 13, 3) := by decide +kernel
theorem d_Mod_nameOf_159 : decode b_Mod_nameOf 159 = .ok (.iload 4, 2) := by decide +kernel
theorem d_Mod_nameOf_161 : decode b_Mod_nameOf 161 = .ok (.iaload, 1) := by decide +kernel
theorem d_Mod_nameOf_162 : decode b_Mod_nameOf 162 = .ok (.invokestatic 81, 3) := by decide +kernel
theorem d_Mod_nameOf_165 : decode b_Mod_nameOf 165 = .ok (.ifCond .ne 14, 3) := by decide +kernel
theorem d_Mod_nameOf_168 : decode b_Mod_nameOf 168 = .ok (.aload_n 0, 1) := by decide +kernel
theorem d_Mod_nameOf_169 : decode b_Mod_nameOf 169 = .ok (.iload 4, 2) := by decide +kernel
theorem d_Mod_nameOf_171 : decode b_Mod_nameOf 171 = .ok (.iload 6, 2) := by decide +kernel
theorem d_Mod_nameOf_173 : decode b_Mod_nameOf 173 = .ok (.invokevirtual 131, 3) := by decide +kernel
theorem d_Mod_nameOf_176 : decode b_Mod_nameOf 176 = .ok (.goto 4, 3) := by decide +kernel
theorem d_Mod_nameOf_179 : decode b_Mod_nameOf 179 = .ok (.iconst (-1), 1) := by decide +kernel
theorem d_Mod_nameOf_180 : decode b_Mod_nameOf 180 = .ok (.istore 7, 2) := by decide +kernel
theorem d_Mod_nameOf_182 : decode b_Mod_nameOf 182 = .ok (.iload 7, 2) := by decide +kernel
theorem d_Mod_nameOf_184 : decode b_Mod_nameOf 184 = .ok (.iconst (-1), 1) := by decide +kernel
theorem d_Mod_nameOf_185 : decode b_Mod_nameOf 185 = .ok (.if_icmp .ne 11, 3) := by decide +kernel
theorem d_Mod_nameOf_188 : decode b_Mod_nameOf 188 = .ok (.iload 6, 2) := by decide +kernel
theorem d_Mod_nameOf_190 : decode b_Mod_nameOf 190 = .ok (.iload 4, 2) := by decide +kernel
theorem d_Mod_nameOf_192 : decode b_Mod_nameOf 192 = .ok (.isub, 1) := by decide +kernel
theorem d_Mod_nameOf_193 : decode b_Mod_nameOf 193 = .ok (.goto 10, 3) := by decide +kernel
theorem d_Mod_nameOf_196 : decode b_Mod_nameOf 196 = .ok (.aload_n 0, 1) := by decide +kernel
theorem d_Mod_nameOf_197 : decode b_Mod_nameOf 197 = .ok (.getfield 31, 3) := by decide +kernel
theorem d_Mod_nameOf_200 : decode b_Mod_nameOf 200 = .ok (.iload 7, 2) := by decide +kernel
theorem d_Mod_nameOf_202 : decode b_Mod_nameOf 202 = .ok (.iaload, 1) := by decide +kernel
theorem d_Mod_nameOf_203 : decode b_Mod_nameOf 203 = .ok (.istore 8, 2) := by decide +kernel
theorem d_Mod_nameOf_205 : decode b_Mod_nameOf 205 = .ok (.iconst 0, 1) := by decide +kernel
theorem d_Mod_nameOf_206 : decode b_Mod_nameOf 206 = .ok (.istore 9, 2) := by decide +kernel
theorem d_Mod_nameOf_208 : decode b_Mod_nameOf 208 = .ok (.iload 9, 2) := by decide +kernel
theorem d_Mod_nameOf_210 : decode b_Mod_nameOf 210 = .ok (.iload 8, 2) := by decide +kernel
theorem d_Mod_nameOf_212 : decode b_Mod_nameOf 212 = .ok (.if_icmp .ge 61, 3) := by decide +kernel
theorem d_Mod_nameOf_215 : decode b_Mod_nameOf 215 = .ok (.iload_n 3, 1) := by decide +kernel
theorem d_Mod_nameOf_216 : decode b_Mod_nameOf 216 = .ok (.sipush 200, 3) := by decide +kernel
theorem d_Mod_nameOf_219 : decode b_Mod_nameOf 219 = .ok (.if_icmp .gt 54, 3) := by decide +kernel
theorem d_Mod_nameOf_222 : decode b_Mod_nameOf 222 = .ok (.aload_n 0, 1) := by decide +kernel
theorem d_Mod_nameOf_223 : decode b_Mod_nameOf 223 = .ok (.getfield 59, 3) := by decide +kernel
theorem d_Mod_nameOf_226 : decode b_Mod_nameOf 226 = .ok (.iload_n 3, 1) := by decide +kernel
theorem d_Mod_nameOf_227 : decode b_Mod_nameOf 227 = .ok (.iload 7, 2) := by decide +kernel
theorem d_Mod_nameOf_229 : decode b_Mod_nameOf 229 = .ok (.iconst (-1), 1) := by decide +kernel
theorem d_Mod_nameOf_230 : decode b_Mod_nameOf 230 = .ok (.if_icmp .ne 19, 3) := by decide +kernel
theorem d_Mod_nameOf_233 : decode b_Mod_nameOf 233 = .ok (.aload_n 0, 1) := by decide +kernel
theorem d_Mod_nameOf_234 : decode b_Mod_nameOf 234 = .ok (.getfield 13, 3) := by decide +kernel
theorem d_Mod_nameOf_237 : decode b_Mod_nameOf 237 = .ok (.iload 4, 2) := by decide +kernel
theorem d_Mod_nameOf_239 : decode b_Mod_nameOf 239 = .ok (.iload 9, 2) := by decide +kernel
theorem d_Mod_nameOf_241 : decode b_Mod_nameOf 241 = .ok (.iadd, 1) := by decide +kernel
theorem d_Mod_nameOf_242 : decode b_Mod_nameOf 242 = .ok (.iaload, 1) := by decide +kernel
theorem d_Mod_nameOf_243 : decode b_Mod_nameOf 243 = .ok (.invokestatic 121, 3) := by decide +kernel
theorem d_Mod_nameOf_246 : decode b_Mod_nameOf 246 = .ok (.goto 17, 3) := by decide +kernel
theorem d_Mod_nameOf_249 : decode b_Mod_nameOf 249 = .ok (.aload_n 0, 1) := by decide +kernel
theorem d_Mod_nameOf_250 : decode b_Mod_nameOf 250 = .ok (.getfield 28, 3) := by decide +kernel
theorem d_Mod_nameOf_253 : decode b_Mod_nameOf 253 = .ok (.sipush 200, 3) := by decide +kernel
theorem d_Mod_nameOf_256 : decode b_Mod_nameOf 256 = .ok (.iload 7, 2) := by decide +kernel
theorem d_Mod_nameOf_258 : decode b_Mod_nameOf 258 = .ok (.imul, 1) := by decide +kernel
theorem d_Mod_nameOf_259 : decode b_Mod_nameOf 259 = .ok (.iload 9, 2) := by decide +kernel
theorem d_Mod_nameOf_261 : decode b_Mod_nameOf 261 = .ok (.iadd, 1) := by decide +kernel
theorem d_Mod_nameOf_262 : decode b_Mod_nameOf 262 = .ok (.iaload, 1) := by decide +kernel
theorem d_Mod_nameOf_263 : decode b_Mod_nameOf 263 = .ok (.iastore, 1) := by decide +kernel
theorem d_Mod_nameOf_264 : decode b_Mod_nameOf 264 = .ok (.iinc 3 1, 3) := by decide +kernel
theorem d_Mod_nameOf_267 : decode b_Mod_nameOf 267 = .ok (.iinc 9 1, 3) := by decide +kernel
theorem d_Mod_nameOf_270 : decode b_Mod_nameOf 270 = .ok (.goto (-62), 3) := by decide +kernel
theorem d_Mod_nameOf_273 : decode b_Mod_nameOf 273 = .ok (.iconst 0, 1) := by decide +kernel
theorem d_Mod_nameOf_274 : decode b_Mod_nameOf 274 = .ok (.istore 5, 2) := by decide +kernel
theorem d_Mod_nameOf_276 : decode b_Mod_nameOf 276 = .ok (.iload 6, 2) := by decide +kernel
theorem d_Mod_nameOf_278 : decode b_Mod_nameOf 278 = .ok (.iload_n 2, 1) := by decide +kernel
theorem d_Mod_nameOf_279 : decode b_Mod_nameOf 279 = .ok (.if_icmp .ge 21, 3) := by decide +kernel
theorem d_Mod_nameOf_282 : decode b_Mod_nameOf 282 = .ok (.iload_n 3, 1) := by decide +kernel
theorem d_Mod_nameOf_283 : decode b_Mod_nameOf 283 = .ok (.sipush 200, 3) := by decide +kernel
theorem d_Mod_nameOf_286 : decode b_Mod_nameOf 286 = .ok (.if_icmp .gt 14, 3) := by decide +kernel
theorem d_Mod_nameOf_289 : decode b_Mod_nameOf 289 = .ok (.aload_n 0, 1) := by decide +kernel
theorem d_Mod_nameOf_290 : decode b_Mod_nameOf 290 = .ok (.getfield 59, 3) := by decide +kernel
theorem d_Mod_nameOf_293 : decode b_Mod_nameOf 293 = .ok (.iload_n 3, 1) := by decide +kernel
theorem d_Mod_nameOf_294 : decode b_Mod_nameOf 294 = .ok (.bipush 46, 2) := by decide +kernel
theorem d_Mod_nameOf_296 : decode b_Mod_nameOf 296 = .ok (.iastore, 1) := by decide +kernel
theorem d_Mod_nameOf_297 : decode b_Mod_nameOf 297 = .ok (.iinc 3 1, 3) := by decide +kernel
theorem d_Mod_nameOf_300 : decode b_Mod_nameOf 300 = .ok (.iload 6, 2) := by decide +kernel
theorem d_Mod_nameOf_302 : decode b_Mod_nameOf 302 = .ok (.iconst 1, 1) := by decide +kernel
theorem d_Mod_nameOf_303 : decode b_Mod_nameOf 303 = .ok (.iadd, 1) := by decide +kernel
theorem d_Mod_nameOf_304 : decode b_Mod_nameOf 304 = .ok (.istore 4, 2) := by decide +kernel
theorem d_Mod_nameOf_306 : decode b_Mod_nameOf 306 = .ok (.iload 6, 2) := by decide +kernel
theorem d_Mod_nameOf_308 : decode b_Mod_nameOf 308 = .ok (.iload_n 2, 1) := by decide +kernel
theorem d_Mod_nameOf_309 : decode b_Mod_nameOf 309 = .ok (.if_icmp .ne 8, 3) := by decide +kernel
theorem d_Mod_nameOf_312 : decode b_Mod_nameOf 312 = .ok (.iload_n 2, 1) := by decide +kernel
theorem d_Mod_nameOf_313 : decode b_Mod_nameOf 313 = .ok (.iconst 1, 1) := by decide +kernel
theorem d_Mod_nameOf_314 : decode b_Mod_nameOf 314 = .ok (.iadd, 1) := by decide +kernel
theorem d_Mod_nameOf_315 : decode b_Mod_nameOf 315 = .ok (.istore 4, 2) := by decide +kernel
theorem d_Mod_nameOf_317 : decode b_Mod_nameOf 317 = .ok (.goto (-234), 3) := by decide +kernel
theorem d_Mod_nameOf_320 : decode b_Mod_nameOf 320 = .ok (.aload_n 0, 1) := by decide +kernel
theorem d_Mod_nameOf_321 : decode b_Mod_nameOf 321 = .ok (.iload_n 3, 1) := by decide +kernel
theorem d_Mod_nameOf_322 : decode b_Mod_nameOf 322 = .ok (.putfield 95, 3) := by decide +kernel
theorem d_Mod_nameOf_325 : decode b_Mod_nameOf 325 = .ok (.iconst 0, 1) := by decide +kernel
theorem d_Mod_nameOf_326 : decode b_Mod_nameOf 326 = .ok (.istore 6, 2) := by decide +kernel
theorem d_Mod_nameOf_328 : decode b_Mod_nameOf 328 = .ok (.iload 6, 2) := by decide +kernel
theorem d_Mod_nameOf_330 : decode b_Mod_nameOf 330 = .ok (.iload_n 3, 1) := by decide +kernel
theorem d_Mod_nameOf_331 : decode b_Mod_nameOf 331 = .ok (.if_icmp .ge 31, 3) := by decide +kernel
theorem d_Mod_nameOf_334 : decode b_Mod_nameOf 334 = .ok (.iload 6, 2) := by decide +kernel
theorem d_Mod_nameOf_336 : decode b_Mod_nameOf 336 = .ok (.sipush 200, 3) := by decide +kernel
theorem d_Mod_nameOf_339 : decode b_Mod_nameOf 339 = .ok (.if_icmp .gt 23, 3) := by decide +kernel
theorem d_Mod_nameOf_342 : decode b_Mod_nameOf 342 = .ok (.aload_n 0, 1) := by decide +kernel
theorem d_Mod_nameOf_343 : decode b_Mod_nameOf 343 = .ok (.getfield 19, 3) := by decide +kernel
theorem d_Mod_nameOf_346 : decode b_Mod_nameOf 346 = .ok (.iload 6, 2) := by decide +kernel
theorem d_Mod_nameOf_348 : decode b_Mod_nameOf 348 = .ok (.aload_n 0, 1) := by decide +kernel
theorem d_Mod_nameOf_349 : decode b_Mod_nameOf 349 = .ok (.getfield 59, 3) := by decide +kernel
theorem d_Mod_nameOf_352 : decode b_Mod_nameOf 352 = .ok (.iload 6, 2) := by decide +kernel
theorem d_Mod_nameOf_354 : decode b_Mod_nameOf 354 = .ok (.iaload, 1) := by decide +kernel
theorem d_Mod_nameOf_355 : decode b_Mod_nameOf 355 = .ok (.iastore, 1) := by decide +kernel
theorem d_Mod_nameOf_356 : decode b_Mod_nameOf 356 = .ok (.iinc 6 1, 3) := by decide +kernel
theorem d_Mod_nameOf_359 : decode b_Mod_nameOf 359 = .ok (.goto (-31), 3) := by decide +kernel
theorem d_Mod_nameOf_362 : decode b_Mod_nameOf 362 = .ok (.iload_n 3, 1) := by decide +kernel
theorem d_Mod_nameOf_363 : decode b_Mod_nameOf 363 = .ok (.sipush 200, 3) := by decide +kernel
theorem d_Mod_nameOf_366 : decode b_Mod_nameOf 366 = .ok (.if_icmp .gt 7, 3) := by decide +kernel
theorem d_Mod_nameOf_369 : decode b_Mod_nameOf 369 = .ok (.iconst 1, 1) := by decide +kernel
theorem d_Mod_nameOf_370 : decode b_Mod_nameOf 370 = .ok (.goto 4, 3) := by decide +kernel
theorem d_Mod_nameOf_373 : decode b_Mod_nameOf 373 = .ok (.iconst 0, 1) := by decide +kernel
theorem d_Mod_nameOf_374 : decode b_Mod_nameOf 374 = .ok (.ireturn, 1) := by decide +kernel
theorem d_Mod_remove_0 : decode b_Mod_remove 0 = .ok (.iload_n 1, 1) := by decide +kernel
theorem d_Mod_remove_1 : decode b_Mod_remove 1 = .ok (.istore_n 2, 1) := by decide +kernel
theorem d_Mod_remove_2 : decode b_Mod_remove 2 = .ok (.iload_n 2, 1) := by decide +kernel
theorem d_Mod_remove_3 : decode b_Mod_remove 3 = .ok (.iconst 1, 1) := by decide +kernel
theorem d_Mod_remove_4 : decode b_Mod_remove 4 = .ok (.iadd, 1) := by decide +kernel
theorem d_Mod_remove_5 : decode b_Mod_remove 5 = .ok (.aload_n 0, 1) := by decide +kernel
theorem d_Mod_remove_6 : decode b_Mod_remove 6 = .ok (.getfield 105, 3) := by decide +kernel
theorem d_Mod_remove_9 : decode b_Mod_remove 9 = .ok (.if_icmp .ge 118, 3) := by decide +kernel
theorem d_Mod_remove_12 : decode b_Mod_remove 12 = .ok (.aload_n 0, 1) := by decide +kernel
theorem d_Mod_remove_13 : decode b_Mod_remove 13 = .ok (.getfield 34, 3) := by decide +kernel
theorem d_Mod_remove_16 : decode b_Mod_remove 16 = .ok (.iload_n 2, 1) := by decide +kernel
theorem d_Mod_remove_17 : decode b_Mod_remove 17 = .ok (.aload_n 0, 1) := by decide +kernel
theorem d_Mod_remove_18 : decode b_Mod_remove 18 = .ok (.getfield 34, 3) := by decide +kernel
theorem d_Mod_remove_21 : decode b_Mod_remove 21 = .ok (.iload_n 2, 1) := by decide +kernel
theorem d_Mod_remove_22 : decode b_Mod_remove 22 = .ok (.iconst 1, 1) := by decide +kernel
theorem d_Mod_remove_23 : decode b_Mod_remove 23 = .ok (.iadd, 1) := by decide +kernel
theorem d_Mod_remove_24 : decode b_Mod_remove 24 = .ok (.iaload, 1) := by decide +kernel
theorem d_Mod_remove_25 : decode b_Mod_remove 25 = .ok (.iastore, 1) := by decide +kernel
theorem d_Mod_remove_26 : decode b_Mod_remove 26 = .ok (.aload_n 0, 1) := by decide +kernel
theorem d_Mod_remove_27 : decode b_Mod_remove 27 = .ok (.getfield 25, 3) := by decide +kernel
theorem d_Mod_remove_30 : decode b_Mod_remove 30 = .ok (.iload_n 2, 1) := by decide +kernel
theorem d_Mod_remove_31 : decode b_Mod_remove 31 = .ok (.aload_n 0, 1) := by decide +kernel
theorem d_Mod_remove_32 : decode b_Mod_remove 32 = .ok (.getfield 25, 3) := by decide +kernel
theorem d_Mod_remove_35 : decode b_Mod_remove 35 = .ok (.iload_n 2, 1) := by decide +kernel
theorem d_Mod_remove_36 : decode b_Mod_remove 36 = .ok (.iconst 1, 1) := by decide +kernel
theorem d_Mod_remove_37 : decode b_Mod_remove 37 = .ok (.iadd, 1) := by decide +kernel
theorem d_Mod_remove_38 : decode b_Mod_remove 38 = .ok (.iaload, 1) := by decide +kernel
theorem d_Mod_remove_39 : decode b_Mod_remove 39 = .ok (.iastore, 1) := by decide +kernel
theorem d_Mod_remove_40 : decode b_Mod_remove 40 = .ok (.aload_n 0, 1) := by decide +kernel
theorem d_Mod_remove_41 : decode b_Mod_remove 41 = .ok (.getfield 31, 3) := by decide +kernel
theorem d_Mod_remove_44 : decode b_Mod_remove 44 = .ok (.iload_n 2, 1) := by decide +kernel
theorem d_Mod_remove_45 : decode b_Mod_remove 45 = .ok (.aload_n 0, 1) := by decide +kernel
theorem d_Mod_remove_46 : decode b_Mod_remove 46 = .ok (.getfield 31, 3) := by decide +kernel
theorem d_Mod_remove_49 : decode b_Mod_remove 49 = .ok (.iload_n 2, 1) := by decide +kernel
theorem d_Mod_remove_50 : decode b_Mod_remove 50 = .ok (.iconst 1, 1) := by decide +kernel
theorem d_Mod_remove_51 : decode b_Mod_remove 51 = .ok (.iadd, 1) := by decide +kernel
theorem d_Mod_remove_52 : decode b_Mod_remove 52 = .ok (.iaload, 1) := by decide +kernel
theorem d_Mod_remove_53 : decode b_Mod_remove 53 = .ok (.iastore, 1) := by decide +kernel
theorem d_Mod_remove_54 : decode b_Mod_remove 54 = .ok (.iconst 0, 1) := by decide +kernel
theorem d_Mod_remove_55 : decode b_Mod_remove 55 = .ok (.istore_n 3, 1) := by decide +kernel
theorem d_Mod_remove_56 : decode b_Mod_remove 56 = .ok (.iload_n 3, 1) := by decide +kernel
theorem d_Mod_remove_57 : decode b_Mod_remove 57 = .ok (.sipush 200, 3) := by decide +kernel
theorem d_Mod_remove_60 : decode b_Mod_remove 60 = .ok (.if_icmp .ge 61, 3) := by decide +kernel
theorem d_Mod_remove_63 : decode b_Mod_remove 63 = .ok (.aload_n 0, 1) := by decide +kernel
theorem d_Mod_remove_64 : decode b_Mod_remove 64 = .ok (.getfield 22, 3) := by decide +kernel
theorem d_Mod_remove_67 : decode b_Mod_remove 67 = .ok (.sipush 200, 3) := by decide +kernel
theorem d_Mod_remove_70 : decode b_Mod_remove 70 = .ok (.iload_n 2, 1) := by decide +kernel
theorem d_Mod_remove_71 : decode b_Mod_remove 71 = .ok (.imul, 1) := by decide +kernel
theorem d_Mod_remove_72 : decode b_Mod_remove 72 = .ok (.iload_n 3, 1) := by decide +kernel
theorem d_Mod_remove_73 : decode b_Mod_remove 73 = .ok (.iadd, 1) := by decide +kernel
theorem d_Mod_remove_74 : decode b_Mod_remove 74 = .ok (.aload_n 0, 1) := by decide +kernel
theorem d_Mod_remove_75 : decode b_Mod_remove 75 = .ok (.getfield 22, 3) := by decide +kernel
theorem d_Mod_remove_78 : decode b_Mod_remove 78 = .ok (.sipush 200, 3) := by decide +kernel
theorem d_Mod_remove_81 : decode b_Mod_remove 81 = .ok (.iload_n 2, 1) := by decide +kernel
theorem d_Mod_remove_82 : decode b_Mod_remove 82 = .ok (.iconst 1, 1) := by decide +kernel
theorem d_Mod_remove_83 : decode b_Mod_remove 83 = .ok (.iadd, 1) := by decide +kernel
theorem d_Mod_remove_84 : decode b_Mod_remove 84 = .ok (.imul, 1) := by decide +kernel
theorem d_Mod_remove_85 : decode b_Mod_remove 85 = .ok (.iload_n 3, 1) := by decide +kernel
theorem d_Mod_remove_86 : decode b_Mod_remove 86 = .ok (.iadd, 1) := by decide +kernel
theorem d_Mod_remove_87 : decode b_Mod_remove 87 = .ok (.iaload, 1) := by decide +kernel
theorem d_Mod_remove_88 : decode b_Mod_remove 88 = .ok (.iastore, 1) := by decide +kernel
theorem d_Mod_remove_89 : decode b_Mod_remove 89 = .ok (.aload_n 0, 1) := by decide +kernel
theorem d_Mod_remove_90 : decode b_Mod_remove 90 = .ok (.getfield 28, 3) := by decide +kernel
theorem d_Mod_remove_93 : decode b_Mod_remove 93 = .ok (.sipush 200, 3) := by decide +kernel
theorem d_Mod_remove_96 : decode b_Mod_remove 96 = .ok (.iload_n 2, 1) := by decide +kernel
theorem d_Mod_remove_97 : decode b_Mod_remove 97 = .ok (.imul, 1) := by decide +kernel
theorem d_Mod_remove_98 : decode b_Mod_remove 98 = .ok (.iload_n 3, 1) := by decide +kernel
theorem d_Mod_remove_99 : decode b_Mod_remove 99 = .ok (.iadd, 1) := by decide +kernel
theorem d_Mod_remove_100 : decode b_Mod_remove 100 = .ok (.aload_n 0, 1) := by decide +kernel
theorem d_Mod_remove_101 : decode b_Mod_remove 101 = .ok (.getfield 28, 3) := by decide +kernel
theorem d_Mod_remove_104 : decode b_Mod_remove 104 = .ok (.sipush 200, 3) := by decide +kernel
theorem d_Mod_remove_107 : decode b_Mod_remove 107 = .ok (.iload_n 2, 1) := by decide +kernel
theorem d_Mod_remove_108 : decode b_Mod_remove 108 = .ok (.iconst 1, 1) := by decide +kernel
theorem d_Mod_remove_109 : decode b_Mod_remove 109 = .ok (.iadd, 1) := by decide +kernel
theorem d_Mod_remove_110 : decode b_Mod_remove 110 = .ok (.imul, 1) := by decide +kernel
theorem d_Mod_remove_111 : decode b_Mod_remove 111 = .ok (.iload_n 3, 1) := by decide +kernel
theorem d_Mod_remove_112 : decode b_Mod_remove 112 = .ok (.iadd, 1) := by decide +kernel
theorem d_Mod_remove_113 : decode b_Mod_remove 113 = .ok (.iaload, 1) := by decide +kernel
theorem d_Mod_remove_114 : decode b_Mod_remove 114 = .ok (.iastore, 1) := by decide +kernel
theorem d_Mod_remove_115 : decode b_Mod_remove 115 = .ok (.iinc 3 1, 3) := by decide +kernel
theorem d_Mod_remove_118 : decode b_Mod_remove 118 = .ok (.goto (-62), 3) := by decide +kernel
theorem d_Mod_remove_121 : decode b_Mod_remove 121 = .ok (.iinc 2 1, 3) := by decide +kernel
theorem d_Mod_remove_124 : decode b_Mod_remove 124 = .ok (.goto (-122), 3) := by decide +kernel
theorem d_Mod_remove_127 : decode b_Mod_remove 127 = .ok (.aload_n 0, 1) := by decide +kernel
theorem d_Mod_remove_128 : decode b_Mod_remove 128 = .ok (.dup, 1) := by decide +kernel
theorem d_Mod_remove_129 : decode b_Mod_remove 129 = .ok (.getfield 105, 3) := by decide +kernel
theorem d_Mod_remove_132 : decode b_Mod_remove 132 = .ok (.iconst 1, 1) := by decide +kernel
theorem d_Mod_remove_133 : decode b_Mod_remove 133 = .ok (.isub, 1) := by decide +kernel
theorem d_Mod_remove_134 : decode b_Mod_remove 134 = .ok (.putfield 105, 3) := by decide +kernel
theorem d_Mod_remove_137 : decode b_Mod_remove 137 = .ok (.return_, 1) := by decide +kernel
theorem d_Mod_clear_0 : decode b_Mod_clear 0 = .ok (.aload_n 0, 1) := by decide +kernel
theorem d_Mod_clear_1 : decode b_Mod_clear 1 = .ok (.getfield 105, 3) := by decide +kernel
theorem d_Mod_clear_4 : decode b_Mod_clear 4 = .ok (.iconst 1, 1) := by decide +kernel
theorem d_Mod_clear_5 : decode b_Mod_clear 5 = .ok (.isub, 1) := by decide +kernel
theorem d_Mod_clear_6 : decode b_Mod_clear 6 = .ok (.istore_n 2, 1) := by decide +kernel
theorem d_Mod_clear_7 : decode b_Mod_clear 7 = .ok (.iload_n 2, 1) := by decide +kernel
theorem d_Mod_clear_8 : decode b_Mod_clear 8 = .ok (.ifCond .lt 98, 3) := by decide +kernel
theorem d_Mod_clear_11 : decode b_Mod_clear 11 = .ok (.aload_n 0, 1) := by decide +kernel
theorem d_Mod_clear_12 : decode b_Mod_clear 12 = .ok (.getfield 34, 3) := by decide +kernel
theorem d_Mod_clear_15 : decode b_Mod_clear 15 = .ok (.iload_n 2, 1) := by decide +kernel
theorem d_Mod_clear_16 : decode b_Mod_clear 16 = .ok (.iaload, 1) := by decide +kernel
theorem d_Mod_clear_17 : decode b_Mod_clear 17 = .ok (.iload_n 1, 1) := by decide +kernel
theorem d_Mod_clear_18 : decode b_Mod_clear 18 = .ok (.if_icmp .ne 20, 3) := by decide +kernel
theorem d_Mod_clear_21 : decode b_Mod_clear 21 = .ok (.aload_n 0, 1) := by decide +kernel
theorem d_Mod_clear_22 : decode b_Mod_clear 22 = .ok (.getfield 25, 3) := by decide +kernel
theorem d_Mod_clear_25 : decode b_Mod_clear 25 = .ok (.iload_n 2, 1) := by decide +kernel
theorem d_Mod_clear_26 : decode b_Mod_clear 26 = .ok (.iaload, 1) := by decide +kernel
theorem d_Mod_clear_27 : decode b_Mod_clear 27 = .ok (.aload_n 0, 1) := by decide +kernel
theorem d_Mod_clear_28 : decode b_Mod_clear 28 = .ok (.getfield 95, 3) := by decide +kernel
theorem d_Mod_clear_31 : decode b_Mod_clear 31 = .ok (.if_icmp .le 7, 3) := by decide +kernel
theorem d_Mod_clear_34 : decode b_Mod_clear 34 = .ok (.iconst 1, 1) := by decide +kernel
theorem d_Mod_clear_35 : decode b_Mod_clear 35 = .ok (.goto 4, 3) := by decide +kernel
theorem d_Mod_clear_38 : decode b_Mod_clear 38 = .ok (.iconst 0, 1) := by decide +kernel
theorem d_Mod_clear_39 : decode b_Mod_clear 39 = .ok (.istore_n 3, 1) := by decide +kernel
theorem d_Mod_clear_40 : decode b_Mod_clear 40 = .ok (.iconst 0, 1) := by decide +kernel
theorem d_Mod_clear_41 : decode b_Mod_clear 41 = .ok (.istore 4, 2) := by decide +kernel
theorem d_Mod_clear_43 : decode b_Mod_clear 43 = .ok (.iload 4, 2) := by decide +kernel
theorem d_Mod_clear_45 : decode b_Mod_clear 45 = .ok (.aload_n 0, 1) := by decide +kernel
theorem d_Mod_clear_46 : decode b_Mod_clear 46 = .ok (.getfield 95, 3) := by decide +kernel
theorem d_Mod_clear_49 : decode b_Mod_clear 49 = .ok (.if_icmp .ge 42, 3) := by decide +kernel
theorem d_Mod_clear_52 : decode b_Mod_clear 52 = .ok (.iload_n 3, 1) := by decide +kernel
theorem d_Mod_clear_53 : decode b_Mod_clear 53 = .ok (.ifCond .eq 38, 3) := by decide +kernel
theorem d_Mod_clear_56 : decode b_Mod_clear 56 = .ok (.aload_n 0, 1) := by decide +kernel
theorem d_Mod_clear_57 : decode b_Mod_clear 57 = .ok (.getfield 22, 3) := by decide +kernel
theorem d_Mod_clear_60 : decode b_Mod_clear 60 = .ok (.sipush 200, 3) := by decide +kernel
theorem d_Mod_clear_63 : decode b_Mod_clear 63 = .ok (.iload_n 2, 1) := by decide +kernel
theorem d_Mod_clear_64 : decode b_Mod_clear 64 = .ok (.imul, 1) := by decide +kernel
theorem d_Mod_clear_65 : decode b_Mod_clear 65 = .ok (.iload 4, 2) := by decide +kernel
theorem d_Mod_clear_67 : decode b_Mod_clear 67 = .ok (.iadd, 1) := by decide +kernel
theorem d_Mod_clear_68 : decode b_Mod_clear 68 = .ok (.iaload, 1) := by decide +kernel
theorem d_Mod_clear_69 : decode b_Mod_clear 69 = .ok (.aload_n 0, 1) := by decide +kernel
theorem d_Mod_clear_70 : decode b_Mod_clear 70 = .ok (.getfield 19, 3) := by decide +kernel
theorem d_Mod_clear_73 : decode b_Mod_clear 73 = .ok (.iload 4, 2) := by decide +kernel
theorem d_Mod_clear_75 : decode b_Mod_clear 75 = .ok (.iaload, 1) := by decide +kernel
theorem d_Mod_clear_76 : decode b_Mod_clear 76 = .ok (.if_icmp .ne 7, 3) := by decide +kernel
theorem d_Mod_clear_79 : decode b_Mod_clear 79 = .ok (.iconst 1, 1) := by decide +kernel
theorem d_Mod_clear_80 : decode b_Mod_clear 80 = .ok (.goto 4, 3) := by decide +kernel
theorem d_Mod_clear_83 : decode b_Mod_clear 83 = .ok (.iconst 0, 1) := by decide +kernel
theorem d_Mod_clear_84 : decode b_Mod_clear 84 = .ok (.istore_n 3, 1) := by decide +kernel
theorem d_Mod_clear_85 : decode b_Mod_clear 85 = .ok (.iinc 4 1, 3) := by decide +kernel
theorem d_Mod_clear_88 : decode b_Mod_clear 88 = .ok (.goto (-45), 3) := by decide +kernel
theorem d_Mod_clear_91 : decode b_Mod_clear 91 = .ok (.iload_n 3, 1) := by decide +kernel
theorem d_Mod_clear_92 : decode b_Mod_clear 92 = .ok (.ifCond .eq 8, 3) := by decide +kernel
theorem d_Mod_clear_95 : decode b_Mod_clear 95 = .ok (.aload_n 0, 1) := by decide +kernel
theorem d_Mod_clear_96 : decode b_Mod_clear 96 = .ok (.iload_n 2, 1) := by decide +kernel
theorem d_Mod_clear_97 : decode b_Mod_clear 97 = .ok (.invokevirtual 134, 3) := by decide +kernel
theorem d_Mod_clear_100 : decode b_Mod_clear 100 = .ok (.iinc 2 (-1), 3) := by decide +kernel
theorem d_Mod_clear_103 : decode b_Mod_clear 103 = .ok (.goto (-96), 3) := by decide +kernel
theorem d_Mod_clear_106 : decode b_Mod_clear 106 = .ok (.return_, 1) := by decide +kernel
theorem d_Mod_place_0 : decode b_Mod_place 0 = .ok (.aload_n 0, 1) := by decide +kernel
theorem d_Mod_place_1 : decode b_Mod_place 1 = .ok (.iload_n 1, 1) := by decide +kernel
theorem d_Mod_place_2 : decode b_Mod_place 2 = .ok (.aload_n 0, 1) := by decide +kernel
theorem d_Mod_place_3 : decode b_Mod_place 3 = .ok (.getfield 95, 3) := by decide +kernel
theorem d_Mod_place_6 : decode b_Mod_place 6 = .ok (.invokevirtual 115, 3) := by decide +kernel
theorem d_Mod_place_9 : decode b_Mod_place 9 = .ok (.istore_n 2, 1) := by decide +kernel
theorem d_Mod_place_10 : decode b_Mod_place 10 = .ok (.iload_n 2, 1) := by decide +kernel
theorem d_Mod_place_11 : decode b_Mod_place 11 = .ok (.iconst (-1), 1) := by decide +kernel
theorem d_Mod_place_12 : decode b_Mod_place 12 = .ok (.if_icmp .eq 5, 3) := by decide +kernel
theorem d_Mod_place_15 : decode b_Mod_place 15 = .ok (.iload_n 2, 1) := by decide +kernel
theorem d_Mod_place_16 : decode b_Mod_place 16 = .ok (.ireturn, 1) := by decide +kernel
theorem d_Mod_place_17 : decode b_Mod_place 17 = .ok (.aload_n 0, 1) := by decide +kernel
theorem d_Mod_place_18 : decode b_Mod_place 18 = .ok (.getfield 105, 3) := by decide +kernel
theorem d_Mod_place_21 : decode b_Mod_place 21 = .ok (.bipush 100, 2) := by decide +kernel
theorem d_Mod_place_23 : decode b_Mod_place 23 = .ok (.if_icmp .ne 5, 3) := by decide +kernel
theorem d_Mod_place_26 : decode b_Mod_place 26 = .ok (.iconst (-1), 1) := by decide +kernel
theorem d_Mod_place_27 : decode b_Mod_place 27 = .ok (.ireturn, 1) := by decide +kernel
theorem d_Mod_place_28 : decode b_Mod_place 28 = .ok (.aload_n 0, 1) := by decide +kernel
theorem d_Mod_place_29 : decode b_Mod_place 29 = .ok (.getfield 34, 3) := by decide +kernel
theorem d_Mod_place_32 : decode b_Mod_place 32 = .ok (.aload_n 0, 1) := by decide +kernel
theorem d_Mod_place_33 : decode b_Mod_place 33 = .ok (.getfield 105, 3) := by decide +kernel
theorem d_Mod_place_36 : decode b_Mod_place 36 = .ok (.iload_n 1, 1) := by decide +kernel
theorem d_Mod_place_37 : decode b_Mod_place 37 = .ok (.iastore, 1) := by decide +kernel
theorem d_Mod_place_38 : decode b_Mod_place 38 = .ok (.aload_n 0, 1) := by decide +kernel
theorem d_Mod_place_39 : decode b_Mod_place 39 = .ok (.getfield 25, 3) := by decide +kernel
theorem d_Mod_place_42 : decode b_Mod_place 42 = .ok (.aload_n 0, 1) := by decide +kernel
theorem d_Mod_place_43 : decode b_Mod_place 43 = .ok (.getfield 105, 3) := by decide +kernel
theorem d_Mod_place_46 : decode b_Mod_place 46 = .ok (.aload_n 0, 1) := by decide +kernel
theorem d_Mod_place_47 : decode b_Mod_place 47 = .ok (.getfield 95, 3) := by decide +kernel
theorem d_Mod_place_50 : decode b_Mod_place 50 = .ok (.iastore, 1) := by decide +kernel
theorem d_Mod_place_51 : decode b_Mod_place 51 = .ok (.iconst 0, 1) := by decide +kernel
theorem d_Mod_place_52 : decode b_Mod_place 52 = .ok (.istore_n 3, 1) := by decide +kernel
theorem d_Mod_place_53 : decode b_Mod_place 53 = .ok (.iload_n 3, 1) := by decide +kernel
theorem d_Mod_place_54 : decode b_Mod_place 54 = .ok (.aload_n 0, 1) := by decide +kernel
theorem d_Mod_place_55 : decode b_Mod_place 55 = .ok (.getfield 95, 3) := by decide +kernel
theorem d_Mod_place_58 : decode b_Mod_place 58 = .ok (.if_icmp .ge 30, 3) := by decide +kernel
theorem d_Mod_place_61 : decode b_Mod_place 61 = .ok (.aload_n 0, 1) := by decide +kernel
theorem d_Mod_place_62 : decode b_Mod_place 62 = .ok (.getfield 22, 3) := by decide +kernel
theorem d_Mod_place_65 : decode b_Mod_place 65 = .ok (.sipush 200, 3) := by decide +kernel
theorem d_Mod_place_68 : decode b_Mod_place 68 = .ok (.aload_n 0, 1) := by decide +kernel
theorem d_Mod_place_69 : decode b_Mod_place 69 = .ok (.getfield 105, 3) := by decide +kernel
theorem d_Mod_place_72 : decode b_Mod_place 72 = .ok (.imul, 1) := by decide +kernel
theorem d_Mod_place_73 : decode b_Mod_place 73 = .ok (.iload_n 3, 1) := by decide +kernel
theorem d_Mod_place_74 : decode b_Mod_place 74 = .ok (.iadd, 1) := by decide +kernel
theorem d_Mod_place_75 : decode b_Mod_place 75 = .ok (.aload_n 0, 1) := by decide +kernel
theorem d_Mod_place_76 : decode b_Mod_place 76 = .ok (.getfield 19, 3) := by decide +kernel
theorem d_Mod_place_79 : decode b_Mod_place 79 = .ok (.iload_n 3, 1) := by decide +kernel
theorem d_Mod_place_80 : decode b_Mod_place 80 = .ok (.iaload, 1) := by decide +kernel
theorem d_Mod_place_81 : decode b_Mod_place 81 = .ok (.iastore, 1) := by decide +kernel
theorem d_Mod_place_82 : decode b_Mod_place 82 = .ok (.iinc 3 1, 3) := by decide +kernel
theorem d_Mod_place_85 : decode b_Mod_place 85 = .ok (.goto (-32), 3) := by decide +kernel
theorem d_Mod_place_88 : decode b_Mod_place 88 = .ok (.aload_n 0, 1) := by decide +kernel
theorem d_Mod_place_89 : decode b_Mod_place 89 = .ok (.dup, 1) := by decide +kernel
theorem d_Mod_place_90 : decode b_Mod_place 90 = .ok (.getfield 105, 3) := by decide +kernel
theorem d_Mod_place_93 : decode b_Mod_place 93 = .ok (.iconst 1, 1) := by decide +kernel
theorem d_Mod_place_94 : decode b_Mod_place 94 = .ok (.iadd, 1) := by decide +kernel
theorem d_Mod_place_95 : decode b_Mod_place 95 = .ok (.putfield 105, 3) := by decide +kernel
theorem d_Mod_place_98 : decode b_Mod_place 98 = .ok (.aload_n 0, 1) := by decide +kernel
theorem d_Mod_place_99 : decode b_Mod_place 99 = .ok (.getfield 105, 3) := by decide +kernel
theorem d_Mod_place_102 : decode b_Mod_place 102 = .ok (.iconst 1, 1) := by decide +kernel
theorem d_Mod_place_103 : decode b_Mod_place 103 = .ok (.isub, 1) := by decide +kernel
theorem d_Mod_place_104 : decode b_Mod_place 104 = .ok (.ireturn, 1) := by decide +kernel
theorem d_Mod_assign_0 : decode b_Mod_assign 0 = .ok (.aload_n 0, 1) := by decide +kernel
theorem d_Mod_assign_1 : decode b_Mod_assign 1 = .ok (.aload_n 0, 1) := by decide +kernel
theorem d_Mod_assign_2 : decode b_Mod_assign 2 = .ok (.getfield 95, 3) := by decide +kernel
theorem d_Mod_assign_5 : decode b_Mod_assign 5 = .ok (.aload_n 0, 1) := by decide +kernel
theorem d_Mod_assign_6 : decode b_Mod_assign 6 = .ok (.getfield 108, 3) := by decide +kernel
theorem d_Mod_assign_9 : decode b_Mod_assign 9 = .ok (.invokevirtual 111, 3) := by decide +kernel
theorem d_Mod_assign_12 : decode b_Mod_assign 12 = .ok (.istore 4, 2) := by decide +kernel
theorem d_Mod_assign_14 : decode b_Mod_assign 14 = .ok (.aload_n 0, 1) := by decide +kernel
theorem d_Mod_assign_15 : decode b_Mod_assign 15 = .ok (.invokevirtual 118, 3) := by decide +kernel
theorem d_Mod_assign_18 : decode b_Mod_assign 18 = .ok (.aload_n 0, 1) := by decide +kernel
theorem d_Mod_assign_19 : decode b_Mod_assign 19 = .ok (.getfield 95, 3) := by decide +kernel
theorem d_Mod_assign_22 : decode b_Mod_assign 22 = .ok (.if_icmp .ne 9, 3) := by decide +kernel
theorem d_Mod_assign_25 : decode b_Mod_assign 25 = .ok (.aload_n 0, 1) := by decide +kernel
theorem d_Mod_assign_26 : decode b_Mod_assign 26 = .ok (.iload 4, 2) := by decide +kernel
theorem d_Mod_assign_28 : decode b_Mod_assign 28 = .ok (.invokevirtual 137, 3) := by decide +kernel
theorem d_Mod_assign_31 : decode b_Mod_assign 31 = .ok (.aload_n 0, 1) := by decide +kernel
theorem d_Mod_assign_32 : decode b_Mod_assign 32 = .ok (.iload 4, 2) := by decide +kernel
theorem d_Mod_assign_34 : decode b_Mod_assign 34 = .ok (.invokevirtual 140, 3) := by decide +kernel
theorem d_Mod_assign_37 : decode b_Mod_assign 37 = .ok (.istore 5, 2) := by decide +kernel
theorem d_Mod_assign_39 : decode b_Mod_assign 39 = .ok (.iload 5, 2) := by decide +kernel
theorem d_Mod_assign_41 : decode b_Mod_assign 41 = .ok (.iconst (-1), 1) := by decide +kernel
theorem d_Mod_assign_42 : decode b_Mod_assign 42 = .ok (.if_icmp .ne 5, 3) := by decide +kernel
theorem d_Mod_assign_45 : decode b_Mod_assign 45 = .ok (.iconst 0, 1) := by decide +kernel
theorem d_Mod_assign_46 : decode b_Mod_assign 46 = .ok (.ireturn, 1) := by decide +kernel
theorem d_Mod_assign_47 : decode b_Mod_assign 47 = .ok (.aload_n 0, 1) := by decide +kernel
theorem d_Mod_assign_48 : decode b_Mod_assign 48 = .ok (.getfield 31, 3) := by decide +kernel
theorem d_Mod_assign_51 : decode b_Mod_assign 51 = .ok (.iload 5, 2) := by decide +kernel
theorem d_Mod_assign_53 : decode b_Mod_assign 53 = .ok (.iload_n 3, 1) := by decide +kernel
theorem d_Mod_assign_54 : decode b_Mod_assign 54 = .ok (.iload_n 2, 1) := by decide +kernel
theorem d_Mod_assign_55 : decode b_Mod_assign 55 = .ok (.isub, 1) := by decide +kernel
theorem d_Mod_assign_56 : decode b_Mod_assign 56 = .ok (.iastore, 1) := by decide +kernel
theorem d_Mod_assign_57 : decode b_Mod_assign 57 = .ok (.iload_n 2, 1) := by decide +kernel
theorem d_Mod_assign_58 : decode b_Mod_assign 58 = .ok (.istore 6, 2) := by decide +kernel
theorem d_Mod_assign_60 : decode b_Mod_assign 60 = .ok (.iload 6, 2) := by decide +kernel
theorem d_Mod_assign_62 : decode b_Mod_assign 62 = .ok (.iload_n 3, 1) := by decide +kernel
theorem d_Mod_assign_63 : decode b_Mod_assign 63 = .ok (.if_icmp .ge 46, 3) := by decide +kernel
theorem d_Mod_assign_66 : decode b_Mod_assign 66 = .ok (.aload_n 0, 1) := by decide +kernel
theorem d_Mod_assign_67 : decode b_Mod_assign 67 = .ok (.getfield 28, 3) := by decide +kernel
theorem d_Mod_assign_70 : decode b_Mod_assign 70 = .ok (.sipush 200, 3) := by decide +kernel
theorem d_Mod_assign_73 : decode b_Mod_assign 73 = .ok (.iload 5, 2) := by decide +kernel
theorem d_Mod_assign_75 : decode b_Mod_assign 75 = .ok (.imul, 1) := by decide +kernel
theorem d_Mod_assign_76 : decode b_Mod_assign 76 = .ok (.iload 6, 2) := by decide +kernel
theorem d_Mod_assign_78 : decode b_Mod_assign 78 = .ok (.iadd, 1) := by decide +kernel
theorem d_Mod_assign_79 : decode b_Mod_assign 79 = .ok (.iload_n 2, 1) := by decide +kernel
theorem d_Mod_assign_80 : decode b_Mod_assign 80 = .ok (.isub, 1) := by decide +kernel
theorem d_Mod_assign_81 : decode b_Mod_assign 81 = .ok (.iload_n 1, 1) := by decide +kernel
theorem d_Mod_assign_82 : decode b_Mod_assign 82 = .ok (.ifCond .eq 13, 3) := by decide +kernel
theorem d_Mod_assign_85 : decode b_Mod_assign 85 = .ok (.aload_n 0, 1) := by decide +kernel
theorem d_Mod_assign_86 : decode b_Mod_assign 86 = .ok (.getfield 46, 3) := by decide +kernel
theorem d_Mod_assign_89 : decode b_Mod_assign 89 = .ok (.iload 6, 2) := by decide +kernel
theorem d_Mod_assign_91 : decode b_Mod_assign 91 = .ok (.iaload, 1) := by decide +kernel
theorem d_Mod_assign_92 : decode b_Mod_assign 92 = .ok (.goto 10, 3) := by decide +kernel
theorem d_Mod_assign_95 : decode b_Mod_assign 95 = .ok (.aload_n 0, 1) := by decide +kernel
theorem d_Mod_assign_96 : decode b_Mod_assign 96 = .ok (.getfield 13, 3) := by decide +kernel
theorem d_Mod_assign_99 : decode b_Mod_assign 99 = .ok (.iload 6, 2) := by decide +kernel
theorem d_Mod_assign_101 : decode b_Mod_assign 101 = .ok (.iaload, 1) := by decide +kernel
theorem d_Mod_assign_102 : decode b_Mod_assign 102 = .ok (.iastore, 1) := by decide +kernel
theorem d_Mod_assign_103 : decode b_Mod_assign 103 = .ok (.iinc 6 1, 3) := by decide +kernel
theorem d_Mod_assign_106 : decode b_Mod_assign 106 = .ok (.goto (-46), 3) := by decide +kernel
theorem d_Mod_assign_109 : decode b_Mod_assign 109 = .ok (.iconst 1, 1) := by decide +kernel
theorem d_Mod_assign_110 : decode b_Mod_assign 110 = .ok (.ireturn, 1) := by decide +kernel
theorem d_Mod_lose_0 : decode b_Mod_lose 0 = .ok (.aload_n 0, 1) := by decide +kernel
theorem d_Mod_lose_1 : decode b_Mod_lose 1 = .ok (.aload_n 0, 1) := by decide +kernel
theorem d_Mod_lose_2 : decode b_Mod_lose 2 = .ok (.getfield 95, 3) := by decide +kernel
theorem d_Mod_lose_5 : decode b_Mod_lose 5 = .ok (.aload_n 0, 1) := by decide +kernel
theorem d_Mod_lose_6 : decode b_Mod_lose 6 = .ok (.getfield 108, 3) := by decide +kernel
theorem d_Mod_lose_9 : decode b_Mod_lose 9 = .ok (.invokevirtual 111, 3) := by decide +kernel
theorem d_Mod_lose_12 : decode b_Mod_lose 12 = .ok (.istore_n 1, 1) := by decide +kernel
theorem d_Mod_lose_13 : decode b_Mod_lose 13 = .ok (.aload_n 0, 1) := by decide +kernel
theorem d_Mod_lose_14 : decode b_Mod_lose 14 = .ok (.invokevirtual 118, 3) := by decide +kernel
theorem d_Mod_lose_17 : decode b_Mod_lose 17 = .ok (.istore_n 2, 1) := by decide +kernel
theorem d_Mod_lose_18 : decode b_Mod_lose 18 = .ok (.iload_n 2, 1) := by decide +kernel
theorem d_Mod_lose_19 : decode b_Mod_lose 19 = .ok (.aload_n 0, 1) := by decide +kernel
theorem d_Mod_lose_20 : decode b_Mod_lose 20 = .ok (.getfield 95, 3) := by decide +kernel
theorem d_Mod_lose_23 : decode b_Mod_lose 23 = .ok (.if_icmp .ne 8, 3) := by decide +kernel
theorem d_Mod_lose_26 : decode b_Mod_lose 26 = .ok (.aload_n 0, 1) := by decide +kernel
theorem d_Mod_lose_27 : decode b_Mod_lose 27 = .ok (.iload_n 1, 1) := by decide +kernel
theorem d_Mod_lose_28 : decode b_Mod_lose 28 = .ok (.invokevirtual 137, 3) := by decide +kernel
theorem d_Mod_lose_31 : decode b_Mod_lose 31 = .ok (.iconst 0, 1) := by decide +kernel
theorem d_Mod_lose_32 : decode b_Mod_lose 32 = .ok (.istore_n 3, 1) := by decide +kernel
theorem d_Mod_lose_33 : decode b_Mod_lose 33 = .ok (.iload_n 2, 1) := by decide +kernel
theorem d_Mod_lose_34 : decode b_Mod_lose 34 = .ok (.ifCond .le 41, 3) := by decide +kernel
theorem d_Mod_lose_37 : decode b_Mod_lose 37 = .ok (.iload_n 2, 1) := by decide +kernel
theorem d_Mod_lose_38 : decode b_Mod_lose 38 = .ok (.aload_n 0, 1) := by decide +kernel
theorem d_Mod_lose_39 : decode b_Mod_lose 39 = .ok (.getfield 95, 3) := by decide +kernel
theorem d_Mod_lose_42 : decode b_Mod_lose 42 = .ok (.if_icmp .ge 33, 3) := by decide +kernel
theorem d_Mod_lose_45 : decode b_Mod_lose 45 = .ok (.aload_n 0, 1) := by decide +kernel
theorem d_Mod_lose_46 : decode b_Mod_lose 46 = .ok (.iload_n 1, 1) := by decide +kernel
theorem d_Mod_lose_47 : decode b_Mod_lose 47 = .ok (.iload_n 2, 1) := by decide +kernel
theorem d_Mod_lose_48 : decode b_Mod_lose 48 = .ok (.invokevirtual 115, 3) := by decide +kernel
theorem d_Mod_lose_51 : decode b_Mod_lose 51 = .ok (.istore 4, 2) := by decide +kernel
theorem d_Mod_lose_53 : decode b_Mod_lose 53 = .ok (.iload 4, 2) := by decide +kernel
theorem d_Mod_lose_55 : decode b_Mod_lose 55 = .ok (.iconst (-1), 1) := by decide +kernel
theorem d_Mod_lose_56 : decode b_Mod_lose 56 = .ok (.if_icmp .eq 17, 3) := by decide +kernel
theorem d_Mod_lose_59 : decode b_Mod_lose 59 = .ok (.aload_n 0, 1) := by decide +kernel
theorem d_Mod_lose_60 : decode b_Mod_lose 60 = .ok (.getfield 31, 3) := by decide +kernel
theorem d_Mod_lose_63 : decode b_Mod_lose 63 = .ok (.iload 4, 2) := by decide +kernel
theorem d_Mod_lose_65 : decode b_Mod_lose 65 = .ok (.iaload, 1) := by decide +kernel
theorem d_Mod_lose_66 : decode b_Mod_lose 66 = .ok (.ifCond .lt 7, 3) := by decide +kernel
theorem d_Mod_lose_69 : decode b_Mod_lose 69 = .ok (.iconst 1, 1) := by decide +kernel
theorem d_Mod_lose_70 : decode b_Mod_lose 70 = .ok (.goto 4, 3) := by decide +kernel
theorem d_Mod_lose_73 : decode b_Mod_lose 73 = .ok (.iconst 0, 1) := by decide +kernel
theorem d_Mod_lose_74 : decode b_Mod_lose 74 = .ok (.istore_n 3, 1) := by decide +kernel
theorem d_Mod_lose_75 : decode b_Mod_lose 75 = .ok (.iload_n 3, 1) := by decide +kernel
theorem d_Mod_lose_76 : decode b_Mod_lose 76 = .ok (.ifCond .eq 28, 3) := by decide +kernel
theorem d_Mod_lose_79 : decode b_Mod_lose 79 = .ok (.aload_n 0, 1) := by decide +kernel
theorem d_Mod_lose_80 : decode b_Mod_lose 80 = .ok (.iload_n 1, 1) := by decide +kernel
theorem d_Mod_lose_81 : decode b_Mod_lose 81 = .ok (.invokevirtual 140, 3) := by decide +kernel
theorem d_Mod_lose_84 : decode b_Mod_lose 84 = .ok (.istore 4, 2) := by decide +kernel
theorem d_Mod_lose_86 : decode b_Mod_lose 86 = .ok (.iload 4, 2) := by decide +kernel
theorem d_Mod_lose_88 : decode b_Mod_lose 88 = .ok (.iconst (-1), 1) := by decide +kernel
theorem d_Mod_lose_89 : decode b_Mod_lose 89 = .ok (.if_icmp .ne 5, 3) := by decide +kernel
theorem d_Mod_lose_92 : decode b_Mod_lose 92 = .ok (.iconst 0, 1) := by decide +kernel
theorem d_Mod_lose_93 : decode b_Mod_lose 93 = .ok (.ireturn, 1) := by decide +kernel
theorem d_Mod_lose_94 : decode b_Mod_lose 94 = .ok (.aload_n 0, 1) := by decide +kernel
theorem d_Mod_lose_95 : decode b_Mod_lose 95 = .ok (.getfield 31, 3) := by decide +kernel
theorem d_Mod_lose_98 : decode b_Mod_lose 98 = .ok (.iload 4, 2) := by decide +kernel
theorem d_Mod_lose_100 : decode b_Mod_lose 100 = .ok (.iconst (-1), 1) := by decide +kernel
theorem d_Mod_lose_101 : decode b_Mod_lose 101 = .ok (.iastore, 1) := by decide +kernel
theorem d_Mod_lose_102 : decode b_Mod_lose 102 = .ok (.iconst 1, 1) := by decide +kernel
theorem d_Mod_lose_103 : decode b_Mod_lose 103 = .ok (.ireturn, 1) := by decide +kernel
theorem d_Mod_lose_104 : decode b_Mod_lose 104 = .ok (.aload_n 0, 1) := by decide +kernel
theorem d_Mod_lose_105 : decode b_Mod_lose 105 = .ok (.iload_n 1, 1) := by decide +kernel
theorem d_Mod_lose_106 : decode b_Mod_lose 106 = .ok (.aload_n 0, 1) := by decide +kernel
theorem d_Mod_lose_107 : decode b_Mod_lose 107 = .ok (.getfield 95, 3) := by decide +kernel
theorem d_Mod_lose_110 : decode b_Mod_lose 110 = .ok (.invokevirtual 115, 3) := by decide +kernel
theorem d_Mod_lose_113 : decode b_Mod_lose 113 = .ok (.istore 4, 2) := by decide +kernel
theorem d_Mod_lose_115 : decode b_Mod_lose 115 = .ok (.iload 4, 2) := by decide +kernel
theorem d_Mod_lose_117 : decode b_Mod_lose 117 = .ok (.iconst (-1), 1) := by decide +kernel
theorem d_Mod_lose_118 : decode b_Mod_lose 118 = .ok (.if_icmp .eq 9, 3) := by decide +kernel
theorem d_Mod_lose_121 : decode b_Mod_lose 121 = .ok (.aload_n 0, 1) := by decide +kernel
theorem d_Mod_lose_122 : decode b_Mod_lose 122 = .ok (.iload 4, 2) := by decide +kernel
theorem d_Mod_lose_124 : decode b_Mod_lose 124 = .ok (.invokevirtual 134, 3) := by decide +kernel
theorem d_Mod_lose_127 : decode b_Mod_lose 127 = .ok (.iconst 1, 1) := by decide +kernel
theorem d_Mod_lose_128 : decode b_Mod_lose 128 = .ok (.ireturn, 1) := by decide +kernel
theorem d_Mod_set_0 : decode b_Mod_set 0 = .ok (.aload_n 0, 1) := by decide +kernel
theorem d_Mod_set_1 : decode b_Mod_set 1 = .ok (.invokevirtual 143, 3) := by decide +kernel
theorem d_Mod_set_4 : decode b_Mod_set 4 = .ok (.aload_n 0, 1) := by decide +kernel
theorem d_Mod_set_5 : decode b_Mod_set 5 = .ok (.invokevirtual 146, 3) := by decide +kernel
theorem d_Mod_set_8 : decode b_Mod_set 8 = .ok (.aload_n 0, 1) := by decide +kernel
theorem d_Mod_set_9 : decode b_Mod_set 9 = .ok (.getfield 78, 3) := by decide +kernel
theorem d_Mod_set_12 : decode b_Mod_set 12 = .ok (.istore_n 1, 1) := by decide +kernel
theorem d_Mod_set_13 : decode b_Mod_set 13 = .ok (.aload_n 0, 1) := by decide +kernel
theorem d_Mod_set_14 : decode b_Mod_set 14 = .ok (.getfield 75, 3) := by decide +kernel
theorem d_Mod_set_17 : decode b_Mod_set 17 = .ok (.ifCond .ge 20, 3) := by decide +kernel
theorem d_Mod_set_20 : decode b_Mod_set 20 = .ok (.aload_n 0, 1) := by decide +kernel
theorem d_Mod_set_21 : decode b_Mod_set 21 = .ok (.invokevirtual 85, 3) := by decide +kernel
theorem d_Mod_set_24 : decode b_Mod_set 24 = .ok (.bipush 61, 2) := by decide +kernel
theorem d_Mod_set_26 : decode b_Mod_set 26 = .ok (.if_icmp .eq 11, 3) := by decide +kernel
theorem d_Mod_set_29 : decode b_Mod_set 29 = .ok (.aload_n 0, 1) := by decide +kernel
theorem d_Mod_set_30 : decode b_Mod_set 30 = .ok (.aload_n 0, 1) := by decide +kernel
theorem d_Mod_set_31 : decode b_Mod_set 31 = .ok (.getfield 78, 3) := by decide +kernel
theorem d_Mod_set_34 : decode b_Mod_set 34 = .ok (.invokevirtual 92, 3) := by decide +kernel
theorem d_Mod_set_37 : decode b_Mod_set 37 = .ok (.aload_n 0, 1) := by decide +kernel
theorem d_Mod_set_38 : decode b_Mod_set 38 = .ok (.getfield 75, 3) := by decide +kernel
theorem d_Mod_set_41 : decode b_Mod_set 41 = .ok (.ifCond .ge 28, 3) := by decide +kernel
theorem d_Mod_set_44 : decode b_Mod_set 44 = .ok (.aload_n 0, 1) := by decide +kernel
theorem d_Mod_set_45 : decode b_Mod_set 45 = .ok (.getfield 72, 3) := by decide +kernel
theorem d_Mod_set_48 : decode b_Mod_set 48 = .ok (.iload_n 1, 1) := by decide +kernel
theorem d_Mod_set_49 : decode b_Mod_set 49 = .ok (.isub, 1) := by decide +kernel
theorem d_Mod_set_50 : decode b_Mod_set 50 = .ok (.iconst 1, 1) := by decide +kernel
theorem d_Mod_set_51 : decode b_Mod_set 51 = .ok (.isub, 1) := by decide +kernel
theorem d_Mod_set_52 : decode b_Mod_set 52 = .ok (.sipush 200, 3) := by decide +kernel
theorem d_Mod_set_55 : decode b_Mod_set 55 = .ok (.if_icmp .le 14, 3) := by decide +kernel
theorem d_Mod_set_58 : decode b_Mod_set 58 = .ok (.aload_n 0, 1) := by decide +kernel
theorem d_Mod_set_59 : decode b_Mod_set 59 = .ok (.iload_n 1, 1) := by decide +kernel
theorem d_Mod_set_60 : decode b_Mod_set 60 = .ok (.iconst 1, 1) := by decide +kernel
theorem d_Mod_set_61 : decode b_Mod_set 61 = .ok (.iadd, 1) := by decide +kernel
theorem d_Mod_set_62 : decode b_Mod_set 62 = .ok (.sipush 200, 3) := by decide +kernel
theorem d_Mod_set_65 : decode b_Mod_set 65 = .ok (.iadd, 1) := by decide +kernel
theorem d_Mod_set_66 : decode b_Mod_set 66 = .ok (.invokevirtual 92, 3) := by decide +kernel
theorem d_Mod_set_69 : decode b_Mod_set 69 = .ok (.aload_n 0, 1) := by decide +kernel
theorem d_Mod_set_70 : decode b_Mod_set 70 = .ok (.getfield 75, 3) := by decide +kernel
theorem d_Mod_set_73 : decode b_Mod_set 73 = .ok (.ifCond .lt 12, 3) := by decide +kernel
theorem d_Mod_set_76 : decode b_Mod_set 76 = .ok (.sipush (-1000), 3) := by decide +kernel
theorem d_Mod_set_79 : decode b_Mod_set 79 = .ok (.aload_n 0, 1) := by decide +kernel
theorem d_Mod_set_80 : decode b_Mod_set 80 = .ok (.getfield 75, 3) := by decide +kernel
theorem d_Mod_set_83 : decode b_Mod_set 83 = .ok (.isub, 1) := by decide +kernel
theorem d_Mod_set_84 : decode b_Mod_set 84 = .ok (.ireturn, 1) := by decide +kernel
theorem d_Mod_set_85 : decode b_Mod_set 85 = .ok (.aload_n 0, 1) := by decide +kernel
theorem d_Mod_set_86 : decode b_Mod_set 86 = .ok (.iconst 0, 1) := by decide +kernel
theorem d_Mod_set_87 : decode b_Mod_set 87 = .ok (.iload_n 1, 1) := by decide +kernel
theorem d_Mod_set_88 : decode b_Mod_set 88 = .ok (.invokevirtual 149, 3) := by decide +kernel
theorem d_Mod_set_91 : decode b_Mod_set 91 = .ok (.ifCond .ne 6, 3) := by decide +kernel
theorem d_Mod_set_94 : decode b_Mod_set 94 = .ok (.bipush (-2), 2) := by decide +kernel
theorem d_Mod_set_96 : decode b_Mod_set 96 = .ok (.ireturn, 1) := by decide +kernel
theorem d_Mod_set_97 : decode b_Mod_set 97 = .ok (.aload_n 0, 1) := by decide +kernel
theorem d_Mod_set_98 : decode b_Mod_set 98 = .ok (.iconst 0, 1) := by decide +kernel
theorem d_Mod_set_99 : decode b_Mod_set 99 = .ok (.iload_n 1, 1) := by decide +kernel
theorem d_Mod_set_100 : decode b_Mod_set 100 = .ok (.iconst 1, 1) := by decide +kernel
theorem d_Mod_set_101 : decode b_Mod_set 101 = .ok (.iadd, 1) := by decide +kernel
theorem d_Mod_set_102 : decode b_Mod_set 102 = .ok (.aload_n 0, 1) := by decide +kernel
theorem d_Mod_set_103 : decode b_Mod_set 103 = .ok (.getfield 72, 3) := by decide +kernel
theorem d_Mod_set_106 : decode b_Mod_set 106 = .ok (.invokevirtual 152, 3) := by decide +kernel
theorem d_Mod_set_109 : decode b_Mod_set 109 = .ok (.ifCond .eq 10, 3) := by decide +kernel
theorem d_Mod_set_112 : decode b_Mod_set 112 = .ok (.aload_n 0, 1) := by decide +kernel
theorem d_Mod_set_113 : decode b_Mod_set 113 = .ok (.getfield 105, 3) := by decide +kernel
theorem d_Mod_set_116 : decode b_Mod_set 116 = .ok (.goto 5, 3) := by decide +kernel
theorem d_Mod_set_119 : decode b_Mod_set 119 = .ok (.bipush (-4), 2) := by decide +kernel
theorem d_Mod_set_121 : decode b_Mod_set 121 = .ok (.ireturn, 1) := by decide +kernel
theorem d_Mod_one_0 : decode b_Mod_one 0 = .ok (.aload_n 0, 1) := by decide +kernel
theorem d_Mod_one_1 : decode b_Mod_one 1 = .ok (.invokevirtual 143, 3) := by decide +kernel
theorem d_Mod_one_4 : decode b_Mod_one 4 = .ok (.aload_n 0, 1) := by decide +kernel
theorem d_Mod_one_5 : decode b_Mod_one 5 = .ok (.invokevirtual 146, 3) := by decide +kernel
theorem d_Mod_one_8 : decode b_Mod_one 8 = .ok (.aload_n 0, 1) := by decide +kernel
theorem d_Mod_one_9 : decode b_Mod_one 9 = .ok (.getfield 75, 3) := by decide +kernel
theorem d_Mod_one_12 : decode b_Mod_one 12 = .ok (.ifCond .ge 22, 3) := by decide +kernel
theorem d_Mod_one_15 : decode b_Mod_one 15 = .ok (.aload_n 0, 1) := by decide +kernel
theorem d_Mod_one_16 : decode b_Mod_one 16 = .ok (.getfield 78, 3) := by decide +kernel
theorem d_Mod_one_19 : decode b_Mod_one 19 = .ok (.aload_n 0, 1) := by decide +kernel
theorem d_Mod_one_20 : decode b_Mod_one 20 = .ok (.getfield 72, 3) := by decide +kernel
theorem d_Mod_one_23 : decode b_Mod_one 23 = .ok (.if_icmp .ge 11, 3) := by decide +kernel
theorem d_Mod_one_26 : decode b_Mod_one 26 = .ok (.aload_n 0, 1) := by decide +kernel
theorem d_Mod_one_27 : decode b_Mod_one 27 = .ok (.aload_n 0, 1) := by decide +kernel
theorem d_Mod_one_28 : decode b_Mod_one 28 = .ok (.getfield 78, 3) := by decide +kernel
theorem d_Mod_one_31 : decode b_Mod_one 31 = .ok (.invokevirtual 92, 3) := by decide +kernel
theorem d_Mod_one_34 : decode b_Mod_one 34 = .ok (.aload_n 0, 1) := by decide +kernel
theorem d_Mod_one_35 : decode b_Mod_one 35 = .ok (.getfield 75, 3) := by decide +kernel
theorem d_Mod_one_38 : decode b_Mod_one 38 = .ok (.ifCond .lt 12, 3) := by decide +kernel
theorem d_Mod_one_41 : decode b_Mod_one 41 = .ok (.sipush (-1000), 3) := by decide +kernel
theorem d_Mod_one_44 : decode b_Mod_one 44 = .ok (.aload_n 0, 1) := by decide +kernel
theorem d_Mod_one_45 : decode b_Mod_one 45 = .ok (.getfield 75, 3) := by decide +kernel
theorem d_Mod_one_48 : decode b_Mod_one 48 = .ok (.isub, 1) := by decide +kernel
theorem d_Mod_one_49 : decode b_Mod_one 49 = .ok (.ireturn, 1) := by decide +kernel
theorem d_Mod_one_50 : decode b_Mod_one 50 = .ok (.aload_n 0, 1) := by decide +kernel
theorem d_Mod_one_51 : decode b_Mod_one 51 = .ok (.iconst 0, 1) := by decide +kernel
theorem d_Mod_one_52 : decode b_Mod_one 52 = .ok (.aload_n 0, 1) := by decide +kernel
theorem d_Mod_one_53 : decode b_Mod_one 53 = .ok (.getfield 72, 3) := by decide +kernel
theorem d_Mod_one_56 : decode b_Mod_one 56 = .ok (.invokevirtual 149, 3) := by decide +kernel
theorem d_Mod_one_59 : decode b_Mod_one 59 = .ok (.ifCond .eq 7, 3) := by decide +kernel
theorem d_Mod_one_62 : decode b_Mod_one 62 = .ok (.iconst 0, 1) := by decide +kernel
theorem d_Mod_one_63 : decode b_Mod_one 63 = .ok (.goto 5, 3) := by decide +kernel
theorem d_Mod_one_66 : decode b_Mod_one 66 = .ok (.bipush (-2), 2) := by decide +kernel
theorem d_Mod_one_68 : decode b_Mod_one 68 = .ok (.ireturn, 1) := by decide +kernel
theorem d_Mod_write_0 : decode b_Mod_write 0 = .ok (.aload_n 0, 1) := by decide +kernel
theorem d_Mod_write_1 : decode b_Mod_write 1 = .ok (.iload_n 3, 1) := by decide +kernel
theorem d_Mod_write_2 : decode b_Mod_write 2 = .ok (.putfield 69, 3) := by decide +kernel
theorem d_Mod_write_5 : decode b_Mod_write 5 = .ok (.iconst 0, 1) := by decide +kernel
theorem d_Mod_write_6 : decode b_Mod_write 6 = .ok (.istore 4, 2) := by decide +kernel
theorem d_Mod_write_8 : decode b_Mod_write 8 = .ok (.iload 4, 2) := by decide +kernel
theorem d_Mod_write_10 : decode b_Mod_write 10 = .ok (.iload_n 3, 1) := by decide +kernel
theorem d_Mod_write_11 : decode b_Mod_write 11 = .ok (.if_icmp .ge 22, 3) := by decide +kernel
theorem d_Mod_write_14 : decode b_Mod_write 14 = .ok (.aload_n 0, 1) := by decide +kernel
theorem d_Mod_write_15 : decode b_Mod_write 15 = .ok (.getfield 16, 3) := by decide +kernel
theorem d_Mod_write_18 : decode b_Mod_write 18 = .ok (.iload 4, 2) := by decide +kernel
theorem d_Mod_write_20 : decode b_Mod_write 20 = .ok (.aload_n 1, 1) := by decide +kernel
theorem d_Mod_write_21 : decode b_Mod_write 21 = .ok (.iload_n 2, 1) := by decide +kernel
theorem d_Mod_write_22 : decode b_Mod_write 22 = .ok (.iload 4, 2) := by decide +kernel
theorem d_Mod_write_24 : decode b_Mod_write 24 = .ok (.iadd, 1) := by decide +kernel
theorem d_Mod_write_25 : decode b_Mod_write 25 = .ok (.iaload, 1) := by decide +kernel
theorem d_Mod_write_26 : decode b_Mod_write 26 = .ok (.iastore, 1) := by decide +kernel
theorem d_Mod_write_27 : decode b_Mod_write 27 = .ok (.iinc 4 1, 3) := by decide +kernel
theorem d_Mod_write_30 : decode b_Mod_write 30 = .ok (.goto (-22), 3) := by decide +kernel
theorem d_Mod_write_33 : decode b_Mod_write 33 = .ok (.return_, 1) := by decide +kernel
theorem d_Mod_get_0 : decode b_Mod_get 0 = .ok (.aload_n 0, 1) := by decide +kernel
theorem d_Mod_get_1 : decode b_Mod_get 1 = .ok (.invokevirtual 156, 3) := by decide +kernel
theorem d_Mod_get_4 : decode b_Mod_get 4 = .ok (.istore_n 1, 1) := by decide +kernel
theorem d_Mod_get_5 : decode b_Mod_get 5 = .ok (.iload_n 1, 1) := by decide +kernel
theorem d_Mod_get_6 : decode b_Mod_get 6 = .ok (.ifCond .ge 5, 3) := by decide +kernel
theorem d_Mod_get_9 : decode b_Mod_get 9 = .ok (.iload_n 1, 1) := by decide +kernel
theorem d_Mod_get_10 : decode b_Mod_get 10 = .ok (.ireturn, 1) := by decide +kernel
theorem d_Mod_get_11 : decode b_Mod_get 11 = .ok (.aload_n 0, 1) := by decide +kernel
theorem d_Mod_get_12 : decode b_Mod_get 12 = .ok (.invokevirtual 128, 3) := by decide +kernel
theorem d_Mod_get_15 : decode b_Mod_get 15 = .ok (.istore_n 2, 1) := by decide +kernel
theorem d_Mod_get_16 : decode b_Mod_get 16 = .ok (.iload_n 2, 1) := by decide +kernel
theorem d_Mod_get_17 : decode b_Mod_get 17 = .ok (.iconst (-1), 1) := by decide +kernel
theorem d_Mod_get_18 : decode b_Mod_get 18 = .ok (.if_icmp .ne 19, 3) := by decide +kernel
theorem d_Mod_get_21 : decode b_Mod_get 21 = .ok (.aload_n 0, 1) := by decide +kernel
theorem d_Mod_get_22 : decode b_Mod_get 22 = .ok (.aload_n 0, 1) := by decide +kernel
theorem d_Mod_get_23 : decode b_Mod_get 23 = .ok (.getfield 19, 3) := by decide +kernel
theorem d_Mod_get_26 : decode b_Mod_get 26 = .ok (.iconst 0, 1) := by decide +kernel
theorem d_Mod_get_27 : decode b_Mod_get 27 = .ok (.aload_n 0, 1) := by decide +kernel
theorem d_Mod_get_28 : decode b_Mod_get 28 = .ok (.getfield 95, 3) := by decide +kernel
theorem d_Mod_get_31 : decode b_Mod_get 31 = .ok (.invokevirtual 159, 3) := by decide +kernel
theorem d_Mod_get_34 : decode b_Mod_get 34 = .ok (.goto 22, 3) := by decide +kernel
theorem d_Mod_get_37 : decode b_Mod_get 37 = .ok (.aload_n 0, 1) := by decide +kernel
theorem d_Mod_get_38 : decode b_Mod_get 38 = .ok (.aload_n 0, 1) := by decide +kernel
theorem d_Mod_get_39 : decode b_Mod_get 39 = .ok (.getfield 28, 3) := by decide +kernel
theorem d_Mod_get_42 : decode b_Mod_get 42 = .ok (.sipush 200, 3) := by decide +kernel
theorem d_Mod_get_45 : decode b_Mod_get 45 = .ok (.iload_n 2, 1) := by decide +kernel
theorem d_Mod_get_46 : decode b_Mod_get 46 = .ok (.imul, 1) := by decide +kernel
theorem d_Mod_get_47 : decode b_Mod_get 47 = .ok (.aload_n 0, 1) := by decide +kernel
theorem d_Mod_get_48 : decode b_Mod_get 48 = .ok (.getfield 31, 3) := by decide +kernel
theorem d_Mod_get_51 : decode b_Mod_get 51 = .ok (.iload_n 2, 1) := by decide +kernel
theorem d_Mod_get_52 : decode b_Mod_get 52 = .ok (.iaload, 1) := by decide +kernel
theorem d_Mod_get_53 : decode b_Mod_get 53 = .ok (.invokevirtual 159, 3) := by decide +kernel
theorem d_Mod_get_56 : decode b_Mod_get 56 = .ok (.aload_n 0, 1) := by decide +kernel
theorem d_Mod_get_57 : decode b_Mod_get 57 = .ok (.getfield 69, 3) := by decide +kernel
theorem d_Mod_get_60 : decode b_Mod_get 60 = .ok (.ireturn, 1) := by decide +kernel
theorem d_Mod_known_0 : decode b_Mod_known 0 = .ok (.aload_n 0, 1) := by decide +kernel
theorem d_Mod_known_1 : decode b_Mod_known 1 = .ok (.invokevirtual 156, 3) := by decide +kernel
theorem d_Mod_known_4 : decode b_Mod_known 4 = .ok (.istore_n 1, 1) := by decide +kernel
theorem d_Mod_known_5 : decode b_Mod_known 5 = .ok (.iload_n 1, 1) := by decide +kernel
theorem d_Mod_known_6 : decode b_Mod_known 6 = .ok (.ifCond .ge 5, 3) := by decide +kernel
