theorem d_Mod_known_9 : decode b_Mod_known 9 = .ok (.iload_n 1, 1) := by decide +kernel
theorem d_Mod_known_10 : decode b_Mod_known 10 = .ok (.ireturn, 1) := by decide +kernel
theorem d_Mod_known_11 : decode b_Mod_known 11 = .ok (.aload_n 0, 1) := by decide +kernel
theorem d_Mod_known_12 : decode b_Mod_known 12 = .ok (.invokevirtual 128, 3) := by decide +kernel
theorem d_Mod_known_15 : decode b_Mod_known 15 = .ok (.istore_n 2, 1) := by decide +kernel
theorem d_Mod_known_16 : decode b_Mod_known 16 = .ok (.iload_n 2, 1) := by decide +kernel
theorem d_Mod_known_17 : decode b_Mod_known 17 = .ok (.iconst (-1), 1) := by decide +kernel
theorem d_Mod_known_18 : decode b_Mod_known 18 = .ok (.if_icmp .ne 7, 3) := by decide +kernel
theorem d_Mod_known_21 : decode b_Mod_known 21 = .ok (.iconst 0, 1) := by decide +kernel
theorem d_Mod_known_22 : decode b_Mod_known 22 = .ok (.goto 21, 3) := by decide +kernel
theorem d_Mod_known_25 : decode b_Mod_known 25 = .ok (.aload_n 0, 1) := by decide +kernel
theorem d_Mod_known_26 : decode b_Mod_known 26 = .ok (.getfield 25, 3) := by decide +kernel
theorem d_Mod_known_29 : decode b_Mod_known 29 = .ok (.iload_n 2, 1) := by decide +kernel
theorem d_Mod_known_30 : decode b_Mod_known 30 = .ok (.iaload, 1) := by decide +kernel
theorem d_Mod_known_31 : decode b_Mod_known 31 = .ok (.aload_n 0, 1) := by decide +kernel
theorem d_Mod_known_32 : decode b_Mod_known 32 = .ok (.getfield 95, 3) := by decide +kernel
theorem d_Mod_known_35 : decode b_Mod_known 35 = .ok (.if_icmp .ne 7, 3) := by decide +kernel
theorem d_Mod_known_38 : decode b_Mod_known 38 = .ok (.iconst 2, 1) := by decide +kernel
theorem d_Mod_known_39 : decode b_Mod_known 39 = .ok (.goto 4, 3) := by decide +kernel
theorem d_Mod_known_42 : decode b_Mod_known 42 = .ok (.iconst 1, 1) := by decide +kernel
theorem d_Mod_known_43 : decode b_Mod_known 43 = .ok (.ireturn, 1) := by decide +kernel
theorem d_Mod_variables_0 : decode b_Mod_variables 0 = .ok (.iconst 0, 1) := by decide +kernel
theorem d_Mod_variables_1 : decode b_Mod_variables 1 = .ok (.istore_n 2, 1) := by decide +kernel
theorem d_Mod_variables_2 : decode b_Mod_variables 2 = .ok (.iconst 1, 1) := by decide +kernel
theorem d_Mod_variables_3 : decode b_Mod_variables 3 = .ok (.istore_n 3, 1) := by decide +kernel
theorem d_Mod_variables_4 : decode b_Mod_variables 4 = .ok (.iload_n 3, 1) := by decide +kernel
theorem d_Mod_variables_5 : decode b_Mod_variables 5 = .ok (.ifCond .eq 83, 3) := by decide +kernel
theorem d_Mod_variables_8 : decode b_Mod_variables 8 = .ok (.aload_n 0, 1) := by decide +kernel
theorem d_Mod_variables_9 : decode b_Mod_variables 9 = .ok (.getfield 75, 3) := by decide +kernel
theorem d_Mod_variables_12 : decode b_Mod_variables 12 = .ok (.ifCond .ge 76, 3) := by decide +kernel
theorem d_Mod_variables_15 : decode b_Mod_variables 15 = .ok (.iload_n 2, 1) := by decide +kernel
theorem d_Mod_variables_16 : decode b_Mod_variables 16 = .ok (.iload_n 1, 1) := by decide +kernel
theorem d_Mod_variables_17 : decode b_Mod_variables 17 = .ok (.if_icmp .ne 25, 3) := by decide +kernel
theorem d_Mod_variables_20 : decode b_Mod_variables 20 = .ok (.aload_n 0, 1) := by decide +kernel
theorem d_Mod_variables_21 : decode b_Mod_variables 21 = .ok (.getfield 78, 3) := by decide +kernel
theorem d_Mod_variables_24 : decode b_Mod_variables 24 = .ok (.aload_n 0, 1) := by decide +kernel
theorem d_Mod_variables_25 : decode b_Mod_variables 25 = .ok (.getfield 72, 3) := by decide +kernel
theorem d_Mod_variables_28 : decode b_Mod_variables 28 = .ok (.if_icmp .ge 14, 3) := by decide +kernel
theorem d_Mod_variables_31 : decode b_Mod_variables 31 = .ok (.aload_n 0, 1) := by decide +kernel
theorem d_Mod_variables_32 : decode b_Mod_variables 32 = .ok (.aload_n 0, 1) := by decide +kernel
theorem d_Mod_variables_33 : decode b_Mod_variables 33 = .ok (.getfield 78, 3) := by decide +kernel
theorem d_Mod_variables_36 : decode b_Mod_variables 36 = .ok (.invokevirtual 92, 3) := by decide +kernel
theorem d_Mod_variables_39 : decode b_Mod_variables 39 = .ok (.goto 7, 3) := by decide +kernel
theorem d_Mod_variables_42 : decode b_Mod_variables 42 = .ok (.aload_n 0, 1) := by decide +kernel
theorem d_Mod_variables_43 : decode b_Mod_variables 43 = .ok (.invokevirtual 146, 3) := by decide +kernel
theorem d_Mod_variables_46 : decode b_Mod_variables 46 = .ok (.iinc 2 1, 3) := by decide +kernel
theorem d_Mod_variables_49 : decode b_Mod_variables 49 = .ok (.aload_n 0, 1) := by decide +kernel
theorem d_Mod_variables_50 : decode b_Mod_variables 50 = .ok (.getfield 75, 3) := by decide +kernel
theorem d_Mod_variables_53 : decode b_Mod_variables 53 = .ok (.ifCond .ge 16, 3) := by decide +kernel
theorem d_Mod_variables_56 : decode b_Mod_variables 56 = .ok (.aload_n 0, 1) := by decide +kernel
theorem d_Mod_variables_57 : decode b_Mod_variables 57 = .ok (.invokevirtual 85, 3) := by decide +kernel
theorem d_Mod_variables_60 : decode b_Mod_variables 60 = .ok (.bipush 32, 2) := by decide +kernel
theorem d_Mod_variables_62 : decode b_Mod_variables 62 = .ok (.if_icmp .ne 7, 3) := by decide +kernel
theorem d_Mod_variables_65 : decode b_Mod_variables 65 = .ok (.iconst 1, 1) := by decide +kernel
theorem d_Mod_variables_66 : decode b_Mod_variables 66 = .ok (.goto 4, 3) := by decide +kernel
theorem d_Mod_variables_69 : decode b_Mod_variables 69 = .ok (.iconst 0, 1) := by decide +kernel
theorem d_Mod_variables_70 : decode b_Mod_variables 70 = .ok (.istore_n 3, 1) := by decide +kernel
theorem d_Mod_variables_71 : decode b_Mod_variables 71 = .ok (.iload_n 3, 1) := by decide +kernel
theorem d_Mod_variables_72 : decode b_Mod_variables 72 = .ok (.ifCond .eq (-68), 3) := by decide +kernel
theorem d_Mod_variables_75 : decode b_Mod_variables 75 = .ok (.aload_n 0, 1) := by decide +kernel
theorem d_Mod_variables_76 : decode b_Mod_variables 76 = .ok (.dup, 1) := by decide +kernel
theorem d_Mod_variables_77 : decode b_Mod_variables 77 = .ok (.getfield 78, 3) := by decide +kernel
theorem d_Mod_variables_80 : decode b_Mod_variables 80 = .ok (.iconst 1, 1) := by decide +kernel
theorem d_Mod_variables_81 : decode b_Mod_variables 81 = .ok (.iadd, 1) := by decide +kernel
theorem d_Mod_variables_82 : decode b_Mod_variables 82 = .ok (.putfield 78, 3) := by decide +kernel
theorem d_Mod_variables_85 : decode b_Mod_variables 85 = .ok (.goto (-81), 3) := by decide +kernel
theorem d_Mod_variables_88 : decode b_Mod_variables 88 = .ok (.aload_n 0, 1) := by decide +kernel
theorem d_Mod_variables_89 : decode b_Mod_variables 89 = .ok (.getfield 75, 3) := by decide +kernel
theorem d_Mod_variables_92 : decode b_Mod_variables 92 = .ok (.ifCond .ge 22, 3) := by decide +kernel
theorem d_Mod_variables_95 : decode b_Mod_variables 95 = .ok (.aload_n 0, 1) := by decide +kernel
theorem d_Mod_variables_96 : decode b_Mod_variables 96 = .ok (.getfield 78, 3) := by decide +kernel
theorem d_Mod_variables_99 : decode b_Mod_variables 99 = .ok (.aload_n 0, 1) := by decide +kernel
theorem d_Mod_variables_100 : decode b_Mod_variables 100 = .ok (.getfield 72, 3) := by decide +kernel
theorem d_Mod_variables_103 : decode b_Mod_variables 103 = .ok (.if_icmp .ge 11, 3) := by decide +kernel
theorem d_Mod_variables_106 : decode b_Mod_variables 106 = .ok (.aload_n 0, 1) := by decide +kernel
theorem d_Mod_variables_107 : decode b_Mod_variables 107 = .ok (.aload_n 0, 1) := by decide +kernel
theorem d_Mod_variables_108 : decode b_Mod_variables 108 = .ok (.getfield 78, 3) := by decide +kernel
theorem d_Mod_variables_111 : decode b_Mod_variables 111 = .ok (.invokevirtual 92, 3) := by decide +kernel
theorem d_Mod_variables_114 : decode b_Mod_variables 114 = .ok (.iload_n 2, 1) := by decide +kernel
theorem d_Mod_variables_115 : decode b_Mod_variables 115 = .ok (.ireturn, 1) := by decide +kernel
theorem d_Mod_wordEnd_0 : decode b_Mod_wordEnd 0 = .ok (.iload_n 1, 1) := by decide +kernel
theorem d_Mod_wordEnd_1 : decode b_Mod_wordEnd 1 = .ok (.istore_n 2, 1) := by decide +kernel
theorem d_Mod_wordEnd_2 : decode b_Mod_wordEnd 2 = .ok (.iload_n 2, 1) := by decide +kernel
theorem d_Mod_wordEnd_3 : decode b_Mod_wordEnd 3 = .ok (.aload_n 0, 1) := by decide +kernel
theorem d_Mod_wordEnd_4 : decode b_Mod_wordEnd 4 = .ok (.getfield 72, 3) := by decide +kernel
theorem d_Mod_wordEnd_7 : decode b_Mod_wordEnd 7 = .ok (.if_icmp .ge 20, 3) := by decide +kernel
theorem d_Mod_wordEnd_10 : decode b_Mod_wordEnd 10 = .ok (.aload_n 0, 1) := by decide +kernel
theorem d_Mod_wordEnd_11 : decode b_Mod_wordEnd 11 = .ok (.getfield 13, 3) := by decide +kernel
theorem d_Mod_wordEnd_14 : decode b_Mod_wordEnd 14 = .ok (.iload_n 2, 1) := by decide +kernel
theorem d_Mod_wordEnd_15 : decode b_Mod_wordEnd 15 = .ok (.iaload, 1) := by decide +kernel
theorem d_Mod_wordEnd_16 : decode b_Mod_wordEnd 16 = .ok (.bipush 32, 2) := by decide +kernel
theorem d_Mod_wordEnd_18 : decode b_Mod_wordEnd 18 = .ok (.if_icmp .eq 9, 3) := by decide +kernel
theorem d_Mod_wordEnd_21 : decode b_Mod_wordEnd 21 = .ok (.iinc 2 1, 3) := by decide +kernel
theorem d_Mod_wordEnd_24 : decode b_Mod_wordEnd 24 = .ok (.goto (-22), 3) := by decide +kernel
theorem d_Mod_wordEnd_27 : decode b_Mod_wordEnd 27 = .ok (.iload_n 2, 1) := by decide +kernel
theorem d_Mod_wordEnd_28 : decode b_Mod_wordEnd 28 = .ok (.ireturn, 1) := by decide +kernel
theorem d_Mod_drop_0 : decode b_Mod_drop 0 = .ok (.aload_n 0, 1) := by decide +kernel
theorem d_Mod_drop_1 : decode b_Mod_drop 1 = .ok (.invokevirtual 143, 3) := by decide +kernel
theorem d_Mod_drop_4 : decode b_Mod_drop 4 = .ok (.aload_n 0, 1) := by decide +kernel
theorem d_Mod_drop_5 : decode b_Mod_drop 5 = .ok (.sipush 1000, 3) := by decide +kernel
theorem d_Mod_drop_8 : decode b_Mod_drop 8 = .ok (.invokevirtual 163, 3) := by decide +kernel
theorem d_Mod_drop_11 : decode b_Mod_drop 11 = .ok (.pop, 1) := by decide +kernel
theorem d_Mod_drop_12 : decode b_Mod_drop 12 = .ok (.aload_n 0, 1) := by decide +kernel
theorem d_Mod_drop_13 : decode b_Mod_drop 13 = .ok (.getfield 75, 3) := by decide +kernel
theorem d_Mod_drop_16 : decode b_Mod_drop 16 = .ok (.ifCond .lt 12, 3) := by decide +kernel
theorem d_Mod_drop_19 : decode b_Mod_drop 19 = .ok (.sipush (-1000), 3) := by decide +kernel
theorem d_Mod_drop_22 : decode b_Mod_drop 22 = .ok (.aload_n 0, 1) := by decide +kernel
theorem d_Mod_drop_23 : decode b_Mod_drop 23 = .ok (.getfield 75, 3) := by decide +kernel
theorem d_Mod_drop_26 : decode b_Mod_drop 26 = .ok (.isub, 1) := by decide +kernel
theorem d_Mod_drop_27 : decode b_Mod_drop 27 = .ok (.ireturn, 1) := by decide +kernel
theorem d_Mod_drop_28 : decode b_Mod_drop 28 = .ok (.iconst 0, 1) := by decide +kernel
theorem d_Mod_drop_29 : decode b_Mod_drop 29 = .ok (.istore_n 1, 1) := by decide +kernel
theorem d_Mod_drop_30 : decode b_Mod_drop 30 = .ok (.iload_n 1, 1) := by decide +kernel
theorem d_Mod_drop_31 : decode b_Mod_drop 31 = .ok (.aload_n 0, 1) := by decide +kernel
theorem d_Mod_drop_32 : decode b_Mod_drop 32 = .ok (.getfield 72, 3) := by decide +kernel
theorem d_Mod_drop_35 : decode b_Mod_drop 35 = .ok (.if_icmp .ge 40, 3) := by decide +kernel
theorem d_Mod_drop_38 : decode b_Mod_drop 38 = .ok (.aload_n 0, 1) := by decide +kernel
theorem d_Mod_drop_39 : decode b_Mod_drop 39 = .ok (.iload_n 1, 1) := by decide +kernel
theorem d_Mod_drop_40 : decode b_Mod_drop 40 = .ok (.aload_n 0, 1) := by decide +kernel
theorem d_Mod_drop_41 : decode b_Mod_drop 41 = .ok (.iload_n 1, 1) := by decide +kernel
theorem d_Mod_drop_42 : decode b_Mod_drop 42 = .ok (.invokevirtual 166, 3) := by decide +kernel
theorem d_Mod_drop_45 : decode b_Mod_drop 45 = .ok (.invokevirtual 149, 3) := by decide +kernel
theorem d_Mod_drop_48 : decode b_Mod_drop 48 = .ok (.ifCond .ne 6, 3) := by decide +kernel
theorem d_Mod_drop_51 : decode b_Mod_drop 51 = .ok (.bipush (-2), 2) := by decide +kernel
theorem d_Mod_drop_53 : decode b_Mod_drop 53 = .ok (.ireturn, 1) := by decide +kernel
theorem d_Mod_drop_54 : decode b_Mod_drop 54 = .ok (.aload_n 0, 1) := by decide +kernel
theorem d_Mod_drop_55 : decode b_Mod_drop 55 = .ok (.invokevirtual 169, 3) := by decide +kernel
theorem d_Mod_drop_58 : decode b_Mod_drop 58 = .ok (.ifCond .ne 6, 3) := by decide +kernel
theorem d_Mod_drop_61 : decode b_Mod_drop 61 = .ok (.bipush (-4), 2) := by decide +kernel
theorem d_Mod_drop_63 : decode b_Mod_drop 63 = .ok (.ireturn, 1) := by decide +kernel
theorem d_Mod_drop_64 : decode b_Mod_drop 64 = .ok (.aload_n 0, 1) := by decide +kernel
theorem d_Mod_drop_65 : decode b_Mod_drop 65 = .ok (.iload_n 1, 1) := by decide +kernel
theorem d_Mod_drop_66 : decode b_Mod_drop 66 = .ok (.invokevirtual 166, 3) := by decide +kernel
theorem d_Mod_drop_69 : decode b_Mod_drop 69 = .ok (.iconst 1, 1) := by decide +kernel
theorem d_Mod_drop_70 : decode b_Mod_drop 70 = .ok (.iadd, 1) := by decide +kernel
theorem d_Mod_drop_71 : decode b_Mod_drop 71 = .ok (.istore_n 1, 1) := by decide +kernel
theorem d_Mod_drop_72 : decode b_Mod_drop 72 = .ok (.goto (-42), 3) := by decide +kernel
theorem d_Mod_drop_75 : decode b_Mod_drop 75 = .ok (.aload_n 0, 1) := by decide +kernel
theorem d_Mod_drop_76 : decode b_Mod_drop 76 = .ok (.getfield 105, 3) := by decide +kernel
theorem d_Mod_drop_79 : decode b_Mod_drop 79 = .ok (.ireturn, 1) := by decide +kernel
theorem d_Mod_open_0 : decode b_Mod_open 0 = .ok (.aload_n 0, 1) := by decide +kernel
theorem d_Mod_open_1 : decode b_Mod_open 1 = .ok (.invokevirtual 143, 3) := by decide +kernel
theorem d_Mod_open_4 : decode b_Mod_open 4 = .ok (.aload_n 0, 1) := by decide +kernel
theorem d_Mod_open_5 : decode b_Mod_open 5 = .ok (.getfield 72, 3) := by decide +kernel
theorem d_Mod_open_8 : decode b_Mod_open 8 = .ok (.ifCond .le 10, 3) := by decide +kernel
theorem d_Mod_open_11 : decode b_Mod_open 11 = .ok (.aload_n 0, 1) := by decide +kernel
theorem d_Mod_open_12 : decode b_Mod_open 12 = .ok (.bipush 12, 2) := by decide +kernel
theorem d_Mod_open_14 : decode b_Mod_open 14 = .ok (.invokevirtual 163, 3) := by decide +kernel
theorem d_Mod_open_17 : decode b_Mod_open 17 = .ok (.pop, 1) := by decide +kernel
theorem d_Mod_open_18 : decode b_Mod_open 18 = .ok (.aload_n 0, 1) := by decide +kernel
theorem d_Mod_open_19 : decode b_Mod_open 19 = .ok (.getfield 75, 3) := by decide +kernel
theorem d_Mod_open_22 : decode b_Mod_open 22 = .ok (.ifCond .lt 12, 3) := by decide +kernel
theorem d_Mod_open_25 : decode b_Mod_open 25 = .ok (.sipush (-1000), 3) := by decide +kernel
theorem d_Mod_open_28 : decode b_Mod_open 28 = .ok (.aload_n 0, 1) := by decide +kernel
theorem d_Mod_open_29 : decode b_Mod_open 29 = .ok (.getfield 75, 3) := by decide +kernel
theorem d_Mod_open_32 : decode b_Mod_open 32 = .ok (.isub, 1) := by decide +kernel
theorem d_Mod_open_33 : decode b_Mod_open 33 = .ok (.ireturn, 1) := by decide +kernel
theorem d_Mod_open_34 : decode b_Mod_open 34 = .ok (.aload_n 0, 1) := by decide +kernel
theorem d_Mod_open_35 : decode b_Mod_open 35 = .ok (.getfield 108, 3) := by decide +kernel
theorem d_Mod_open_38 : decode b_Mod_open 38 = .ok (.iconst 1, 1) := by decide +kernel
theorem d_Mod_open_39 : decode b_Mod_open 39 = .ok (.iadd, 1) := by decide +kernel
theorem d_Mod_open_40 : decode b_Mod_open 40 = .ok (.bipush 8, 2) := by decide +kernel
theorem d_Mod_open_42 : decode b_Mod_open 42 = .ok (.if_icmp .ne 6, 3) := by decide +kernel
theorem d_Mod_open_45 : decode b_Mod_open 45 = .ok (.bipush (-4), 2) := by decide +kernel
theorem d_Mod_open_47 : decode b_Mod_open 47 = .ok (.ireturn, 1) := by decide +kernel
theorem d_Mod_open_48 : decode b_Mod_open 48 = .ok (.aload_n 0, 1) := by decide +kernel
theorem d_Mod_open_49 : decode b_Mod_open 49 = .ok (.dup, 1) := by decide +kernel
theorem d_Mod_open_50 : decode b_Mod_open 50 = .ok (.getfield 108, 3) := by decide +kernel
theorem d_Mod_open_53 : decode b_Mod_open 53 = .ok (.iconst 1, 1) := by decide +kernel
theorem d_Mod_open_54 : decode b_Mod_open 54 = .ok (.iadd, 1) := by decide +kernel
theorem d_Mod_open_55 : decode b_Mod_open 55 = .ok (.putfield 108, 3) := by decide +kernel
theorem d_Mod_open_58 : decode b_Mod_open 58 = .ok (.aload_n 0, 1) := by decide +kernel
theorem d_Mod_open_59 : decode b_Mod_open 59 = .ok (.getfield 43, 3) := by decide +kernel
theorem d_Mod_open_62 : decode b_Mod_open 62 = .ok (.aload_n 0, 1) := by decide +kernel
theorem d_Mod_open_63 : decode b_Mod_open 63 = .ok (.getfield 108, 3) := by decide +kernel
theorem d_Mod_open_66 : decode b_Mod_open 66 = .ok (.iconst 0, 1) := by decide +kernel
theorem d_Mod_open_67 : decode b_Mod_open 67 = .ok (.iastore, 1) := by decide +kernel
theorem d_Mod_open_68 : decode b_Mod_open 68 = .ok (.iconst 0, 1) := by decide +kernel
theorem d_Mod_open_69 : decode b_Mod_open 69 = .ok (.istore_n 1, 1) := by decide +kernel
theorem d_Mod_open_70 : decode b_Mod_open 70 = .ok (.iload_n 1, 1) := by decide +kernel
theorem d_Mod_open_71 : decode b_Mod_open 71 = .ok (.aload_n 0, 1) := by decide +kernel
theorem d_Mod_open_72 : decode b_Mod_open 72 = .ok (.getfield 72, 3) := by decide +kernel
theorem d_Mod_open_75 : decode b_Mod_open 75 = .ok (.if_icmp .ge 198, 3) := by decide +kernel
theorem d_Mod_open_78 : decode b_Mod_open 78 = .ok (.aload_n 0, 1) := by decide +kernel
theorem d_Mod_open_79 : decode b_Mod_open 79 = .ok (.iload_n 1, 1) := by decide +kernel
theorem d_Mod_open_80 : decode b_Mod_open 80 = .ok (.aload_n 0, 1) := by decide +kernel
theorem d_Mod_open_81 : decode b_Mod_open 81 = .ok (.iload_n 1, 1) := by decide +kernel
theorem d_Mod_open_82 : decode b_Mod_open 82 = .ok (.invokevirtual 166, 3) := by decide +kernel
theorem d_Mod_open_85 : decode b_Mod_open 85 = .ok (.invokevirtual 149, 3) := by decide +kernel
theorem d_Mod_open_88 : decode b_Mod_open 88 = .ok (.ifCond .ne 16, 3) := by decide +kernel
theorem d_Mod_open_91 : decode b_Mod_open 91 = .ok (.aload_n 0, 1) := by decide +kernel
theorem d_Mod_open_92 : decode b_Mod_open 92 = .ok (.dup, 1) := by decide +kernel
theorem d_Mod_open_93 : decode b_Mod_open 93 = .ok (.getfield 108, 3) := by decide +kernel
theorem d_Mod_open_96 : decode b_Mod_open 96 = .ok (.iconst 1, 1) := by decide +kernel
theorem d_Mod_open_97 : decode b_Mod_open 97 = .ok (.isub, 1) := by decide +kernel
theorem d_Mod_open_98 : decode b_Mod_open 98 = .ok (.putfield 108, 3) := by decide +kernel
theorem d_Mod_open_101 : decode b_Mod_open 101 = .ok (.bipush (-2), 2) := by decide +kernel
theorem d_Mod_open_103 : decode b_Mod_open 103 = .ok (.ireturn, 1) := by decide +kernel
theorem d_Mod_open_104 : decode b_Mod_open 104 = .ok (.iconst 0, 1) := by decide +kernel
theorem d_Mod_open_105 : decode b_Mod_open 105 = .ok (.istore_n 2, 1) := by decide +kernel
theorem d_Mod_open_106 : decode b_Mod_open 106 = .ok (.bipush 12, 2) := by decide +kernel
theorem d_Mod_open_108 : decode b_Mod_open 108 = .ok (.aload_n 0, 1) := by decide +kernel
theorem d_Mod_open_109 : decode b_Mod_open 109 = .ok (.getfield 108, 3) := by decide +kernel
theorem d_Mod_open_112 : decode b_Mod_open 112 = .ok (.imul, 1) := by decide +kernel
theorem d_Mod_open_113 : decode b_Mod_open 113 = .ok (.istore_n 3, 1) := by decide +kernel
theorem d_Mod_open_114 : decode b_Mod_open 114 = .ok (.iload_n 3, 1) := by decide +kernel
theorem d_Mod_open_115 : decode b_Mod_open 115 = .ok (.bipush 12, 2) := by decide +kernel
theorem d_Mod_open_117 : decode b_Mod_open 117 = .ok (.aload_n 0, 1) := by decide +kernel
theorem d_Mod_open_118 : decode b_Mod_open 118 = .ok (.getfield 108, 3) := by decide +kernel
theorem d_Mod_open_121 : decode b_Mod_open 121 = .ok (.imul, 1) := by decide +kernel
theorem d_Mod_open_122 : decode b_Mod_open 122 = .ok (.aload_n 0, 1) := by decide +kernel
theorem d_Mod_open_123 : decode b_Mod_open 123 = .ok (.getfield 43, 3) := by decide +kernel
theorem d_Mod_open_126 : decode b_Mod_open 126 = .ok (.aload_n 0, 1) := by decide +kernel
theorem d_Mod_open_127 : decode b_Mod_open 127 = .ok (.getfield 108, 3) := by decide +kernel
theorem d_Mod_open_130 : decode b_Mod_open 130 = .ok (.iaload, 1) := by decide +kernel
theorem d_Mod_open_131 : decode b_Mod_open 131 = .ok (.iadd, 1) := by decide +kernel
theorem d_Mod_open_132 : decode b_Mod_open 132 = .ok (.if_icmp .ge 44, 3) := by decide +kernel
theorem d_Mod_open_135 : decode b_Mod_open 135 = .ok (.iload_n 2, 1) := by decide +kernel
theorem d_Mod_open_136 : decode b_Mod_open 136 = .ok (.ifCond .ne 28, 3) := by decide +kernel
theorem d_Mod_open_139 : decode b_Mod_open 139 = .ok (.aload_n 0, 1) := by decide +kernel
theorem d_Mod_open_140 : decode b_Mod_open 140 = .ok (.getfield 40, 3) := by decide +kernel
theorem d_Mod_open_143 : decode b_Mod_open 143 = .ok (.iload_n 3, 1) := by decide +kernel
theorem d_Mod_open_144 : decode b_Mod_open 144 = .ok (.iaload, 1) := by decide +kernel
theorem d_Mod_open_145 : decode b_Mod_open 145 = .ok (.aload_n 0, 1) := by decide +kernel
theorem d_Mod_open_146 : decode b_Mod_open 146 = .ok (.getfield 95, 3) := by decide +kernel
theorem d_Mod_open_149 : decode b_Mod_open 149 = .ok (.if_icmp .ne 19, 3) := by decide +kernel
theorem d_Mod_open_152 : decode b_Mod_open 152 = .ok (.aload_n 0, 1) := by decide +kernel
theorem d_Mod_open_153 : decode b_Mod_open 153 = .ok (.iload_n 3, 1) := by decide +kernel
theorem d_Mod_open_154 : decode b_Mod_open 154 = .ok (.aload_n 0, 1) := by decide +kernel
theorem d_Mod_open_155 : decode b_Mod_open 155 = .ok (.getfield 95, 3) := by decide +kernel
theorem d_Mod_open_158 : decode b_Mod_open 158 = .ok (.invokevirtual 101, 3) := by decide +kernel
theorem d_Mod_open_161 : decode b_Mod_open 161 = .ok (.ifCond .eq 7, 3) := by decide +kernel
theorem d_Mod_open_164 : decode b_Mod_open 164 = .ok (.iconst 1, 1) := by decide +kernel
theorem d_Mod_open_165 : decode b_Mod_open 165 = .ok (.goto 4, 3) := by decide +kernel
theorem d_Mod_open_168 : decode b_Mod_open 168 = .ok (.iconst 0, 1) := by decide +kernel
theorem d_Mod_open_169 : decode b_Mod_open 169 = .ok (.istore_n 2, 1) := by decide +kernel
theorem d_Mod_open_170 : decode b_Mod_open 170 = .ok (.iinc 3 1, 3) := by decide +kernel
theorem d_Mod_open_173 : decode b_Mod_open 173 = .ok (.goto (-59), 3) := by decide +kernel
theorem d_Mod_open_176 : decode b_Mod_open 176 = .ok (.iload_n 2, 1) := by decide +kernel
theorem d_Mod_open_177 : decode b_Mod_open 177 = .ok (.ifCond .eq 6, 3) := by decide +kernel
theorem d_Mod_open_180 : decode b_Mod_open 180 = .ok (.goto 82, 3) := by decide +kernel
theorem d_Mod_open_183 : decode b_Mod_open 183 = .ok (.bipush 12, 2) := by decide +kernel
theorem d_Mod_open_185 : decode b_Mod_open 185 = .ok (.aload_n 0, 1) := by decide +kernel
theorem d_Mod_open_186 : decode b_Mod_open 186 = .ok (.getfield 108, 3) := by decide +kernel
theorem d_Mod_open_189 : decode b_Mod_open 189 = .ok (.imul, 1) := by decide +kernel
theorem d_Mod_open_190 : decode b_Mod_open 190 = .ok (.aload_n 0, 1) := by decide +kernel
theorem d_Mod_open_191 : decode b_Mod_open 191 = .ok (.getfield 43, 3) := by decide +kernel
theorem d_Mod_open_194 : decode b_Mod_open 194 = .ok (.aload_n 0, 1) := by decide +kernel
theorem d_Mod_open_195 : decode b_Mod_open 195 = .ok (.getfield 108, 3) := by decide +kernel
theorem d_Mod_open_198 : decode b_Mod_open 198 = .ok (.iaload, 1) := by decide +kernel
theorem d_Mod_open_199 : decode b_Mod_open 199 = .ok (.iadd, 1) := by decide +kernel
theorem d_Mod_open_200 : decode b_Mod_open 200 = .ok (.istore_n 3, 1) := by decide +kernel
theorem d_Mod_open_201 : decode b_Mod_open 201 = .ok (.aload_n 0, 1) := by decide +kernel
theorem d_Mod_open_202 : decode b_Mod_open 202 = .ok (.getfield 40, 3) := by decide +kernel
theorem d_Mod_open_205 : decode b_Mod_open 205 = .ok (.iload_n 3, 1) := by decide +kernel
theorem d_Mod_open_206 : decode b_Mod_open 206 = .ok (.aload_n 0, 1) := by decide +kernel
theorem d_Mod_open_207 : decode b_Mod_open 207 = .ok (.getfield 95, 3) := by decide +kernel
theorem d_Mod_open_210 : decode b_Mod_open 210 = .ok (.iastore, 1) := by decide +kernel
theorem d_Mod_open_211 : decode b_Mod_open 211 = .ok (.iconst 0, 1) := by decide +kernel
theorem d_Mod_open_212 : decode b_Mod_open 212 = .ok (.istore 4, 2) := by decide +kernel
theorem d_Mod_open_214 : decode b_Mod_open 214 = .ok (.iload 4, 2) := by decide +kernel
theorem d_Mod_open_216 : decode b_Mod_open 216 = .ok (.aload_n 0, 1) := by decide +kernel
theorem d_Mod_open_217 : decode b_Mod_open 217 = .ok (.getfield 95, 3) := by decide +kernel
theorem d_Mod_open_220 : decode b_Mod_open 220 = .ok (.if_icmp .ge 29, 3) := by decide +kernel
theorem d_Mod_open_223 : decode b_Mod_open 223 = .ok (.aload_n 0, 1) := by decide +kernel
theorem d_Mod_open_224 : decode b_Mod_open 224 = .ok (.getfield 37, 3) := by decide +kernel
theorem d_Mod_open_227 : decode b_Mod_open 227 = .ok (.sipush 200, 3) := by decide +kernel
theorem d_Mod_open_230 : decode b_Mod_open 230 = .ok (.iload_n 3, 1) := by decide +kernel
theorem d_Mod_open_231 : decode b_Mod_open 231 = .ok (.imul, 1) := by decide +kernel
theorem d_Mod_open_232 : decode b_Mod_open 232 = .ok (.iload 4, 2) := by decide +kernel
theorem d_Mod_open_234 : decode b_Mod_open 234 = .ok (.iadd, 1) := by decide +kernel
theorem d_Mod_open_235 : decode b_Mod_open 235 = .ok (.aload_n 0, 1) := by decide +kernel
theorem d_Mod_open_236 : decode b_Mod_open 236 = .ok (.getfield 19, 3) := by decide +kernel
theorem d_Mod_open_239 : decode b_Mod_open 239 = .ok (.iload 4, 2) := by decide +kernel
theorem d_Mod_open_241 : decode b_Mod_open 241 = .ok (.iaload, 1) := by decide +kernel
theorem d_Mod_open_242 : decode b_Mod_open 242 = .ok (.iastore, 1) := by decide +kernel
theorem d_Mod_open_243 : decode b_Mod_open 243 = .ok (.iinc 4 1, 3) := by decide +kernel
theorem d_Mod_open_246 : decode b_Mod_open 246 = .ok (.goto (-32), 3) := by decide +kernel
theorem d_Mod_open_249 : decode b_Mod_open 249 = .ok (.aload_n 0, 1) := by decide +kernel
theorem d_Mod_open_250 : decode b_Mod_open 250 = .ok (.getfield 43, 3) := by decide +kernel
theorem d_Mod_open_253 : decode b_Mod_open 253 = .ok (.aload_n 0, 1) := by decide +kernel
theorem d_Mod_open_254 : decode b_Mod_open 254 = .ok (.getfield 108, 3) := by decide +kernel
theorem d_Mod_open_257 : decode b_Mod_open 257 = .ok (.dup2, 1) := by decide +kernel
theorem d_Mod_open_258 : decode b_Mod_open 258 = .ok (.iaload, 1) := by decide +kernel
theorem d_Mod_open_259 : decode b_Mod_open 259 = .ok (.iconst 1, 1) := by decide +kernel
theorem d_Mod_open_260 : decode b_Mod_open 260 = .ok (.iadd, 1) := by decide +kernel
theorem d_Mod_open_261 : decode b_Mod_open 261 = .ok (.iastore, 1) := by decide +kernel
theorem d_Mod_open_262 : decode b_Mod_open 262 = .ok (.aload_n 0, 1) := by decide +kernel
theorem d_Mod_open_263 : decode b_Mod_open 263 = .ok (.iload_n 1, 1) := by decide +kernel
theorem d_Mod_open_264 : decode b_Mod_open 264 = .ok (.invokevirtual 166, 3) := by decide +kernel
theorem d_Mod_open_267 : decode b_Mod_open 267 = .ok (.iconst 1, 1) := by decide +kernel
theorem d_Mod_open_268 : decode b_Mod_open 268 = .ok (.iadd, 1) := by decide +kernel
theorem d_Mod_open_269 : decode b_Mod_open 269 = .ok (.istore_n 1, 1) := by decide +kernel
theorem d_Mod_open_270 : decode b_Mod_open 270 = .ok (.goto (-200), 3) := by decide +kernel
theorem d_Mod_open_273 : decode b_Mod_open 273 = .ok (.aload_n 0, 1) := by decide +kernel
theorem d_Mod_open_274 : decode b_Mod_open 274 = .ok (.getfield 108, 3) := by decide +kernel
theorem d_Mod_open_277 : decode b_Mod_open 277 = .ok (.iconst 1, 1) := by decide +kernel
theorem d_Mod_open_278 : decode b_Mod_open 278 = .ok (.iadd, 1) := by decide +kernel
theorem d_Mod_open_279 : decode b_Mod_open 279 = .ok (.ireturn, 1) := by decide +kernel
theorem d_Mod_close_0 : decode b_Mod_close 0 = .ok (.aload_n 0, 1) := by decide +kernel
theorem d_Mod_close_1 : decode b_Mod_close 1 = .ok (.getfield 108, 3) := by decide +kernel
theorem d_Mod_close_4 : decode b_Mod_close 4 = .ok (.ifCond .ne 6, 3) := by decide +kernel
theorem d_Mod_close_7 : decode b_Mod_close 7 = .ok (.bipush (-3), 2) := by decide +kernel
theorem d_Mod_close_9 : decode b_Mod_close 9 = .ok (.ireturn, 1) := by decide +kernel
theorem d_Mod_close_10 : decode b_Mod_close 10 = .ok (.aload_n 0, 1) := by decide +kernel
theorem d_Mod_close_11 : decode b_Mod_close 11 = .ok (.getfield 105, 3) := by decide +kernel
theorem d_Mod_close_14 : decode b_Mod_close 14 = .ok (.iconst 1, 1) := by decide +kernel
theorem d_Mod_close_15 : decode b_Mod_close 15 = .ok (.isub, 1) := by decide +kernel
theorem d_Mod_close_16 : decode b_Mod_close 16 = .ok (.istore_n 1, 1) := by decide +kernel
theorem d_Mod_close_17 : decode b_Mod_close 17 = .ok (.iload_n 1, 1) := by decide +kernel
theorem d_Mod_close_18 : decode b_Mod_close 18 = .ok (.ifCond .lt 27, 3) := by decide +kernel
theorem d_Mod_close_21 : decode b_Mod_close 21 = .ok (.aload_n 0, 1) := by decide +kernel
theorem d_Mod_close_22 : decode b_Mod_close 22 = .ok (.getfield 34, 3) := by decide +kernel
theorem d_Mod_close_25 : decode b_Mod_close 25 = .ok (.iload_n 1, 1) := by decide +kernel
theorem d_Mod_close_26 : decode b_Mod_close 26 = .ok (.iaload, 1) := by decide +kernel
theorem d_Mod_close_27 : decode b_Mod_close 27 = .ok (.aload_n 0, 1) := by decide +kernel
theorem d_Mod_close_28 : decode b_Mod_close 28 = .ok (.getfield 108, 3) := by decide +kernel
theorem d_Mod_close_31 : decode b_Mod_close 31 = .ok (.if_icmp .ne 8, 3) := by decide +kernel
theorem d_Mod_close_34 : decode b_Mod_close 34 = .ok (.aload_n 0, 1) := by decide +kernel
theorem d_Mod_close_35 : decode b_Mod_close 35 = .ok (.iload_n 1, 1) := by decide +kernel
theorem d_Mod_close_36 : decode b_Mod_close 36 = .ok (.invokevirtual 134, 3) := by decide +kernel
theorem d_Mod_close_39 : decode b_Mod_close 39 = .ok (.iinc 1 (-1), 3) := by decide +kernel
theorem d_Mod_close_42 : decode b_Mod_close 42 = .ok (.goto (-25), 3) := by decide +kernel
theorem d_Mod_close_45 : decode b_Mod_close 45 = .ok (.aload_n 0, 1) := by decide +kernel
theorem d_Mod_close_46 : decode b_Mod_close 46 = .ok (.dup, 1) := by decide +kernel
theorem d_Mod_close_47 : decode b_Mod_close 47 = .ok (.getfield 108, 3) := by decide +kernel
theorem d_Mod_close_50 : decode b_Mod_close 50 = .ok (.iconst 1, 1) := by decide +kernel
theorem d_Mod_close_51 : decode b_Mod_close 51 = .ok (.isub, 1) := by decide +kernel
theorem d_Mod_close_52 : decode b_Mod_close 52 = .ok (.putfield 108, 3) := by decide +kernel
theorem d_Mod_close_55 : decode b_Mod_close 55 = .ok (.aload_n 0, 1) := by decide +kernel
theorem d_Mod_close_56 : decode b_Mod_close 56 = .ok (.getfield 108, 3) := by decide +kernel
theorem d_Mod_close_59 : decode b_Mod_close 59 = .ok (.iconst 1, 1) := by decide +kernel
theorem d_Mod_close_60 : decode b_Mod_close 60 = .ok (.iadd, 1) := by decide +kernel
theorem d_Mod_close_61 : decode b_Mod_close 61 = .ok (.ireturn, 1) := by decide +kernel
theorem d_Mod_subject_0 : decode b_Mod_subject 0 = .ok (.aload_n 0, 1) := by decide +kernel
theorem d_Mod_subject_1 : decode b_Mod_subject 1 = .ok (.invokevirtual 143, 3) := by decide +kernel
theorem d_Mod_subject_4 : decode b_Mod_subject 4 = .ok (.aload_n 0, 1) := by decide +kernel
theorem d_Mod_subject_5 : decode b_Mod_subject 5 = .ok (.getfield 72, 3) := by decide +kernel
theorem d_Mod_subject_8 : decode b_Mod_subject 8 = .ok (.sipush 200, 3) := by decide +kernel
theorem d_Mod_subject_11 : decode b_Mod_subject 11 = .ok (.if_icmp .le 6, 3) := by decide +kernel
theorem d_Mod_subject_14 : decode b_Mod_subject 14 = .ok (.bipush (-4), 2) := by decide +kernel
theorem d_Mod_subject_16 : decode b_Mod_subject 16 = .ok (.ireturn, 1) := by decide +kernel
theorem d_Mod_subject_17 : decode b_Mod_subject 17 = .ok (.aload_n 0, 1) := by decide +kernel
theorem d_Mod_subject_18 : decode b_Mod_subject 18 = .ok (.aload_n 0, 1) := by decide +kernel
theorem d_Mod_subject_19 : decode b_Mod_subject 19 = .ok (.getfield 72, 3) := by decide +kernel
theorem d_Mod_subject_22 : decode b_Mod_subject 22 = .ok (.putfield 173, 3) := by decide +kernel
theorem d_Mod_subject_25 : decode b_Mod_subject 25 = .ok (.iconst 0, 1) := by decide +kernel
theorem d_Mod_subject_26 : decode b_Mod_subject 26 = .ok (.istore_n 2, 1) := by decide +kernel
theorem d_Mod_subject_27 : decode b_Mod_subject 27 = .ok (.iload_n 2, 1) := by decide +kernel
theorem d_Mod_subject_28 : decode b_Mod_subject 28 = .ok (.aload_n 0, 1) := by decide +kernel
theorem d_Mod_subject_29 : decode b_Mod_subject 29 = .ok (.getfield 72, 3) := by decide +kernel
theorem d_Mod_subject_32 : decode b_Mod_subject 32 = .ok (.if_icmp .ge 37, 3) := by decide +kernel
theorem d_Mod_subject_35 : decode b_Mod_subject 35 = .ok (.aload_n 0, 1) := by decide +kernel
theorem d_Mod_subject_36 : decode b_Mod_subject 36 = .ok (.getfield 46, 3) := by decide +kernel
theorem d_Mod_subject_39 : decode b_Mod_subject 39 = .ok (.iload_n 2, 1) := by decide +kernel
theorem d_Mod_subject_40 : decode b_Mod_subject 40 = .ok (.iload_n 1, 1) := by decide +kernel
theorem d_Mod_subject_41 : decode b_Mod_subject 41 = .ok (.ifCond .eq 15, 3) := by decide +kernel
theorem d_Mod_subject_44 : decode b_Mod_subject 44 = .ok (.aload_n 0, 1) := by decide +kernel
theorem d_Mod_subject_45 : decode b_Mod_subject 45 = .ok (.getfield 13, 3) := by decide +kernel
theorem d_Mod_subject_48 : decode b_Mod_subject 48 = .ok (.iload_n 2, 1) := by decide +kernel
theorem d_Mod_subject_49 : decode b_Mod_subject 49 = .ok (.iaload, 1) := by decide +kernel
theorem d_Mod_subject_50 : decode b_Mod_subject 50 = .ok (.invokestatic 121, 3) := by decide +kernel
theorem d_Mod_subject_53 : decode b_Mod_subject 53 = .ok (.goto 9, 3) := by decide +kernel
theorem d_Mod_subject_56 : decode b_Mod_subject 56 = .ok (.aload_n 0, 1) := by decide +kernel
theorem d_Mod_subject_57 : decode b_Mod_subject 57 = .ok (.getfield 13, 3) := by decide +kernel
theorem d_Mod_subject_60 : decode b_Mod_subject 60 = .ok (.iload_n 2, 1) := by decide +kernel
theorem d_Mod_subject_61 : decode b_Mod_subject 61 = .ok (.iaload, 1) := by decide +kernel
theorem d_Mod_subject_62 : decode b_Mod_subject 62 = .ok (.iastore, 1) := by decide +kernel
theorem d_Mod_subject_63 : decode b_Mod_subject 63 = .ok (.iinc 2 1, 3) := by decide +kernel
theorem d_Mod_subject_66 : decode b_Mod_subject 66 = .ok (.goto (-39), 3) := by decide +kernel
theorem d_Mod_subject_69 : decode b_Mod_subject 69 = .ok (.aload_n 0, 1) := by decide +kernel
theorem d_Mod_subject_70 : decode b_Mod_subject 70 = .ok (.getfield 72, 3) := by decide +kernel
theorem d_Mod_subject_73 : decode b_Mod_subject 73 = .ok (.ireturn, 1) := by decide +kernel
theorem d_Mod_blanks_0 : decode b_Mod_blanks 0 = .ok (.aload_n 0, 1) := by decide +kernel
theorem d_Mod_blanks_1 : decode b_Mod_blanks 1 = .ok (.invokevirtual 85, 3) := by decide +kernel
theorem d_Mod_blanks_4 : decode b_Mod_blanks 4 = .ok (.bipush 32, 2) := by decide +kernel
theorem d_Mod_blanks_6 : decode b_Mod_blanks 6 = .ok (.if_icmp .ne 16, 3) := by decide +kernel
theorem d_Mod_blanks_9 : decode b_Mod_blanks 9 = .ok (.aload_n 0, 1) := by decide +kernel
theorem d_Mod_blanks_10 : decode b_Mod_blanks 10 = .ok (.dup, 1) := by decide +kernel
theorem d_Mod_blanks_11 : decode b_Mod_blanks 11 = .ok (.getfield 78, 3) := by decide +kernel
theorem d_Mod_blanks_14 : decode b_Mod_blanks 14 = .ok (.iconst 1, 1) := by decide +kernel
theorem d_Mod_blanks_15 : decode b_Mod_blanks 15 = .ok (.iadd, 1) := by decide +kernel
theorem d_Mod_blanks_16 : decode b_Mod_blanks 16 = .ok (.putfield 78, 3) := by decide +kernel
theorem d_Mod_blanks_19 : decode b_Mod_blanks 19 = .ok (.goto (-19), 3) := by decide +kernel
theorem d_Mod_blanks_22 : decode b_Mod_blanks 22 = .ok (.return_, 1) := by decide +kernel
theorem d_Mod_number_0 : decode b_Mod_number 0 = .ok (.iconst 0, 1) := by decide +kernel
theorem d_Mod_number_1 : decode b_Mod_number 1 = .ok (.istore_n 1, 1) := by decide +kernel
theorem d_Mod_number_2 : decode b_Mod_number 2 = .ok (.aload_n 0, 1) := by decide +kernel
theorem d_Mod_number_3 : decode b_Mod_number 3 = .ok (.getfield 78, 3) := by decide +kernel
theorem d_Mod_number_6 : decode b_Mod_number 6 = .ok (.istore_n 2, 1) := by decide +kernel
theorem d_Mod_number_7 : decode b_Mod_number 7 = .ok (.aload_n 0, 1) := by decide +kernel
theorem d_Mod_number_8 : decode b_Mod_number 8 = .ok (.invokevirtual 85, 3) := by decide +kernel
theorem d_Mod_number_11 : decode b_Mod_number 11 = .ok (.invokestatic 81, 3) := by decide +kernel
theorem d_Mod_number_14 : decode b_Mod_number 14 = .ok (.ifCond .ne 11, 3) := by decide +kernel
theorem d_Mod_number_17 : decode b_Mod_number 17 = .ok (.aload_n 0, 1) := by decide +kernel
theorem d_Mod_number_18 : decode b_Mod_number 18 = .ok (.aload_n 0, 1) := by decide +kernel
theorem d_Mod_number_19 : decode b_Mod_number 19 = .ok (.getfield 78, 3) := by decide +kernel
theorem d_Mod_number_22 : decode b_Mod_number 22 = .ok (.invokevirtual 92, 3) := by decide +kernel
theorem d_Mod_number_25 : decode b_Mod_number 25 = .ok (.aload_n 0, 1) := by decide +kernel
theorem d_Mod_number_26 : decode b_Mod_number 26 = .ok (.getfield 75, 3) := by decide +kernel
theorem d_Mod_number_29 : decode b_Mod_number 29 = .ok (.ifCond .ge 70, 3) := by decide +kernel
theorem d_Mod_number_32 : decode b_Mod_number 32 = .ok (.aload_n 0, 1) := by decide +kernel
theorem d_Mod_number_33 : decode b_Mod_number 33 = .ok (.invokevirtual 85, 3) := by decide +kernel
theorem d_Mod_number_36 : decode b_Mod_number 36 = .ok (.invokestatic 89, 3) := by decide +kernel
theorem d_Mod_number_39 : decode b_Mod_number 39 = .ok (.ifCond .eq 60, 3) := by decide +kernel
theorem d_Mod_number_42 : decode b_Mod_number 42 = .ok (.aload_n 0, 1) := by decide +kernel
theorem d_Mod_number_43 : decode b_Mod_number 43 = .ok (.invokevirtual 85, 3) := by decide +kernel
theorem d_Mod_number_46 : decode b_Mod_number 46 = .ok (.invokestatic 81, 3) := by decide +kernel
theorem d_Mod_number_49 : decode b_Mod_number 49 = .ok (.ifCond .eq 13, 3) := by decide +kernel
theorem d_Mod_number_52 : decode b_Mod_number 52 = .ok (.aload_n 0, 1) := by decide +kernel
theorem d_Mod_number_53 : decode b_Mod_number 53 = .ok (.getfield 78, 3) := by decide +kernel
theorem d_Mod_number_56 : decode b_Mod_number 56 = .ok (.iload_n 2, 1) := by decide +kernel
theorem d_Mod_number_57 : decode b_Mod_number 57 = .ok (.isub, 1) := by decide +kernel
theorem d_Mod_number_58 : decode b_Mod_number 58 = .ok (.iconst 4, 1) := by decide +kernel
theorem d_Mod_number_59 : decode b_Mod_number 59 = .ok (.if_icmp .ne 14, 3) := by decide +kernel
theorem d_Mod_number_62 : decode b_Mod_number 62 = .ok (.aload_n 0, 1) := by decide +kernel
theorem d_Mod_number_63 : decode b_Mod_number 63 = .ok (.aload_n 0, 1) := by decide +kernel
theorem d_Mod_number_64 : decode b_Mod_number 64 = .ok (.getfield 78, 3) := by decide +kernel
theorem d_Mod_number_67 : decode b_Mod_number 67 = .ok (.invokevirtual 92, 3) := by decide +kernel
theorem d_Mod_number_70 : decode b_Mod_number 70 = .ok (.goto (-45), 3) := by decide +kernel
theorem d_Mod_number_73 : decode b_Mod_number 73 = .ok (.bipush 10, 2) := by decide +kernel
theorem d_Mod_number_75 : decode b_Mod_number 75 = .ok (.iload_n 1, 1) := by decide +kernel
theorem d_Mod_number_76 : decode b_Mod_number 76 = .ok (.imul, 1) := by decide +kernel
theorem d_Mod_number_77 : decode b_Mod_number 77 = .ok (.aload_n 0, 1) := by decide +kernel
theorem d_Mod_number_78 : decode b_Mod_number 78 = .ok (.invokevirtual 85, 3) := by decide +kernel
theorem d_Mod_number_81 : decode b_Mod_number 81 = .ok (.iadd, 1) := by decide +kernel
theorem d_Mod_number_82 : decode b_Mod_number 82 = .ok (.bipush 48, 2) := by decide +kernel
theorem d_Mod_number_84 : decode b_Mod_number 84 = .ok (.isub, 1) := by decide +kernel
theorem d_Mod_number_85 : decode b_Mod_number 85 = .ok (.istore_n 1, 1) := by decide +kernel
theorem d_Mod_number_86 : decode b_Mod_number 86 = .ok (.aload_n 0, 1) := by decide +kernel
theorem d_Mod_number_87 : decode b_Mod_number 87 = .ok (.dup, 1) := by decide +kernel
theorem d_Mod_number_88 : decode b_Mod_number 88 = .ok (.getfield 78, 3) := by decide +kernel
theorem d_Mod_number_91 : decode b_Mod_number 91 = .ok (.iconst 1, 1) := by decide +kernel
theorem d_Mod_number_92 : decode b_Mod_number 92 = .ok (.iadd, 1) := by decide +kernel
theorem d_Mod_number_93 : decode b_Mod_number 93 = .ok (.putfield 78, 3) := by decide +kernel
theorem d_Mod_number_96 : decode b_Mod_number 96 = .ok (.goto (-71), 3) := by decide +kernel
theorem d_Mod_number_99 : decode b_Mod_number 99 = .ok (.iload_n 1, 1) := by decide +kernel
theorem d_Mod_number_100 : decode b_Mod_number 100 = .ok (.ireturn, 1) := by decide +kernel
theorem d_Mod_string_0 : decode b_Mod_string 0 = .ok (.aload_n 0, 1) := by decide +kernel
theorem d_Mod_string_1 : decode b_Mod_string 1 = .ok (.getfield 78, 3) := by decide +kernel
theorem d_Mod_string_4 : decode b_Mod_string 4 = .ok (.istore_n 1, 1) := by decide +kernel
theorem d_Mod_string_5 : decode b_Mod_string 5 = .ok (.aload_n 0, 1) := by decide +kernel
theorem d_Mod_string_6 : decode b_Mod_string 6 = .ok (.invokevirtual 85, 3) := by decide +kernel
theorem d_Mod_string_9 : decode b_Mod_string 9 = .ok (.istore_n 2, 1) := by decide +kernel
theorem d_Mod_string_10 : decode b_Mod_string 10 = .ok (.aload_n 0, 1) := by decide +kernel
theorem d_Mod_string_11 : decode b_Mod_string 11 = .ok (.iconst 0, 1) := by decide +kernel
theorem d_Mod_string_12 : decode b_Mod_string 12 = .ok (.putfield 176, 3) := by decide +kernel
theorem d_Mod_string_15 : decode b_Mod_string 15 = .ok (.aload_n 0, 1) := by decide +kernel
theorem d_Mod_string_16 : decode b_Mod_string 16 = .ok (.dup, 1) := by decide +kernel
theorem d_Mod_string_17 : decode b_Mod_string 17 = .ok (.getfield 78, 3) := by decide +kernel
theorem d_Mod_string_20 : decode b_Mod_string 20 = .ok (.iconst 1, 1) := by decide +kernel
theorem d_Mod_string_21 : decode b_Mod_string 21 = .ok (.iadd, 1) := by decide +kernel
theorem d_Mod_string_22 : decode b_Mod_string 22 = .ok (.putfield 78, 3) := by decide +kernel
theorem d_Mod_string_25 : decode b_Mod_string 25 = .ok (.iconst 1, 1) := by decide +kernel
theorem d_Mod_string_26 : decode b_Mod_string 26 = .ok (.istore_n 3, 1) := by decide +kernel
theorem d_Mod_string_27 : decode b_Mod_string 27 = .ok (.iload_n 3, 1) := by decide +kernel
theorem d_Mod_string_28 : decode b_Mod_string 28 = .ok (.ifCond .eq 155, 3) := by decide +kernel
theorem d_Mod_string_31 : decode b_Mod_string 31 = .ok (.aload_n 0, 1) := by decide +kernel
theorem d_Mod_string_32 : decode b_Mod_string 32 = .ok (.getfield 75, 3) := by decide +kernel
theorem d_Mod_string_35 : decode b_Mod_string 35 = .ok (.ifCond .ge 148, 3) := by decide +kernel
theorem d_Mod_string_38 : decode b_Mod_string 38 = .ok (.aload_n 0, 1) := by decide +kernel
theorem d_Mod_string_39 : decode b_Mod_string 39 = .ok (.invokevirtual 85, 3) := by decide +kernel
theorem d_Mod_string_42 : decode b_Mod_string 42 = .ok (.iload_n 2, 1) := by decide +kernel
theorem d_Mod_string_43 : decode b_Mod_string 43 = .ok (.if_icmp .ne 35, 3) := by decide +kernel
theorem d_Mod_string_46 : decode b_Mod_string 46 = .ok (.aload_n 0, 1) := by decide +kernel
theorem d_Mod_string_47 : decode b_Mod_string 47 = .ok (.getfield 78, 3) := by decide +kernel
theorem d_Mod_string_50 : decode b_Mod_string 50 = .ok (.iconst 1, 1) := by decide +kernel
theorem d_Mod_string_51 : decode b_Mod_string 51 = .ok (.iadd, 1) := by decide +kernel
theorem d_Mod_string_52 : decode b_Mod_string 52 = .ok (.aload_n 0, 1) := by decide +kernel
theorem d_Mod_string_53 : decode b_Mod_string 53 = .ok (.getfield 72, 3) := by decide +kernel
theorem d_Mod_string_56 : decode b_Mod_string 56 = .ok (.if_icmp .ge 22, 3) := by decide +kernel
theorem d_Mod_string_59 : decode b_Mod_string 59 = .ok (.aload_n 0, 1) := by decide +kernel
theorem d_Mod_string_60 : decode b_Mod_string 60 = .ok (.getfield 13, 3) := by decide +kernel
theorem d_Mod_string_63 : decode b_Mod_string 63 = .ok (.aload_n 0, 1) := by decide +kernel
theorem d_Mod_string_64 : decode b_Mod_string 64 = .ok (.getfield 78, 3) := by decide +kernel
theorem d_Mod_string_67 : decode b_Mod_string 67 = .ok (.iconst 1, 1) := by decide +kernel
theorem d_Mod_string_68 : decode b_Mod_string 68 = .ok (.iadd, 1) := by decide +kernel
theorem d_Mod_string_69 : decode b_Mod_string 69 = .ok (.iaload, 1) := by decide +kernel
theorem d_Mod_string_70 : decode b_Mod_string 70 = .ok (.iload_n 2, 1) := by decide +kernel
theorem d_Mod_string_71 : decode b_Mod_string 71 = .ok (.if_icmp .ne 7, 3) := by decide +kernel
theorem d_Mod_string_74 : decode b_Mod_string 74 = .ok (.iconst 1, 1) := by decide +kernel
theorem d_Mod_string_75 : decode b_Mod_string 75 = .ok (.goto 4, 3) := by decide +kernel
theorem d_Mod_string_78 : decode b_Mod_string 78 = .ok (.iconst 0, 1) := by decide +kernel
theorem d_Mod_string_79 : decode b_Mod_string 79 = .ok (.istore 4, 2) := by decide +kernel
theorem d_Mod_string_81 : decode b_Mod_string 81 = .ok (.aload_n 0, 1) := by decide +kernel
theorem d_Mod_string_82 : decode b_Mod_string 82 = .ok (.getfield 78, 3) := by decide +kernel
theorem d_Mod_string_85 : decode b_Mod_string 85 = .ok (.aload_n 0, 1) := by decide +kernel
theorem d_Mod_string_86 : decode b_Mod_string 86 = .ok (.getfield 72, 3) := by decide +kernel
theorem d_Mod_string_89 : decode b_Mod_string 89 = .ok (.if_icmp .lt 11, 3) := by decide +kernel
theorem d_Mod_string_92 : decode b_Mod_string 92 = .ok (.aload_n 0, 1) := by decide +kernel
theorem d_Mod_string_93 : decode b_Mod_string 93 = .ok (.iload_n 1, 1) := by decide +kernel
theorem d_Mod_string_94 : decode b_Mod_string 94 = .ok (.invokevirtual 92, 3) := by decide +kernel
theorem d_Mod_string_97 : decode b_Mod_string 97 = .ok (.goto 83, 3) := by decide +kernel
theorem d_Mod_string_100 : decode b_Mod_string 100 = .ok (.aload_n 0, 1) := by decide +kernel
theorem d_Mod_string_101 : decode b_Mod_string 101 = .ok (.invokevirtual 85, 3) := by decide +kernel
theorem d_Mod_string_104 : decode b_Mod_string 104 = .ok (.iload_n 2, 1) := by decide +kernel
theorem d_Mod_string_105 : decode b_Mod_string 105 = .ok (.if_icmp .ne 13, 3) := by decide +kernel
theorem d_Mod_string_108 : decode b_Mod_string 108 = .ok (.iload 4, 2) := by decide +kernel
theorem d_Mod_string_110 : decode b_Mod_string 110 = .ok (.ifCond .ne 8, 3) := by decide +kernel
theorem d_Mod_string_113 : decode b_Mod_string 113 = .ok (.iconst 0, 1) := by decide +kernel
theorem d_Mod_string_114 : decode b_Mod_string 114 = .ok (.istore_n 3, 1) := by decide +kernel
theorem d_Mod_string_115 : decode b_Mod_string 115 = .ok (.goto 65, 3) := by decide +kernel
theorem d_Mod_string_118 : decode b_Mod_string 118 = .ok (.aload_n 0, 1) := by decide +kernel
theorem d_Mod_string_119 : decode b_Mod_string 119 = .ok (.getfield 176, 3) := by decide +kernel
theorem d_Mod_string_122 : decode b_Mod_string 122 = .ok (.bipush 40, 2) := by decide +kernel
theorem d_Mod_string_124 : decode b_Mod_string 124 = .ok (.if_icmp .ne 14, 3) := by decide +kernel
theorem d_Mod_string_127 : decode b_Mod_string 127 = .ok (.aload_n 0, 1) := by decide +kernel
theorem d_Mod_string_128 : decode b_Mod_string 128 = .ok (.aload_n 0, 1) := by decide +kernel
theorem d_Mod_string_129 : decode b_Mod_string 129 = .ok (.getfield 78, 3) := by decide +kernel
theorem d_Mod_string_132 : decode b_Mod_string 132 = .ok (.invokevirtual 92, 3) := by decide +kernel
theorem d_Mod_string_135 : decode b_Mod_string 135 = .ok (.goto 45, 3) := by decide +kernel
theorem d_Mod_string_138 : decode b_Mod_string 138 = .ok (.aload_n 0, 1) := by decide +kernel
theorem d_Mod_string_139 : decode b_Mod_string 139 = .ok (.getfield 49, 3) := by decide +kernel
theorem d_Mod_string_142 : decode b_Mod_string 142 = .ok (.aload_n 0, 1) := by decide +kernel
theorem d_Mod_string_143 : decode b_Mod_string 143 = .ok (.getfield 176, 3) := by decide +kernel
theorem d_Mod_string_146 : decode b_Mod_string 146 = .ok (.aload_n 0, 1) := by decide +kernel
theorem d_Mod_string_147 : decode b_Mod_string 147 = .ok (.invokevirtual 85, 3) := by decide +kernel
theorem d_Mod_string_150 : decode b_Mod_string 150 = .ok (.iastore, 1) := by decide +kernel
theorem d_Mod_string_151 : decode b_Mod_string 151 = .ok (.aload_n 0, 1) := by decide +kernel
theorem d_Mod_string_152 : decode b_Mod_string 152 = .ok (.dup, 1) := by decide +kernel
theorem d_Mod_string_153 : decode b_Mod_string 153 = .ok (.getfield 176, 3) := by decide +kernel
theorem d_Mod_string_156 : decode b_Mod_string 156 = .ok (.iconst 1, 1) := by decide +kernel
theorem d_Mod_string_157 : decode b_Mod_string 157 = .ok (.iadd, 1) := by decide +kernel
theorem d_Mod_string_158 : decode b_Mod_string 158 = .ok (.putfield 176, 3) := by decide +kernel
theorem d_Mod_string_161 : decode b_Mod_string 161 = .ok (.aload_n 0, 1) := by decide +kernel
theorem d_Mod_string_162 : decode b_Mod_string 162 = .ok (.dup, 1) := by decide +kernel
theorem d_Mod_string_163 : decode b_Mod_string 163 = .ok (.getfield 78, 3) := by decide +kernel
theorem d_Mod_string_166 : decode b_Mod_string 166 = .ok (.iload 4, 2) := by decide +kernel
theorem d_Mod_string_168 : decode b_Mod_string 168 = .ok (.ifCond .eq 7, 3) := by decide +kernel
theorem d_Mod_string_171 : decode b_Mod_string 171 = .ok (.iconst 2, 1) := by decide +kernel
theorem d_Mod_string_172 : decode b_Mod_string 172 = .ok (.goto 4, 3) := by decide +kernel
theorem d_Mod_string_175 : decode b_Mod_string 175 = .ok (.iconst 1, 1) := by decide +kernel
theorem d_Mod_string_176 : decode b_Mod_string 176 = .ok (.iadd, 1) := by decide +kernel
theorem d_Mod_string_177 : decode b_Mod_string 177 = .ok (.putfield 78, 3) := by decide +kernel
theorem d_Mod_string_180 : decode b_Mod_string 180 = .ok (.goto (-153), 3) := by decide +kernel
theorem d_Mod_string_183 : decode b_Mod_string 183 = .ok (.aload_n 0, 1) := by decide +kernel
theorem d_Mod_string_184 : decode b_Mod_string 184 = .ok (.dup, 1) := by decide +kernel
theorem d_Mod_string_185 : decode b_Mod_string 185 = .ok (.getfield 78, 3) := by decide +kernel
theorem d_Mod_string_188 : decode b_Mod_string 188 = .ok (.iconst 1, 1) := by decide +kernel
theorem d_Mod_string_189 : decode b_Mod_string 189 = .ok (.iadd, 1) := by decide +kernel
theorem d_Mod_string_190 : decode b_Mod_string 190 = .ok (.putfield 78, 3) := by decide +kernel
theorem d_Mod_string_193 : decode b_Mod_string 193 = .ok (.return_, 1) := by decide +kernel
theorem d_Mod_token_0 : decode b_Mod_token 0 = .ok (.aload_n 0, 1) := by decide +kernel
theorem d_Mod_token_1 : decode b_Mod_token 1 = .ok (.invokevirtual 85, 3) := by decide +kernel
theorem d_Mod_token_4 : decode b_Mod_token 4 = .ok (.istore_n 1, 1) := by decide +kernel
theorem d_Mod_token_5 : decode b_Mod_token 5 = .ok (.aload_n 0, 1) := by decide +kernel
theorem d_Mod_token_6 : decode b_Mod_token 6 = .ok (.aload_n 0, 1) := by decide +kernel
theorem d_Mod_token_7 : decode b_Mod_token 7 = .ok (.getfield 78, 3) := by decide +kernel
theorem d_Mod_token_10 : decode b_Mod_token 10 = .ok (.putfield 179, 3) := by decide +kernel
theorem d_Mod_token_13 : decode b_Mod_token 13 = .ok (.iload_n 1, 1) := by decide +kernel
theorem d_Mod_token_14 : decode b_Mod_token 14 = .ok (.bipush 39, 2) := by decide +kernel
theorem d_Mod_token_16 : decode b_Mod_token 16 = .ok (.if_icmp .eq 9, 3) := by decide +kernel
theorem d_Mod_token_19 : decode b_Mod_token 19 = .ok (.iload_n 1, 1) := by decide +kernel
theorem d_Mod_token_20 : decode b_Mod_token 20 = .ok (.bipush 34, 2) := by decide +kernel
theorem d_Mod_token_22 : decode b_Mod_token 22 = .ok (.if_icmp .ne 15, 3) := by decide +kernel
theorem d_Mod_token_25 : decode b_Mod_token 25 = .ok (.aload_n 0, 1) := by decide +kernel
theorem d_Mod_token_26 : decode b_Mod_token 26 = .ok (.iconst 2, 1) := by decide +kernel
theorem d_Mod_token_27 : decode b_Mod_token 27 = .ok (.putfield 182, 3) := by decide +kernel
theorem d_Mod_token_30 : decode b_Mod_token 30 = .ok (.aload_n 0, 1) := by decide +kernel
theorem d_Mod_token_31 : decode b_Mod_token 31 = .ok (.invokevirtual 185, 3) := by decide +kernel
theorem d_Mod_token_34 : decode b_Mod_token 34 = .ok (.goto 259, 3) := by decide +kernel
theorem d_Mod_token_37 : decode b_Mod_token 37 = .ok (.iload_n 1, 1) := by decide +kernel
theorem d_Mod_token_38 : decode b_Mod_token 38 = .ok (.bipush 40, 2) := by decide +kernel
theorem d_Mod_token_40 : decode b_Mod_token 40 = .ok (.if_icmp .ne 90, 3) := by decide +kernel
theorem d_Mod_token_43 : decode b_Mod_token 43 = .ok (.aload_n 0, 1) := by decide +kernel
theorem d_Mod_token_44 : decode b_Mod_token 44 = .ok (.iconst 3, 1) := by decide +kernel
theorem d_Mod_token_45 : decode b_Mod_token 45 = .ok (.putfield 182, 3) := by decide +kernel
theorem d_Mod_token_48 : decode b_Mod_token 48 = .ok (.aload_n 0, 1) := by decide +kernel
theorem d_Mod_token_49 : decode b_Mod_token 49 = .ok (.dup, 1) := by decide +kernel
theorem d_Mod_token_50 : decode b_Mod_token 50 = .ok (.getfield 78, 3) := by decide +kernel
theorem d_Mod_token_53 : decode b_Mod_token 53 = .ok (.iconst 1, 1) := by decide +kernel
theorem d_Mod_token_54 : decode b_Mod_token 54 = .ok (.iadd, 1) := by decide +kernel
theorem d_Mod_token_55 : decode b_Mod_token 55 = .ok (.putfield 78, 3) := by decide +kernel
theorem d_Mod_token_58 : decode b_Mod_token 58 = .ok (.aload_n 0, 1) := by decide +kernel
theorem d_Mod_token_59 : decode b_Mod_token 59 = .ok (.invokevirtual 188, 3) := by decide +kernel
theorem d_Mod_token_62 : decode b_Mod_token 62 = .ok (.aload_n 0, 1) := by decide +kernel
theorem d_Mod_token_63 : decode b_Mod_token 63 = .ok (.aload_n 0, 1) := by decide +kernel
theorem d_Mod_token_64 : decode b_Mod_token 64 = .ok (.getfield 78, 3) := by decide +kernel
theorem d_Mod_token_67 : decode b_Mod_token 67 = .ok (.putfield 179, 3) := by decide +kernel
theorem d_Mod_token_70 : decode b_Mod_token 70 = .ok (.aload_n 0, 1) := by decide +kernel
theorem d_Mod_token_71 : decode b_Mod_token 71 = .ok (.invokevirtual 146, 3) := by decide +kernel
theorem d_Mod_token_74 : decode b_Mod_token 74 = .ok (.aload_n 0, 1) := by decide +kernel
theorem d_Mod_token_75 : decode b_Mod_token 75 = .ok (.aload_n 0, 1) := by decide +kernel
theorem d_Mod_token_76 : decode b_Mod_token 76 = .ok (.getfield 78, 3) := by decide +kernel
theorem d_Mod_token_79 : decode b_Mod_token 79 = .ok (.putfield 191, 3) := by decide +kernel
theorem d_Mod_token_82 : decode b_Mod_token 82 = .ok (.aload_n 0, 1) := by decide +kernel
theorem d_Mod_token_83 : decode b_Mod_token 83 = .ok (.getfield 75, 3) := by decide +kernel
theorem d_Mod_token_86 : decode b_Mod_token 86 = .ok (.ifCond .ge 7, 3) := by decide +kernel
theorem d_Mod_token_89 : decode b_Mod_token 89 = .ok (.aload_n 0, 1) := by decide +kernel
theorem d_Mod_token_90 : decode b_Mod_token 90 = .ok (.invokevirtual 188, 3) := by decide +kernel
theorem d_Mod_token_93 : decode b_Mod_token 93 = .ok (.aload_n 0, 1) := by decide +kernel
theorem d_Mod_token_94 : decode b_Mod_token 94 = .ok (.getfield 75, 3) := by decide +kernel
theorem d_Mod_token_97 : decode b_Mod_token 97 = .ok (.ifCond .ge 20, 3) := by decide +kernel
theorem d_Mod_token_100 : decode b_Mod_token 100 = .ok (.aload_n 0, 1) := by decide +kernel
theorem d_Mod_token_101 : decode b_Mod_token 101 = .ok (.invokevirtual 85, 3) := by decide +kernel
theorem d_Mod_token_104 : decode b_Mod_token 104 = .ok (.bipush 41, 2) := by decide +kernel
theorem d_Mod_token_106 : decode b_Mod_token 106 = .ok (.if_icmp .eq 11, 3) := by decide +kernel
theorem d_Mod_token_109 : decode b_Mod_token 109 = .ok (.aload_n 0, 1) := by decide +kernel
theorem d_Mod_token_110 : decode b_Mod_token 110 = .ok (.aload_n 0, 1) := by decide +kernel
theorem d_Mod_token_111 : decode b_Mod_token 111 = .ok (.getfield 78, 3) := by decide +kernel
theorem d_Mod_token_114 : decode b_Mod_token 114 = .ok (.invokevirtual 92, 3) := by decide +kernel
theorem d_Mod_token_117 : decode b_Mod_token 117 = .ok (.aload_n 0, 1) := by decide +kernel
theorem d_Mod_token_118 : decode b_Mod_token 118 = .ok (.dup, 1) := by decide +kernel
theorem d_Mod_token_119 : decode b_Mod_token 119 = .ok (.getfield 78, 3) := by decide +kernel
theorem d_Mod_token_122 : decode b_Mod_token 122 = .ok (.iconst 1, 1) := by decide +kernel
theorem d_Mod_token_123 : decode b_Mod_token 123 = .ok (.iadd, 1) := by decide +kernel
theorem d_Mod_token_124 : decode b_Mod_token 124 = .ok (.putfield 78, 3) := by decide +kernel
theorem d_Mod_token_127 : decode b_Mod_token 127 = .ok (.goto 166, 3) := by decide +kernel
theorem d_Mod_token_130 : decode b_Mod_token 130 = .ok (.iload_n 1, 1) := by decide +kernel
theorem d_Mod_token_131 : decode b_Mod_token 131 = .ok (.bipush 43, 2) := by decide +kernel
theorem d_Mod_token_133 : decode b_Mod_token 133 = .ok (.if_icmp .eq 15, 3) := by decide +kernel
theorem d_Mod_token_136 : decode b_Mod_token 136 = .ok (.iload_n 1, 1) := by decide +kernel
theorem d_Mod_token_137 : decode b_Mod_token 137 = .ok (.bipush 45, 2) := by decide +kernel
theorem d_Mod_token_139 : decode b_Mod_token 139 = .ok (.if_icmp .eq 9, 3) := by decide +kernel
theorem d_Mod_token_142 : decode b_Mod_token 142 = .ok (.iload_n 1, 1) := by decide +kernel
theorem d_Mod_token_143 : decode b_Mod_token 143 = .ok (.bipush 61, 2) := by decide +kernel
theorem d_Mod_token_145 : decode b_Mod_token 145 = .ok (.if_icmp .ne 54, 3) := by decide +kernel
theorem d_Mod_token_148 : decode b_Mod_token 148 = .ok (.aload_n 0, 1) := by decide +kernel
theorem d_Mod_token_149 : decode b_Mod_token 149 = .ok (.iload_n 1, 1) := by decide +kernel
theorem d_Mod_token_150 : decode b_Mod_token 150 = .ok (.bipush 43, 2) := by decide +kernel
theorem d_Mod_token_152 : decode b_Mod_token 152 = .ok (.if_icmp .ne 7, 3) := by decide +kernel
theorem d_Mod_token_155 : decode b_Mod_token 155 = .ok (.iconst 5, 1) := by decide +kernel
theorem d_Mod_token_156 : decode b_Mod_token 156 = .ok (.goto 15, 3) := by decide +kernel
theorem d_Mod_token_159 : decode b_Mod_token 159 = .ok (.iload_n 1, 1) := by decide +kernel
theorem d_Mod_token_160 : decode b_Mod_token 160 = .ok (.bipush 45, 2) := by decide +kernel
theorem d_Mod_token_162 : decode b_Mod_token 162 = .ok (.if_icmp .ne 8, 3) := by decide +kernel
theorem d_Mod_token_165 : decode b_Mod_token 165 = .ok (.bipush 6, 2) := by decide +kernel
theorem d_Mod_token_167 : decode b_Mod_token 167 = .ok (.goto 4, 3) := by decide +kernel
theorem d_Mod_token_170 : decode b_Mod_token 170 = .ok (.iconst 4, 1) := by decide +kernel
theorem d_Mod_token_171 : decode b_Mod_token 171 = .ok (.putfield 182, 3) := by decide +kernel
theorem d_Mod_token_174 : decode b_Mod_token 174 = .ok (.aload_n 0, 1) := by decide +kernel
theorem d_Mod_token_175 : decode b_Mod_token 175 = .ok (.dup, 1) := by decide +kernel
theorem d_Mod_token_176 : decode b_Mod_token 176 = .ok (.getfield 78, 3) := by decide +kernel
theorem d_Mod_token_179 : decode b_Mod_token 179 = .ok (.iconst 1, 1) := by decide +kernel
theorem d_Mod_token_180 : decode b_Mod_token 180 = .ok (.iadd, 1) := by decide +kernel
theorem d_Mod_token_181 : decode b_Mod_token 181 = .ok (.putfield 78, 3) := by decide +kernel
theorem d_Mod_token_184 : decode b_Mod_token 184 = .ok (.aload_n 0, 1) := by decide +kernel
theorem d_Mod_token_185 : decode b_Mod_token 185 = .ok (.invokevirtual 188, 3) := by decide +kernel
theorem d_Mod_token_188 : decode b_Mod_token 188 = .ok (.aload_n 0, 1) := by decide +kernel
theorem d_Mod_token_189 : decode b_Mod_token 189 = .ok (.aload_n 0, 1) := by decide +kernel
theorem d_Mod_token_190 : decode b_Mod_token 190 = .ok (.invokevirtual 194, 3) := by decide +kernel
theorem d_Mod_token_193 : decode b_Mod_token 193 = .ok (.putfield 197, 3) := by decide +kernel
theorem d_Mod_token_196 : decode b_Mod_token 196 = .ok (.goto 97, 3) := by decide +kernel
theorem d_Mod_token_199 : decode b_Mod_token 199 = .ok (.iload_n 1, 1) := by decide +kernel
theorem d_Mod_token_200 : decode b_Mod_token 200 = .ok (.invokestatic 81, 3) := by decide +kernel
theorem d_Mod_token_203 : decode b_Mod_token 203 = .ok (.ifCond .eq 19, 3) := by decide +kernel
theorem d_Mod_token_206 : decode b_Mod_token 206 = .ok (.aload_n 0, 1) := by decide +kernel
theorem d_Mod_token_207 : decode b_Mod_token 207 = .ok (.iconst 4, 1) := by decide +kernel
theorem d_Mod_token_208 : decode b_Mod_token 208 = .ok (.putfield 182, 3) := by decide +kernel
theorem d_Mod_token_211 : decode b_Mod_token 211 = .ok (.aload_n 0, 1) := by decide +kernel
theorem d_Mod_token_212 : decode b_Mod_token 212 = .ok (.aload_n 0, 1) := by decide +kernel
theorem d_Mod_token_213 : decode b_Mod_token 213 = .ok (.invokevirtual 194, 3) := by decide +kernel
theorem d_Mod_token_216 : decode b_Mod_token 216 = .ok (.putfield 197, 3) := by decide +kernel
theorem d_Mod_token_219 : decode b_Mod_token 219 = .ok (.goto 74, 3) := by decide +kernel
theorem d_Mod_token_222 : decode b_Mod_token 222 = .ok (.iload_n 1, 1) := by decide +kernel
theorem d_Mod_token_223 : decode b_Mod_token 223 = .ok (.bipush 46, 2) := by decide +kernel
theorem d_Mod_token_225 : decode b_Mod_token 225 = .ok (.if_icmp .ne 51, 3) := by decide +kernel
theorem d_Mod_token_228 : decode b_Mod_token 228 = .ok (.aload_n 0, 1) := by decide +kernel
theorem d_Mod_token_229 : decode b_Mod_token 229 = .ok (.getfield 78, 3) := by decide +kernel
theorem d_Mod_token_232 : decode b_Mod_token 232 = .ok (.iconst 1, 1) := by decide +kernel
theorem d_Mod_token_233 : decode b_Mod_token 233 = .ok (.iadd, 1) := by decide +kernel
theorem d_Mod_token_234 : decode b_Mod_token 234 = .ok (.aload_n 0, 1) := by decide +kernel
theorem d_Mod_token_235 : decode b_Mod_token 235 = .ok (.getfield 72, 3) := by decide +kernel
theorem d_Mod_token_238 : decode b_Mod_token 238 = .ok (.if_icmp .ge 20, 3) := by decide +kernel
theorem d_Mod_token_241 : decode b_Mod_token 241 = .ok (.aload_n 0, 1) := by decide +kernel
theorem d_Mod_token_242 : decode b_Mod_token 242 = .ok (.getfield 13, 3) := by decide +kernel
theorem d_Mod_token_245 : decode b_Mod_token 245 = .ok (.aload_n 0, 1) := by decide +kernel
theorem d_Mod_token_246 : decode b_Mod_token 246 = .ok (.getfield 78, 3) := by decide +kernel
theorem d_Mod_token_249 : decode b_Mod_token 249 = .ok (.iconst 1, 1) := by decide +kernel
theorem d_Mod_token_250 : decode b_Mod_token 250 = .ok (.iadd, 1) := by decide +kernel
theorem d_Mod_token_251 : decode b_Mod_token 251 = .ok (.iaload, 1) := by decide +kernel
theorem d_Mod_token_252 : decode b_Mod_token 252 = .ok (.invokestatic 89, 3) := by decide +kernel
theorem d_Mod_token_255 : decode b_Mod_token 255 = .ok (.ifCond .ne 21, 3) := by decide +kernel
theorem d_Mod_token_258 : decode b_Mod_token 258 = .ok (.aload_n 0, 1) := by decide +kernel
theorem d_Mod_token_259 : decode b_Mod_token 259 = .ok (.iconst 1, 1) := by decide +kernel
theorem d_Mod_token_260 : decode b_Mod_token 260 = .ok (.putfield 182, 3) := by decide +kernel
theorem d_Mod_token_263 : decode b_Mod_token 263 = .ok (.aload_n 0, 1) := by decide +kernel
theorem d_Mod_token_264 : decode b_Mod_token 264 = .ok (.dup, 1) := by decide +kernel
theorem d_Mod_token_265 : decode b_Mod_token 265 = .ok (.getfield 78, 3) := by decide +kernel
theorem d_Mod_token_268 : decode b_Mod_token 268 = .ok (.iconst 1, 1) := by decide +kernel
theorem d_Mod_token_269 : decode b_Mod_token 269 = .ok (.iadd, 1) := by decide +kernel
theorem d_Mod_token_270 : decode b_Mod_token 270 = .ok (.putfield 78, 3) := by decide +kernel
theorem d_Mod_token_273 : decode b_Mod_token 273 = .ok (.goto 20, 3) := by decide +kernel
theorem d_Mod_token_276 : decode b_Mod_token 276 = .ok (.aload_n 0, 1) := by decide +kernel
theorem d_Mod_token_277 : decode b_Mod_token 277 = .ok (.iconst 0, 1) := by decide +kernel
theorem d_Mod_token_278 : decode b_Mod_token 278 = .ok (.putfield 182, 3) := by decide +kernel
theorem d_Mod_token_281 : decode b_Mod_token 281 = .ok (.aload_n 0, 1) := by decide +kernel
theorem d_Mod_token_282 : decode b_Mod_token 282 = .ok (.invokevirtual 146, 3) := by decide +kernel
theorem d_Mod_token_285 : decode b_Mod_token 285 = .ok (.aload_n 0, 1) := by decide +kernel
theorem d_Mod_token_286 : decode b_Mod_token 286 = .ok (.aload_n 0, 1) := by decide +kernel
theorem d_Mod_token_287 : decode b_Mod_token 287 = .ok (.getfield 78, 3) := by decide +kernel
theorem d_Mod_token_290 : decode b_Mod_token 290 = .ok (.putfield 191, 3) := by decide +kernel
theorem d_Mod_token_293 : decode b_Mod_token 293 = .ok (.return_, 1) := by decide +kernel
theorem d_Mod_pattern_0 : decode b_Mod_pattern 0 = .ok (.aload_n 0, 1) := by decide +kernel
theorem d_Mod_pattern_1 : decode b_Mod_pattern 1 = .ok (.getfield 176, 3) := by decide +kernel
theorem d_Mod_pattern_4 : decode b_Mod_pattern 4 = .ok (.ifCond .ne 10, 3) := by decide +kernel
theorem d_Mod_pattern_7 : decode b_Mod_pattern 7 = .ok (.aload_n 0, 1) := by decide +kernel
theorem d_Mod_pattern_8 : decode b_Mod_pattern 8 = .ok (.getfield 173, 3) := by decide +kernel
theorem d_Mod_pattern_11 : decode b_Mod_pattern 11 = .ok (.iconst 1, 1) := by decide +kernel
theorem d_Mod_pattern_12 : decode b_Mod_pattern 12 = .ok (.iadd, 1) := by decide +kernel
theorem d_Mod_pattern_13 : decode b_Mod_pattern 13 = .ok (.ireturn, 1) := by decide +kernel
theorem d_Mod_pattern_14 : decode b_Mod_pattern 14 = .ok (.iload_n 1, 1) := by decide +kernel
theorem d_Mod_pattern_15 : decode b_Mod_pattern 15 = .ok (.istore_n 2, 1) := by decide +kernel
theorem d_Mod_pattern_16 : decode b_Mod_pattern 16 = .ok (.iload_n 2, 1) := by decide +kernel
theorem d_Mod_pattern_17 : decode b_Mod_pattern 17 = .ok (.aload_n 0, 1) := by decide +kernel
theorem d_Mod_pattern_18 : decode b_Mod_pattern 18 = .ok (.getfield 176, 3) := by decide +kernel
theorem d_Mod_pattern_21 : decode b_Mod_pattern 21 = .ok (.iadd, 1) := by decide +kernel
theorem d_Mod_pattern_22 : decode b_Mod_pattern 22 = .ok (.aload_n 0, 1) := by decide +kernel
theorem d_Mod_pattern_23 : decode b_Mod_pattern 23 = .ok (.getfield 173, 3) := by decide +kernel
theorem d_Mod_pattern_26 : decode b_Mod_pattern 26 = .ok (.iconst 1, 1) := by decide +kernel
theorem d_Mod_pattern_27 : decode b_Mod_pattern 27 = .ok (.iadd, 1) := by decide +kernel
theorem d_Mod_pattern_28 : decode b_Mod_pattern 28 = .ok (.if_icmp .gt 66, 3) := by decide +kernel
theorem d_Mod_pattern_31 : decode b_Mod_pattern 31 = .ok (.iconst 1, 1) := by decide +kernel
theorem d_Mod_pattern_32 : decode b_Mod_pattern 32 = .ok (.istore_n 3, 1) := by decide +kernel
theorem d_Mod_pattern_33 : decode b_Mod_pattern 33 = .ok (.iconst 0, 1) := by decide +kernel
theorem d_Mod_pattern_34 : decode b_Mod_pattern 34 = .ok (.istore 4, 2) := by decide +kernel
theorem d_Mod_pattern_36 : decode b_Mod_pattern 36 = .ok (.iload 4, 2) := by decide +kernel
theorem d_Mod_pattern_38 : decode b_Mod_pattern 38 = .ok (.aload_n 0, 1) := by decide +kernel
theorem d_Mod_pattern_39 : decode b_Mod_pattern 39 = .ok (.getfield 176, 3) := by decide +kernel
theorem d_Mod_pattern_42 : decode b_Mod_pattern 42 = .ok (.if_icmp .ge 40, 3) := by decide +kernel
theorem d_Mod_pattern_45 : decode b_Mod_pattern 45 = .ok (.iload_n 3, 1) := by decide +kernel
theorem d_Mod_pattern_46 : decode b_Mod_pattern 46 = .ok (.ifCond .eq 36, 3) := by decide +kernel
theorem d_Mod_pattern_49 : decode b_Mod_pattern 49 = .ok (.aload_n 0, 1) := by decide +kernel
theorem d_Mod_pattern_50 : decode b_Mod_pattern 50 = .ok (.getfield 46, 3) := by decide +kernel
theorem d_Mod_pattern_53 : decode b_Mod_pattern 53 = .ok (.iload_n 2, 1) := by decide +kernel
theorem d_Mod_pattern_54 : decode b_Mod_pattern 54 = .ok (.iconst 1, 1) := by decide +kernel
theorem d_Mod_pattern_55 : decode b_Mod_pattern 55 = .ok (.isub, 1) := by decide +kernel
theorem d_Mod_pattern_56 : decode b_Mod_pattern 56 = .ok (.iload 4, 2) := by decide +kernel
theorem d_Mod_pattern_58 : decode b_Mod_pattern 58 = .ok (.iadd, 1) := by decide +kernel
theorem d_Mod_pattern_59 : decode b_Mod_pattern 59 = .ok (.iaload, 1) := by decide +kernel
theorem d_Mod_pattern_60 : decode b_Mod_pattern 60 = .ok (.aload_n 0, 1) := by decide +kernel
theorem d_Mod_pattern_61 : decode b_Mod_pattern 61 = .ok (.getfield 49, 3) := by decide +kernel
theorem d_Mod_pattern_64 : decode b_Mod_pattern 64 = .ok (.iload 4, 2) := by decide +kernel
theorem d_Mod_pattern_66 : decode b_Mod_pattern 66 = .ok (.iaload, 1) := by decide +kernel
theorem d_Mod_pattern_67 : decode b_Mod_pattern 67 = .ok (.if_icmp .ne 7, 3) := by decide +kernel
theorem d_Mod_pattern_70 : decode b_Mod_pattern 70 = .ok (.iconst 1, 1) := by decide +kernel
theorem d_Mod_pattern_71 : decode b_Mod_pattern 71 = .ok (.goto 4, 3) := by decide +kernel
theorem d_Mod_pattern_74 : decode b_Mod_pattern 74 = .ok (.iconst 0, 1) := by decide +kernel
theorem d_Mod_pattern_75 : decode b_Mod_pattern 75 = .ok (.istore_n 3, 1) := by decide +kernel
theorem d_Mod_pattern_76 : decode b_Mod_pattern 76 = .ok (.iinc 4 1, 3) := by decide +kernel
theorem d_Mod_pattern_79 : decode b_Mod_pattern 79 = .ok (.goto (-43), 3) := by decide +kernel
theorem d_Mod_pattern_82 : decode b_Mod_pattern 82 = .ok (.iload_n 3, 1) := by decide +kernel
theorem d_Mod_pattern_83 : decode b_Mod_pattern 83 = .ok (.ifCond .eq 5, 3) := by decide +kernel
theorem d_Mod_pattern_86 : decode b_Mod_pattern 86 = .ok (.iload_n 2, 1) := by decide +kernel
theorem d_Mod_pattern_87 : decode b_Mod_pattern 87 = .ok (.ireturn, 1) := by decide +kernel
theorem d_Mod_pattern_88 : decode b_Mod_pattern 88 = .ok (.iinc 2 1, 3) := by decide +kernel
theorem d_Mod_pattern_91 : decode b_Mod_pattern 91 = .ok (.goto (-75), 3) := by decide +kernel
theorem d_Mod_pattern_94 : decode b_Mod_pattern 94 = .ok (.iconst 0, 1) := by decide +kernel
theorem d_Mod_pattern_95 : decode b_Mod_pattern 95 = .ok (.ireturn, 1) := by decide +kernel
theorem d_Mod_held_0 : decode b_Mod_held 0 = .ok (.iload_n 1, 1) := by decide +kernel
theorem d_Mod_held_1 : decode b_Mod_held 1 = .ok (.iconst 1, 1) := by decide +kernel
theorem d_Mod_held_2 : decode b_Mod_held 2 = .ok (.if_icmp .ge 7, 3) := by decide +kernel
theorem d_Mod_held_5 : decode b_Mod_held 5 = .ok (.iconst 1, 1) := by decide +kernel
theorem d_Mod_held_6 : decode b_Mod_held 6 = .ok (.goto 23, 3) := by decide +kernel
theorem d_Mod_held_9 : decode b_Mod_held 9 = .ok (.iload_n 1, 1) := by decide +kernel
theorem d_Mod_held_10 : decode b_Mod_held 10 = .ok (.aload_n 0, 1) := by decide +kernel
theorem d_Mod_held_11 : decode b_Mod_held 11 = .ok (.getfield 173, 3) := by decide +kernel
theorem d_Mod_held_14 : decode b_Mod_held 14 = .ok (.iconst 1, 1) := by decide +kernel
theorem d_Mod_held_15 : decode b_Mod_held 15 = .ok (.iadd, 1) := by decide +kernel
theorem d_Mod_held_16 : decode b_Mod_held 16 = .ok (.if_icmp .le 12, 3) := by decide +kernel
theorem d_Mod_held_19 : decode b_Mod_held 19 = .ok (.aload_n 0, 1) := by decide +kernel
theorem d_Mod_held_20 : decode b_Mod_held 20 = .ok (.getfield 173, 3) := by decide +kernel
theorem d_Mod_held_23 : decode b_Mod_held 23 = .ok (.iconst 1, 1) := by decide +kernel
theorem d_Mod_held_24 : decode b_Mod_held 24 = .ok (.iadd, 1) := by decide +kernel
theorem d_Mod_held_25 : decode b_Mod_held 25 = .ok (.goto 4, 3) := by decide +kernel
theorem d_Mod_held_28 : decode b_Mod_held 28 = .ok (.iload_n 1, 1) := by decide +kernel
theorem d_Mod_held_29 : decode b_Mod_held 29 = .ok (.ireturn, 1) := by decide +kernel
theorem d_Mod_give_0 : decode b_Mod_give 0 = .ok (.iload 4, 2) := by decide +kernel
theorem d_Mod_give_2 : decode b_Mod_give 2 = .ok (.istore 6, 2) := by decide +kernel
theorem d_Mod_give_4 : decode b_Mod_give 4 = .ok (.aload_n 0, 1) := by decide +kernel
theorem d_Mod_give_5 : decode b_Mod_give 5 = .ok (.getfield 78, 3) := by decide +kernel
theorem d_Mod_give_8 : decode b_Mod_give 8 = .ok (.istore 7, 2) := by decide +kernel
theorem d_Mod_give_10 : decode b_Mod_give 10 = .ok (.iconst 0, 1) := by decide +kernel
theorem d_Mod_give_11 : decode b_Mod_give 11 = .ok (.istore 8, 2) := by decide +kernel
theorem d_Mod_give_13 : decode b_Mod_give 13 = .ok (.aload_n 0, 1) := by decide +kernel
theorem d_Mod_give_14 : decode b_Mod_give 14 = .ok (.iload_n 1, 1) := by decide +kernel
theorem d_Mod_give_15 : decode b_Mod_give 15 = .ok (.putfield 78, 3) := by decide +kernel
theorem d_Mod_give_18 : decode b_Mod_give 18 = .ok (.iconst 0, 1) := by decide +kernel
theorem d_Mod_give_19 : decode b_Mod_give 19 = .ok (.istore 9, 2) := by decide +kernel
theorem d_Mod_give_21 : decode b_Mod_give 21 = .ok (.iload 9, 2) := by decide +kernel
theorem d_Mod_give_23 : decode b_Mod_give 23 = .ok (.iload_n 3, 1) := by decide +kernel
theorem d_Mod_give_24 : decode b_Mod_give 24 = .ok (.if_icmp .ge 181, 3) := by decide +kernel
theorem d_Mod_give_27 : decode b_Mod_give 27 = .ok (.iload 8, 2) := by decide +kernel
theorem d_Mod_give_29 : decode b_Mod_give 29 = .ok (.ifCond .ne 176, 3) := by decide +kernel
theorem d_Mod_give_32 : decode b_Mod_give 32 = .ok (.aload_n 0, 1) := by decide +kernel
theorem d_Mod_give_33 : decode b_Mod_give 33 = .ok (.invokevirtual 188, 3) := by decide +kernel
theorem d_Mod_give_36 : decode b_Mod_give 36 = .ok (.aload_n 0, 1) := by decide +kernel
theorem d_Mod_give_37 : decode b_Mod_give 37 = .ok (.invokevirtual 200, 3) := by decide +kernel
theorem d_Mod_give_40 : decode b_Mod_give 40 = .ok (.iload 6, 2) := by decide +kernel
theorem d_Mod_give_42 : decode b_Mod_give 42 = .ok (.istore 10, 2) := by decide +kernel
theorem d_Mod_give_44 : decode b_Mod_give 44 = .ok (.iload 5, 2) := by decide +kernel
theorem d_Mod_give_46 : decode b_Mod_give 46 = .ok (.istore 11, 2) := by decide +kernel
theorem d_Mod_give_48 : decode b_Mod_give 48 = .ok (.iload 9, 2) := by decide +kernel
theorem d_Mod_give_50 : decode b_Mod_give 50 = .ok (.iload_n 3, 1) := by decide +kernel
theorem d_Mod_give_51 : decode b_Mod_give 51 = .ok (.iconst 1, 1) := by decide +kernel
theorem d_Mod_give_52 : decode b_Mod_give 52 = .ok (.isub, 1) := by decide +kernel
theorem d_Mod_give_53 : decode b_Mod_give 53 = .ok (.if_icmp .ge 79, 3) := by decide +kernel
theorem d_Mod_give_56 : decode b_Mod_give 56 = .ok (.iload 10, 2) := by decide +kernel
theorem d_Mod_give_58 : decode b_Mod_give 58 = .ok (.iload 5, 2) := by decide +kernel
theorem d_Mod_give_60 : decode b_Mod_give 60 = .ok (.if_icmp .ge 23, 3) := by decide +kernel
theorem d_Mod_give_63 : decode b_Mod_give 63 = .ok (.aload_n 0, 1) := by decide +kernel
theorem d_Mod_give_64 : decode b_Mod_give 64 = .ok (.getfield 46, 3) := by decide +kernel
theorem d_Mod_give_67 : decode b_Mod_give 67 = .ok (.iload 10, 2) := by decide +kernel
theorem d_Mod_give_69 : decode b_Mod_give 69 = .ok (.iconst 1, 1) := by decide +kernel
theorem d_Mod_give_70 : decode b_Mod_give 70 = .ok (.isub, 1) := by decide +kernel
theorem d_Mod_give_71 : decode b_Mod_give 71 = .ok (.iaload, 1) := by decide +kernel
theorem d_Mod_give_72 : decode b_Mod_give 72 = .ok (.bipush 32, 2) := by decide +kernel
theorem d_Mod_give_74 : decode b_Mod_give 74 = .ok (.if_icmp .ne 9, 3) := by decide +kernel
theorem d_Mod_give_77 : decode b_Mod_give 77 = .ok (.iinc 10 1, 3) := by decide +kernel
theorem d_Mod_give_80 : decode b_Mod_give 80 = .ok (.goto (-24), 3) := by decide +kernel
theorem d_Mod_give_83 : decode b_Mod_give 83 = .ok (.iload 10, 2) := by decide +kernel
theorem d_Mod_give_85 : decode b_Mod_give 85 = .ok (.istore 11, 2) := by decide +kernel
theorem d_Mod_give_87 : decode b_Mod_give 87 = .ok (.iload 11, 2) := by decide +kernel
theorem d_Mod_give_89 : decode b_Mod_give 89 = .ok (.iload 5, 2) := by decide +kernel
theorem d_Mod_give_91 : decode b_Mod_give 91 = .ok (.if_icmp .ge 23, 3) := by decide +kernel
theorem d_Mod_give_94 : decode b_Mod_give 94 = .ok (.aload_n 0, 1) := by decide +kernel
theorem d_Mod_give_95 : decode b_Mod_give 95 = .ok (.getfield 46, 3) := by decide +kernel
theorem d_Mod_give_98 : decode b_Mod_give 98 = .ok (.iload 11, 2) := by decide +kernel
theorem d_Mod_give_100 : decode b_Mod_give 100 = .ok (.iconst 1, 1) := by decide +kernel
theorem d_Mod_give_101 : decode b_Mod_give 101 = .ok (.isub, 1) := by decide +kernel
theorem d_Mod_give_102 : decode b_Mod_give 102 = .ok (.iaload, 1) := by decide +kernel
theorem d_Mod_give_103 : decode b_Mod_give 103 = .ok (.bipush 32, 2) := by decide +kernel
theorem d_Mod_give_105 : decode b_Mod_give 105 = .ok (.if_icmp .eq 9, 3) := by decide +kernel
theorem d_Mod_give_108 : decode b_Mod_give 108 = .ok (.iinc 11 1, 3) := by decide +kernel
theorem d_Mod_give_111 : decode b_Mod_give 111 = .ok (.goto (-24), 3) := by decide +kernel
theorem d_Mod_give_114 : decode b_Mod_give 114 = .ok (.iload 11, 2) := by decide +kernel
theorem d_Mod_give_116 : decode b_Mod_give 116 = .ok (.iload 5, 2) := by decide +kernel
theorem d_Mod_give_118 : decode b_Mod_give 118 = .ok (.if_icmp .ge 10, 3) := by decide +kernel
theorem d_Mod_give_121 : decode b_Mod_give 121 = .ok (.iload 11, 2) := by decide +kernel
theorem d_Mod_give_123 : decode b_Mod_give 123 = .ok (.iconst 1, 1) := by decide +kernel
theorem d_Mod_give_124 : decode b_Mod_give 124 = .ok (.iadd, 1) := by decide +kernel
theorem d_Mod_give_125 : decode b_Mod_give 125 = .ok (.goto 5, 3) := by decide +kernel
theorem d_Mod_give_128 : decode b_Mod_give 128 = .ok (.iload 5, 2) := by decide +kernel
theorem d_Mod_give_130 : decode b_Mod_give 130 = .ok (.istore 6, 2) := by decide +kernel
theorem d_Mod_give_132 : decode b_Mod_give 132 = .ok (.aload_n 0, 1) := by decide +kernel
theorem d_Mod_give_133 : decode b_Mod_give 133 = .ok (.getfield 182, 3) := by decide +kernel
theorem d_Mod_give_136 : decode b_Mod_give 136 = .ok (.iconst 1, 1) := by decide +kernel
theorem d_Mod_give_137 : decode b_Mod_give 137 = .ok (.if_icmp .ne 6, 3) := by decide +kernel
theorem d_Mod_give_140 : decode b_Mod_give 140 = .ok (.goto 59, 3) := by decide +kernel
theorem d_Mod_give_143 : decode b_Mod_give 143 = .ok (.aload_n 0, 1) := by decide +kernel
theorem d_Mod_give_144 : decode b_Mod_give 144 = .ok (.aload_n 0, 1) := by decide +kernel
theorem d_Mod_give_145 : decode b_Mod_give 145 = .ok (.getfield 179, 3) := by decide +kernel
theorem d_Mod_give_148 : decode b_Mod_give 148 = .ok (.aload_n 0, 1) := by decide +kernel
theorem d_Mod_give_149 : decode b_Mod_give 149 = .ok (.getfield 191, 3) := by decide +kernel
theorem d_Mod_give_152 : decode b_Mod_give 152 = .ok (.invokevirtual 149, 3) := by decide +kernel
theorem d_Mod_give_155 : decode b_Mod_give 155 = .ok (.ifCond .ne 10, 3) := by decide +kernel
theorem d_Mod_give_158 : decode b_Mod_give 158 = .ok (.bipush (-2), 2) := by decide +kernel
theorem d_Mod_give_160 : decode b_Mod_give 160 = .ok (.istore 8, 2) := by decide +kernel
theorem d_Mod_give_162 : decode b_Mod_give 162 = .ok (.goto 37, 3) := by decide +kernel
theorem d_Mod_give_165 : decode b_Mod_give 165 = .ok (.aload_n 0, 1) := by decide +kernel
theorem d_Mod_give_166 : decode b_Mod_give 166 = .ok (.iconst 1, 1) := by decide +kernel
theorem d_Mod_give_167 : decode b_Mod_give 167 = .ok (.iload 10, 2) := by decide +kernel
theorem d_Mod_give_169 : decode b_Mod_give 169 = .ok (.iconst 1, 1) := by decide +kernel
theorem d_Mod_give_170 : decode b_Mod_give 170 = .ok (.isub, 1) := by decide +kernel
theorem d_Mod_give_171 : decode b_Mod_give 171 = .ok (.iload 11, 2) := by decide +kernel
theorem d_Mod_give_173 : decode b_Mod_give 173 = .ok (.iload 10, 2) := by decide +kernel
theorem d_Mod_give_175 : decode b_Mod_give 175 = .ok (.if_icmp .le 10, 3) := by decide +kernel
theorem d_Mod_give_178 : decode b_Mod_give 178 = .ok (.iload 11, 2) := by decide +kernel
theorem d_Mod_give_180 : decode b_Mod_give 180 = .ok (.iconst 1, 1) := by decide +kernel
theorem d_Mod_give_181 : decode b_Mod_give 181 = .ok (.isub, 1) := by decide +kernel
theorem d_Mod_give_182 : decode b_Mod_give 182 = .ok (.goto 7, 3) := by decide +kernel
theorem d_Mod_give_185 : decode b_Mod_give 185 = .ok (.iload 10, 2) := by decide +kernel
theorem d_Mod_give_187 : decode b_Mod_give 187 = .ok (.iconst 1, 1) := by decide +kernel
theorem d_Mod_give_188 : decode b_Mod_give 188 = .ok (.isub, 1) := by decide +kernel
theorem d_Mod_give_189 : decode b_Mod_give 189 = .ok (.invokevirtual 152, 3) := by decide +kernel
theorem d_Mod_give_192 : decode b_Mod_give 192 = .ok (.ifCond .ne 7, 3) := by decide +kernel
theorem d_Mod_give_195 : decode b_Mod_give 195 = .ok (.bipush (-4), 2) := by decide +kernel
theorem d_Mod_give_197 : decode b_Mod_give 197 = .ok (.istore 8, 2) := by decide +kernel
theorem d_Mod_give_199 : decode b_Mod_give 199 = .ok (.iinc 9 1, 3) := by decide +kernel
theorem d_Mod_give_202 : decode b_Mod_give 202 = .ok (.goto (-181), 3) := by decide +kernel
theorem d_Mod_give_205 : decode b_Mod_give 205 = .ok (.aload_n 0, 1) := by decide +kernel
theorem d_Mod_give_206 : decode b_Mod_give 206 = .ok (.iload 7, 2) := by decide +kernel
theorem d_Mod_give_208 : decode b_Mod_give 208 = .ok (.putfield 78, 3) := by decide +kernel
theorem d_Mod_give_211 : decode b_Mod_give 211 = .ok (.iload 8, 2) := by decide +kernel
theorem d_Mod_give_213 : decode b_Mod_give 213 = .ok (.ireturn, 1) := by decide +kernel
theorem d_Mod_parse_0 : decode b_Mod_parse 0 = .ok (.aload_n 0, 1) := by decide +kernel
theorem d_Mod_parse_1 : decode b_Mod_parse 1 = .ok (.invokevirtual 143, 3) := by decide +kernel
theorem d_Mod_parse_4 : decode b_Mod_parse 4 = .ok (.iconst 0, 1) := by decide +kernel
theorem d_Mod_parse_5 : decode b_Mod_parse 5 = .ok (.istore_n 1, 1) := by decide +kernel
theorem d_Mod_parse_6 : decode b_Mod_parse 6 = .ok (.aload_n 0, 1) := by decide +kernel
theorem d_Mod_parse_7 : decode b_Mod_parse 7 = .ok (.invokevirtual 188, 3) := by decide +kernel
theorem d_Mod_parse_10 : decode b_Mod_parse 10 = .ok (.aload_n 0, 1) := by decide +kernel
theorem d_Mod_parse_11 : decode b_Mod_parse 11 = .ok (.getfield 78, 3) := by decide +kernel
theorem d_Mod_parse_14 : decode b_Mod_parse 14 = .ok (.aload_n 0, 1) := by decide +kernel
theorem d_Mod_parse_15 : decode b_Mod_parse 15 = .ok (.getfield 72, 3) := by decide +kernel
theorem d_Mod_parse_18 : decode b_Mod_parse 18 = .ok (.if_icmp .ge 44, 3) := by decide +kernel
theorem d_Mod_parse_21 : decode b_Mod_parse 21 = .ok (.aload_n 0, 1) := by decide +kernel
theorem d_Mod_parse_22 : decode b_Mod_parse 22 = .ok (.getfield 75, 3) := by decide +kernel
theorem d_Mod_parse_25 : decode b_Mod_parse 25 = .ok (.ifCond .ge 37, 3) := by decide +kernel
theorem d_Mod_parse_28 : decode b_Mod_parse 28 = .ok (.aload_n 0, 1) := by decide +kernel
theorem d_Mod_parse_29 : decode b_Mod_parse 29 = .ok (.invokevirtual 200, 3) := by decide +kernel
theorem d_Mod_parse_32 : decode b_Mod_parse 32 = .ok (.iload_n 1, 1) := by decide +kernel
theorem d_Mod_parse_33 : decode b_Mod_parse 33 = .ok (.aload_n 0, 1) := by decide +kernel
theorem d_Mod_parse_34 : decode b_Mod_parse 34 = .ok (.getfield 182, 3) := by decide +kernel
theorem d_Mod_parse_37 : decode b_Mod_parse 37 = .ok (.iconst 2, 1) := by decide +kernel
theorem d_Mod_parse_38 : decode b_Mod_parse 38 = .ok (.if_icmp .ge 7, 3) := by decide +kernel
theorem d_Mod_parse_41 : decode b_Mod_parse 41 = .ok (.iconst 1, 1) := by decide +kernel
theorem d_Mod_parse_42 : decode b_Mod_parse 42 = .ok (.goto 4, 3) := by decide +kernel
theorem d_Mod_parse_45 : decode b_Mod_parse 45 = .ok (.iconst 0, 1) := by decide +kernel
theorem d_Mod_parse_46 : decode b_Mod_parse 46 = .ok (.iadd, 1) := by decide +kernel
theorem d_Mod_parse_47 : decode b_Mod_parse 47 = .ok (.istore_n 1, 1) := by decide +kernel
theorem d_Mod_parse_48 : decode b_Mod_parse 48 = .ok (.aload_n 0, 1) := by decide +kernel
theorem d_Mod_parse_49 : decode b_Mod_parse 49 = .ok (.getfield 75, 3) := by decide +kernel
theorem d_Mod_parse_52 : decode b_Mod_parse 52 = .ok (.ifCond .ge (-42), 3) := by decide +kernel
theorem d_Mod_parse_55 : decode b_Mod_parse 55 = .ok (.aload_n 0, 1) := by decide +kernel
theorem d_Mod_parse_56 : decode b_Mod_parse 56 = .ok (.invokevirtual 188, 3) := by decide +kernel
theorem d_Mod_parse_59 : decode b_Mod_parse 59 = .ok (.goto (-49), 3) := by decide +kernel
theorem d_Mod_parse_62 : decode b_Mod_parse 62 = .ok (.aload_n 0, 1) := by decide +kernel
theorem d_Mod_parse_63 : decode b_Mod_parse 63 = .ok (.getfield 75, 3) := by decide +kernel
theorem d_Mod_parse_66 : decode b_Mod_parse 66 = .ok (.ifCond .lt 12, 3) := by decide +kernel
theorem d_Mod_parse_69 : decode b_Mod_parse 69 = .ok (.sipush (-1000), 3) := by decide +kernel
theorem d_Mod_parse_72 : decode b_Mod_parse 72 = .ok (.aload_n 0, 1) := by decide +kernel
theorem d_Mod_parse_73 : decode b_Mod_parse 73 = .ok (.getfield 75, 3) := by decide +kernel
theorem d_Mod_parse_76 : decode b_Mod_parse 76 = .ok (.isub, 1) := by decide +kernel
theorem d_Mod_parse_77 : decode b_Mod_parse 77 = .ok (.ireturn, 1) := by decide +kernel
theorem d_Mod_parse_78 : decode b_Mod_parse 78 = .ok (.aload_n 0, 1) := by decide +kernel
theorem d_Mod_parse_79 : decode b_Mod_parse 79 = .ok (.iconst 1, 1) := by decide +kernel
theorem d_Mod_parse_80 : decode b_Mod_parse 80 = .ok (.putfield 52, 3) := by decide +kernel
theorem d_Mod_parse_83 : decode b_Mod_parse 83 = .ok (.aload_n 0, 1) := by decide +kernel
theorem d_Mod_parse_84 : decode b_Mod_parse 84 = .ok (.iconst 1, 1) := by decide +kernel
theorem d_Mod_parse_85 : decode b_Mod_parse 85 = .ok (.putfield 56, 3) := by decide +kernel
theorem d_Mod_parse_88 : decode b_Mod_parse 88 = .ok (.aload_n 0, 1) := by decide +kernel
theorem d_Mod_parse_89 : decode b_Mod_parse 89 = .ok (.invokevirtual 203, 3) := by decide +kernel
theorem d_Mod_parse_92 : decode b_Mod_parse 92 = .ok (.istore_n 2, 1) := by decide +kernel
theorem d_Mod_parse_93 : decode b_Mod_parse 93 = .ok (.iload_n 2, 1) := by decide +kernel
theorem d_Mod_parse_94 : decode b_Mod_parse 94 = .ok (.ifCond .ge 7, 3) := by decide +kernel
theorem d_Mod_parse_97 : decode b_Mod_parse 97 = .ok (.iload_n 2, 1) := by decide +kernel
theorem d_Mod_parse_98 : decode b_Mod_parse 98 = .ok (.goto 4, 3) := by decide +kernel
theorem d_Mod_parse_101 : decode b_Mod_parse 101 = .ok (.iload_n 1, 1) := by decide +kernel
theorem d_Mod_parse_102 : decode b_Mod_parse 102 = .ok (.ireturn, 1) := by decide +kernel
theorem d_Mod_cut_0 : decode b_Mod_cut 0 = .ok (.iconst 0, 1) := by decide +kernel
theorem d_Mod_cut_1 : decode b_Mod_cut 1 = .ok (.istore_n 1, 1) := by decide +kernel
theorem d_Mod_cut_2 : decode b_Mod_cut 2 = .ok (.iconst 0, 1) := by decide +kernel
theorem d_Mod_cut_3 : decode b_Mod_cut 3 = .ok (.istore_n 2, 1) := by decide +kernel
theorem d_Mod_cut_4 : decode b_Mod_cut 4 = .ok (.aload_n 0, 1) := by decide +kernel
theorem d_Mod_cut_5 : decode b_Mod_cut 5 = .ok (.iconst 0, 1) := by decide +kernel
theorem d_Mod_cut_6 : decode b_Mod_cut 6 = .ok (.putfield 78, 3) := by decide +kernel
theorem d_Mod_cut_9 : decode b_Mod_cut 9 = .ok (.aload_n 0, 1) := by decide +kernel
theorem d_Mod_cut_10 : decode b_Mod_cut 10 = .ok (.invokevirtual 188, 3) := by decide +kernel
theorem d_Mod_cut_13 : decode b_Mod_cut 13 = .ok (.aload_n 0, 1) := by decide +kernel
theorem d_Mod_cut_14 : decode b_Mod_cut 14 = .ok (.getfield 78, 3) := by decide +kernel
theorem d_Mod_cut_17 : decode b_Mod_cut 17 = .ok (.aload_n 0, 1) := by decide +kernel
theorem d_Mod_cut_18 : decode b_Mod_cut 18 = .ok (.getfield 72, 3) := by decide +kernel
theorem d_Mod_cut_21 : decode b_Mod_cut 21 = .ok (.if_icmp .ge 266, 3) := by decide +kernel
theorem d_Mod_cut_24 : decode b_Mod_cut 24 = .ok (.aload_n 0, 1) := by decide +kernel
theorem d_Mod_cut_25 : decode b_Mod_cut 25 = .ok (.invokevirtual 200, 3) := by decide +kernel
theorem d_Mod_cut_28 : decode b_Mod_cut 28 = .ok (.aload_n 0, 1) := by decide +kernel
theorem d_Mod_cut_29 : decode b_Mod_cut 29 = .ok (.getfield 182, 3) := by decide +kernel
theorem d_Mod_cut_32 : decode b_Mod_cut 32 = .ok (.iconst 2, 1) := by decide +kernel
theorem d_Mod_cut_33 : decode b_Mod_cut 33 = .ok (.if_icmp .ge 13, 3) := by decide +kernel
theorem d_Mod_cut_36 : decode b_Mod_cut 36 = .ok (.iinc 2 1, 3) := by decide +kernel
theorem d_Mod_cut_39 : decode b_Mod_cut 39 = .ok (.aload_n 0, 1) := by decide +kernel
theorem d_Mod_cut_40 : decode b_Mod_cut 40 = .ok (.invokevirtual 188, 3) := by decide +kernel
theorem d_Mod_cut_43 : decode b_Mod_cut 43 = .ok (.goto (-30), 3) := by decide +kernel
theorem d_Mod_cut_46 : decode b_Mod_cut 46 = .ok (.aload_n 0, 1) := by decide +kernel
theorem d_Mod_cut_47 : decode b_Mod_cut 47 = .ok (.getfield 52, 3) := by decide +kernel
theorem d_Mod_cut_50 : decode b_Mod_cut 50 = .ok (.istore_n 3, 1) := by decide +kernel
theorem d_Mod_cut_51 : decode b_Mod_cut 51 = .ok (.aload_n 0, 1) := by decide +kernel
theorem d_Mod_cut_52 : decode b_Mod_cut 52 = .ok (.getfield 52, 3) := by decide +kernel
theorem d_Mod_cut_55 : decode b_Mod_cut 55 = .ok (.istore 4, 2) := by decide +kernel
theorem d_Mod_cut_57 : decode b_Mod_cut 57 = .ok (.aload_n 0, 1) := by decide +kernel
theorem d_Mod_cut_58 : decode b_Mod_cut 58 = .ok (.getfield 52, 3) := by decide +kernel
theorem d_Mod_cut_61 : decode b_Mod_cut 61 = .ok (.istore 5, 2) := by decide +kernel
theorem d_Mod_cut_63 : decode b_Mod_cut 63 = .ok (.aload_n 0, 1) := by decide +kernel
theorem d_Mod_cut_64 : decode b_Mod_cut 64 = .ok (.getfield 182, 3) := by decide +kernel
theorem d_Mod_cut_67 : decode b_Mod_cut 67 = .ok (.iconst 4, 1) := by decide +kernel
theorem d_Mod_cut_68 : decode b_Mod_cut 68 = .ok (.if_icmp .ge 89, 3) := by decide +kernel
theorem d_Mod_cut_71 : decode b_Mod_cut 71 = .ok (.aload_n 0, 1) := by decide +kernel
theorem d_Mod_cut_72 : decode b_Mod_cut 72 = .ok (.getfield 182, 3) := by decide +kernel
theorem d_Mod_cut_75 : decode b_Mod_cut 75 = .ok (.iconst 3, 1) := by decide +kernel
theorem d_Mod_cut_76 : decode b_Mod_cut 76 = .ok (.if_icmp .ne 25, 3) := by decide +kernel
theorem d_Mod_cut_79 : decode b_Mod_cut 79 = .ok (.aload_n 0, 1) := by decide +kernel
theorem d_Mod_cut_80 : decode b_Mod_cut 80 = .ok (.aload_n 0, 1) := by decide +kernel
theorem d_Mod_cut_81 : decode b_Mod_cut 81 = .ok (.getfield 179, 3) := by decide +kernel
theorem d_Mod_cut_84 : decode b_Mod_cut 84 = .ok (.aload_n 0, 1) := by decide +kernel
theorem d_Mod_cut_85 : decode b_Mod_cut 85 = .ok (.getfield 191, 3) := by decide +kernel
theorem d_Mod_cut_88 : decode b_Mod_cut 88 = .ok (.invokevirtual 149, 3) := by decide +kernel
theorem d_Mod_cut_91 : decode b_Mod_cut 91 = .ok (.ifCond .ne 6, 3) := by decide +kernel
theorem d_Mod_cut_94 : decode b_Mod_cut 94 = .ok (.bipush (-2), 2) := by decide +kernel
theorem d_Mod_cut_96 : decode b_Mod_cut 96 = .ok (.ireturn, 1) := by decide +kernel
theorem d_Mod_cut_97 : decode b_Mod_cut 97 = .ok (.aload_n 0, 1) := by decide +kernel
theorem d_Mod_cut_98 : decode b_Mod_cut 98 = .ok (.invokevirtual 206, 3) := by decide +kernel
theorem d_Mod_cut_101 : decode b_Mod_cut 101 = .ok (.aload_n 0, 1) := by decide +kernel
theorem d_Mod_cut_102 : decode b_Mod_cut 102 = .ok (.aload_n 0, 1) := by decide +kernel
theorem d_Mod_cut_103 : decode b_Mod_cut 103 = .ok (.getfield 52, 3) := by decide +kernel
theorem d_Mod_cut_106 : decode b_Mod_cut 106 = .ok (.invokevirtual 209, 3) := by decide +kernel
theorem d_Mod_cut_109 : decode b_Mod_cut 109 = .ok (.istore_n 3, 1) := by decide +kernel
theorem d_Mod_cut_110 : decode b_Mod_cut 110 = .ok (.iload_n 3, 1) := by decide +kernel
theorem d_Mod_cut_111 : decode b_Mod_cut 111 = .ok (.ifCond .ne 12, 3) := by decide +kernel
theorem d_Mod_cut_114 : decode b_Mod_cut 114 = .ok (.aload_n 0, 1) := by decide +kernel
theorem d_Mod_cut_115 : decode b_Mod_cut 115 = .ok (.getfield 173, 3) := by decide +kernel
theorem d_Mod_cut_118 : decode b_Mod_cut 118 = .ok (.iconst 1, 1) := by decide +kernel
theorem d_Mod_cut_119 : decode b_Mod_cut 119 = .ok (.iadd, 1) := by decide +kernel
theorem d_Mod_cut_120 : decode b_Mod_cut 120 = .ok (.goto 4, 3) := by decide +kernel
theorem d_Mod_cut_123 : decode b_Mod_cut 123 = .ok (.iload_n 3, 1) := by decide +kernel
theorem d_Mod_cut_124 : decode b_Mod_cut 124 = .ok (.istore 5, 2) := by decide +kernel
theorem d_Mod_cut_126 : decode b_Mod_cut 126 = .ok (.iload_n 3, 1) := by decide +kernel
theorem d_Mod_cut_127 : decode b_Mod_cut 127 = .ok (.ifCond .ne 12, 3) := by decide +kernel
theorem d_Mod_cut_130 : decode b_Mod_cut 130 = .ok (.aload_n 0, 1) := by decide +kernel
theorem d_Mod_cut_131 : decode b_Mod_cut 131 = .ok (.getfield 173, 3) := by decide +kernel
