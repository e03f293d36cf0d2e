theorem d_Rea_readGift_45 : decode b_Rea_readGift 45 = .ok (.iconst 1, 1) := by decide +kernel
theorem d_Rea_readGift_46 : decode b_Rea_readGift 46 = .ok (.iadd, 1) := by decide +kernel
theorem d_Rea_readGift_47 : decode b_Rea_readGift 47 = .ok (.putfield 37, 3) := by decide +kernel
theorem d_Rea_readGift_50 : decode b_Rea_readGift 50 = .ok (.aload_n 0, 1) := by decide +kernel
theorem d_Rea_readGift_51 : decode b_Rea_readGift 51 = .ok (.getfield 40, 3) := by decide +kernel
theorem d_Rea_readGift_54 : decode b_Rea_readGift 54 = .ok (.ifCond .ne 33, 3) := by decide +kernel
theorem d_Rea_readGift_57 : decode b_Rea_readGift 57 = .ok (.aload_n 0, 1) := by decide +kernel
theorem d_Rea_readGift_58 : decode b_Rea_readGift 58 = .ok (.getfield 14, 3) := by decide +kernel
theorem d_Rea_readGift_61 : decode b_Rea_readGift 61 = .ok (.getfield 68, 3) := by decide +kernel
theorem d_Rea_readGift_64 : decode b_Rea_readGift 64 = .ok (.aload_n 0, 1) := by decide +kernel
theorem d_Rea_readGift_65 : decode b_Rea_readGift 65 = .ok (.getfield 37, 3) := by decide +kernel
theorem d_Rea_readGift_68 : decode b_Rea_readGift 68 = .ok (.isub, 1) := by decide +kernel
theorem d_Rea_readGift_69 : decode b_Rea_readGift 69 = .ok (.sipush 200, 3) := by decide +kernel
theorem d_Rea_readGift_72 : decode b_Rea_readGift 72 = .ok (.if_icmp .le 15, 3) := by decide +kernel
theorem d_Rea_readGift_75 : decode b_Rea_readGift 75 = .ok (.aload_n 0, 1) := by decide +kernel
theorem d_Rea_readGift_76 : decode b_Rea_readGift 76 = .ok (.aload_n 0, 1) := by decide +kernel
theorem d_Rea_readGift_77 : decode b_Rea_readGift 77 = .ok (.getfield 37, 3) := by decide +kernel
theorem d_Rea_readGift_80 : decode b_Rea_readGift 80 = .ok (.sipush 200, 3) := by decide +kernel
theorem d_Rea_readGift_83 : decode b_Rea_readGift 83 = .ok (.iadd, 1) := by decide +kernel
theorem d_Rea_readGift_84 : decode b_Rea_readGift 84 = .ok (.invokevirtual 71, 3) := by decide +kernel
theorem d_Rea_readGift_87 : decode b_Rea_readGift 87 = .ok (.aload_n 0, 1) := by decide +kernel
theorem d_Rea_readGift_88 : decode b_Rea_readGift 88 = .ok (.getfield 40, 3) := by decide +kernel
theorem d_Rea_readGift_91 : decode b_Rea_readGift 91 = .ok (.ireturn, 1) := by decide +kernel
theorem d_Rea_readVariables_0 : decode b_Rea_readVariables 0 = .ok (.aload_n 0, 1) := by decide +kernel
theorem d_Rea_readVariables_1 : decode b_Rea_readVariables 1 = .ok (.invokevirtual 62, 3) := by decide +kernel
theorem d_Rea_readVariables_4 : decode b_Rea_readVariables 4 = .ok (.aload_n 0, 1) := by decide +kernel
theorem d_Rea_readVariables_5 : decode b_Rea_readVariables 5 = .ok (.getfield 14, 3) := by decide +kernel
theorem d_Rea_readVariables_8 : decode b_Rea_readVariables 8 = .ok (.getfield 68, 3) := by decide +kernel
theorem d_Rea_readVariables_11 : decode b_Rea_readVariables 11 = .ok (.ifCond .le 7, 3) := by decide +kernel
theorem d_Rea_readVariables_14 : decode b_Rea_readVariables 14 = .ok (.iconst 1, 1) := by decide +kernel
theorem d_Rea_readVariables_15 : decode b_Rea_readVariables 15 = .ok (.goto 4, 3) := by decide +kernel
theorem d_Rea_readVariables_18 : decode b_Rea_readVariables 18 = .ok (.iconst 0, 1) := by decide +kernel
theorem d_Rea_readVariables_19 : decode b_Rea_readVariables 19 = .ok (.istore_n 2, 1) := by decide +kernel
theorem d_Rea_readVariables_20 : decode b_Rea_readVariables 20 = .ok (.iconst 0, 1) := by decide +kernel
theorem d_Rea_readVariables_21 : decode b_Rea_readVariables 21 = .ok (.istore_n 3, 1) := by decide +kernel
theorem d_Rea_readVariables_22 : decode b_Rea_readVariables 22 = .ok (.iload_n 3, 1) := by decide +kernel
theorem d_Rea_readVariables_23 : decode b_Rea_readVariables 23 = .ok (.iload_n 1, 1) := by decide +kernel
theorem d_Rea_readVariables_24 : decode b_Rea_readVariables 24 = .ok (.if_icmp .ge 89, 3) := by decide +kernel
theorem d_Rea_readVariables_27 : decode b_Rea_readVariables 27 = .ok (.iload_n 2, 1) := by decide +kernel
theorem d_Rea_readVariables_28 : decode b_Rea_readVariables 28 = .ok (.ifCond .eq 85, 3) := by decide +kernel
theorem d_Rea_readVariables_31 : decode b_Rea_readVariables 31 = .ok (.aload_n 0, 1) := by decide +kernel
theorem d_Rea_readVariables_32 : decode b_Rea_readVariables 32 = .ok (.iconst 1, 1) := by decide +kernel
theorem d_Rea_readVariables_33 : decode b_Rea_readVariables 33 = .ok (.invokevirtual 65, 3) := by decide +kernel
theorem d_Rea_readVariables_36 : decode b_Rea_readVariables 36 = .ok (.aload_n 0, 1) := by decide +kernel
theorem d_Rea_readVariables_37 : decode b_Rea_readVariables 37 = .ok (.getfield 40, 3) := by decide +kernel
theorem d_Rea_readVariables_40 : decode b_Rea_readVariables 40 = .ok (.ifCond .ne 21, 3) := by decide +kernel
theorem d_Rea_readVariables_43 : decode b_Rea_readVariables 43 = .ok (.aload_n 0, 1) := by decide +kernel
theorem d_Rea_readVariables_44 : decode b_Rea_readVariables 44 = .ok (.getfield 37, 3) := by decide +kernel
theorem d_Rea_readVariables_47 : decode b_Rea_readVariables 47 = .ok (.aload_n 0, 1) := by decide +kernel
theorem d_Rea_readVariables_48 : decode b_Rea_readVariables 48 = .ok (.getfield 14, 3) := by decide +kernel
theorem d_Rea_readVariables_51 : decode b_Rea_readVariables 51 = .ok (.getfield 68, 3) := by decide +kernel
theorem d_Rea_readVariables_54 : decode b_Rea_readVariables 54 = .ok (.if_icmp .ge 7, 3) := by decide +kernel
theorem d_Rea_readVariables_57 : decode b_Rea_readVariables 57 = .ok (.iconst 1, 1) := by decide +kernel
theorem d_Rea_readVariables_58 : decode b_Rea_readVariables 58 = .ok (.goto 4, 3) := by decide +kernel
theorem d_Rea_readVariables_61 : decode b_Rea_readVariables 61 = .ok (.iconst 0, 1) := by decide +kernel
theorem d_Rea_readVariables_62 : decode b_Rea_readVariables 62 = .ok (.istore_n 2, 1) := by decide +kernel
theorem d_Rea_readVariables_63 : decode b_Rea_readVariables 63 = .ok (.iload_n 2, 1) := by decide +kernel
theorem d_Rea_readVariables_64 : decode b_Rea_readVariables 64 = .ok (.ifCond .eq 29, 3) := by decide +kernel
theorem d_Rea_readVariables_67 : decode b_Rea_readVariables 67 = .ok (.aload_n 0, 1) := by decide +kernel
theorem d_Rea_readVariables_68 : decode b_Rea_readVariables 68 = .ok (.getfield 14, 3) := by decide +kernel
theorem d_Rea_readVariables_71 : decode b_Rea_readVariables 71 = .ok (.aload_n 0, 1) := by decide +kernel
theorem d_Rea_readVariables_72 : decode b_Rea_readVariables 72 = .ok (.getfield 37, 3) := by decide +kernel
theorem d_Rea_readVariables_75 : decode b_Rea_readVariables 75 = .ok (.invokevirtual 53, 3) := by decide +kernel
theorem d_Rea_readVariables_78 : decode b_Rea_readVariables 78 = .ok (.bipush 32, 2) := by decide +kernel
theorem d_Rea_readVariables_80 : decode b_Rea_readVariables 80 = .ok (.if_icmp .eq 13, 3) := by decide +kernel
theorem d_Rea_readVariables_83 : decode b_Rea_readVariables 83 = .ok (.aload_n 0, 1) := by decide +kernel
theorem d_Rea_readVariables_84 : decode b_Rea_readVariables 84 = .ok (.aload_n 0, 1) := by decide +kernel
theorem d_Rea_readVariables_85 : decode b_Rea_readVariables 85 = .ok (.getfield 37, 3) := by decide +kernel
theorem d_Rea_readVariables_88 : decode b_Rea_readVariables 88 = .ok (.invokevirtual 71, 3) := by decide +kernel
theorem d_Rea_readVariables_91 : decode b_Rea_readVariables 91 = .ok (.iconst 0, 1) := by decide +kernel
theorem d_Rea_readVariables_92 : decode b_Rea_readVariables 92 = .ok (.istore_n 2, 1) := by decide +kernel
theorem d_Rea_readVariables_93 : decode b_Rea_readVariables 93 = .ok (.iload_n 2, 1) := by decide +kernel
theorem d_Rea_readVariables_94 : decode b_Rea_readVariables 94 = .ok (.ifCond .eq 13, 3) := by decide +kernel
theorem d_Rea_readVariables_97 : decode b_Rea_readVariables 97 = .ok (.aload_n 0, 1) := by decide +kernel
theorem d_Rea_readVariables_98 : decode b_Rea_readVariables 98 = .ok (.dup, 1) := by decide +kernel
theorem d_Rea_readVariables_99 : decode b_Rea_readVariables 99 = .ok (.getfield 37, 3) := by decide +kernel
theorem d_Rea_readVariables_102 : decode b_Rea_readVariables 102 = .ok (.iconst 1, 1) := by decide +kernel
theorem d_Rea_readVariables_103 : decode b_Rea_readVariables 103 = .ok (.iadd, 1) := by decide +kernel
theorem d_Rea_readVariables_104 : decode b_Rea_readVariables 104 = .ok (.putfield 37, 3) := by decide +kernel
theorem d_Rea_readVariables_107 : decode b_Rea_readVariables 107 = .ok (.iinc 3 1, 3) := by decide +kernel
theorem d_Rea_readVariables_110 : decode b_Rea_readVariables 110 = .ok (.goto (-88), 3) := by decide +kernel
theorem d_Rea_readVariables_113 : decode b_Rea_readVariables 113 = .ok (.iload_n 2, 1) := by decide +kernel
theorem d_Rea_readVariables_114 : decode b_Rea_readVariables 114 = .ok (.ifCond .eq 11, 3) := by decide +kernel
theorem d_Rea_readVariables_117 : decode b_Rea_readVariables 117 = .ok (.aload_n 0, 1) := by decide +kernel
theorem d_Rea_readVariables_118 : decode b_Rea_readVariables 118 = .ok (.aload_n 0, 1) := by decide +kernel
theorem d_Rea_readVariables_119 : decode b_Rea_readVariables 119 = .ok (.getfield 37, 3) := by decide +kernel
theorem d_Rea_readVariables_122 : decode b_Rea_readVariables 122 = .ok (.invokevirtual 71, 3) := by decide +kernel
theorem d_Rea_readVariables_125 : decode b_Rea_readVariables 125 = .ok (.aload_n 0, 1) := by decide +kernel
theorem d_Rea_readVariables_126 : decode b_Rea_readVariables 126 = .ok (.getfield 40, 3) := by decide +kernel
theorem d_Rea_readVariables_129 : decode b_Rea_readVariables 129 = .ok (.ireturn, 1) := by decide +kernel
theorem d_Rea_readTemplate_0 : decode b_Rea_readTemplate 0 = .ok (.aload_n 0, 1) := by decide +kernel
theorem d_Rea_readTemplate_1 : decode b_Rea_readTemplate 1 = .ok (.invokevirtual 62, 3) := by decide +kernel
theorem d_Rea_readTemplate_4 : decode b_Rea_readTemplate 4 = .ok (.iconst 0, 1) := by decide +kernel
theorem d_Rea_readTemplate_5 : decode b_Rea_readTemplate 5 = .ok (.istore_n 1, 1) := by decide +kernel
theorem d_Rea_readTemplate_6 : decode b_Rea_readTemplate 6 = .ok (.iload_n 1, 1) := by decide +kernel
theorem d_Rea_readTemplate_7 : decode b_Rea_readTemplate 7 = .ok (.sipush 600, 3) := by decide +kernel
theorem d_Rea_readTemplate_10 : decode b_Rea_readTemplate 10 = .ok (.if_icmp .ge 34, 3) := by decide +kernel
theorem d_Rea_readTemplate_13 : decode b_Rea_readTemplate 13 = .ok (.aload_n 0, 1) := by decide +kernel
theorem d_Rea_readTemplate_14 : decode b_Rea_readTemplate 14 = .ok (.getfield 37, 3) := by decide +kernel
theorem d_Rea_readTemplate_17 : decode b_Rea_readTemplate 17 = .ok (.aload_n 0, 1) := by decide +kernel
theorem d_Rea_readTemplate_18 : decode b_Rea_readTemplate 18 = .ok (.getfield 14, 3) := by decide +kernel
theorem d_Rea_readTemplate_21 : decode b_Rea_readTemplate 21 = .ok (.getfield 68, 3) := by decide +kernel
theorem d_Rea_readTemplate_24 : decode b_Rea_readTemplate 24 = .ok (.if_icmp .ge 20, 3) := by decide +kernel
theorem d_Rea_readTemplate_27 : decode b_Rea_readTemplate 27 = .ok (.aload_n 0, 1) := by decide +kernel
theorem d_Rea_readTemplate_28 : decode b_Rea_readTemplate 28 = .ok (.getfield 40, 3) := by decide +kernel
theorem d_Rea_readTemplate_31 : decode b_Rea_readTemplate 31 = .ok (.ifCond .ne 13, 3) := by decide +kernel
theorem d_Rea_readTemplate_34 : decode b_Rea_readTemplate 34 = .ok (.aload_n 0, 1) := by decide +kernel
theorem d_Rea_readTemplate_35 : decode b_Rea_readTemplate 35 = .ok (.invokevirtual 74, 3) := by decide +kernel
theorem d_Rea_readTemplate_38 : decode b_Rea_readTemplate 38 = .ok (.iinc 1 1, 3) := by decide +kernel
theorem d_Rea_readTemplate_41 : decode b_Rea_readTemplate 41 = .ok (.goto (-35), 3) := by decide +kernel
theorem d_Rea_readTemplate_44 : decode b_Rea_readTemplate 44 = .ok (.aload_n 0, 1) := by decide +kernel
theorem d_Rea_readTemplate_45 : decode b_Rea_readTemplate 45 = .ok (.getfield 40, 3) := by decide +kernel
theorem d_Rea_readTemplate_48 : decode b_Rea_readTemplate 48 = .ok (.ireturn, 1) := by decide +kernel
theorem d_Rea_readToken_0 : decode b_Rea_readToken 0 = .ok (.aload_n 0, 1) := by decide +kernel
theorem d_Rea_readToken_1 : decode b_Rea_readToken 1 = .ok (.getfield 14, 3) := by decide +kernel
theorem d_Rea_readToken_4 : decode b_Rea_readToken 4 = .ok (.aload_n 0, 1) := by decide +kernel
theorem d_Rea_readToken_5 : decode b_Rea_readToken 5 = .ok (.getfield 37, 3) := by decide +kernel
theorem d_Rea_readToken_8 : decode b_Rea_readToken 8 = .ok (.invokevirtual 53, 3) := by decide +kernel
theorem d_Rea_readToken_11 : decode b_Rea_readToken 11 = .ok (.istore_n 1, 1) := by decide +kernel
theorem d_Rea_readToken_12 : decode b_Rea_readToken 12 = .ok (.iload_n 1, 1) := by decide +kernel
theorem d_Rea_readToken_13 : decode b_Rea_readToken 13 = .ok (.lookupswitch (121) #[(32, 67), (34, 80), (39, 80), (40, 88), (43, 103), (45, 112), (61, 95)], 67) := by decide +kernel
theorem d_Rea_readToken_80 : decode b_Rea_readToken 80 = .ok (.aload_n 0, 1) := by decide +kernel
theorem d_Rea_readToken_81 : decode b_Rea_readToken 81 = .ok (.dup, 1) := by decide +kernel
theorem d_Rea_readToken_82 : decode b_Rea_readToken 82 = .ok (.getfield 37, 3) := by decide +kernel
theorem d_Rea_readToken_85 : decode b_Rea_readToken 85 = .ok (.iconst 1, 1) := by decide +kernel
theorem d_Rea_readToken_86 : decode b_Rea_readToken 86 = .ok (.iadd, 1) := by decide +kernel
theorem d_Rea_readToken_87 : decode b_Rea_readToken 87 = .ok (.putfield 37, 3) := by decide +kernel
theorem d_Rea_readToken_90 : decode b_Rea_readToken 90 = .ok (.goto 49, 3) := by decide +kernel
theorem d_Rea_readToken_93 : decode b_Rea_readToken 93 = .ok (.aload_n 0, 1) := by decide +kernel
theorem d_Rea_readToken_94 : decode b_Rea_readToken 94 = .ok (.iload_n 1, 1) := by decide +kernel
theorem d_Rea_readToken_95 : decode b_Rea_readToken 95 = .ok (.invokevirtual 77, 3) := by decide +kernel
theorem d_Rea_readToken_98 : decode b_Rea_readToken 98 = .ok (.goto 41, 3) := by decide +kernel
theorem d_Rea_readToken_101 : decode b_Rea_readToken 101 = .ok (.aload_n 0, 1) := by decide +kernel
theorem d_Rea_readToken_102 : decode b_Rea_readToken 102 = .ok (.invokevirtual 80, 3) := by decide +kernel
theorem d_Rea_readToken_105 : decode b_Rea_readToken 105 = .ok (.goto 34, 3) := by decide +kernel
theorem d_Rea_readToken_108 : decode b_Rea_readToken 108 = .ok (.aload_n 0, 1) := by decide +kernel
theorem d_Rea_readToken_109 : decode b_Rea_readToken 109 = .ok (.iconst 5, 1) := by decide +kernel
theorem d_Rea_readToken_110 : decode b_Rea_readToken 110 = .ok (.invokevirtual 83, 3) := by decide +kernel
theorem d_Rea_readToken_113 : decode b_Rea_readToken 113 = .ok (.goto 26, 3) := by decide +kernel
theorem d_Rea_readToken_116 : decode b_Rea_readToken 116 = .ok (.aload_n 0, 1) := by decide +kernel
theorem d_Rea_readToken_117 : decode b_Rea_readToken 117 = .ok (.bipush 6, 2) := by decide +kernel
theorem d_Rea_readToken_119 : decode b_Rea_readToken 119 = .ok (.invokevirtual 83, 3) := by decide +kernel
theorem d_Rea_readToken_122 : decode b_Rea_readToken 122 = .ok (.goto 17, 3) := by decide +kernel
theorem d_Rea_readToken_125 : decode b_Rea_readToken 125 = .ok (.aload_n 0, 1) := by decide +kernel
theorem d_Rea_readToken_126 : decode b_Rea_readToken 126 = .ok (.bipush 7, 2) := by decide +kernel
theorem d_Rea_readToken_128 : decode b_Rea_readToken 128 = .ok (.invokevirtual 83, 3) := by decide +kernel
theorem d_Rea_readToken_131 : decode b_Rea_readToken 131 = .ok (.goto 8, 3) := by decide +kernel
theorem d_Rea_readToken_134 : decode b_Rea_readToken 134 = .ok (.aload_n 0, 1) := by decide +kernel
theorem d_Rea_readToken_135 : decode b_Rea_readToken 135 = .ok (.iload_n 1, 1) := by decide +kernel
theorem d_Rea_readToken_136 : decode b_Rea_readToken 136 = .ok (.invokevirtual 86, 3) := by decide +kernel
theorem d_Rea_readToken_139 : decode b_Rea_readToken 139 = .ok (.return_, 1) := by decide +kernel
theorem d_Rea_readBareToken_0 : decode b_Rea_readBareToken 0 = .ok (.iload_n 1, 1) := by decide +kernel
theorem d_Rea_readBareToken_1 : decode b_Rea_readBareToken 1 = .ok (.invokestatic 89, 3) := by decide +kernel
theorem d_Rea_readBareToken_4 : decode b_Rea_readBareToken 4 = .ok (.ifCond .eq 11, 3) := by decide +kernel
theorem d_Rea_readBareToken_7 : decode b_Rea_readBareToken 7 = .ok (.aload_n 0, 1) := by decide +kernel
theorem d_Rea_readBareToken_8 : decode b_Rea_readBareToken 8 = .ok (.iconst 5, 1) := by decide +kernel
theorem d_Rea_readBareToken_9 : decode b_Rea_readBareToken 9 = .ok (.invokevirtual 92, 3) := by decide +kernel
theorem d_Rea_readBareToken_12 : decode b_Rea_readBareToken 12 = .ok (.goto 81, 3) := by decide +kernel
theorem d_Rea_readBareToken_15 : decode b_Rea_readBareToken 15 = .ok (.iload_n 1, 1) := by decide +kernel
theorem d_Rea_readBareToken_16 : decode b_Rea_readBareToken 16 = .ok (.bipush 46, 2) := by decide +kernel
theorem d_Rea_readBareToken_18 : decode b_Rea_readBareToken 18 = .ok (.if_icmp .ne 60, 3) := by decide +kernel
theorem d_Rea_readBareToken_21 : decode b_Rea_readBareToken 21 = .ok (.aload_n 0, 1) := by decide +kernel
theorem d_Rea_readBareToken_22 : decode b_Rea_readBareToken 22 = .ok (.getfield 14, 3) := by decide +kernel
theorem d_Rea_readBareToken_25 : decode b_Rea_readBareToken 25 = .ok (.aload_n 0, 1) := by decide +kernel
theorem d_Rea_readBareToken_26 : decode b_Rea_readBareToken 26 = .ok (.getfield 37, 3) := by decide +kernel
theorem d_Rea_readBareToken_29 : decode b_Rea_readBareToken 29 = .ok (.iconst 1, 1) := by decide +kernel
theorem d_Rea_readBareToken_30 : decode b_Rea_readBareToken 30 = .ok (.iadd, 1) := by decide +kernel
theorem d_Rea_readBareToken_31 : decode b_Rea_readBareToken 31 = .ok (.invokevirtual 53, 3) := by decide +kernel
theorem d_Rea_readBareToken_34 : decode b_Rea_readBareToken 34 = .ok (.invokestatic 95, 3) := by decide +kernel
theorem d_Rea_readBareToken_37 : decode b_Rea_readBareToken 37 = .ok (.ifCond .ne 41, 3) := by decide +kernel
theorem d_Rea_readBareToken_40 : decode b_Rea_readBareToken 40 = .ok (.aload_n 0, 1) := by decide +kernel
theorem d_Rea_readBareToken_41 : decode b_Rea_readBareToken 41 = .ok (.iconst 2, 1) := by decide +kernel
theorem d_Rea_readBareToken_42 : decode b_Rea_readBareToken 42 = .ok (.aload_n 0, 1) := by decide +kernel
theorem d_Rea_readBareToken_43 : decode b_Rea_readBareToken 43 = .ok (.getfield 37, 3) := by decide +kernel
theorem d_Rea_readBareToken_46 : decode b_Rea_readBareToken 46 = .ok (.aload_n 0, 1) := by decide +kernel
theorem d_Rea_readBareToken_47 : decode b_Rea_readBareToken 47 = .ok (.getfield 37, 3) := by decide +kernel
theorem d_Rea_readBareToken_50 : decode b_Rea_readBareToken 50 = .ok (.iconst 1, 1) := by decide +kernel
theorem d_Rea_readBareToken_51 : decode b_Rea_readBareToken 51 = .ok (.iadd, 1) := by decide +kernel
theorem d_Rea_readBareToken_52 : decode b_Rea_readBareToken 52 = .ok (.invokevirtual 98, 3) := by decide +kernel
theorem d_Rea_readBareToken_55 : decode b_Rea_readBareToken 55 = .ok (.aload_n 0, 1) := by decide +kernel
theorem d_Rea_readBareToken_56 : decode b_Rea_readBareToken 56 = .ok (.dup, 1) := by decide +kernel
theorem d_Rea_readBareToken_57 : decode b_Rea_readBareToken 57 = .ok (.getfield 34, 3) := by decide +kernel
theorem d_Rea_readBareToken_60 : decode b_Rea_readBareToken 60 = .ok (.iconst 1, 1) := by decide +kernel
theorem d_Rea_readBareToken_61 : decode b_Rea_readBareToken 61 = .ok (.iadd, 1) := by decide +kernel
theorem d_Rea_readBareToken_62 : decode b_Rea_readBareToken 62 = .ok (.putfield 34, 3) := by decide +kernel
theorem d_Rea_readBareToken_65 : decode b_Rea_readBareToken 65 = .ok (.aload_n 0, 1) := by decide +kernel
theorem d_Rea_readBareToken_66 : decode b_Rea_readBareToken 66 = .ok (.dup, 1) := by decide +kernel
theorem d_Rea_readBareToken_67 : decode b_Rea_readBareToken 67 = .ok (.getfield 37, 3) := by decide +kernel
theorem d_Rea_readBareToken_70 : decode b_Rea_readBareToken 70 = .ok (.iconst 1, 1) := by decide +kernel
theorem d_Rea_readBareToken_71 : decode b_Rea_readBareToken 71 = .ok (.iadd, 1) := by decide +kernel
theorem d_Rea_readBareToken_72 : decode b_Rea_readBareToken 72 = .ok (.putfield 37, 3) := by decide +kernel
theorem d_Rea_readBareToken_75 : decode b_Rea_readBareToken 75 = .ok (.goto 18, 3) := by decide +kernel
theorem d_Rea_readBareToken_78 : decode b_Rea_readBareToken 78 = .ok (.aload_n 0, 1) := by decide +kernel
theorem d_Rea_readBareToken_79 : decode b_Rea_readBareToken 79 = .ok (.iconst 1, 1) := by decide +kernel
theorem d_Rea_readBareToken_80 : decode b_Rea_readBareToken 80 = .ok (.invokevirtual 65, 3) := by decide +kernel
theorem d_Rea_readBareToken_83 : decode b_Rea_readBareToken 83 = .ok (.aload_n 0, 1) := by decide +kernel
theorem d_Rea_readBareToken_84 : decode b_Rea_readBareToken 84 = .ok (.dup, 1) := by decide +kernel
theorem d_Rea_readBareToken_85 : decode b_Rea_readBareToken 85 = .ok (.getfield 34, 3) := by decide +kernel
theorem d_Rea_readBareToken_88 : decode b_Rea_readBareToken 88 = .ok (.iconst 1, 1) := by decide +kernel
theorem d_Rea_readBareToken_89 : decode b_Rea_readBareToken 89 = .ok (.iadd, 1) := by decide +kernel
theorem d_Rea_readBareToken_90 : decode b_Rea_readBareToken 90 = .ok (.putfield 34, 3) := by decide +kernel
theorem d_Rea_readBareToken_93 : decode b_Rea_readBareToken 93 = .ok (.return_, 1) := by decide +kernel
theorem d_Rea_readVariable_0 : decode b_Rea_readVariable 0 = .ok (.aload_n 0, 1) := by decide +kernel
theorem d_Rea_readVariable_1 : decode b_Rea_readVariable 1 = .ok (.getfield 37, 3) := by decide +kernel
theorem d_Rea_readVariable_4 : decode b_Rea_readVariable 4 = .ok (.istore_n 2, 1) := by decide +kernel
theorem d_Rea_readVariable_5 : decode b_Rea_readVariable 5 = .ok (.aload_n 0, 1) := by decide +kernel
theorem d_Rea_readVariable_6 : decode b_Rea_readVariable 6 = .ok (.getfield 14, 3) := by decide +kernel
theorem d_Rea_readVariable_9 : decode b_Rea_readVariable 9 = .ok (.aload_n 0, 1) := by decide +kernel
theorem d_Rea_readVariable_10 : decode b_Rea_readVariable 10 = .ok (.getfield 37, 3) := by decide +kernel
theorem d_Rea_readVariable_13 : decode b_Rea_readVariable 13 = .ok (.invokevirtual 53, 3) := by decide +kernel
theorem d_Rea_readVariable_16 : decode b_Rea_readVariable 16 = .ok (.istore_n 3, 1) := by decide +kernel
theorem d_Rea_readVariable_17 : decode b_Rea_readVariable 17 = .ok (.iload_n 3, 1) := by decide +kernel
theorem d_Rea_readVariable_18 : decode b_Rea_readVariable 18 = .ok (.invokestatic 95, 3) := by decide +kernel
theorem d_Rea_readVariable_21 : decode b_Rea_readVariable 21 = .ok (.ifCond .eq 16, 3) := by decide +kernel
theorem d_Rea_readVariable_24 : decode b_Rea_readVariable 24 = .ok (.iload_n 3, 1) := by decide +kernel
theorem d_Rea_readVariable_25 : decode b_Rea_readVariable 25 = .ok (.invokestatic 89, 3) := by decide +kernel
theorem d_Rea_readVariable_28 : decode b_Rea_readVariable 28 = .ok (.ifCond .ne 9, 3) := by decide +kernel
theorem d_Rea_readVariable_31 : decode b_Rea_readVariable 31 = .ok (.iload_n 3, 1) := by decide +kernel
theorem d_Rea_readVariable_32 : decode b_Rea_readVariable 32 = .ok (.bipush 46, 2) := by decide +kernel
theorem d_Rea_readVariable_34 : decode b_Rea_readVariable 34 = .ok (.if_icmp .ne 12, 3) := by decide +kernel
theorem d_Rea_readVariable_37 : decode b_Rea_readVariable 37 = .ok (.aload_n 0, 1) := by decide +kernel
theorem d_Rea_readVariable_38 : decode b_Rea_readVariable 38 = .ok (.aload_n 0, 1) := by decide +kernel
theorem d_Rea_readVariable_39 : decode b_Rea_readVariable 39 = .ok (.getfield 37, 3) := by decide +kernel
theorem d_Rea_readVariable_42 : decode b_Rea_readVariable 42 = .ok (.invokevirtual 71, 3) := by decide +kernel
theorem d_Rea_readVariable_45 : decode b_Rea_readVariable 45 = .ok (.return_, 1) := by decide +kernel
theorem d_Rea_readVariable_46 : decode b_Rea_readVariable 46 = .ok (.aload_n 0, 1) := by decide +kernel
theorem d_Rea_readVariable_47 : decode b_Rea_readVariable 47 = .ok (.getfield 37, 3) := by decide +kernel
theorem d_Rea_readVariable_50 : decode b_Rea_readVariable 50 = .ok (.iload_n 2, 1) := by decide +kernel
theorem d_Rea_readVariable_51 : decode b_Rea_readVariable 51 = .ok (.bipush 30, 2) := by decide +kernel
theorem d_Rea_readVariable_53 : decode b_Rea_readVariable 53 = .ok (.iadd, 1) := by decide +kernel
theorem d_Rea_readVariable_54 : decode b_Rea_readVariable 54 = .ok (.if_icmp .ge 33, 3) := by decide +kernel
theorem d_Rea_readVariable_57 : decode b_Rea_readVariable 57 = .ok (.aload_n 0, 1) := by decide +kernel
theorem d_Rea_readVariable_58 : decode b_Rea_readVariable 58 = .ok (.getfield 14, 3) := by decide +kernel
theorem d_Rea_readVariable_61 : decode b_Rea_readVariable 61 = .ok (.aload_n 0, 1) := by decide +kernel
theorem d_Rea_readVariable_62 : decode b_Rea_readVariable 62 = .ok (.getfield 37, 3) := by decide +kernel
theorem d_Rea_readVariable_65 : decode b_Rea_readVariable 65 = .ok (.invokevirtual 53, 3) := by decide +kernel
theorem d_Rea_readVariable_68 : decode b_Rea_readVariable 68 = .ok (.invokestatic 95, 3) := by decide +kernel
theorem d_Rea_readVariable_71 : decode b_Rea_readVariable 71 = .ok (.ifCond .eq 16, 3) := by decide +kernel
theorem d_Rea_readVariable_74 : decode b_Rea_readVariable 74 = .ok (.aload_n 0, 1) := by decide +kernel
theorem d_Rea_readVariable_75 : decode b_Rea_readVariable 75 = .ok (.dup, 1) := by decide +kernel
theorem d_Rea_readVariable_76 : decode b_Rea_readVariable 76 = .ok (.getfield 37, 3) := by decide +kernel
theorem d_Rea_readVariable_79 : decode b_Rea_readVariable 79 = .ok (.iconst 1, 1) := by decide +kernel
theorem d_Rea_readVariable_80 : decode b_Rea_readVariable 80 = .ok (.iadd, 1) := by decide +kernel
theorem d_Rea_readVariable_81 : decode b_Rea_readVariable 81 = .ok (.putfield 37, 3) := by decide +kernel
theorem d_Rea_readVariable_84 : decode b_Rea_readVariable 84 = .ok (.goto (-38), 3) := by decide +kernel
theorem d_Rea_readVariable_87 : decode b_Rea_readVariable 87 = .ok (.aload_n 0, 1) := by decide +kernel
theorem d_Rea_readVariable_88 : decode b_Rea_readVariable 88 = .ok (.getfield 14, 3) := by decide +kernel
theorem d_Rea_readVariable_91 : decode b_Rea_readVariable 91 = .ok (.aload_n 0, 1) := by decide +kernel
theorem d_Rea_readVariable_92 : decode b_Rea_readVariable 92 = .ok (.getfield 37, 3) := by decide +kernel
theorem d_Rea_readVariable_95 : decode b_Rea_readVariable 95 = .ok (.invokevirtual 53, 3) := by decide +kernel
theorem d_Rea_readVariable_98 : decode b_Rea_readVariable 98 = .ok (.invokestatic 95, 3) := by decide +kernel
theorem d_Rea_readVariable_101 : decode b_Rea_readVariable 101 = .ok (.ifCond .eq 14, 3) := by decide +kernel
theorem d_Rea_readVariable_104 : decode b_Rea_readVariable 104 = .ok (.aload_n 0, 1) := by decide +kernel
theorem d_Rea_readVariable_105 : decode b_Rea_readVariable 105 = .ok (.aload_n 0, 1) := by decide +kernel
theorem d_Rea_readVariable_106 : decode b_Rea_readVariable 106 = .ok (.getfield 37, 3) := by decide +kernel
theorem d_Rea_readVariable_109 : decode b_Rea_readVariable 109 = .ok (.invokevirtual 71, 3) := by decide +kernel
theorem d_Rea_readVariable_112 : decode b_Rea_readVariable 112 = .ok (.goto 13, 3) := by decide +kernel
theorem d_Rea_readVariable_115 : decode b_Rea_readVariable 115 = .ok (.aload_n 0, 1) := by decide +kernel
theorem d_Rea_readVariable_116 : decode b_Rea_readVariable 116 = .ok (.iload_n 1, 1) := by decide +kernel
theorem d_Rea_readVariable_117 : decode b_Rea_readVariable 117 = .ok (.iload_n 2, 1) := by decide +kernel
theorem d_Rea_readVariable_118 : decode b_Rea_readVariable 118 = .ok (.aload_n 0, 1) := by decide +kernel
theorem d_Rea_readVariable_119 : decode b_Rea_readVariable 119 = .ok (.getfield 37, 3) := by decide +kernel
theorem d_Rea_readVariable_122 : decode b_Rea_readVariable 122 = .ok (.invokevirtual 98, 3) := by decide +kernel
theorem d_Rea_readVariable_125 : decode b_Rea_readVariable 125 = .ok (.return_, 1) := by decide +kernel
theorem d_Rea_readBracket_0 : decode b_Rea_readBracket 0 = .ok (.aload_n 0, 1) := by decide +kernel
theorem d_Rea_readBracket_1 : decode b_Rea_readBracket 1 = .ok (.dup, 1) := by decide +kernel
theorem d_Rea_readBracket_2 : decode b_Rea_readBracket 2 = .ok (.getfield 37, 3) := by decide +kernel
theorem d_Rea_readBracket_5 : decode b_Rea_readBracket 5 = .ok (.iconst 1, 1) := by decide +kernel
theorem d_Rea_readBracket_6 : decode b_Rea_readBracket 6 = .ok (.iadd, 1) := by decide +kernel
theorem d_Rea_readBracket_7 : decode b_Rea_readBracket 7 = .ok (.putfield 37, 3) := by decide +kernel
theorem d_Rea_readBracket_10 : decode b_Rea_readBracket 10 = .ok (.aload_n 0, 1) := by decide +kernel
theorem d_Rea_readBracket_11 : decode b_Rea_readBracket 11 = .ok (.invokevirtual 101, 3) := by decide +kernel
theorem d_Rea_readBracket_14 : decode b_Rea_readBracket 14 = .ok (.aload_n 0, 1) := by decide +kernel
theorem d_Rea_readBracket_15 : decode b_Rea_readBracket 15 = .ok (.iconst 4, 1) := by decide +kernel
theorem d_Rea_readBracket_16 : decode b_Rea_readBracket 16 = .ok (.invokevirtual 65, 3) := by decide +kernel
theorem d_Rea_readBracket_19 : decode b_Rea_readBracket 19 = .ok (.aload_n 0, 1) := by decide +kernel
theorem d_Rea_readBracket_20 : decode b_Rea_readBracket 20 = .ok (.getfield 40, 3) := by decide +kernel
theorem d_Rea_readBracket_23 : decode b_Rea_readBracket 23 = .ok (.ifCond .eq 4, 3) := by decide +kernel
theorem d_Rea_readBracket_26 : decode b_Rea_readBracket 26 = .ok (.return_, 1) := by decide +kernel
theorem d_Rea_readBracket_27 : decode b_Rea_readBracket 27 = .ok (.aload_n 0, 1) := by decide +kernel
theorem d_Rea_readBracket_28 : decode b_Rea_readBracket 28 = .ok (.invokevirtual 101, 3) := by decide +kernel
theorem d_Rea_readBracket_31 : decode b_Rea_readBracket 31 = .ok (.aload_n 0, 1) := by decide +kernel
theorem d_Rea_readBracket_32 : decode b_Rea_readBracket 32 = .ok (.getfield 14, 3) := by decide +kernel
theorem d_Rea_readBracket_35 : decode b_Rea_readBracket 35 = .ok (.aload_n 0, 1) := by decide +kernel
theorem d_Rea_readBracket_36 : decode b_Rea_readBracket 36 = .ok (.getfield 37, 3) := by decide +kernel
theorem d_Rea_readBracket_39 : decode b_Rea_readBracket 39 = .ok (.invokevirtual 53, 3) := by decide +kernel
theorem d_Rea_readBracket_42 : decode b_Rea_readBracket 42 = .ok (.bipush 41, 2) := by decide +kernel
theorem d_Rea_readBracket_44 : decode b_Rea_readBracket 44 = .ok (.if_icmp .ne 16, 3) := by decide +kernel
theorem d_Rea_readBracket_47 : decode b_Rea_readBracket 47 = .ok (.aload_n 0, 1) := by decide +kernel
theorem d_Rea_readBracket_48 : decode b_Rea_readBracket 48 = .ok (.dup, 1) := by decide +kernel
theorem d_Rea_readBracket_49 : decode b_Rea_readBracket 49 = .ok (.getfield 37, 3) := by decide +kernel
theorem d_Rea_readBracket_52 : decode b_Rea_readBracket 52 = .ok (.iconst 1, 1) := by decide +kernel
theorem d_Rea_readBracket_53 : decode b_Rea_readBracket 53 = .ok (.iadd, 1) := by decide +kernel
theorem d_Rea_readBracket_54 : decode b_Rea_readBracket 54 = .ok (.putfield 37, 3) := by decide +kernel
theorem d_Rea_readBracket_57 : decode b_Rea_readBracket 57 = .ok (.goto 11, 3) := by decide +kernel
theorem d_Rea_readBracket_60 : decode b_Rea_readBracket 60 = .ok (.aload_n 0, 1) := by decide +kernel
theorem d_Rea_readBracket_61 : decode b_Rea_readBracket 61 = .ok (.aload_n 0, 1) := by decide +kernel
theorem d_Rea_readBracket_62 : decode b_Rea_readBracket 62 = .ok (.getfield 37, 3) := by decide +kernel
theorem d_Rea_readBracket_65 : decode b_Rea_readBracket 65 = .ok (.invokevirtual 71, 3) := by decide +kernel
theorem d_Rea_readBracket_68 : decode b_Rea_readBracket 68 = .ok (.return_, 1) := by decide +kernel
theorem d_Rea_readSignedPlace_0 : decode b_Rea_readSignedPlace 0 = .ok (.aload_n 0, 1) := by decide +kernel
theorem d_Rea_readSignedPlace_1 : decode b_Rea_readSignedPlace 1 = .ok (.dup, 1) := by decide +kernel
theorem d_Rea_readSignedPlace_2 : decode b_Rea_readSignedPlace 2 = .ok (.getfield 37, 3) := by decide +kernel
theorem d_Rea_readSignedPlace_5 : decode b_Rea_readSignedPlace 5 = .ok (.iconst 1, 1) := by decide +kernel
theorem d_Rea_readSignedPlace_6 : decode b_Rea_readSignedPlace 6 = .ok (.iadd, 1) := by decide +kernel
theorem d_Rea_readSignedPlace_7 : decode b_Rea_readSignedPlace 7 = .ok (.putfield 37, 3) := by decide +kernel
theorem d_Rea_readSignedPlace_10 : decode b_Rea_readSignedPlace 10 = .ok (.aload_n 0, 1) := by decide +kernel
theorem d_Rea_readSignedPlace_11 : decode b_Rea_readSignedPlace 11 = .ok (.invokevirtual 101, 3) := by decide +kernel
theorem d_Rea_readSignedPlace_14 : decode b_Rea_readSignedPlace 14 = .ok (.aload_n 0, 1) := by decide +kernel
theorem d_Rea_readSignedPlace_15 : decode b_Rea_readSignedPlace 15 = .ok (.iload_n 1, 1) := by decide +kernel
theorem d_Rea_readSignedPlace_16 : decode b_Rea_readSignedPlace 16 = .ok (.invokevirtual 92, 3) := by decide +kernel
theorem d_Rea_readSignedPlace_19 : decode b_Rea_readSignedPlace 19 = .ok (.return_, 1) := by decide +kernel
theorem d_Rea_readPlace_0 : decode b_Rea_readPlace 0 = .ok (.aload_n 0, 1) := by decide +kernel
theorem d_Rea_readPlace_1 : decode b_Rea_readPlace 1 = .ok (.getfield 37, 3) := by decide +kernel
theorem d_Rea_readPlace_4 : decode b_Rea_readPlace 4 = .ok (.istore_n 2, 1) := by decide +kernel
theorem d_Rea_readPlace_5 : decode b_Rea_readPlace 5 = .ok (.aload_n 0, 1) := by decide +kernel
theorem d_Rea_readPlace_6 : decode b_Rea_readPlace 6 = .ok (.getfield 37, 3) := by decide +kernel
theorem d_Rea_readPlace_9 : decode b_Rea_readPlace 9 = .ok (.iload_n 2, 1) := by decide +kernel
theorem d_Rea_readPlace_10 : decode b_Rea_readPlace 10 = .ok (.iconst 4, 1) := by decide +kernel
theorem d_Rea_readPlace_11 : decode b_Rea_readPlace 11 = .ok (.iadd, 1) := by decide +kernel
theorem d_Rea_readPlace_12 : decode b_Rea_readPlace 12 = .ok (.if_icmp .ge 33, 3) := by decide +kernel
theorem d_Rea_readPlace_15 : decode b_Rea_readPlace 15 = .ok (.aload_n 0, 1) := by decide +kernel
theorem d_Rea_readPlace_16 : decode b_Rea_readPlace 16 = .ok (.getfield 14, 3) := by decide +kernel
theorem d_Rea_readPlace_19 : decode b_Rea_readPlace 19 = .ok (.aload_n 0, 1) := by decide +kernel
theorem d_Rea_readPlace_20 : decode b_Rea_readPlace 20 = .ok (.getfield 37, 3) := by decide +kernel
theorem d_Rea_readPlace_23 : decode b_Rea_readPlace 23 = .ok (.invokevirtual 53, 3) := by decide +kernel
theorem d_Rea_readPlace_26 : decode b_Rea_readPlace 26 = .ok (.invokestatic 89, 3) := by decide +kernel
theorem d_Rea_readPlace_29 : decode b_Rea_readPlace 29 = .ok (.ifCond .eq 16, 3) := by decide +kernel
theorem d_Rea_readPlace_32 : decode b_Rea_readPlace 32 = .ok (.aload_n 0, 1) := by decide +kernel
theorem d_Rea_readPlace_33 : decode b_Rea_readPlace 33 = .ok (.dup, 1) := by decide +kernel
theorem d_Rea_readPlace_34 : decode b_Rea_readPlace 34 = .ok (.getfield 37, 3) := by decide +kernel
theorem d_Rea_readPlace_37 : decode b_Rea_readPlace 37 = .ok (.iconst 1, 1) := by decide +kernel
theorem d_Rea_readPlace_38 : decode b_Rea_readPlace 38 = .ok (.iadd, 1) := by decide +kernel
theorem d_Rea_readPlace_39 : decode b_Rea_readPlace 39 = .ok (.putfield 37, 3) := by decide +kernel
theorem d_Rea_readPlace_42 : decode b_Rea_readPlace 42 = .ok (.goto (-37), 3) := by decide +kernel
theorem d_Rea_readPlace_45 : decode b_Rea_readPlace 45 = .ok (.aload_n 0, 1) := by decide +kernel
theorem d_Rea_readPlace_46 : decode b_Rea_readPlace 46 = .ok (.getfield 37, 3) := by decide +kernel
theorem d_Rea_readPlace_49 : decode b_Rea_readPlace 49 = .ok (.iload_n 2, 1) := by decide +kernel
theorem d_Rea_readPlace_50 : decode b_Rea_readPlace 50 = .ok (.if_icmp .eq 20, 3) := by decide +kernel
theorem d_Rea_readPlace_53 : decode b_Rea_readPlace 53 = .ok (.aload_n 0, 1) := by decide +kernel
theorem d_Rea_readPlace_54 : decode b_Rea_readPlace 54 = .ok (.getfield 14, 3) := by decide +kernel
theorem d_Rea_readPlace_57 : decode b_Rea_readPlace 57 = .ok (.aload_n 0, 1) := by decide +kernel
theorem d_Rea_readPlace_58 : decode b_Rea_readPlace 58 = .ok (.getfield 37, 3) := by decide +kernel
theorem d_Rea_readPlace_61 : decode b_Rea_readPlace 61 = .ok (.invokevirtual 53, 3) := by decide +kernel
theorem d_Rea_readPlace_64 : decode b_Rea_readPlace 64 = .ok (.invokestatic 95, 3) := by decide +kernel
theorem d_Rea_readPlace_67 : decode b_Rea_readPlace 67 = .ok (.ifCond .eq 14, 3) := by decide +kernel
theorem d_Rea_readPlace_70 : decode b_Rea_readPlace 70 = .ok (.aload_n 0, 1) := by decide +kernel
theorem d_Rea_readPlace_71 : decode b_Rea_readPlace 71 = .ok (.aload_n 0, 1) := by decide +kernel
theorem d_Rea_readPlace_72 : decode b_Rea_readPlace 72 = .ok (.getfield 37, 3) := by decide +kernel
theorem d_Rea_readPlace_75 : decode b_Rea_readPlace 75 = .ok (.invokevirtual 71, 3) := by decide +kernel
theorem d_Rea_readPlace_78 : decode b_Rea_readPlace 78 = .ok (.goto 13, 3) := by decide +kernel
theorem d_Rea_readPlace_81 : decode b_Rea_readPlace 81 = .ok (.aload_n 0, 1) := by decide +kernel
theorem d_Rea_readPlace_82 : decode b_Rea_readPlace 82 = .ok (.iload_n 1, 1) := by decide +kernel
theorem d_Rea_readPlace_83 : decode b_Rea_readPlace 83 = .ok (.iload_n 2, 1) := by decide +kernel
theorem d_Rea_readPlace_84 : decode b_Rea_readPlace 84 = .ok (.aload_n 0, 1) := by decide +kernel
theorem d_Rea_readPlace_85 : decode b_Rea_readPlace 85 = .ok (.getfield 37, 3) := by decide +kernel
theorem d_Rea_readPlace_88 : decode b_Rea_readPlace 88 = .ok (.invokevirtual 98, 3) := by decide +kernel
theorem d_Rea_readPlace_91 : decode b_Rea_readPlace 91 = .ok (.return_, 1) := by decide +kernel
theorem d_Rea_readString_0 : decode b_Rea_readString 0 = .ok (.aload_n 0, 1) := by decide +kernel
theorem d_Rea_readString_1 : decode b_Rea_readString 1 = .ok (.getfield 37, 3) := by decide +kernel
theorem d_Rea_readString_4 : decode b_Rea_readString 4 = .ok (.iconst 1, 1) := by decide +kernel
theorem d_Rea_readString_5 : decode b_Rea_readString 5 = .ok (.iadd, 1) := by decide +kernel
theorem d_Rea_readString_6 : decode b_Rea_readString 6 = .ok (.istore_n 2, 1) := by decide +kernel
theorem d_Rea_readString_7 : decode b_Rea_readString 7 = .ok (.iconst 0, 1) := by decide +kernel
theorem d_Rea_readString_8 : decode b_Rea_readString 8 = .ok (.istore_n 3, 1) := by decide +kernel
theorem d_Rea_readString_9 : decode b_Rea_readString 9 = .ok (.iload_n 2, 1) := by decide +kernel
theorem d_Rea_readString_10 : decode b_Rea_readString 10 = .ok (.istore 4, 2) := by decide +kernel
theorem d_Rea_readString_12 : decode b_Rea_readString 12 = .ok (.iload 4, 2) := by decide +kernel
theorem d_Rea_readString_14 : decode b_Rea_readString 14 = .ok (.aload_n 0, 1) := by decide +kernel
theorem d_Rea_readString_15 : decode b_Rea_readString 15 = .ok (.getfield 14, 3) := by decide +kernel
theorem d_Rea_readString_18 : decode b_Rea_readString 18 = .ok (.getfield 68, 3) := by decide +kernel
theorem d_Rea_readString_21 : decode b_Rea_readString 21 = .ok (.if_icmp .ge 90, 3) := by decide +kernel
theorem d_Rea_readString_24 : decode b_Rea_readString 24 = .ok (.aload_n 0, 1) := by decide +kernel
theorem d_Rea_readString_25 : decode b_Rea_readString 25 = .ok (.getfield 14, 3) := by decide +kernel
theorem d_Rea_readString_28 : decode b_Rea_readString 28 = .ok (.iload 4, 2) := by decide +kernel
theorem d_Rea_readString_30 : decode b_Rea_readString 30 = .ok (.invokevirtual 53, 3) := by decide +kernel
theorem d_Rea_readString_33 : decode b_Rea_readString 33 = .ok (.iload_n 1, 1) := by decide +kernel
theorem d_Rea_readString_34 : decode b_Rea_readString 34 = .ok (.if_icmp .ne 7, 3) := by decide +kernel
theorem d_Rea_readString_37 : decode b_Rea_readString 37 = .ok (.iconst 1, 1) := by decide +kernel
theorem d_Rea_readString_38 : decode b_Rea_readString 38 = .ok (.goto 4, 3) := by decide +kernel
theorem d_Rea_readString_41 : decode b_Rea_readString 41 = .ok (.iconst 0, 1) := by decide +kernel
theorem d_Rea_readString_42 : decode b_Rea_readString 42 = .ok (.istore 5, 2) := by decide +kernel
theorem d_Rea_readString_44 : decode b_Rea_readString 44 = .ok (.iload 5, 2) := by decide +kernel
theorem d_Rea_readString_46 : decode b_Rea_readString 46 = .ok (.ifCond .eq 35, 3) := by decide +kernel
theorem d_Rea_readString_49 : decode b_Rea_readString 49 = .ok (.aload_n 0, 1) := by decide +kernel
theorem d_Rea_readString_50 : decode b_Rea_readString 50 = .ok (.getfield 14, 3) := by decide +kernel
theorem d_Rea_readString_53 : decode b_Rea_readString 53 = .ok (.iload 4, 2) := by decide +kernel
theorem d_Rea_readString_55 : decode b_Rea_readString 55 = .ok (.iconst 1, 1) := by decide +kernel
theorem d_Rea_readString_56 : decode b_Rea_readString 56 = .ok (.iadd, 1) := by decide +kernel
theorem d_Rea_readString_57 : decode b_Rea_readString 57 = .ok (.invokevirtual 53, 3) := by decide +kernel
theorem d_Rea_readString_60 : decode b_Rea_readString 60 = .ok (.iload_n 1, 1) := by decide +kernel
theorem d_Rea_readString_61 : decode b_Rea_readString 61 = .ok (.if_icmp .eq 20, 3) := by decide +kernel
theorem d_Rea_readString_64 : decode b_Rea_readString 64 = .ok (.aload_n 0, 1) := by decide +kernel
theorem d_Rea_readString_65 : decode b_Rea_readString 65 = .ok (.iconst 3, 1) := by decide +kernel
theorem d_Rea_readString_66 : decode b_Rea_readString 66 = .ok (.iload_n 2, 1) := by decide +kernel
theorem d_Rea_readString_67 : decode b_Rea_readString 67 = .ok (.iload 4, 2) := by decide +kernel
theorem d_Rea_readString_69 : decode b_Rea_readString 69 = .ok (.invokevirtual 98, 3) := by decide +kernel
theorem d_Rea_readString_72 : decode b_Rea_readString 72 = .ok (.aload_n 0, 1) := by decide +kernel
theorem d_Rea_readString_73 : decode b_Rea_readString 73 = .ok (.iload 4, 2) := by decide +kernel
theorem d_Rea_readString_75 : decode b_Rea_readString 75 = .ok (.iconst 1, 1) := by decide +kernel
theorem d_Rea_readString_76 : decode b_Rea_readString 76 = .ok (.iadd, 1) := by decide +kernel
theorem d_Rea_readString_77 : decode b_Rea_readString 77 = .ok (.putfield 37, 3) := by decide +kernel
theorem d_Rea_readString_80 : decode b_Rea_readString 80 = .ok (.return_, 1) := by decide +kernel
theorem d_Rea_readString_81 : decode b_Rea_readString 81 = .ok (.iload_n 3, 1) := by decide +kernel
theorem d_Rea_readString_82 : decode b_Rea_readString 82 = .ok (.bipush 40, 2) := by decide +kernel
theorem d_Rea_readString_84 : decode b_Rea_readString 84 = .ok (.if_icmp .ne 10, 3) := by decide +kernel
theorem d_Rea_readString_87 : decode b_Rea_readString 87 = .ok (.aload_n 0, 1) := by decide +kernel
theorem d_Rea_readString_88 : decode b_Rea_readString 88 = .ok (.iload 4, 2) := by decide +kernel
theorem d_Rea_readString_90 : decode b_Rea_readString 90 = .ok (.invokevirtual 71, 3) := by decide +kernel
theorem d_Rea_readString_93 : decode b_Rea_readString 93 = .ok (.return_, 1) := by decide +kernel
theorem d_Rea_readString_94 : decode b_Rea_readString 94 = .ok (.iinc 3 1, 3) := by decide +kernel
theorem d_Rea_readString_97 : decode b_Rea_readString 97 = .ok (.iload 5, 2) := by decide +kernel
theorem d_Rea_readString_99 : decode b_Rea_readString 99 = .ok (.ifCond .eq 6, 3) := by decide +kernel
theorem d_Rea_readString_102 : decode b_Rea_readString 102 = .ok (.iinc 4 1, 3) := by decide +kernel
theorem d_Rea_readString_105 : decode b_Rea_readString 105 = .ok (.iinc 4 1, 3) := by decide +kernel
theorem d_Rea_readString_108 : decode b_Rea_readString 108 = .ok (.goto (-96), 3) := by decide +kernel
theorem d_Rea_readString_111 : decode b_Rea_readString 111 = .ok (.aload_n 0, 1) := by decide +kernel
theorem d_Rea_readString_112 : decode b_Rea_readString 112 = .ok (.aload_n 0, 1) := by decide +kernel
theorem d_Rea_readString_113 : decode b_Rea_readString 113 = .ok (.getfield 37, 3) := by decide +kernel
theorem d_Rea_readString_116 : decode b_Rea_readString 116 = .ok (.invokevirtual 71, 3) := by decide +kernel
theorem d_Rea_readString_119 : decode b_Rea_readString 119 = .ok (.return_, 1) := by decide +kernel
theorem d_Rea_skipBlanks_0 : decode b_Rea_skipBlanks 0 = .ok (.aload_n 0, 1) := by decide +kernel
theorem d_Rea_skipBlanks_1 : decode b_Rea_skipBlanks 1 = .ok (.getfield 37, 3) := by decide +kernel
theorem d_Rea_skipBlanks_4 : decode b_Rea_skipBlanks 4 = .ok (.aload_n 0, 1) := by decide +kernel
theorem d_Rea_skipBlanks_5 : decode b_Rea_skipBlanks 5 = .ok (.getfield 14, 3) := by decide +kernel
theorem d_Rea_skipBlanks_8 : decode b_Rea_skipBlanks 8 = .ok (.getfield 68, 3) := by decide +kernel
theorem d_Rea_skipBlanks_11 : decode b_Rea_skipBlanks 11 = .ok (.if_icmp .ge 32, 3) := by decide +kernel
theorem d_Rea_skipBlanks_14 : decode b_Rea_skipBlanks 14 = .ok (.aload_n 0, 1) := by decide +kernel
theorem d_Rea_skipBlanks_15 : decode b_Rea_skipBlanks 15 = .ok (.getfield 14, 3) := by decide +kernel
theorem d_Rea_skipBlanks_18 : decode b_Rea_skipBlanks 18 = .ok (.aload_n 0, 1) := by decide +kernel
theorem d_Rea_skipBlanks_19 : decode b_Rea_skipBlanks 19 = .ok (.getfield 37, 3) := by decide +kernel
theorem d_Rea_skipBlanks_22 : decode b_Rea_skipBlanks 22 = .ok (.invokevirtual 53, 3) := by decide +kernel
theorem d_Rea_skipBlanks_25 : decode b_Rea_skipBlanks 25 = .ok (.bipush 32, 2) := by decide +kernel
theorem d_Rea_skipBlanks_27 : decode b_Rea_skipBlanks 27 = .ok (.if_icmp .ne 16, 3) := by decide +kernel
theorem d_Rea_skipBlanks_30 : decode b_Rea_skipBlanks 30 = .ok (.aload_n 0, 1) := by decide +kernel
theorem d_Rea_skipBlanks_31 : decode b_Rea_skipBlanks 31 = .ok (.dup, 1) := by decide +kernel
theorem d_Rea_skipBlanks_32 : decode b_Rea_skipBlanks 32 = .ok (.getfield 37, 3) := by decide +kernel
theorem d_Rea_skipBlanks_35 : decode b_Rea_skipBlanks 35 = .ok (.iconst 1, 1) := by decide +kernel
theorem d_Rea_skipBlanks_36 : decode b_Rea_skipBlanks 36 = .ok (.iadd, 1) := by decide +kernel
theorem d_Rea_skipBlanks_37 : decode b_Rea_skipBlanks 37 = .ok (.putfield 37, 3) := by decide +kernel
theorem d_Rea_skipBlanks_40 : decode b_Rea_skipBlanks 40 = .ok (.goto (-40), 3) := by decide +kernel
theorem d_Rea_skipBlanks_43 : decode b_Rea_skipBlanks 43 = .ok (.return_, 1) := by decide +kernel
theorem d_Rea_add_0 : decode b_Rea_add 0 = .ok (.aload_n 0, 1) := by decide +kernel
theorem d_Rea_add_1 : decode b_Rea_add 1 = .ok (.getfield 30, 3) := by decide +kernel
theorem d_Rea_add_4 : decode b_Rea_add 4 = .ok (.ifCond .lt 79, 3) := by decide +kernel
theorem d_Rea_add_7 : decode b_Rea_add 7 = .ok (.aload_n 0, 1) := by decide +kernel
theorem d_Rea_add_8 : decode b_Rea_add 8 = .ok (.getfield 30, 3) := by decide +kernel
theorem d_Rea_add_11 : decode b_Rea_add 11 = .ok (.aload_n 0, 1) := by decide +kernel
theorem d_Rea_add_12 : decode b_Rea_add 12 = .ok (.getfield 20, 3) := by decide +kernel
theorem d_Rea_add_15 : decode b_Rea_add 15 = .ok (.arraylength, 1) := by decide +kernel
theorem d_Rea_add_16 : decode b_Rea_add 16 = .ok (.if_icmp .ge 67, 3) := by decide +kernel
theorem d_Rea_add_19 : decode b_Rea_add 19 = .ok (.aload_n 0, 1) := by decide +kernel
theorem d_Rea_add_20 : decode b_Rea_add 20 = .ok (.getfield 30, 3) := by decide +kernel
theorem d_Rea_add_23 : decode b_Rea_add 23 = .ok (.aload_n 0, 1) := by decide +kernel
theorem d_Rea_add_24 : decode b_Rea_add 24 = .ok (.getfield 24, 3) := by decide +kernel
theorem d_Rea_add_27 : decode b_Rea_add 27 = .ok (.arraylength, 1) := by decide +kernel
theorem d_Rea_add_28 : decode b_Rea_add 28 = .ok (.if_icmp .ge 55, 3) := by decide +kernel
theorem d_Rea_add_31 : decode b_Rea_add 31 = .ok (.aload_n 0, 1) := by decide +kernel
theorem d_Rea_add_32 : decode b_Rea_add 32 = .ok (.getfield 30, 3) := by decide +kernel
theorem d_Rea_add_35 : decode b_Rea_add 35 = .ok (.aload_n 0, 1) := by decide +kernel
theorem d_Rea_add_36 : decode b_Rea_add 36 = .ok (.getfield 27, 3) := by decide +kernel
theorem d_Rea_add_39 : decode b_Rea_add 39 = .ok (.arraylength, 1) := by decide +kernel
theorem d_Rea_add_40 : decode b_Rea_add 40 = .ok (.if_icmp .ge 43, 3) := by decide +kernel
theorem d_Rea_add_43 : decode b_Rea_add 43 = .ok (.aload_n 0, 1) := by decide +kernel
theorem d_Rea_add_44 : decode b_Rea_add 44 = .ok (.getfield 20, 3) := by decide +kernel
theorem d_Rea_add_47 : decode b_Rea_add 47 = .ok (.aload_n 0, 1) := by decide +kernel
theorem d_Rea_add_48 : decode b_Rea_add 48 = .ok (.getfield 30, 3) := by decide +kernel
theorem d_Rea_add_51 : decode b_Rea_add 51 = .ok (.iload_n 1, 1) := by decide +kernel
theorem d_Rea_add_52 : decode b_Rea_add 52 = .ok (.iastore, 1) := by decide +kernel
theorem d_Rea_add_53 : decode b_Rea_add 53 = .ok (.aload_n 0, 1) := by decide +kernel
theorem d_Rea_add_54 : decode b_Rea_add 54 = .ok (.getfield 24, 3) := by decide +kernel
theorem d_Rea_add_57 : decode b_Rea_add 57 = .ok (.aload_n 0, 1) := by decide +kernel
theorem d_Rea_add_58 : decode b_Rea_add 58 = .ok (.getfield 30, 3) := by decide +kernel
theorem d_Rea_add_61 : decode b_Rea_add 61 = .ok (.iload_n 2, 1) := by decide +kernel
theorem d_Rea_add_62 : decode b_Rea_add 62 = .ok (.iastore, 1) := by decide +kernel
theorem d_Rea_add_63 : decode b_Rea_add 63 = .ok (.aload_n 0, 1) := by decide +kernel
theorem d_Rea_add_64 : decode b_Rea_add 64 = .ok (.getfield 27, 3) := by decide +kernel
theorem d_Rea_add_67 : decode b_Rea_add 67 = .ok (.aload_n 0, 1) := by decide +kernel
theorem d_Rea_add_68 : decode b_Rea_add 68 = .ok (.getfield 30, 3) := by decide +kernel
theorem d_Rea_add_71 : decode b_Rea_add 71 = .ok (.iload_n 3, 1) := by decide +kernel
theorem d_Rea_add_72 : decode b_Rea_add 72 = .ok (.iastore, 1) := by decide +kernel
theorem d_Rea_add_73 : decode b_Rea_add 73 = .ok (.aload_n 0, 1) := by decide +kernel
theorem d_Rea_add_74 : decode b_Rea_add 74 = .ok (.dup, 1) := by decide +kernel
theorem d_Rea_add_75 : decode b_Rea_add 75 = .ok (.getfield 30, 3) := by decide +kernel
theorem d_Rea_add_78 : decode b_Rea_add 78 = .ok (.iconst 1, 1) := by decide +kernel
theorem d_Rea_add_79 : decode b_Rea_add 79 = .ok (.iadd, 1) := by decide +kernel
theorem d_Rea_add_80 : decode b_Rea_add 80 = .ok (.putfield 30, 3) := by decide +kernel
theorem d_Rea_add_83 : decode b_Rea_add 83 = .ok (.return_, 1) := by decide +kernel
theorem d_Rea_fail_0 : decode b_Rea_fail 0 = .ok (.aload_n 0, 1) := by decide +kernel
theorem d_Rea_fail_1 : decode b_Rea_fail 1 = .ok (.sipush (-1000), 3) := by decide +kernel
theorem d_Rea_fail_4 : decode b_Rea_fail 4 = .ok (.iload_n 1, 1) := by decide +kernel
theorem d_Rea_fail_5 : decode b_Rea_fail 5 = .ok (.isub, 1) := by decide +kernel
theorem d_Rea_fail_6 : decode b_Rea_fail 6 = .ok (.putfield 40, 3) := by decide +kernel
theorem d_Rea_fail_9 : decode b_Rea_fail 9 = .ok (.return_, 1) := by decide +kernel
theorem d_Cut_init_0 : decode b_Cut_init 0 = .ok (.aload_n 0, 1) := by decide +kernel
theorem d_Cut_init_1 : decode b_Cut_init 1 = .ok (.invokespecial 3, 3) := by decide +kernel
theorem d_Cut_init_4 : decode b_Cut_init 4 = .ok (.aload_n 0, 1) := by decide +kernel
theorem d_Cut_init_5 : decode b_Cut_init 5 = .ok (.new 9, 3) := by decide +kernel
theorem d_Cut_init_8 : decode b_Cut_init 8 = .ok (.dup, 1) := by decide +kernel
theorem d_Cut_init_9 : decode b_Cut_init 9 = .ok (.sipush 200, 3) := by decide +kernel
theorem d_Cut_init_12 : decode b_Cut_init 12 = .ok (.invokespecial 11, 3) := by decide +kernel
theorem d_Cut_init_15 : decode b_Cut_init 15 = .ok (.putfield 14, 3) := by decide +kernel
theorem d_Cut_init_18 : decode b_Cut_init 18 = .ok (.aload_n 0, 1) := by decide +kernel
theorem d_Cut_init_19 : decode b_Cut_init 19 = .ok (.iconst 1, 1) := by decide +kernel
theorem d_Cut_init_20 : decode b_Cut_init 20 = .ok (.putfield 20, 3) := by decide +kernel
theorem d_Cut_init_23 : decode b_Cut_init 23 = .ok (.aload_n 0, 1) := by decide +kernel
theorem d_Cut_init_24 : decode b_Cut_init 24 = .ok (.iconst 1, 1) := by decide +kernel
theorem d_Cut_init_25 : decode b_Cut_init 25 = .ok (.putfield 24, 3) := by decide +kernel
theorem d_Cut_init_28 : decode b_Cut_init 28 = .ok (.aload_n 0, 1) := by decide +kernel
theorem d_Cut_init_29 : decode b_Cut_init 29 = .ok (.iconst 1, 1) := by decide +kernel
theorem d_Cut_init_30 : decode b_Cut_init 30 = .ok (.putfield 27, 3) := by decide +kernel
theorem d_Cut_init_33 : decode b_Cut_init 33 = .ok (.aload_n 0, 1) := by decide +kernel
theorem d_Cut_init_34 : decode b_Cut_init 34 = .ok (.iconst 1, 1) := by decide +kernel
theorem d_Cut_init_35 : decode b_Cut_init 35 = .ok (.putfield 30, 3) := by decide +kernel
theorem d_Cut_init_38 : decode b_Cut_init 38 = .ok (.aload_n 0, 1) := by decide +kernel
theorem d_Cut_init_39 : decode b_Cut_init 39 = .ok (.iconst 1, 1) := by decide +kernel
theorem d_Cut_init_40 : decode b_Cut_init 40 = .ok (.putfield 33, 3) := by decide +kernel
theorem d_Cut_init_43 : decode b_Cut_init 43 = .ok (.aload_n 0, 1) := by decide +kernel
theorem d_Cut_init_44 : decode b_Cut_init 44 = .ok (.iconst 1, 1) := by decide +kernel
theorem d_Cut_init_45 : decode b_Cut_init 45 = .ok (.putfield 36, 3) := by decide +kernel
theorem d_Cut_init_48 : decode b_Cut_init 48 = .ok (.return_, 1) := by decide +kernel
theorem d_Cut_begin_0 : decode b_Cut_begin 0 = .ok (.aload_n 0, 1) := by decide +kernel
theorem d_Cut_begin_1 : decode b_Cut_begin 1 = .ok (.iconst 1, 1) := by decide +kernel
theorem d_Cut_begin_2 : decode b_Cut_begin 2 = .ok (.putfield 20, 3) := by decide +kernel
theorem d_Cut_begin_5 : decode b_Cut_begin 5 = .ok (.aload_n 0, 1) := by decide +kernel
theorem d_Cut_begin_6 : decode b_Cut_begin 6 = .ok (.iconst 1, 1) := by decide +kernel
theorem d_Cut_begin_7 : decode b_Cut_begin 7 = .ok (.putfield 24, 3) := by decide +kernel
theorem d_Cut_begin_10 : decode b_Cut_begin 10 = .ok (.return_, 1) := by decide +kernel
theorem d_Cut_take_0 : decode b_Cut_take 0 = .ok (.aload_n 0, 1) := by decide +kernel
theorem d_Cut_take_1 : decode b_Cut_take 1 = .ok (.getfield 14, 3) := by decide +kernel
theorem d_Cut_take_4 : decode b_Cut_take 4 = .ok (.invokevirtual 39, 3) := by decide +kernel
theorem d_Cut_take_7 : decode b_Cut_take 7 = .ok (.iload_n 2, 1) := by decide +kernel
theorem d_Cut_take_8 : decode b_Cut_take 8 = .ok (.ifCond .eq 20, 3) := by decide +kernel
theorem d_Cut_take_11 : decode b_Cut_take 11 = .ok (.aload_n 0, 1) := by decide +kernel
theorem d_Cut_take_12 : decode b_Cut_take 12 = .ok (.getfield 14, 3) := by decide +kernel
theorem d_Cut_take_15 : decode b_Cut_take 15 = .ok (.aload_n 1, 1) := by decide +kernel
theorem d_Cut_take_16 : decode b_Cut_take 16 = .ok (.iconst 0, 1) := by decide +kernel
theorem d_Cut_take_17 : decode b_Cut_take 17 = .ok (.aload_n 1, 1) := by decide +kernel
theorem d_Cut_take_18 : decode b_Cut_take 18 = .ok (.getfield 42, 3) := by decide +kernel
theorem d_Cut_take_21 : decode b_Cut_take 21 = .ok (.invokevirtual 45, 3) := by decide +kernel
theorem d_Cut_take_24 : decode b_Cut_take 24 = .ok (.pop, 1) := by decide +kernel
theorem d_Cut_take_25 : decode b_Cut_take 25 = .ok (.goto 17, 3) := by decide +kernel
theorem d_Cut_take_28 : decode b_Cut_take 28 = .ok (.aload_n 0, 1) := by decide +kernel
theorem d_Cut_take_29 : decode b_Cut_take 29 = .ok (.getfield 14, 3) := by decide +kernel
theorem d_Cut_take_32 : decode b_Cut_take 32 = .ok (.aload_n 1, 1) := by decide +kernel
theorem d_Cut_take_33 : decode b_Cut_take 33 = .ok (.iconst 0, 1) := by decide +kernel
theorem d_Cut_take_34 : decode b_Cut_take 34 = .ok (.aload_n 1, 1) := by decide +kernel
theorem d_Cut_take_35 : decode b_Cut_take 35 = .ok (.getfield 42, 3) := by decide +kernel
theorem d_Cut_take_38 : decode b_Cut_take 38 = .ok (.invokevirtual 49, 3) := by decide +kernel
theorem d_Cut_take_41 : decode b_Cut_take 41 = .ok (.pop, 1) := by decide +kernel
theorem d_Cut_take_42 : decode b_Cut_take 42 = .ok (.return_, 1) := by decide +kernel
theorem d_Cut_cutAtPattern_0 : decode b_Cut_cutAtPattern 0 = .ok (.aload_n 0, 1) := by decide +kernel
theorem d_Cut_cutAtPattern_1 : decode b_Cut_cutAtPattern 1 = .ok (.aload_n 1, 1) := by decide +kernel
theorem d_Cut_cutAtPattern_2 : decode b_Cut_cutAtPattern 2 = .ok (.invokevirtual 52, 3) := by decide +kernel
theorem d_Cut_cutAtPattern_5 : decode b_Cut_cutAtPattern 5 = .ok (.istore_n 2, 1) := by decide +kernel
theorem d_Cut_cutAtPattern_6 : decode b_Cut_cutAtPattern 6 = .ok (.aload_n 0, 1) := by decide +kernel
theorem d_Cut_cutAtPattern_7 : decode b_Cut_cutAtPattern 7 = .ok (.aload_n 0, 1) := by decide +kernel
theorem d_Cut_cutAtPattern_8 : decode b_Cut_cutAtPattern 8 = .ok (.getfield 20, 3) := by decide +kernel
theorem d_Cut_cutAtPattern_11 : decode b_Cut_cutAtPattern 11 = .ok (.putfield 27, 3) := by decide +kernel
theorem d_Cut_cutAtPattern_14 : decode b_Cut_cutAtPattern 14 = .ok (.aload_n 0, 1) := by decide +kernel
theorem d_Cut_cutAtPattern_15 : decode b_Cut_cutAtPattern 15 = .ok (.iload_n 2, 1) := by decide +kernel
theorem d_Cut_cutAtPattern_16 : decode b_Cut_cutAtPattern 16 = .ok (.putfield 30, 3) := by decide +kernel
theorem d_Cut_cutAtPattern_19 : decode b_Cut_cutAtPattern 19 = .ok (.aload_n 0, 1) := by decide +kernel
theorem d_Cut_cutAtPattern_20 : decode b_Cut_cutAtPattern 20 = .ok (.iload_n 2, 1) := by decide +kernel
theorem d_Cut_cutAtPattern_21 : decode b_Cut_cutAtPattern 21 = .ok (.putfield 24, 3) := by decide +kernel
theorem d_Cut_cutAtPattern_24 : decode b_Cut_cutAtPattern 24 = .ok (.aload_n 0, 1) := by decide +kernel
theorem d_Cut_cutAtPattern_25 : decode b_Cut_cutAtPattern 25 = .ok (.iload_n 2, 1) := by decide +kernel
theorem d_Cut_cutAtPattern_26 : decode b_Cut_cutAtPattern 26 = .ok (.aload_n 1, 1) := by decide +kernel
theorem d_Cut_cutAtPattern_27 : decode b_Cut_cutAtPattern 27 = .ok (.getfield 42, 3) := by decide +kernel
theorem d_Cut_cutAtPattern_30 : decode b_Cut_cutAtPattern 30 = .ok (.iadd, 1) := by decide +kernel
theorem d_Cut_cutAtPattern_31 : decode b_Cut_cutAtPattern 31 = .ok (.aload_n 0, 1) := by decide +kernel
theorem d_Cut_cutAtPattern_32 : decode b_Cut_cutAtPattern 32 = .ok (.getfield 14, 3) := by decide +kernel
theorem d_Cut_cutAtPattern_35 : decode b_Cut_cutAtPattern 35 = .ok (.getfield 42, 3) := by decide +kernel
theorem d_Cut_cutAtPattern_38 : decode b_Cut_cutAtPattern 38 = .ok (.iconst 1, 1) := by decide +kernel
theorem d_Cut_cutAtPattern_39 : decode b_Cut_cutAtPattern 39 = .ok (.iadd, 1) := by decide +kernel
theorem d_Cut_cutAtPattern_40 : decode b_Cut_cutAtPattern 40 = .ok (.invokestatic 56, 3) := by decide +kernel
theorem d_Cut_cutAtPattern_43 : decode b_Cut_cutAtPattern 43 = .ok (.putfield 20, 3) := by decide +kernel
theorem d_Cut_cutAtPattern_46 : decode b_Cut_cutAtPattern 46 = .ok (.return_, 1) := by decide +kernel
theorem d_Cut_placeOf_0 : decode b_Cut_placeOf 0 = .ok (.aload_n 0, 1) := by decide +kernel
theorem d_Cut_placeOf_1 : decode b_Cut_placeOf 1 = .ok (.getfield 14, 3) := by decide +kernel
theorem d_Cut_placeOf_4 : decode b_Cut_placeOf 4 = .ok (.getfield 42, 3) := by decide +kernel
theorem d_Cut_placeOf_7 : decode b_Cut_placeOf 7 = .ok (.iconst 1, 1) := by decide +kernel
theorem d_Cut_placeOf_8 : decode b_Cut_placeOf 8 = .ok (.iadd, 1) := by decide +kernel
theorem d_Cut_placeOf_9 : decode b_Cut_placeOf 9 = .ok (.istore_n 2, 1) := by decide +kernel
theorem d_Cut_placeOf_10 : decode b_Cut_placeOf 10 = .ok (.aload_n 1, 1) := by decide +kernel
theorem d_Cut_placeOf_11 : decode b_Cut_placeOf 11 = .ok (.getfield 42, 3) := by decide +kernel
theorem d_Cut_placeOf_14 : decode b_Cut_placeOf 14 = .ok (.ifCond .ne 5, 3) := by decide +kernel
theorem d_Cut_placeOf_17 : decode b_Cut_placeOf 17 = .ok (.iload_n 2, 1) := by decide +kernel
theorem d_Cut_placeOf_18 : decode b_Cut_placeOf 18 = .ok (.ireturn, 1) := by decide +kernel
theorem d_Cut_placeOf_19 : decode b_Cut_placeOf 19 = .ok (.aload_n 0, 1) := by decide +kernel
theorem d_Cut_placeOf_20 : decode b_Cut_placeOf 20 = .ok (.getfield 20, 3) := by decide +kernel
theorem d_Cut_placeOf_23 : decode b_Cut_placeOf 23 = .ok (.istore_n 3, 1) := by decide +kernel
theorem d_Cut_placeOf_24 : decode b_Cut_placeOf 24 = .ok (.iload_n 3, 1) := by decide +kernel
theorem d_Cut_placeOf_25 : decode b_Cut_placeOf 25 = .ok (.aload_n 1, 1) := by decide +kernel
theorem d_Cut_placeOf_26 : decode b_Cut_placeOf 26 = .ok (.getfield 42, 3) := by decide +kernel
theorem d_Cut_placeOf_29 : decode b_Cut_placeOf 29 = .ok (.iadd, 1) := by decide +kernel
theorem d_Cut_placeOf_30 : decode b_Cut_placeOf 30 = .ok (.iload_n 2, 1) := by decide +kernel
theorem d_Cut_placeOf_31 : decode b_Cut_placeOf 31 = .ok (.if_icmp .gt 25, 3) := by decide +kernel
theorem d_Cut_placeOf_34 : decode b_Cut_placeOf 34 = .ok (.aload_n 0, 1) := by decide +kernel
theorem d_Cut_placeOf_35 : decode b_Cut_placeOf 35 = .ok (.getfield 14, 3) := by decide +kernel
theorem d_Cut_placeOf_38 : decode b_Cut_placeOf 38 = .ok (.iload_n 3, 1) := by decide +kernel
theorem d_Cut_placeOf_39 : decode b_Cut_placeOf 39 = .ok (.iconst 1, 1) := by decide +kernel
theorem d_Cut_placeOf_40 : decode b_Cut_placeOf 40 = .ok (.isub, 1) := by decide +kernel
theorem d_Cut_placeOf_41 : decode b_Cut_placeOf 41 = .ok (.aload_n 1, 1) := by decide +kernel
theorem d_Cut_placeOf_42 : decode b_Cut_placeOf 42 = .ok (.invokevirtual 62, 3) := by decide +kernel
theorem d_Cut_placeOf_45 : decode b_Cut_placeOf 45 = .ok (.ifCond .eq 5, 3) := by decide +kernel
theorem d_Cut_placeOf_48 : decode b_Cut_placeOf 48 = .ok (.iload_n 3, 1) := by decide +kernel
theorem d_Cut_placeOf_49 : decode b_Cut_placeOf 49 = .ok (.ireturn, 1) := by decide +kernel
theorem d_Cut_placeOf_50 : decode b_Cut_placeOf 50 = .ok (.iinc 3 1, 3) := by decide +kernel
theorem d_Cut_placeOf_53 : decode b_Cut_placeOf 53 = .ok (.goto (-29), 3) := by decide +kernel
theorem d_Cut_placeOf_56 : decode b_Cut_placeOf 56 = .ok (.iload_n 2, 1) := by decide +kernel
theorem d_Cut_placeOf_57 : decode b_Cut_placeOf 57 = .ok (.ireturn, 1) := by decide +kernel
theorem d_Cut_cutAtPlace_0 : decode b_Cut_cutAtPlace 0 = .ok (.aload_n 0, 1) := by decide +kernel
theorem d_Cut_cutAtPlace_1 : decode b_Cut_cutAtPlace 1 = .ok (.getfield 14, 3) := by decide +kernel
theorem d_Cut_cutAtPlace_4 : decode b_Cut_cutAtPlace 4 = .ok (.getfield 42, 3) := by decide +kernel
theorem d_Cut_cutAtPlace_7 : decode b_Cut_cutAtPlace 7 = .ok (.iconst 1, 1) := by decide +kernel
theorem d_Cut_cutAtPlace_8 : decode b_Cut_cutAtPlace 8 = .ok (.iadd, 1) := by decide +kernel
theorem d_Cut_cutAtPlace_9 : decode b_Cut_cutAtPlace 9 = .ok (.istore_n 2, 1) := by decide +kernel
theorem d_Cut_cutAtPlace_10 : decode b_Cut_cutAtPlace 10 = .ok (.iconst 1, 1) := by decide +kernel
theorem d_Cut_cutAtPlace_11 : decode b_Cut_cutAtPlace 11 = .ok (.iload_n 1, 1) := by decide +kernel
theorem d_Cut_cutAtPlace_12 : decode b_Cut_cutAtPlace 12 = .ok (.iload_n 2, 1) := by decide +kernel
theorem d_Cut_cutAtPlace_13 : decode b_Cut_cutAtPlace 13 = .ok (.invokestatic 56, 3) := by decide +kernel
theorem d_Cut_cutAtPlace_16 : decode b_Cut_cutAtPlace 16 = .ok (.invokestatic 66, 3) := by decide +kernel
theorem d_Cut_cutAtPlace_19 : decode b_Cut_cutAtPlace 19 = .ok (.istore_n 3, 1) := by decide +kernel
theorem d_Cut_cutAtPlace_20 : decode b_Cut_cutAtPlace 20 = .ok (.aload_n 0, 1) := by decide +kernel
theorem d_Cut_cutAtPlace_21 : decode b_Cut_cutAtPlace 21 = .ok (.aload_n 0, 1) := by decide +kernel
theorem d_Cut_cutAtPlace_22 : decode b_Cut_cutAtPlace 22 = .ok (.getfield 20, 3) := by decide +kernel
theorem d_Cut_cutAtPlace_25 : decode b_Cut_cutAtPlace 25 = .ok (.putfield 27, 3) := by decide +kernel
theorem d_Cut_cutAtPlace_28 : decode b_Cut_cutAtPlace 28 = .ok (.aload_n 0, 1) := by decide +kernel
theorem d_Cut_cutAtPlace_29 : decode b_Cut_cutAtPlace 29 = .ok (.iload_n 3, 1) := by decide +kernel
theorem d_Cut_cutAtPlace_30 : decode b_Cut_cutAtPlace 30 = .ok (.aload_n 0, 1) := by decide +kernel
theorem d_Cut_cutAtPlace_31 : decode b_Cut_cutAtPlace 31 = .ok (.getfield 20, 3) := by decide +kernel
theorem d_Cut_cutAtPlace_34 : decode b_Cut_cutAtPlace 34 = .ok (.if_icmp .le 7, 3) := by decide +kernel
theorem d_Cut_cutAtPlace_37 : decode b_Cut_cutAtPlace 37 = .ok (.iload_n 3, 1) := by decide +kernel
theorem d_Cut_cutAtPlace_38 : decode b_Cut_cutAtPlace 38 = .ok (.goto 4, 3) := by decide +kernel
theorem d_Cut_cutAtPlace_41 : decode b_Cut_cutAtPlace 41 = .ok (.iload_n 2, 1) := by decide +kernel
theorem d_Cut_cutAtPlace_42 : decode b_Cut_cutAtPlace 42 = .ok (.putfield 30, 3) := by decide +kernel
theorem d_Cut_cutAtPlace_45 : decode b_Cut_cutAtPlace 45 = .ok (.aload_n 0, 1) := by decide +kernel
theorem d_Cut_cutAtPlace_46 : decode b_Cut_cutAtPlace 46 = .ok (.iload_n 3, 1) := by decide +kernel
theorem d_Cut_cutAtPlace_47 : decode b_Cut_cutAtPlace 47 = .ok (.putfield 24, 3) := by decide +kernel
theorem d_Cut_cutAtPlace_50 : decode b_Cut_cutAtPlace 50 = .ok (.aload_n 0, 1) := by decide +kernel
theorem d_Cut_cutAtPlace_51 : decode b_Cut_cutAtPlace 51 = .ok (.iload_n 3, 1) := by decide +kernel
theorem d_Cut_cutAtPlace_52 : decode b_Cut_cutAtPlace 52 = .ok (.putfield 20, 3) := by decide +kernel
theorem d_Cut_cutAtPlace_55 : decode b_Cut_cutAtPlace 55 = .ok (.return_, 1) := by decide +kernel
theorem d_Cut_cutAtEnd_0 : decode b_Cut_cutAtEnd 0 = .ok (.aload_n 0, 1) := by decide +kernel
theorem d_Cut_cutAtEnd_1 : decode b_Cut_cutAtEnd 1 = .ok (.aload_n 0, 1) := by decide +kernel
theorem d_Cut_cutAtEnd_2 : decode b_Cut_cutAtEnd 2 = .ok (.getfield 20, 3) := by decide +kernel
theorem d_Cut_cutAtEnd_5 : decode b_Cut_cutAtEnd 5 = .ok (.putfield 27, 3) := by decide +kernel
theorem d_Cut_cutAtEnd_8 : decode b_Cut_cutAtEnd 8 = .ok (.aload_n 0, 1) := by decide +kernel
theorem d_Cut_cutAtEnd_9 : decode b_Cut_cutAtEnd 9 = .ok (.aload_n 0, 1) := by decide +kernel
theorem d_Cut_cutAtEnd_10 : decode b_Cut_cutAtEnd 10 = .ok (.getfield 14, 3) := by decide +kernel
theorem d_Cut_cutAtEnd_13 : decode b_Cut_cutAtEnd 13 = .ok (.getfield 42, 3) := by decide +kernel
theorem d_Cut_cutAtEnd_16 : decode b_Cut_cutAtEnd 16 = .ok (.iconst 1, 1) := by decide +kernel
theorem d_Cut_cutAtEnd_17 : decode b_Cut_cutAtEnd 17 = .ok (.iadd, 1) := by decide +kernel
theorem d_Cut_cutAtEnd_18 : decode b_Cut_cutAtEnd 18 = .ok (.putfield 30, 3) := by decide +kernel
theorem d_Cut_cutAtEnd_21 : decode b_Cut_cutAtEnd 21 = .ok (.return_, 1) := by decide +kernel
theorem d_Cut_takeWord_0 : decode b_Cut_takeWord 0 = .ok (.aload_n 0, 1) := by decide +kernel
theorem d_Cut_takeWord_1 : decode b_Cut_takeWord 1 = .ok (.getfield 27, 3) := by decide +kernel
theorem d_Cut_takeWord_4 : decode b_Cut_takeWord 4 = .ok (.aload_n 0, 1) := by decide +kernel
theorem d_Cut_takeWord_5 : decode b_Cut_takeWord 5 = .ok (.getfield 30, 3) := by decide +kernel
theorem d_Cut_takeWord_8 : decode b_Cut_takeWord 8 = .ok (.if_icmp .ge 34, 3) := by decide +kernel
theorem d_Cut_takeWord_11 : decode b_Cut_takeWord 11 = .ok (.aload_n 0, 1) := by decide +kernel
theorem d_Cut_takeWord_12 : decode b_Cut_takeWord 12 = .ok (.getfield 14, 3) := by decide +kernel
theorem d_Cut_takeWord_15 : decode b_Cut_takeWord 15 = .ok (.aload_n 0, 1) := by decide +kernel
theorem d_Cut_takeWord_16 : decode b_Cut_takeWord 16 = .ok (.getfield 27, 3) := by decide +kernel
theorem d_Cut_takeWord_19 : decode b_Cut_takeWord 19 = .ok (.iconst 1, 1) := by decide +kernel
theorem d_Cut_takeWord_20 : decode b_Cut_takeWord 20 = .ok (.isub, 1) := by decide +kernel
theorem d_Cut_takeWord_21 : decode b_Cut_takeWord 21 = .ok (.invokevirtual 69, 3) := by decide +kernel
theorem d_Cut_takeWord_24 : decode b_Cut_takeWord 24 = .ok (.bipush 32, 2) := by decide +kernel
theorem d_Cut_takeWord_26 : decode b_Cut_takeWord 26 = .ok (.if_icmp .ne 16, 3) := by decide +kernel
theorem d_Cut_takeWord_29 : decode b_Cut_takeWord 29 = .ok (.aload_n 0, 1) := by decide +kernel
theorem d_Cut_takeWord_30 : decode b_Cut_takeWord 30 = .ok (.dup, 1) := by decide +kernel
theorem d_Cut_takeWord_31 : decode b_Cut_takeWord 31 = .ok (.getfield 27, 3) := by decide +kernel
theorem d_Cut_takeWord_34 : decode b_Cut_takeWord 34 = .ok (.iconst 1, 1) := by decide +kernel
theorem d_Cut_takeWord_35 : decode b_Cut_takeWord 35 = .ok (.iadd, 1) := by decide +kernel
theorem d_Cut_takeWord_36 : decode b_Cut_takeWord 36 = .ok (.putfield 27, 3) := by decide +kernel
theorem d_Cut_takeWord_39 : decode b_Cut_takeWord 39 = .ok (.goto (-39), 3) := by decide +kernel
theorem d_Cut_takeWord_42 : decode b_Cut_takeWord 42 = .ok (.aload_n 0, 1) := by decide +kernel
theorem d_Cut_takeWord_43 : decode b_Cut_takeWord 43 = .ok (.aload_n 0, 1) := by decide +kernel
theorem d_Cut_takeWord_44 : decode b_Cut_takeWord 44 = .ok (.getfield 27, 3) := by decide +kernel
theorem d_Cut_takeWord_47 : decode b_Cut_takeWord 47 = .ok (.putfield 33, 3) := by decide +kernel
theorem d_Cut_takeWord_50 : decode b_Cut_takeWord 50 = .ok (.aload_n 0, 1) := by decide +kernel
theorem d_Cut_takeWord_51 : decode b_Cut_takeWord 51 = .ok (.getfield 27, 3) := by decide +kernel
theorem d_Cut_takeWord_54 : decode b_Cut_takeWord 54 = .ok (.aload_n 0, 1) := by decide +kernel
theorem d_Cut_takeWord_55 : decode b_Cut_takeWord 55 = .ok (.getfield 30, 3) := by decide +kernel
theorem d_Cut_takeWord_58 : decode b_Cut_takeWord 58 = .ok (.if_icmp .ge 34, 3) := by decide +kernel
theorem d_Cut_takeWord_61 : decode b_Cut_takeWord 61 = .ok (.aload_n 0, 1) := by decide +kernel
theorem d_Cut_takeWord_62 : decode b_Cut_takeWord 62 = .ok (.getfield 14, 3) := by decide +kernel
theorem d_Cut_takeWord_65 : decode b_Cut_takeWord 65 = .ok (.aload_n 0, 1) := by decide +kernel
theorem d_Cut_takeWord_66 : decode b_Cut_takeWord 66 = .ok (.getfield 27, 3) := by decide +kernel
theorem d_Cut_takeWord_69 : decode b_Cut_takeWord 69 = .ok (.iconst 1, 1) := by decide +kernel
theorem d_Cut_takeWord_70 : decode b_Cut_takeWord 70 = .ok (.isub, 1) := by decide +kernel
theorem d_Cut_takeWord_71 : decode b_Cut_takeWord 71 = .ok (.invokevirtual 69, 3) := by decide +kernel
theorem d_Cut_takeWord_74 : decode b_Cut_takeWord 74 = .ok (.bipush 32, 2) := by decide +kernel
theorem d_Cut_takeWord_76 : decode b_Cut_takeWord 76 = .ok (.if_icmp .eq 16, 3) := by decide +kernel
theorem d_Cut_takeWord_79 : decode b_Cut_takeWord 79 = .ok (.aload_n 0, 1) := by decide +kernel
theorem d_Cut_takeWord_80 : decode b_Cut_takeWord 80 = .ok (.dup, 1) := by decide +kernel
theorem d_Cut_takeWord_81 : decode b_Cut_takeWord 81 = .ok (.getfield 27, 3) := by decide +kernel
theorem d_Cut_takeWord_84 : decode b_Cut_takeWord 84 = .ok (.iconst 1, 1) := by decide +kernel
theorem d_Cut_takeWord_85 : decode b_Cut_takeWord 85 = .ok (.iadd, 1) := by decide +kernel
theorem d_Cut_takeWord_86 : decode b_Cut_takeWord 86 = .ok (.putfield 27, 3) := by decide +kernel
theorem d_Cut_takeWord_89 : decode b_Cut_takeWord 89 = .ok (.goto (-39), 3) := by decide +kernel
theorem d_Cut_takeWord_92 : decode b_Cut_takeWord 92 = .ok (.aload_n 0, 1) := by decide +kernel
theorem d_Cut_takeWord_93 : decode b_Cut_takeWord 93 = .ok (.aload_n 0, 1) := by decide +kernel
theorem d_Cut_takeWord_94 : decode b_Cut_takeWord 94 = .ok (.getfield 27, 3) := by decide +kernel
theorem d_Cut_takeWord_97 : decode b_Cut_takeWord 97 = .ok (.putfield 36, 3) := by decide +kernel
theorem d_Cut_takeWord_100 : decode b_Cut_takeWord 100 = .ok (.aload_n 0, 1) := by decide +kernel
theorem d_Cut_takeWord_101 : decode b_Cut_takeWord 101 = .ok (.aload_n 0, 1) := by decide +kernel
theorem d_Cut_takeWord_102 : decode b_Cut_takeWord 102 = .ok (.getfield 27, 3) := by decide +kernel
theorem d_Cut_takeWord_105 : decode b_Cut_takeWord 105 = .ok (.iconst 1, 1) := by decide +kernel
theorem d_Cut_takeWord_106 : decode b_Cut_takeWord 106 = .ok (.iadd, 1) := by decide +kernel
theorem d_Cut_takeWord_107 : decode b_Cut_takeWord 107 = .ok (.aload_n 0, 1) := by decide +kernel
theorem d_Cut_takeWord_108 : decode b_Cut_takeWord 108 = .ok (.getfield 30, 3) := by decide +kernel
theorem d_Cut_takeWord_111 : decode b_Cut_takeWord 111 = .ok (.invokestatic 56, 3) := by decide +kernel
theorem d_Cut_takeWord_114 : decode b_Cut_takeWord 114 = .ok (.putfield 27, 3) := by decide +kernel
theorem d_Cut_takeWord_117 : decode b_Cut_takeWord 117 = .ok (.return_, 1) := by decide +kernel
theorem d_Cut_takeRest_0 : decode b_Cut_takeRest 0 = .ok (.aload_n 0, 1) := by decide +kernel
theorem d_Cut_takeRest_1 : decode b_Cut_takeRest 1 = .ok (.aload_n 0, 1) := by decide +kernel
theorem d_Cut_takeRest_2 : decode b_Cut_takeRest 2 = .ok (.getfield 27, 3) := by decide +kernel
theorem d_Cut_takeRest_5 : decode b_Cut_takeRest 5 = .ok (.putfield 33, 3) := by decide +kernel
theorem d_Cut_takeRest_8 : decode b_Cut_takeRest 8 = .ok (.aload_n 0, 1) := by decide +kernel
theorem d_Cut_takeRest_9 : decode b_Cut_takeRest 9 = .ok (.aload_n 0, 1) := by decide +kernel
theorem d_Cut_takeRest_10 : decode b_Cut_takeRest 10 = .ok (.getfield 30, 3) := by decide +kernel
theorem d_Cut_takeRest_13 : decode b_Cut_takeRest 13 = .ok (.putfield 36, 3) := by decide +kernel
theorem d_Cut_takeRest_16 : decode b_Cut_takeRest 16 = .ok (.aload_n 0, 1) := by decide +kernel
theorem d_Cut_takeRest_17 : decode b_Cut_takeRest 17 = .ok (.aload_n 0, 1) := by decide +kernel
theorem d_Cut_takeRest_18 : decode b_Cut_takeRest 18 = .ok (.getfield 30, 3) := by decide +kernel
theorem d_Cut_takeRest_21 : decode b_Cut_takeRest 21 = .ok (.putfield 27, 3) := by decide +kernel
theorem d_Cut_takeRest_24 : decode b_Cut_takeRest 24 = .ok (.return_, 1) := by decide +kernel
theorem d_Nam_init_0 : decode b_Nam_init 0 = .ok (.aload_n 0, 1) := by decide +kernel
theorem d_Nam_init_1 : decode b_Nam_init 1 = .ok (.invokespecial 1, 3) := by decide +kernel
theorem d_Nam_init_4 : decode b_Nam_init 4 = .ok (.aload_n 0, 1) := by decide +kernel
theorem d_Nam_init_5 : decode b_Nam_init 5 = .ok (.new 7, 3) := by decide +kernel
theorem d_Nam_init_8 : decode b_Nam_init 8 = .ok (.dup, 1) := by decide +kernel
theorem d_Nam_init_9 : decode b_Nam_init 9 = .ok (.invokespecial 9, 3) := by decide +kernel
theorem d_Nam_init_12 : decode b_Nam_init 12 = .ok (.putfield 10, 3) := by decide +kernel
theorem d_Nam_init_15 : decode b_Nam_init 15 = .ok (.aload_n 0, 1) := by decide +kernel
theorem d_Nam_init_16 : decode b_Nam_init 16 = .ok (.aload_n 0, 1) := by decide +kernel
theorem d_Nam_init_17 : decode b_Nam_init 17 = .ok (.getfield 10, 3) := by decide +kernel
theorem d_Nam_init_20 : decode b_Nam_init 20 = .ok (.getfield 16, 3) := by decide +kernel
theorem d_Nam_init_23 : decode b_Nam_init 23 = .ok (.putfield 20, 3) := by decide +kernel
theorem d_Nam_init_26 : decode b_Nam_init 26 = .ok (.aload_n 0, 1) := by decide +kernel
theorem d_Nam_init_27 : decode b_Nam_init 27 = .ok (.new 23, 3) := by decide +kernel
theorem d_Nam_init_30 : decode b_Nam_init 30 = .ok (.dup, 1) := by decide +kernel
theorem d_Nam_init_31 : decode b_Nam_init 31 = .ok (.sipush 200, 3) := by decide +kernel
theorem d_Nam_init_34 : decode b_Nam_init 34 = .ok (.invokespecial 25, 3) := by decide +kernel
theorem d_Nam_init_37 : decode b_Nam_init 37 = .ok (.putfield 28, 3) := by decide +kernel
theorem d_Nam_init_40 : decode b_Nam_init 40 = .ok (.aload_n 0, 1) := by decide +kernel
theorem d_Nam_init_41 : decode b_Nam_init 41 = .ok (.new 23, 3) := by decide +kernel
theorem d_Nam_init_44 : decode b_Nam_init 44 = .ok (.dup, 1) := by decide +kernel
theorem d_Nam_init_45 : decode b_Nam_init 45 = .ok (.sipush 200, 3) := by decide +kernel
theorem d_Nam_init_48 : decode b_Nam_init 48 = .ok (.invokespecial 25, 3) := by decide +kernel
theorem d_Nam_init_51 : decode b_Nam_init 51 = .ok (.putfield 31, 3) := by decide +kernel
theorem d_Nam_init_54 : decode b_Nam_init 54 = .ok (.aload_n 0, 1) := by decide +kernel
theorem d_Nam_init_55 : decode b_Nam_init 55 = .ok (.new 23, 3) := by decide +kernel
theorem d_Nam_init_58 : decode b_Nam_init 58 = .ok (.dup, 1) := by decide +kernel
theorem d_Nam_init_59 : decode b_Nam_init 59 = .ok (.sipush 200, 3) := by decide +kernel
theorem d_Nam_init_62 : decode b_Nam_init 62 = .ok (.invokespecial 25, 3) := by decide +kernel
theorem d_Nam_init_65 : decode b_Nam_init 65 = .ok (.putfield 34, 3) := by decide +kernel
theorem d_Nam_init_68 : decode b_Nam_init 68 = .ok (.aload_n 0, 1) := by decide +kernel
theorem d_Nam_init_69 : decode b_Nam_init 69 = .ok (.new 23, 3) := by decide +kernel
theorem d_Nam_init_72 : decode b_Nam_init 72 = .ok (.dup, 1) := by decide +kernel
theorem d_Nam_init_73 : decode b_Nam_init 73 = .ok (.bipush 30, 2) := by decide +kernel
theorem d_Nam_init_75 : decode b_Nam_init 75 = .ok (.invokespecial 25, 3) := by decide +kernel
theorem d_Nam_init_78 : decode b_Nam_init 78 = .ok (.putfield 37, 3) := by decide +kernel
theorem d_Nam_init_81 : decode b_Nam_init 81 = .ok (.aload_n 0, 1) := by decide +kernel
theorem d_Nam_init_82 : decode b_Nam_init 82 = .ok (.new 23, 3) := by decide +kernel
theorem d_Nam_init_85 : decode b_Nam_init 85 = .ok (.dup, 1) := by decide +kernel
theorem d_Nam_init_86 : decode b_Nam_init 86 = .ok (.sipush 200, 3) := by decide +kernel
theorem d_Nam_init_89 : decode b_Nam_init 89 = .ok (.invokespecial 25, 3) := by decide +kernel
theorem d_Nam_init_92 : decode b_Nam_init 92 = .ok (.putfield 40, 3) := by decide +kernel
theorem d_Nam_init_95 : decode b_Nam_init 95 = .ok (.aload_n 0, 1) := by decide +kernel
theorem d_Nam_init_96 : decode b_Nam_init 96 = .ok (.new 43, 3) := by decide +kernel
theorem d_Nam_init_99 : decode b_Nam_init 99 = .ok (.dup, 1) := by decide +kernel
theorem d_Nam_init_100 : decode b_Nam_init 100 = .ok (.invokespecial 45, 3) := by decide +kernel
theorem d_Nam_init_103 : decode b_Nam_init 103 = .ok (.putfield 46, 3) := by decide +kernel
theorem d_Nam_init_106 : decode b_Nam_init 106 = .ok (.aload_n 0, 1) := by decide +kernel
theorem d_Nam_init_107 : decode b_Nam_init 107 = .ok (.new 50, 3) := by decide +kernel
theorem d_Nam_init_110 : decode b_Nam_init 110 = .ok (.dup, 1) := by decide +kernel
theorem d_Nam_init_111 : decode b_Nam_init 111 = .ok (.invokespecial 52, 3) := by decide +kernel
theorem d_Nam_init_114 : decode b_Nam_init 114 = .ok (.putfield 53, 3) := by decide +kernel
theorem d_Nam_init_117 : decode b_Nam_init 117 = .ok (.aload_n 0, 1) := by decide +kernel
theorem d_Nam_init_118 : decode b_Nam_init 118 = .ok (.new 57, 3) := by decide +kernel
theorem d_Nam_init_121 : decode b_Nam_init 121 = .ok (.dup, 1) := by decide +kernel
theorem d_Nam_init_122 : decode b_Nam_init 122 = .ok (.invokespecial 59, 3) := by decide +kernel
theorem d_Nam_init_125 : decode b_Nam_init 125 = .ok (.putfield 60, 3) := by decide +kernel
theorem d_Nam_init_128 : decode b_Nam_init 128 = .ok (.return_, 1) := by decide +kernel
theorem d_Nam_feed_0 : decode b_Nam_feed 0 = .ok (.aload_n 0, 1) := by decide +kernel
theorem d_Nam_feed_1 : decode b_Nam_feed 1 = .ok (.getfield 20, 3) := by decide +kernel
theorem d_Nam_feed_4 : decode b_Nam_feed 4 = .ok (.getfield 64, 3) := by decide +kernel
theorem d_Nam_feed_7 : decode b_Nam_feed 7 = .ok (.bipush 20, 2) := by decide +kernel
theorem d_Nam_feed_9 : decode b_Nam_feed 9 = .ok (.iadd, 1) := by decide +kernel
theorem d_Nam_feed_10 : decode b_Nam_feed 10 = .ok (.sipush 600, 3) := by decide +kernel
theorem d_Nam_feed_13 : decode b_Nam_feed 13 = .ok (.if_icmp .le 6, 3) := by decide +kernel
theorem d_Nam_feed_16 : decode b_Nam_feed 16 = .ok (.bipush (-4), 2) := by decide +kernel
theorem d_Nam_feed_18 : decode b_Nam_feed 18 = .ok (.ireturn, 1) := by decide +kernel
theorem d_Nam_feed_19 : decode b_Nam_feed 19 = .ok (.aload_n 0, 1) := by decide +kernel
theorem d_Nam_feed_20 : decode b_Nam_feed 20 = .ok (.getfield 20, 3) := by decide +kernel
theorem d_Nam_feed_23 : decode b_Nam_feed 23 = .ok (.iload_n 1, 1) := by decide +kernel
theorem d_Nam_feed_24 : decode b_Nam_feed 24 = .ok (.invokevirtual 68, 3) := by decide +kernel
theorem d_Nam_feed_27 : decode b_Nam_feed 27 = .ok (.aload_n 0, 1) := by decide +kernel
theorem d_Nam_feed_28 : decode b_Nam_feed 28 = .ok (.getfield 20, 3) := by decide +kernel
theorem d_Nam_feed_31 : decode b_Nam_feed 31 = .ok (.iload_n 2, 1) := by decide +kernel
theorem d_Nam_feed_32 : decode b_Nam_feed 32 = .ok (.invokevirtual 68, 3) := by decide +kernel
theorem d_Nam_feed_35 : decode b_Nam_feed 35 = .ok (.aload_n 0, 1) := by decide +kernel
theorem d_Nam_feed_36 : decode b_Nam_feed 36 = .ok (.getfield 20, 3) := by decide +kernel
theorem d_Nam_feed_39 : decode b_Nam_feed 39 = .ok (.iload_n 3, 1) := by decide +kernel
theorem d_Nam_feed_40 : decode b_Nam_feed 40 = .ok (.invokevirtual 68, 3) := by decide +kernel
theorem d_Nam_feed_43 : decode b_Nam_feed 43 = .ok (.aload_n 0, 1) := by decide +kernel
theorem d_Nam_feed_44 : decode b_Nam_feed 44 = .ok (.getfield 20, 3) := by decide +kernel
theorem d_Nam_feed_47 : decode b_Nam_feed 47 = .ok (.iload 4, 2) := by decide +kernel
theorem d_Nam_feed_49 : decode b_Nam_feed 49 = .ok (.invokevirtual 68, 3) := by decide +kernel
theorem d_Nam_feed_52 : decode b_Nam_feed 52 = .ok (.aload_n 0, 1) := by decide +kernel
theorem d_Nam_feed_53 : decode b_Nam_feed 53 = .ok (.getfield 20, 3) := by decide +kernel
theorem d_Nam_feed_56 : decode b_Nam_feed 56 = .ok (.iload 5, 2) := by decide +kernel
theorem d_Nam_feed_58 : decode b_Nam_feed 58 = .ok (.invokevirtual 68, 3) := by decide +kernel
theorem d_Nam_feed_61 : decode b_Nam_feed 61 = .ok (.aload_n 0, 1) := by decide +kernel
theorem d_Nam_feed_62 : decode b_Nam_feed 62 = .ok (.getfield 20, 3) := by decide +kernel
theorem d_Nam_feed_65 : decode b_Nam_feed 65 = .ok (.getfield 64, 3) := by decide +kernel
theorem d_Nam_feed_68 : decode b_Nam_feed 68 = .ok (.ireturn, 1) := by decide +kernel
theorem d_Nam_end_0 : decode b_Nam_end 0 = .ok (.iload_n 1, 1) := by decide +kernel
theorem d_Nam_end_1 : decode b_Nam_end 1 = .ok (.ifCond .lt 14, 3) := by decide +kernel
theorem d_Nam_end_4 : decode b_Nam_end 4 = .ok (.iload_n 1, 1) := by decide +kernel
theorem d_Nam_end_5 : decode b_Nam_end 5 = .ok (.aload_n 0, 1) := by decide +kernel
theorem d_Nam_end_6 : decode b_Nam_end 6 = .ok (.getfield 20, 3) := by decide +kernel
theorem d_Nam_end_9 : decode b_Nam_end 9 = .ok (.getfield 64, 3) := by decide +kernel
theorem d_Nam_end_12 : decode b_Nam_end 12 = .ok (.if_icmp .le 5, 3) := by decide +kernel
theorem d_Nam_end_15 : decode b_Nam_end 15 = .ok (.iconst (-1), 1) := by decide +kernel
theorem d_Nam_end_16 : decode b_Nam_end 16 = .ok (.ireturn, 1) := by decide +kernel
theorem d_Nam_end_17 : decode b_Nam_end 17 = .ok (.aload_n 0, 1) := by decide +kernel
theorem d_Nam_end_18 : decode b_Nam_end 18 = .ok (.getfield 20, 3) := by decide +kernel
theorem d_Nam_end_21 : decode b_Nam_end 21 = .ok (.iload_n 1, 1) := by decide +kernel
theorem d_Nam_end_22 : decode b_Nam_end 22 = .ok (.putfield 64, 3) := by decide +kernel
theorem d_Nam_end_25 : decode b_Nam_end 25 = .ok (.iload_n 1, 1) := by decide +kernel
theorem d_Nam_end_26 : decode b_Nam_end 26 = .ok (.ireturn, 1) := by decide +kernel
theorem d_Nam_out_0 : decode b_Nam_out 0 = .ok (.aload_n 0, 1) := by decide +kernel
theorem d_Nam_out_1 : decode b_Nam_out 1 = .ok (.getfield 28, 3) := by decide +kernel
theorem d_Nam_out_4 : decode b_Nam_out 4 = .ok (.iload_n 1, 1) := by decide +kernel
theorem d_Nam_out_5 : decode b_Nam_out 5 = .ok (.invokevirtual 71, 3) := by decide +kernel
theorem d_Nam_out_8 : decode b_Nam_out 8 = .ok (.ireturn, 1) := by decide +kernel
theorem d_Nam_set_0 : decode b_Nam_set 0 = .ok (.aload_n 0, 1) := by decide +kernel
theorem d_Nam_set_1 : decode b_Nam_set 1 = .ok (.getfield 10, 3) := by decide +kernel
theorem d_Nam_set_4 : decode b_Nam_set 4 = .ok (.invokevirtual 75, 3) := by decide +kernel
theorem d_Nam_set_7 : decode b_Nam_set 7 = .ok (.istore_n 1, 1) := by decide +kernel
theorem d_Nam_set_8 : decode b_Nam_set 8 = .ok (.iload_n 1, 1) := by decide +kernel
theorem d_Nam_set_9 : decode b_Nam_set 9 = .ok (.ifCond .ne 39, 3) := by decide +kernel
theorem d_Nam_set_12 : decode b_Nam_set 12 = .ok (.aload_n 0, 1) := by decide +kernel
theorem d_Nam_set_13 : decode b_Nam_set 13 = .ok (.iconst 0, 1) := by decide +kernel
theorem d_Nam_set_14 : decode b_Nam_set 14 = .ok (.invokevirtual 79, 3) := by decide +kernel
theorem d_Nam_set_17 : decode b_Nam_set 17 = .ok (.ifCond .eq 28, 3) := by decide +kernel
theorem d_Nam_set_20 : decode b_Nam_set 20 = .ok (.aload_n 0, 1) := by decide +kernel
theorem d_Nam_set_21 : decode b_Nam_set 21 = .ok (.aload_n 0, 1) := by decide +kernel
theorem d_Nam_set_22 : decode b_Nam_set 22 = .ok (.getfield 20, 3) := by decide +kernel
theorem d_Nam_set_25 : decode b_Nam_set 25 = .ok (.aload_n 0, 1) := by decide +kernel
theorem d_Nam_set_26 : decode b_Nam_set 26 = .ok (.getfield 10, 3) := by decide +kernel
theorem d_Nam_set_29 : decode b_Nam_set 29 = .ok (.getfield 83, 3) := by decide +kernel
theorem d_Nam_set_32 : decode b_Nam_set 32 = .ok (.aload_n 0, 1) := by decide +kernel
theorem d_Nam_set_33 : decode b_Nam_set 33 = .ok (.getfield 20, 3) := by decide +kernel
theorem d_Nam_set_36 : decode b_Nam_set 36 = .ok (.getfield 64, 3) := by decide +kernel
theorem d_Nam_set_39 : decode b_Nam_set 39 = .ok (.invokevirtual 85, 3) := by decide +kernel
theorem d_Nam_set_42 : decode b_Nam_set 42 = .ok (.goto 5, 3) := by decide +kernel
theorem d_Nam_set_45 : decode b_Nam_set 45 = .ok (.bipush (-2), 2) := by decide +kernel
theorem d_Nam_set_47 : decode b_Nam_set 47 = .ok (.istore_n 1, 1) := by decide +kernel
theorem d_Nam_set_48 : decode b_Nam_set 48 = .ok (.aload_n 0, 1) := by decide +kernel
theorem d_Nam_set_49 : decode b_Nam_set 49 = .ok (.getfield 20, 3) := by decide +kernel
theorem d_Nam_set_52 : decode b_Nam_set 52 = .ok (.invokevirtual 89, 3) := by decide +kernel
theorem d_Nam_set_55 : decode b_Nam_set 55 = .ok (.iload_n 1, 1) := by decide +kernel
theorem d_Nam_set_56 : decode b_Nam_set 56 = .ok (.ifCond .ne 13, 3) := by decide +kernel
theorem d_Nam_set_59 : decode b_Nam_set 59 = .ok (.aload_n 0, 1) := by decide +kernel
theorem d_Nam_set_60 : decode b_Nam_set 60 = .ok (.getfield 46, 3) := by decide +kernel
theorem d_Nam_set_63 : decode b_Nam_set 63 = .ok (.getfield 92, 3) := by decide +kernel
theorem d_Nam_set_66 : decode b_Nam_set 66 = .ok (.goto 4, 3) := by decide +kernel
theorem d_Nam_set_69 : decode b_Nam_set 69 = .ok (.iload_n 1, 1) := by decide +kernel
theorem d_Nam_set_70 : decode b_Nam_set 70 = .ok (.ireturn, 1) := by decide +kernel
theorem d_Nam_get_0 : decode b_Nam_get 0 = .ok (.aload_n 0, 1) := by decide +kernel
theorem d_Nam_get_1 : decode b_Nam_get 1 = .ok (.invokevirtual 95, 3) := by decide +kernel
theorem d_Nam_get_4 : decode b_Nam_get 4 = .ok (.istore_n 1, 1) := by decide +kernel
theorem d_Nam_get_5 : decode b_Nam_get 5 = .ok (.aload_n 0, 1) := by decide +kernel
theorem d_Nam_get_6 : decode b_Nam_get 6 = .ok (.getfield 20, 3) := by decide +kernel
theorem d_Nam_get_9 : decode b_Nam_get 9 = .ok (.invokevirtual 89, 3) := by decide +kernel
theorem d_Nam_get_12 : decode b_Nam_get 12 = .ok (.iload_n 1, 1) := by decide +kernel
theorem d_Nam_get_13 : decode b_Nam_get 13 = .ok (.ifCond .eq 5, 3) := by decide +kernel
theorem d_Nam_get_16 : decode b_Nam_get 16 = .ok (.iload_n 1, 1) := by decide +kernel
theorem d_Nam_get_17 : decode b_Nam_get 17 = .ok (.ireturn, 1) := by decide +kernel
theorem d_Nam_get_18 : decode b_Nam_get 18 = .ok (.aload_n 0, 1) := by decide +kernel
theorem d_Nam_get_19 : decode b_Nam_get 19 = .ok (.getfield 28, 3) := by decide +kernel
theorem d_Nam_get_22 : decode b_Nam_get 22 = .ok (.aload_n 0, 1) := by decide +kernel
theorem d_Nam_get_23 : decode b_Nam_get 23 = .ok (.aload_n 0, 1) := by decide +kernel
theorem d_Nam_get_24 : decode b_Nam_get 24 = .ok (.invokevirtual 98, 3) := by decide +kernel
theorem d_Nam_get_27 : decode b_Nam_get 27 = .ok (.invokevirtual 102, 3) := by decide +kernel
theorem d_Nam_get_30 : decode b_Nam_get 30 = .ok (.invokevirtual 106, 3) := by decide +kernel
theorem d_Nam_get_33 : decode b_Nam_get 33 = .ok (.aload_n 0, 1) := by decide +kernel
theorem d_Nam_get_34 : decode b_Nam_get 34 = .ok (.getfield 28, 3) := by decide +kernel
theorem d_Nam_get_37 : decode b_Nam_get 37 = .ok (.getfield 64, 3) := by decide +kernel
theorem d_Nam_get_40 : decode b_Nam_get 40 = .ok (.ireturn, 1) := by decide +kernel
theorem d_Nam_known_0 : decode b_Nam_known 0 = .ok (.aload_n 0, 1) := by decide +kernel
theorem d_Nam_known_1 : decode b_Nam_known 1 = .ok (.invokevirtual 95, 3) := by decide +kernel
theorem d_Nam_known_4 : decode b_Nam_known 4 = .ok (.istore_n 1, 1) := by decide +kernel
theorem d_Nam_known_5 : decode b_Nam_known 5 = .ok (.aload_n 0, 1) := by decide +kernel
theorem d_Nam_known_6 : decode b_Nam_known 6 = .ok (.getfield 20, 3) := by decide +kernel
theorem d_Nam_known_9 : decode b_Nam_known 9 = .ok (.invokevirtual 89, 3) := by decide +kernel
theorem d_Nam_known_12 : decode b_Nam_known 12 = .ok (.iload_n 1, 1) := by decide +kernel
theorem d_Nam_known_13 : decode b_Nam_known 13 = .ok (.ifCond .eq 5, 3) := by decide +kernel
theorem d_Nam_known_16 : decode b_Nam_known 16 = .ok (.iload_n 1, 1) := by decide +kernel
theorem d_Nam_known_17 : decode b_Nam_known 17 = .ok (.ireturn, 1) := by decide +kernel
theorem d_Nam_known_18 : decode b_Nam_known 18 = .ok (.aload_n 0, 1) := by decide +kernel
theorem d_Nam_known_19 : decode b_Nam_known 19 = .ok (.invokevirtual 98, 3) := by decide +kernel
theorem d_Nam_known_22 : decode b_Nam_known 22 = .ok (.astore_n 2, 1) := by decide +kernel
theorem d_Nam_known_23 : decode b_Nam_known 23 = .ok (.aload_n 2, 1) := by decide +kernel
theorem d_Nam_known_24 : decode b_Nam_known 24 = .ok (.ifnonnull 5, 3) := by decide +kernel
theorem d_Nam_known_27 : decode b_Nam_known 27 = .ok (.iconst 0, 1) := by decide +kernel
theorem d_Nam_known_28 : decode b_Nam_known 28 = .ok (.ireturn, 1) := by decide +kernel
theorem d_Nam_known_29 : decode b_Nam_known 29 = .ok (.aload_n 2, 1) := by decide +kernel
theorem d_Nam_known_30 : decode b_Nam_known 30 = .ok (.getfield 110, 3) := by decide +kernel
theorem d_Nam_known_33 : decode b_Nam_known 33 = .ok (.getfield 64, 3) := by decide +kernel
theorem d_Nam_known_36 : decode b_Nam_known 36 = .ok (.aload_n 0, 1) := by decide +kernel
theorem d_Nam_known_37 : decode b_Nam_known 37 = .ok (.getfield 31, 3) := by decide +kernel
theorem d_Nam_known_40 : decode b_Nam_known 40 = .ok (.getfield 64, 3) := by decide +kernel
theorem d_Nam_known_43 : decode b_Nam_known 43 = .ok (.if_icmp .ne 7, 3) := by decide +kernel
theorem d_Nam_known_46 : decode b_Nam_known 46 = .ok (.iconst 2, 1) := by decide +kernel
theorem d_Nam_known_47 : decode b_Nam_known 47 = .ok (.goto 4, 3) := by decide +kernel
theorem d_Nam_known_50 : decode b_Nam_known 50 = .ok (.iconst 1, 1) := by decide +kernel
theorem d_Nam_known_51 : decode b_Nam_known 51 = .ok (.ireturn, 1) := by decide +kernel
theorem d_Nam_drop_0 : decode b_Nam_drop 0 = .ok (.aload_n 0, 1) := by decide +kernel
theorem d_Nam_drop_1 : decode b_Nam_drop 1 = .ok (.getfield 10, 3) := by decide +kernel
theorem d_Nam_drop_4 : decode b_Nam_drop 4 = .ok (.sipush 600, 3) := by decide +kernel
theorem d_Nam_drop_7 : decode b_Nam_drop 7 = .ok (.invokevirtual 115, 3) := by decide +kernel
theorem d_Nam_drop_10 : decode b_Nam_drop 10 = .ok (.istore_n 1, 1) := by decide +kernel
theorem d_Nam_drop_11 : decode b_Nam_drop 11 = .ok (.iload_n 1, 1) := by decide +kernel
theorem d_Nam_drop_12 : decode b_Nam_drop 12 = .ok (.ifCond .ne 17, 3) := by decide +kernel
theorem d_Nam_drop_15 : decode b_Nam_drop 15 = .ok (.aload_n 0, 1) := by decide +kernel
theorem d_Nam_drop_16 : decode b_Nam_drop 16 = .ok (.getfield 10, 3) := by decide +kernel
theorem d_Nam_drop_19 : decode b_Nam_drop 19 = .ok (.getfield 118, 3) := by decide +kernel
theorem d_Nam_drop_22 : decode b_Nam_drop 22 = .ok (.ifCond .ne 7, 3) := by decide +kernel
theorem d_Nam_drop_25 : decode b_Nam_drop 25 = .ok (.sipush (-1000), 3) := by decide +kernel
theorem d_Nam_drop_28 : decode b_Nam_drop 28 = .ok (.istore_n 1, 1) := by decide +kernel
theorem d_Nam_drop_29 : decode b_Nam_drop 29 = .ok (.iconst 0, 1) := by decide +kernel
theorem d_Nam_drop_30 : decode b_Nam_drop 30 = .ok (.istore_n 2, 1) := by decide +kernel
theorem d_Nam_drop_31 : decode b_Nam_drop 31 = .ok (.iload_n 2, 1) := by decide +kernel
theorem d_Nam_drop_32 : decode b_Nam_drop 32 = .ok (.aload_n 0, 1) := by decide +kernel
theorem d_Nam_drop_33 : decode b_Nam_drop 33 = .ok (.getfield 10, 3) := by decide +kernel
theorem d_Nam_drop_36 : decode b_Nam_drop 36 = .ok (.getfield 118, 3) := by decide +kernel
theorem d_Nam_drop_39 : decode b_Nam_drop 39 = .ok (.if_icmp .ge 31, 3) := by decide +kernel
theorem d_Nam_drop_42 : decode b_Nam_drop 42 = .ok (.iload_n 1, 1) := by decide +kernel
theorem d_Nam_drop_43 : decode b_Nam_drop 43 = .ok (.ifCond .ne 27, 3) := by decide +kernel
theorem d_Nam_drop_46 : decode b_Nam_drop 46 = .ok (.aload_n 0, 1) := by decide +kernel
theorem d_Nam_drop_47 : decode b_Nam_drop 47 = .ok (.iload_n 2, 1) := by decide +kernel
theorem d_Nam_drop_48 : decode b_Nam_drop 48 = .ok (.invokevirtual 79, 3) := by decide +kernel
theorem d_Nam_drop_51 : decode b_Nam_drop 51 = .ok (.ifCond .eq 10, 3) := by decide +kernel
theorem d_Nam_drop_54 : decode b_Nam_drop 54 = .ok (.aload_n 0, 1) := by decide +kernel
theorem d_Nam_drop_55 : decode b_Nam_drop 55 = .ok (.invokevirtual 119, 3) := by decide +kernel
theorem d_Nam_drop_58 : decode b_Nam_drop 58 = .ok (.goto 5, 3) := by decide +kernel
theorem d_Nam_drop_61 : decode b_Nam_drop 61 = .ok (.bipush (-2), 2) := by decide +kernel
theorem d_Nam_drop_63 : decode b_Nam_drop 63 = .ok (.istore_n 1, 1) := by decide +kernel
theorem d_Nam_drop_64 : decode b_Nam_drop 64 = .ok (.iinc 2 1, 3) := by decide +kernel
theorem d_Nam_drop_67 : decode b_Nam_drop 67 = .ok (.goto (-36), 3) := by decide +kernel
theorem d_Nam_drop_70 : decode b_Nam_drop 70 = .ok (.aload_n 0, 1) := by decide +kernel
theorem d_Nam_drop_71 : decode b_Nam_drop 71 = .ok (.getfield 20, 3) := by decide +kernel
theorem d_Nam_drop_74 : decode b_Nam_drop 74 = .ok (.invokevirtual 89, 3) := by decide +kernel
theorem d_Nam_drop_77 : decode b_Nam_drop 77 = .ok (.iload_n 1, 1) := by decide +kernel
theorem d_Nam_drop_78 : decode b_Nam_drop 78 = .ok (.ifCond .ne 13, 3) := by decide +kernel
theorem d_Nam_drop_81 : decode b_Nam_drop 81 = .ok (.aload_n 0, 1) := by decide +kernel
theorem d_Nam_drop_82 : decode b_Nam_drop 82 = .ok (.getfield 46, 3) := by decide +kernel
theorem d_Nam_drop_85 : decode b_Nam_drop 85 = .ok (.getfield 92, 3) := by decide +kernel
theorem d_Nam_drop_88 : decode b_Nam_drop 88 = .ok (.goto 4, 3) := by decide +kernel
theorem d_Nam_drop_91 : decode b_Nam_drop 91 = .ok (.iload_n 1, 1) := by decide +kernel
theorem d_Nam_drop_92 : decode b_Nam_drop 92 = .ok (.ireturn, 1) := by decide +kernel
theorem d_Nam_open_0 : decode b_Nam_open 0 = .ok (.aload_n 0, 1) := by decide +kernel
theorem d_Nam_open_1 : decode b_Nam_open 1 = .ok (.getfield 10, 3) := by decide +kernel
theorem d_Nam_open_4 : decode b_Nam_open 4 = .ok (.bipush 12, 2) := by decide +kernel
theorem d_Nam_open_6 : decode b_Nam_open 6 = .ok (.invokevirtual 115, 3) := by decide +kernel
theorem d_Nam_open_9 : decode b_Nam_open 9 = .ok (.istore_n 1, 1) := by decide +kernel
theorem d_Nam_open_10 : decode b_Nam_open 10 = .ok (.iload_n 1, 1) := by decide +kernel
theorem d_Nam_open_11 : decode b_Nam_open 11 = .ok (.ifCond .ne 25, 3) := by decide +kernel
theorem d_Nam_open_14 : decode b_Nam_open 14 = .ok (.aload_n 0, 1) := by decide +kernel
theorem d_Nam_open_15 : decode b_Nam_open 15 = .ok (.getfield 53, 3) := by decide +kernel
theorem d_Nam_open_18 : decode b_Nam_open 18 = .ok (.getfield 122, 3) := by decide +kernel
theorem d_Nam_open_21 : decode b_Nam_open 21 = .ok (.bipush 8, 2) := by decide +kernel
theorem d_Nam_open_23 : decode b_Nam_open 23 = .ok (.if_icmp .ge 10, 3) := by decide +kernel
theorem d_Nam_open_26 : decode b_Nam_open 26 = .ok (.aload_n 0, 1) := by decide +kernel
theorem d_Nam_open_27 : decode b_Nam_open 27 = .ok (.invokevirtual 125, 3) := by decide +kernel
theorem d_Nam_open_30 : decode b_Nam_open 30 = .ok (.goto 5, 3) := by decide +kernel
theorem d_Nam_open_33 : decode b_Nam_open 33 = .ok (.bipush (-4), 2) := by decide +kernel
theorem d_Nam_open_35 : decode b_Nam_open 35 = .ok (.istore_n 1, 1) := by decide +kernel
theorem d_Nam_open_36 : decode b_Nam_open 36 = .ok (.aload_n 0, 1) := by decide +kernel
theorem d_Nam_open_37 : decode b_Nam_open 37 = .ok (.getfield 20, 3) := by decide +kernel
theorem d_Nam_open_40 : decode b_Nam_open 40 = .ok (.invokevirtual 89, 3) := by decide +kernel
theorem d_Nam_open_43 : decode b_Nam_open 43 = .ok (.iload_n 1, 1) := by decide +kernel
theorem d_Nam_open_44 : decode b_Nam_open 44 = .ok (.ifCond .ne 13, 3) := by decide +kernel
theorem d_Nam_open_47 : decode b_Nam_open 47 = .ok (.aload_n 0, 1) := by decide +kernel
theorem d_Nam_open_48 : decode b_Nam_open 48 = .ok (.getfield 53, 3) := by decide +kernel
theorem d_Nam_open_51 : decode b_Nam_open 51 = .ok (.getfield 122, 3) := by decide +kernel
theorem d_Nam_open_54 : decode b_Nam_open 54 = .ok (.goto 4, 3) := by decide +kernel
theorem d_Nam_open_57 : decode b_Nam_open 57 = .ok (.iload_n 1, 1) := by decide +kernel
theorem d_Nam_open_58 : decode b_Nam_open 58 = .ok (.ireturn, 1) := by decide +kernel
theorem d_Nam_close_0 : decode b_Nam_close 0 = .ok (.aload_n 0, 1) := by decide +kernel
theorem d_Nam_close_1 : decode b_Nam_close 1 = .ok (.getfield 53, 3) := by decide +kernel
theorem d_Nam_close_4 : decode b_Nam_close 4 = .ok (.getfield 122, 3) := by decide +kernel
theorem d_Nam_close_7 : decode b_Nam_close 7 = .ok (.iconst 1, 1) := by decide +kernel
theorem d_Nam_close_8 : decode b_Nam_close 8 = .ok (.if_icmp .gt 6, 3) := by decide +kernel
