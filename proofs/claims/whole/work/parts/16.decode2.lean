theorem d_Nam_close_11 : decode b_Nam_close 11 = .ok (.bipush (-3), 2) := by decide +kernel
theorem d_Nam_close_13 : decode b_Nam_close 13 = .ok (.ireturn, 1) := by decide +kernel
theorem d_Nam_close_14 : decode b_Nam_close 14 = .ok (.aload_n 0, 1) := by decide +kernel
theorem d_Nam_close_15 : decode b_Nam_close 15 = .ok (.getfield 46, 3) := by decide +kernel
theorem d_Nam_close_18 : decode b_Nam_close 18 = .ok (.aload_n 0, 1) := by decide +kernel
theorem d_Nam_close_19 : decode b_Nam_close 19 = .ok (.getfield 53, 3) := by decide +kernel
theorem d_Nam_close_22 : decode b_Nam_close 22 = .ok (.invokevirtual 128, 3) := by decide +kernel
theorem d_Nam_close_25 : decode b_Nam_close 25 = .ok (.invokevirtual 131, 3) := by decide +kernel
theorem d_Nam_close_28 : decode b_Nam_close 28 = .ok (.aload_n 0, 1) := by decide +kernel
theorem d_Nam_close_29 : decode b_Nam_close 29 = .ok (.getfield 53, 3) := by decide +kernel
theorem d_Nam_close_32 : decode b_Nam_close 32 = .ok (.invokevirtual 134, 3) := by decide +kernel
theorem d_Nam_close_35 : decode b_Nam_close 35 = .ok (.aload_n 0, 1) := by decide +kernel
theorem d_Nam_close_36 : decode b_Nam_close 36 = .ok (.getfield 53, 3) := by decide +kernel
theorem d_Nam_close_39 : decode b_Nam_close 39 = .ok (.getfield 122, 3) := by decide +kernel
theorem d_Nam_close_42 : decode b_Nam_close 42 = .ok (.ireturn, 1) := by decide +kernel
theorem d_Nam_subject_0 : decode b_Nam_subject 0 = .ok (.aload_n 0, 1) := by decide +kernel
theorem d_Nam_subject_1 : decode b_Nam_subject 1 = .ok (.getfield 20, 3) := by decide +kernel
theorem d_Nam_subject_4 : decode b_Nam_subject 4 = .ok (.getfield 64, 3) := by decide +kernel
theorem d_Nam_subject_7 : decode b_Nam_subject 7 = .ok (.istore_n 2, 1) := by decide +kernel
theorem d_Nam_subject_8 : decode b_Nam_subject 8 = .ok (.iload_n 2, 1) := by decide +kernel
theorem d_Nam_subject_9 : decode b_Nam_subject 9 = .ok (.sipush 200, 3) := by decide +kernel
theorem d_Nam_subject_12 : decode b_Nam_subject 12 = .ok (.if_icmp .gt 15, 3) := by decide +kernel
theorem d_Nam_subject_15 : decode b_Nam_subject 15 = .ok (.aload_n 0, 1) := by decide +kernel
theorem d_Nam_subject_16 : decode b_Nam_subject 16 = .ok (.getfield 60, 3) := by decide +kernel
theorem d_Nam_subject_19 : decode b_Nam_subject 19 = .ok (.aload_n 0, 1) := by decide +kernel
theorem d_Nam_subject_20 : decode b_Nam_subject 20 = .ok (.getfield 20, 3) := by decide +kernel
theorem d_Nam_subject_23 : decode b_Nam_subject 23 = .ok (.iload_n 1, 1) := by decide +kernel
theorem d_Nam_subject_24 : decode b_Nam_subject 24 = .ok (.invokevirtual 137, 3) := by decide +kernel
theorem d_Nam_subject_27 : decode b_Nam_subject 27 = .ok (.aload_n 0, 1) := by decide +kernel
theorem d_Nam_subject_28 : decode b_Nam_subject 28 = .ok (.getfield 20, 3) := by decide +kernel
theorem d_Nam_subject_31 : decode b_Nam_subject 31 = .ok (.invokevirtual 89, 3) := by decide +kernel
theorem d_Nam_subject_34 : decode b_Nam_subject 34 = .ok (.iload_n 2, 1) := by decide +kernel
theorem d_Nam_subject_35 : decode b_Nam_subject 35 = .ok (.sipush 200, 3) := by decide +kernel
theorem d_Nam_subject_38 : decode b_Nam_subject 38 = .ok (.if_icmp .gt 7, 3) := by decide +kernel
theorem d_Nam_subject_41 : decode b_Nam_subject 41 = .ok (.iload_n 2, 1) := by decide +kernel
theorem d_Nam_subject_42 : decode b_Nam_subject 42 = .ok (.goto 5, 3) := by decide +kernel
theorem d_Nam_subject_45 : decode b_Nam_subject 45 = .ok (.bipush (-4), 2) := by decide +kernel
theorem d_Nam_subject_47 : decode b_Nam_subject 47 = .ok (.ireturn, 1) := by decide +kernel
theorem d_Nam_parse_0 : decode b_Nam_parse 0 = .ok (.aload_n 0, 1) := by decide +kernel
theorem d_Nam_parse_1 : decode b_Nam_parse 1 = .ok (.getfield 10, 3) := by decide +kernel
theorem d_Nam_parse_4 : decode b_Nam_parse 4 = .ok (.invokevirtual 141, 3) := by decide +kernel
theorem d_Nam_parse_7 : decode b_Nam_parse 7 = .ok (.istore_n 1, 1) := by decide +kernel
theorem d_Nam_parse_8 : decode b_Nam_parse 8 = .ok (.iconst 0, 1) := by decide +kernel
theorem d_Nam_parse_9 : decode b_Nam_parse 9 = .ok (.istore_n 2, 1) := by decide +kernel
theorem d_Nam_parse_10 : decode b_Nam_parse 10 = .ok (.iload_n 1, 1) := by decide +kernel
theorem d_Nam_parse_11 : decode b_Nam_parse 11 = .ok (.ifCond .ne 10, 3) := by decide +kernel
theorem d_Nam_parse_14 : decode b_Nam_parse 14 = .ok (.aload_n 0, 1) := by decide +kernel
theorem d_Nam_parse_15 : decode b_Nam_parse 15 = .ok (.getfield 60, 3) := by decide +kernel
theorem d_Nam_parse_18 : decode b_Nam_parse 18 = .ok (.invokevirtual 144, 3) := by decide +kernel
theorem d_Nam_parse_21 : decode b_Nam_parse 21 = .ok (.iconst 0, 1) := by decide +kernel
theorem d_Nam_parse_22 : decode b_Nam_parse 22 = .ok (.istore_n 3, 1) := by decide +kernel
theorem d_Nam_parse_23 : decode b_Nam_parse 23 = .ok (.iload_n 3, 1) := by decide +kernel
theorem d_Nam_parse_24 : decode b_Nam_parse 24 = .ok (.aload_n 0, 1) := by decide +kernel
theorem d_Nam_parse_25 : decode b_Nam_parse 25 = .ok (.getfield 10, 3) := by decide +kernel
theorem d_Nam_parse_28 : decode b_Nam_parse 28 = .ok (.getfield 118, 3) := by decide +kernel
theorem d_Nam_parse_31 : decode b_Nam_parse 31 = .ok (.if_icmp .gt 73, 3) := by decide +kernel
theorem d_Nam_parse_34 : decode b_Nam_parse 34 = .ok (.iload_n 1, 1) := by decide +kernel
theorem d_Nam_parse_35 : decode b_Nam_parse 35 = .ok (.ifCond .ne 69, 3) := by decide +kernel
theorem d_Nam_parse_38 : decode b_Nam_parse 38 = .ok (.aload_n 0, 1) := by decide +kernel
theorem d_Nam_parse_39 : decode b_Nam_parse 39 = .ok (.getfield 10, 3) := by decide +kernel
theorem d_Nam_parse_42 : decode b_Nam_parse 42 = .ok (.iload_n 3, 1) := by decide +kernel
theorem d_Nam_parse_43 : decode b_Nam_parse 43 = .ok (.invokevirtual 147, 3) := by decide +kernel
theorem d_Nam_parse_46 : decode b_Nam_parse 46 = .ok (.ifCond .ne 52, 3) := by decide +kernel
theorem d_Nam_parse_49 : decode b_Nam_parse 49 = .ok (.aload_n 0, 1) := by decide +kernel
theorem d_Nam_parse_50 : decode b_Nam_parse 50 = .ok (.iload_n 3, 1) := by decide +kernel
theorem d_Nam_parse_51 : decode b_Nam_parse 51 = .ok (.invokevirtual 150, 3) := by decide +kernel
theorem d_Nam_parse_54 : decode b_Nam_parse 54 = .ok (.istore_n 1, 1) := by decide +kernel
theorem d_Nam_parse_55 : decode b_Nam_parse 55 = .ok (.iload_n 2, 1) := by decide +kernel
theorem d_Nam_parse_56 : decode b_Nam_parse 56 = .ok (.istore 4, 2) := by decide +kernel
theorem d_Nam_parse_58 : decode b_Nam_parse 58 = .ok (.iload 4, 2) := by decide +kernel
theorem d_Nam_parse_60 : decode b_Nam_parse 60 = .ok (.iload_n 3, 1) := by decide +kernel
theorem d_Nam_parse_61 : decode b_Nam_parse 61 = .ok (.if_icmp .ge 33, 3) := by decide +kernel
theorem d_Nam_parse_64 : decode b_Nam_parse 64 = .ok (.iload_n 1, 1) := by decide +kernel
theorem d_Nam_parse_65 : decode b_Nam_parse 65 = .ok (.ifCond .ne 29, 3) := by decide +kernel
theorem d_Nam_parse_68 : decode b_Nam_parse 68 = .ok (.aload_n 0, 1) := by decide +kernel
theorem d_Nam_parse_69 : decode b_Nam_parse 69 = .ok (.iload 4, 2) := by decide +kernel
theorem d_Nam_parse_71 : decode b_Nam_parse 71 = .ok (.iload 4, 2) := by decide +kernel
theorem d_Nam_parse_73 : decode b_Nam_parse 73 = .ok (.iload_n 3, 1) := by decide +kernel
theorem d_Nam_parse_74 : decode b_Nam_parse 74 = .ok (.iconst 1, 1) := by decide +kernel
theorem d_Nam_parse_75 : decode b_Nam_parse 75 = .ok (.isub, 1) := by decide +kernel
theorem d_Nam_parse_76 : decode b_Nam_parse 76 = .ok (.if_icmp .ne 7, 3) := by decide +kernel
theorem d_Nam_parse_79 : decode b_Nam_parse 79 = .ok (.iconst 1, 1) := by decide +kernel
theorem d_Nam_parse_80 : decode b_Nam_parse 80 = .ok (.goto 4, 3) := by decide +kernel
theorem d_Nam_parse_83 : decode b_Nam_parse 83 = .ok (.iconst 0, 1) := by decide +kernel
theorem d_Nam_parse_84 : decode b_Nam_parse 84 = .ok (.invokevirtual 153, 3) := by decide +kernel
theorem d_Nam_parse_87 : decode b_Nam_parse 87 = .ok (.istore_n 1, 1) := by decide +kernel
theorem d_Nam_parse_88 : decode b_Nam_parse 88 = .ok (.iinc 4 1, 3) := by decide +kernel
theorem d_Nam_parse_91 : decode b_Nam_parse 91 = .ok (.goto (-33), 3) := by decide +kernel
theorem d_Nam_parse_94 : decode b_Nam_parse 94 = .ok (.iload_n 3, 1) := by decide +kernel
theorem d_Nam_parse_95 : decode b_Nam_parse 95 = .ok (.iconst 1, 1) := by decide +kernel
theorem d_Nam_parse_96 : decode b_Nam_parse 96 = .ok (.iadd, 1) := by decide +kernel
theorem d_Nam_parse_97 : decode b_Nam_parse 97 = .ok (.istore_n 2, 1) := by decide +kernel
theorem d_Nam_parse_98 : decode b_Nam_parse 98 = .ok (.iinc 3 1, 3) := by decide +kernel
theorem d_Nam_parse_101 : decode b_Nam_parse 101 = .ok (.goto (-78), 3) := by decide +kernel
theorem d_Nam_parse_104 : decode b_Nam_parse 104 = .ok (.aload_n 0, 1) := by decide +kernel
theorem d_Nam_parse_105 : decode b_Nam_parse 105 = .ok (.getfield 20, 3) := by decide +kernel
theorem d_Nam_parse_108 : decode b_Nam_parse 108 = .ok (.invokevirtual 89, 3) := by decide +kernel
theorem d_Nam_parse_111 : decode b_Nam_parse 111 = .ok (.iload_n 1, 1) := by decide +kernel
theorem d_Nam_parse_112 : decode b_Nam_parse 112 = .ok (.ifCond .ne 13, 3) := by decide +kernel
theorem d_Nam_parse_115 : decode b_Nam_parse 115 = .ok (.aload_n 0, 1) := by decide +kernel
theorem d_Nam_parse_116 : decode b_Nam_parse 116 = .ok (.getfield 10, 3) := by decide +kernel
theorem d_Nam_parse_119 : decode b_Nam_parse 119 = .ok (.getfield 157, 3) := by decide +kernel
theorem d_Nam_parse_122 : decode b_Nam_parse 122 = .ok (.goto 4, 3) := by decide +kernel
theorem d_Nam_parse_125 : decode b_Nam_parse 125 = .ok (.iload_n 1, 1) := by decide +kernel
theorem d_Nam_parse_126 : decode b_Nam_parse 126 = .ok (.ireturn, 1) := by decide +kernel
theorem d_Nam_name_0 : decode b_Nam_name 0 = .ok (.aload_n 0, 1) := by decide +kernel
theorem d_Nam_name_1 : decode b_Nam_name 1 = .ok (.getfield 46, 3) := by decide +kernel
theorem d_Nam_name_4 : decode b_Nam_name 4 = .ok (.iload_n 1, 1) := by decide +kernel
theorem d_Nam_name_5 : decode b_Nam_name 5 = .ok (.invokevirtual 160, 3) := by decide +kernel
theorem d_Nam_name_8 : decode b_Nam_name 8 = .ok (.astore_n 2, 1) := by decide +kernel
theorem d_Nam_name_9 : decode b_Nam_name 9 = .ok (.aload_n 2, 1) := by decide +kernel
theorem d_Nam_name_10 : decode b_Nam_name 10 = .ok (.ifnonnull 5, 3) := by decide +kernel
theorem d_Nam_name_13 : decode b_Nam_name 13 = .ok (.iconst (-1), 1) := by decide +kernel
theorem d_Nam_name_14 : decode b_Nam_name 14 = .ok (.ireturn, 1) := by decide +kernel
theorem d_Nam_name_15 : decode b_Nam_name 15 = .ok (.aload_n 0, 1) := by decide +kernel
theorem d_Nam_name_16 : decode b_Nam_name 16 = .ok (.getfield 28, 3) := by decide +kernel
theorem d_Nam_name_19 : decode b_Nam_name 19 = .ok (.aload_n 2, 1) := by decide +kernel
theorem d_Nam_name_20 : decode b_Nam_name 20 = .ok (.getfield 110, 3) := by decide +kernel
theorem d_Nam_name_23 : decode b_Nam_name 23 = .ok (.invokevirtual 106, 3) := by decide +kernel
theorem d_Nam_name_26 : decode b_Nam_name 26 = .ok (.aload_n 2, 1) := by decide +kernel
theorem d_Nam_name_27 : decode b_Nam_name 27 = .ok (.getfield 164, 3) := by decide +kernel
theorem d_Nam_name_30 : decode b_Nam_name 30 = .ok (.ireturn, 1) := by decide +kernel
theorem d_Nam_value_0 : decode b_Nam_value 0 = .ok (.aload_n 0, 1) := by decide +kernel
theorem d_Nam_value_1 : decode b_Nam_value 1 = .ok (.getfield 46, 3) := by decide +kernel
theorem d_Nam_value_4 : decode b_Nam_value 4 = .ok (.iload_n 1, 1) := by decide +kernel
theorem d_Nam_value_5 : decode b_Nam_value 5 = .ok (.invokevirtual 160, 3) := by decide +kernel
theorem d_Nam_value_8 : decode b_Nam_value 8 = .ok (.astore_n 2, 1) := by decide +kernel
theorem d_Nam_value_9 : decode b_Nam_value 9 = .ok (.aload_n 2, 1) := by decide +kernel
theorem d_Nam_value_10 : decode b_Nam_value 10 = .ok (.ifnonnull 5, 3) := by decide +kernel
theorem d_Nam_value_13 : decode b_Nam_value 13 = .ok (.iconst (-1), 1) := by decide +kernel
theorem d_Nam_value_14 : decode b_Nam_value 14 = .ok (.ireturn, 1) := by decide +kernel
theorem d_Nam_value_15 : decode b_Nam_value 15 = .ok (.aload_n 2, 1) := by decide +kernel
theorem d_Nam_value_16 : decode b_Nam_value 16 = .ok (.getfield 167, 3) := by decide +kernel
theorem d_Nam_value_19 : decode b_Nam_value 19 = .ok (.ifCond .eq 6, 3) := by decide +kernel
theorem d_Nam_value_22 : decode b_Nam_value 22 = .ok (.bipush (-3), 2) := by decide +kernel
theorem d_Nam_value_24 : decode b_Nam_value 24 = .ok (.ireturn, 1) := by decide +kernel
theorem d_Nam_value_25 : decode b_Nam_value 25 = .ok (.aload_n 0, 1) := by decide +kernel
theorem d_Nam_value_26 : decode b_Nam_value 26 = .ok (.getfield 28, 3) := by decide +kernel
theorem d_Nam_value_29 : decode b_Nam_value 29 = .ok (.aload_n 2, 1) := by decide +kernel
theorem d_Nam_value_30 : decode b_Nam_value 30 = .ok (.getfield 171, 3) := by decide +kernel
theorem d_Nam_value_33 : decode b_Nam_value 33 = .ok (.invokevirtual 106, 3) := by decide +kernel
theorem d_Nam_value_36 : decode b_Nam_value 36 = .ok (.aload_n 0, 1) := by decide +kernel
theorem d_Nam_value_37 : decode b_Nam_value 37 = .ok (.getfield 28, 3) := by decide +kernel
theorem d_Nam_value_40 : decode b_Nam_value 40 = .ok (.getfield 64, 3) := by decide +kernel
theorem d_Nam_value_43 : decode b_Nam_value 43 = .ok (.ireturn, 1) := by decide +kernel
theorem d_Nam_count_0 : decode b_Nam_count 0 = .ok (.iload_n 1, 1) := by decide +kernel
theorem d_Nam_count_1 : decode b_Nam_count 1 = .ok (.tableswitch (102) (0) (6) #[43, 51, 59, 67, 78, 86, 94], 43) := by decide +kernel
theorem d_Nam_count_44 : decode b_Nam_count 44 = .ok (.aload_n 0, 1) := by decide +kernel
theorem d_Nam_count_45 : decode b_Nam_count 45 = .ok (.getfield 46, 3) := by decide +kernel
theorem d_Nam_count_48 : decode b_Nam_count 48 = .ok (.getfield 92, 3) := by decide +kernel
theorem d_Nam_count_51 : decode b_Nam_count 51 = .ok (.ireturn, 1) := by decide +kernel
theorem d_Nam_count_52 : decode b_Nam_count 52 = .ok (.aload_n 0, 1) := by decide +kernel
theorem d_Nam_count_53 : decode b_Nam_count 53 = .ok (.getfield 53, 3) := by decide +kernel
theorem d_Nam_count_56 : decode b_Nam_count 56 = .ok (.getfield 122, 3) := by decide +kernel
theorem d_Nam_count_59 : decode b_Nam_count 59 = .ok (.ireturn, 1) := by decide +kernel
theorem d_Nam_count_60 : decode b_Nam_count 60 = .ok (.aload_n 0, 1) := by decide +kernel
theorem d_Nam_count_61 : decode b_Nam_count 61 = .ok (.getfield 53, 3) := by decide +kernel
theorem d_Nam_count_64 : decode b_Nam_count 64 = .ok (.invokevirtual 174, 3) := by decide +kernel
theorem d_Nam_count_67 : decode b_Nam_count 67 = .ok (.ireturn, 1) := by decide +kernel
theorem d_Nam_count_68 : decode b_Nam_count 68 = .ok (.aload_n 0, 1) := by decide +kernel
theorem d_Nam_count_69 : decode b_Nam_count 69 = .ok (.getfield 60, 3) := by decide +kernel
theorem d_Nam_count_72 : decode b_Nam_count 72 = .ok (.getfield 177, 3) := by decide +kernel
theorem d_Nam_count_75 : decode b_Nam_count 75 = .ok (.getfield 64, 3) := by decide +kernel
theorem d_Nam_count_78 : decode b_Nam_count 78 = .ok (.ireturn, 1) := by decide +kernel
theorem d_Nam_count_79 : decode b_Nam_count 79 = .ok (.aload_n 0, 1) := by decide +kernel
theorem d_Nam_count_80 : decode b_Nam_count 80 = .ok (.getfield 28, 3) := by decide +kernel
theorem d_Nam_count_83 : decode b_Nam_count 83 = .ok (.getfield 64, 3) := by decide +kernel
theorem d_Nam_count_86 : decode b_Nam_count 86 = .ok (.ireturn, 1) := by decide +kernel
theorem d_Nam_count_87 : decode b_Nam_count 87 = .ok (.aload_n 0, 1) := by decide +kernel
theorem d_Nam_count_88 : decode b_Nam_count 88 = .ok (.getfield 60, 3) := by decide +kernel
theorem d_Nam_count_91 : decode b_Nam_count 91 = .ok (.getfield 180, 3) := by decide +kernel
theorem d_Nam_count_94 : decode b_Nam_count 94 = .ok (.ireturn, 1) := by decide +kernel
theorem d_Nam_count_95 : decode b_Nam_count 95 = .ok (.aload_n 0, 1) := by decide +kernel
theorem d_Nam_count_96 : decode b_Nam_count 96 = .ok (.getfield 60, 3) := by decide +kernel
theorem d_Nam_count_99 : decode b_Nam_count 99 = .ok (.getfield 183, 3) := by decide +kernel
theorem d_Nam_count_102 : decode b_Nam_count 102 = .ok (.ireturn, 1) := by decide +kernel
theorem d_Nam_count_103 : decode b_Nam_count 103 = .ok (.iconst (-1), 1) := by decide +kernel
theorem d_Nam_count_104 : decode b_Nam_count 104 = .ok (.ireturn, 1) := by decide +kernel
theorem d_Nam_workOutAlone_0 : decode b_Nam_workOutAlone 0 = .ok (.aload_n 0, 1) := by decide +kernel
theorem d_Nam_workOutAlone_1 : decode b_Nam_workOutAlone 1 = .ok (.getfield 10, 3) := by decide +kernel
theorem d_Nam_workOutAlone_4 : decode b_Nam_workOutAlone 4 = .ok (.invokevirtual 186, 3) := by decide +kernel
theorem d_Nam_workOutAlone_7 : decode b_Nam_workOutAlone 7 = .ok (.istore_n 1, 1) := by decide +kernel
theorem d_Nam_workOutAlone_8 : decode b_Nam_workOutAlone 8 = .ok (.iload_n 1, 1) := by decide +kernel
theorem d_Nam_workOutAlone_9 : decode b_Nam_workOutAlone 9 = .ok (.ifCond .eq 5, 3) := by decide +kernel
theorem d_Nam_workOutAlone_12 : decode b_Nam_workOutAlone 12 = .ok (.iload_n 1, 1) := by decide +kernel
theorem d_Nam_workOutAlone_13 : decode b_Nam_workOutAlone 13 = .ok (.ireturn, 1) := by decide +kernel
theorem d_Nam_workOutAlone_14 : decode b_Nam_workOutAlone 14 = .ok (.aload_n 0, 1) := by decide +kernel
theorem d_Nam_workOutAlone_15 : decode b_Nam_workOutAlone 15 = .ok (.iconst 0, 1) := by decide +kernel
theorem d_Nam_workOutAlone_16 : decode b_Nam_workOutAlone 16 = .ok (.invokevirtual 79, 3) := by decide +kernel
theorem d_Nam_workOutAlone_19 : decode b_Nam_workOutAlone 19 = .ok (.ifCond .eq 7, 3) := by decide +kernel
theorem d_Nam_workOutAlone_22 : decode b_Nam_workOutAlone 22 = .ok (.iconst 0, 1) := by decide +kernel
theorem d_Nam_workOutAlone_23 : decode b_Nam_workOutAlone 23 = .ok (.goto 5, 3) := by decide +kernel
theorem d_Nam_workOutAlone_26 : decode b_Nam_workOutAlone 26 = .ok (.bipush (-2), 2) := by decide +kernel
theorem d_Nam_workOutAlone_28 : decode b_Nam_workOutAlone 28 = .ok (.ireturn, 1) := by decide +kernel
theorem d_Nam_workOut_0 : decode b_Nam_workOut 0 = .ok (.aload_n 0, 1) := by decide +kernel
theorem d_Nam_workOut_1 : decode b_Nam_workOut 1 = .ok (.getfield 10, 3) := by decide +kernel
theorem d_Nam_workOut_4 : decode b_Nam_workOut 4 = .ok (.iload_n 1, 1) := by decide +kernel
theorem d_Nam_workOut_5 : decode b_Nam_workOut 5 = .ok (.invokevirtual 189, 3) := by decide +kernel
theorem d_Nam_workOut_8 : decode b_Nam_workOut 8 = .ok (.istore_n 2, 1) := by decide +kernel
theorem d_Nam_workOut_9 : decode b_Nam_workOut 9 = .ok (.aload_n 0, 1) := by decide +kernel
theorem d_Nam_workOut_10 : decode b_Nam_workOut 10 = .ok (.getfield 10, 3) := by decide +kernel
theorem d_Nam_workOut_13 : decode b_Nam_workOut 13 = .ok (.iload_n 1, 1) := by decide +kernel
theorem d_Nam_workOut_14 : decode b_Nam_workOut 14 = .ok (.invokevirtual 192, 3) := by decide +kernel
theorem d_Nam_workOut_17 : decode b_Nam_workOut 17 = .ok (.istore_n 3, 1) := by decide +kernel
theorem d_Nam_workOut_18 : decode b_Nam_workOut 18 = .ok (.aload_n 0, 1) := by decide +kernel
theorem d_Nam_workOut_19 : decode b_Nam_workOut 19 = .ok (.getfield 31, 3) := by decide +kernel
theorem d_Nam_workOut_22 : decode b_Nam_workOut 22 = .ok (.invokevirtual 89, 3) := by decide +kernel
theorem d_Nam_workOut_25 : decode b_Nam_workOut 25 = .ok (.aload_n 0, 1) := by decide +kernel
theorem d_Nam_workOut_26 : decode b_Nam_workOut 26 = .ok (.getfield 20, 3) := by decide +kernel
theorem d_Nam_workOut_29 : decode b_Nam_workOut 29 = .ok (.iload_n 2, 1) := by decide +kernel
theorem d_Nam_workOut_30 : decode b_Nam_workOut 30 = .ok (.iload_n 3, 1) := by decide +kernel
theorem d_Nam_workOut_31 : decode b_Nam_workOut 31 = .ok (.invokevirtual 195, 3) := by decide +kernel
theorem d_Nam_workOut_34 : decode b_Nam_workOut 34 = .ok (.istore 4, 2) := by decide +kernel
theorem d_Nam_workOut_36 : decode b_Nam_workOut 36 = .ok (.iload 4, 2) := by decide +kernel
theorem d_Nam_workOut_38 : decode b_Nam_workOut 38 = .ok (.iload_n 3, 1) := by decide +kernel
theorem d_Nam_workOut_39 : decode b_Nam_workOut 39 = .ok (.iconst 1, 1) := by decide +kernel
theorem d_Nam_workOut_40 : decode b_Nam_workOut 40 = .ok (.isub, 1) := by decide +kernel
theorem d_Nam_workOut_41 : decode b_Nam_workOut 41 = .ok (.if_icmp .lt 17, 3) := by decide +kernel
theorem d_Nam_workOut_44 : decode b_Nam_workOut 44 = .ok (.aload_n 0, 1) := by decide +kernel
theorem d_Nam_workOut_45 : decode b_Nam_workOut 45 = .ok (.getfield 31, 3) := by decide +kernel
theorem d_Nam_workOut_48 : decode b_Nam_workOut 48 = .ok (.aload_n 0, 1) := by decide +kernel
theorem d_Nam_workOut_49 : decode b_Nam_workOut 49 = .ok (.getfield 20, 3) := by decide +kernel
theorem d_Nam_workOut_52 : decode b_Nam_workOut 52 = .ok (.iload_n 2, 1) := by decide +kernel
theorem d_Nam_workOut_53 : decode b_Nam_workOut 53 = .ok (.iload_n 3, 1) := by decide +kernel
theorem d_Nam_workOut_54 : decode b_Nam_workOut 54 = .ok (.invokevirtual 199, 3) := by decide +kernel
theorem d_Nam_workOut_57 : decode b_Nam_workOut 57 = .ok (.ireturn, 1) := by decide +kernel
theorem d_Nam_workOut_58 : decode b_Nam_workOut 58 = .ok (.aload_n 0, 1) := by decide +kernel
theorem d_Nam_workOut_59 : decode b_Nam_workOut 59 = .ok (.getfield 31, 3) := by decide +kernel
theorem d_Nam_workOut_62 : decode b_Nam_workOut 62 = .ok (.aload_n 0, 1) := by decide +kernel
theorem d_Nam_workOut_63 : decode b_Nam_workOut 63 = .ok (.getfield 20, 3) := by decide +kernel
theorem d_Nam_workOut_66 : decode b_Nam_workOut 66 = .ok (.iload_n 2, 1) := by decide +kernel
theorem d_Nam_workOut_67 : decode b_Nam_workOut 67 = .ok (.iload 4, 2) := by decide +kernel
theorem d_Nam_workOut_69 : decode b_Nam_workOut 69 = .ok (.iconst 1, 1) := by decide +kernel
theorem d_Nam_workOut_70 : decode b_Nam_workOut 70 = .ok (.iadd, 1) := by decide +kernel
theorem d_Nam_workOut_71 : decode b_Nam_workOut 71 = .ok (.invokevirtual 199, 3) := by decide +kernel
theorem d_Nam_workOut_74 : decode b_Nam_workOut 74 = .ok (.istore 5, 2) := by decide +kernel
theorem d_Nam_workOut_76 : decode b_Nam_workOut 76 = .ok (.iload 4, 2) := by decide +kernel
theorem d_Nam_workOut_78 : decode b_Nam_workOut 78 = .ok (.iconst 1, 1) := by decide +kernel
theorem d_Nam_workOut_79 : decode b_Nam_workOut 79 = .ok (.iadd, 1) := by decide +kernel
theorem d_Nam_workOut_80 : decode b_Nam_workOut 80 = .ok (.istore 6, 2) := by decide +kernel
theorem d_Nam_workOut_82 : decode b_Nam_workOut 82 = .ok (.iload 6, 2) := by decide +kernel
theorem d_Nam_workOut_84 : decode b_Nam_workOut 84 = .ok (.istore 7, 2) := by decide +kernel
theorem d_Nam_workOut_86 : decode b_Nam_workOut 86 = .ok (.iload 7, 2) := by decide +kernel
theorem d_Nam_workOut_88 : decode b_Nam_workOut 88 = .ok (.iload_n 3, 1) := by decide +kernel
theorem d_Nam_workOut_89 : decode b_Nam_workOut 89 = .ok (.if_icmp .gt 83, 3) := by decide +kernel
theorem d_Nam_workOut_92 : decode b_Nam_workOut 92 = .ok (.iload 5, 2) := by decide +kernel
theorem d_Nam_workOut_94 : decode b_Nam_workOut 94 = .ok (.ifCond .eq 78, 3) := by decide +kernel
theorem d_Nam_workOut_97 : decode b_Nam_workOut 97 = .ok (.iload 7, 2) := by decide +kernel
theorem d_Nam_workOut_99 : decode b_Nam_workOut 99 = .ok (.iload_n 3, 1) := by decide +kernel
theorem d_Nam_workOut_100 : decode b_Nam_workOut 100 = .ok (.if_icmp .ne 16, 3) := by decide +kernel
theorem d_Nam_workOut_103 : decode b_Nam_workOut 103 = .ok (.aload_n 0, 1) := by decide +kernel
theorem d_Nam_workOut_104 : decode b_Nam_workOut 104 = .ok (.iload 6, 2) := by decide +kernel
theorem d_Nam_workOut_106 : decode b_Nam_workOut 106 = .ok (.iload 7, 2) := by decide +kernel
theorem d_Nam_workOut_108 : decode b_Nam_workOut 108 = .ok (.invokevirtual 203, 3) := by decide +kernel
theorem d_Nam_workOut_111 : decode b_Nam_workOut 111 = .ok (.istore 5, 2) := by decide +kernel
theorem d_Nam_workOut_113 : decode b_Nam_workOut 113 = .ok (.goto 53, 3) := by decide +kernel
theorem d_Nam_workOut_116 : decode b_Nam_workOut 116 = .ok (.aload_n 0, 1) := by decide +kernel
theorem d_Nam_workOut_117 : decode b_Nam_workOut 117 = .ok (.getfield 20, 3) := by decide +kernel
theorem d_Nam_workOut_120 : decode b_Nam_workOut 120 = .ok (.iload 7, 2) := by decide +kernel
theorem d_Nam_workOut_122 : decode b_Nam_workOut 122 = .ok (.invokevirtual 71, 3) := by decide +kernel
theorem d_Nam_workOut_125 : decode b_Nam_workOut 125 = .ok (.bipush 46, 2) := by decide +kernel
theorem d_Nam_workOut_127 : decode b_Nam_workOut 127 = .ok (.if_icmp .ne 39, 3) := by decide +kernel
theorem d_Nam_workOut_130 : decode b_Nam_workOut 130 = .ok (.aload_n 0, 1) := by decide +kernel
theorem d_Nam_workOut_131 : decode b_Nam_workOut 131 = .ok (.iload 6, 2) := by decide +kernel
theorem d_Nam_workOut_133 : decode b_Nam_workOut 133 = .ok (.iload 7, 2) := by decide +kernel
theorem d_Nam_workOut_135 : decode b_Nam_workOut 135 = .ok (.invokevirtual 203, 3) := by decide +kernel
theorem d_Nam_workOut_138 : decode b_Nam_workOut 138 = .ok (.ifCond .eq 19, 3) := by decide +kernel
theorem d_Nam_workOut_141 : decode b_Nam_workOut 141 = .ok (.aload_n 0, 1) := by decide +kernel
theorem d_Nam_workOut_142 : decode b_Nam_workOut 142 = .ok (.getfield 31, 3) := by decide +kernel
theorem d_Nam_workOut_145 : decode b_Nam_workOut 145 = .ok (.bipush 46, 2) := by decide +kernel
theorem d_Nam_workOut_147 : decode b_Nam_workOut 147 = .ok (.invokevirtual 207, 3) := by decide +kernel
theorem d_Nam_workOut_150 : decode b_Nam_workOut 150 = .ok (.ifCond .eq 7, 3) := by decide +kernel
theorem d_Nam_workOut_153 : decode b_Nam_workOut 153 = .ok (.iconst 1, 1) := by decide +kernel
theorem d_Nam_workOut_154 : decode b_Nam_workOut 154 = .ok (.goto 4, 3) := by decide +kernel
theorem d_Nam_workOut_157 : decode b_Nam_workOut 157 = .ok (.iconst 0, 1) := by decide +kernel
theorem d_Nam_workOut_158 : decode b_Nam_workOut 158 = .ok (.istore 5, 2) := by decide +kernel
theorem d_Nam_workOut_160 : decode b_Nam_workOut 160 = .ok (.iload 7, 2) := by decide +kernel
theorem d_Nam_workOut_162 : decode b_Nam_workOut 162 = .ok (.iconst 1, 1) := by decide +kernel
theorem d_Nam_workOut_163 : decode b_Nam_workOut 163 = .ok (.iadd, 1) := by decide +kernel
theorem d_Nam_workOut_164 : decode b_Nam_workOut 164 = .ok (.istore 6, 2) := by decide +kernel
theorem d_Nam_workOut_166 : decode b_Nam_workOut 166 = .ok (.iinc 7 1, 3) := by decide +kernel
theorem d_Nam_workOut_169 : decode b_Nam_workOut 169 = .ok (.goto (-83), 3) := by decide +kernel
theorem d_Nam_workOut_172 : decode b_Nam_workOut 172 = .ok (.iload 5, 2) := by decide +kernel
theorem d_Nam_workOut_174 : decode b_Nam_workOut 174 = .ok (.ireturn, 1) := by decide +kernel
theorem d_Nam_addTail_0 : decode b_Nam_addTail 0 = .ok (.aload_n 0, 1) := by decide +kernel
theorem d_Nam_addTail_1 : decode b_Nam_addTail 1 = .ok (.getfield 37, 3) := by decide +kernel
theorem d_Nam_addTail_4 : decode b_Nam_addTail 4 = .ok (.invokevirtual 89, 3) := by decide +kernel
theorem d_Nam_addTail_7 : decode b_Nam_addTail 7 = .ok (.aload_n 0, 1) := by decide +kernel
theorem d_Nam_addTail_8 : decode b_Nam_addTail 8 = .ok (.getfield 37, 3) := by decide +kernel
theorem d_Nam_addTail_11 : decode b_Nam_addTail 11 = .ok (.aload_n 0, 1) := by decide +kernel
theorem d_Nam_addTail_12 : decode b_Nam_addTail 12 = .ok (.getfield 20, 3) := by decide +kernel
theorem d_Nam_addTail_15 : decode b_Nam_addTail 15 = .ok (.iload_n 1, 1) := by decide +kernel
theorem d_Nam_addTail_16 : decode b_Nam_addTail 16 = .ok (.iload_n 2, 1) := by decide +kernel
theorem d_Nam_addTail_17 : decode b_Nam_addTail 17 = .ok (.invokevirtual 199, 3) := by decide +kernel
theorem d_Nam_addTail_20 : decode b_Nam_addTail 20 = .ok (.pop, 1) := by decide +kernel
theorem d_Nam_addTail_21 : decode b_Nam_addTail 21 = .ok (.aload_n 0, 1) := by decide +kernel
theorem d_Nam_addTail_22 : decode b_Nam_addTail 22 = .ok (.getfield 37, 3) := by decide +kernel
theorem d_Nam_addTail_25 : decode b_Nam_addTail 25 = .ok (.getfield 64, 3) := by decide +kernel
theorem d_Nam_addTail_28 : decode b_Nam_addTail 28 = .ok (.ifCond .le 78, 3) := by decide +kernel
theorem d_Nam_addTail_31 : decode b_Nam_addTail 31 = .ok (.aload_n 0, 1) := by decide +kernel
theorem d_Nam_addTail_32 : decode b_Nam_addTail 32 = .ok (.getfield 37, 3) := by decide +kernel
theorem d_Nam_addTail_35 : decode b_Nam_addTail 35 = .ok (.iconst 0, 1) := by decide +kernel
theorem d_Nam_addTail_36 : decode b_Nam_addTail 36 = .ok (.invokevirtual 71, 3) := by decide +kernel
theorem d_Nam_addTail_39 : decode b_Nam_addTail 39 = .ok (.invokestatic 210, 3) := by decide +kernel
theorem d_Nam_addTail_42 : decode b_Nam_addTail 42 = .ok (.ifCond .ne 64, 3) := by decide +kernel
theorem d_Nam_addTail_45 : decode b_Nam_addTail 45 = .ok (.aload_n 0, 1) := by decide +kernel
theorem d_Nam_addTail_46 : decode b_Nam_addTail 46 = .ok (.getfield 46, 3) := by decide +kernel
theorem d_Nam_addTail_49 : decode b_Nam_addTail 49 = .ok (.aload_n 0, 1) := by decide +kernel
theorem d_Nam_addTail_50 : decode b_Nam_addTail 50 = .ok (.getfield 37, 3) := by decide +kernel
theorem d_Nam_addTail_53 : decode b_Nam_addTail 53 = .ok (.aload_n 0, 1) := by decide +kernel
theorem d_Nam_addTail_54 : decode b_Nam_addTail 54 = .ok (.getfield 53, 3) := by decide +kernel
theorem d_Nam_addTail_57 : decode b_Nam_addTail 57 = .ok (.aload_n 0, 1) := by decide +kernel
theorem d_Nam_addTail_58 : decode b_Nam_addTail 58 = .ok (.getfield 37, 3) := by decide +kernel
theorem d_Nam_addTail_61 : decode b_Nam_addTail 61 = .ok (.aload_n 0, 1) := by decide +kernel
theorem d_Nam_addTail_62 : decode b_Nam_addTail 62 = .ok (.getfield 53, 3) := by decide +kernel
theorem d_Nam_addTail_65 : decode b_Nam_addTail 65 = .ok (.invokevirtual 128, 3) := by decide +kernel
theorem d_Nam_addTail_68 : decode b_Nam_addTail 68 = .ok (.invokevirtual 213, 3) := by decide +kernel
theorem d_Nam_addTail_71 : decode b_Nam_addTail 71 = .ok (.invokevirtual 217, 3) := by decide +kernel
theorem d_Nam_addTail_74 : decode b_Nam_addTail 74 = .ok (.astore_n 3, 1) := by decide +kernel
theorem d_Nam_addTail_75 : decode b_Nam_addTail 75 = .ok (.aload_n 3, 1) := by decide +kernel
theorem d_Nam_addTail_76 : decode b_Nam_addTail 76 = .ok (.ifnull 30, 3) := by decide +kernel
theorem d_Nam_addTail_79 : decode b_Nam_addTail 79 = .ok (.aload_n 3, 1) := by decide +kernel
theorem d_Nam_addTail_80 : decode b_Nam_addTail 80 = .ok (.getfield 167, 3) := by decide +kernel
theorem d_Nam_addTail_83 : decode b_Nam_addTail 83 = .ok (.ifCond .ne 23, 3) := by decide +kernel
theorem d_Nam_addTail_86 : decode b_Nam_addTail 86 = .ok (.aload_n 0, 1) := by decide +kernel
theorem d_Nam_addTail_87 : decode b_Nam_addTail 87 = .ok (.getfield 31, 3) := by decide +kernel
theorem d_Nam_addTail_90 : decode b_Nam_addTail 90 = .ok (.aload_n 3, 1) := by decide +kernel
theorem d_Nam_addTail_91 : decode b_Nam_addTail 91 = .ok (.getfield 171, 3) := by decide +kernel
theorem d_Nam_addTail_94 : decode b_Nam_addTail 94 = .ok (.iconst 0, 1) := by decide +kernel
theorem d_Nam_addTail_95 : decode b_Nam_addTail 95 = .ok (.aload_n 3, 1) := by decide +kernel
theorem d_Nam_addTail_96 : decode b_Nam_addTail 96 = .ok (.getfield 171, 3) := by decide +kernel
theorem d_Nam_addTail_99 : decode b_Nam_addTail 99 = .ok (.getfield 64, 3) := by decide +kernel
theorem d_Nam_addTail_102 : decode b_Nam_addTail 102 = .ok (.invokevirtual 221, 3) := by decide +kernel
theorem d_Nam_addTail_105 : decode b_Nam_addTail 105 = .ok (.ireturn, 1) := by decide +kernel
theorem d_Nam_addTail_106 : decode b_Nam_addTail 106 = .ok (.aload_n 0, 1) := by decide +kernel
theorem d_Nam_addTail_107 : decode b_Nam_addTail 107 = .ok (.getfield 31, 3) := by decide +kernel
theorem d_Nam_addTail_110 : decode b_Nam_addTail 110 = .ok (.aload_n 0, 1) := by decide +kernel
theorem d_Nam_addTail_111 : decode b_Nam_addTail 111 = .ok (.getfield 37, 3) := by decide +kernel
theorem d_Nam_addTail_114 : decode b_Nam_addTail 114 = .ok (.iconst 0, 1) := by decide +kernel
theorem d_Nam_addTail_115 : decode b_Nam_addTail 115 = .ok (.aload_n 0, 1) := by decide +kernel
theorem d_Nam_addTail_116 : decode b_Nam_addTail 116 = .ok (.getfield 37, 3) := by decide +kernel
theorem d_Nam_addTail_119 : decode b_Nam_addTail 119 = .ok (.getfield 64, 3) := by decide +kernel
theorem d_Nam_addTail_122 : decode b_Nam_addTail 122 = .ok (.invokevirtual 221, 3) := by decide +kernel
theorem d_Nam_addTail_125 : decode b_Nam_addTail 125 = .ok (.ireturn, 1) := by decide +kernel
theorem d_Nam_told_0 : decode b_Nam_told 0 = .ok (.aload_n 0, 1) := by decide +kernel
theorem d_Nam_told_1 : decode b_Nam_told 1 = .ok (.getfield 53, 3) := by decide +kernel
theorem d_Nam_told_4 : decode b_Nam_told 4 = .ok (.aload_n 0, 1) := by decide +kernel
theorem d_Nam_told_5 : decode b_Nam_told 5 = .ok (.getfield 31, 3) := by decide +kernel
theorem d_Nam_told_8 : decode b_Nam_told 8 = .ok (.aload_n 0, 1) := by decide +kernel
theorem d_Nam_told_9 : decode b_Nam_told 9 = .ok (.getfield 53, 3) := by decide +kernel
theorem d_Nam_told_12 : decode b_Nam_told 12 = .ok (.invokevirtual 128, 3) := by decide +kernel
theorem d_Nam_told_15 : decode b_Nam_told 15 = .ok (.invokevirtual 213, 3) := by decide +kernel
theorem d_Nam_told_18 : decode b_Nam_told 18 = .ok (.istore_n 1, 1) := by decide +kernel
theorem d_Nam_told_19 : decode b_Nam_told 19 = .ok (.aload_n 0, 1) := by decide +kernel
theorem d_Nam_told_20 : decode b_Nam_told 20 = .ok (.getfield 46, 3) := by decide +kernel
theorem d_Nam_told_23 : decode b_Nam_told 23 = .ok (.aload_n 0, 1) := by decide +kernel
theorem d_Nam_told_24 : decode b_Nam_told 24 = .ok (.getfield 31, 3) := by decide +kernel
theorem d_Nam_told_27 : decode b_Nam_told 27 = .ok (.iload_n 1, 1) := by decide +kernel
theorem d_Nam_told_28 : decode b_Nam_told 28 = .ok (.invokevirtual 217, 3) := by decide +kernel
theorem d_Nam_told_31 : decode b_Nam_told 31 = .ok (.astore_n 2, 1) := by decide +kernel
theorem d_Nam_told_32 : decode b_Nam_told 32 = .ok (.aload_n 2, 1) := by decide +kernel
theorem d_Nam_told_33 : decode b_Nam_told 33 = .ok (.ifnull 16, 3) := by decide +kernel
theorem d_Nam_told_36 : decode b_Nam_told 36 = .ok (.aload_n 2, 1) := by decide +kernel
theorem d_Nam_told_37 : decode b_Nam_told 37 = .ok (.getfield 167, 3) := by decide +kernel
theorem d_Nam_told_40 : decode b_Nam_told 40 = .ok (.ifCond .eq 7, 3) := by decide +kernel
theorem d_Nam_told_43 : decode b_Nam_told 43 = .ok (.aconst_null, 1) := by decide +kernel
theorem d_Nam_told_44 : decode b_Nam_told 44 = .ok (.goto 4, 3) := by decide +kernel
theorem d_Nam_told_47 : decode b_Nam_told 47 = .ok (.aload_n 2, 1) := by decide +kernel
theorem d_Nam_told_48 : decode b_Nam_told 48 = .ok (.areturn, 1) := by decide +kernel
theorem d_Nam_told_49 : decode b_Nam_told 49 = .ok (.aload_n 0, 1) := by decide +kernel
theorem d_Nam_told_50 : decode b_Nam_told 50 = .ok (.iload_n 1, 1) := by decide +kernel
theorem d_Nam_told_51 : decode b_Nam_told 51 = .ok (.invokevirtual 224, 3) := by decide +kernel
theorem d_Nam_told_54 : decode b_Nam_told 54 = .ok (.areturn, 1) := by decide +kernel
theorem d_Nam_stemOf_0 : decode b_Nam_stemOf 0 = .ok (.aload_n 0, 1) := by decide +kernel
theorem d_Nam_stemOf_1 : decode b_Nam_stemOf 1 = .ok (.getfield 31, 3) := by decide +kernel
theorem d_Nam_stemOf_4 : decode b_Nam_stemOf 4 = .ok (.invokevirtual 227, 3) := by decide +kernel
theorem d_Nam_stemOf_7 : decode b_Nam_stemOf 7 = .ok (.ifCond .ne 5, 3) := by decide +kernel
theorem d_Nam_stemOf_10 : decode b_Nam_stemOf 10 = .ok (.aconst_null, 1) := by decide +kernel
theorem d_Nam_stemOf_11 : decode b_Nam_stemOf 11 = .ok (.areturn, 1) := by decide +kernel
theorem d_Nam_stemOf_12 : decode b_Nam_stemOf 12 = .ok (.aload_n 0, 1) := by decide +kernel
theorem d_Nam_stemOf_13 : decode b_Nam_stemOf 13 = .ok (.getfield 34, 3) := by decide +kernel
theorem d_Nam_stemOf_16 : decode b_Nam_stemOf 16 = .ok (.invokevirtual 89, 3) := by decide +kernel
theorem d_Nam_stemOf_19 : decode b_Nam_stemOf 19 = .ok (.aload_n 0, 1) := by decide +kernel
theorem d_Nam_stemOf_20 : decode b_Nam_stemOf 20 = .ok (.getfield 34, 3) := by decide +kernel
theorem d_Nam_stemOf_23 : decode b_Nam_stemOf 23 = .ok (.aload_n 0, 1) := by decide +kernel
theorem d_Nam_stemOf_24 : decode b_Nam_stemOf 24 = .ok (.getfield 31, 3) := by decide +kernel
theorem d_Nam_stemOf_27 : decode b_Nam_stemOf 27 = .ok (.iconst 0, 1) := by decide +kernel
theorem d_Nam_stemOf_28 : decode b_Nam_stemOf 28 = .ok (.aload_n 0, 1) := by decide +kernel
theorem d_Nam_stemOf_29 : decode b_Nam_stemOf 29 = .ok (.getfield 31, 3) := by decide +kernel
theorem d_Nam_stemOf_32 : decode b_Nam_stemOf 32 = .ok (.iconst 0, 1) := by decide +kernel
theorem d_Nam_stemOf_33 : decode b_Nam_stemOf 33 = .ok (.aload_n 0, 1) := by decide +kernel
theorem d_Nam_stemOf_34 : decode b_Nam_stemOf 34 = .ok (.getfield 31, 3) := by decide +kernel
theorem d_Nam_stemOf_37 : decode b_Nam_stemOf 37 = .ok (.getfield 64, 3) := by decide +kernel
theorem d_Nam_stemOf_40 : decode b_Nam_stemOf 40 = .ok (.invokevirtual 195, 3) := by decide +kernel
theorem d_Nam_stemOf_43 : decode b_Nam_stemOf 43 = .ok (.iconst 1, 1) := by decide +kernel
theorem d_Nam_stemOf_44 : decode b_Nam_stemOf 44 = .ok (.iadd, 1) := by decide +kernel
theorem d_Nam_stemOf_45 : decode b_Nam_stemOf 45 = .ok (.invokevirtual 221, 3) := by decide +kernel
theorem d_Nam_stemOf_48 : decode b_Nam_stemOf 48 = .ok (.pop, 1) := by decide +kernel
theorem d_Nam_stemOf_49 : decode b_Nam_stemOf 49 = .ok (.aload_n 0, 1) := by decide +kernel
theorem d_Nam_stemOf_50 : decode b_Nam_stemOf 50 = .ok (.getfield 46, 3) := by decide +kernel
theorem d_Nam_stemOf_53 : decode b_Nam_stemOf 53 = .ok (.aload_n 0, 1) := by decide +kernel
theorem d_Nam_stemOf_54 : decode b_Nam_stemOf 54 = .ok (.getfield 34, 3) := by decide +kernel
theorem d_Nam_stemOf_57 : decode b_Nam_stemOf 57 = .ok (.aload_n 0, 1) := by decide +kernel
theorem d_Nam_stemOf_58 : decode b_Nam_stemOf 58 = .ok (.getfield 53, 3) := by decide +kernel
theorem d_Nam_stemOf_61 : decode b_Nam_stemOf 61 = .ok (.aload_n 0, 1) := by decide +kernel
theorem d_Nam_stemOf_62 : decode b_Nam_stemOf 62 = .ok (.getfield 34, 3) := by decide +kernel
theorem d_Nam_stemOf_65 : decode b_Nam_stemOf 65 = .ok (.iload_n 1, 1) := by decide +kernel
theorem d_Nam_stemOf_66 : decode b_Nam_stemOf 66 = .ok (.invokevirtual 213, 3) := by decide +kernel
theorem d_Nam_stemOf_69 : decode b_Nam_stemOf 69 = .ok (.invokevirtual 217, 3) := by decide +kernel
theorem d_Nam_stemOf_72 : decode b_Nam_stemOf 72 = .ok (.areturn, 1) := by decide +kernel
theorem d_Nam_textOf_0 : decode b_Nam_textOf 0 = .ok (.aload_n 1, 1) := by decide +kernel
theorem d_Nam_textOf_1 : decode b_Nam_textOf 1 = .ok (.ifnonnull 10, 3) := by decide +kernel
theorem d_Nam_textOf_4 : decode b_Nam_textOf 4 = .ok (.aload_n 0, 1) := by decide +kernel
theorem d_Nam_textOf_5 : decode b_Nam_textOf 5 = .ok (.getfield 31, 3) := by decide +kernel
theorem d_Nam_textOf_8 : decode b_Nam_textOf 8 = .ok (.goto 7, 3) := by decide +kernel
theorem d_Nam_textOf_11 : decode b_Nam_textOf 11 = .ok (.aload_n 1, 1) := by decide +kernel
theorem d_Nam_textOf_12 : decode b_Nam_textOf 12 = .ok (.getfield 171, 3) := by decide +kernel
theorem d_Nam_textOf_15 : decode b_Nam_textOf 15 = .ok (.areturn, 1) := by decide +kernel
theorem d_Nam_give_0 : decode b_Nam_give 0 = .ok (.aload_n 0, 1) := by decide +kernel
theorem d_Nam_give_1 : decode b_Nam_give 1 = .ok (.getfield 53, 3) := by decide +kernel
theorem d_Nam_give_4 : decode b_Nam_give 4 = .ok (.aload_n 0, 1) := by decide +kernel
theorem d_Nam_give_5 : decode b_Nam_give 5 = .ok (.getfield 31, 3) := by decide +kernel
theorem d_Nam_give_8 : decode b_Nam_give 8 = .ok (.aload_n 0, 1) := by decide +kernel
theorem d_Nam_give_9 : decode b_Nam_give 9 = .ok (.getfield 53, 3) := by decide +kernel
theorem d_Nam_give_12 : decode b_Nam_give 12 = .ok (.invokevirtual 128, 3) := by decide +kernel
theorem d_Nam_give_15 : decode b_Nam_give 15 = .ok (.invokevirtual 213, 3) := by decide +kernel
theorem d_Nam_give_18 : decode b_Nam_give 18 = .ok (.istore 4, 2) := by decide +kernel
theorem d_Nam_give_20 : decode b_Nam_give 20 = .ok (.aload_n 0, 1) := by decide +kernel
theorem d_Nam_give_21 : decode b_Nam_give 21 = .ok (.getfield 31, 3) := by decide +kernel
theorem d_Nam_give_24 : decode b_Nam_give 24 = .ok (.invokevirtual 231, 3) := by decide +kernel
theorem d_Nam_give_27 : decode b_Nam_give 27 = .ok (.ifCond .eq 16, 3) := by decide +kernel
theorem d_Nam_give_30 : decode b_Nam_give 30 = .ok (.aload_n 0, 1) := by decide +kernel
theorem d_Nam_give_31 : decode b_Nam_give 31 = .ok (.getfield 46, 3) := by decide +kernel
theorem d_Nam_give_34 : decode b_Nam_give 34 = .ok (.aload_n 0, 1) := by decide +kernel
theorem d_Nam_give_35 : decode b_Nam_give 35 = .ok (.getfield 31, 3) := by decide +kernel
theorem d_Nam_give_38 : decode b_Nam_give 38 = .ok (.iload 4, 2) := by decide +kernel
theorem d_Nam_give_40 : decode b_Nam_give 40 = .ok (.invokevirtual 234, 3) := by decide +kernel
theorem d_Nam_give_43 : decode b_Nam_give 43 = .ok (.aload_n 0, 1) := by decide +kernel
theorem d_Nam_give_44 : decode b_Nam_give 44 = .ok (.getfield 46, 3) := by decide +kernel
theorem d_Nam_give_47 : decode b_Nam_give 47 = .ok (.aload_n 0, 1) := by decide +kernel
theorem d_Nam_give_48 : decode b_Nam_give 48 = .ok (.getfield 31, 3) := by decide +kernel
theorem d_Nam_give_51 : decode b_Nam_give 51 = .ok (.iload 4, 2) := by decide +kernel
theorem d_Nam_give_53 : decode b_Nam_give 53 = .ok (.invokevirtual 238, 3) := by decide +kernel
theorem d_Nam_give_56 : decode b_Nam_give 56 = .ok (.astore 5, 2) := by decide +kernel
theorem d_Nam_give_58 : decode b_Nam_give 58 = .ok (.aload 5, 2) := by decide +kernel
theorem d_Nam_give_60 : decode b_Nam_give 60 = .ok (.ifnonnull 6, 3) := by decide +kernel
theorem d_Nam_give_63 : decode b_Nam_give 63 = .ok (.bipush (-4), 2) := by decide +kernel
theorem d_Nam_give_65 : decode b_Nam_give 65 = .ok (.ireturn, 1) := by decide +kernel
theorem d_Nam_give_66 : decode b_Nam_give 66 = .ok (.aload 5, 2) := by decide +kernel
theorem d_Nam_give_68 : decode b_Nam_give 68 = .ok (.iconst 0, 1) := by decide +kernel
theorem d_Nam_give_69 : decode b_Nam_give 69 = .ok (.putfield 167, 3) := by decide +kernel
theorem d_Nam_give_72 : decode b_Nam_give 72 = .ok (.aload 5, 2) := by decide +kernel
theorem d_Nam_give_74 : decode b_Nam_give 74 = .ok (.getfield 171, 3) := by decide +kernel
theorem d_Nam_give_77 : decode b_Nam_give 77 = .ok (.invokevirtual 89, 3) := by decide +kernel
theorem d_Nam_give_80 : decode b_Nam_give 80 = .ok (.aload 5, 2) := by decide +kernel
theorem d_Nam_give_82 : decode b_Nam_give 82 = .ok (.getfield 171, 3) := by decide +kernel
theorem d_Nam_give_85 : decode b_Nam_give 85 = .ok (.aload_n 1, 1) := by decide +kernel
theorem d_Nam_give_86 : decode b_Nam_give 86 = .ok (.iload_n 2, 1) := by decide +kernel
theorem d_Nam_give_87 : decode b_Nam_give 87 = .ok (.iload_n 3, 1) := by decide +kernel
theorem d_Nam_give_88 : decode b_Nam_give 88 = .ok (.invokevirtual 221, 3) := by decide +kernel
theorem d_Nam_give_91 : decode b_Nam_give 91 = .ok (.pop, 1) := by decide +kernel
theorem d_Nam_give_92 : decode b_Nam_give 92 = .ok (.iconst 0, 1) := by decide +kernel
theorem d_Nam_give_93 : decode b_Nam_give 93 = .ok (.ireturn, 1) := by decide +kernel
theorem d_Nam_takeBack_0 : decode b_Nam_takeBack 0 = .ok (.aload_n 0, 1) := by decide +kernel
theorem d_Nam_takeBack_1 : decode b_Nam_takeBack 1 = .ok (.getfield 53, 3) := by decide +kernel
theorem d_Nam_takeBack_4 : decode b_Nam_takeBack 4 = .ok (.aload_n 0, 1) := by decide +kernel
theorem d_Nam_takeBack_5 : decode b_Nam_takeBack 5 = .ok (.getfield 31, 3) := by decide +kernel
theorem d_Nam_takeBack_8 : decode b_Nam_takeBack 8 = .ok (.aload_n 0, 1) := by decide +kernel
theorem d_Nam_takeBack_9 : decode b_Nam_takeBack 9 = .ok (.getfield 53, 3) := by decide +kernel
theorem d_Nam_takeBack_12 : decode b_Nam_takeBack 12 = .ok (.invokevirtual 128, 3) := by decide +kernel
theorem d_Nam_takeBack_15 : decode b_Nam_takeBack 15 = .ok (.invokevirtual 213, 3) := by decide +kernel
theorem d_Nam_takeBack_18 : decode b_Nam_takeBack 18 = .ok (.istore_n 1, 1) := by decide +kernel
theorem d_Nam_takeBack_19 : decode b_Nam_takeBack 19 = .ok (.aload_n 0, 1) := by decide +kernel
theorem d_Nam_takeBack_20 : decode b_Nam_takeBack 20 = .ok (.getfield 31, 3) := by decide +kernel
theorem d_Nam_takeBack_23 : decode b_Nam_takeBack 23 = .ok (.invokevirtual 231, 3) := by decide +kernel
theorem d_Nam_takeBack_26 : decode b_Nam_takeBack 26 = .ok (.ifCond .eq 15, 3) := by decide +kernel
theorem d_Nam_takeBack_29 : decode b_Nam_takeBack 29 = .ok (.aload_n 0, 1) := by decide +kernel
theorem d_Nam_takeBack_30 : decode b_Nam_takeBack 30 = .ok (.getfield 46, 3) := by decide +kernel
theorem d_Nam_takeBack_33 : decode b_Nam_takeBack 33 = .ok (.aload_n 0, 1) := by decide +kernel
theorem d_Nam_takeBack_34 : decode b_Nam_takeBack 34 = .ok (.getfield 31, 3) := by decide +kernel
theorem d_Nam_takeBack_37 : decode b_Nam_takeBack 37 = .ok (.iload_n 1, 1) := by decide +kernel
theorem d_Nam_takeBack_38 : decode b_Nam_takeBack 38 = .ok (.invokevirtual 234, 3) := by decide +kernel
theorem d_Nam_takeBack_41 : decode b_Nam_takeBack 41 = .ok (.aload_n 0, 1) := by decide +kernel
theorem d_Nam_takeBack_42 : decode b_Nam_takeBack 42 = .ok (.iload_n 1, 1) := by decide +kernel
theorem d_Nam_takeBack_43 : decode b_Nam_takeBack 43 = .ok (.invokevirtual 224, 3) := by decide +kernel
theorem d_Nam_takeBack_46 : decode b_Nam_takeBack 46 = .ok (.ifnonnull 17, 3) := by decide +kernel
theorem d_Nam_takeBack_49 : decode b_Nam_takeBack 49 = .ok (.aload_n 0, 1) := by decide +kernel
theorem d_Nam_takeBack_50 : decode b_Nam_takeBack 50 = .ok (.getfield 46, 3) := by decide +kernel
theorem d_Nam_takeBack_53 : decode b_Nam_takeBack 53 = .ok (.aload_n 0, 1) := by decide +kernel
theorem d_Nam_takeBack_54 : decode b_Nam_takeBack 54 = .ok (.getfield 31, 3) := by decide +kernel
theorem d_Nam_takeBack_57 : decode b_Nam_takeBack 57 = .ok (.iload_n 1, 1) := by decide +kernel
theorem d_Nam_takeBack_58 : decode b_Nam_takeBack 58 = .ok (.invokevirtual 241, 3) := by decide +kernel
theorem d_Nam_takeBack_61 : decode b_Nam_takeBack 61 = .ok (.iconst 0, 1) := by decide +kernel
theorem d_Nam_takeBack_62 : decode b_Nam_takeBack 62 = .ok (.ireturn, 1) := by decide +kernel
theorem d_Nam_takeBack_63 : decode b_Nam_takeBack 63 = .ok (.aload_n 0, 1) := by decide +kernel
theorem d_Nam_takeBack_64 : decode b_Nam_takeBack 64 = .ok (.getfield 46, 3) := by decide +kernel
theorem d_Nam_takeBack_67 : decode b_Nam_takeBack 67 = .ok (.aload_n 0, 1) := by decide +kernel
theorem d_Nam_takeBack_68 : decode b_Nam_takeBack 68 = .ok (.getfield 31, 3) := by decide +kernel
theorem d_Nam_takeBack_71 : decode b_Nam_takeBack 71 = .ok (.iload_n 1, 1) := by decide +kernel
theorem d_Nam_takeBack_72 : decode b_Nam_takeBack 72 = .ok (.invokevirtual 238, 3) := by decide +kernel
theorem d_Nam_takeBack_75 : decode b_Nam_takeBack 75 = .ok (.astore_n 2, 1) := by decide +kernel
theorem d_Nam_takeBack_76 : decode b_Nam_takeBack 76 = .ok (.aload_n 2, 1) := by decide +kernel
theorem d_Nam_takeBack_77 : decode b_Nam_takeBack 77 = .ok (.ifnonnull 6, 3) := by decide +kernel
theorem d_Nam_takeBack_80 : decode b_Nam_takeBack 80 = .ok (.bipush (-4), 2) := by decide +kernel
theorem d_Nam_takeBack_82 : decode b_Nam_takeBack 82 = .ok (.ireturn, 1) := by decide +kernel
theorem d_Nam_takeBack_83 : decode b_Nam_takeBack 83 = .ok (.aload_n 2, 1) := by decide +kernel
theorem d_Nam_takeBack_84 : decode b_Nam_takeBack 84 = .ok (.iconst 1, 1) := by decide +kernel
theorem d_Nam_takeBack_85 : decode b_Nam_takeBack 85 = .ok (.putfield 167, 3) := by decide +kernel
theorem d_Nam_takeBack_88 : decode b_Nam_takeBack 88 = .ok (.iconst 0, 1) := by decide +kernel
theorem d_Nam_takeBack_89 : decode b_Nam_takeBack 89 = .ok (.ireturn, 1) := by decide +kernel
theorem d_Nam_enterPool_0 : decode b_Nam_enterPool 0 = .ok (.aload_n 0, 1) := by decide +kernel
theorem d_Nam_enterPool_1 : decode b_Nam_enterPool 1 = .ok (.getfield 53, 3) := by decide +kernel
theorem d_Nam_enterPool_4 : decode b_Nam_enterPool 4 = .ok (.invokevirtual 244, 3) := by decide +kernel
theorem d_Nam_enterPool_7 : decode b_Nam_enterPool 7 = .ok (.iconst 0, 1) := by decide +kernel
theorem d_Nam_enterPool_8 : decode b_Nam_enterPool 8 = .ok (.istore_n 1, 1) := by decide +kernel
theorem d_Nam_enterPool_9 : decode b_Nam_enterPool 9 = .ok (.iload_n 1, 1) := by decide +kernel
theorem d_Nam_enterPool_10 : decode b_Nam_enterPool 10 = .ok (.aload_n 0, 1) := by decide +kernel
theorem d_Nam_enterPool_11 : decode b_Nam_enterPool 11 = .ok (.getfield 10, 3) := by decide +kernel
theorem d_Nam_enterPool_14 : decode b_Nam_enterPool 14 = .ok (.getfield 118, 3) := by decide +kernel
theorem d_Nam_enterPool_17 : decode b_Nam_enterPool 17 = .ok (.if_icmp .ge 38, 3) := by decide +kernel
theorem d_Nam_enterPool_20 : decode b_Nam_enterPool 20 = .ok (.aload_n 0, 1) := by decide +kernel
theorem d_Nam_enterPool_21 : decode b_Nam_enterPool 21 = .ok (.iload_n 1, 1) := by decide +kernel
theorem d_Nam_enterPool_22 : decode b_Nam_enterPool 22 = .ok (.invokevirtual 79, 3) := by decide +kernel
theorem d_Nam_enterPool_25 : decode b_Nam_enterPool 25 = .ok (.ifCond .ne 13, 3) := by decide +kernel
theorem d_Nam_enterPool_28 : decode b_Nam_enterPool 28 = .ok (.aload_n 0, 1) := by decide +kernel
theorem d_Nam_enterPool_29 : decode b_Nam_enterPool 29 = .ok (.getfield 53, 3) := by decide +kernel
theorem d_Nam_enterPool_32 : decode b_Nam_enterPool 32 = .ok (.invokevirtual 134, 3) := by decide +kernel
theorem d_Nam_enterPool_35 : decode b_Nam_enterPool 35 = .ok (.bipush (-2), 2) := by decide +kernel
theorem d_Nam_enterPool_37 : decode b_Nam_enterPool 37 = .ok (.ireturn, 1) := by decide +kernel
theorem d_Nam_enterPool_38 : decode b_Nam_enterPool 38 = .ok (.aload_n 0, 1) := by decide +kernel
theorem d_Nam_enterPool_39 : decode b_Nam_enterPool 39 = .ok (.getfield 53, 3) := by decide +kernel
theorem d_Nam_enterPool_42 : decode b_Nam_enterPool 42 = .ok (.aload_n 0, 1) := by decide +kernel
theorem d_Nam_enterPool_43 : decode b_Nam_enterPool 43 = .ok (.getfield 31, 3) := by decide +kernel
theorem d_Nam_enterPool_46 : decode b_Nam_enterPool 46 = .ok (.invokevirtual 247, 3) := by decide +kernel
theorem d_Nam_enterPool_49 : decode b_Nam_enterPool 49 = .ok (.iinc 1 1, 3) := by decide +kernel
theorem d_Nam_enterPool_52 : decode b_Nam_enterPool 52 = .ok (.goto (-43), 3) := by decide +kernel
theorem d_Nam_enterPool_55 : decode b_Nam_enterPool 55 = .ok (.iconst 0, 1) := by decide +kernel
theorem d_Nam_enterPool_56 : decode b_Nam_enterPool 56 = .ok (.ireturn, 1) := by decide +kernel
theorem d_Nam_cutAt_0 : decode b_Nam_cutAt 0 = .ok (.aload_n 0, 1) := by decide +kernel
theorem d_Nam_cutAt_1 : decode b_Nam_cutAt 1 = .ok (.getfield 10, 3) := by decide +kernel
theorem d_Nam_cutAt_4 : decode b_Nam_cutAt 4 = .ok (.iload_n 1, 1) := by decide +kernel
theorem d_Nam_cutAt_5 : decode b_Nam_cutAt 5 = .ok (.invokevirtual 250, 3) := by decide +kernel
theorem d_Nam_cutAt_8 : decode b_Nam_cutAt 8 = .ok (.tableswitch (167) (3) (7) #[36, 61, 100, 117, 142], 36) := by decide +kernel
theorem d_Nam_cutAt_44 : decode b_Nam_cutAt 44 = .ok (.aload_n 0, 1) := by decide +kernel
theorem d_Nam_cutAt_45 : decode b_Nam_cutAt 45 = .ok (.getfield 10, 3) := by decide +kernel
theorem d_Nam_cutAt_48 : decode b_Nam_cutAt 48 = .ok (.iload_n 1, 1) := by decide +kernel
theorem d_Nam_cutAt_49 : decode b_Nam_cutAt 49 = .ok (.aload_n 0, 1) := by decide +kernel
theorem d_Nam_cutAt_50 : decode b_Nam_cutAt 50 = .ok (.getfield 40, 3) := by decide +kernel
theorem d_Nam_cutAt_53 : decode b_Nam_cutAt 53 = .ok (.invokevirtual 253, 3) := by decide +kernel
theorem d_Nam_cutAt_56 : decode b_Nam_cutAt 56 = .ok (.aload_n 0, 1) := by decide +kernel
theorem d_Nam_cutAt_57 : decode b_Nam_cutAt 57 = .ok (.getfield 60, 3) := by decide +kernel
theorem d_Nam_cutAt_60 : decode b_Nam_cutAt 60 = .ok (.aload_n 0, 1) := by decide +kernel
theorem d_Nam_cutAt_61 : decode b_Nam_cutAt 61 = .ok (.getfield 40, 3) := by decide +kernel
theorem d_Nam_cutAt_64 : decode b_Nam_cutAt 64 = .ok (.invokevirtual 257, 3) := by decide +kernel
theorem d_Nam_cutAt_67 : decode b_Nam_cutAt 67 = .ok (.iconst 0, 1) := by decide +kernel
theorem d_Nam_cutAt_68 : decode b_Nam_cutAt 68 = .ok (.ireturn, 1) := by decide +kernel
theorem d_Nam_cutAt_69 : decode b_Nam_cutAt 69 = .ok (.aload_n 0, 1) := by decide +kernel
theorem d_Nam_cutAt_70 : decode b_Nam_cutAt 70 = .ok (.iload_n 1, 1) := by decide +kernel
theorem d_Nam_cutAt_71 : decode b_Nam_cutAt 71 = .ok (.invokevirtual 79, 3) := by decide +kernel
theorem d_Nam_cutAt_74 : decode b_Nam_cutAt 74 = .ok (.ifCond .ne 6, 3) := by decide +kernel
theorem d_Nam_cutAt_77 : decode b_Nam_cutAt 77 = .ok (.bipush (-2), 2) := by decide +kernel
theorem d_Nam_cutAt_79 : decode b_Nam_cutAt 79 = .ok (.ireturn, 1) := by decide +kernel
theorem d_Nam_cutAt_80 : decode b_Nam_cutAt 80 = .ok (.aload_n 0, 1) := by decide +kernel
theorem d_Nam_cutAt_81 : decode b_Nam_cutAt 81 = .ok (.getfield 40, 3) := by decide +kernel
theorem d_Nam_cutAt_84 : decode b_Nam_cutAt 84 = .ok (.aload_n 0, 1) := by decide +kernel
theorem d_Nam_cutAt_85 : decode b_Nam_cutAt 85 = .ok (.aload_n 0, 1) := by decide +kernel
theorem d_Nam_cutAt_86 : decode b_Nam_cutAt 86 = .ok (.invokevirtual 98, 3) := by decide +kernel
theorem d_Nam_cutAt_89 : decode b_Nam_cutAt 89 = .ok (.invokevirtual 102, 3) := by decide +kernel
theorem d_Nam_cutAt_92 : decode b_Nam_cutAt 92 = .ok (.invokevirtual 106, 3) := by decide +kernel
theorem d_Nam_cutAt_95 : decode b_Nam_cutAt 95 = .ok (.aload_n 0, 1) := by decide +kernel
theorem d_Nam_cutAt_96 : decode b_Nam_cutAt 96 = .ok (.getfield 60, 3) := by decide +kernel
theorem d_Nam_cutAt_99 : decode b_Nam_cutAt 99 = .ok (.aload_n 0, 1) := by decide +kernel
theorem d_Nam_cutAt_100 : decode b_Nam_cutAt 100 = .ok (.getfield 40, 3) := by decide +kernel
theorem d_Nam_cutAt_103 : decode b_Nam_cutAt 103 = .ok (.invokevirtual 257, 3) := by decide +kernel
theorem d_Nam_cutAt_106 : decode b_Nam_cutAt 106 = .ok (.iconst 0, 1) := by decide +kernel
theorem d_Nam_cutAt_107 : decode b_Nam_cutAt 107 = .ok (.ireturn, 1) := by decide +kernel
theorem d_Nam_cutAt_108 : decode b_Nam_cutAt 108 = .ok (.aload_n 0, 1) := by decide +kernel
theorem d_Nam_cutAt_109 : decode b_Nam_cutAt 109 = .ok (.getfield 60, 3) := by decide +kernel
theorem d_Nam_cutAt_112 : decode b_Nam_cutAt 112 = .ok (.aload_n 0, 1) := by decide +kernel
theorem d_Nam_cutAt_113 : decode b_Nam_cutAt 113 = .ok (.getfield 10, 3) := by decide +kernel
theorem d_Nam_cutAt_116 : decode b_Nam_cutAt 116 = .ok (.iload_n 1, 1) := by decide +kernel
theorem d_Nam_cutAt_117 : decode b_Nam_cutAt 117 = .ok (.invokevirtual 260, 3) := by decide +kernel
theorem d_Nam_cutAt_120 : decode b_Nam_cutAt 120 = .ok (.invokevirtual 263, 3) := by decide +kernel
theorem d_Nam_cutAt_123 : decode b_Nam_cutAt 123 = .ok (.iconst 0, 1) := by decide +kernel
theorem d_Nam_cutAt_124 : decode b_Nam_cutAt 124 = .ok (.ireturn, 1) := by decide +kernel
theorem d_Nam_cutAt_125 : decode b_Nam_cutAt 125 = .ok (.aload_n 0, 1) := by decide +kernel
theorem d_Nam_cutAt_126 : decode b_Nam_cutAt 126 = .ok (.getfield 60, 3) := by decide +kernel
theorem d_Nam_cutAt_129 : decode b_Nam_cutAt 129 = .ok (.aload_n 0, 1) := by decide +kernel
theorem d_Nam_cutAt_130 : decode b_Nam_cutAt 130 = .ok (.getfield 60, 3) := by decide +kernel
theorem d_Nam_cutAt_133 : decode b_Nam_cutAt 133 = .ok (.getfield 183, 3) := by decide +kernel
theorem d_Nam_cutAt_136 : decode b_Nam_cutAt 136 = .ok (.aload_n 0, 1) := by decide +kernel
theorem d_Nam_cutAt_137 : decode b_Nam_cutAt 137 = .ok (.getfield 10, 3) := by decide +kernel
theorem d_Nam_cutAt_140 : decode b_Nam_cutAt 140 = .ok (.iload_n 1, 1) := by decide +kernel
theorem d_Nam_cutAt_141 : decode b_Nam_cutAt 141 = .ok (.invokevirtual 260, 3) := by decide +kernel
theorem d_Nam_cutAt_144 : decode b_Nam_cutAt 144 = .ok (.iadd, 1) := by decide +kernel
theorem d_Nam_cutAt_145 : decode b_Nam_cutAt 145 = .ok (.invokevirtual 263, 3) := by decide +kernel
theorem d_Nam_cutAt_148 : decode b_Nam_cutAt 148 = .ok (.iconst 0, 1) := by decide +kernel
theorem d_Nam_cutAt_149 : decode b_Nam_cutAt 149 = .ok (.ireturn, 1) := by decide +kernel
theorem d_Nam_cutAt_150 : decode b_Nam_cutAt 150 = .ok (.aload_n 0, 1) := by decide +kernel
theorem d_Nam_cutAt_151 : decode b_Nam_cutAt 151 = .ok (.getfield 60, 3) := by decide +kernel
theorem d_Nam_cutAt_154 : decode b_Nam_cutAt 154 = .ok (.aload_n 0, 1) := by decide +kernel
theorem d_Nam_cutAt_155 : decode b_Nam_cutAt 155 = .ok (.getfield 60, 3) := by decide +kernel
theorem d_Nam_cutAt_158 : decode b_Nam_cutAt 158 = .ok (.getfield 183, 3) := by decide +kernel
theorem d_Nam_cutAt_161 : decode b_Nam_cutAt 161 = .ok (.aload_n 0, 1) := by decide +kernel
theorem d_Nam_cutAt_162 : decode b_Nam_cutAt 162 = .ok (.getfield 10, 3) := by decide +kernel
theorem d_Nam_cutAt_165 : decode b_Nam_cutAt 165 = .ok (.iload_n 1, 1) := by decide +kernel
theorem d_Nam_cutAt_166 : decode b_Nam_cutAt 166 = .ok (.invokevirtual 260, 3) := by decide +kernel
theorem d_Nam_cutAt_169 : decode b_Nam_cutAt 169 = .ok (.isub, 1) := by decide +kernel
theorem d_Nam_cutAt_170 : decode b_Nam_cutAt 170 = .ok (.invokevirtual 263, 3) := by decide +kernel
theorem d_Nam_cutAt_173 : decode b_Nam_cutAt 173 = .ok (.iconst 0, 1) := by decide +kernel
theorem d_Nam_cutAt_174 : decode b_Nam_cutAt 174 = .ok (.ireturn, 1) := by decide +kernel
theorem d_Nam_cutAt_175 : decode b_Nam_cutAt 175 = .ok (.aload_n 0, 1) := by decide +kernel
theorem d_Nam_cutAt_176 : decode b_Nam_cutAt 176 = .ok (.getfield 60, 3) := by decide +kernel
theorem d_Nam_cutAt_179 : decode b_Nam_cutAt 179 = .ok (.invokevirtual 266, 3) := by decide +kernel
theorem d_Nam_cutAt_182 : decode b_Nam_cutAt 182 = .ok (.iconst 0, 1) := by decide +kernel
theorem d_Nam_cutAt_183 : decode b_Nam_cutAt 183 = .ok (.ireturn, 1) := by decide +kernel
theorem d_Nam_handOver_0 : decode b_Nam_handOver 0 = .ok (.iload_n 2, 1) := by decide +kernel
theorem d_Nam_handOver_1 : decode b_Nam_handOver 1 = .ok (.ifCond .eq 13, 3) := by decide +kernel
theorem d_Nam_handOver_4 : decode b_Nam_handOver 4 = .ok (.aload_n 0, 1) := by decide +kernel
theorem d_Nam_handOver_5 : decode b_Nam_handOver 5 = .ok (.getfield 60, 3) := by decide +kernel
theorem d_Nam_handOver_8 : decode b_Nam_handOver 8 = .ok (.invokevirtual 269, 3) := by decide +kernel
theorem d_Nam_handOver_11 : decode b_Nam_handOver 11 = .ok (.goto 10, 3) := by decide +kernel
theorem d_Nam_handOver_14 : decode b_Nam_handOver 14 = .ok (.aload_n 0, 1) := by decide +kernel
theorem d_Nam_handOver_15 : decode b_Nam_handOver 15 = .ok (.getfield 60, 3) := by decide +kernel
theorem d_Nam_handOver_18 : decode b_Nam_handOver 18 = .ok (.invokevirtual 272, 3) := by decide +kernel
theorem d_Nam_handOver_21 : decode b_Nam_handOver 21 = .ok (.aload_n 0, 1) := by decide +kernel
theorem d_Nam_handOver_22 : decode b_Nam_handOver 22 = .ok (.getfield 10, 3) := by decide +kernel
theorem d_Nam_handOver_25 : decode b_Nam_handOver 25 = .ok (.iload_n 1, 1) := by decide +kernel
theorem d_Nam_handOver_26 : decode b_Nam_handOver 26 = .ok (.invokevirtual 250, 3) := by decide +kernel
theorem d_Nam_handOver_29 : decode b_Nam_handOver 29 = .ok (.iconst 1, 1) := by decide +kernel
theorem d_Nam_handOver_30 : decode b_Nam_handOver 30 = .ok (.if_icmp .eq 5, 3) := by decide +kernel
theorem d_Nam_handOver_33 : decode b_Nam_handOver 33 = .ok (.iconst 0, 1) := by decide +kernel
theorem d_Nam_handOver_34 : decode b_Nam_handOver 34 = .ok (.ireturn, 1) := by decide +kernel
theorem d_Nam_handOver_35 : decode b_Nam_handOver 35 = .ok (.aload_n 0, 1) := by decide +kernel
theorem d_Nam_handOver_36 : decode b_Nam_handOver 36 = .ok (.iload_n 1, 1) := by decide +kernel
theorem d_Nam_handOver_37 : decode b_Nam_handOver 37 = .ok (.invokevirtual 79, 3) := by decide +kernel
theorem d_Nam_handOver_40 : decode b_Nam_handOver 40 = .ok (.ifCond .ne 6, 3) := by decide +kernel
theorem d_Nam_handOver_43 : decode b_Nam_handOver 43 = .ok (.bipush (-2), 2) := by decide +kernel
theorem d_Nam_handOver_45 : decode b_Nam_handOver 45 = .ok (.ireturn, 1) := by decide +kernel
theorem d_Nam_handOver_46 : decode b_Nam_handOver 46 = .ok (.aload_n 0, 1) := by decide +kernel
theorem d_Nam_handOver_47 : decode b_Nam_handOver 47 = .ok (.aload_n 0, 1) := by decide +kernel
theorem d_Nam_handOver_48 : decode b_Nam_handOver 48 = .ok (.getfield 60, 3) := by decide +kernel
theorem d_Nam_handOver_51 : decode b_Nam_handOver 51 = .ok (.getfield 177, 3) := by decide +kernel
theorem d_Nam_handOver_54 : decode b_Nam_handOver 54 = .ok (.aload_n 0, 1) := by decide +kernel
theorem d_Nam_handOver_55 : decode b_Nam_handOver 55 = .ok (.getfield 60, 3) := by decide +kernel
theorem d_Nam_handOver_58 : decode b_Nam_handOver 58 = .ok (.getfield 275, 3) := by decide +kernel
theorem d_Nam_handOver_61 : decode b_Nam_handOver 61 = .ok (.iconst 1, 1) := by decide +kernel
theorem d_Nam_handOver_62 : decode b_Nam_handOver 62 = .ok (.isub, 1) := by decide +kernel
theorem d_Nam_handOver_63 : decode b_Nam_handOver 63 = .ok (.aload_n 0, 1) := by decide +kernel
theorem d_Nam_handOver_64 : decode b_Nam_handOver 64 = .ok (.getfield 60, 3) := by decide +kernel
theorem d_Nam_handOver_67 : decode b_Nam_handOver 67 = .ok (.getfield 278, 3) := by decide +kernel
theorem d_Nam_handOver_70 : decode b_Nam_handOver 70 = .ok (.iconst 1, 1) := by decide +kernel
theorem d_Nam_handOver_71 : decode b_Nam_handOver 71 = .ok (.isub, 1) := by decide +kernel
theorem d_Nam_handOver_72 : decode b_Nam_handOver 72 = .ok (.invokevirtual 85, 3) := by decide +kernel
theorem d_Nam_handOver_75 : decode b_Nam_handOver 75 = .ok (.ireturn, 1) := by decide +kernel
theorem d_Nam_isDigit_0 : decode b_Nam_isDigit 0 = .ok (.iload_n 0, 1) := by decide +kernel
theorem d_Nam_isDigit_1 : decode b_Nam_isDigit 1 = .ok (.bipush 48, 2) := by decide +kernel
theorem d_Nam_isDigit_3 : decode b_Nam_isDigit 3 = .ok (.if_icmp .lt 13, 3) := by decide +kernel
theorem d_Nam_isDigit_6 : decode b_Nam_isDigit 6 = .ok (.iload_n 0, 1) := by decide +kernel
theorem d_Nam_isDigit_7 : decode b_Nam_isDigit 7 = .ok (.bipush 57, 2) := by decide +kernel
theorem d_Nam_isDigit_9 : decode b_Nam_isDigit 9 = .ok (.if_icmp .gt 7, 3) := by decide +kernel
theorem d_Nam_isDigit_12 : decode b_Nam_isDigit 12 = .ok (.iconst 1, 1) := by decide +kernel
theorem d_Nam_isDigit_13 : decode b_Nam_isDigit 13 = .ok (.goto 4, 3) := by decide +kernel
theorem d_Nam_isDigit_16 : decode b_Nam_isDigit 16 = .ok (.iconst 0, 1) := by decide +kernel
theorem d_Nam_isDigit_17 : decode b_Nam_isDigit 17 = .ok (.ireturn, 1) := by decide +kernel
theorem d_Nam_isSymbolByte_0 : decode b_Nam_isSymbolByte 0 = .ok (.iload_n 0, 1) := by decide +kernel
theorem d_Nam_isSymbolByte_1 : decode b_Nam_isSymbolByte 1 = .ok (.bipush 65, 2) := by decide +kernel
theorem d_Nam_isSymbolByte_3 : decode b_Nam_isSymbolByte 3 = .ok (.if_icmp .lt 9, 3) := by decide +kernel
theorem d_Nam_isSymbolByte_6 : decode b_Nam_isSymbolByte 6 = .ok (.iload_n 0, 1) := by decide +kernel
theorem d_Nam_isSymbolByte_7 : decode b_Nam_isSymbolByte 7 = .ok (.bipush 90, 2) := by decide +kernel
theorem d_Nam_isSymbolByte_9 : decode b_Nam_isSymbolByte 9 = .ok (.if_icmp .le 15, 3) := by decide +kernel
theorem d_Nam_isSymbolByte_12 : decode b_Nam_isSymbolByte 12 = .ok (.iload_n 0, 1) := by decide +kernel
theorem d_Nam_isSymbolByte_13 : decode b_Nam_isSymbolByte 13 = .ok (.bipush 97, 2) := by decide +kernel
theorem d_Nam_isSymbolByte_15 : decode b_Nam_isSymbolByte 15 = .ok (.if_icmp .lt 13, 3) := by decide +kernel
theorem d_Nam_isSymbolByte_18 : decode b_Nam_isSymbolByte 18 = .ok (.iload_n 0, 1) := by decide +kernel
theorem d_Nam_isSymbolByte_19 : decode b_Nam_isSymbolByte 19 = .ok (.bipush 122, 2) := by decide +kernel
theorem d_Nam_isSymbolByte_21 : decode b_Nam_isSymbolByte 21 = .ok (.if_icmp .gt 7, 3) := by decide +kernel
theorem d_Nam_isSymbolByte_24 : decode b_Nam_isSymbolByte 24 = .ok (.iconst 1, 1) := by decide +kernel
theorem d_Nam_isSymbolByte_25 : decode b_Nam_isSymbolByte 25 = .ok (.goto 4, 3) := by decide +kernel
theorem d_Nam_isSymbolByte_28 : decode b_Nam_isSymbolByte 28 = .ok (.iconst 0, 1) := by decide +kernel
theorem d_Nam_isSymbolByte_29 : decode b_Nam_isSymbolByte 29 = .ok (.istore_n 1, 1) := by decide +kernel
theorem d_Nam_isSymbolByte_30 : decode b_Nam_isSymbolByte 30 = .ok (.iload_n 1, 1) := by decide +kernel
theorem d_Nam_isSymbolByte_31 : decode b_Nam_isSymbolByte 31 = .ok (.ifCond .ne 34, 3) := by decide +kernel
theorem d_Nam_isSymbolByte_34 : decode b_Nam_isSymbolByte 34 = .ok (.iload_n 0, 1) := by decide +kernel
theorem d_Nam_isSymbolByte_35 : decode b_Nam_isSymbolByte 35 = .ok (.invokestatic 210, 3) := by decide +kernel
theorem d_Nam_isSymbolByte_38 : decode b_Nam_isSymbolByte 38 = .ok (.ifCond .ne 27, 3) := by decide +kernel
theorem d_Nam_isSymbolByte_41 : decode b_Nam_isSymbolByte 41 = .ok (.iload_n 0, 1) := by decide +kernel
theorem d_Nam_isSymbolByte_42 : decode b_Nam_isSymbolByte 42 = .ok (.bipush 46, 2) := by decide +kernel
theorem d_Nam_isSymbolByte_44 : decode b_Nam_isSymbolByte 44 = .ok (.if_icmp .eq 21, 3) := by decide +kernel
theorem d_Nam_isSymbolByte_47 : decode b_Nam_isSymbolByte 47 = .ok (.iload_n 0, 1) := by decide +kernel
theorem d_Nam_isSymbolByte_48 : decode b_Nam_isSymbolByte 48 = .ok (.bipush 33, 2) := by decide +kernel
theorem d_Nam_isSymbolByte_50 : decode b_Nam_isSymbolByte 50 = .ok (.if_icmp .eq 15, 3) := by decide +kernel
theorem d_Nam_isSymbolByte_53 : decode b_Nam_isSymbolByte 53 = .ok (.iload_n 0, 1) := by decide +kernel
theorem d_Nam_isSymbolByte_54 : decode b_Nam_isSymbolByte 54 = .ok (.bipush 63, 2) := by decide +kernel
theorem d_Nam_isSymbolByte_56 : decode b_Nam_isSymbolByte 56 = .ok (.if_icmp .eq 9, 3) := by decide +kernel
theorem d_Nam_isSymbolByte_59 : decode b_Nam_isSymbolByte 59 = .ok (.iload_n 0, 1) := by decide +kernel
theorem d_Nam_isSymbolByte_60 : decode b_Nam_isSymbolByte 60 = .ok (.bipush 95, 2) := by decide +kernel
theorem d_Nam_isSymbolByte_62 : decode b_Nam_isSymbolByte 62 = .ok (.if_icmp .ne 7, 3) := by decide +kernel
theorem d_Nam_isSymbolByte_65 : decode b_Nam_isSymbolByte 65 = .ok (.iconst 1, 1) := by decide +kernel
theorem d_Nam_isSymbolByte_66 : decode b_Nam_isSymbolByte 66 = .ok (.goto 4, 3) := by decide +kernel
theorem d_Nam_isSymbolByte_69 : decode b_Nam_isSymbolByte 69 = .ok (.iconst 0, 1) := by decide +kernel
theorem d_Nam_isSymbolByte_70 : decode b_Nam_isSymbolByte 70 = .ok (.ireturn, 1) := by decide +kernel
theorem d_Nam_capital_0 : decode b_Nam_capital 0 = .ok (.iload_n 0, 1) := by decide +kernel
theorem d_Nam_capital_1 : decode b_Nam_capital 1 = .ok (.bipush 97, 2) := by decide +kernel
theorem d_Nam_capital_3 : decode b_Nam_capital 3 = .ok (.if_icmp .lt 19, 3) := by decide +kernel
theorem d_Nam_capital_6 : decode b_Nam_capital 6 = .ok (.iload_n 0, 1) := by decide +kernel
theorem d_Nam_capital_7 : decode b_Nam_capital 7 = .ok (.bipush 122, 2) := by decide +kernel
theorem d_Nam_capital_9 : decode b_Nam_capital 9 = .ok (.if_icmp .gt 13, 3) := by decide +kernel
theorem d_Nam_capital_12 : decode b_Nam_capital 12 = .ok (.iload_n 0, 1) := by decide +kernel
theorem d_Nam_capital_13 : decode b_Nam_capital 13 = .ok (.bipush 97, 2) := by decide +kernel
theorem d_Nam_capital_15 : decode b_Nam_capital 15 = .ok (.isub, 1) := by decide +kernel
theorem d_Nam_capital_16 : decode b_Nam_capital 16 = .ok (.bipush 65, 2) := by decide +kernel
theorem d_Nam_capital_18 : decode b_Nam_capital 18 = .ok (.iadd, 1) := by decide +kernel
theorem d_Nam_capital_19 : decode b_Nam_capital 19 = .ok (.goto 4, 3) := by decide +kernel
theorem d_Nam_capital_22 : decode b_Nam_capital 22 = .ok (.iload_n 0, 1) := by decide +kernel
theorem d_Nam_capital_23 : decode b_Nam_capital 23 = .ok (.ireturn, 1) := by decide +kernel
theorem d_Mod_init_0 : decode b_Mod_init 0 = .ok (.aload_n 0, 1) := by decide +kernel
theorem d_Mod_init_1 : decode b_Mod_init 1 = .ok (.invokespecial 1, 3) := by decide +kernel
theorem d_Mod_init_4 : decode b_Mod_init 4 = .ok (.aload_n 0, 1) := by decide +kernel
theorem d_Mod_init_5 : decode b_Mod_init 5 = .ok (.sipush 600, 3) := by decide +kernel
theorem d_Mod_init_8 : decode b_Mod_init 8 = .ok (.newarray .int, 2) := by decide +kernel
theorem d_Mod_init_10 : decode b_Mod_init 10 = .ok (.putfield 7, 3) := by decide +kernel
theorem d_Mod_init_13 : decode b_Mod_init 13 = .ok (.aload_n 0, 1) := by decide +kernel
theorem d_Mod_init_14 : decode b_Mod_init 14 = .ok (.sipush 600, 3) := by decide +kernel
theorem d_Mod_init_17 : decode b_Mod_init 17 = .ok (.newarray .int, 2) := by decide +kernel
theorem d_Mod_init_19 : decode b_Mod_init 19 = .ok (.putfield 13, 3) := by decide +kernel
theorem d_Mod_init_22 : decode b_Mod_init 22 = .ok (.aload_n 0, 1) := by decide +kernel
theorem d_Mod_init_23 : decode b_Mod_init 23 = .ok (.sipush 200, 3) := by decide +kernel
theorem d_Mod_init_26 : decode b_Mod_init 26 = .ok (.newarray .int, 2) := by decide +kernel
theorem d_Mod_init_28 : decode b_Mod_init 28 = .ok (.putfield 16, 3) := by decide +kernel
theorem d_Mod_init_31 : decode b_Mod_init 31 = .ok (.aload_n 0, 1) := by decide +kernel
theorem d_Mod_init_32 : decode b_Mod_init 32 = .ok (.sipush 201, 3) := by decide +kernel
theorem d_Mod_init_35 : decode b_Mod_init 35 = .ok (.newarray .int, 2) := by decide +kernel
theorem d_Mod_init_37 : decode b_Mod_init 37 = .ok (.putfield 19, 3) := by decide +kernel
theorem d_Mod_init_40 : decode b_Mod_init 40 = .ok (.aload_n 0, 1) := by decide +kernel
theorem d_Mod_init_41 : decode b_Mod_init 41 = .ok (.sipush 20200, 3) := by decide +kernel
theorem d_Mod_init_44 : decode b_Mod_init 44 = .ok (.newarray .int, 2) := by decide +kernel
theorem d_Mod_init_46 : decode b_Mod_init 46 = .ok (.putfield 22, 3) := by decide +kernel
theorem d_Mod_init_49 : decode b_Mod_init 49 = .ok (.aload_n 0, 1) := by decide +kernel
theorem d_Mod_init_50 : decode b_Mod_init 50 = .ok (.bipush 101, 2) := by decide +kernel
theorem d_Mod_init_52 : decode b_Mod_init 52 = .ok (.newarray .int, 2) := by decide +kernel
theorem d_Mod_init_54 : decode b_Mod_init 54 = .ok (.putfield 25, 3) := by decide +kernel
theorem d_Mod_init_57 : decode b_Mod_init 57 = .ok (.aload_n 0, 1) := by decide +kernel
theorem d_Mod_init_58 : decode b_Mod_init 58 = .ok (.sipush 20200, 3) := by decide +kernel
theorem d_Mod_init_61 : decode b_Mod_init 61 = .ok (.newarray .int, 2) := by decide +kernel
theorem d_Mod_init_63 : decode b_Mod_init 63 = .ok (.putfield 28, 3) := by decide +kernel
theorem d_Mod_init_66 : decode b_Mod_init 66 = .ok (.aload_n 0, 1) := by decide +kernel
theorem d_Mod_init_67 : decode b_Mod_init 67 = .ok (.bipush 101, 2) := by decide +kernel
theorem d_Mod_init_69 : decode b_Mod_init 69 = .ok (.newarray .int, 2) := by decide +kernel
theorem d_Mod_init_71 : decode b_Mod_init 71 = .ok (.putfield 31, 3) := by decide +kernel
theorem d_Mod_init_74 : decode b_Mod_init 74 = .ok (.aload_n 0, 1) := by decide +kernel
theorem d_Mod_init_75 : decode b_Mod_init 75 = .ok (.bipush 101, 2) := by decide +kernel
theorem d_Mod_init_77 : decode b_Mod_init 77 = .ok (.newarray .int, 2) := by decide +kernel
theorem d_Mod_init_79 : decode b_Mod_init 79 = .ok (.putfield 34, 3) := by decide +kernel
theorem d_Mod_init_82 : decode b_Mod_init 82 = .ok (.aload_n 0, 1) := by decide +kernel
theorem d_Mod_init_83 : decode b_Mod_init 83 = .ok (.sipush 19200, 3) := by decide +kernel
theorem d_Mod_init_86 : decode b_Mod_init 86 = .ok (.newarray .int, 2) := by decide +kernel
theorem d_Mod_init_88 : decode b_Mod_init 88 = .ok (.putfield 37, 3) := by decide +kernel
theorem d_Mod_init_91 : decode b_Mod_init 91 = .ok (.aload_n 0, 1) := by decide +kernel
theorem d_Mod_init_92 : decode b_Mod_init 92 = .ok (.bipush 96, 2) := by decide +kernel
theorem d_Mod_init_94 : decode b_Mod_init 94 = .ok (.newarray .int, 2) := by decide +kernel
theorem d_Mod_init_96 : decode b_Mod_init 96 = .ok (.putfield 40, 3) := by decide +kernel
theorem d_Mod_init_99 : decode b_Mod_init 99 = .ok (.aload_n 0, 1) := by decide +kernel
theorem d_Mod_init_100 : decode b_Mod_init 100 = .ok (.bipush 8, 2) := by decide +kernel
theorem d_Mod_init_102 : decode b_Mod_init 102 = .ok (.newarray .int, 2) := by decide +kernel
theorem d_Mod_init_104 : decode b_Mod_init 104 = .ok (.putfield 43, 3) := by decide +kernel
theorem d_Mod_init_107 : decode b_Mod_init 107 = .ok (.aload_n 0, 1) := by decide +kernel
theorem d_Mod_init_108 : decode b_Mod_init 108 = .ok (.sipush 200, 3) := by decide +kernel
theorem d_Mod_init_111 : decode b_Mod_init 111 = .ok (.newarray .int, 2) := by decide +kernel
theorem d_Mod_init_113 : decode b_Mod_init 113 = .ok (.putfield 46, 3) := by decide +kernel
theorem d_Mod_init_116 : decode b_Mod_init 116 = .ok (.aload_n 0, 1) := by decide +kernel
theorem d_Mod_init_117 : decode b_Mod_init 117 = .ok (.sipush 200, 3) := by decide +kernel
theorem d_Mod_init_120 : decode b_Mod_init 120 = .ok (.newarray .int, 2) := by decide +kernel
theorem d_Mod_init_122 : decode b_Mod_init 122 = .ok (.putfield 49, 3) := by decide +kernel
theorem d_Mod_init_125 : decode b_Mod_init 125 = .ok (.aload_n 0, 1) := by decide +kernel
theorem d_Mod_init_126 : decode b_Mod_init 126 = .ok (.iconst 1, 1) := by decide +kernel
theorem d_Mod_init_127 : decode b_Mod_init 127 = .ok (.putfield 52, 3) := by decide +kernel
theorem d_Mod_init_130 : decode b_Mod_init 130 = .ok (.aload_n 0, 1) := by decide +kernel
theorem d_Mod_init_131 : decode b_Mod_init 131 = .ok (.iconst 1, 1) := by decide +kernel
theorem d_Mod_init_132 : decode b_Mod_init 132 = .ok (.putfield 56, 3) := by decide +kernel
theorem d_Mod_init_135 : decode b_Mod_init 135 = .ok (.aload_n 0, 1) := by decide +kernel
theorem d_Mod_init_136 : decode b_Mod_init 136 = .ok (.sipush 201, 3) := by decide +kernel
theorem d_Mod_init_139 : decode b_Mod_init 139 = .ok (.newarray .int, 2) := by decide +kernel
theorem d_Mod_init_141 : decode b_Mod_init 141 = .ok (.putfield 59, 3) := by decide +kernel
theorem d_Mod_init_144 : decode b_Mod_init 144 = .ok (.return_, 1) := by decide +kernel
theorem d_Mod_four_0 : decode b_Mod_four 0 = .ok (.bipush 24, 2) := by decide +kernel
theorem d_Mod_four_2 : decode b_Mod_four 2 = .ok (.istore_n 2, 1) := by decide +kernel
theorem d_Mod_four_3 : decode b_Mod_four 3 = .ok (.iload_n 2, 1) := by decide +kernel
theorem d_Mod_four_4 : decode b_Mod_four 4 = .ok (.ifCond .lt 35, 3) := by decide +kernel
theorem d_Mod_four_7 : decode b_Mod_four 7 = .ok (.aload_n 0, 1) := by decide +kernel
theorem d_Mod_four_8 : decode b_Mod_four 8 = .ok (.getfield 7, 3) := by decide +kernel
theorem d_Mod_four_11 : decode b_Mod_four 11 = .ok (.aload_n 0, 1) := by decide +kernel
theorem d_Mod_four_12 : decode b_Mod_four 12 = .ok (.getfield 62, 3) := by decide +kernel
theorem d_Mod_four_15 : decode b_Mod_four 15 = .ok (.iload_n 1, 1) := by decide +kernel
theorem d_Mod_four_16 : decode b_Mod_four 16 = .ok (.iload_n 2, 1) := by decide +kernel
theorem d_Mod_four_17 : decode b_Mod_four 17 = .ok (.ishr, 1) := by decide +kernel
theorem d_Mod_four_18 : decode b_Mod_four 18 = .ok (.sipush 255, 3) := by decide +kernel
theorem d_Mod_four_21 : decode b_Mod_four 21 = .ok (.iand, 1) := by decide +kernel
theorem d_Mod_four_22 : decode b_Mod_four 22 = .ok (.iastore, 1) := by decide +kernel
theorem d_Mod_four_23 : decode b_Mod_four 23 = .ok (.aload_n 0, 1) := by decide +kernel
theorem d_Mod_four_24 : decode b_Mod_four 24 = .ok (.dup, 1) := by decide +kernel
theorem d_Mod_four_25 : decode b_Mod_four 25 = .ok (.getfield 62, 3) := by decide +kernel
theorem d_Mod_four_28 : decode b_Mod_four 28 = .ok (.iconst 1, 1) := by decide +kernel
theorem d_Mod_four_29 : decode b_Mod_four 29 = .ok (.iadd, 1) := by decide +kernel
theorem d_Mod_four_30 : decode b_Mod_four 30 = .ok (.putfield 62, 3) := by decide +kernel
theorem d_Mod_four_33 : decode b_Mod_four 33 = .ok (.iinc 2 (-8), 3) := by decide +kernel
theorem d_Mod_four_36 : decode b_Mod_four 36 = .ok (.goto (-33), 3) := by decide +kernel
theorem d_Mod_four_39 : decode b_Mod_four 39 = .ok (.return_, 1) := by decide +kernel
theorem d_Mod_feed_0 : decode b_Mod_feed 0 = .ok (.aload_n 0, 1) := by decide +kernel
theorem d_Mod_feed_1 : decode b_Mod_feed 1 = .ok (.getfield 62, 3) := by decide +kernel
theorem d_Mod_feed_4 : decode b_Mod_feed 4 = .ok (.bipush 20, 2) := by decide +kernel
theorem d_Mod_feed_6 : decode b_Mod_feed 6 = .ok (.iadd, 1) := by decide +kernel
theorem d_Mod_feed_7 : decode b_Mod_feed 7 = .ok (.sipush 600, 3) := by decide +kernel
theorem d_Mod_feed_10 : decode b_Mod_feed 10 = .ok (.if_icmp .le 6, 3) := by decide +kernel
theorem d_Mod_feed_13 : decode b_Mod_feed 13 = .ok (.bipush (-4), 2) := by decide +kernel
theorem d_Mod_feed_15 : decode b_Mod_feed 15 = .ok (.ireturn, 1) := by decide +kernel
theorem d_Mod_feed_16 : decode b_Mod_feed 16 = .ok (.aload_n 0, 1) := by decide +kernel
theorem d_Mod_feed_17 : decode b_Mod_feed 17 = .ok (.iload_n 1, 1) := by decide +kernel
theorem d_Mod_feed_18 : decode b_Mod_feed 18 = .ok (.invokevirtual 65, 3) := by decide +kernel
theorem d_Mod_feed_21 : decode b_Mod_feed 21 = .ok (.aload_n 0, 1) := by decide +kernel
theorem d_Mod_feed_22 : decode b_Mod_feed 22 = .ok (.iload_n 2, 1) := by decide +kernel
theorem d_Mod_feed_23 : decode b_Mod_feed 23 = .ok (.invokevirtual 65, 3) := by decide +kernel
theorem d_Mod_feed_26 : decode b_Mod_feed 26 = .ok (.aload_n 0, 1) := by decide +kernel
theorem d_Mod_feed_27 : decode b_Mod_feed 27 = .ok (.iload_n 3, 1) := by decide +kernel
theorem d_Mod_feed_28 : decode b_Mod_feed 28 = .ok (.invokevirtual 65, 3) := by decide +kernel
theorem d_Mod_feed_31 : decode b_Mod_feed 31 = .ok (.aload_n 0, 1) := by decide +kernel
theorem d_Mod_feed_32 : decode b_Mod_feed 32 = .ok (.iload 4, 2) := by decide +kernel
theorem d_Mod_feed_34 : decode b_Mod_feed 34 = .ok (.invokevirtual 65, 3) := by decide +kernel
theorem d_Mod_feed_37 : decode b_Mod_feed 37 = .ok (.aload_n 0, 1) := by decide +kernel
theorem d_Mod_feed_38 : decode b_Mod_feed 38 = .ok (.iload 5, 2) := by decide +kernel
theorem d_Mod_feed_40 : decode b_Mod_feed 40 = .ok (.invokevirtual 65, 3) := by decide +kernel
theorem d_Mod_feed_43 : decode b_Mod_feed 43 = .ok (.aload_n 0, 1) := by decide +kernel
theorem d_Mod_feed_44 : decode b_Mod_feed 44 = .ok (.getfield 62, 3) := by decide +kernel
theorem d_Mod_feed_47 : decode b_Mod_feed 47 = .ok (.ireturn, 1) := by decide +kernel
theorem d_Mod_end_0 : decode b_Mod_end 0 = .ok (.iload_n 1, 1) := by decide +kernel
theorem d_Mod_end_1 : decode b_Mod_end 1 = .ok (.ifCond .lt 11, 3) := by decide +kernel
theorem d_Mod_end_4 : decode b_Mod_end 4 = .ok (.iload_n 1, 1) := by decide +kernel
theorem d_Mod_end_5 : decode b_Mod_end 5 = .ok (.aload_n 0, 1) := by decide +kernel
theorem d_Mod_end_6 : decode b_Mod_end 6 = .ok (.getfield 62, 3) := by decide +kernel
theorem d_Mod_end_9 : decode b_Mod_end 9 = .ok (.if_icmp .le 5, 3) := by decide +kernel
theorem d_Mod_end_12 : decode b_Mod_end 12 = .ok (.iconst (-1), 1) := by decide +kernel
theorem d_Mod_end_13 : decode b_Mod_end 13 = .ok (.ireturn, 1) := by decide +kernel
theorem d_Mod_end_14 : decode b_Mod_end 14 = .ok (.aload_n 0, 1) := by decide +kernel
theorem d_Mod_end_15 : decode b_Mod_end 15 = .ok (.iload_n 1, 1) := by decide +kernel
theorem d_Mod_end_16 : decode b_Mod_end 16 = .ok (.putfield 62, 3) := by decide +kernel
theorem d_Mod_end_19 : decode b_Mod_end 19 = .ok (.iload_n 1, 1) := by decide +kernel
theorem d_Mod_end_20 : decode b_Mod_end 20 = .ok (.ireturn, 1) := by decide +kernel
theorem d_Mod_out_0 : decode b_Mod_out 0 = .ok (.iload_n 1, 1) := by decide +kernel
theorem d_Mod_out_1 : decode b_Mod_out 1 = .ok (.ifCond .lt 20, 3) := by decide +kernel
theorem d_Mod_out_4 : decode b_Mod_out 4 = .ok (.iload_n 1, 1) := by decide +kernel
theorem d_Mod_out_5 : decode b_Mod_out 5 = .ok (.aload_n 0, 1) := by decide +kernel
theorem d_Mod_out_6 : decode b_Mod_out 6 = .ok (.getfield 69, 3) := by decide +kernel
theorem d_Mod_out_9 : decode b_Mod_out 9 = .ok (.if_icmp .ge 12, 3) := by decide +kernel
theorem d_Mod_out_12 : decode b_Mod_out 12 = .ok (.aload_n 0, 1) := by decide +kernel
theorem d_Mod_out_13 : decode b_Mod_out 13 = .ok (.getfield 16, 3) := by decide +kernel
theorem d_Mod_out_16 : decode b_Mod_out 16 = .ok (.iload_n 1, 1) := by decide +kernel
theorem d_Mod_out_17 : decode b_Mod_out 17 = .ok (.iaload, 1) := by decide +kernel
theorem d_Mod_out_18 : decode b_Mod_out 18 = .ok (.goto 4, 3) := by decide +kernel
theorem d_Mod_out_21 : decode b_Mod_out 21 = .ok (.iconst (-1), 1) := by decide +kernel
theorem d_Mod_out_22 : decode b_Mod_out 22 = .ok (.ireturn, 1) := by decide +kernel
theorem d_Mod_take_0 : decode b_Mod_take 0 = .ok (.aload_n 0, 1) := by decide +kernel
theorem d_Mod_take_1 : decode b_Mod_take 1 = .ok (.aload_n 0, 1) := by decide +kernel
theorem d_Mod_take_2 : decode b_Mod_take 2 = .ok (.getfield 62, 3) := by decide +kernel
theorem d_Mod_take_5 : decode b_Mod_take 5 = .ok (.putfield 72, 3) := by decide +kernel
theorem d_Mod_take_8 : decode b_Mod_take 8 = .ok (.iconst 0, 1) := by decide +kernel
theorem d_Mod_take_9 : decode b_Mod_take 9 = .ok (.istore_n 1, 1) := by decide +kernel
theorem d_Mod_take_10 : decode b_Mod_take 10 = .ok (.iload_n 1, 1) := by decide +kernel
theorem d_Mod_take_11 : decode b_Mod_take 11 = .ok (.aload_n 0, 1) := by decide +kernel
theorem d_Mod_take_12 : decode b_Mod_take 12 = .ok (.getfield 72, 3) := by decide +kernel
theorem d_Mod_take_15 : decode b_Mod_take 15 = .ok (.if_icmp .ge 21, 3) := by decide +kernel
theorem d_Mod_take_18 : decode b_Mod_take 18 = .ok (.aload_n 0, 1) := by decide +kernel
theorem d_Mod_take_19 : decode b_Mod_take 19 = .ok (.getfield 13, 3) := by decide +kernel
theorem d_Mod_take_22 : decode b_Mod_take 22 = .ok (.iload_n 1, 1) := by decide +kernel
theorem d_Mod_take_23 : decode b_Mod_take 23 = .ok (.aload_n 0, 1) := by decide +kernel
theorem d_Mod_take_24 : decode b_Mod_take 24 = .ok (.getfield 7, 3) := by decide +kernel
theorem d_Mod_take_27 : decode b_Mod_take 27 = .ok (.iload_n 1, 1) := by decide +kernel
theorem d_Mod_take_28 : decode b_Mod_take 28 = .ok (.iaload, 1) := by decide +kernel
theorem d_Mod_take_29 : decode b_Mod_take 29 = .ok (.iastore, 1) := by decide +kernel
theorem d_Mod_take_30 : decode b_Mod_take 30 = .ok (.iinc 1 1, 3) := by decide +kernel
theorem d_Mod_take_33 : decode b_Mod_take 33 = .ok (.goto (-23), 3) := by decide +kernel
theorem d_Mod_take_36 : decode b_Mod_take 36 = .ok (.aload_n 0, 1) := by decide +kernel
theorem d_Mod_take_37 : decode b_Mod_take 37 = .ok (.iconst 0, 1) := by decide +kernel
theorem d_Mod_take_38 : decode b_Mod_take 38 = .ok (.putfield 62, 3) := by decide +kernel
theorem d_Mod_take_41 : decode b_Mod_take 41 = .ok (.aload_n 0, 1) := by decide +kernel
theorem d_Mod_take_42 : decode b_Mod_take 42 = .ok (.iconst (-1), 1) := by decide +kernel
theorem d_Mod_take_43 : decode b_Mod_take 43 = .ok (.putfield 75, 3) := by decide +kernel
theorem d_Mod_take_46 : decode b_Mod_take 46 = .ok (.aload_n 0, 1) := by decide +kernel
theorem d_Mod_take_47 : decode b_Mod_take 47 = .ok (.iconst 0, 1) := by decide +kernel
theorem d_Mod_take_48 : decode b_Mod_take 48 = .ok (.putfield 78, 3) := by decide +kernel
theorem d_Mod_take_51 : decode b_Mod_take 51 = .ok (.return_, 1) := by decide +kernel
theorem d_Mod_here_0 : decode b_Mod_here 0 = .ok (.aload_n 0, 1) := by decide +kernel
theorem d_Mod_here_1 : decode b_Mod_here 1 = .ok (.getfield 78, 3) := by decide +kernel
theorem d_Mod_here_4 : decode b_Mod_here 4 = .ok (.aload_n 0, 1) := by decide +kernel
theorem d_Mod_here_5 : decode b_Mod_here 5 = .ok (.getfield 72, 3) := by decide +kernel
theorem d_Mod_here_8 : decode b_Mod_here 8 = .ok (.if_icmp .ge 15, 3) := by decide +kernel
theorem d_Mod_here_11 : decode b_Mod_here 11 = .ok (.aload_n 0, 1) := by decide +kernel
theorem d_Mod_here_12 : decode b_Mod_here 12 = .ok (.getfield 13, 3) := by decide +kernel
theorem d_Mod_here_15 : decode b_Mod_here 15 = .ok (.aload_n 0, 1) := by decide +kernel
theorem d_Mod_here_16 : decode b_Mod_here 16 = .ok (.getfield 78, 3) := by decide +kernel
theorem d_Mod_here_19 : decode b_Mod_here 19 = .ok (.iaload, 1) := by decide +kernel
theorem d_Mod_here_20 : decode b_Mod_here 20 = .ok (.goto 4, 3) := by decide +kernel
theorem d_Mod_here_23 : decode b_Mod_here 23 = .ok (.iconst (-1), 1) := by decide +kernel
theorem d_Mod_here_24 : decode b_Mod_here 24 = .ok (.ireturn, 1) := by decide +kernel
theorem d_Mod_fail_0 : decode b_Mod_fail 0 = .ok (.aload_n 0, 1) := by decide +kernel
theorem d_Mod_fail_1 : decode b_Mod_fail 1 = .ok (.getfield 75, 3) := by decide +kernel
theorem d_Mod_fail_4 : decode b_Mod_fail 4 = .ok (.ifCond .ge 8, 3) := by decide +kernel
theorem d_Mod_fail_7 : decode b_Mod_fail 7 = .ok (.aload_n 0, 1) := by decide +kernel
theorem d_Mod_fail_8 : decode b_Mod_fail 8 = .ok (.iload_n 1, 1) := by decide +kernel
theorem d_Mod_fail_9 : decode b_Mod_fail 9 = .ok (.putfield 75, 3) := by decide +kernel
theorem d_Mod_fail_12 : decode b_Mod_fail 12 = .ok (.return_, 1) := by decide +kernel
theorem d_Mod_isDigit_0 : decode b_Mod_isDigit 0 = .ok (.iload_n 0, 1) := by decide +kernel
theorem d_Mod_isDigit_1 : decode b_Mod_isDigit 1 = .ok (.bipush 48, 2) := by decide +kernel
theorem d_Mod_isDigit_3 : decode b_Mod_isDigit 3 = .ok (.if_icmp .lt 13, 3) := by decide +kernel
theorem d_Mod_isDigit_6 : decode b_Mod_isDigit 6 = .ok (.iload_n 0, 1) := by decide +kernel
theorem d_Mod_isDigit_7 : decode b_Mod_isDigit 7 = .ok (.bipush 57, 2) := by decide +kernel
theorem d_Mod_isDigit_9 : decode b_Mod_isDigit 9 = .ok (.if_icmp .gt 7, 3) := by decide +kernel
theorem d_Mod_isDigit_12 : decode b_Mod_isDigit 12 = .ok (.iconst 1, 1) := by decide +kernel
theorem d_Mod_isDigit_13 : decode b_Mod_isDigit 13 = .ok (.goto 4, 3) := by decide +kernel
theorem d_Mod_isDigit_16 : decode b_Mod_isDigit 16 = .ok (.iconst 0, 1) := by decide +kernel
theorem d_Mod_isDigit_17 : decode b_Mod_isDigit 17 = .ok (.ireturn, 1) := by decide +kernel
theorem d_Mod_isSymbol_0 : decode b_Mod_isSymbol 0 = .ok (.iload_n 0, 1) := by decide +kernel
theorem d_Mod_isSymbol_1 : decode b_Mod_isSymbol 1 = .ok (.invokestatic 81, 3) := by decide +kernel
theorem d_Mod_isSymbol_4 : decode b_Mod_isSymbol 4 = .ok (.ifCond .ne 51, 3) := by decide +kernel
theorem d_Mod_isSymbol_7 : decode b_Mod_isSymbol 7 = .ok (.iload_n 0, 1) := by decide +kernel
theorem d_Mod_isSymbol_8 : decode b_Mod_isSymbol 8 = .ok (.bipush 65, 2) := by decide +kernel
theorem d_Mod_isSymbol_10 : decode b_Mod_isSymbol 10 = .ok (.if_icmp .lt 9, 3) := by decide +kernel
theorem d_Mod_isSymbol_13 : decode b_Mod_isSymbol 13 = .ok (.iload_n 0, 1) := by decide +kernel
theorem d_Mod_isSymbol_14 : decode b_Mod_isSymbol 14 = .ok (.bipush 90, 2) := by decide +kernel
theorem d_Mod_isSymbol_16 : decode b_Mod_isSymbol 16 = .ok (.if_icmp .le 39, 3) := by decide +kernel
theorem d_Mod_isSymbol_19 : decode b_Mod_isSymbol 19 = .ok (.iload_n 0, 1) := by decide +kernel
theorem d_Mod_isSymbol_20 : decode b_Mod_isSymbol 20 = .ok (.bipush 97, 2) := by decide +kernel
theorem d_Mod_isSymbol_22 : decode b_Mod_isSymbol 22 = .ok (.if_icmp .lt 9, 3) := by decide +kernel
theorem d_Mod_isSymbol_25 : decode b_Mod_isSymbol 25 = .ok (.iload_n 0, 1) := by decide +kernel
theorem d_Mod_isSymbol_26 : decode b_Mod_isSymbol 26 = .ok (.bipush 122, 2) := by decide +kernel
theorem d_Mod_isSymbol_28 : decode b_Mod_isSymbol 28 = .ok (.if_icmp .le 27, 3) := by decide +kernel
theorem d_Mod_isSymbol_31 : decode b_Mod_isSymbol 31 = .ok (.iload_n 0, 1) := by decide +kernel
theorem d_Mod_isSymbol_32 : decode b_Mod_isSymbol 32 = .ok (.bipush 46, 2) := by decide +kernel
theorem d_Mod_isSymbol_34 : decode b_Mod_isSymbol 34 = .ok (.if_icmp .eq 21, 3) := by decide +kernel
theorem d_Mod_isSymbol_37 : decode b_Mod_isSymbol 37 = .ok (.iload_n 0, 1) := by decide +kernel
theorem d_Mod_isSymbol_38 : decode b_Mod_isSymbol 38 = .ok (.bipush 33, 2) := by decide +kernel
theorem d_Mod_isSymbol_40 : decode b_Mod_isSymbol 40 = .ok (.if_icmp .eq 15, 3) := by decide +kernel
theorem d_Mod_isSymbol_43 : decode b_Mod_isSymbol 43 = .ok (.iload_n 0, 1) := by decide +kernel
theorem d_Mod_isSymbol_44 : decode b_Mod_isSymbol 44 = .ok (.bipush 63, 2) := by decide +kernel
theorem d_Mod_isSymbol_46 : decode b_Mod_isSymbol 46 = .ok (.if_icmp .eq 9, 3) := by decide +kernel
theorem d_Mod_isSymbol_49 : decode b_Mod_isSymbol 49 = .ok (.iload_n 0, 1) := by decide +kernel
theorem d_Mod_isSymbol_50 : decode b_Mod_isSymbol 50 = .ok (.bipush 95, 2) := by decide +kernel
theorem d_Mod_isSymbol_52 : decode b_Mod_isSymbol 52 = .ok (.if_icmp .ne 7, 3) := by decide +kernel
theorem d_Mod_isSymbol_55 : decode b_Mod_isSymbol 55 = .ok (.iconst 1, 1) := by decide +kernel
theorem d_Mod_isSymbol_56 : decode b_Mod_isSymbol 56 = .ok (.goto 4, 3) := by decide +kernel
theorem d_Mod_isSymbol_59 : decode b_Mod_isSymbol 59 = .ok (.iconst 0, 1) := by decide +kernel
theorem d_Mod_isSymbol_60 : decode b_Mod_isSymbol 60 = .ok (.ireturn, 1) := by decide +kernel
theorem d_Mod_capital_0 : decode b_Mod_capital 0 = .ok (.iload_n 0, 1) := by decide +kernel
theorem d_Mod_capital_1 : decode b_Mod_capital 1 = .ok (.bipush 97, 2) := by decide +kernel
theorem d_Mod_capital_3 : decode b_Mod_capital 3 = .ok (.if_icmp .lt 16, 3) := by decide +kernel
theorem d_Mod_capital_6 : decode b_Mod_capital 6 = .ok (.iload_n 0, 1) := by decide +kernel
theorem d_Mod_capital_7 : decode b_Mod_capital 7 = .ok (.bipush 122, 2) := by decide +kernel
theorem d_Mod_capital_9 : decode b_Mod_capital 9 = .ok (.if_icmp .gt 10, 3) := by decide +kernel
theorem d_Mod_capital_12 : decode b_Mod_capital 12 = .ok (.iload_n 0, 1) := by decide +kernel
theorem d_Mod_capital_13 : decode b_Mod_capital 13 = .ok (.bipush 32, 2) := by decide +kernel
theorem d_Mod_capital_15 : decode b_Mod_capital 15 = .ok (.isub, 1) := by decide +kernel
theorem d_Mod_capital_16 : decode b_Mod_capital 16 = .ok (.goto 4, 3) := by decide +kernel
theorem d_Mod_capital_19 : decode b_Mod_capital 19 = .ok (.iload_n 0, 1) := by decide +kernel
theorem d_Mod_capital_20 : decode b_Mod_capital 20 = .ok (.ireturn, 1) := by decide +kernel
theorem d_Mod_variable_0 : decode b_Mod_variable 0 = .ok (.aload_n 0, 1) := by decide +kernel
theorem d_Mod_variable_1 : decode b_Mod_variable 1 = .ok (.getfield 78, 3) := by decide +kernel
theorem d_Mod_variable_4 : decode b_Mod_variable 4 = .ok (.istore_n 1, 1) := by decide +kernel
theorem d_Mod_variable_5 : decode b_Mod_variable 5 = .ok (.aload_n 0, 1) := by decide +kernel
theorem d_Mod_variable_6 : decode b_Mod_variable 6 = .ok (.invokevirtual 85, 3) := by decide +kernel
theorem d_Mod_variable_9 : decode b_Mod_variable 9 = .ok (.invokestatic 89, 3) := by decide +kernel
theorem d_Mod_variable_12 : decode b_Mod_variable 12 = .ok (.ifCond .eq 22, 3) := by decide +kernel
theorem d_Mod_variable_15 : decode b_Mod_variable 15 = .ok (.aload_n 0, 1) := by decide +kernel
theorem d_Mod_variable_16 : decode b_Mod_variable 16 = .ok (.invokevirtual 85, 3) := by decide +kernel
theorem d_Mod_variable_19 : decode b_Mod_variable 19 = .ok (.invokestatic 81, 3) := by decide +kernel
theorem d_Mod_variable_22 : decode b_Mod_variable 22 = .ok (.ifCond .ne 12, 3) := by decide +kernel
theorem d_Mod_variable_25 : decode b_Mod_variable 25 = .ok (.aload_n 0, 1) := by decide +kernel
theorem d_Mod_variable_26 : decode b_Mod_variable 26 = .ok (.invokevirtual 85, 3) := by decide +kernel
theorem d_Mod_variable_29 : decode b_Mod_variable 29 = .ok (.bipush 46, 2) := by decide +kernel
theorem d_Mod_variable_31 : decode b_Mod_variable 31 = .ok (.if_icmp .ne 12, 3) := by decide +kernel
theorem d_Mod_variable_34 : decode b_Mod_variable 34 = .ok (.aload_n 0, 1) := by decide +kernel
theorem d_Mod_variable_35 : decode b_Mod_variable 35 = .ok (.aload_n 0, 1) := by decide +kernel
theorem d_Mod_variable_36 : decode b_Mod_variable 36 = .ok (.getfield 78, 3) := by decide +kernel
theorem d_Mod_variable_39 : decode b_Mod_variable 39 = .ok (.invokevirtual 92, 3) := by decide +kernel
theorem d_Mod_variable_42 : decode b_Mod_variable 42 = .ok (.return_, 1) := by decide +kernel
theorem d_Mod_variable_43 : decode b_Mod_variable 43 = .ok (.aload_n 0, 1) := by decide +kernel
theorem d_Mod_variable_44 : decode b_Mod_variable 44 = .ok (.invokevirtual 85, 3) := by decide +kernel
theorem d_Mod_variable_47 : decode b_Mod_variable 47 = .ok (.invokestatic 89, 3) := by decide +kernel
theorem d_Mod_variable_50 : decode b_Mod_variable 50 = .ok (.ifCond .eq 36, 3) := by decide +kernel
theorem d_Mod_variable_53 : decode b_Mod_variable 53 = .ok (.aload_n 0, 1) := by decide +kernel
theorem d_Mod_variable_54 : decode b_Mod_variable 54 = .ok (.getfield 78, 3) := by decide +kernel
theorem d_Mod_variable_57 : decode b_Mod_variable 57 = .ok (.iload_n 1, 1) := by decide +kernel
theorem d_Mod_variable_58 : decode b_Mod_variable 58 = .ok (.isub, 1) := by decide +kernel
theorem d_Mod_variable_59 : decode b_Mod_variable 59 = .ok (.bipush 30, 2) := by decide +kernel
theorem d_Mod_variable_61 : decode b_Mod_variable 61 = .ok (.if_icmp .ne 12, 3) := by decide +kernel
theorem d_Mod_variable_64 : decode b_Mod_variable 64 = .ok (.aload_n 0, 1) := by decide +kernel
theorem d_Mod_variable_65 : decode b_Mod_variable 65 = .ok (.aload_n 0, 1) := by decide +kernel
theorem d_Mod_variable_66 : decode b_Mod_variable 66 = .ok (.getfield 78, 3) := by decide +kernel
theorem d_Mod_variable_69 : decode b_Mod_variable 69 = .ok (.invokevirtual 92, 3) := by decide +kernel
theorem d_Mod_variable_72 : decode b_Mod_variable 72 = .ok (.return_, 1) := by decide +kernel
theorem d_Mod_variable_73 : decode b_Mod_variable 73 = .ok (.aload_n 0, 1) := by decide +kernel
theorem d_Mod_variable_74 : decode b_Mod_variable 74 = .ok (.dup, 1) := by decide +kernel
