theorem d_Row_init_0 : decode b_Row_init 0 = .ok (.aload_n 0, 1) := by decide +kernel
theorem d_Row_init_1 : decode b_Row_init 1 = .ok (.invokespecial 3, 3) := by decide +kernel
theorem d_Row_init_4 : decode b_Row_init 4 = .ok (.aload_n 0, 1) := by decide +kernel
theorem d_Row_init_5 : decode b_Row_init 5 = .ok (.iload_n 1, 1) := by decide +kernel
theorem d_Row_init_6 : decode b_Row_init 6 = .ok (.iconst 0, 1) := by decide +kernel
theorem d_Row_init_7 : decode b_Row_init 7 = .ok (.invokestatic 9, 3) := by decide +kernel
theorem d_Row_init_10 : decode b_Row_init 10 = .ok (.newarray .byte, 2) := by decide +kernel
theorem d_Row_init_12 : decode b_Row_init 12 = .ok (.putfield 15, 3) := by decide +kernel
theorem d_Row_init_15 : decode b_Row_init 15 = .ok (.aload_n 0, 1) := by decide +kernel
theorem d_Row_init_16 : decode b_Row_init 16 = .ok (.iconst 0, 1) := by decide +kernel
theorem d_Row_init_17 : decode b_Row_init 17 = .ok (.putfield 21, 3) := by decide +kernel
theorem d_Row_init_20 : decode b_Row_init 20 = .ok (.return_, 1) := by decide +kernel
theorem d_Row_clear_0 : decode b_Row_clear 0 = .ok (.aload_n 0, 1) := by decide +kernel
theorem d_Row_clear_1 : decode b_Row_clear 1 = .ok (.iconst 0, 1) := by decide +kernel
theorem d_Row_clear_2 : decode b_Row_clear 2 = .ok (.putfield 21, 3) := by decide +kernel
theorem d_Row_clear_5 : decode b_Row_clear 5 = .ok (.return_, 1) := by decide +kernel
theorem d_Row_at_0 : decode b_Row_at 0 = .ok (.iload_n 1, 1) := by decide +kernel
theorem d_Row_at_1 : decode b_Row_at 1 = .ok (.ifCond .lt 33, 3) := by decide +kernel
theorem d_Row_at_4 : decode b_Row_at 4 = .ok (.iload_n 1, 1) := by decide +kernel
theorem d_Row_at_5 : decode b_Row_at 5 = .ok (.aload_n 0, 1) := by decide +kernel
theorem d_Row_at_6 : decode b_Row_at 6 = .ok (.getfield 21, 3) := by decide +kernel
theorem d_Row_at_9 : decode b_Row_at 9 = .ok (.if_icmp .ge 25, 3) := by decide +kernel
theorem d_Row_at_12 : decode b_Row_at 12 = .ok (.iload_n 1, 1) := by decide +kernel
theorem d_Row_at_13 : decode b_Row_at 13 = .ok (.aload_n 0, 1) := by decide +kernel
theorem d_Row_at_14 : decode b_Row_at 14 = .ok (.getfield 15, 3) := by decide +kernel
theorem d_Row_at_17 : decode b_Row_at 17 = .ok (.arraylength, 1) := by decide +kernel
theorem d_Row_at_18 : decode b_Row_at 18 = .ok (.if_icmp .ge 16, 3) := by decide +kernel
theorem d_Row_at_21 : decode b_Row_at 21 = .ok (.aload_n 0, 1) := by decide +kernel
theorem d_Row_at_22 : decode b_Row_at 22 = .ok (.getfield 15, 3) := by decide +kernel
theorem d_Row_at_25 : decode b_Row_at 25 = .ok (.iload_n 1, 1) := by decide +kernel
theorem d_Row_at_26 : decode b_Row_at 26 = .ok (.baload, 1) := by decide +kernel
theorem d_Row_at_27 : decode b_Row_at 27 = .ok (.sipush 255, 3) := by decide +kernel
theorem d_Row_at_30 : decode b_Row_at 30 = .ok (.iand, 1) := by decide +kernel
theorem d_Row_at_31 : decode b_Row_at 31 = .ok (.goto 4, 3) := by decide +kernel
theorem d_Row_at_34 : decode b_Row_at 34 = .ok (.iconst (-1), 1) := by decide +kernel
theorem d_Row_at_35 : decode b_Row_at 35 = .ok (.ireturn, 1) := by decide +kernel
theorem d_Row_add_0 : decode b_Row_add 0 = .ok (.aload_n 0, 1) := by decide +kernel
theorem d_Row_add_1 : decode b_Row_add 1 = .ok (.getfield 21, 3) := by decide +kernel
theorem d_Row_add_4 : decode b_Row_add 4 = .ok (.ifCond .lt 15, 3) := by decide +kernel
theorem d_Row_add_7 : decode b_Row_add 7 = .ok (.aload_n 0, 1) := by decide +kernel
theorem d_Row_add_8 : decode b_Row_add 8 = .ok (.getfield 21, 3) := by decide +kernel
theorem d_Row_add_11 : decode b_Row_add 11 = .ok (.aload_n 0, 1) := by decide +kernel
theorem d_Row_add_12 : decode b_Row_add 12 = .ok (.getfield 15, 3) := by decide +kernel
theorem d_Row_add_15 : decode b_Row_add 15 = .ok (.arraylength, 1) := by decide +kernel
theorem d_Row_add_16 : decode b_Row_add 16 = .ok (.if_icmp .lt 5, 3) := by decide +kernel
theorem d_Row_add_19 : decode b_Row_add 19 = .ok (.iconst 0, 1) := by decide +kernel
theorem d_Row_add_20 : decode b_Row_add 20 = .ok (.ireturn, 1) := by decide +kernel
theorem d_Row_add_21 : decode b_Row_add 21 = .ok (.aload_n 0, 1) := by decide +kernel
theorem d_Row_add_22 : decode b_Row_add 22 = .ok (.getfield 15, 3) := by decide +kernel
theorem d_Row_add_25 : decode b_Row_add 25 = .ok (.aload_n 0, 1) := by decide +kernel
theorem d_Row_add_26 : decode b_Row_add 26 = .ok (.getfield 21, 3) := by decide +kernel
theorem d_Row_add_29 : decode b_Row_add 29 = .ok (.iload_n 1, 1) := by decide +kernel
theorem d_Row_add_30 : decode b_Row_add 30 = .ok (.i2b, 1) := by decide +kernel
theorem d_Row_add_31 : decode b_Row_add 31 = .ok (.bastore, 1) := by decide +kernel
theorem d_Row_add_32 : decode b_Row_add 32 = .ok (.aload_n 0, 1) := by decide +kernel
theorem d_Row_add_33 : decode b_Row_add 33 = .ok (.dup, 1) := by decide +kernel
theorem d_Row_add_34 : decode b_Row_add 34 = .ok (.getfield 21, 3) := by decide +kernel
theorem d_Row_add_37 : decode b_Row_add 37 = .ok (.iconst 1, 1) := by decide +kernel
theorem d_Row_add_38 : decode b_Row_add 38 = .ok (.iadd, 1) := by decide +kernel
theorem d_Row_add_39 : decode b_Row_add 39 = .ok (.putfield 21, 3) := by decide +kernel
theorem d_Row_add_42 : decode b_Row_add 42 = .ok (.iconst 1, 1) := by decide +kernel
theorem d_Row_add_43 : decode b_Row_add 43 = .ok (.ireturn, 1) := by decide +kernel
theorem d_Row_addInt_0 : decode b_Row_addInt 0 = .ok (.bipush 24, 2) := by decide +kernel
theorem d_Row_addInt_2 : decode b_Row_addInt 2 = .ok (.istore_n 2, 1) := by decide +kernel
theorem d_Row_addInt_3 : decode b_Row_addInt 3 = .ok (.iload_n 2, 1) := by decide +kernel
theorem d_Row_addInt_4 : decode b_Row_addInt 4 = .ok (.ifCond .lt 17, 3) := by decide +kernel
theorem d_Row_addInt_7 : decode b_Row_addInt 7 = .ok (.aload_n 0, 1) := by decide +kernel
theorem d_Row_addInt_8 : decode b_Row_addInt 8 = .ok (.iload_n 1, 1) := by decide +kernel
theorem d_Row_addInt_9 : decode b_Row_addInt 9 = .ok (.iload_n 2, 1) := by decide +kernel
theorem d_Row_addInt_10 : decode b_Row_addInt 10 = .ok (.iushr, 1) := by decide +kernel
theorem d_Row_addInt_11 : decode b_Row_addInt 11 = .ok (.invokevirtual 25, 3) := by decide +kernel
theorem d_Row_addInt_14 : decode b_Row_addInt 14 = .ok (.pop, 1) := by decide +kernel
theorem d_Row_addInt_15 : decode b_Row_addInt 15 = .ok (.iinc 2 (-8), 3) := by decide +kernel
theorem d_Row_addInt_18 : decode b_Row_addInt 18 = .ok (.goto (-15), 3) := by decide +kernel
theorem d_Row_addInt_21 : decode b_Row_addInt 21 = .ok (.return_, 1) := by decide +kernel
theorem d_Row_addPart_0 : decode b_Row_addPart 0 = .ok (.iload_n 3, 1) := by decide +kernel
theorem d_Row_addPart_1 : decode b_Row_addPart 1 = .ok (.iload_n 2, 1) := by decide +kernel
theorem d_Row_addPart_2 : decode b_Row_addPart 2 = .ok (.isub, 1) := by decide +kernel
theorem d_Row_addPart_3 : decode b_Row_addPart 3 = .ok (.istore 4, 2) := by decide +kernel
theorem d_Row_addPart_5 : decode b_Row_addPart 5 = .ok (.iload_n 2, 1) := by decide +kernel
theorem d_Row_addPart_6 : decode b_Row_addPart 6 = .ok (.ifCond .lt 17, 3) := by decide +kernel
theorem d_Row_addPart_9 : decode b_Row_addPart 9 = .ok (.iload 4, 2) := by decide +kernel
theorem d_Row_addPart_11 : decode b_Row_addPart 11 = .ok (.ifCond .lt 12, 3) := by decide +kernel
theorem d_Row_addPart_14 : decode b_Row_addPart 14 = .ok (.iload_n 3, 1) := by decide +kernel
theorem d_Row_addPart_15 : decode b_Row_addPart 15 = .ok (.aload_n 1, 1) := by decide +kernel
theorem d_Row_addPart_16 : decode b_Row_addPart 16 = .ok (.getfield 15, 3) := by decide +kernel
theorem d_Row_addPart_19 : decode b_Row_addPart 19 = .ok (.arraylength, 1) := by decide +kernel
theorem d_Row_addPart_20 : decode b_Row_addPart 20 = .ok (.if_icmp .le 5, 3) := by decide +kernel
theorem d_Row_addPart_23 : decode b_Row_addPart 23 = .ok (.iconst 0, 1) := by decide +kernel
theorem d_Row_addPart_24 : decode b_Row_addPart 24 = .ok (.ireturn, 1) := by decide +kernel
theorem d_Row_addPart_25 : decode b_Row_addPart 25 = .ok (.aload_n 0, 1) := by decide +kernel
theorem d_Row_addPart_26 : decode b_Row_addPart 26 = .ok (.getfield 21, 3) := by decide +kernel
theorem d_Row_addPart_29 : decode b_Row_addPart 29 = .ok (.ifCond .lt 18, 3) := by decide +kernel
theorem d_Row_addPart_32 : decode b_Row_addPart 32 = .ok (.iload 4, 2) := by decide +kernel
theorem d_Row_addPart_34 : decode b_Row_addPart 34 = .ok (.aload_n 0, 1) := by decide +kernel
theorem d_Row_addPart_35 : decode b_Row_addPart 35 = .ok (.getfield 15, 3) := by decide +kernel
theorem d_Row_addPart_38 : decode b_Row_addPart 38 = .ok (.arraylength, 1) := by decide +kernel
theorem d_Row_addPart_39 : decode b_Row_addPart 39 = .ok (.aload_n 0, 1) := by decide +kernel
theorem d_Row_addPart_40 : decode b_Row_addPart 40 = .ok (.getfield 21, 3) := by decide +kernel
theorem d_Row_addPart_43 : decode b_Row_addPart 43 = .ok (.isub, 1) := by decide +kernel
theorem d_Row_addPart_44 : decode b_Row_addPart 44 = .ok (.if_icmp .le 5, 3) := by decide +kernel
theorem d_Row_addPart_47 : decode b_Row_addPart 47 = .ok (.iconst 0, 1) := by decide +kernel
theorem d_Row_addPart_48 : decode b_Row_addPart 48 = .ok (.ireturn, 1) := by decide +kernel
theorem d_Row_addPart_49 : decode b_Row_addPart 49 = .ok (.aload_n 1, 1) := by decide +kernel
theorem d_Row_addPart_50 : decode b_Row_addPart 50 = .ok (.getfield 15, 3) := by decide +kernel
theorem d_Row_addPart_53 : decode b_Row_addPart 53 = .ok (.iload_n 2, 1) := by decide +kernel
theorem d_Row_addPart_54 : decode b_Row_addPart 54 = .ok (.aload_n 0, 1) := by decide +kernel
theorem d_Row_addPart_55 : decode b_Row_addPart 55 = .ok (.getfield 15, 3) := by decide +kernel
theorem d_Row_addPart_58 : decode b_Row_addPart 58 = .ok (.aload_n 0, 1) := by decide +kernel
theorem d_Row_addPart_59 : decode b_Row_addPart 59 = .ok (.getfield 21, 3) := by decide +kernel
theorem d_Row_addPart_62 : decode b_Row_addPart 62 = .ok (.iload 4, 2) := by decide +kernel
theorem d_Row_addPart_64 : decode b_Row_addPart 64 = .ok (.invokestatic 29, 3) := by decide +kernel
theorem d_Row_addPart_67 : decode b_Row_addPart 67 = .ok (.aload_n 0, 1) := by decide +kernel
theorem d_Row_addPart_68 : decode b_Row_addPart 68 = .ok (.dup, 1) := by decide +kernel
theorem d_Row_addPart_69 : decode b_Row_addPart 69 = .ok (.getfield 21, 3) := by decide +kernel
theorem d_Row_addPart_72 : decode b_Row_addPart 72 = .ok (.iload 4, 2) := by decide +kernel
theorem d_Row_addPart_74 : decode b_Row_addPart 74 = .ok (.iadd, 1) := by decide +kernel
theorem d_Row_addPart_75 : decode b_Row_addPart 75 = .ok (.putfield 21, 3) := by decide +kernel
theorem d_Row_addPart_78 : decode b_Row_addPart 78 = .ok (.iconst 1, 1) := by decide +kernel
theorem d_Row_addPart_79 : decode b_Row_addPart 79 = .ok (.ireturn, 1) := by decide +kernel
theorem d_Row_addCapitals_0 : decode b_Row_addCapitals 0 = .ok (.iconst 1, 1) := by decide +kernel
theorem d_Row_addCapitals_1 : decode b_Row_addCapitals 1 = .ok (.istore 4, 2) := by decide +kernel
theorem d_Row_addCapitals_3 : decode b_Row_addCapitals 3 = .ok (.iload_n 2, 1) := by decide +kernel
theorem d_Row_addCapitals_4 : decode b_Row_addCapitals 4 = .ok (.istore 5, 2) := by decide +kernel
theorem d_Row_addCapitals_6 : decode b_Row_addCapitals 6 = .ok (.iload 5, 2) := by decide +kernel
theorem d_Row_addCapitals_8 : decode b_Row_addCapitals 8 = .ok (.iload_n 3, 1) := by decide +kernel
theorem d_Row_addCapitals_9 : decode b_Row_addCapitals 9 = .ok (.if_icmp .ge 29, 3) := by decide +kernel
theorem d_Row_addCapitals_12 : decode b_Row_addCapitals 12 = .ok (.iload 4, 2) := by decide +kernel
theorem d_Row_addCapitals_14 : decode b_Row_addCapitals 14 = .ok (.ifCond .eq 24, 3) := by decide +kernel
theorem d_Row_addCapitals_17 : decode b_Row_addCapitals 17 = .ok (.aload_n 0, 1) := by decide +kernel
theorem d_Row_addCapitals_18 : decode b_Row_addCapitals 18 = .ok (.aload_n 1, 1) := by decide +kernel
theorem d_Row_addCapitals_19 : decode b_Row_addCapitals 19 = .ok (.iload 5, 2) := by decide +kernel
theorem d_Row_addCapitals_21 : decode b_Row_addCapitals 21 = .ok (.invokevirtual 35, 3) := by decide +kernel
theorem d_Row_addCapitals_24 : decode b_Row_addCapitals 24 = .ok (.invokestatic 39, 3) := by decide +kernel
theorem d_Row_addCapitals_27 : decode b_Row_addCapitals 27 = .ok (.invokevirtual 25, 3) := by decide +kernel
theorem d_Row_addCapitals_30 : decode b_Row_addCapitals 30 = .ok (.istore 4, 2) := by decide +kernel
theorem d_Row_addCapitals_32 : decode b_Row_addCapitals 32 = .ok (.iinc 5 1, 3) := by decide +kernel
theorem d_Row_addCapitals_35 : decode b_Row_addCapitals 35 = .ok (.goto (-29), 3) := by decide +kernel
theorem d_Row_addCapitals_38 : decode b_Row_addCapitals 38 = .ok (.iload 4, 2) := by decide +kernel
theorem d_Row_addCapitals_40 : decode b_Row_addCapitals 40 = .ok (.ireturn, 1) := by decide +kernel
theorem d_Row_become_0 : decode b_Row_become 0 = .ok (.aload_n 0, 1) := by decide +kernel
theorem d_Row_become_1 : decode b_Row_become 1 = .ok (.iconst 0, 1) := by decide +kernel
theorem d_Row_become_2 : decode b_Row_become 2 = .ok (.putfield 21, 3) := by decide +kernel
theorem d_Row_become_5 : decode b_Row_become 5 = .ok (.aload_n 0, 1) := by decide +kernel
theorem d_Row_become_6 : decode b_Row_become 6 = .ok (.aload_n 1, 1) := by decide +kernel
theorem d_Row_become_7 : decode b_Row_become 7 = .ok (.iconst 0, 1) := by decide +kernel
theorem d_Row_become_8 : decode b_Row_become 8 = .ok (.aload_n 1, 1) := by decide +kernel
theorem d_Row_become_9 : decode b_Row_become 9 = .ok (.getfield 21, 3) := by decide +kernel
theorem d_Row_become_12 : decode b_Row_become 12 = .ok (.invokevirtual 42, 3) := by decide +kernel
theorem d_Row_become_15 : decode b_Row_become 15 = .ok (.pop, 1) := by decide +kernel
theorem d_Row_become_16 : decode b_Row_become 16 = .ok (.return_, 1) := by decide +kernel
theorem d_Row_beginsWith_0 : decode b_Row_beginsWith 0 = .ok (.aload_n 1, 1) := by decide +kernel
theorem d_Row_beginsWith_1 : decode b_Row_beginsWith 1 = .ok (.getfield 21, 3) := by decide +kernel
theorem d_Row_beginsWith_4 : decode b_Row_beginsWith 4 = .ok (.istore_n 2, 1) := by decide +kernel
theorem d_Row_beginsWith_5 : decode b_Row_beginsWith 5 = .ok (.iload_n 2, 1) := by decide +kernel
theorem d_Row_beginsWith_6 : decode b_Row_beginsWith 6 = .ok (.aload_n 0, 1) := by decide +kernel
theorem d_Row_beginsWith_7 : decode b_Row_beginsWith 7 = .ok (.getfield 21, 3) := by decide +kernel
theorem d_Row_beginsWith_10 : decode b_Row_beginsWith 10 = .ok (.if_icmp .gt 21, 3) := by decide +kernel
theorem d_Row_beginsWith_13 : decode b_Row_beginsWith 13 = .ok (.iload_n 2, 1) := by decide +kernel
theorem d_Row_beginsWith_14 : decode b_Row_beginsWith 14 = .ok (.aload_n 0, 1) := by decide +kernel
theorem d_Row_beginsWith_15 : decode b_Row_beginsWith 15 = .ok (.getfield 15, 3) := by decide +kernel
theorem d_Row_beginsWith_18 : decode b_Row_beginsWith 18 = .ok (.arraylength, 1) := by decide +kernel
theorem d_Row_beginsWith_19 : decode b_Row_beginsWith 19 = .ok (.if_icmp .gt 12, 3) := by decide +kernel
theorem d_Row_beginsWith_22 : decode b_Row_beginsWith 22 = .ok (.iload_n 2, 1) := by decide +kernel
theorem d_Row_beginsWith_23 : decode b_Row_beginsWith 23 = .ok (.aload_n 1, 1) := by decide +kernel
theorem d_Row_beginsWith_24 : decode b_Row_beginsWith 24 = .ok (.getfield 15, 3) := by decide +kernel
theorem d_Row_beginsWith_27 : decode b_Row_beginsWith 27 = .ok (.arraylength, 1) := by decide +kernel
theorem d_Row_beginsWith_28 : decode b_Row_beginsWith 28 = .ok (.if_icmp .le 5, 3) := by decide +kernel
theorem d_Row_beginsWith_31 : decode b_Row_beginsWith 31 = .ok (.iconst 0, 1) := by decide +kernel
theorem d_Row_beginsWith_32 : decode b_Row_beginsWith 32 = .ok (.ireturn, 1) := by decide +kernel
theorem d_Row_beginsWith_33 : decode b_Row_beginsWith 33 = .ok (.iconst 0, 1) := by decide +kernel
theorem d_Row_beginsWith_34 : decode b_Row_beginsWith 34 = .ok (.istore_n 3, 1) := by decide +kernel
theorem d_Row_beginsWith_35 : decode b_Row_beginsWith 35 = .ok (.iload_n 3, 1) := by decide +kernel
theorem d_Row_beginsWith_36 : decode b_Row_beginsWith 36 = .ok (.iload_n 2, 1) := by decide +kernel
theorem d_Row_beginsWith_37 : decode b_Row_beginsWith 37 = .ok (.if_icmp .ge 26, 3) := by decide +kernel
theorem d_Row_beginsWith_40 : decode b_Row_beginsWith 40 = .ok (.aload_n 0, 1) := by decide +kernel
theorem d_Row_beginsWith_41 : decode b_Row_beginsWith 41 = .ok (.getfield 15, 3) := by decide +kernel
theorem d_Row_beginsWith_44 : decode b_Row_beginsWith 44 = .ok (.iload_n 3, 1) := by decide +kernel
theorem d_Row_beginsWith_45 : decode b_Row_beginsWith 45 = .ok (.baload, 1) := by decide +kernel
theorem d_Row_beginsWith_46 : decode b_Row_beginsWith 46 = .ok (.aload_n 1, 1) := by decide +kernel
theorem d_Row_beginsWith_47 : decode b_Row_beginsWith 47 = .ok (.getfield 15, 3) := by decide +kernel
theorem d_Row_beginsWith_50 : decode b_Row_beginsWith 50 = .ok (.iload_n 3, 1) := by decide +kernel
theorem d_Row_beginsWith_51 : decode b_Row_beginsWith 51 = .ok (.baload, 1) := by decide +kernel
theorem d_Row_beginsWith_52 : decode b_Row_beginsWith 52 = .ok (.if_icmp .eq 5, 3) := by decide +kernel
theorem d_Row_beginsWith_55 : decode b_Row_beginsWith 55 = .ok (.iconst 0, 1) := by decide +kernel
theorem d_Row_beginsWith_56 : decode b_Row_beginsWith 56 = .ok (.ireturn, 1) := by decide +kernel
theorem d_Row_beginsWith_57 : decode b_Row_beginsWith 57 = .ok (.iinc 3 1, 3) := by decide +kernel
theorem d_Row_beginsWith_60 : decode b_Row_beginsWith 60 = .ok (.goto (-25), 3) := by decide +kernel
theorem d_Row_beginsWith_63 : decode b_Row_beginsWith 63 = .ok (.iconst 1, 1) := by decide +kernel
theorem d_Row_beginsWith_64 : decode b_Row_beginsWith 64 = .ok (.ireturn, 1) := by decide +kernel
theorem d_Row_standsAt_0 : decode b_Row_standsAt 0 = .ok (.iconst 0, 1) := by decide +kernel
theorem d_Row_standsAt_1 : decode b_Row_standsAt 1 = .ok (.istore_n 3, 1) := by decide +kernel
theorem d_Row_standsAt_2 : decode b_Row_standsAt 2 = .ok (.iload_n 3, 1) := by decide +kernel
theorem d_Row_standsAt_3 : decode b_Row_standsAt 3 = .ok (.aload_n 2, 1) := by decide +kernel
theorem d_Row_standsAt_4 : decode b_Row_standsAt 4 = .ok (.getfield 21, 3) := by decide +kernel
theorem d_Row_standsAt_7 : decode b_Row_standsAt 7 = .ok (.if_icmp .ge 26, 3) := by decide +kernel
theorem d_Row_standsAt_10 : decode b_Row_standsAt 10 = .ok (.aload_n 0, 1) := by decide +kernel
theorem d_Row_standsAt_11 : decode b_Row_standsAt 11 = .ok (.iload_n 1, 1) := by decide +kernel
theorem d_Row_standsAt_12 : decode b_Row_standsAt 12 = .ok (.iload_n 3, 1) := by decide +kernel
theorem d_Row_standsAt_13 : decode b_Row_standsAt 13 = .ok (.iadd, 1) := by decide +kernel
theorem d_Row_standsAt_14 : decode b_Row_standsAt 14 = .ok (.invokevirtual 35, 3) := by decide +kernel
theorem d_Row_standsAt_17 : decode b_Row_standsAt 17 = .ok (.aload_n 2, 1) := by decide +kernel
theorem d_Row_standsAt_18 : decode b_Row_standsAt 18 = .ok (.iload_n 3, 1) := by decide +kernel
theorem d_Row_standsAt_19 : decode b_Row_standsAt 19 = .ok (.invokevirtual 35, 3) := by decide +kernel
theorem d_Row_standsAt_22 : decode b_Row_standsAt 22 = .ok (.if_icmp .eq 5, 3) := by decide +kernel
theorem d_Row_standsAt_25 : decode b_Row_standsAt 25 = .ok (.iconst 0, 1) := by decide +kernel
theorem d_Row_standsAt_26 : decode b_Row_standsAt 26 = .ok (.ireturn, 1) := by decide +kernel
theorem d_Row_standsAt_27 : decode b_Row_standsAt 27 = .ok (.iinc 3 1, 3) := by decide +kernel
theorem d_Row_standsAt_30 : decode b_Row_standsAt 30 = .ok (.goto (-28), 3) := by decide +kernel
theorem d_Row_standsAt_33 : decode b_Row_standsAt 33 = .ok (.iconst 1, 1) := by decide +kernel
theorem d_Row_standsAt_34 : decode b_Row_standsAt 34 = .ok (.ireturn, 1) := by decide +kernel
theorem d_Row_dotFrom_0 : decode b_Row_dotFrom 0 = .ok (.iload_n 1, 1) := by decide +kernel
theorem d_Row_dotFrom_1 : decode b_Row_dotFrom 1 = .ok (.istore_n 3, 1) := by decide +kernel
theorem d_Row_dotFrom_2 : decode b_Row_dotFrom 2 = .ok (.iload_n 3, 1) := by decide +kernel
theorem d_Row_dotFrom_3 : decode b_Row_dotFrom 3 = .ok (.iload_n 2, 1) := by decide +kernel
theorem d_Row_dotFrom_4 : decode b_Row_dotFrom 4 = .ok (.if_icmp .ge 35, 3) := by decide +kernel
theorem d_Row_dotFrom_7 : decode b_Row_dotFrom 7 = .ok (.iload_n 3, 1) := by decide +kernel
theorem d_Row_dotFrom_8 : decode b_Row_dotFrom 8 = .ok (.aload_n 0, 1) := by decide +kernel
theorem d_Row_dotFrom_9 : decode b_Row_dotFrom 9 = .ok (.getfield 15, 3) := by decide +kernel
theorem d_Row_dotFrom_12 : decode b_Row_dotFrom 12 = .ok (.arraylength, 1) := by decide +kernel
theorem d_Row_dotFrom_13 : decode b_Row_dotFrom 13 = .ok (.if_icmp .ge 26, 3) := by decide +kernel
theorem d_Row_dotFrom_16 : decode b_Row_dotFrom 16 = .ok (.iload_n 3, 1) := by decide +kernel
theorem d_Row_dotFrom_17 : decode b_Row_dotFrom 17 = .ok (.ifCond .lt 16, 3) := by decide +kernel
theorem d_Row_dotFrom_20 : decode b_Row_dotFrom 20 = .ok (.aload_n 0, 1) := by decide +kernel
theorem d_Row_dotFrom_21 : decode b_Row_dotFrom 21 = .ok (.getfield 15, 3) := by decide +kernel
theorem d_Row_dotFrom_24 : decode b_Row_dotFrom 24 = .ok (.iload_n 3, 1) := by decide +kernel
theorem d_Row_dotFrom_25 : decode b_Row_dotFrom 25 = .ok (.baload, 1) := by decide +kernel
theorem d_Row_dotFrom_26 : decode b_Row_dotFrom 26 = .ok (.bipush 46, 2) := by decide +kernel
theorem d_Row_dotFrom_28 : decode b_Row_dotFrom 28 = .ok (.if_icmp .ne 5, 3) := by decide +kernel
theorem d_Row_dotFrom_31 : decode b_Row_dotFrom 31 = .ok (.iload_n 3, 1) := by decide +kernel
theorem d_Row_dotFrom_32 : decode b_Row_dotFrom 32 = .ok (.ireturn, 1) := by decide +kernel
theorem d_Row_dotFrom_33 : decode b_Row_dotFrom 33 = .ok (.iinc 3 1, 3) := by decide +kernel
theorem d_Row_dotFrom_36 : decode b_Row_dotFrom 36 = .ok (.goto (-34), 3) := by decide +kernel
theorem d_Row_dotFrom_39 : decode b_Row_dotFrom 39 = .ok (.iload_n 2, 1) := by decide +kernel
theorem d_Row_dotFrom_40 : decode b_Row_dotFrom 40 = .ok (.ireturn, 1) := by decide +kernel
theorem d_Row_isStem_0 : decode b_Row_isStem 0 = .ok (.aload_n 0, 1) := by decide +kernel
theorem d_Row_isStem_1 : decode b_Row_isStem 1 = .ok (.getfield 21, 3) := by decide +kernel
theorem d_Row_isStem_4 : decode b_Row_isStem 4 = .ok (.ifCond .le 25, 3) := by decide +kernel
theorem d_Row_isStem_7 : decode b_Row_isStem 7 = .ok (.aload_n 0, 1) := by decide +kernel
theorem d_Row_isStem_8 : decode b_Row_isStem 8 = .ok (.iconst 0, 1) := by decide +kernel
theorem d_Row_isStem_9 : decode b_Row_isStem 9 = .ok (.aload_n 0, 1) := by decide +kernel
theorem d_Row_isStem_10 : decode b_Row_isStem 10 = .ok (.getfield 21, 3) := by decide +kernel
theorem d_Row_isStem_13 : decode b_Row_isStem 13 = .ok (.invokevirtual 46, 3) := by decide +kernel
theorem d_Row_isStem_16 : decode b_Row_isStem 16 = .ok (.aload_n 0, 1) := by decide +kernel
theorem d_Row_isStem_17 : decode b_Row_isStem 17 = .ok (.getfield 21, 3) := by decide +kernel
theorem d_Row_isStem_20 : decode b_Row_isStem 20 = .ok (.iconst 1, 1) := by decide +kernel
theorem d_Row_isStem_21 : decode b_Row_isStem 21 = .ok (.isub, 1) := by decide +kernel
theorem d_Row_isStem_22 : decode b_Row_isStem 22 = .ok (.if_icmp .ne 7, 3) := by decide +kernel
theorem d_Row_isStem_25 : decode b_Row_isStem 25 = .ok (.iconst 1, 1) := by decide +kernel
theorem d_Row_isStem_26 : decode b_Row_isStem 26 = .ok (.goto 4, 3) := by decide +kernel
theorem d_Row_isStem_29 : decode b_Row_isStem 29 = .ok (.iconst 0, 1) := by decide +kernel
theorem d_Row_isStem_30 : decode b_Row_isStem 30 = .ok (.ireturn, 1) := by decide +kernel
theorem d_Row_isCompound_0 : decode b_Row_isCompound 0 = .ok (.aload_n 0, 1) := by decide +kernel
theorem d_Row_isCompound_1 : decode b_Row_isCompound 1 = .ok (.iconst 0, 1) := by decide +kernel
theorem d_Row_isCompound_2 : decode b_Row_isCompound 2 = .ok (.aload_n 0, 1) := by decide +kernel
theorem d_Row_isCompound_3 : decode b_Row_isCompound 3 = .ok (.getfield 21, 3) := by decide +kernel
theorem d_Row_isCompound_6 : decode b_Row_isCompound 6 = .ok (.invokevirtual 46, 3) := by decide +kernel
theorem d_Row_isCompound_9 : decode b_Row_isCompound 9 = .ok (.aload_n 0, 1) := by decide +kernel
theorem d_Row_isCompound_10 : decode b_Row_isCompound 10 = .ok (.getfield 21, 3) := by decide +kernel
theorem d_Row_isCompound_13 : decode b_Row_isCompound 13 = .ok (.iconst 1, 1) := by decide +kernel
theorem d_Row_isCompound_14 : decode b_Row_isCompound 14 = .ok (.isub, 1) := by decide +kernel
theorem d_Row_isCompound_15 : decode b_Row_isCompound 15 = .ok (.if_icmp .ge 7, 3) := by decide +kernel
theorem d_Row_isCompound_18 : decode b_Row_isCompound 18 = .ok (.iconst 1, 1) := by decide +kernel
theorem d_Row_isCompound_19 : decode b_Row_isCompound 19 = .ok (.goto 4, 3) := by decide +kernel
theorem d_Row_isCompound_22 : decode b_Row_isCompound 22 = .ok (.iconst 0, 1) := by decide +kernel
theorem d_Row_isCompound_23 : decode b_Row_isCompound 23 = .ok (.ireturn, 1) := by decide +kernel
theorem d_Ent_init_0 : decode b_Ent_init 0 = .ok (.aload_n 0, 1) := by decide +kernel
theorem d_Ent_init_1 : decode b_Ent_init 1 = .ok (.invokespecial 3, 3) := by decide +kernel
theorem d_Ent_init_4 : decode b_Ent_init 4 = .ok (.aload_n 0, 1) := by decide +kernel
theorem d_Ent_init_5 : decode b_Ent_init 5 = .ok (.new 9, 3) := by decide +kernel
theorem d_Ent_init_8 : decode b_Ent_init 8 = .ok (.dup, 1) := by decide +kernel
theorem d_Ent_init_9 : decode b_Ent_init 9 = .ok (.sipush 200, 3) := by decide +kernel
theorem d_Ent_init_12 : decode b_Ent_init 12 = .ok (.invokespecial 11, 3) := by decide +kernel
theorem d_Ent_init_15 : decode b_Ent_init 15 = .ok (.putfield 14, 3) := by decide +kernel
theorem d_Ent_init_18 : decode b_Ent_init 18 = .ok (.aload_n 0, 1) := by decide +kernel
theorem d_Ent_init_19 : decode b_Ent_init 19 = .ok (.new 9, 3) := by decide +kernel
theorem d_Ent_init_22 : decode b_Ent_init 22 = .ok (.dup, 1) := by decide +kernel
theorem d_Ent_init_23 : decode b_Ent_init 23 = .ok (.sipush 200, 3) := by decide +kernel
theorem d_Ent_init_26 : decode b_Ent_init 26 = .ok (.invokespecial 11, 3) := by decide +kernel
theorem d_Ent_init_29 : decode b_Ent_init 29 = .ok (.putfield 20, 3) := by decide +kernel
theorem d_Ent_init_32 : decode b_Ent_init 32 = .ok (.aload_n 0, 1) := by decide +kernel
theorem d_Ent_init_33 : decode b_Ent_init 33 = .ok (.iconst 0, 1) := by decide +kernel
theorem d_Ent_init_34 : decode b_Ent_init 34 = .ok (.putfield 23, 3) := by decide +kernel
theorem d_Ent_init_37 : decode b_Ent_init 37 = .ok (.aload_n 0, 1) := by decide +kernel
theorem d_Ent_init_38 : decode b_Ent_init 38 = .ok (.iconst 0, 1) := by decide +kernel
theorem d_Ent_init_39 : decode b_Ent_init 39 = .ok (.putfield 27, 3) := by decide +kernel
theorem d_Ent_init_42 : decode b_Ent_init 42 = .ok (.aload_n 0, 1) := by decide +kernel
theorem d_Ent_init_43 : decode b_Ent_init 43 = .ok (.iconst 0, 1) := by decide +kernel
theorem d_Ent_init_44 : decode b_Ent_init 44 = .ok (.putfield 31, 3) := by decide +kernel
theorem d_Ent_init_47 : decode b_Ent_init 47 = .ok (.return_, 1) := by decide +kernel
theorem d_She_init_0 : decode b_She_init 0 = .ok (.aload_n 0, 1) := by decide +kernel
theorem d_She_init_1 : decode b_She_init 1 = .ok (.invokespecial 3, 3) := by decide +kernel
theorem d_She_init_4 : decode b_She_init 4 = .ok (.aload_n 0, 1) := by decide +kernel
theorem d_She_init_5 : decode b_She_init 5 = .ok (.bipush 100, 2) := by decide +kernel
theorem d_She_init_7 : decode b_She_init 7 = .ok (.anewarray 9, 3) := by decide +kernel
theorem d_She_init_10 : decode b_She_init 10 = .ok (.putfield 11, 3) := by decide +kernel
theorem d_She_init_13 : decode b_She_init 13 = .ok (.iconst 0, 1) := by decide +kernel
theorem d_She_init_14 : decode b_She_init 14 = .ok (.istore_n 1, 1) := by decide +kernel
theorem d_She_init_15 : decode b_She_init 15 = .ok (.iload_n 1, 1) := by decide +kernel
theorem d_She_init_16 : decode b_She_init 16 = .ok (.aload_n 0, 1) := by decide +kernel
theorem d_She_init_17 : decode b_She_init 17 = .ok (.getfield 11, 3) := by decide +kernel
theorem d_She_init_20 : decode b_She_init 20 = .ok (.arraylength, 1) := by decide +kernel
theorem d_She_init_21 : decode b_She_init 21 = .ok (.if_icmp .ge 22, 3) := by decide +kernel
theorem d_She_init_24 : decode b_She_init 24 = .ok (.aload_n 0, 1) := by decide +kernel
theorem d_She_init_25 : decode b_She_init 25 = .ok (.getfield 11, 3) := by decide +kernel
theorem d_She_init_28 : decode b_She_init 28 = .ok (.iload_n 1, 1) := by decide +kernel
theorem d_She_init_29 : decode b_She_init 29 = .ok (.new 9, 3) := by decide +kernel
theorem d_She_init_32 : decode b_She_init 32 = .ok (.dup, 1) := by decide +kernel
theorem d_She_init_33 : decode b_She_init 33 = .ok (.invokespecial 17, 3) := by decide +kernel
theorem d_She_init_36 : decode b_She_init 36 = .ok (.aastore, 1) := by decide +kernel
theorem d_She_init_37 : decode b_She_init 37 = .ok (.iinc 1 1, 3) := by decide +kernel
theorem d_She_init_40 : decode b_She_init 40 = .ok (.goto (-25), 3) := by decide +kernel
theorem d_She_init_43 : decode b_She_init 43 = .ok (.aload_n 0, 1) := by decide +kernel
theorem d_She_init_44 : decode b_She_init 44 = .ok (.iconst 0, 1) := by decide +kernel
theorem d_She_init_45 : decode b_She_init 45 = .ok (.putfield 18, 3) := by decide +kernel
theorem d_She_init_48 : decode b_She_init 48 = .ok (.return_, 1) := by decide +kernel
theorem d_She_entryAt_0 : decode b_She_entryAt 0 = .ok (.iload_n 1, 1) := by decide +kernel
theorem d_She_entryAt_1 : decode b_She_entryAt 1 = .ok (.ifCond .lt 29, 3) := by decide +kernel
theorem d_She_entryAt_4 : decode b_She_entryAt 4 = .ok (.iload_n 1, 1) := by decide +kernel
theorem d_She_entryAt_5 : decode b_She_entryAt 5 = .ok (.aload_n 0, 1) := by decide +kernel
theorem d_She_entryAt_6 : decode b_She_entryAt 6 = .ok (.getfield 18, 3) := by decide +kernel
theorem d_She_entryAt_9 : decode b_She_entryAt 9 = .ok (.if_icmp .ge 21, 3) := by decide +kernel
theorem d_She_entryAt_12 : decode b_She_entryAt 12 = .ok (.iload_n 1, 1) := by decide +kernel
theorem d_She_entryAt_13 : decode b_She_entryAt 13 = .ok (.aload_n 0, 1) := by decide +kernel
theorem d_She_entryAt_14 : decode b_She_entryAt 14 = .ok (.getfield 11, 3) := by decide +kernel
theorem d_She_entryAt_17 : decode b_She_entryAt 17 = .ok (.arraylength, 1) := by decide +kernel
theorem d_She_entryAt_18 : decode b_She_entryAt 18 = .ok (.if_icmp .ge 12, 3) := by decide +kernel
theorem d_She_entryAt_21 : decode b_She_entryAt 21 = .ok (.aload_n 0, 1) := by decide +kernel
theorem d_She_entryAt_22 : decode b_She_entryAt 22 = .ok (.getfield 11, 3) := by decide +kernel
theorem d_She_entryAt_25 : decode b_She_entryAt 25 = .ok (.iload_n 1, 1) := by decide +kernel
theorem d_She_entryAt_26 : decode b_She_entryAt 26 = .ok (.aaload, 1) := by decide +kernel
theorem d_She_entryAt_27 : decode b_She_entryAt 27 = .ok (.goto 4, 3) := by decide +kernel
theorem d_She_entryAt_30 : decode b_She_entryAt 30 = .ok (.aconst_null, 1) := by decide +kernel
theorem d_She_entryAt_31 : decode b_She_entryAt 31 = .ok (.areturn, 1) := by decide +kernel
theorem d_She_find_0 : decode b_She_find 0 = .ok (.iconst 0, 1) := by decide +kernel
theorem d_She_find_1 : decode b_She_find 1 = .ok (.istore_n 3, 1) := by decide +kernel
theorem d_She_find_2 : decode b_She_find 2 = .ok (.iload_n 3, 1) := by decide +kernel
theorem d_She_find_3 : decode b_She_find 3 = .ok (.aload_n 0, 1) := by decide +kernel
theorem d_She_find_4 : decode b_She_find 4 = .ok (.getfield 18, 3) := by decide +kernel
theorem d_She_find_7 : decode b_She_find 7 = .ok (.if_icmp .ge 70, 3) := by decide +kernel
theorem d_She_find_10 : decode b_She_find 10 = .ok (.iload_n 3, 1) := by decide +kernel
theorem d_She_find_11 : decode b_She_find 11 = .ok (.aload_n 0, 1) := by decide +kernel
theorem d_She_find_12 : decode b_She_find 12 = .ok (.getfield 11, 3) := by decide +kernel
theorem d_She_find_15 : decode b_She_find 15 = .ok (.arraylength, 1) := by decide +kernel
theorem d_She_find_16 : decode b_She_find 16 = .ok (.if_icmp .ge 61, 3) := by decide +kernel
theorem d_She_find_19 : decode b_She_find 19 = .ok (.aload_n 0, 1) := by decide +kernel
theorem d_She_find_20 : decode b_She_find 20 = .ok (.getfield 11, 3) := by decide +kernel
theorem d_She_find_23 : decode b_She_find 23 = .ok (.iload_n 3, 1) := by decide +kernel
theorem d_She_find_24 : decode b_She_find 24 = .ok (.aaload, 1) := by decide +kernel
theorem d_She_find_25 : decode b_She_find 25 = .ok (.astore 4, 2) := by decide +kernel
theorem d_She_find_27 : decode b_She_find 27 = .ok (.aload 4, 2) := by decide +kernel
theorem d_She_find_29 : decode b_She_find 29 = .ok (.ifnull 42, 3) := by decide +kernel
theorem d_She_find_32 : decode b_She_find 32 = .ok (.aload 4, 2) := by decide +kernel
theorem d_She_find_34 : decode b_She_find 34 = .ok (.getfield 22, 3) := by decide +kernel
theorem d_She_find_37 : decode b_She_find 37 = .ok (.iload_n 2, 1) := by decide +kernel
theorem d_She_find_38 : decode b_She_find 38 = .ok (.if_icmp .ne 33, 3) := by decide +kernel
theorem d_She_find_41 : decode b_She_find 41 = .ok (.aload 4, 2) := by decide +kernel
theorem d_She_find_43 : decode b_She_find 43 = .ok (.getfield 25, 3) := by decide +kernel
theorem d_She_find_46 : decode b_She_find 46 = .ok (.getfield 29, 3) := by decide +kernel
theorem d_She_find_49 : decode b_She_find 49 = .ok (.aload_n 1, 1) := by decide +kernel
theorem d_She_find_50 : decode b_She_find 50 = .ok (.getfield 29, 3) := by decide +kernel
theorem d_She_find_53 : decode b_She_find 53 = .ok (.if_icmp .ne 18, 3) := by decide +kernel
theorem d_She_find_56 : decode b_She_find 56 = .ok (.aload 4, 2) := by decide +kernel
theorem d_She_find_58 : decode b_She_find 58 = .ok (.getfield 25, 3) := by decide +kernel
theorem d_She_find_61 : decode b_She_find 61 = .ok (.aload_n 1, 1) := by decide +kernel
theorem d_She_find_62 : decode b_She_find 62 = .ok (.invokevirtual 34, 3) := by decide +kernel
theorem d_She_find_65 : decode b_She_find 65 = .ok (.ifCond .eq 6, 3) := by decide +kernel
theorem d_She_find_68 : decode b_She_find 68 = .ok (.aload 4, 2) := by decide +kernel
theorem d_She_find_70 : decode b_She_find 70 = .ok (.areturn, 1) := by decide +kernel
theorem d_She_find_71 : decode b_She_find 71 = .ok (.iinc 3 1, 3) := by decide +kernel
theorem d_She_find_74 : decode b_She_find 74 = .ok (.goto (-72), 3) := by decide +kernel
theorem d_She_find_77 : decode b_She_find 77 = .ok (.aconst_null, 1) := by decide +kernel
theorem d_She_find_78 : decode b_She_find 78 = .ok (.areturn, 1) := by decide +kernel
theorem d_She_findOrAdd_0 : decode b_She_findOrAdd 0 = .ok (.aload_n 0, 1) := by decide +kernel
theorem d_She_findOrAdd_1 : decode b_She_findOrAdd 1 = .ok (.aload_n 1, 1) := by decide +kernel
theorem d_She_findOrAdd_2 : decode b_She_findOrAdd 2 = .ok (.iload_n 2, 1) := by decide +kernel
theorem d_She_findOrAdd_3 : decode b_She_findOrAdd 3 = .ok (.invokevirtual 38, 3) := by decide +kernel
theorem d_She_findOrAdd_6 : decode b_She_findOrAdd 6 = .ok (.astore_n 3, 1) := by decide +kernel
theorem d_She_findOrAdd_7 : decode b_She_findOrAdd 7 = .ok (.aload_n 3, 1) := by decide +kernel
theorem d_She_findOrAdd_8 : decode b_She_findOrAdd 8 = .ok (.ifnonnull 22, 3) := by decide +kernel
theorem d_She_findOrAdd_11 : decode b_She_findOrAdd 11 = .ok (.aload_n 0, 1) := by decide +kernel
theorem d_She_findOrAdd_12 : decode b_She_findOrAdd 12 = .ok (.getfield 18, 3) := by decide +kernel
theorem d_She_findOrAdd_15 : decode b_She_findOrAdd 15 = .ok (.ifCond .lt 15, 3) := by decide +kernel
theorem d_She_findOrAdd_18 : decode b_She_findOrAdd 18 = .ok (.aload_n 0, 1) := by decide +kernel
theorem d_She_findOrAdd_19 : decode b_She_findOrAdd 19 = .ok (.getfield 18, 3) := by decide +kernel
theorem d_She_findOrAdd_22 : decode b_She_findOrAdd 22 = .ok (.aload_n 0, 1) := by decide +kernel
theorem d_She_findOrAdd_23 : decode b_She_findOrAdd 23 = .ok (.getfield 11, 3) := by decide +kernel
theorem d_She_findOrAdd_26 : decode b_She_findOrAdd 26 = .ok (.arraylength, 1) := by decide +kernel
theorem d_She_findOrAdd_27 : decode b_She_findOrAdd 27 = .ok (.if_icmp .lt 5, 3) := by decide +kernel
theorem d_She_findOrAdd_30 : decode b_She_findOrAdd 30 = .ok (.aload_n 3, 1) := by decide +kernel
theorem d_She_findOrAdd_31 : decode b_She_findOrAdd 31 = .ok (.areturn, 1) := by decide +kernel
theorem d_She_findOrAdd_32 : decode b_She_findOrAdd 32 = .ok (.aload_n 0, 1) := by decide +kernel
theorem d_She_findOrAdd_33 : decode b_She_findOrAdd 33 = .ok (.getfield 11, 3) := by decide +kernel
theorem d_She_findOrAdd_36 : decode b_She_findOrAdd 36 = .ok (.aload_n 0, 1) := by decide +kernel
theorem d_She_findOrAdd_37 : decode b_She_findOrAdd 37 = .ok (.getfield 18, 3) := by decide +kernel
theorem d_She_findOrAdd_40 : decode b_She_findOrAdd 40 = .ok (.aaload, 1) := by decide +kernel
theorem d_She_findOrAdd_41 : decode b_She_findOrAdd 41 = .ok (.astore 4, 2) := by decide +kernel
theorem d_She_findOrAdd_43 : decode b_She_findOrAdd 43 = .ok (.aload 4, 2) := by decide +kernel
theorem d_She_findOrAdd_45 : decode b_She_findOrAdd 45 = .ok (.ifnull 48, 3) := by decide +kernel
theorem d_She_findOrAdd_48 : decode b_She_findOrAdd 48 = .ok (.aload 4, 2) := by decide +kernel
theorem d_She_findOrAdd_50 : decode b_She_findOrAdd 50 = .ok (.getfield 25, 3) := by decide +kernel
theorem d_She_findOrAdd_53 : decode b_She_findOrAdd 53 = .ok (.aload_n 1, 1) := by decide +kernel
theorem d_She_findOrAdd_54 : decode b_She_findOrAdd 54 = .ok (.invokevirtual 42, 3) := by decide +kernel
theorem d_She_findOrAdd_57 : decode b_She_findOrAdd 57 = .ok (.aload 4, 2) := by decide +kernel
theorem d_She_findOrAdd_59 : decode b_She_findOrAdd 59 = .ok (.getfield 46, 3) := by decide +kernel
theorem d_She_findOrAdd_62 : decode b_She_findOrAdd 62 = .ok (.invokevirtual 49, 3) := by decide +kernel
theorem d_She_findOrAdd_65 : decode b_She_findOrAdd 65 = .ok (.aload 4, 2) := by decide +kernel
theorem d_She_findOrAdd_67 : decode b_She_findOrAdd 67 = .ok (.iload_n 2, 1) := by decide +kernel
theorem d_She_findOrAdd_68 : decode b_She_findOrAdd 68 = .ok (.putfield 22, 3) := by decide +kernel
theorem d_She_findOrAdd_71 : decode b_She_findOrAdd 71 = .ok (.aload 4, 2) := by decide +kernel
theorem d_She_findOrAdd_73 : decode b_She_findOrAdd 73 = .ok (.iconst 0, 1) := by decide +kernel
theorem d_She_findOrAdd_74 : decode b_She_findOrAdd 74 = .ok (.putfield 52, 3) := by decide +kernel
theorem d_She_findOrAdd_77 : decode b_She_findOrAdd 77 = .ok (.aload 4, 2) := by decide +kernel
theorem d_She_findOrAdd_79 : decode b_She_findOrAdd 79 = .ok (.iconst 0, 1) := by decide +kernel
theorem d_She_findOrAdd_80 : decode b_She_findOrAdd 80 = .ok (.putfield 56, 3) := by decide +kernel
theorem d_She_findOrAdd_83 : decode b_She_findOrAdd 83 = .ok (.aload_n 0, 1) := by decide +kernel
theorem d_She_findOrAdd_84 : decode b_She_findOrAdd 84 = .ok (.dup, 1) := by decide +kernel
theorem d_She_findOrAdd_85 : decode b_She_findOrAdd 85 = .ok (.getfield 18, 3) := by decide +kernel
theorem d_She_findOrAdd_88 : decode b_She_findOrAdd 88 = .ok (.iconst 1, 1) := by decide +kernel
theorem d_She_findOrAdd_89 : decode b_She_findOrAdd 89 = .ok (.iadd, 1) := by decide +kernel
theorem d_She_findOrAdd_90 : decode b_She_findOrAdd 90 = .ok (.putfield 18, 3) := by decide +kernel
theorem d_She_findOrAdd_93 : decode b_She_findOrAdd 93 = .ok (.aload 4, 2) := by decide +kernel
theorem d_She_findOrAdd_95 : decode b_She_findOrAdd 95 = .ok (.areturn, 1) := by decide +kernel
theorem d_She_remove_0 : decode b_She_remove 0 = .ok (.aload_n 0, 1) := by decide +kernel
theorem d_She_remove_1 : decode b_She_remove 1 = .ok (.aload_n 1, 1) := by decide +kernel
theorem d_She_remove_2 : decode b_She_remove 2 = .ok (.iload_n 2, 1) := by decide +kernel
theorem d_She_remove_3 : decode b_She_remove 3 = .ok (.invokevirtual 38, 3) := by decide +kernel
theorem d_She_remove_6 : decode b_She_remove 6 = .ok (.astore_n 3, 1) := by decide +kernel
theorem d_She_remove_7 : decode b_She_remove 7 = .ok (.aload_n 3, 1) := by decide +kernel
theorem d_She_remove_8 : decode b_She_remove 8 = .ok (.ifnull 12, 3) := by decide +kernel
theorem d_She_remove_11 : decode b_She_remove 11 = .ok (.aload_n 3, 1) := by decide +kernel
theorem d_She_remove_12 : decode b_She_remove 12 = .ok (.iconst 1, 1) := by decide +kernel
theorem d_She_remove_13 : decode b_She_remove 13 = .ok (.putfield 56, 3) := by decide +kernel
theorem d_She_remove_16 : decode b_She_remove 16 = .ok (.aload_n 0, 1) := by decide +kernel
theorem d_She_remove_17 : decode b_She_remove 17 = .ok (.invokevirtual 59, 3) := by decide +kernel
theorem d_She_remove_20 : decode b_She_remove 20 = .ok (.return_, 1) := by decide +kernel
theorem d_She_clearBehind_0 : decode b_She_clearBehind 0 = .ok (.iconst 0, 1) := by decide +kernel
theorem d_She_clearBehind_1 : decode b_She_clearBehind 1 = .ok (.istore_n 3, 1) := by decide +kernel
theorem d_She_clearBehind_2 : decode b_She_clearBehind 2 = .ok (.iload_n 3, 1) := by decide +kernel
theorem d_She_clearBehind_3 : decode b_She_clearBehind 3 = .ok (.aload_n 0, 1) := by decide +kernel
theorem d_She_clearBehind_4 : decode b_She_clearBehind 4 = .ok (.getfield 18, 3) := by decide +kernel
theorem d_She_clearBehind_7 : decode b_She_clearBehind 7 = .ok (.if_icmp .ge 69, 3) := by decide +kernel
theorem d_She_clearBehind_10 : decode b_She_clearBehind 10 = .ok (.iload_n 3, 1) := by decide +kernel
theorem d_She_clearBehind_11 : decode b_She_clearBehind 11 = .ok (.aload_n 0, 1) := by decide +kernel
theorem d_She_clearBehind_12 : decode b_She_clearBehind 12 = .ok (.getfield 11, 3) := by decide +kernel
theorem d_She_clearBehind_15 : decode b_She_clearBehind 15 = .ok (.arraylength, 1) := by decide +kernel
theorem d_She_clearBehind_16 : decode b_She_clearBehind 16 = .ok (.if_icmp .ge 60, 3) := by decide +kernel
theorem d_She_clearBehind_19 : decode b_She_clearBehind 19 = .ok (.aload_n 0, 1) := by decide +kernel
theorem d_She_clearBehind_20 : decode b_She_clearBehind 20 = .ok (.getfield 11, 3) := by decide +kernel
theorem d_She_clearBehind_23 : decode b_She_clearBehind 23 = .ok (.iload_n 3, 1) := by decide +kernel
theorem d_She_clearBehind_24 : decode b_She_clearBehind 24 = .ok (.aaload, 1) := by decide +kernel
theorem d_She_clearBehind_25 : decode b_She_clearBehind 25 = .ok (.astore 4, 2) := by decide +kernel
theorem d_She_clearBehind_27 : decode b_She_clearBehind 27 = .ok (.aload 4, 2) := by decide +kernel
theorem d_She_clearBehind_29 : decode b_She_clearBehind 29 = .ok (.ifnull 41, 3) := by decide +kernel
theorem d_She_clearBehind_32 : decode b_She_clearBehind 32 = .ok (.aload 4, 2) := by decide +kernel
theorem d_She_clearBehind_34 : decode b_She_clearBehind 34 = .ok (.getfield 22, 3) := by decide +kernel
theorem d_She_clearBehind_37 : decode b_She_clearBehind 37 = .ok (.iload_n 2, 1) := by decide +kernel
theorem d_She_clearBehind_38 : decode b_She_clearBehind 38 = .ok (.if_icmp .ne 32, 3) := by decide +kernel
theorem d_She_clearBehind_41 : decode b_She_clearBehind 41 = .ok (.aload 4, 2) := by decide +kernel
theorem d_She_clearBehind_43 : decode b_She_clearBehind 43 = .ok (.getfield 25, 3) := by decide +kernel
theorem d_She_clearBehind_46 : decode b_She_clearBehind 46 = .ok (.getfield 29, 3) := by decide +kernel
theorem d_She_clearBehind_49 : decode b_She_clearBehind 49 = .ok (.aload_n 1, 1) := by decide +kernel
theorem d_She_clearBehind_50 : decode b_She_clearBehind 50 = .ok (.getfield 29, 3) := by decide +kernel
theorem d_She_clearBehind_53 : decode b_She_clearBehind 53 = .ok (.if_icmp .le 17, 3) := by decide +kernel
theorem d_She_clearBehind_56 : decode b_She_clearBehind 56 = .ok (.aload 4, 2) := by decide +kernel
theorem d_She_clearBehind_58 : decode b_She_clearBehind 58 = .ok (.aload 4, 2) := by decide +kernel
theorem d_She_clearBehind_60 : decode b_She_clearBehind 60 = .ok (.getfield 25, 3) := by decide +kernel
theorem d_She_clearBehind_63 : decode b_She_clearBehind 63 = .ok (.aload_n 1, 1) := by decide +kernel
theorem d_She_clearBehind_64 : decode b_She_clearBehind 64 = .ok (.invokevirtual 34, 3) := by decide +kernel
theorem d_She_clearBehind_67 : decode b_She_clearBehind 67 = .ok (.putfield 56, 3) := by decide +kernel
theorem d_She_clearBehind_70 : decode b_She_clearBehind 70 = .ok (.iinc 3 1, 3) := by decide +kernel
theorem d_She_clearBehind_73 : decode b_She_clearBehind 73 = .ok (.goto (-71), 3) := by decide +kernel
theorem d_She_clearBehind_76 : decode b_She_clearBehind 76 = .ok (.aload_n 0, 1) := by decide +kernel
theorem d_She_clearBehind_77 : decode b_She_clearBehind 77 = .ok (.invokevirtual 59, 3) := by decide +kernel
theorem d_She_clearBehind_80 : decode b_She_clearBehind 80 = .ok (.return_, 1) := by decide +kernel
theorem d_She_clearPool_0 : decode b_She_clearPool 0 = .ok (.iconst 0, 1) := by decide +kernel
theorem d_She_clearPool_1 : decode b_She_clearPool 1 = .ok (.istore_n 2, 1) := by decide +kernel
theorem d_She_clearPool_2 : decode b_She_clearPool 2 = .ok (.iload_n 2, 1) := by decide +kernel
theorem d_She_clearPool_3 : decode b_She_clearPool 3 = .ok (.aload_n 0, 1) := by decide +kernel
theorem d_She_clearPool_4 : decode b_She_clearPool 4 = .ok (.getfield 18, 3) := by decide +kernel
theorem d_She_clearPool_7 : decode b_She_clearPool 7 = .ok (.if_icmp .ge 42, 3) := by decide +kernel
theorem d_She_clearPool_10 : decode b_She_clearPool 10 = .ok (.iload_n 2, 1) := by decide +kernel
theorem d_She_clearPool_11 : decode b_She_clearPool 11 = .ok (.aload_n 0, 1) := by decide +kernel
theorem d_She_clearPool_12 : decode b_She_clearPool 12 = .ok (.getfield 11, 3) := by decide +kernel
theorem d_She_clearPool_15 : decode b_She_clearPool 15 = .ok (.arraylength, 1) := by decide +kernel
theorem d_She_clearPool_16 : decode b_She_clearPool 16 = .ok (.if_icmp .ge 33, 3) := by decide +kernel
theorem d_She_clearPool_19 : decode b_She_clearPool 19 = .ok (.aload_n 0, 1) := by decide +kernel
theorem d_She_clearPool_20 : decode b_She_clearPool 20 = .ok (.getfield 11, 3) := by decide +kernel
theorem d_She_clearPool_23 : decode b_She_clearPool 23 = .ok (.iload_n 2, 1) := by decide +kernel
theorem d_She_clearPool_24 : decode b_She_clearPool 24 = .ok (.aaload, 1) := by decide +kernel
theorem d_She_clearPool_25 : decode b_She_clearPool 25 = .ok (.astore_n 3, 1) := by decide +kernel
theorem d_She_clearPool_26 : decode b_She_clearPool 26 = .ok (.aload_n 3, 1) := by decide +kernel
theorem d_She_clearPool_27 : decode b_She_clearPool 27 = .ok (.ifnull 16, 3) := by decide +kernel
theorem d_She_clearPool_30 : decode b_She_clearPool 30 = .ok (.aload_n 3, 1) := by decide +kernel
theorem d_She_clearPool_31 : decode b_She_clearPool 31 = .ok (.getfield 22, 3) := by decide +kernel
theorem d_She_clearPool_34 : decode b_She_clearPool 34 = .ok (.iload_n 1, 1) := by decide +kernel
theorem d_She_clearPool_35 : decode b_She_clearPool 35 = .ok (.if_icmp .ne 8, 3) := by decide +kernel
theorem d_She_clearPool_38 : decode b_She_clearPool 38 = .ok (.aload_n 3, 1) := by decide +kernel
theorem d_She_clearPool_39 : decode b_She_clearPool 39 = .ok (.iconst 1, 1) := by decide +kernel
theorem d_She_clearPool_40 : decode b_She_clearPool 40 = .ok (.putfield 56, 3) := by decide +kernel
theorem d_She_clearPool_43 : decode b_She_clearPool 43 = .ok (.iinc 2 1, 3) := by decide +kernel
theorem d_She_clearPool_46 : decode b_She_clearPool 46 = .ok (.goto (-44), 3) := by decide +kernel
theorem d_She_clearPool_49 : decode b_She_clearPool 49 = .ok (.aload_n 0, 1) := by decide +kernel
theorem d_She_clearPool_50 : decode b_She_clearPool 50 = .ok (.invokevirtual 59, 3) := by decide +kernel
theorem d_She_clearPool_53 : decode b_She_clearPool 53 = .ok (.return_, 1) := by decide +kernel
theorem d_She_sweep_0 : decode b_She_sweep 0 = .ok (.iconst 0, 1) := by decide +kernel
theorem d_She_sweep_1 : decode b_She_sweep 1 = .ok (.istore_n 1, 1) := by decide +kernel
theorem d_She_sweep_2 : decode b_She_sweep 2 = .ok (.iconst 0, 1) := by decide +kernel
theorem d_She_sweep_3 : decode b_She_sweep 3 = .ok (.istore_n 2, 1) := by decide +kernel
theorem d_She_sweep_4 : decode b_She_sweep 4 = .ok (.iload_n 2, 1) := by decide +kernel
theorem d_She_sweep_5 : decode b_She_sweep 5 = .ok (.aload_n 0, 1) := by decide +kernel
theorem d_She_sweep_6 : decode b_She_sweep 6 = .ok (.getfield 18, 3) := by decide +kernel
theorem d_She_sweep_9 : decode b_She_sweep 9 = .ok (.if_icmp .ge 58, 3) := by decide +kernel
theorem d_She_sweep_12 : decode b_She_sweep 12 = .ok (.iload_n 2, 1) := by decide +kernel
theorem d_She_sweep_13 : decode b_She_sweep 13 = .ok (.aload_n 0, 1) := by decide +kernel
theorem d_She_sweep_14 : decode b_She_sweep 14 = .ok (.getfield 11, 3) := by decide +kernel
theorem d_She_sweep_17 : decode b_She_sweep 17 = .ok (.arraylength, 1) := by decide +kernel
theorem d_She_sweep_18 : decode b_She_sweep 18 = .ok (.if_icmp .ge 49, 3) := by decide +kernel
theorem d_She_sweep_21 : decode b_She_sweep 21 = .ok (.aload_n 0, 1) := by decide +kernel
theorem d_She_sweep_22 : decode b_She_sweep 22 = .ok (.getfield 11, 3) := by decide +kernel
theorem d_She_sweep_25 : decode b_She_sweep 25 = .ok (.iload_n 2, 1) := by decide +kernel
theorem d_She_sweep_26 : decode b_She_sweep 26 = .ok (.aaload, 1) := by decide +kernel
theorem d_She_sweep_27 : decode b_She_sweep 27 = .ok (.astore_n 3, 1) := by decide +kernel
theorem d_She_sweep_28 : decode b_She_sweep 28 = .ok (.aload_n 3, 1) := by decide +kernel
theorem d_She_sweep_29 : decode b_She_sweep 29 = .ok (.ifnull 32, 3) := by decide +kernel
theorem d_She_sweep_32 : decode b_She_sweep 32 = .ok (.aload_n 3, 1) := by decide +kernel
theorem d_She_sweep_33 : decode b_She_sweep 33 = .ok (.getfield 56, 3) := by decide +kernel
theorem d_She_sweep_36 : decode b_She_sweep 36 = .ok (.ifCond .ne 25, 3) := by decide +kernel
theorem d_She_sweep_39 : decode b_She_sweep 39 = .ok (.aload_n 0, 1) := by decide +kernel
theorem d_She_sweep_40 : decode b_She_sweep 40 = .ok (.getfield 11, 3) := by decide +kernel
theorem d_She_sweep_43 : decode b_She_sweep 43 = .ok (.iload_n 2, 1) := by decide +kernel
theorem d_She_sweep_44 : decode b_She_sweep 44 = .ok (.aload_n 0, 1) := by decide +kernel
theorem d_She_sweep_45 : decode b_She_sweep 45 = .ok (.getfield 11, 3) := by decide +kernel
theorem d_She_sweep_48 : decode b_She_sweep 48 = .ok (.iload_n 1, 1) := by decide +kernel
theorem d_She_sweep_49 : decode b_She_sweep 49 = .ok (.aaload, 1) := by decide +kernel
theorem d_She_sweep_50 : decode b_She_sweep 50 = .ok (.aastore, 1) := by decide +kernel
theorem d_She_sweep_51 : decode b_She_sweep 51 = .ok (.aload_n 0, 1) := by decide +kernel
theorem d_She_sweep_52 : decode b_She_sweep 52 = .ok (.getfield 11, 3) := by decide +kernel
theorem d_She_sweep_55 : decode b_She_sweep 55 = .ok (.iload_n 1, 1) := by decide +kernel
theorem d_She_sweep_56 : decode b_She_sweep 56 = .ok (.aload_n 3, 1) := by decide +kernel
theorem d_She_sweep_57 : decode b_She_sweep 57 = .ok (.aastore, 1) := by decide +kernel
theorem d_She_sweep_58 : decode b_She_sweep 58 = .ok (.iinc 1 1, 3) := by decide +kernel
theorem d_She_sweep_61 : decode b_She_sweep 61 = .ok (.iinc 2 1, 3) := by decide +kernel
theorem d_She_sweep_64 : decode b_She_sweep 64 = .ok (.goto (-60), 3) := by decide +kernel
theorem d_She_sweep_67 : decode b_She_sweep 67 = .ok (.aload_n 0, 1) := by decide +kernel
theorem d_She_sweep_68 : decode b_She_sweep 68 = .ok (.iload_n 1, 1) := by decide +kernel
theorem d_She_sweep_69 : decode b_She_sweep 69 = .ok (.putfield 18, 3) := by decide +kernel
theorem d_She_sweep_72 : decode b_She_sweep 72 = .ok (.return_, 1) := by decide +kernel
theorem d_Sig_init_0 : decode b_Sig_init 0 = .ok (.aload_n 0, 1) := by decide +kernel
theorem d_Sig_init_1 : decode b_Sig_init 1 = .ok (.invokespecial 3, 3) := by decide +kernel
theorem d_Sig_init_4 : decode b_Sig_init 4 = .ok (.aload_n 0, 1) := by decide +kernel
theorem d_Sig_init_5 : decode b_Sig_init 5 = .ok (.new 9, 3) := by decide +kernel
theorem d_Sig_init_8 : decode b_Sig_init 8 = .ok (.dup, 1) := by decide +kernel
theorem d_Sig_init_9 : decode b_Sig_init 9 = .ok (.sipush 200, 3) := by decide +kernel
theorem d_Sig_init_12 : decode b_Sig_init 12 = .ok (.invokespecial 11, 3) := by decide +kernel
theorem d_Sig_init_15 : decode b_Sig_init 15 = .ok (.putfield 14, 3) := by decide +kernel
theorem d_Sig_init_18 : decode b_Sig_init 18 = .ok (.aload_n 0, 1) := by decide +kernel
theorem d_Sig_init_19 : decode b_Sig_init 19 = .ok (.iconst 0, 1) := by decide +kernel
theorem d_Sig_init_20 : decode b_Sig_init 20 = .ok (.putfield 20, 3) := by decide +kernel
theorem d_Sig_init_23 : decode b_Sig_init 23 = .ok (.aload_n 0, 1) := by decide +kernel
theorem d_Sig_init_24 : decode b_Sig_init 24 = .ok (.iconst 0, 1) := by decide +kernel
theorem d_Sig_init_25 : decode b_Sig_init 25 = .ok (.putfield 24, 3) := by decide +kernel
theorem d_Sig_init_28 : decode b_Sig_init 28 = .ok (.return_, 1) := by decide +kernel
theorem d_Sig_holds_0 : decode b_Sig_holds 0 = .ok (.aload_n 0, 1) := by decide +kernel
theorem d_Sig_holds_1 : decode b_Sig_holds 1 = .ok (.getfield 24, 3) := by decide +kernel
theorem d_Sig_holds_4 : decode b_Sig_holds 4 = .ok (.ifCond .ne 17, 3) := by decide +kernel
theorem d_Sig_holds_7 : decode b_Sig_holds 7 = .ok (.aload_n 1, 1) := by decide +kernel
theorem d_Sig_holds_8 : decode b_Sig_holds 8 = .ok (.getfield 28, 3) := by decide +kernel
theorem d_Sig_holds_11 : decode b_Sig_holds 11 = .ok (.aload_n 0, 1) := by decide +kernel
theorem d_Sig_holds_12 : decode b_Sig_holds 12 = .ok (.getfield 14, 3) := by decide +kernel
theorem d_Sig_holds_15 : decode b_Sig_holds 15 = .ok (.getfield 28, 3) := by decide +kernel
theorem d_Sig_holds_18 : decode b_Sig_holds 18 = .ok (.if_icmp .ne 18, 3) := by decide +kernel
theorem d_Sig_holds_21 : decode b_Sig_holds 21 = .ok (.aload_n 1, 1) := by decide +kernel
theorem d_Sig_holds_22 : decode b_Sig_holds 22 = .ok (.aload_n 0, 1) := by decide +kernel
theorem d_Sig_holds_23 : decode b_Sig_holds 23 = .ok (.getfield 14, 3) := by decide +kernel
theorem d_Sig_holds_26 : decode b_Sig_holds 26 = .ok (.invokevirtual 31, 3) := by decide +kernel
theorem d_Sig_holds_29 : decode b_Sig_holds 29 = .ok (.ifCond .eq 7, 3) := by decide +kernel
theorem d_Sig_holds_32 : decode b_Sig_holds 32 = .ok (.iconst 1, 1) := by decide +kernel
theorem d_Sig_holds_33 : decode b_Sig_holds 33 = .ok (.goto 4, 3) := by decide +kernel
theorem d_Sig_holds_36 : decode b_Sig_holds 36 = .ok (.iconst 0, 1) := by decide +kernel
theorem d_Sig_holds_37 : decode b_Sig_holds 37 = .ok (.ireturn, 1) := by decide +kernel
theorem d_Poo_init_0 : decode b_Poo_init 0 = .ok (.aload_n 0, 1) := by decide +kernel
theorem d_Poo_init_1 : decode b_Poo_init 1 = .ok (.invokespecial 3, 3) := by decide +kernel
theorem d_Poo_init_4 : decode b_Poo_init 4 = .ok (.aload_n 0, 1) := by decide +kernel
theorem d_Poo_init_5 : decode b_Poo_init 5 = .ok (.bipush 84, 2) := by decide +kernel
theorem d_Poo_init_7 : decode b_Poo_init 7 = .ok (.anewarray 9, 3) := by decide +kernel
theorem d_Poo_init_10 : decode b_Poo_init 10 = .ok (.putfield 11, 3) := by decide +kernel
theorem d_Poo_init_13 : decode b_Poo_init 13 = .ok (.iconst 0, 1) := by decide +kernel
theorem d_Poo_init_14 : decode b_Poo_init 14 = .ok (.istore_n 1, 1) := by decide +kernel
theorem d_Poo_init_15 : decode b_Poo_init 15 = .ok (.iload_n 1, 1) := by decide +kernel
theorem d_Poo_init_16 : decode b_Poo_init 16 = .ok (.aload_n 0, 1) := by decide +kernel
theorem d_Poo_init_17 : decode b_Poo_init 17 = .ok (.getfield 11, 3) := by decide +kernel
theorem d_Poo_init_20 : decode b_Poo_init 20 = .ok (.arraylength, 1) := by decide +kernel
theorem d_Poo_init_21 : decode b_Poo_init 21 = .ok (.if_icmp .ge 22, 3) := by decide +kernel
theorem d_Poo_init_24 : decode b_Poo_init 24 = .ok (.aload_n 0, 1) := by decide +kernel
theorem d_Poo_init_25 : decode b_Poo_init 25 = .ok (.getfield 11, 3) := by decide +kernel
theorem d_Poo_init_28 : decode b_Poo_init 28 = .ok (.iload_n 1, 1) := by decide +kernel
theorem d_Poo_init_29 : decode b_Poo_init 29 = .ok (.new 9, 3) := by decide +kernel
theorem d_Poo_init_32 : decode b_Poo_init 32 = .ok (.dup, 1) := by decide +kernel
theorem d_Poo_init_33 : decode b_Poo_init 33 = .ok (.invokespecial 17, 3) := by decide +kernel
theorem d_Poo_init_36 : decode b_Poo_init 36 = .ok (.aastore, 1) := by decide +kernel
theorem d_Poo_init_37 : decode b_Poo_init 37 = .ok (.iinc 1 1, 3) := by decide +kernel
theorem d_Poo_init_40 : decode b_Poo_init 40 = .ok (.goto (-25), 3) := by decide +kernel
theorem d_Poo_init_43 : decode b_Poo_init 43 = .ok (.aload_n 0, 1) := by decide +kernel
theorem d_Poo_init_44 : decode b_Poo_init 44 = .ok (.iconst 0, 1) := by decide +kernel
theorem d_Poo_init_45 : decode b_Poo_init 45 = .ok (.putfield 18, 3) := by decide +kernel
theorem d_Poo_init_48 : decode b_Poo_init 48 = .ok (.aload_n 0, 1) := by decide +kernel
theorem d_Poo_init_49 : decode b_Poo_init 49 = .ok (.iconst 1, 1) := by decide +kernel
theorem d_Poo_init_50 : decode b_Poo_init 50 = .ok (.putfield 22, 3) := by decide +kernel
theorem d_Poo_init_53 : decode b_Poo_init 53 = .ok (.return_, 1) := by decide +kernel
theorem d_Poo_innermost_0 : decode b_Poo_innermost 0 = .ok (.aload_n 0, 1) := by decide +kernel
theorem d_Poo_innermost_1 : decode b_Poo_innermost 1 = .ok (.getfield 22, 3) := by decide +kernel
theorem d_Poo_innermost_4 : decode b_Poo_innermost 4 = .ok (.iconst 1, 1) := by decide +kernel
theorem d_Poo_innermost_5 : decode b_Poo_innermost 5 = .ok (.isub, 1) := by decide +kernel
theorem d_Poo_innermost_6 : decode b_Poo_innermost 6 = .ok (.ireturn, 1) := by decide +kernel
theorem d_Poo_enter_0 : decode b_Poo_enter 0 = .ok (.aload_n 0, 1) := by decide +kernel
theorem d_Poo_enter_1 : decode b_Poo_enter 1 = .ok (.dup, 1) := by decide +kernel
theorem d_Poo_enter_2 : decode b_Poo_enter 2 = .ok (.getfield 22, 3) := by decide +kernel
theorem d_Poo_enter_5 : decode b_Poo_enter 5 = .ok (.iconst 1, 1) := by decide +kernel
theorem d_Poo_enter_6 : decode b_Poo_enter 6 = .ok (.iadd, 1) := by decide +kernel
theorem d_Poo_enter_7 : decode b_Poo_enter 7 = .ok (.putfield 22, 3) := by decide +kernel
theorem d_Poo_enter_10 : decode b_Poo_enter 10 = .ok (.return_, 1) := by decide +kernel
theorem d_Poo_leave_0 : decode b_Poo_leave 0 = .ok (.aload_n 0, 1) := by decide +kernel
theorem d_Poo_leave_1 : decode b_Poo_leave 1 = .ok (.dup, 1) := by decide +kernel
theorem d_Poo_leave_2 : decode b_Poo_leave 2 = .ok (.getfield 18, 3) := by decide +kernel
theorem d_Poo_leave_5 : decode b_Poo_leave 5 = .ok (.aload_n 0, 1) := by decide +kernel
theorem d_Poo_leave_6 : decode b_Poo_leave 6 = .ok (.invokevirtual 25, 3) := by decide +kernel
theorem d_Poo_leave_9 : decode b_Poo_leave 9 = .ok (.isub, 1) := by decide +kernel
theorem d_Poo_leave_10 : decode b_Poo_leave 10 = .ok (.putfield 18, 3) := by decide +kernel
theorem d_Poo_leave_13 : decode b_Poo_leave 13 = .ok (.aload_n 0, 1) := by decide +kernel
theorem d_Poo_leave_14 : decode b_Poo_leave 14 = .ok (.dup, 1) := by decide +kernel
theorem d_Poo_leave_15 : decode b_Poo_leave 15 = .ok (.getfield 22, 3) := by decide +kernel
theorem d_Poo_leave_18 : decode b_Poo_leave 18 = .ok (.iconst 1, 1) := by decide +kernel
theorem d_Poo_leave_19 : decode b_Poo_leave 19 = .ok (.isub, 1) := by decide +kernel
theorem d_Poo_leave_20 : decode b_Poo_leave 20 = .ok (.putfield 22, 3) := by decide +kernel
theorem d_Poo_leave_23 : decode b_Poo_leave 23 = .ok (.return_, 1) := by decide +kernel
theorem d_Poo_owner_0 : decode b_Poo_owner 0 = .ok (.iload_n 2, 1) := by decide +kernel
theorem d_Poo_owner_1 : decode b_Poo_owner 1 = .ok (.istore_n 3, 1) := by decide +kernel
theorem d_Poo_owner_2 : decode b_Poo_owner 2 = .ok (.aload_n 0, 1) := by decide +kernel
theorem d_Poo_owner_3 : decode b_Poo_owner 3 = .ok (.getfield 18, 3) := by decide +kernel
theorem d_Poo_owner_6 : decode b_Poo_owner 6 = .ok (.aload_n 0, 1) := by decide +kernel
theorem d_Poo_owner_7 : decode b_Poo_owner 7 = .ok (.getfield 11, 3) := by decide +kernel
theorem d_Poo_owner_10 : decode b_Poo_owner 10 = .ok (.arraylength, 1) := by decide +kernel
theorem d_Poo_owner_11 : decode b_Poo_owner 11 = .ok (.invokestatic 29, 3) := by decide +kernel
theorem d_Poo_owner_14 : decode b_Poo_owner 14 = .ok (.iconst 1, 1) := by decide +kernel
theorem d_Poo_owner_15 : decode b_Poo_owner 15 = .ok (.isub, 1) := by decide +kernel
theorem d_Poo_owner_16 : decode b_Poo_owner 16 = .ok (.istore 4, 2) := by decide +kernel
theorem d_Poo_owner_18 : decode b_Poo_owner 18 = .ok (.iload 4, 2) := by decide +kernel
theorem d_Poo_owner_20 : decode b_Poo_owner 20 = .ok (.ifCond .lt 44, 3) := by decide +kernel
theorem d_Poo_owner_23 : decode b_Poo_owner 23 = .ok (.aload_n 0, 1) := by decide +kernel
theorem d_Poo_owner_24 : decode b_Poo_owner 24 = .ok (.getfield 11, 3) := by decide +kernel
theorem d_Poo_owner_27 : decode b_Poo_owner 27 = .ok (.iload 4, 2) := by decide +kernel
theorem d_Poo_owner_29 : decode b_Poo_owner 29 = .ok (.aaload, 1) := by decide +kernel
theorem d_Poo_owner_30 : decode b_Poo_owner 30 = .ok (.astore 5, 2) := by decide +kernel
theorem d_Poo_owner_32 : decode b_Poo_owner 32 = .ok (.aload 5, 2) := by decide +kernel
theorem d_Poo_owner_34 : decode b_Poo_owner 34 = .ok (.ifnull 24, 3) := by decide +kernel
theorem d_Poo_owner_37 : decode b_Poo_owner 37 = .ok (.aload 5, 2) := by decide +kernel
theorem d_Poo_owner_39 : decode b_Poo_owner 39 = .ok (.getfield 35, 3) := by decide +kernel
theorem d_Poo_owner_42 : decode b_Poo_owner 42 = .ok (.iload_n 3, 1) := by decide +kernel
theorem d_Poo_owner_43 : decode b_Poo_owner 43 = .ok (.if_icmp .ne 15, 3) := by decide +kernel
theorem d_Poo_owner_46 : decode b_Poo_owner 46 = .ok (.aload 5, 2) := by decide +kernel
theorem d_Poo_owner_48 : decode b_Poo_owner 48 = .ok (.aload_n 1, 1) := by decide +kernel
theorem d_Poo_owner_49 : decode b_Poo_owner 49 = .ok (.invokevirtual 38, 3) := by decide +kernel
theorem d_Poo_owner_52 : decode b_Poo_owner 52 = .ok (.ifCond .eq 6, 3) := by decide +kernel
theorem d_Poo_owner_55 : decode b_Poo_owner 55 = .ok (.iinc 3 (-1), 3) := by decide +kernel
theorem d_Poo_owner_58 : decode b_Poo_owner 58 = .ok (.iinc 4 (-1), 3) := by decide +kernel
theorem d_Poo_owner_61 : decode b_Poo_owner 61 = .ok (.goto (-43), 3) := by decide +kernel
theorem d_Poo_owner_64 : decode b_Poo_owner 64 = .ok (.iload_n 3, 1) := by decide +kernel
theorem d_Poo_owner_65 : decode b_Poo_owner 65 = .ok (.ireturn, 1) := by decide +kernel
theorem d_Poo_see_0 : decode b_Poo_see 0 = .ok (.aload_n 0, 1) := by decide +kernel
theorem d_Poo_see_1 : decode b_Poo_see 1 = .ok (.aload_n 1, 1) := by decide +kernel
theorem d_Poo_see_2 : decode b_Poo_see 2 = .ok (.invokevirtual 42, 3) := by decide +kernel
theorem d_Poo_see_5 : decode b_Poo_see 5 = .ok (.ifCond .ne 22, 3) := by decide +kernel
theorem d_Poo_see_8 : decode b_Poo_see 8 = .ok (.aload_n 0, 1) := by decide +kernel
theorem d_Poo_see_9 : decode b_Poo_see 9 = .ok (.getfield 18, 3) := by decide +kernel
theorem d_Poo_see_12 : decode b_Poo_see 12 = .ok (.ifCond .lt 15, 3) := by decide +kernel
theorem d_Poo_see_15 : decode b_Poo_see 15 = .ok (.aload_n 0, 1) := by decide +kernel
theorem d_Poo_see_16 : decode b_Poo_see 16 = .ok (.getfield 18, 3) := by decide +kernel
theorem d_Poo_see_19 : decode b_Poo_see 19 = .ok (.aload_n 0, 1) := by decide +kernel
theorem d_Poo_see_20 : decode b_Poo_see 20 = .ok (.getfield 11, 3) := by decide +kernel
theorem d_Poo_see_23 : decode b_Poo_see 23 = .ok (.arraylength, 1) := by decide +kernel
theorem d_Poo_see_24 : decode b_Poo_see 24 = .ok (.if_icmp .lt 4, 3) := by decide +kernel
theorem d_Poo_see_27 : decode b_Poo_see 27 = .ok (.return_, 1) := by decide +kernel
theorem d_Poo_see_28 : decode b_Poo_see 28 = .ok (.aload_n 0, 1) := by decide +kernel
theorem d_Poo_see_29 : decode b_Poo_see 29 = .ok (.getfield 11, 3) := by decide +kernel
theorem d_Poo_see_32 : decode b_Poo_see 32 = .ok (.aload_n 0, 1) := by decide +kernel
theorem d_Poo_see_33 : decode b_Poo_see 33 = .ok (.getfield 18, 3) := by decide +kernel
theorem d_Poo_see_36 : decode b_Poo_see 36 = .ok (.aaload, 1) := by decide +kernel
theorem d_Poo_see_37 : decode b_Poo_see 37 = .ok (.astore_n 2, 1) := by decide +kernel
theorem d_Poo_see_38 : decode b_Poo_see 38 = .ok (.aload_n 2, 1) := by decide +kernel
theorem d_Poo_see_39 : decode b_Poo_see 39 = .ok (.ifnull 37, 3) := by decide +kernel
theorem d_Poo_see_42 : decode b_Poo_see 42 = .ok (.aload_n 2, 1) := by decide +kernel
theorem d_Poo_see_43 : decode b_Poo_see 43 = .ok (.getfield 45, 3) := by decide +kernel
theorem d_Poo_see_46 : decode b_Poo_see 46 = .ok (.aload_n 1, 1) := by decide +kernel
theorem d_Poo_see_47 : decode b_Poo_see 47 = .ok (.invokevirtual 49, 3) := by decide +kernel
theorem d_Poo_see_50 : decode b_Poo_see 50 = .ok (.aload_n 2, 1) := by decide +kernel
theorem d_Poo_see_51 : decode b_Poo_see 51 = .ok (.aload_n 0, 1) := by decide +kernel
theorem d_Poo_see_52 : decode b_Poo_see 52 = .ok (.invokevirtual 55, 3) := by decide +kernel
theorem d_Poo_see_55 : decode b_Poo_see 55 = .ok (.putfield 35, 3) := by decide +kernel
theorem d_Poo_see_58 : decode b_Poo_see 58 = .ok (.aload_n 2, 1) := by decide +kernel
theorem d_Poo_see_59 : decode b_Poo_see 59 = .ok (.aload_n 1, 1) := by decide +kernel
theorem d_Poo_see_60 : decode b_Poo_see 60 = .ok (.invokevirtual 58, 3) := by decide +kernel
theorem d_Poo_see_63 : decode b_Poo_see 63 = .ok (.putfield 62, 3) := by decide +kernel
theorem d_Poo_see_66 : decode b_Poo_see 66 = .ok (.aload_n 0, 1) := by decide +kernel
theorem d_Poo_see_67 : decode b_Poo_see 67 = .ok (.dup, 1) := by decide +kernel
theorem d_Poo_see_68 : decode b_Poo_see 68 = .ok (.getfield 18, 3) := by decide +kernel
theorem d_Poo_see_71 : decode b_Poo_see 71 = .ok (.iconst 1, 1) := by decide +kernel
theorem d_Poo_see_72 : decode b_Poo_see 72 = .ok (.iadd, 1) := by decide +kernel
theorem d_Poo_see_73 : decode b_Poo_see 73 = .ok (.putfield 18, 3) := by decide +kernel
theorem d_Poo_see_76 : decode b_Poo_see 76 = .ok (.return_, 1) := by decide +kernel
theorem d_Poo_sees_0 : decode b_Poo_sees 0 = .ok (.iconst 0, 1) := by decide +kernel
theorem d_Poo_sees_1 : decode b_Poo_sees 1 = .ok (.istore_n 2, 1) := by decide +kernel
theorem d_Poo_sees_2 : decode b_Poo_sees 2 = .ok (.iload_n 2, 1) := by decide +kernel
theorem d_Poo_sees_3 : decode b_Poo_sees 3 = .ok (.aload_n 0, 1) := by decide +kernel
theorem d_Poo_sees_4 : decode b_Poo_sees 4 = .ok (.getfield 18, 3) := by decide +kernel
theorem d_Poo_sees_7 : decode b_Poo_sees 7 = .ok (.if_icmp .ge 67, 3) := by decide +kernel
theorem d_Poo_sees_10 : decode b_Poo_sees 10 = .ok (.iload_n 2, 1) := by decide +kernel
theorem d_Poo_sees_11 : decode b_Poo_sees 11 = .ok (.aload_n 0, 1) := by decide +kernel
theorem d_Poo_sees_12 : decode b_Poo_sees 12 = .ok (.getfield 11, 3) := by decide +kernel
theorem d_Poo_sees_15 : decode b_Poo_sees 15 = .ok (.arraylength, 1) := by decide +kernel
theorem d_Poo_sees_16 : decode b_Poo_sees 16 = .ok (.if_icmp .ge 58, 3) := by decide +kernel
theorem d_Poo_sees_19 : decode b_Poo_sees 19 = .ok (.aload_n 0, 1) := by decide +kernel
theorem d_Poo_sees_20 : decode b_Poo_sees 20 = .ok (.getfield 11, 3) := by decide +kernel
theorem d_Poo_sees_23 : decode b_Poo_sees 23 = .ok (.iload_n 2, 1) := by decide +kernel
theorem d_Poo_sees_24 : decode b_Poo_sees 24 = .ok (.aaload, 1) := by decide +kernel
theorem d_Poo_sees_25 : decode b_Poo_sees 25 = .ok (.astore_n 3, 1) := by decide +kernel
theorem d_Poo_sees_26 : decode b_Poo_sees 26 = .ok (.aload_n 3, 1) := by decide +kernel
theorem d_Poo_sees_27 : decode b_Poo_sees 27 = .ok (.ifnull 41, 3) := by decide +kernel
theorem d_Poo_sees_30 : decode b_Poo_sees 30 = .ok (.aload_n 3, 1) := by decide +kernel
theorem d_Poo_sees_31 : decode b_Poo_sees 31 = .ok (.getfield 35, 3) := by decide +kernel
theorem d_Poo_sees_34 : decode b_Poo_sees 34 = .ok (.aload_n 0, 1) := by decide +kernel
theorem d_Poo_sees_35 : decode b_Poo_sees 35 = .ok (.invokevirtual 55, 3) := by decide +kernel
theorem d_Poo_sees_38 : decode b_Poo_sees 38 = .ok (.if_icmp .ne 30, 3) := by decide +kernel
theorem d_Poo_sees_41 : decode b_Poo_sees 41 = .ok (.aload_n 3, 1) := by decide +kernel
theorem d_Poo_sees_42 : decode b_Poo_sees 42 = .ok (.getfield 45, 3) := by decide +kernel
theorem d_Poo_sees_45 : decode b_Poo_sees 45 = .ok (.getfield 66, 3) := by decide +kernel
theorem d_Poo_sees_48 : decode b_Poo_sees 48 = .ok (.aload_n 1, 1) := by decide +kernel
theorem d_Poo_sees_49 : decode b_Poo_sees 49 = .ok (.getfield 66, 3) := by decide +kernel
theorem d_Poo_sees_52 : decode b_Poo_sees 52 = .ok (.if_icmp .ne 16, 3) := by decide +kernel
theorem d_Poo_sees_55 : decode b_Poo_sees 55 = .ok (.aload_n 3, 1) := by decide +kernel
theorem d_Poo_sees_56 : decode b_Poo_sees 56 = .ok (.getfield 45, 3) := by decide +kernel
theorem d_Poo_sees_59 : decode b_Poo_sees 59 = .ok (.aload_n 1, 1) := by decide +kernel
theorem d_Poo_sees_60 : decode b_Poo_sees 60 = .ok (.invokevirtual 69, 3) := by decide +kernel
theorem d_Poo_sees_63 : decode b_Poo_sees 63 = .ok (.ifCond .eq 5, 3) := by decide +kernel
theorem d_Poo_sees_66 : decode b_Poo_sees 66 = .ok (.iconst 1, 1) := by decide +kernel
theorem d_Poo_sees_67 : decode b_Poo_sees 67 = .ok (.ireturn, 1) := by decide +kernel
theorem d_Poo_sees_68 : decode b_Poo_sees 68 = .ok (.iinc 2 1, 3) := by decide +kernel
theorem d_Poo_sees_71 : decode b_Poo_sees 71 = .ok (.goto (-69), 3) := by decide +kernel
theorem d_Poo_sees_74 : decode b_Poo_sees 74 = .ok (.iconst 0, 1) := by decide +kernel
theorem d_Poo_sees_75 : decode b_Poo_sees 75 = .ok (.ireturn, 1) := by decide +kernel
theorem d_Poo_seenByInnermost_0 : decode b_Poo_seenByInnermost 0 = .ok (.iconst 0, 1) := by decide +kernel
theorem d_Poo_seenByInnermost_1 : decode b_Poo_seenByInnermost 1 = .ok (.istore_n 1, 1) := by decide +kernel
theorem d_Poo_seenByInnermost_2 : decode b_Poo_seenByInnermost 2 = .ok (.iconst 0, 1) := by decide +kernel
theorem d_Poo_seenByInnermost_3 : decode b_Poo_seenByInnermost 3 = .ok (.istore_n 2, 1) := by decide +kernel
theorem d_Poo_seenByInnermost_4 : decode b_Poo_seenByInnermost 4 = .ok (.iload_n 2, 1) := by decide +kernel
theorem d_Poo_seenByInnermost_5 : decode b_Poo_seenByInnermost 5 = .ok (.aload_n 0, 1) := by decide +kernel
theorem d_Poo_seenByInnermost_6 : decode b_Poo_seenByInnermost 6 = .ok (.getfield 18, 3) := by decide +kernel
theorem d_Poo_seenByInnermost_9 : decode b_Poo_seenByInnermost 9 = .ok (.if_icmp .ge 43, 3) := by decide +kernel
theorem d_Poo_seenByInnermost_12 : decode b_Poo_seenByInnermost 12 = .ok (.iload_n 2, 1) := by decide +kernel
theorem d_Poo_seenByInnermost_13 : decode b_Poo_seenByInnermost 13 = .ok (.aload_n 0, 1) := by decide +kernel
theorem d_Poo_seenByInnermost_14 : decode b_Poo_seenByInnermost 14 = .ok (.getfield 11, 3) := by decide +kernel
theorem d_Poo_seenByInnermost_17 : decode b_Poo_seenByInnermost 17 = .ok (.arraylength, 1) := by decide +kernel
theorem d_Poo_seenByInnermost_18 : decode b_Poo_seenByInnermost 18 = .ok (.if_icmp .ge 34, 3) := by decide +kernel
theorem d_Poo_seenByInnermost_21 : decode b_Poo_seenByInnermost 21 = .ok (.aload_n 0, 1) := by decide +kernel
theorem d_Poo_seenByInnermost_22 : decode b_Poo_seenByInnermost 22 = .ok (.getfield 11, 3) := by decide +kernel
theorem d_Poo_seenByInnermost_25 : decode b_Poo_seenByInnermost 25 = .ok (.iload_n 2, 1) := by decide +kernel
theorem d_Poo_seenByInnermost_26 : decode b_Poo_seenByInnermost 26 = .ok (.aaload, 1) := by decide +kernel
theorem d_Poo_seenByInnermost_27 : decode b_Poo_seenByInnermost 27 = .ok (.astore_n 3, 1) := by decide +kernel
theorem d_Poo_seenByInnermost_28 : decode b_Poo_seenByInnermost 28 = .ok (.aload_n 3, 1) := by decide +kernel
theorem d_Poo_seenByInnermost_29 : decode b_Poo_seenByInnermost 29 = .ok (.ifnull 17, 3) := by decide +kernel
theorem d_Poo_seenByInnermost_32 : decode b_Poo_seenByInnermost 32 = .ok (.aload_n 3, 1) := by decide +kernel
theorem d_Poo_seenByInnermost_33 : decode b_Poo_seenByInnermost 33 = .ok (.getfield 35, 3) := by decide +kernel
theorem d_Poo_seenByInnermost_36 : decode b_Poo_seenByInnermost 36 = .ok (.aload_n 0, 1) := by decide +kernel
theorem d_Poo_seenByInnermost_37 : decode b_Poo_seenByInnermost 37 = .ok (.invokevirtual 55, 3) := by decide +kernel
theorem d_Poo_seenByInnermost_40 : decode b_Poo_seenByInnermost 40 = .ok (.if_icmp .ne 6, 3) := by decide +kernel
theorem d_Poo_seenByInnermost_43 : decode b_Poo_seenByInnermost 43 = .ok (.iinc 1 1, 3) := by decide +kernel
theorem d_Poo_seenByInnermost_46 : decode b_Poo_seenByInnermost 46 = .ok (.iinc 2 1, 3) := by decide +kernel
theorem d_Poo_seenByInnermost_49 : decode b_Poo_seenByInnermost 49 = .ok (.goto (-45), 3) := by decide +kernel
theorem d_Poo_seenByInnermost_52 : decode b_Poo_seenByInnermost 52 = .ok (.iload_n 1, 1) := by decide +kernel
theorem d_Poo_seenByInnermost_53 : decode b_Poo_seenByInnermost 53 = .ok (.ireturn, 1) := by decide +kernel
theorem d_Rea_init_0 : decode b_Rea_init 0 = .ok (.aload_n 0, 1) := by decide +kernel
theorem d_Rea_init_1 : decode b_Rea_init 1 = .ok (.invokespecial 3, 3) := by decide +kernel
theorem d_Rea_init_4 : decode b_Rea_init 4 = .ok (.aload_n 0, 1) := by decide +kernel
theorem d_Rea_init_5 : decode b_Rea_init 5 = .ok (.new 9, 3) := by decide +kernel
theorem d_Rea_init_8 : decode b_Rea_init 8 = .ok (.dup, 1) := by decide +kernel
theorem d_Rea_init_9 : decode b_Rea_init 9 = .ok (.sipush 600, 3) := by decide +kernel
theorem d_Rea_init_12 : decode b_Rea_init 12 = .ok (.invokespecial 11, 3) := by decide +kernel
theorem d_Rea_init_15 : decode b_Rea_init 15 = .ok (.putfield 14, 3) := by decide +kernel
theorem d_Rea_init_18 : decode b_Rea_init 18 = .ok (.aload_n 0, 1) := by decide +kernel
theorem d_Rea_init_19 : decode b_Rea_init 19 = .ok (.sipush 600, 3) := by decide +kernel
theorem d_Rea_init_22 : decode b_Rea_init 22 = .ok (.newarray .int, 2) := by decide +kernel
theorem d_Rea_init_24 : decode b_Rea_init 24 = .ok (.putfield 20, 3) := by decide +kernel
theorem d_Rea_init_27 : decode b_Rea_init 27 = .ok (.aload_n 0, 1) := by decide +kernel
theorem d_Rea_init_28 : decode b_Rea_init 28 = .ok (.sipush 600, 3) := by decide +kernel
theorem d_Rea_init_31 : decode b_Rea_init 31 = .ok (.newarray .int, 2) := by decide +kernel
theorem d_Rea_init_33 : decode b_Rea_init 33 = .ok (.putfield 24, 3) := by decide +kernel
theorem d_Rea_init_36 : decode b_Rea_init 36 = .ok (.aload_n 0, 1) := by decide +kernel
theorem d_Rea_init_37 : decode b_Rea_init 37 = .ok (.sipush 600, 3) := by decide +kernel
theorem d_Rea_init_40 : decode b_Rea_init 40 = .ok (.newarray .int, 2) := by decide +kernel
theorem d_Rea_init_42 : decode b_Rea_init 42 = .ok (.putfield 27, 3) := by decide +kernel
theorem d_Rea_init_45 : decode b_Rea_init 45 = .ok (.aload_n 0, 1) := by decide +kernel
theorem d_Rea_init_46 : decode b_Rea_init 46 = .ok (.iconst 0, 1) := by decide +kernel
theorem d_Rea_init_47 : decode b_Rea_init 47 = .ok (.putfield 30, 3) := by decide +kernel
theorem d_Rea_init_50 : decode b_Rea_init 50 = .ok (.aload_n 0, 1) := by decide +kernel
theorem d_Rea_init_51 : decode b_Rea_init 51 = .ok (.iconst 0, 1) := by decide +kernel
theorem d_Rea_init_52 : decode b_Rea_init 52 = .ok (.putfield 34, 3) := by decide +kernel
theorem d_Rea_init_55 : decode b_Rea_init 55 = .ok (.aload_n 0, 1) := by decide +kernel
theorem d_Rea_init_56 : decode b_Rea_init 56 = .ok (.iconst 0, 1) := by decide +kernel
theorem d_Rea_init_57 : decode b_Rea_init 57 = .ok (.putfield 37, 3) := by decide +kernel
theorem d_Rea_init_60 : decode b_Rea_init 60 = .ok (.aload_n 0, 1) := by decide +kernel
theorem d_Rea_init_61 : decode b_Rea_init 61 = .ok (.iconst 0, 1) := by decide +kernel
theorem d_Rea_init_62 : decode b_Rea_init 62 = .ok (.putfield 40, 3) := by decide +kernel
theorem d_Rea_init_65 : decode b_Rea_init 65 = .ok (.return_, 1) := by decide +kernel
theorem d_Rea_begin_0 : decode b_Rea_begin 0 = .ok (.aload_n 0, 1) := by decide +kernel
theorem d_Rea_begin_1 : decode b_Rea_begin 1 = .ok (.iconst 0, 1) := by decide +kernel
theorem d_Rea_begin_2 : decode b_Rea_begin 2 = .ok (.putfield 30, 3) := by decide +kernel
theorem d_Rea_begin_5 : decode b_Rea_begin 5 = .ok (.aload_n 0, 1) := by decide +kernel
theorem d_Rea_begin_6 : decode b_Rea_begin 6 = .ok (.iconst 0, 1) := by decide +kernel
theorem d_Rea_begin_7 : decode b_Rea_begin 7 = .ok (.putfield 34, 3) := by decide +kernel
theorem d_Rea_begin_10 : decode b_Rea_begin 10 = .ok (.aload_n 0, 1) := by decide +kernel
theorem d_Rea_begin_11 : decode b_Rea_begin 11 = .ok (.iconst 0, 1) := by decide +kernel
theorem d_Rea_begin_12 : decode b_Rea_begin 12 = .ok (.putfield 37, 3) := by decide +kernel
theorem d_Rea_begin_15 : decode b_Rea_begin 15 = .ok (.aload_n 0, 1) := by decide +kernel
theorem d_Rea_begin_16 : decode b_Rea_begin 16 = .ok (.iconst 0, 1) := by decide +kernel
theorem d_Rea_begin_17 : decode b_Rea_begin 17 = .ok (.putfield 40, 3) := by decide +kernel
theorem d_Rea_begin_20 : decode b_Rea_begin 20 = .ok (.return_, 1) := by decide +kernel
theorem d_Rea_isTarget_0 : decode b_Rea_isTarget 0 = .ok (.aload_n 0, 1) := by decide +kernel
theorem d_Rea_isTarget_1 : decode b_Rea_isTarget 1 = .ok (.iload_n 1, 1) := by decide +kernel
theorem d_Rea_isTarget_2 : decode b_Rea_isTarget 2 = .ok (.invokevirtual 43, 3) := by decide +kernel
theorem d_Rea_isTarget_5 : decode b_Rea_isTarget 5 = .ok (.istore_n 2, 1) := by decide +kernel
theorem d_Rea_isTarget_6 : decode b_Rea_isTarget 6 = .ok (.iload_n 2, 1) := by decide +kernel
theorem d_Rea_isTarget_7 : decode b_Rea_isTarget 7 = .ok (.iconst 1, 1) := by decide +kernel
theorem d_Rea_isTarget_8 : decode b_Rea_isTarget 8 = .ok (.if_icmp .eq 8, 3) := by decide +kernel
theorem d_Rea_isTarget_11 : decode b_Rea_isTarget 11 = .ok (.iload_n 2, 1) := by decide +kernel
theorem d_Rea_isTarget_12 : decode b_Rea_isTarget 12 = .ok (.iconst 2, 1) := by decide +kernel
theorem d_Rea_isTarget_13 : decode b_Rea_isTarget 13 = .ok (.if_icmp .ne 7, 3) := by decide +kernel
theorem d_Rea_isTarget_16 : decode b_Rea_isTarget 16 = .ok (.iconst 1, 1) := by decide +kernel
theorem d_Rea_isTarget_17 : decode b_Rea_isTarget 17 = .ok (.goto 4, 3) := by decide +kernel
theorem d_Rea_isTarget_20 : decode b_Rea_isTarget 20 = .ok (.iconst 0, 1) := by decide +kernel
theorem d_Rea_isTarget_21 : decode b_Rea_isTarget 21 = .ok (.ireturn, 1) := by decide +kernel
theorem d_Rea_kindOf_0 : decode b_Rea_kindOf 0 = .ok (.iload_n 1, 1) := by decide +kernel
theorem d_Rea_kindOf_1 : decode b_Rea_kindOf 1 = .ok (.ifCond .lt 29, 3) := by decide +kernel
theorem d_Rea_kindOf_4 : decode b_Rea_kindOf 4 = .ok (.iload_n 1, 1) := by decide +kernel
theorem d_Rea_kindOf_5 : decode b_Rea_kindOf 5 = .ok (.aload_n 0, 1) := by decide +kernel
theorem d_Rea_kindOf_6 : decode b_Rea_kindOf 6 = .ok (.getfield 30, 3) := by decide +kernel
theorem d_Rea_kindOf_9 : decode b_Rea_kindOf 9 = .ok (.if_icmp .ge 21, 3) := by decide +kernel
theorem d_Rea_kindOf_12 : decode b_Rea_kindOf 12 = .ok (.iload_n 1, 1) := by decide +kernel
theorem d_Rea_kindOf_13 : decode b_Rea_kindOf 13 = .ok (.aload_n 0, 1) := by decide +kernel
theorem d_Rea_kindOf_14 : decode b_Rea_kindOf 14 = .ok (.getfield 20, 3) := by decide +kernel
theorem d_Rea_kindOf_17 : decode b_Rea_kindOf 17 = .ok (.arraylength, 1) := by decide +kernel
theorem d_Rea_kindOf_18 : decode b_Rea_kindOf 18 = .ok (.if_icmp .ge 12, 3) := by decide +kernel
theorem d_Rea_kindOf_21 : decode b_Rea_kindOf 21 = .ok (.aload_n 0, 1) := by decide +kernel
theorem d_Rea_kindOf_22 : decode b_Rea_kindOf 22 = .ok (.getfield 20, 3) := by decide +kernel
theorem d_Rea_kindOf_25 : decode b_Rea_kindOf 25 = .ok (.iload_n 1, 1) := by decide +kernel
theorem d_Rea_kindOf_26 : decode b_Rea_kindOf 26 = .ok (.iaload, 1) := by decide +kernel
theorem d_Rea_kindOf_27 : decode b_Rea_kindOf 27 = .ok (.goto 4, 3) := by decide +kernel
theorem d_Rea_kindOf_30 : decode b_Rea_kindOf 30 = .ok (.iconst 0, 1) := by decide +kernel
theorem d_Rea_kindOf_31 : decode b_Rea_kindOf 31 = .ok (.ireturn, 1) := by decide +kernel
theorem d_Rea_startOf_0 : decode b_Rea_startOf 0 = .ok (.iload_n 1, 1) := by decide +kernel
theorem d_Rea_startOf_1 : decode b_Rea_startOf 1 = .ok (.ifCond .lt 29, 3) := by decide +kernel
theorem d_Rea_startOf_4 : decode b_Rea_startOf 4 = .ok (.iload_n 1, 1) := by decide +kernel
theorem d_Rea_startOf_5 : decode b_Rea_startOf 5 = .ok (.aload_n 0, 1) := by decide +kernel
theorem d_Rea_startOf_6 : decode b_Rea_startOf 6 = .ok (.getfield 30, 3) := by decide +kernel
theorem d_Rea_startOf_9 : decode b_Rea_startOf 9 = .ok (.if_icmp .ge 21, 3) := by decide +kernel
theorem d_Rea_startOf_12 : decode b_Rea_startOf 12 = .ok (.iload_n 1, 1) := by decide +kernel
theorem d_Rea_startOf_13 : decode b_Rea_startOf 13 = .ok (.aload_n 0, 1) := by decide +kernel
theorem d_Rea_startOf_14 : decode b_Rea_startOf 14 = .ok (.getfield 24, 3) := by decide +kernel
theorem d_Rea_startOf_17 : decode b_Rea_startOf 17 = .ok (.arraylength, 1) := by decide +kernel
theorem d_Rea_startOf_18 : decode b_Rea_startOf 18 = .ok (.if_icmp .ge 12, 3) := by decide +kernel
theorem d_Rea_startOf_21 : decode b_Rea_startOf 21 = .ok (.aload_n 0, 1) := by decide +kernel
theorem d_Rea_startOf_22 : decode b_Rea_startOf 22 = .ok (.getfield 24, 3) := by decide +kernel
theorem d_Rea_startOf_25 : decode b_Rea_startOf 25 = .ok (.iload_n 1, 1) := by decide +kernel
theorem d_Rea_startOf_26 : decode b_Rea_startOf 26 = .ok (.iaload, 1) := by decide +kernel
theorem d_Rea_startOf_27 : decode b_Rea_startOf 27 = .ok (.goto 4, 3) := by decide +kernel
theorem d_Rea_startOf_30 : decode b_Rea_startOf 30 = .ok (.iconst 0, 1) := by decide +kernel
theorem d_Rea_startOf_31 : decode b_Rea_startOf 31 = .ok (.ireturn, 1) := by decide +kernel
theorem d_Rea_stopOf_0 : decode b_Rea_stopOf 0 = .ok (.iload_n 1, 1) := by decide +kernel
theorem d_Rea_stopOf_1 : decode b_Rea_stopOf 1 = .ok (.ifCond .lt 29, 3) := by decide +kernel
theorem d_Rea_stopOf_4 : decode b_Rea_stopOf 4 = .ok (.iload_n 1, 1) := by decide +kernel
theorem d_Rea_stopOf_5 : decode b_Rea_stopOf 5 = .ok (.aload_n 0, 1) := by decide +kernel
theorem d_Rea_stopOf_6 : decode b_Rea_stopOf 6 = .ok (.getfield 30, 3) := by decide +kernel
theorem d_Rea_stopOf_9 : decode b_Rea_stopOf 9 = .ok (.if_icmp .ge 21, 3) := by decide +kernel
theorem d_Rea_stopOf_12 : decode b_Rea_stopOf 12 = .ok (.iload_n 1, 1) := by decide +kernel
theorem d_Rea_stopOf_13 : decode b_Rea_stopOf 13 = .ok (.aload_n 0, 1) := by decide +kernel
theorem d_Rea_stopOf_14 : decode b_Rea_stopOf 14 = .ok (.getfield 27, 3) := by decide +kernel
theorem d_Rea_stopOf_17 : decode b_Rea_stopOf 17 = .ok (.arraylength, 1) := by decide +kernel
theorem d_Rea_stopOf_18 : decode b_Rea_stopOf 18 = .ok (.if_icmp .ge 12, 3) := by decide +kernel
theorem d_Rea_stopOf_21 : decode b_Rea_stopOf 21 = .ok (.aload_n 0, 1) := by decide +kernel
theorem d_Rea_stopOf_22 : decode b_Rea_stopOf 22 = .ok (.getfield 27, 3) := by decide +kernel
theorem d_Rea_stopOf_25 : decode b_Rea_stopOf 25 = .ok (.iload_n 1, 1) := by decide +kernel
theorem d_Rea_stopOf_26 : decode b_Rea_stopOf 26 = .ok (.iaload, 1) := by decide +kernel
theorem d_Rea_stopOf_27 : decode b_Rea_stopOf 27 = .ok (.goto 4, 3) := by decide +kernel
theorem d_Rea_stopOf_30 : decode b_Rea_stopOf 30 = .ok (.iconst 0, 1) := by decide +kernel
theorem d_Rea_stopOf_31 : decode b_Rea_stopOf 31 = .ok (.ireturn, 1) := by decide +kernel
theorem d_Rea_numberOf_0 : decode b_Rea_numberOf 0 = .ok (.iconst 0, 1) := by decide +kernel
theorem d_Rea_numberOf_1 : decode b_Rea_numberOf 1 = .ok (.istore_n 2, 1) := by decide +kernel
theorem d_Rea_numberOf_2 : decode b_Rea_numberOf 2 = .ok (.aload_n 0, 1) := by decide +kernel
theorem d_Rea_numberOf_3 : decode b_Rea_numberOf 3 = .ok (.iload_n 1, 1) := by decide +kernel
theorem d_Rea_numberOf_4 : decode b_Rea_numberOf 4 = .ok (.invokevirtual 47, 3) := by decide +kernel
theorem d_Rea_numberOf_7 : decode b_Rea_numberOf 7 = .ok (.istore_n 3, 1) := by decide +kernel
theorem d_Rea_numberOf_8 : decode b_Rea_numberOf 8 = .ok (.iload_n 3, 1) := by decide +kernel
theorem d_Rea_numberOf_9 : decode b_Rea_numberOf 9 = .ok (.aload_n 0, 1) := by decide +kernel
theorem d_Rea_numberOf_10 : decode b_Rea_numberOf 10 = .ok (.iload_n 1, 1) := by decide +kernel
theorem d_Rea_numberOf_11 : decode b_Rea_numberOf 11 = .ok (.invokevirtual 50, 3) := by decide +kernel
theorem d_Rea_numberOf_14 : decode b_Rea_numberOf 14 = .ok (.if_icmp .ge 26, 3) := by decide +kernel
theorem d_Rea_numberOf_17 : decode b_Rea_numberOf 17 = .ok (.iload_n 2, 1) := by decide +kernel
theorem d_Rea_numberOf_18 : decode b_Rea_numberOf 18 = .ok (.bipush 10, 2) := by decide +kernel
theorem d_Rea_numberOf_20 : decode b_Rea_numberOf 20 = .ok (.imul, 1) := by decide +kernel
theorem d_Rea_numberOf_21 : decode b_Rea_numberOf 21 = .ok (.aload_n 0, 1) := by decide +kernel
theorem d_Rea_numberOf_22 : decode b_Rea_numberOf 22 = .ok (.getfield 14, 3) := by decide +kernel
theorem d_Rea_numberOf_25 : decode b_Rea_numberOf 25 = .ok (.iload_n 3, 1) := by decide +kernel
theorem d_Rea_numberOf_26 : decode b_Rea_numberOf 26 = .ok (.invokevirtual 53, 3) := by decide +kernel
theorem d_Rea_numberOf_29 : decode b_Rea_numberOf 29 = .ok (.iadd, 1) := by decide +kernel
theorem d_Rea_numberOf_30 : decode b_Rea_numberOf 30 = .ok (.bipush 48, 2) := by decide +kernel
theorem d_Rea_numberOf_32 : decode b_Rea_numberOf 32 = .ok (.isub, 1) := by decide +kernel
theorem d_Rea_numberOf_33 : decode b_Rea_numberOf 33 = .ok (.istore_n 2, 1) := by decide +kernel
theorem d_Rea_numberOf_34 : decode b_Rea_numberOf 34 = .ok (.iinc 3 1, 3) := by decide +kernel
theorem d_Rea_numberOf_37 : decode b_Rea_numberOf 37 = .ok (.goto (-29), 3) := by decide +kernel
theorem d_Rea_numberOf_40 : decode b_Rea_numberOf 40 = .ok (.iload_n 2, 1) := by decide +kernel
theorem d_Rea_numberOf_41 : decode b_Rea_numberOf 41 = .ok (.ireturn, 1) := by decide +kernel
theorem d_Rea_copyString_0 : decode b_Rea_copyString 0 = .ok (.aload_n 2, 1) := by decide +kernel
theorem d_Rea_copyString_1 : decode b_Rea_copyString 1 = .ok (.invokevirtual 55, 3) := by decide +kernel
theorem d_Rea_copyString_4 : decode b_Rea_copyString 4 = .ok (.aload_n 0, 1) := by decide +kernel
theorem d_Rea_copyString_5 : decode b_Rea_copyString 5 = .ok (.getfield 14, 3) := by decide +kernel
theorem d_Rea_copyString_8 : decode b_Rea_copyString 8 = .ok (.aload_n 0, 1) := by decide +kernel
theorem d_Rea_copyString_9 : decode b_Rea_copyString 9 = .ok (.iload_n 1, 1) := by decide +kernel
theorem d_Rea_copyString_10 : decode b_Rea_copyString 10 = .ok (.invokevirtual 47, 3) := by decide +kernel
theorem d_Rea_copyString_13 : decode b_Rea_copyString 13 = .ok (.iconst 1, 1) := by decide +kernel
theorem d_Rea_copyString_14 : decode b_Rea_copyString 14 = .ok (.isub, 1) := by decide +kernel
theorem d_Rea_copyString_15 : decode b_Rea_copyString 15 = .ok (.invokevirtual 53, 3) := by decide +kernel
theorem d_Rea_copyString_18 : decode b_Rea_copyString 18 = .ok (.istore_n 3, 1) := by decide +kernel
theorem d_Rea_copyString_19 : decode b_Rea_copyString 19 = .ok (.aload_n 0, 1) := by decide +kernel
theorem d_Rea_copyString_20 : decode b_Rea_copyString 20 = .ok (.iload_n 1, 1) := by decide +kernel
theorem d_Rea_copyString_21 : decode b_Rea_copyString 21 = .ok (.invokevirtual 47, 3) := by decide +kernel
theorem d_Rea_copyString_24 : decode b_Rea_copyString 24 = .ok (.istore 4, 2) := by decide +kernel
theorem d_Rea_copyString_26 : decode b_Rea_copyString 26 = .ok (.iload 4, 2) := by decide +kernel
theorem d_Rea_copyString_28 : decode b_Rea_copyString 28 = .ok (.aload_n 0, 1) := by decide +kernel
theorem d_Rea_copyString_29 : decode b_Rea_copyString 29 = .ok (.iload_n 1, 1) := by decide +kernel
theorem d_Rea_copyString_30 : decode b_Rea_copyString 30 = .ok (.invokevirtual 50, 3) := by decide +kernel
theorem d_Rea_copyString_33 : decode b_Rea_copyString 33 = .ok (.if_icmp .ge 39, 3) := by decide +kernel
theorem d_Rea_copyString_36 : decode b_Rea_copyString 36 = .ok (.aload_n 2, 1) := by decide +kernel
theorem d_Rea_copyString_37 : decode b_Rea_copyString 37 = .ok (.aload_n 0, 1) := by decide +kernel
theorem d_Rea_copyString_38 : decode b_Rea_copyString 38 = .ok (.getfield 14, 3) := by decide +kernel
theorem d_Rea_copyString_41 : decode b_Rea_copyString 41 = .ok (.iload 4, 2) := by decide +kernel
theorem d_Rea_copyString_43 : decode b_Rea_copyString 43 = .ok (.invokevirtual 53, 3) := by decide +kernel
theorem d_Rea_copyString_46 : decode b_Rea_copyString 46 = .ok (.invokevirtual 58, 3) := by decide +kernel
theorem d_Rea_copyString_49 : decode b_Rea_copyString 49 = .ok (.pop, 1) := by decide +kernel
theorem d_Rea_copyString_50 : decode b_Rea_copyString 50 = .ok (.aload_n 0, 1) := by decide +kernel
theorem d_Rea_copyString_51 : decode b_Rea_copyString 51 = .ok (.getfield 14, 3) := by decide +kernel
theorem d_Rea_copyString_54 : decode b_Rea_copyString 54 = .ok (.iload 4, 2) := by decide +kernel
theorem d_Rea_copyString_56 : decode b_Rea_copyString 56 = .ok (.invokevirtual 53, 3) := by decide +kernel
theorem d_Rea_copyString_59 : decode b_Rea_copyString 59 = .ok (.iload_n 3, 1) := by decide +kernel
theorem d_Rea_copyString_60 : decode b_Rea_copyString 60 = .ok (.if_icmp .ne 6, 3) := by decide +kernel
theorem d_Rea_copyString_63 : decode b_Rea_copyString 63 = .ok (.iinc 4 1, 3) := by decide +kernel
theorem d_Rea_copyString_66 : decode b_Rea_copyString 66 = .ok (.iinc 4 1, 3) := by decide +kernel
theorem d_Rea_copyString_69 : decode b_Rea_copyString 69 = .ok (.goto (-43), 3) := by decide +kernel
theorem d_Rea_copyString_72 : decode b_Rea_copyString 72 = .ok (.return_, 1) := by decide +kernel
theorem d_Rea_readAlone_0 : decode b_Rea_readAlone 0 = .ok (.aload_n 0, 1) := by decide +kernel
theorem d_Rea_readAlone_1 : decode b_Rea_readAlone 1 = .ok (.invokevirtual 62, 3) := by decide +kernel
theorem d_Rea_readAlone_4 : decode b_Rea_readAlone 4 = .ok (.aload_n 0, 1) := by decide +kernel
theorem d_Rea_readAlone_5 : decode b_Rea_readAlone 5 = .ok (.iconst 1, 1) := by decide +kernel
theorem d_Rea_readAlone_6 : decode b_Rea_readAlone 6 = .ok (.invokevirtual 65, 3) := by decide +kernel
theorem d_Rea_readAlone_9 : decode b_Rea_readAlone 9 = .ok (.aload_n 0, 1) := by decide +kernel
theorem d_Rea_readAlone_10 : decode b_Rea_readAlone 10 = .ok (.getfield 40, 3) := by decide +kernel
theorem d_Rea_readAlone_13 : decode b_Rea_readAlone 13 = .ok (.ifCond .ne 25, 3) := by decide +kernel
theorem d_Rea_readAlone_16 : decode b_Rea_readAlone 16 = .ok (.aload_n 0, 1) := by decide +kernel
theorem d_Rea_readAlone_17 : decode b_Rea_readAlone 17 = .ok (.getfield 37, 3) := by decide +kernel
theorem d_Rea_readAlone_20 : decode b_Rea_readAlone 20 = .ok (.aload_n 0, 1) := by decide +kernel
theorem d_Rea_readAlone_21 : decode b_Rea_readAlone 21 = .ok (.getfield 14, 3) := by decide +kernel
theorem d_Rea_readAlone_24 : decode b_Rea_readAlone 24 = .ok (.getfield 68, 3) := by decide +kernel
theorem d_Rea_readAlone_27 : decode b_Rea_readAlone 27 = .ok (.if_icmp .ge 11, 3) := by decide +kernel
theorem d_Rea_readAlone_30 : decode b_Rea_readAlone 30 = .ok (.aload_n 0, 1) := by decide +kernel
theorem d_Rea_readAlone_31 : decode b_Rea_readAlone 31 = .ok (.aload_n 0, 1) := by decide +kernel
theorem d_Rea_readAlone_32 : decode b_Rea_readAlone 32 = .ok (.getfield 37, 3) := by decide +kernel
theorem d_Rea_readAlone_35 : decode b_Rea_readAlone 35 = .ok (.invokevirtual 71, 3) := by decide +kernel
theorem d_Rea_readAlone_38 : decode b_Rea_readAlone 38 = .ok (.aload_n 0, 1) := by decide +kernel
theorem d_Rea_readAlone_39 : decode b_Rea_readAlone 39 = .ok (.getfield 40, 3) := by decide +kernel
theorem d_Rea_readAlone_42 : decode b_Rea_readAlone 42 = .ok (.ireturn, 1) := by decide +kernel
theorem d_Rea_readGift_0 : decode b_Rea_readGift 0 = .ok (.aload_n 0, 1) := by decide +kernel
theorem d_Rea_readGift_1 : decode b_Rea_readGift 1 = .ok (.invokevirtual 62, 3) := by decide +kernel
theorem d_Rea_readGift_4 : decode b_Rea_readGift 4 = .ok (.aload_n 0, 1) := by decide +kernel
theorem d_Rea_readGift_5 : decode b_Rea_readGift 5 = .ok (.iconst 1, 1) := by decide +kernel
theorem d_Rea_readGift_6 : decode b_Rea_readGift 6 = .ok (.invokevirtual 65, 3) := by decide +kernel
theorem d_Rea_readGift_9 : decode b_Rea_readGift 9 = .ok (.aload_n 0, 1) := by decide +kernel
theorem d_Rea_readGift_10 : decode b_Rea_readGift 10 = .ok (.getfield 40, 3) := by decide +kernel
theorem d_Rea_readGift_13 : decode b_Rea_readGift 13 = .ok (.ifCond .ne 27, 3) := by decide +kernel
theorem d_Rea_readGift_16 : decode b_Rea_readGift 16 = .ok (.aload_n 0, 1) := by decide +kernel
theorem d_Rea_readGift_17 : decode b_Rea_readGift 17 = .ok (.getfield 14, 3) := by decide +kernel
theorem d_Rea_readGift_20 : decode b_Rea_readGift 20 = .ok (.aload_n 0, 1) := by decide +kernel
theorem d_Rea_readGift_21 : decode b_Rea_readGift 21 = .ok (.getfield 37, 3) := by decide +kernel
theorem d_Rea_readGift_24 : decode b_Rea_readGift 24 = .ok (.invokevirtual 53, 3) := by decide +kernel
theorem d_Rea_readGift_27 : decode b_Rea_readGift 27 = .ok (.bipush 61, 2) := by decide +kernel
theorem d_Rea_readGift_29 : decode b_Rea_readGift 29 = .ok (.if_icmp .eq 11, 3) := by decide +kernel
theorem d_Rea_readGift_32 : decode b_Rea_readGift 32 = .ok (.aload_n 0, 1) := by decide +kernel
theorem d_Rea_readGift_33 : decode b_Rea_readGift 33 = .ok (.aload_n 0, 1) := by decide +kernel
theorem d_Rea_readGift_34 : decode b_Rea_readGift 34 = .ok (.getfield 37, 3) := by decide +kernel
theorem d_Rea_readGift_37 : decode b_Rea_readGift 37 = .ok (.invokevirtual 71, 3) := by decide +kernel
theorem d_Rea_readGift_40 : decode b_Rea_readGift 40 = .ok (.aload_n 0, 1) := by decide +kernel
theorem d_Rea_readGift_41 : decode b_Rea_readGift 41 = .ok (.dup, 1) := by decide +kernel
theorem d_Rea_readGift_42 : decode b_Rea_readGift 42 = .ok (.getfield 37, 3) := by decide +kernel
