theorem dX9_init_0 : decode cX9_init 0 = .ok (.aload_n 0, 1) := by decide +kernel
theorem dX9_init_1 : decode cX9_init 1 = .ok (.invokespecial 3, 3) := by decide +kernel
theorem dX9_init_4 : decode cX9_init 4 = .ok (.aload_n 0, 1) := by decide +kernel
theorem dX9_init_5 : decode cX9_init 5 = .ok (.iconst 5, 1) := by decide +kernel
theorem dX9_init_6 : decode cX9_init 6 = .ok (.newarray .int, 2) := by decide +kernel
theorem dX9_init_8 : decode cX9_init 8 = .ok (.putfield 9, 3) := by decide +kernel
theorem dX9_init_11 : decode cX9_init 11 = .ok (.aload_n 0, 1) := by decide +kernel
theorem dX9_init_12 : decode cX9_init 12 = .ok (.bipush 30, 2) := by decide +kernel
theorem dX9_init_14 : decode cX9_init 14 = .ok (.newarray .int, 2) := by decide +kernel
theorem dX9_init_16 : decode cX9_init 16 = .ok (.putfield 15, 3) := by decide +kernel
theorem dX9_init_19 : decode cX9_init 19 = .ok (.aload_n 0, 1) := by decide +kernel
theorem dX9_init_20 : decode cX9_init 20 = .ok (.bipush 30, 2) := by decide +kernel
theorem dX9_init_22 : decode cX9_init 22 = .ok (.newarray .int, 2) := by decide +kernel
theorem dX9_init_24 : decode cX9_init 24 = .ok (.putfield 18, 3) := by decide +kernel
theorem dX9_init_27 : decode cX9_init 27 = .ok (.aload_n 0, 1) := by decide +kernel
theorem dX9_init_28 : decode cX9_init 28 = .ok (.bipush 30, 2) := by decide +kernel
theorem dX9_init_30 : decode cX9_init 30 = .ok (.newarray .int, 2) := by decide +kernel
theorem dX9_init_32 : decode cX9_init 32 = .ok (.putfield 21, 3) := by decide +kernel
theorem dX9_init_35 : decode cX9_init 35 = .ok (.aload_n 0, 1) := by decide +kernel
theorem dX9_init_36 : decode cX9_init 36 = .ok (.bipush 30, 2) := by decide +kernel
theorem dX9_init_38 : decode cX9_init 38 = .ok (.newarray .int, 2) := by decide +kernel
theorem dX9_init_40 : decode cX9_init 40 = .ok (.putfield 24, 3) := by decide +kernel
theorem dX9_init_43 : decode cX9_init 43 = .ok (.aload_n 0, 1) := by decide +kernel
theorem dX9_init_44 : decode cX9_init 44 = .ok (.bipush 30, 2) := by decide +kernel
theorem dX9_init_46 : decode cX9_init 46 = .ok (.newarray .int, 2) := by decide +kernel
theorem dX9_init_48 : decode cX9_init 48 = .ok (.putfield 27, 3) := by decide +kernel
theorem dX9_init_51 : decode cX9_init 51 = .ok (.return_, 1) := by decide +kernel
theorem dX9_learn_0 : decode cX9_learn 0 = .ok (.iload_n 1, 1) := by decide +kernel
theorem dX9_learn_1 : decode cX9_learn 1 = .ok (.ifCond .lt 48, 3) := by decide +kernel
theorem dX9_learn_4 : decode cX9_learn 4 = .ok (.iload_n 1, 1) := by decide +kernel
theorem dX9_learn_5 : decode cX9_learn 5 = .ok (.aload_n 0, 1) := by decide +kernel
theorem dX9_learn_6 : decode cX9_learn 6 = .ok (.getfield 9, 3) := by decide +kernel
theorem dX9_learn_9 : decode cX9_learn 9 = .ok (.arraylength, 1) := by decide +kernel
theorem dX9_learn_10 : decode cX9_learn 10 = .ok (.if_icmp .ge 39, 3) := by decide +kernel
theorem dX9_learn_13 : decode cX9_learn 13 = .ok (.aload_n 0, 1) := by decide +kernel
theorem dX9_learn_14 : decode cX9_learn 14 = .ok (.getfield 9, 3) := by decide +kernel
theorem dX9_learn_17 : decode cX9_learn 17 = .ok (.iload_n 1, 1) := by decide +kernel
theorem dX9_learn_18 : decode cX9_learn 18 = .ok (.iload_n 2, 1) := by decide +kernel
theorem dX9_learn_19 : decode cX9_learn 19 = .ok (.iastore, 1) := by decide +kernel
theorem dX9_learn_20 : decode cX9_learn 20 = .ok (.aload_n 0, 1) := by decide +kernel
theorem dX9_learn_21 : decode cX9_learn 21 = .ok (.iload_n 3, 1) := by decide +kernel
theorem dX9_learn_22 : decode cX9_learn 22 = .ok (.ifCond .eq 14, 3) := by decide +kernel
theorem dX9_learn_25 : decode cX9_learn 25 = .ok (.aload_n 0, 1) := by decide +kernel
theorem dX9_learn_26 : decode cX9_learn 26 = .ok (.getfield 30, 3) := by decide +kernel
theorem dX9_learn_29 : decode cX9_learn 29 = .ok (.iconst 1, 1) := by decide +kernel
theorem dX9_learn_30 : decode cX9_learn 30 = .ok (.iload_n 1, 1) := by decide +kernel
theorem dX9_learn_31 : decode cX9_learn 31 = .ok (.ishl, 1) := by decide +kernel
theorem dX9_learn_32 : decode cX9_learn 32 = .ok (.ior, 1) := by decide +kernel
theorem dX9_learn_33 : decode cX9_learn 33 = .ok (.goto 13, 3) := by decide +kernel
theorem dX9_learn_36 : decode cX9_learn 36 = .ok (.aload_n 0, 1) := by decide +kernel
theorem dX9_learn_37 : decode cX9_learn 37 = .ok (.getfield 30, 3) := by decide +kernel
theorem dX9_learn_40 : decode cX9_learn 40 = .ok (.iconst 1, 1) := by decide +kernel
theorem dX9_learn_41 : decode cX9_learn 41 = .ok (.iload_n 1, 1) := by decide +kernel
theorem dX9_learn_42 : decode cX9_learn 42 = .ok (.ishl, 1) := by decide +kernel
theorem dX9_learn_43 : decode cX9_learn 43 = .ok (.iconst (-1), 1) := by decide +kernel
theorem dX9_learn_44 : decode cX9_learn 44 = .ok (.ixor, 1) := by decide +kernel
theorem dX9_learn_45 : decode cX9_learn 45 = .ok (.iand, 1) := by decide +kernel
theorem dX9_learn_46 : decode cX9_learn 46 = .ok (.putfield 30, 3) := by decide +kernel
theorem dX9_learn_49 : decode cX9_learn 49 = .ok (.return_, 1) := by decide +kernel
theorem dX9_warmTo_0 : decode cX9_warmTo 0 = .ok (.iload_n 1, 1) := by decide +kernel
theorem dX9_warmTo_1 : decode cX9_warmTo 1 = .ok (.ifCond .lt 19, 3) := by decide +kernel
theorem dX9_warmTo_4 : decode cX9_warmTo 4 = .ok (.iload_n 1, 1) := by decide +kernel
theorem dX9_warmTo_5 : decode cX9_warmTo 5 = .ok (.aload_n 0, 1) := by decide +kernel
theorem dX9_warmTo_6 : decode cX9_warmTo 6 = .ok (.getfield 15, 3) := by decide +kernel
theorem dX9_warmTo_9 : decode cX9_warmTo 9 = .ok (.arraylength, 1) := by decide +kernel
theorem dX9_warmTo_10 : decode cX9_warmTo 10 = .ok (.if_icmp .ge 10, 3) := by decide +kernel
theorem dX9_warmTo_13 : decode cX9_warmTo 13 = .ok (.aload_n 0, 1) := by decide +kernel
theorem dX9_warmTo_14 : decode cX9_warmTo 14 = .ok (.getfield 15, 3) := by decide +kernel
theorem dX9_warmTo_17 : decode cX9_warmTo 17 = .ok (.iload_n 1, 1) := by decide +kernel
theorem dX9_warmTo_18 : decode cX9_warmTo 18 = .ok (.iload_n 2, 1) := by decide +kernel
theorem dX9_warmTo_19 : decode cX9_warmTo 19 = .ok (.iastore, 1) := by decide +kernel
theorem dX9_warmTo_20 : decode cX9_warmTo 20 = .ok (.return_, 1) := by decide +kernel
theorem dX9_warmthOn_0 : decode cX9_warmthOn 0 = .ok (.aload_n 0, 1) := by decide +kernel
theorem dX9_warmthOn_1 : decode cX9_warmthOn 1 = .ok (.getfield 15, 3) := by decide +kernel
theorem dX9_warmthOn_4 : decode cX9_warmthOn 4 = .ok (.iload_n 1, 1) := by decide +kernel
theorem dX9_warmthOn_5 : decode cX9_warmthOn 5 = .ok (.iconst 5, 1) := by decide +kernel
theorem dX9_warmthOn_6 : decode cX9_warmthOn 6 = .ok (.invokestatic 34, 3) := by decide +kernel
theorem dX9_warmthOn_9 : decode cX9_warmthOn 9 = .ok (.ireturn, 1) := by decide +kernel
theorem dX9_ageOn_0 : decode cX9_ageOn 0 = .ok (.aload_n 0, 1) := by decide +kernel
theorem dX9_ageOn_1 : decode cX9_ageOn 1 = .ok (.getfield 18, 3) := by decide +kernel
theorem dX9_ageOn_4 : decode cX9_ageOn 4 = .ok (.iload_n 1, 1) := by decide +kernel
theorem dX9_ageOn_5 : decode cX9_ageOn 5 = .ok (.iconst 0, 1) := by decide +kernel
theorem dX9_ageOn_6 : decode cX9_ageOn 6 = .ok (.invokestatic 34, 3) := by decide +kernel
theorem dX9_ageOn_9 : decode cX9_ageOn 9 = .ok (.ireturn, 1) := by decide +kernel
theorem dX9_momentOn_0 : decode cX9_momentOn 0 = .ok (.aload_n 0, 1) := by decide +kernel
theorem dX9_momentOn_1 : decode cX9_momentOn 1 = .ok (.getfield 21, 3) := by decide +kernel
theorem dX9_momentOn_4 : decode cX9_momentOn 4 = .ok (.iload_n 1, 1) := by decide +kernel
theorem dX9_momentOn_5 : decode cX9_momentOn 5 = .ok (.iconst (-1), 1) := by decide +kernel
theorem dX9_momentOn_6 : decode cX9_momentOn 6 = .ok (.invokestatic 34, 3) := by decide +kernel
theorem dX9_momentOn_9 : decode cX9_momentOn 9 = .ok (.ireturn, 1) := by decide +kernel
theorem dX9_heardOn_0 : decode cX9_heardOn 0 = .ok (.aload_n 0, 1) := by decide +kernel
theorem dX9_heardOn_1 : decode cX9_heardOn 1 = .ok (.getfield 24, 3) := by decide +kernel
theorem dX9_heardOn_4 : decode cX9_heardOn 4 = .ok (.iload_n 1, 1) := by decide +kernel
theorem dX9_heardOn_5 : decode cX9_heardOn 5 = .ok (.iconst (-1), 1) := by decide +kernel
theorem dX9_heardOn_6 : decode cX9_heardOn 6 = .ok (.invokestatic 34, 3) := by decide +kernel
theorem dX9_heardOn_9 : decode cX9_heardOn 9 = .ok (.ireturn, 1) := by decide +kernel
theorem dX9_stateOn_0 : decode cX9_stateOn 0 = .ok (.aload_n 0, 1) := by decide +kernel
theorem dX9_stateOn_1 : decode cX9_stateOn 1 = .ok (.getfield 27, 3) := by decide +kernel
theorem dX9_stateOn_4 : decode cX9_stateOn 4 = .ok (.iload_n 1, 1) := by decide +kernel
theorem dX9_stateOn_5 : decode cX9_stateOn 5 = .ok (.iconst 0, 1) := by decide +kernel
theorem dX9_stateOn_6 : decode cX9_stateOn 6 = .ok (.invokestatic 34, 3) := by decide +kernel
theorem dX9_stateOn_9 : decode cX9_stateOn 9 = .ok (.ireturn, 1) := by decide +kernel
theorem dX9_growth_0 : decode cX9_growth 0 = .ok (.aload_n 0, 1) := by decide +kernel
theorem dX9_growth_1 : decode cX9_growth 1 = .ok (.getfield 38, 3) := by decide +kernel
theorem dX9_growth_4 : decode cX9_growth 4 = .ok (.iload_n 1, 1) := by decide +kernel
theorem dX9_growth_5 : decode cX9_growth 5 = .ok (.invokestatic 41, 3) := by decide +kernel
theorem dX9_growth_8 : decode cX9_growth 8 = .ok (.ifCond .eq 7, 3) := by decide +kernel
theorem dX9_growth_11 : decode cX9_growth 11 = .ok (.iconst 2, 1) := by decide +kernel
theorem dX9_growth_12 : decode cX9_growth 12 = .ok (.goto 4, 3) := by decide +kernel
theorem dX9_growth_15 : decode cX9_growth 15 = .ok (.iconst 0, 1) := by decide +kernel
theorem dX9_growth_16 : decode cX9_growth 16 = .ok (.istore_n 3, 1) := by decide +kernel
theorem dX9_growth_17 : decode cX9_growth 17 = .ok (.aload_n 0, 1) := by decide +kernel
theorem dX9_growth_18 : decode cX9_growth 18 = .ok (.getfield 45, 3) := by decide +kernel
theorem dX9_growth_21 : decode cX9_growth 21 = .ok (.iconst 2, 1) := by decide +kernel
theorem dX9_growth_22 : decode cX9_growth 22 = .ok (.if_icmp .ne 9, 3) := by decide +kernel
theorem dX9_growth_25 : decode cX9_growth 25 = .ok (.iload_n 2, 1) := by decide +kernel
theorem dX9_growth_26 : decode cX9_growth 26 = .ok (.iconst 1, 1) := by decide +kernel
theorem dX9_growth_27 : decode cX9_growth 27 = .ok (.iadd, 1) := by decide +kernel
theorem dX9_growth_28 : decode cX9_growth 28 = .ok (.iload_n 3, 1) := by decide +kernel
theorem dX9_growth_29 : decode cX9_growth 29 = .ok (.iadd, 1) := by decide +kernel
theorem dX9_growth_30 : decode cX9_growth 30 = .ok (.ireturn, 1) := by decide +kernel
theorem dX9_growth_31 : decode cX9_growth 31 = .ok (.aload_n 0, 1) := by decide +kernel
theorem dX9_growth_32 : decode cX9_growth 32 = .ok (.getfield 45, 3) := by decide +kernel
theorem dX9_growth_35 : decode cX9_growth 35 = .ok (.iconst 1, 1) := by decide +kernel
theorem dX9_growth_36 : decode cX9_growth 36 = .ok (.if_icmp .ne 26, 3) := by decide +kernel
theorem dX9_growth_39 : decode cX9_growth 39 = .ok (.aload_n 0, 1) := by decide +kernel
theorem dX9_growth_40 : decode cX9_growth 40 = .ok (.getfield 48, 3) := by decide +kernel
theorem dX9_growth_43 : decode cX9_growth 43 = .ok (.iload_n 1, 1) := by decide +kernel
theorem dX9_growth_44 : decode cX9_growth 44 = .ok (.invokestatic 41, 3) := by decide +kernel
theorem dX9_growth_47 : decode cX9_growth 47 = .ok (.ifCond .eq 7, 3) := by decide +kernel
theorem dX9_growth_50 : decode cX9_growth 50 = .ok (.iconst 0, 1) := by decide +kernel
theorem dX9_growth_51 : decode cX9_growth 51 = .ok (.goto 8, 3) := by decide +kernel
theorem dX9_growth_54 : decode cX9_growth 54 = .ok (.iload_n 2, 1) := by decide +kernel
theorem dX9_growth_55 : decode cX9_growth 55 = .ok (.iload_n 2, 1) := by decide +kernel
theorem dX9_growth_56 : decode cX9_growth 56 = .ok (.iconst 2, 1) := by decide +kernel
theorem dX9_growth_57 : decode cX9_growth 57 = .ok (.idiv, 1) := by decide +kernel
theorem dX9_growth_58 : decode cX9_growth 58 = .ok (.iadd, 1) := by decide +kernel
theorem dX9_growth_59 : decode cX9_growth 59 = .ok (.iload_n 3, 1) := by decide +kernel
theorem dX9_growth_60 : decode cX9_growth 60 = .ok (.iadd, 1) := by decide +kernel
theorem dX9_growth_61 : decode cX9_growth 61 = .ok (.ireturn, 1) := by decide +kernel
theorem dX9_growth_62 : decode cX9_growth 62 = .ok (.aload_n 0, 1) := by decide +kernel
theorem dX9_growth_63 : decode cX9_growth 63 = .ok (.getfield 48, 3) := by decide +kernel
theorem dX9_growth_66 : decode cX9_growth 66 = .ok (.iload_n 1, 1) := by decide +kernel
theorem dX9_growth_67 : decode cX9_growth 67 = .ok (.invokestatic 41, 3) := by decide +kernel
theorem dX9_growth_70 : decode cX9_growth 70 = .ok (.ifCond .ne 16, 3) := by decide +kernel
theorem dX9_growth_73 : decode cX9_growth 73 = .ok (.aload_n 0, 1) := by decide +kernel
theorem dX9_growth_74 : decode cX9_growth 74 = .ok (.getfield 48, 3) := by decide +kernel
theorem dX9_growth_77 : decode cX9_growth 77 = .ok (.iload_n 1, 1) := by decide +kernel
theorem dX9_growth_78 : decode cX9_growth 78 = .ok (.iconst 1, 1) := by decide +kernel
theorem dX9_growth_79 : decode cX9_growth 79 = .ok (.isub, 1) := by decide +kernel
theorem dX9_growth_80 : decode cX9_growth 80 = .ok (.invokestatic 41, 3) := by decide +kernel
theorem dX9_growth_83 : decode cX9_growth 83 = .ok (.ifCond .eq 7, 3) := by decide +kernel
theorem dX9_growth_86 : decode cX9_growth 86 = .ok (.iconst 1, 1) := by decide +kernel
theorem dX9_growth_87 : decode cX9_growth 87 = .ok (.goto 4, 3) := by decide +kernel
theorem dX9_growth_90 : decode cX9_growth 90 = .ok (.iconst 0, 1) := by decide +kernel
theorem dX9_growth_91 : decode cX9_growth 91 = .ok (.istore 4, 2) := by decide +kernel
theorem dX9_growth_93 : decode cX9_growth 93 = .ok (.iload 4, 2) := by decide +kernel
theorem dX9_growth_95 : decode cX9_growth 95 = .ok (.ifCond .eq 7, 3) := by decide +kernel
theorem dX9_growth_98 : decode cX9_growth 98 = .ok (.iload_n 2, 1) := by decide +kernel
theorem dX9_growth_99 : decode cX9_growth 99 = .ok (.goto 6, 3) := by decide +kernel
theorem dX9_growth_102 : decode cX9_growth 102 = .ok (.iload_n 2, 1) := by decide +kernel
theorem dX9_growth_103 : decode cX9_growth 103 = .ok (.iconst 2, 1) := by decide +kernel
theorem dX9_growth_104 : decode cX9_growth 104 = .ok (.idiv, 1) := by decide +kernel
theorem dX9_growth_105 : decode cX9_growth 105 = .ok (.iload_n 3, 1) := by decide +kernel
theorem dX9_growth_106 : decode cX9_growth 106 = .ok (.iadd, 1) := by decide +kernel
theorem dX9_growth_107 : decode cX9_growth 107 = .ok (.ireturn, 1) := by decide +kernel
theorem dX9_momentAt_0 : decode cX9_momentAt 0 = .ok (.aload_n 0, 1) := by decide +kernel
theorem dX9_momentAt_1 : decode cX9_momentAt 1 = .ok (.getfield 51, 3) := by decide +kernel
theorem dX9_momentAt_4 : decode cX9_momentAt 4 = .ok (.iconst 1, 1) := by decide +kernel
theorem dX9_momentAt_5 : decode cX9_momentAt 5 = .ok (.if_icmp .lt 7, 3) := by decide +kernel
theorem dX9_momentAt_8 : decode cX9_momentAt 8 = .ok (.iload_n 1, 1) := by decide +kernel
theorem dX9_momentAt_9 : decode cX9_momentAt 9 = .ok (.ifCond .ge 10, 3) := by decide +kernel
theorem dX9_momentAt_12 : decode cX9_momentAt 12 = .ok (.aload_n 0, 1) := by decide +kernel
theorem dX9_momentAt_13 : decode cX9_momentAt 13 = .ok (.getfield 54, 3) := by decide +kernel
theorem dX9_momentAt_16 : decode cX9_momentAt 16 = .ok (.goto 9, 3) := by decide +kernel
theorem dX9_momentAt_19 : decode cX9_momentAt 19 = .ok (.iload_n 1, 1) := by decide +kernel
theorem dX9_momentAt_20 : decode cX9_momentAt 20 = .ok (.aload_n 0, 1) := by decide +kernel
theorem dX9_momentAt_21 : decode cX9_momentAt 21 = .ok (.getfield 51, 3) := by decide +kernel
theorem dX9_momentAt_24 : decode cX9_momentAt 24 = .ok (.idiv, 1) := by decide +kernel
theorem dX9_momentAt_25 : decode cX9_momentAt 25 = .ok (.istore_n 2, 1) := by decide +kernel
theorem dX9_momentAt_26 : decode cX9_momentAt 26 = .ok (.iload_n 2, 1) := by decide +kernel
theorem dX9_momentAt_27 : decode cX9_momentAt 27 = .ok (.aload_n 0, 1) := by decide +kernel
theorem dX9_momentAt_28 : decode cX9_momentAt 28 = .ok (.getfield 54, 3) := by decide +kernel
theorem dX9_momentAt_31 : decode cX9_momentAt 31 = .ok (.if_icmp .ge 7, 3) := by decide +kernel
theorem dX9_momentAt_34 : decode cX9_momentAt 34 = .ok (.iload_n 2, 1) := by decide +kernel
theorem dX9_momentAt_35 : decode cX9_momentAt 35 = .ok (.goto 4, 3) := by decide +kernel
theorem dX9_momentAt_38 : decode cX9_momentAt 38 = .ok (.iconst (-1), 1) := by decide +kernel
theorem dX9_momentAt_39 : decode cX9_momentAt 39 = .ok (.ireturn, 1) := by decide +kernel
theorem dX9_isEatenAt_0 : decode cX9_isEatenAt 0 = .ok (.aload_n 0, 1) := by decide +kernel
theorem dX9_isEatenAt_1 : decode cX9_isEatenAt 1 = .ok (.getfield 45, 3) := by decide +kernel
theorem dX9_isEatenAt_4 : decode cX9_isEatenAt 4 = .ok (.iconst 2, 1) := by decide +kernel
theorem dX9_isEatenAt_5 : decode cX9_isEatenAt 5 = .ok (.if_icmp .eq 18, 3) := by decide +kernel
theorem dX9_isEatenAt_8 : decode cX9_isEatenAt 8 = .ok (.aload_n 0, 1) := by decide +kernel
theorem dX9_isEatenAt_9 : decode cX9_isEatenAt 9 = .ok (.getfield 30, 3) := by decide +kernel
theorem dX9_isEatenAt_12 : decode cX9_isEatenAt 12 = .ok (.iload_n 1, 1) := by decide +kernel
theorem dX9_isEatenAt_13 : decode cX9_isEatenAt 13 = .ok (.invokestatic 41, 3) := by decide +kernel
theorem dX9_isEatenAt_16 : decode cX9_isEatenAt 16 = .ok (.ifCond .eq 7, 3) := by decide +kernel
theorem dX9_isEatenAt_19 : decode cX9_isEatenAt 19 = .ok (.iconst 1, 1) := by decide +kernel
theorem dX9_isEatenAt_20 : decode cX9_isEatenAt 20 = .ok (.goto 4, 3) := by decide +kernel
theorem dX9_isEatenAt_23 : decode cX9_isEatenAt 23 = .ok (.iconst 0, 1) := by decide +kernel
theorem dX9_isEatenAt_24 : decode cX9_isEatenAt 24 = .ok (.ireturn, 1) := by decide +kernel
theorem dX9_run_0 : decode cX9_run 0 = .ok (.iconst 0, 1) := by decide +kernel
theorem dX9_run_1 : decode cX9_run 1 = .ok (.istore_n 1, 1) := by decide +kernel
theorem dX9_run_2 : decode cX9_run 2 = .ok (.aload_n 0, 1) := by decide +kernel
theorem dX9_run_3 : decode cX9_run 3 = .ok (.iconst 0, 1) := by decide +kernel
theorem dX9_run_4 : decode cX9_run 4 = .ok (.putfield 57, 3) := by decide +kernel
theorem dX9_run_7 : decode cX9_run 7 = .ok (.aload_n 0, 1) := by decide +kernel
theorem dX9_run_8 : decode cX9_run 8 = .ok (.iconst 0, 1) := by decide +kernel
theorem dX9_run_9 : decode cX9_run 9 = .ok (.putfield 60, 3) := by decide +kernel
theorem dX9_run_12 : decode cX9_run 12 = .ok (.iconst 0, 1) := by decide +kernel
theorem dX9_run_13 : decode cX9_run 13 = .ok (.istore_n 2, 1) := by decide +kernel
theorem dX9_run_14 : decode cX9_run 14 = .ok (.iload_n 2, 1) := by decide +kernel
theorem dX9_run_15 : decode cX9_run 15 = .ok (.bipush 30, 2) := by decide +kernel
theorem dX9_run_17 : decode cX9_run 17 = .ok (.if_icmp .ge 102, 3) := by decide +kernel
theorem dX9_run_20 : decode cX9_run 20 = .ok (.iload_n 2, 1) := by decide +kernel
theorem dX9_run_21 : decode cX9_run 21 = .ok (.aload_n 0, 1) := by decide +kernel
theorem dX9_run_22 : decode cX9_run 22 = .ok (.getfield 64, 3) := by decide +kernel
theorem dX9_run_25 : decode cX9_run 25 = .ok (.if_icmp .lt 10, 3) := by decide +kernel
theorem dX9_run_28 : decode cX9_run 28 = .ok (.aload_n 0, 1) := by decide +kernel
theorem dX9_run_29 : decode cX9_run 29 = .ok (.getfield 60, 3) := by decide +kernel
theorem dX9_run_32 : decode cX9_run 32 = .ok (.ifCond .eq 25, 3) := by decide +kernel
theorem dX9_run_35 : decode cX9_run 35 = .ok (.aload_n 0, 1) := by decide +kernel
theorem dX9_run_36 : decode cX9_run 36 = .ok (.iload_n 2, 1) := by decide +kernel
theorem dX9_run_37 : decode cX9_run 37 = .ok (.iload_n 1, 1) := by decide +kernel
theorem dX9_run_38 : decode cX9_run 38 = .ok (.iconst (-1), 1) := by decide +kernel
theorem dX9_run_39 : decode cX9_run 39 = .ok (.aload_n 0, 1) := by decide +kernel
theorem dX9_run_40 : decode cX9_run 40 = .ok (.getfield 60, 3) := by decide +kernel
theorem dX9_run_43 : decode cX9_run 43 = .ok (.ifCond .eq 7, 3) := by decide +kernel
theorem dX9_run_46 : decode cX9_run 46 = .ok (.iconst 4, 1) := by decide +kernel
theorem dX9_run_47 : decode cX9_run 47 = .ok (.goto 4, 3) := by decide +kernel
theorem dX9_run_50 : decode cX9_run 50 = .ok (.iconst 0, 1) := by decide +kernel
theorem dX9_run_51 : decode cX9_run 51 = .ok (.invokevirtual 67, 3) := by decide +kernel
theorem dX9_run_54 : decode cX9_run 54 = .ok (.goto 59, 3) := by decide +kernel
theorem dX9_run_57 : decode cX9_run 57 = .ok (.iload_n 1, 1) := by decide +kernel
theorem dX9_run_58 : decode cX9_run 58 = .ok (.aload_n 0, 1) := by decide +kernel
theorem dX9_run_59 : decode cX9_run 59 = .ok (.iload_n 2, 1) := by decide +kernel
theorem dX9_run_60 : decode cX9_run 60 = .ok (.aload_n 0, 1) := by decide +kernel
theorem dX9_run_61 : decode cX9_run 61 = .ok (.iload_n 2, 1) := by decide +kernel
theorem dX9_run_62 : decode cX9_run 62 = .ok (.invokevirtual 71, 3) := by decide +kernel
theorem dX9_run_65 : decode cX9_run 65 = .ok (.invokevirtual 75, 3) := by decide +kernel
theorem dX9_run_68 : decode cX9_run 68 = .ok (.iadd, 1) := by decide +kernel
theorem dX9_run_69 : decode cX9_run 69 = .ok (.istore_n 1, 1) := by decide +kernel
theorem dX9_run_70 : decode cX9_run 70 = .ok (.aload_n 0, 1) := by decide +kernel
theorem dX9_run_71 : decode cX9_run 71 = .ok (.iload_n 1, 1) := by decide +kernel
theorem dX9_run_72 : decode cX9_run 72 = .ok (.invokevirtual 79, 3) := by decide +kernel
theorem dX9_run_75 : decode cX9_run 75 = .ok (.istore_n 3, 1) := by decide +kernel
theorem dX9_run_76 : decode cX9_run 76 = .ok (.aload_n 0, 1) := by decide +kernel
theorem dX9_run_77 : decode cX9_run 77 = .ok (.aload_n 0, 1) := by decide +kernel
theorem dX9_run_78 : decode cX9_run 78 = .ok (.iload_n 3, 1) := by decide +kernel
theorem dX9_run_79 : decode cX9_run 79 = .ok (.invokevirtual 82, 3) := by decide +kernel
theorem dX9_run_82 : decode cX9_run 82 = .ok (.putfield 60, 3) := by decide +kernel
theorem dX9_run_85 : decode cX9_run 85 = .ok (.aload_n 0, 1) := by decide +kernel
theorem dX9_run_86 : decode cX9_run 86 = .ok (.iload_n 2, 1) := by decide +kernel
theorem dX9_run_87 : decode cX9_run 87 = .ok (.iload_n 1, 1) := by decide +kernel
theorem dX9_run_88 : decode cX9_run 88 = .ok (.iload_n 3, 1) := by decide +kernel
theorem dX9_run_89 : decode cX9_run 89 = .ok (.iload_n 3, 1) := by decide +kernel
theorem dX9_run_90 : decode cX9_run 90 = .ok (.iconst (-1), 1) := by decide +kernel
theorem dX9_run_91 : decode cX9_run 91 = .ok (.if_icmp .ne 7, 3) := by decide +kernel
theorem dX9_run_94 : decode cX9_run 94 = .ok (.iconst 2, 1) := by decide +kernel
theorem dX9_run_95 : decode cX9_run 95 = .ok (.goto 15, 3) := by decide +kernel
theorem dX9_run_98 : decode cX9_run 98 = .ok (.aload_n 0, 1) := by decide +kernel
theorem dX9_run_99 : decode cX9_run 99 = .ok (.getfield 60, 3) := by decide +kernel
theorem dX9_run_102 : decode cX9_run 102 = .ok (.ifCond .eq 7, 3) := by decide +kernel
theorem dX9_run_105 : decode cX9_run 105 = .ok (.iconst 3, 1) := by decide +kernel
theorem dX9_run_106 : decode cX9_run 106 = .ok (.goto 4, 3) := by decide +kernel
theorem dX9_run_109 : decode cX9_run 109 = .ok (.iconst 1, 1) := by decide +kernel
theorem dX9_run_110 : decode cX9_run 110 = .ok (.invokevirtual 67, 3) := by decide +kernel
theorem dX9_run_113 : decode cX9_run 113 = .ok (.iinc 2 1, 3) := by decide +kernel
theorem dX9_run_116 : decode cX9_run 116 = .ok (.goto (-102), 3) := by decide +kernel
theorem dX9_run_119 : decode cX9_run 119 = .ok (.return_, 1) := by decide +kernel
theorem dX9_note_0 : decode cX9_note 0 = .ok (.iload_n 1, 1) := by decide +kernel
theorem dX9_note_1 : decode cX9_note 1 = .ok (.ifCond .lt 67, 3) := by decide +kernel
theorem dX9_note_4 : decode cX9_note 4 = .ok (.iload_n 1, 1) := by decide +kernel
theorem dX9_note_5 : decode cX9_note 5 = .ok (.bipush 30, 2) := by decide +kernel
theorem dX9_note_7 : decode cX9_note 7 = .ok (.if_icmp .ge 61, 3) := by decide +kernel
theorem dX9_note_10 : decode cX9_note 10 = .ok (.aload_n 0, 1) := by decide +kernel
theorem dX9_note_11 : decode cX9_note 11 = .ok (.getfield 18, 3) := by decide +kernel
theorem dX9_note_14 : decode cX9_note 14 = .ok (.iload_n 1, 1) := by decide +kernel
theorem dX9_note_15 : decode cX9_note 15 = .ok (.iload_n 2, 1) := by decide +kernel
theorem dX9_note_16 : decode cX9_note 16 = .ok (.iastore, 1) := by decide +kernel
theorem dX9_note_17 : decode cX9_note 17 = .ok (.aload_n 0, 1) := by decide +kernel
theorem dX9_note_18 : decode cX9_note 18 = .ok (.getfield 21, 3) := by decide +kernel
theorem dX9_note_21 : decode cX9_note 21 = .ok (.iload_n 1, 1) := by decide +kernel
theorem dX9_note_22 : decode cX9_note 22 = .ok (.iload_n 3, 1) := by decide +kernel
theorem dX9_note_23 : decode cX9_note 23 = .ok (.iastore, 1) := by decide +kernel
theorem dX9_note_24 : decode cX9_note 24 = .ok (.aload_n 0, 1) := by decide +kernel
theorem dX9_note_25 : decode cX9_note 25 = .ok (.getfield 24, 3) := by decide +kernel
theorem dX9_note_28 : decode cX9_note 28 = .ok (.iload_n 1, 1) := by decide +kernel
theorem dX9_note_29 : decode cX9_note 29 = .ok (.aload_n 0, 1) := by decide +kernel
theorem dX9_note_30 : decode cX9_note 30 = .ok (.getfield 9, 3) := by decide +kernel
theorem dX9_note_33 : decode cX9_note 33 = .ok (.iload_n 3, 1) := by decide +kernel
theorem dX9_note_34 : decode cX9_note 34 = .ok (.iconst (-1), 1) := by decide +kernel
theorem dX9_note_35 : decode cX9_note 35 = .ok (.invokestatic 34, 3) := by decide +kernel
theorem dX9_note_38 : decode cX9_note 38 = .ok (.iastore, 1) := by decide +kernel
theorem dX9_note_39 : decode cX9_note 39 = .ok (.aload_n 0, 1) := by decide +kernel
theorem dX9_note_40 : decode cX9_note 40 = .ok (.getfield 27, 3) := by decide +kernel
theorem dX9_note_43 : decode cX9_note 43 = .ok (.iload_n 1, 1) := by decide +kernel
theorem dX9_note_44 : decode cX9_note 44 = .ok (.iload 4, 2) := by decide +kernel
theorem dX9_note_46 : decode cX9_note 46 = .ok (.iastore, 1) := by decide +kernel
theorem dX9_note_47 : decode cX9_note 47 = .ok (.aload_n 0, 1) := by decide +kernel
theorem dX9_note_48 : decode cX9_note 48 = .ok (.dup, 1) := by decide +kernel
theorem dX9_note_49 : decode cX9_note 49 = .ok (.getfield 57, 3) := by decide +kernel
theorem dX9_note_52 : decode cX9_note 52 = .ok (.iload_n 3, 1) := by decide +kernel
theorem dX9_note_53 : decode cX9_note 53 = .ok (.iconst (-1), 1) := by decide +kernel
theorem dX9_note_54 : decode cX9_note 54 = .ok (.if_icmp .ne 7, 3) := by decide +kernel
theorem dX9_note_57 : decode cX9_note 57 = .ok (.iconst 0, 1) := by decide +kernel
theorem dX9_note_58 : decode cX9_note 58 = .ok (.goto 6, 3) := by decide +kernel
theorem dX9_note_61 : decode cX9_note 61 = .ok (.iconst 1, 1) := by decide +kernel
theorem dX9_note_62 : decode cX9_note 62 = .ok (.iload_n 1, 1) := by decide +kernel
theorem dX9_note_63 : decode cX9_note 63 = .ok (.ishl, 1) := by decide +kernel
theorem dX9_note_64 : decode cX9_note 64 = .ok (.ior, 1) := by decide +kernel
theorem dX9_note_65 : decode cX9_note 65 = .ok (.putfield 57, 3) := by decide +kernel
theorem dX9_note_68 : decode cX9_note 68 = .ok (.return_, 1) := by decide +kernel
theorem dX9_soleMoment_0 : decode cX9_soleMoment 0 = .ok (.iconst 0, 1) := by decide +kernel
theorem dX9_soleMoment_1 : decode cX9_soleMoment 1 = .ok (.istore_n 2, 1) := by decide +kernel
theorem dX9_soleMoment_2 : decode cX9_soleMoment 2 = .ok (.aload_n 0, 1) := by decide +kernel
theorem dX9_soleMoment_3 : decode cX9_soleMoment 3 = .ok (.getfield 64, 3) := by decide +kernel
theorem dX9_soleMoment_6 : decode cX9_soleMoment 6 = .ok (.istore_n 3, 1) := by decide +kernel
theorem dX9_soleMoment_7 : decode cX9_soleMoment 7 = .ok (.iload_n 3, 1) := by decide +kernel
theorem dX9_soleMoment_8 : decode cX9_soleMoment 8 = .ok (.iload_n 1, 1) := by decide +kernel
theorem dX9_soleMoment_9 : decode cX9_soleMoment 9 = .ok (.if_icmp .ge 46, 3) := by decide +kernel
theorem dX9_soleMoment_12 : decode cX9_soleMoment 12 = .ok (.iload_n 2, 1) := by decide +kernel
theorem dX9_soleMoment_13 : decode cX9_soleMoment 13 = .ok (.aload_n 0, 1) := by decide +kernel
theorem dX9_soleMoment_14 : decode cX9_soleMoment 14 = .ok (.iload_n 3, 1) := by decide +kernel
theorem dX9_soleMoment_15 : decode cX9_soleMoment 15 = .ok (.aload_n 0, 1) := by decide +kernel
theorem dX9_soleMoment_16 : decode cX9_soleMoment 16 = .ok (.iload_n 3, 1) := by decide +kernel
theorem dX9_soleMoment_17 : decode cX9_soleMoment 17 = .ok (.invokevirtual 71, 3) := by decide +kernel
theorem dX9_soleMoment_20 : decode cX9_soleMoment 20 = .ok (.invokevirtual 75, 3) := by decide +kernel
theorem dX9_soleMoment_23 : decode cX9_soleMoment 23 = .ok (.iadd, 1) := by decide +kernel
theorem dX9_soleMoment_24 : decode cX9_soleMoment 24 = .ok (.istore_n 2, 1) := by decide +kernel
theorem dX9_soleMoment_25 : decode cX9_soleMoment 25 = .ok (.aload_n 0, 1) := by decide +kernel
theorem dX9_soleMoment_26 : decode cX9_soleMoment 26 = .ok (.iload_n 2, 1) := by decide +kernel
theorem dX9_soleMoment_27 : decode cX9_soleMoment 27 = .ok (.invokevirtual 79, 3) := by decide +kernel
theorem dX9_soleMoment_30 : decode cX9_soleMoment 30 = .ok (.istore 4, 2) := by decide +kernel
theorem dX9_soleMoment_32 : decode cX9_soleMoment 32 = .ok (.iload 4, 2) := by decide +kernel
theorem dX9_soleMoment_34 : decode cX9_soleMoment 34 = .ok (.iconst (-1), 1) := by decide +kernel
theorem dX9_soleMoment_35 : decode cX9_soleMoment 35 = .ok (.if_icmp .eq 12, 3) := by decide +kernel
theorem dX9_soleMoment_38 : decode cX9_soleMoment 38 = .ok (.aload_n 0, 1) := by decide +kernel
theorem dX9_soleMoment_39 : decode cX9_soleMoment 39 = .ok (.iload 4, 2) := by decide +kernel
theorem dX9_soleMoment_41 : decode cX9_soleMoment 41 = .ok (.invokevirtual 82, 3) := by decide +kernel
theorem dX9_soleMoment_44 : decode cX9_soleMoment 44 = .ok (.ifCond .eq 5, 3) := by decide +kernel
theorem dX9_soleMoment_47 : decode cX9_soleMoment 47 = .ok (.iconst (-1), 1) := by decide +kernel
theorem dX9_soleMoment_48 : decode cX9_soleMoment 48 = .ok (.ireturn, 1) := by decide +kernel
theorem dX9_soleMoment_49 : decode cX9_soleMoment 49 = .ok (.iinc 3 1, 3) := by decide +kernel
theorem dX9_soleMoment_52 : decode cX9_soleMoment 52 = .ok (.goto (-45), 3) := by decide +kernel
theorem dX9_soleMoment_55 : decode cX9_soleMoment 55 = .ok (.iload_n 1, 1) := by decide +kernel
theorem dX9_soleMoment_56 : decode cX9_soleMoment 56 = .ok (.aload_n 0, 1) := by decide +kernel
theorem dX9_soleMoment_57 : decode cX9_soleMoment 57 = .ok (.getfield 64, 3) := by decide +kernel
theorem dX9_soleMoment_60 : decode cX9_soleMoment 60 = .ok (.if_icmp .ge 7, 3) := by decide +kernel
theorem dX9_soleMoment_63 : decode cX9_soleMoment 63 = .ok (.iconst (-1), 1) := by decide +kernel
theorem dX9_soleMoment_64 : decode cX9_soleMoment 64 = .ok (.goto 19, 3) := by decide +kernel
theorem dX9_soleMoment_67 : decode cX9_soleMoment 67 = .ok (.aload_n 0, 1) := by decide +kernel
theorem dX9_soleMoment_68 : decode cX9_soleMoment 68 = .ok (.iload_n 2, 1) := by decide +kernel
theorem dX9_soleMoment_69 : decode cX9_soleMoment 69 = .ok (.aload_n 0, 1) := by decide +kernel
theorem dX9_soleMoment_70 : decode cX9_soleMoment 70 = .ok (.iload_n 1, 1) := by decide +kernel
theorem dX9_soleMoment_71 : decode cX9_soleMoment 71 = .ok (.aload_n 0, 1) := by decide +kernel
theorem dX9_soleMoment_72 : decode cX9_soleMoment 72 = .ok (.iload_n 1, 1) := by decide +kernel
theorem dX9_soleMoment_73 : decode cX9_soleMoment 73 = .ok (.invokevirtual 71, 3) := by decide +kernel
theorem dX9_soleMoment_76 : decode cX9_soleMoment 76 = .ok (.invokevirtual 75, 3) := by decide +kernel
theorem dX9_soleMoment_79 : decode cX9_soleMoment 79 = .ok (.iadd, 1) := by decide +kernel
theorem dX9_soleMoment_80 : decode cX9_soleMoment 80 = .ok (.invokevirtual 79, 3) := by decide +kernel
theorem dX9_soleMoment_83 : decode cX9_soleMoment 83 = .ok (.ireturn, 1) := by decide +kernel
theorem dX9_heardLong_0 : decode cX9_heardLong 0 = .ok (.iconst 0, 1) := by decide +kernel
theorem dX9_heardLong_1 : decode cX9_heardLong 1 = .ok (.istore_n 1, 1) := by decide +kernel
theorem dX9_heardLong_2 : decode cX9_heardLong 2 = .ok (.iconst 0, 1) := by decide +kernel
theorem dX9_heardLong_3 : decode cX9_heardLong 3 = .ok (.istore_n 2, 1) := by decide +kernel
theorem dX9_heardLong_4 : decode cX9_heardLong 4 = .ok (.aload_n 0, 1) := by decide +kernel
theorem dX9_heardLong_5 : decode cX9_heardLong 5 = .ok (.getfield 64, 3) := by decide +kernel
theorem dX9_heardLong_8 : decode cX9_heardLong 8 = .ok (.istore_n 3, 1) := by decide +kernel
theorem dX9_heardLong_9 : decode cX9_heardLong 9 = .ok (.iload_n 3, 1) := by decide +kernel
theorem dX9_heardLong_10 : decode cX9_heardLong 10 = .ok (.bipush 30, 2) := by decide +kernel
theorem dX9_heardLong_12 : decode cX9_heardLong 12 = .ok (.if_icmp .ge 51, 3) := by decide +kernel
theorem dX9_heardLong_15 : decode cX9_heardLong 15 = .ok (.iload_n 1, 1) := by decide +kernel
theorem dX9_heardLong_16 : decode cX9_heardLong 16 = .ok (.aload_n 0, 1) := by decide +kernel
theorem dX9_heardLong_17 : decode cX9_heardLong 17 = .ok (.iload_n 3, 1) := by decide +kernel
theorem dX9_heardLong_18 : decode cX9_heardLong 18 = .ok (.aload_n 0, 1) := by decide +kernel
theorem dX9_heardLong_19 : decode cX9_heardLong 19 = .ok (.iload_n 3, 1) := by decide +kernel
theorem dX9_heardLong_20 : decode cX9_heardLong 20 = .ok (.invokevirtual 71, 3) := by decide +kernel
theorem dX9_heardLong_23 : decode cX9_heardLong 23 = .ok (.invokevirtual 75, 3) := by decide +kernel
theorem dX9_heardLong_26 : decode cX9_heardLong 26 = .ok (.iadd, 1) := by decide +kernel
theorem dX9_heardLong_27 : decode cX9_heardLong 27 = .ok (.istore_n 1, 1) := by decide +kernel
theorem dX9_heardLong_28 : decode cX9_heardLong 28 = .ok (.aload_n 0, 1) := by decide +kernel
theorem dX9_heardLong_29 : decode cX9_heardLong 29 = .ok (.iload_n 1, 1) := by decide +kernel
theorem dX9_heardLong_30 : decode cX9_heardLong 30 = .ok (.invokevirtual 79, 3) := by decide +kernel
theorem dX9_heardLong_33 : decode cX9_heardLong 33 = .ok (.istore 4, 2) := by decide +kernel
theorem dX9_heardLong_35 : decode cX9_heardLong 35 = .ok (.iload 4, 2) := by decide +kernel
theorem dX9_heardLong_37 : decode cX9_heardLong 37 = .ok (.iconst (-1), 1) := by decide +kernel
theorem dX9_heardLong_38 : decode cX9_heardLong 38 = .ok (.if_icmp .ne 5, 3) := by decide +kernel
theorem dX9_heardLong_41 : decode cX9_heardLong 41 = .ok (.iload_n 2, 1) := by decide +kernel
theorem dX9_heardLong_42 : decode cX9_heardLong 42 = .ok (.ireturn, 1) := by decide +kernel
theorem dX9_heardLong_43 : decode cX9_heardLong 43 = .ok (.iinc 2 1, 3) := by decide +kernel
theorem dX9_heardLong_46 : decode cX9_heardLong 46 = .ok (.aload_n 0, 1) := by decide +kernel
theorem dX9_heardLong_47 : decode cX9_heardLong 47 = .ok (.iload 4, 2) := by decide +kernel
theorem dX9_heardLong_49 : decode cX9_heardLong 49 = .ok (.invokevirtual 82, 3) := by decide +kernel
theorem dX9_heardLong_52 : decode cX9_heardLong 52 = .ok (.ifCond .eq 5, 3) := by decide +kernel
theorem dX9_heardLong_55 : decode cX9_heardLong 55 = .ok (.iload_n 2, 1) := by decide +kernel
theorem dX9_heardLong_56 : decode cX9_heardLong 56 = .ok (.ireturn, 1) := by decide +kernel
theorem dX9_heardLong_57 : decode cX9_heardLong 57 = .ok (.iinc 3 1, 3) := by decide +kernel
theorem dX9_heardLong_60 : decode cX9_heardLong 60 = .ok (.goto (-51), 3) := by decide +kernel
theorem dX9_heardLong_63 : decode cX9_heardLong 63 = .ok (.iload_n 2, 1) := by decide +kernel
theorem dX9_heardLong_64 : decode cX9_heardLong 64 = .ok (.ireturn, 1) := by decide +kernel
theorem dX9_firstScream_0 : decode cX9_firstScream 0 = .ok (.iconst 0, 1) := by decide +kernel
theorem dX9_firstScream_1 : decode cX9_firstScream 1 = .ok (.istore_n 1, 1) := by decide +kernel
theorem dX9_firstScream_2 : decode cX9_firstScream 2 = .ok (.iload_n 1, 1) := by decide +kernel
theorem dX9_firstScream_3 : decode cX9_firstScream 3 = .ok (.bipush 30, 2) := by decide +kernel
theorem dX9_firstScream_5 : decode cX9_firstScream 5 = .ok (.if_icmp .ge 26, 3) := by decide +kernel
theorem dX9_firstScream_8 : decode cX9_firstScream 8 = .ok (.aload_n 0, 1) := by decide +kernel
theorem dX9_firstScream_9 : decode cX9_firstScream 9 = .ok (.getfield 30, 3) := by decide +kernel
theorem dX9_firstScream_12 : decode cX9_firstScream 12 = .ok (.aload_n 0, 1) := by decide +kernel
theorem dX9_firstScream_13 : decode cX9_firstScream 13 = .ok (.iload_n 1, 1) := by decide +kernel
theorem dX9_firstScream_14 : decode cX9_firstScream 14 = .ok (.invokevirtual 86, 3) := by decide +kernel
theorem dX9_firstScream_17 : decode cX9_firstScream 17 = .ok (.invokestatic 41, 3) := by decide +kernel
theorem dX9_firstScream_20 : decode cX9_firstScream 20 = .ok (.ifCond .eq 5, 3) := by decide +kernel
theorem dX9_firstScream_23 : decode cX9_firstScream 23 = .ok (.iload_n 1, 1) := by decide +kernel
theorem dX9_firstScream_24 : decode cX9_firstScream 24 = .ok (.ireturn, 1) := by decide +kernel
theorem dX9_firstScream_25 : decode cX9_firstScream 25 = .ok (.iinc 1 1, 3) := by decide +kernel
theorem dX9_firstScream_28 : decode cX9_firstScream 28 = .ok (.goto (-26), 3) := by decide +kernel
theorem dX9_firstScream_31 : decode cX9_firstScream 31 = .ok (.iconst (-1), 1) := by decide +kernel
theorem dX9_firstScream_32 : decode cX9_firstScream 32 = .ok (.ireturn, 1) := by decide +kernel
theorem dX10_init_0 : decode cX10_init 0 = .ok (.aload_n 0, 1) := by decide +kernel
theorem dX10_init_1 : decode cX10_init 1 = .ok (.invokespecial 3, 3) := by decide +kernel
theorem dX10_init_4 : decode cX10_init 4 = .ok (.aload_n 0, 1) := by decide +kernel
theorem dX10_init_5 : decode cX10_init 5 = .ok (.bipush 8, 2) := by decide +kernel
theorem dX10_init_7 : decode cX10_init 7 = .ok (.newarray .int, 2) := by decide +kernel
theorem dX10_init_9 : decode cX10_init 9 = .ok (.putfield 9, 3) := by decide +kernel
theorem dX10_init_12 : decode cX10_init 12 = .ok (.aload_n 0, 1) := by decide +kernel
theorem dX10_init_13 : decode cX10_init 13 = .ok (.bipush 8, 2) := by decide +kernel
theorem dX10_init_15 : decode cX10_init 15 = .ok (.newarray .int, 2) := by decide +kernel
theorem dX10_init_17 : decode cX10_init 17 = .ok (.putfield 15, 3) := by decide +kernel
theorem dX10_init_20 : decode cX10_init 20 = .ok (.aload_n 0, 1) := by decide +kernel
theorem dX10_init_21 : decode cX10_init 21 = .ok (.bipush 8, 2) := by decide +kernel
theorem dX10_init_23 : decode cX10_init 23 = .ok (.newarray .int, 2) := by decide +kernel
theorem dX10_init_25 : decode cX10_init 25 = .ok (.putfield 18, 3) := by decide +kernel
theorem dX10_init_28 : decode cX10_init 28 = .ok (.aload_n 0, 1) := by decide +kernel
theorem dX10_init_29 : decode cX10_init 29 = .ok (.bipush 40, 2) := by decide +kernel
theorem dX10_init_31 : decode cX10_init 31 = .ok (.newarray .int, 2) := by decide +kernel
theorem dX10_init_33 : decode cX10_init 33 = .ok (.putfield 21, 3) := by decide +kernel
theorem dX10_init_36 : decode cX10_init 36 = .ok (.aload_n 0, 1) := by decide +kernel
theorem dX10_init_37 : decode cX10_init 37 = .ok (.iconst (-1), 1) := by decide +kernel
theorem dX10_init_38 : decode cX10_init 38 = .ok (.putfield 24, 3) := by decide +kernel
theorem dX10_init_41 : decode cX10_init 41 = .ok (.return_, 1) := by decide +kernel
theorem dX10_readFrom_0 : decode cX10_readFrom 0 = .ok (.aload_n 0, 1) := by decide +kernel
theorem dX10_readFrom_1 : decode cX10_readFrom 1 = .ok (.iconst 0, 1) := by decide +kernel
theorem dX10_readFrom_2 : decode cX10_readFrom 2 = .ok (.putfield 28, 3) := by decide +kernel
theorem dX10_readFrom_5 : decode cX10_readFrom 5 = .ok (.aload_n 0, 1) := by decide +kernel
theorem dX10_readFrom_6 : decode cX10_readFrom 6 = .ok (.iconst 0, 1) := by decide +kernel
theorem dX10_readFrom_7 : decode cX10_readFrom 7 = .ok (.putfield 31, 3) := by decide +kernel
theorem dX10_readFrom_10 : decode cX10_readFrom 10 = .ok (.aload_n 0, 1) := by decide +kernel
theorem dX10_readFrom_11 : decode cX10_readFrom 11 = .ok (.iconst (-1), 1) := by decide +kernel
theorem dX10_readFrom_12 : decode cX10_readFrom 12 = .ok (.putfield 24, 3) := by decide +kernel
theorem dX10_readFrom_15 : decode cX10_readFrom 15 = .ok (.iconst 0, 1) := by decide +kernel
theorem dX10_readFrom_16 : decode cX10_readFrom 16 = .ok (.istore_n 2, 1) := by decide +kernel
theorem dX10_readFrom_17 : decode cX10_readFrom 17 = .ok (.iload_n 2, 1) := by decide +kernel
theorem dX10_readFrom_18 : decode cX10_readFrom 18 = .ok (.aload_n 1, 1) := by decide +kernel
theorem dX10_readFrom_19 : decode cX10_readFrom 19 = .ok (.getfield 34, 3) := by decide +kernel
theorem dX10_readFrom_22 : decode cX10_readFrom 22 = .ok (.if_icmp .ge 34, 3) := by decide +kernel
theorem dX10_readFrom_25 : decode cX10_readFrom 25 = .ok (.aload_n 0, 1) := by decide +kernel
theorem dX10_readFrom_26 : decode cX10_readFrom 26 = .ok (.getfield 24, 3) := by decide +kernel
theorem dX10_readFrom_29 : decode cX10_readFrom 29 = .ok (.iconst (-1), 1) := by decide +kernel
theorem dX10_readFrom_30 : decode cX10_readFrom 30 = .ok (.if_icmp .ne 26, 3) := by decide +kernel
theorem dX10_readFrom_33 : decode cX10_readFrom 33 = .ok (.aload_n 0, 1) := by decide +kernel
theorem dX10_readFrom_34 : decode cX10_readFrom 34 = .ok (.aload_n 1, 1) := by decide +kernel
theorem dX10_readFrom_35 : decode cX10_readFrom 35 = .ok (.iload_n 2, 1) := by decide +kernel
theorem dX10_readFrom_36 : decode cX10_readFrom 36 = .ok (.invokevirtual 39, 3) := by decide +kernel
theorem dX10_readFrom_39 : decode cX10_readFrom 39 = .ok (.invokevirtual 43, 3) := by decide +kernel
theorem dX10_readFrom_42 : decode cX10_readFrom 42 = .ok (.ifCond .ne 8, 3) := by decide +kernel
theorem dX10_readFrom_45 : decode cX10_readFrom 45 = .ok (.aload_n 0, 1) := by decide +kernel
theorem dX10_readFrom_46 : decode cX10_readFrom 46 = .ok (.iload_n 2, 1) := by decide +kernel
theorem dX10_readFrom_47 : decode cX10_readFrom 47 = .ok (.putfield 24, 3) := by decide +kernel
theorem dX10_readFrom_50 : decode cX10_readFrom 50 = .ok (.iinc 2 1, 3) := by decide +kernel
theorem dX10_readFrom_53 : decode cX10_readFrom 53 = .ok (.goto (-36), 3) := by decide +kernel
theorem dX10_readFrom_56 : decode cX10_readFrom 56 = .ok (.aload_n 0, 1) := by decide +kernel
theorem dX10_readFrom_57 : decode cX10_readFrom 57 = .ok (.getfield 24, 3) := by decide +kernel
theorem dX10_readFrom_60 : decode cX10_readFrom 60 = .ok (.iconst (-1), 1) := by decide +kernel
theorem dX10_readFrom_61 : decode cX10_readFrom 61 = .ok (.if_icmp .ne 25, 3) := by decide +kernel
theorem dX10_readFrom_64 : decode cX10_readFrom 64 = .ok (.aload_n 1, 1) := by decide +kernel
theorem dX10_readFrom_65 : decode cX10_readFrom 65 = .ok (.getfield 34, 3) := by decide +kernel
theorem dX10_readFrom_68 : decode cX10_readFrom 68 = .ok (.ifCond .le 18, 3) := by decide +kernel
theorem dX10_readFrom_71 : decode cX10_readFrom 71 = .ok (.aload_n 0, 1) := by decide +kernel
theorem dX10_readFrom_72 : decode cX10_readFrom 72 = .ok (.invokevirtual 47, 3) := by decide +kernel
theorem dX10_readFrom_75 : decode cX10_readFrom 75 = .ok (.ifCond .ne 11, 3) := by decide +kernel
theorem dX10_readFrom_78 : decode cX10_readFrom 78 = .ok (.aload_n 0, 1) := by decide +kernel
theorem dX10_readFrom_79 : decode cX10_readFrom 79 = .ok (.aload_n 1, 1) := by decide +kernel
theorem dX10_readFrom_80 : decode cX10_readFrom 80 = .ok (.getfield 34, 3) := by decide +kernel
theorem dX10_readFrom_83 : decode cX10_readFrom 83 = .ok (.putfield 24, 3) := by decide +kernel
theorem dX10_readFrom_86 : decode cX10_readFrom 86 = .ok (.aload_n 0, 1) := by decide +kernel
theorem dX10_readFrom_87 : decode cX10_readFrom 87 = .ok (.getfield 24, 3) := by decide +kernel
theorem dX10_readFrom_90 : decode cX10_readFrom 90 = .ok (.iconst (-1), 1) := by decide +kernel
theorem dX10_readFrom_91 : decode cX10_readFrom 91 = .ok (.if_icmp .eq 8, 3) := by decide +kernel
theorem dX10_readFrom_94 : decode cX10_readFrom 94 = .ok (.aload_n 0, 1) := by decide +kernel
theorem dX10_readFrom_95 : decode cX10_readFrom 95 = .ok (.iconst 0, 1) := by decide +kernel
theorem dX10_readFrom_96 : decode cX10_readFrom 96 = .ok (.putfield 28, 3) := by decide +kernel
theorem dX10_readFrom_99 : decode cX10_readFrom 99 = .ok (.return_, 1) := by decide +kernel
theorem dX10_takes_0 : decode cX10_takes 0 = .ok (.aload_n 0, 1) := by decide +kernel
theorem dX10_takes_1 : decode cX10_takes 1 = .ok (.getfield 31, 3) := by decide +kernel
theorem dX10_takes_4 : decode cX10_takes 4 = .ok (.ifCond .ne 39, 3) := by decide +kernel
theorem dX10_takes_7 : decode cX10_takes 7 = .ok (.aload_n 0, 1) := by decide +kernel
theorem dX10_takes_8 : decode cX10_takes 8 = .ok (.iload_n 1, 1) := by decide +kernel
theorem dX10_takes_9 : decode cX10_takes 9 = .ok (.bipush 104, 2) := by decide +kernel
theorem dX10_takes_11 : decode cX10_takes 11 = .ok (.if_icmp .ne 7, 3) := by decide +kernel
theorem dX10_takes_14 : decode cX10_takes 14 = .ok (.iconst 0, 1) := by decide +kernel
theorem dX10_takes_15 : decode cX10_takes 15 = .ok (.goto 24, 3) := by decide +kernel
theorem dX10_takes_18 : decode cX10_takes 18 = .ok (.iload_n 1, 1) := by decide +kernel
theorem dX10_takes_19 : decode cX10_takes 19 = .ok (.bipush 115, 2) := by decide +kernel
theorem dX10_takes_21 : decode cX10_takes 21 = .ok (.if_icmp .ne 7, 3) := by decide +kernel
theorem dX10_takes_24 : decode cX10_takes 24 = .ok (.iconst 1, 1) := by decide +kernel
theorem dX10_takes_25 : decode cX10_takes 25 = .ok (.goto 14, 3) := by decide +kernel
theorem dX10_takes_28 : decode cX10_takes 28 = .ok (.iload_n 1, 1) := by decide +kernel
theorem dX10_takes_29 : decode cX10_takes 29 = .ok (.bipush 98, 2) := by decide +kernel
theorem dX10_takes_31 : decode cX10_takes 31 = .ok (.if_icmp .ne 7, 3) := by decide +kernel
theorem dX10_takes_34 : decode cX10_takes 34 = .ok (.iconst 2, 1) := by decide +kernel
theorem dX10_takes_35 : decode cX10_takes 35 = .ok (.goto 4, 3) := by decide +kernel
theorem dX10_takes_38 : decode cX10_takes 38 = .ok (.iconst (-1), 1) := by decide +kernel
theorem dX10_takes_39 : decode cX10_takes 39 = .ok (.invokevirtual 51, 3) := by decide +kernel
theorem dX10_takes_42 : decode cX10_takes 42 = .ok (.ireturn, 1) := by decide +kernel
theorem dX10_takes_43 : decode cX10_takes 43 = .ok (.aload_n 0, 1) := by decide +kernel
theorem dX10_takes_44 : decode cX10_takes 44 = .ok (.getfield 31, 3) := by decide +kernel
theorem dX10_takes_47 : decode cX10_takes 47 = .ok (.iconst 3, 1) := by decide +kernel
theorem dX10_takes_48 : decode cX10_takes 48 = .ok (.if_icmp .ge 18, 3) := by decide +kernel
theorem dX10_takes_51 : decode cX10_takes 51 = .ok (.aload_n 0, 1) := by decide +kernel
theorem dX10_takes_52 : decode cX10_takes 52 = .ok (.aload_n 0, 1) := by decide +kernel
theorem dX10_takes_53 : decode cX10_takes 53 = .ok (.getfield 28, 3) := by decide +kernel
theorem dX10_takes_56 : decode cX10_takes 56 = .ok (.iconst 1, 1) := by decide +kernel
theorem dX10_takes_57 : decode cX10_takes 57 = .ok (.isub, 1) := by decide +kernel
theorem dX10_takes_58 : decode cX10_takes 58 = .ok (.iload_n 1, 1) := by decide +kernel
theorem dX10_takes_59 : decode cX10_takes 59 = .ok (.bipush 48, 2) := by decide +kernel
theorem dX10_takes_61 : decode cX10_takes 61 = .ok (.isub, 1) := by decide +kernel
theorem dX10_takes_62 : decode cX10_takes 62 = .ok (.invokevirtual 54, 3) := by decide +kernel
theorem dX10_takes_65 : decode cX10_takes 65 = .ok (.ireturn, 1) := by decide +kernel
theorem dX10_takes_66 : decode cX10_takes 66 = .ok (.iload_n 1, 1) := by decide +kernel
theorem dX10_takes_67 : decode cX10_takes 67 = .ok (.bipush 59, 2) := by decide +kernel
theorem dX10_takes_69 : decode cX10_takes 69 = .ok (.if_icmp .ne 10, 3) := by decide +kernel
theorem dX10_takes_72 : decode cX10_takes 72 = .ok (.aload_n 0, 1) := by decide +kernel
theorem dX10_takes_73 : decode cX10_takes 73 = .ok (.invokevirtual 58, 3) := by decide +kernel
theorem dX10_takes_76 : decode cX10_takes 76 = .ok (.goto 17, 3) := by decide +kernel
theorem dX10_takes_79 : decode cX10_takes 79 = .ok (.aload_n 0, 1) := by decide +kernel
theorem dX10_takes_80 : decode cX10_takes 80 = .ok (.aload_n 0, 1) := by decide +kernel
theorem dX10_takes_81 : decode cX10_takes 81 = .ok (.getfield 28, 3) := by decide +kernel
theorem dX10_takes_84 : decode cX10_takes 84 = .ok (.iconst 1, 1) := by decide +kernel
theorem dX10_takes_85 : decode cX10_takes 85 = .ok (.isub, 1) := by decide +kernel
theorem dX10_takes_86 : decode cX10_takes 86 = .ok (.iload_n 1, 1) := by decide +kernel
theorem dX10_takes_87 : decode cX10_takes 87 = .ok (.bipush 97, 2) := by decide +kernel
theorem dX10_takes_89 : decode cX10_takes 89 = .ok (.isub, 1) := by decide +kernel
theorem dX10_takes_90 : decode cX10_takes 90 = .ok (.invokevirtual 61, 3) := by decide +kernel
theorem dX10_takes_93 : decode cX10_takes 93 = .ok (.ireturn, 1) := by decide +kernel
theorem dX10_takesSort_0 : decode cX10_takesSort 0 = .ok (.iload_n 1, 1) := by decide +kernel
theorem dX10_takesSort_1 : decode cX10_takesSort 1 = .ok (.iconst (-1), 1) := by decide +kernel
theorem dX10_takesSort_2 : decode cX10_takesSort 2 = .ok (.if_icmp .eq 19, 3) := by decide +kernel
theorem dX10_takesSort_5 : decode cX10_takesSort 5 = .ok (.aload_n 0, 1) := by decide +kernel
theorem dX10_takesSort_6 : decode cX10_takesSort 6 = .ok (.getfield 28, 3) := by decide +kernel
theorem dX10_takesSort_9 : decode cX10_takesSort 9 = .ok (.ifCond .lt 12, 3) := by decide +kernel
theorem dX10_takesSort_12 : decode cX10_takesSort 12 = .ok (.aload_n 0, 1) := by decide +kernel
theorem dX10_takesSort_13 : decode cX10_takesSort 13 = .ok (.getfield 28, 3) := by decide +kernel
theorem dX10_takesSort_16 : decode cX10_takesSort 16 = .ok (.bipush 8, 2) := by decide +kernel
theorem dX10_takesSort_18 : decode cX10_takesSort 18 = .ok (.if_icmp .lt 5, 3) := by decide +kernel
theorem dX10_takesSort_21 : decode cX10_takesSort 21 = .ok (.iconst 0, 1) := by decide +kernel
theorem dX10_takesSort_22 : decode cX10_takesSort 22 = .ok (.ireturn, 1) := by decide +kernel
theorem dX10_takesSort_23 : decode cX10_takesSort 23 = .ok (.aload_n 0, 1) := by decide +kernel
theorem dX10_takesSort_24 : decode cX10_takesSort 24 = .ok (.getfield 9, 3) := by decide +kernel
theorem dX10_takesSort_27 : decode cX10_takesSort 27 = .ok (.aload_n 0, 1) := by decide +kernel
theorem dX10_takesSort_28 : decode cX10_takesSort 28 = .ok (.getfield 28, 3) := by decide +kernel
theorem dX10_takesSort_31 : decode cX10_takesSort 31 = .ok (.iload_n 1, 1) := by decide +kernel
theorem dX10_takesSort_32 : decode cX10_takesSort 32 = .ok (.iastore, 1) := by decide +kernel
theorem dX10_takesSort_33 : decode cX10_takesSort 33 = .ok (.aload_n 0, 1) := by decide +kernel
theorem dX10_takesSort_34 : decode cX10_takesSort 34 = .ok (.getfield 15, 3) := by decide +kernel
theorem dX10_takesSort_37 : decode cX10_takesSort 37 = .ok (.aload_n 0, 1) := by decide +kernel
theorem dX10_takesSort_38 : decode cX10_takesSort 38 = .ok (.getfield 28, 3) := by decide +kernel
theorem dX10_takesSort_41 : decode cX10_takesSort 41 = .ok (.iconst 0, 1) := by decide +kernel
theorem dX10_takesSort_42 : decode cX10_takesSort 42 = .ok (.iastore, 1) := by decide +kernel
theorem dX10_takesSort_43 : decode cX10_takesSort 43 = .ok (.aload_n 0, 1) := by decide +kernel
theorem dX10_takesSort_44 : decode cX10_takesSort 44 = .ok (.getfield 18, 3) := by decide +kernel
theorem dX10_takesSort_47 : decode cX10_takesSort 47 = .ok (.aload_n 0, 1) := by decide +kernel
theorem dX10_takesSort_48 : decode cX10_takesSort 48 = .ok (.getfield 28, 3) := by decide +kernel
theorem dX10_takesSort_51 : decode cX10_takesSort 51 = .ok (.iconst 0, 1) := by decide +kernel
theorem dX10_takesSort_52 : decode cX10_takesSort 52 = .ok (.iastore, 1) := by decide +kernel
theorem dX10_takesSort_53 : decode cX10_takesSort 53 = .ok (.aload_n 0, 1) := by decide +kernel
theorem dX10_takesSort_54 : decode cX10_takesSort 54 = .ok (.dup, 1) := by decide +kernel
theorem dX10_takesSort_55 : decode cX10_takesSort 55 = .ok (.getfield 28, 3) := by decide +kernel
theorem dX10_takesSort_58 : decode cX10_takesSort 58 = .ok (.iconst 1, 1) := by decide +kernel
theorem dX10_takesSort_59 : decode cX10_takesSort 59 = .ok (.iadd, 1) := by decide +kernel
theorem dX10_takesSort_60 : decode cX10_takesSort 60 = .ok (.putfield 28, 3) := by decide +kernel
theorem dX10_takesSort_63 : decode cX10_takesSort 63 = .ok (.aload_n 0, 1) := by decide +kernel
theorem dX10_takesSort_64 : decode cX10_takesSort 64 = .ok (.iconst 1, 1) := by decide +kernel
theorem dX10_takesSort_65 : decode cX10_takesSort 65 = .ok (.putfield 31, 3) := by decide +kernel
theorem dX10_takesSort_68 : decode cX10_takesSort 68 = .ok (.iconst 1, 1) := by decide +kernel
theorem dX10_takesSort_69 : decode cX10_takesSort 69 = .ok (.ireturn, 1) := by decide +kernel
theorem dX10_takesFigure_0 : decode cX10_takesFigure 0 = .ok (.iload_n 2, 1) := by decide +kernel
theorem dX10_takesFigure_1 : decode cX10_takesFigure 1 = .ok (.ifCond .lt 34, 3) := by decide +kernel
theorem dX10_takesFigure_4 : decode cX10_takesFigure 4 = .ok (.iload_n 2, 1) := by decide +kernel
theorem dX10_takesFigure_5 : decode cX10_takesFigure 5 = .ok (.aload_n 0, 1) := by decide +kernel
theorem dX10_takesFigure_6 : decode cX10_takesFigure 6 = .ok (.getfield 31, 3) := by decide +kernel
theorem dX10_takesFigure_9 : decode cX10_takesFigure 9 = .ok (.iconst 1, 1) := by decide +kernel
theorem dX10_takesFigure_10 : decode cX10_takesFigure 10 = .ok (.if_icmp .ne 7, 3) := by decide +kernel
theorem dX10_takesFigure_13 : decode cX10_takesFigure 13 = .ok (.iconst 1, 1) := by decide +kernel
theorem dX10_takesFigure_14 : decode cX10_takesFigure 14 = .ok (.goto 5, 3) := by decide +kernel
theorem dX10_takesFigure_17 : decode cX10_takesFigure 17 = .ok (.bipush 9, 2) := by decide +kernel
theorem dX10_takesFigure_19 : decode cX10_takesFigure 19 = .ok (.if_icmp .gt 16, 3) := by decide +kernel
theorem dX10_takesFigure_22 : decode cX10_takesFigure 22 = .ok (.iload_n 1, 1) := by decide +kernel
theorem dX10_takesFigure_23 : decode cX10_takesFigure 23 = .ok (.ifCond .lt 12, 3) := by decide +kernel
theorem dX10_takesFigure_26 : decode cX10_takesFigure 26 = .ok (.iload_n 1, 1) := by decide +kernel
theorem dX10_takesFigure_27 : decode cX10_takesFigure 27 = .ok (.aload_n 0, 1) := by decide +kernel
theorem dX10_takesFigure_28 : decode cX10_takesFigure 28 = .ok (.getfield 15, 3) := by decide +kernel
theorem dX10_takesFigure_31 : decode cX10_takesFigure 31 = .ok (.arraylength, 1) := by decide +kernel
theorem dX10_takesFigure_32 : decode cX10_takesFigure 32 = .ok (.if_icmp .lt 5, 3) := by decide +kernel
theorem dX10_takesFigure_35 : decode cX10_takesFigure 35 = .ok (.iconst 0, 1) := by decide +kernel
theorem dX10_takesFigure_36 : decode cX10_takesFigure 36 = .ok (.ireturn, 1) := by decide +kernel
theorem dX10_takesFigure_37 : decode cX10_takesFigure 37 = .ok (.aload_n 0, 1) := by decide +kernel
theorem dX10_takesFigure_38 : decode cX10_takesFigure 38 = .ok (.getfield 15, 3) := by decide +kernel
theorem dX10_takesFigure_41 : decode cX10_takesFigure 41 = .ok (.iload_n 1, 1) := by decide +kernel
theorem dX10_takesFigure_42 : decode cX10_takesFigure 42 = .ok (.bipush 10, 2) := by decide +kernel
theorem dX10_takesFigure_44 : decode cX10_takesFigure 44 = .ok (.aload_n 0, 1) := by decide +kernel
theorem dX10_takesFigure_45 : decode cX10_takesFigure 45 = .ok (.getfield 15, 3) := by decide +kernel
theorem dX10_takesFigure_48 : decode cX10_takesFigure 48 = .ok (.iload_n 1, 1) := by decide +kernel
theorem dX10_takesFigure_49 : decode cX10_takesFigure 49 = .ok (.iaload, 1) := by decide +kernel
theorem dX10_takesFigure_50 : decode cX10_takesFigure 50 = .ok (.imul, 1) := by decide +kernel
theorem dX10_takesFigure_51 : decode cX10_takesFigure 51 = .ok (.iload_n 2, 1) := by decide +kernel
theorem dX10_takesFigure_52 : decode cX10_takesFigure 52 = .ok (.iadd, 1) := by decide +kernel
theorem dX10_takesFigure_53 : decode cX10_takesFigure 53 = .ok (.iastore, 1) := by decide +kernel
theorem dX10_takesFigure_54 : decode cX10_takesFigure 54 = .ok (.aload_n 0, 1) := by decide +kernel
theorem dX10_takesFigure_55 : decode cX10_takesFigure 55 = .ok (.dup, 1) := by decide +kernel
theorem dX10_takesFigure_56 : decode cX10_takesFigure 56 = .ok (.getfield 31, 3) := by decide +kernel
theorem dX10_takesFigure_59 : decode cX10_takesFigure 59 = .ok (.iconst 1, 1) := by decide +kernel
theorem dX10_takesFigure_60 : decode cX10_takesFigure 60 = .ok (.iadd, 1) := by decide +kernel
theorem dX10_takesFigure_61 : decode cX10_takesFigure 61 = .ok (.putfield 31, 3) := by decide +kernel
theorem dX10_takesFigure_64 : decode cX10_takesFigure 64 = .ok (.iconst 1, 1) := by decide +kernel
theorem dX10_takesFigure_65 : decode cX10_takesFigure 65 = .ok (.ireturn, 1) := by decide +kernel
theorem dX10_takesLetter_0 : decode cX10_takesLetter 0 = .ok (.aload_n 0, 1) := by decide +kernel
theorem dX10_takesLetter_1 : decode cX10_takesLetter 1 = .ok (.getfield 31, 3) := by decide +kernel
theorem dX10_takesLetter_4 : decode cX10_takesLetter 4 = .ok (.iconst 3, 1) := by decide +kernel
theorem dX10_takesLetter_5 : decode cX10_takesLetter 5 = .ok (.isub, 1) := by decide +kernel
theorem dX10_takesLetter_6 : decode cX10_takesLetter 6 = .ok (.istore_n 3, 1) := by decide +kernel
theorem dX10_takesLetter_7 : decode cX10_takesLetter 7 = .ok (.iload_n 1, 1) := by decide +kernel
theorem dX10_takesLetter_8 : decode cX10_takesLetter 8 = .ok (.iconst 5, 1) := by decide +kernel
theorem dX10_takesLetter_9 : decode cX10_takesLetter 9 = .ok (.imul, 1) := by decide +kernel
theorem dX10_takesLetter_10 : decode cX10_takesLetter 10 = .ok (.iload_n 3, 1) := by decide +kernel
theorem dX10_takesLetter_11 : decode cX10_takesLetter 11 = .ok (.iadd, 1) := by decide +kernel
theorem dX10_takesLetter_12 : decode cX10_takesLetter 12 = .ok (.istore 4, 2) := by decide +kernel
theorem dX10_takesLetter_14 : decode cX10_takesLetter 14 = .ok (.iload_n 2, 1) := by decide +kernel
theorem dX10_takesLetter_15 : decode cX10_takesLetter 15 = .ok (.ifCond .lt 18, 3) := by decide +kernel
theorem dX10_takesLetter_18 : decode cX10_takesLetter 18 = .ok (.iload_n 2, 1) := by decide +kernel
theorem dX10_takesLetter_19 : decode cX10_takesLetter 19 = .ok (.bipush 8, 2) := by decide +kernel
theorem dX10_takesLetter_21 : decode cX10_takesLetter 21 = .ok (.if_icmp .ge 12, 3) := by decide +kernel
theorem dX10_takesLetter_24 : decode cX10_takesLetter 24 = .ok (.iload_n 3, 1) := by decide +kernel
theorem dX10_takesLetter_25 : decode cX10_takesLetter 25 = .ok (.ifCond .lt 8, 3) := by decide +kernel
theorem dX10_takesLetter_28 : decode cX10_takesLetter 28 = .ok (.iload_n 3, 1) := by decide +kernel
theorem dX10_takesLetter_29 : decode cX10_takesLetter 29 = .ok (.iconst 5, 1) := by decide +kernel
theorem dX10_takesLetter_30 : decode cX10_takesLetter 30 = .ok (.if_icmp .lt 5, 3) := by decide +kernel
theorem dX10_takesLetter_33 : decode cX10_takesLetter 33 = .ok (.iconst 0, 1) := by decide +kernel
theorem dX10_takesLetter_34 : decode cX10_takesLetter 34 = .ok (.ireturn, 1) := by decide +kernel
theorem dX10_takesLetter_35 : decode cX10_takesLetter 35 = .ok (.iload_n 1, 1) := by decide +kernel
theorem dX10_takesLetter_36 : decode cX10_takesLetter 36 = .ok (.ifCond .lt 22, 3) := by decide +kernel
theorem dX10_takesLetter_39 : decode cX10_takesLetter 39 = .ok (.iload_n 1, 1) := by decide +kernel
theorem dX10_takesLetter_40 : decode cX10_takesLetter 40 = .ok (.aload_n 0, 1) := by decide +kernel
theorem dX10_takesLetter_41 : decode cX10_takesLetter 41 = .ok (.getfield 18, 3) := by decide +kernel
theorem dX10_takesLetter_44 : decode cX10_takesLetter 44 = .ok (.arraylength, 1) := by decide +kernel
theorem dX10_takesLetter_45 : decode cX10_takesLetter 45 = .ok (.if_icmp .ge 13, 3) := by decide +kernel
theorem dX10_takesLetter_48 : decode cX10_takesLetter 48 = .ok (.iload 4, 2) := by decide +kernel
theorem dX10_takesLetter_50 : decode cX10_takesLetter 50 = .ok (.aload_n 0, 1) := by decide +kernel
theorem dX10_takesLetter_51 : decode cX10_takesLetter 51 = .ok (.getfield 21, 3) := by decide +kernel
theorem dX10_takesLetter_54 : decode cX10_takesLetter 54 = .ok (.arraylength, 1) := by decide +kernel
theorem dX10_takesLetter_55 : decode cX10_takesLetter 55 = .ok (.if_icmp .lt 5, 3) := by decide +kernel
theorem dX10_takesLetter_58 : decode cX10_takesLetter 58 = .ok (.iconst 0, 1) := by decide +kernel
theorem dX10_takesLetter_59 : decode cX10_takesLetter 59 = .ok (.ireturn, 1) := by decide +kernel
theorem dX10_takesLetter_60 : decode cX10_takesLetter 60 = .ok (.aload_n 0, 1) := by decide +kernel
theorem dX10_takesLetter_61 : decode cX10_takesLetter 61 = .ok (.getfield 21, 3) := by decide +kernel
theorem dX10_takesLetter_64 : decode cX10_takesLetter 64 = .ok (.iload 4, 2) := by decide +kernel
theorem dX10_takesLetter_66 : decode cX10_takesLetter 66 = .ok (.iload_n 2, 1) := by decide +kernel
theorem dX10_takesLetter_67 : decode cX10_takesLetter 67 = .ok (.iastore, 1) := by decide +kernel
theorem dX10_takesLetter_68 : decode cX10_takesLetter 68 = .ok (.aload_n 0, 1) := by decide +kernel
theorem dX10_takesLetter_69 : decode cX10_takesLetter 69 = .ok (.getfield 18, 3) := by decide +kernel
theorem dX10_takesLetter_72 : decode cX10_takesLetter 72 = .ok (.iload_n 1, 1) := by decide +kernel
theorem dX10_takesLetter_73 : decode cX10_takesLetter 73 = .ok (.iload_n 3, 1) := by decide +kernel
theorem dX10_takesLetter_74 : decode cX10_takesLetter 74 = .ok (.iconst 1, 1) := by decide +kernel
theorem dX10_takesLetter_75 : decode cX10_takesLetter 75 = .ok (.iadd, 1) := by decide +kernel
theorem dX10_takesLetter_76 : decode cX10_takesLetter 76 = .ok (.iastore, 1) := by decide +kernel
theorem dX10_takesLetter_77 : decode cX10_takesLetter 77 = .ok (.aload_n 0, 1) := by decide +kernel
theorem dX10_takesLetter_78 : decode cX10_takesLetter 78 = .ok (.dup, 1) := by decide +kernel
theorem dX10_takesLetter_79 : decode cX10_takesLetter 79 = .ok (.getfield 31, 3) := by decide +kernel
theorem dX10_takesLetter_82 : decode cX10_takesLetter 82 = .ok (.iconst 1, 1) := by decide +kernel
theorem dX10_takesLetter_83 : decode cX10_takesLetter 83 = .ok (.iadd, 1) := by decide +kernel
theorem dX10_takesLetter_84 : decode cX10_takesLetter 84 = .ok (.putfield 31, 3) := by decide +kernel
theorem dX10_takesLetter_87 : decode cX10_takesLetter 87 = .ok (.iconst 1, 1) := by decide +kernel
theorem dX10_takesLetter_88 : decode cX10_takesLetter 88 = .ok (.ireturn, 1) := by decide +kernel
theorem dX10_takesNext_0 : decode cX10_takesNext 0 = .ok (.aload_n 0, 1) := by decide +kernel
theorem dX10_takesNext_1 : decode cX10_takesNext 1 = .ok (.invokevirtual 47, 3) := by decide +kernel
theorem dX10_takesNext_4 : decode cX10_takesNext 4 = .ok (.istore_n 1, 1) := by decide +kernel
theorem dX10_takesNext_5 : decode cX10_takesNext 5 = .ok (.iload_n 1, 1) := by decide +kernel
theorem dX10_takesNext_6 : decode cX10_takesNext 6 = .ok (.ifCond .eq 8, 3) := by decide +kernel
theorem dX10_takesNext_9 : decode cX10_takesNext 9 = .ok (.aload_n 0, 1) := by decide +kernel
theorem dX10_takesNext_10 : decode cX10_takesNext 10 = .ok (.iconst 0, 1) := by decide +kernel
theorem dX10_takesNext_11 : decode cX10_takesNext 11 = .ok (.putfield 31, 3) := by decide +kernel
theorem dX10_takesNext_14 : decode cX10_takesNext 14 = .ok (.iload_n 1, 1) := by decide +kernel
theorem dX10_takesNext_15 : decode cX10_takesNext 15 = .ok (.ireturn, 1) := by decide +kernel
theorem dX10_mayEnd_0 : decode cX10_mayEnd 0 = .ok (.aload_n 0, 1) := by decide +kernel
theorem dX10_mayEnd_1 : decode cX10_mayEnd 1 = .ok (.getfield 31, 3) := by decide +kernel
theorem dX10_mayEnd_4 : decode cX10_mayEnd 4 = .ok (.iconst 3, 1) := by decide +kernel
theorem dX10_mayEnd_5 : decode cX10_mayEnd 5 = .ok (.if_icmp .le 7, 3) := by decide +kernel
theorem dX10_mayEnd_8 : decode cX10_mayEnd 8 = .ok (.iconst 1, 1) := by decide +kernel
theorem dX10_mayEnd_9 : decode cX10_mayEnd 9 = .ok (.goto 4, 3) := by decide +kernel
theorem dX10_mayEnd_12 : decode cX10_mayEnd 12 = .ok (.iconst 0, 1) := by decide +kernel
theorem dX10_mayEnd_13 : decode cX10_mayEnd 13 = .ok (.ireturn, 1) := by decide +kernel
theorem dX10_sortOf_0 : decode cX10_sortOf 0 = .ok (.aload_n 0, 1) := by decide +kernel
theorem dX10_sortOf_1 : decode cX10_sortOf 1 = .ok (.getfield 9, 3) := by decide +kernel
theorem dX10_sortOf_4 : decode cX10_sortOf 4 = .ok (.iload_n 1, 1) := by decide +kernel
theorem dX10_sortOf_5 : decode cX10_sortOf 5 = .ok (.iconst 0, 1) := by decide +kernel
theorem dX10_sortOf_6 : decode cX10_sortOf 6 = .ok (.invokestatic 64, 3) := by decide +kernel
theorem dX10_sortOf_9 : decode cX10_sortOf 9 = .ok (.ireturn, 1) := by decide +kernel
theorem dX10_nightOf_0 : decode cX10_nightOf 0 = .ok (.aload_n 0, 1) := by decide +kernel
theorem dX10_nightOf_1 : decode cX10_nightOf 1 = .ok (.getfield 15, 3) := by decide +kernel
theorem dX10_nightOf_4 : decode cX10_nightOf 4 = .ok (.iload_n 1, 1) := by decide +kernel
theorem dX10_nightOf_5 : decode cX10_nightOf 5 = .ok (.iconst 0, 1) := by decide +kernel
theorem dX10_nightOf_6 : decode cX10_nightOf 6 = .ok (.invokestatic 64, 3) := by decide +kernel
theorem dX10_nightOf_9 : decode cX10_nightOf 9 = .ok (.ireturn, 1) := by decide +kernel
theorem dX10_sizeOf_0 : decode cX10_sizeOf 0 = .ok (.aload_n 0, 1) := by decide +kernel
theorem dX10_sizeOf_1 : decode cX10_sizeOf 1 = .ok (.getfield 18, 3) := by decide +kernel
theorem dX10_sizeOf_4 : decode cX10_sizeOf 4 = .ok (.iload_n 1, 1) := by decide +kernel
theorem dX10_sizeOf_5 : decode cX10_sizeOf 5 = .ok (.iconst 0, 1) := by decide +kernel
theorem dX10_sizeOf_6 : decode cX10_sizeOf 6 = .ok (.invokestatic 64, 3) := by decide +kernel
theorem dX10_sizeOf_9 : decode cX10_sizeOf 9 = .ok (.ireturn, 1) := by decide +kernel
theorem dX10_letterOf_0 : decode cX10_letterOf 0 = .ok (.iload_n 2, 1) := by decide +kernel
theorem dX10_letterOf_1 : decode cX10_letterOf 1 = .ok (.ifCond .lt 20, 3) := by decide +kernel
theorem dX10_letterOf_4 : decode cX10_letterOf 4 = .ok (.iload_n 2, 1) := by decide +kernel
theorem dX10_letterOf_5 : decode cX10_letterOf 5 = .ok (.aload_n 0, 1) := by decide +kernel
theorem dX10_letterOf_6 : decode cX10_letterOf 6 = .ok (.getfield 18, 3) := by decide +kernel
theorem dX10_letterOf_9 : decode cX10_letterOf 9 = .ok (.iload_n 1, 1) := by decide +kernel
theorem dX10_letterOf_10 : decode cX10_letterOf 10 = .ok (.iconst 0, 1) := by decide +kernel
theorem dX10_letterOf_11 : decode cX10_letterOf 11 = .ok (.invokestatic 64, 3) := by decide +kernel
theorem dX10_letterOf_14 : decode cX10_letterOf 14 = .ok (.if_icmp .ge 7, 3) := by decide +kernel
theorem dX10_letterOf_17 : decode cX10_letterOf 17 = .ok (.iconst 1, 1) := by decide +kernel
theorem dX10_letterOf_18 : decode cX10_letterOf 18 = .ok (.goto 4, 3) := by decide +kernel
theorem dX10_letterOf_21 : decode cX10_letterOf 21 = .ok (.iconst 0, 1) := by decide +kernel
theorem dX10_letterOf_22 : decode cX10_letterOf 22 = .ok (.istore_n 3, 1) := by decide +kernel
theorem dX10_letterOf_23 : decode cX10_letterOf 23 = .ok (.iload_n 3, 1) := by decide +kernel
theorem dX10_letterOf_24 : decode cX10_letterOf 24 = .ok (.ifCond .eq 19, 3) := by decide +kernel
theorem dX10_letterOf_27 : decode cX10_letterOf 27 = .ok (.aload_n 0, 1) := by decide +kernel
theorem dX10_letterOf_28 : decode cX10_letterOf 28 = .ok (.getfield 21, 3) := by decide +kernel
theorem dX10_letterOf_31 : decode cX10_letterOf 31 = .ok (.iload_n 1, 1) := by decide +kernel
theorem dX10_letterOf_32 : decode cX10_letterOf 32 = .ok (.iconst 5, 1) := by decide +kernel
theorem dX10_letterOf_33 : decode cX10_letterOf 33 = .ok (.imul, 1) := by decide +kernel
theorem dX10_letterOf_34 : decode cX10_letterOf 34 = .ok (.iload_n 2, 1) := by decide +kernel
theorem dX10_letterOf_35 : decode cX10_letterOf 35 = .ok (.iadd, 1) := by decide +kernel
theorem dX10_letterOf_36 : decode cX10_letterOf 36 = .ok (.iconst (-1), 1) := by decide +kernel
theorem dX10_letterOf_37 : decode cX10_letterOf 37 = .ok (.invokestatic 64, 3) := by decide +kernel
theorem dX10_letterOf_40 : decode cX10_letterOf 40 = .ok (.goto 4, 3) := by decide +kernel
theorem dX10_letterOf_43 : decode cX10_letterOf 43 = .ok (.iconst (-1), 1) := by decide +kernel
theorem dX10_letterOf_44 : decode cX10_letterOf 44 = .ok (.ireturn, 1) := by decide +kernel
