theorem dX0_init_0 : decode cX0_init 0 = .ok (.aload_n 0, 1) := by decide +kernel
theorem dX0_init_1 : decode cX0_init 1 = .ok (.invokespecial 3, 3) := by decide +kernel
theorem dX0_init_4 : decode cX0_init 4 = .ok (.aload_n 0, 1) := by decide +kernel
theorem dX0_init_5 : decode cX0_init 5 = .ok (.bipush 30, 2) := by decide +kernel
theorem dX0_init_7 : decode cX0_init 7 = .ok (.newarray .int, 2) := by decide +kernel
theorem dX0_init_9 : decode cX0_init 9 = .ok (.putfield 9, 3) := by decide +kernel
theorem dX0_init_12 : decode cX0_init 12 = .ok (.aload_n 0, 1) := by decide +kernel
theorem dX0_init_13 : decode cX0_init 13 = .ok (.iconst (-1), 1) := by decide +kernel
theorem dX0_init_14 : decode cX0_init 14 = .ok (.putfield 15, 3) := by decide +kernel
theorem dX0_init_17 : decode cX0_init 17 = .ok (.aload_n 0, 1) := by decide +kernel
theorem dX0_init_18 : decode cX0_init 18 = .ok (.getfield 9, 3) := by decide +kernel
theorem dX0_init_21 : decode cX0_init 21 = .ok (.iconst 5, 1) := by decide +kernel
theorem dX0_init_22 : decode cX0_init 22 = .ok (.invokestatic 19, 3) := by decide +kernel
theorem dX0_init_25 : decode cX0_init 25 = .ok (.return_, 1) := by decide +kernel
theorem dX0_readFrom_0 : decode cX0_readFrom 0 = .ok (.aload_n 0, 1) := by decide +kernel
theorem dX0_readFrom_1 : decode cX0_readFrom 1 = .ok (.iconst (-1), 1) := by decide +kernel
theorem dX0_readFrom_2 : decode cX0_readFrom 2 = .ok (.putfield 15, 3) := by decide +kernel
theorem dX0_readFrom_5 : decode cX0_readFrom 5 = .ok (.iconst 0, 1) := by decide +kernel
theorem dX0_readFrom_6 : decode cX0_readFrom 6 = .ok (.istore_n 2, 1) := by decide +kernel
theorem dX0_readFrom_7 : decode cX0_readFrom 7 = .ok (.iload_n 2, 1) := by decide +kernel
theorem dX0_readFrom_8 : decode cX0_readFrom 8 = .ok (.aload_n 1, 1) := by decide +kernel
theorem dX0_readFrom_9 : decode cX0_readFrom 9 = .ok (.getfield 25, 3) := by decide +kernel
theorem dX0_readFrom_12 : decode cX0_readFrom 12 = .ok (.if_icmp .ge 40, 3) := by decide +kernel
theorem dX0_readFrom_15 : decode cX0_readFrom 15 = .ok (.aload_n 0, 1) := by decide +kernel
theorem dX0_readFrom_16 : decode cX0_readFrom 16 = .ok (.getfield 15, 3) := by decide +kernel
theorem dX0_readFrom_19 : decode cX0_readFrom 19 = .ok (.iconst (-1), 1) := by decide +kernel
theorem dX0_readFrom_20 : decode cX0_readFrom 20 = .ok (.if_icmp .ne 32, 3) := by decide +kernel
theorem dX0_readFrom_23 : decode cX0_readFrom 23 = .ok (.aload_n 1, 1) := by decide +kernel
theorem dX0_readFrom_24 : decode cX0_readFrom 24 = .ok (.iload_n 2, 1) := by decide +kernel
theorem dX0_readFrom_25 : decode cX0_readFrom 25 = .ok (.invokevirtual 30, 3) := by decide +kernel
theorem dX0_readFrom_28 : decode cX0_readFrom 28 = .ok (.istore_n 3, 1) := by decide +kernel
theorem dX0_readFrom_29 : decode cX0_readFrom 29 = .ok (.iload_n 3, 1) := by decide +kernel
theorem dX0_readFrom_30 : decode cX0_readFrom 30 = .ok (.bipush 48, 2) := by decide +kernel
theorem dX0_readFrom_32 : decode cX0_readFrom 32 = .ok (.if_icmp .lt 9, 3) := by decide +kernel
theorem dX0_readFrom_35 : decode cX0_readFrom 35 = .ok (.iload_n 3, 1) := by decide +kernel
theorem dX0_readFrom_36 : decode cX0_readFrom 36 = .ok (.bipush 57, 2) := by decide +kernel
theorem dX0_readFrom_38 : decode cX0_readFrom 38 = .ok (.if_icmp .le 8, 3) := by decide +kernel
theorem dX0_readFrom_41 : decode cX0_readFrom 41 = .ok (.aload_n 0, 1) := by decide +kernel
theorem dX0_readFrom_42 : decode cX0_readFrom 42 = .ok (.iload_n 2, 1) := by decide +kernel
theorem dX0_readFrom_43 : decode cX0_readFrom 43 = .ok (.putfield 15, 3) := by decide +kernel
theorem dX0_readFrom_46 : decode cX0_readFrom 46 = .ok (.iinc 2 1, 3) := by decide +kernel
theorem dX0_readFrom_49 : decode cX0_readFrom 49 = .ok (.goto (-42), 3) := by decide +kernel
theorem dX0_readFrom_52 : decode cX0_readFrom 52 = .ok (.aload_n 0, 1) := by decide +kernel
theorem dX0_readFrom_53 : decode cX0_readFrom 53 = .ok (.aload_n 0, 1) := by decide +kernel
theorem dX0_readFrom_54 : decode cX0_readFrom 54 = .ok (.getfield 15, 3) := by decide +kernel
theorem dX0_readFrom_57 : decode cX0_readFrom 57 = .ok (.iconst (-1), 1) := by decide +kernel
theorem dX0_readFrom_58 : decode cX0_readFrom 58 = .ok (.if_icmp .ne 10, 3) := by decide +kernel
theorem dX0_readFrom_61 : decode cX0_readFrom 61 = .ok (.aload_n 1, 1) := by decide +kernel
theorem dX0_readFrom_62 : decode cX0_readFrom 62 = .ok (.getfield 25, 3) := by decide +kernel
theorem dX0_readFrom_65 : decode cX0_readFrom 65 = .ok (.goto 4, 3) := by decide +kernel
theorem dX0_readFrom_68 : decode cX0_readFrom 68 = .ok (.iconst 0, 1) := by decide +kernel
theorem dX0_readFrom_69 : decode cX0_readFrom 69 = .ok (.putfield 34, 3) := by decide +kernel
theorem dX0_readFrom_72 : decode cX0_readFrom 72 = .ok (.iconst 0, 1) := by decide +kernel
theorem dX0_readFrom_73 : decode cX0_readFrom 73 = .ok (.istore_n 2, 1) := by decide +kernel
theorem dX0_readFrom_74 : decode cX0_readFrom 74 = .ok (.iload_n 2, 1) := by decide +kernel
theorem dX0_readFrom_75 : decode cX0_readFrom 75 = .ok (.aload_n 0, 1) := by decide +kernel
theorem dX0_readFrom_76 : decode cX0_readFrom 76 = .ok (.getfield 9, 3) := by decide +kernel
theorem dX0_readFrom_79 : decode cX0_readFrom 79 = .ok (.arraylength, 1) := by decide +kernel
theorem dX0_readFrom_80 : decode cX0_readFrom 80 = .ok (.if_icmp .ge 35, 3) := by decide +kernel
theorem dX0_readFrom_83 : decode cX0_readFrom 83 = .ok (.aload_n 0, 1) := by decide +kernel
theorem dX0_readFrom_84 : decode cX0_readFrom 84 = .ok (.getfield 9, 3) := by decide +kernel
theorem dX0_readFrom_87 : decode cX0_readFrom 87 = .ok (.iload_n 2, 1) := by decide +kernel
theorem dX0_readFrom_88 : decode cX0_readFrom 88 = .ok (.iload_n 2, 1) := by decide +kernel
theorem dX0_readFrom_89 : decode cX0_readFrom 89 = .ok (.aload_n 0, 1) := by decide +kernel
theorem dX0_readFrom_90 : decode cX0_readFrom 90 = .ok (.getfield 34, 3) := by decide +kernel
theorem dX0_readFrom_93 : decode cX0_readFrom 93 = .ok (.if_icmp .ge 14, 3) := by decide +kernel
theorem dX0_readFrom_96 : decode cX0_readFrom 96 = .ok (.aload_n 1, 1) := by decide +kernel
theorem dX0_readFrom_97 : decode cX0_readFrom 97 = .ok (.iload_n 2, 1) := by decide +kernel
theorem dX0_readFrom_98 : decode cX0_readFrom 98 = .ok (.invokevirtual 30, 3) := by decide +kernel
theorem dX0_readFrom_101 : decode cX0_readFrom 101 = .ok (.bipush 48, 2) := by decide +kernel
theorem dX0_readFrom_103 : decode cX0_readFrom 103 = .ok (.isub, 1) := by decide +kernel
theorem dX0_readFrom_104 : decode cX0_readFrom 104 = .ok (.goto 4, 3) := by decide +kernel
theorem dX0_readFrom_107 : decode cX0_readFrom 107 = .ok (.iconst 5, 1) := by decide +kernel
theorem dX0_readFrom_108 : decode cX0_readFrom 108 = .ok (.iastore, 1) := by decide +kernel
theorem dX0_readFrom_109 : decode cX0_readFrom 109 = .ok (.iinc 2 1, 3) := by decide +kernel
theorem dX0_readFrom_112 : decode cX0_readFrom 112 = .ok (.goto (-38), 3) := by decide +kernel
theorem dX0_readFrom_115 : decode cX0_readFrom 115 = .ok (.return_, 1) := by decide +kernel
theorem dX0_warmthOn_0 : decode cX0_warmthOn 0 = .ok (.aload_n 0, 1) := by decide +kernel
theorem dX0_warmthOn_1 : decode cX0_warmthOn 1 = .ok (.getfield 9, 3) := by decide +kernel
theorem dX0_warmthOn_4 : decode cX0_warmthOn 4 = .ok (.iload_n 1, 1) := by decide +kernel
theorem dX0_warmthOn_5 : decode cX0_warmthOn 5 = .ok (.iconst 5, 1) := by decide +kernel
theorem dX0_warmthOn_6 : decode cX0_warmthOn 6 = .ok (.invokestatic 37, 3) := by decide +kernel
theorem dX0_warmthOn_9 : decode cX0_warmthOn 9 = .ok (.ireturn, 1) := by decide +kernel
theorem dX1_init_0 : decode cX1_init 0 = .ok (.aload_n 0, 1) := by decide +kernel
theorem dX1_init_1 : decode cX1_init 1 = .ok (.invokespecial 3, 3) := by decide +kernel
theorem dX1_init_4 : decode cX1_init 4 = .ok (.aload_n 0, 1) := by decide +kernel
theorem dX1_init_5 : decode cX1_init 5 = .ok (.new 9, 3) := by decide +kernel
theorem dX1_init_8 : decode cX1_init 8 = .ok (.dup, 1) := by decide +kernel
theorem dX1_init_9 : decode cX1_init 9 = .ok (.bipush 71, 2) := by decide +kernel
theorem dX1_init_11 : decode cX1_init 11 = .ok (.invokespecial 11, 3) := by decide +kernel
theorem dX1_init_14 : decode cX1_init 14 = .ok (.putfield 14, 3) := by decide +kernel
theorem dX1_init_17 : decode cX1_init 17 = .ok (.aload_n 0, 1) := by decide +kernel
theorem dX1_init_18 : decode cX1_init 18 = .ok (.new 9, 3) := by decide +kernel
theorem dX1_init_21 : decode cX1_init 21 = .ok (.dup, 1) := by decide +kernel
theorem dX1_init_22 : decode cX1_init 22 = .ok (.bipush 30, 2) := by decide +kernel
theorem dX1_init_24 : decode cX1_init 24 = .ok (.invokespecial 11, 3) := by decide +kernel
theorem dX1_init_27 : decode cX1_init 27 = .ok (.putfield 20, 3) := by decide +kernel
theorem dX1_init_30 : decode cX1_init 30 = .ok (.aload_n 0, 1) := by decide +kernel
theorem dX1_init_31 : decode cX1_init 31 = .ok (.new 23, 3) := by decide +kernel
theorem dX1_init_34 : decode cX1_init 34 = .ok (.dup, 1) := by decide +kernel
theorem dX1_init_35 : decode cX1_init 35 = .ok (.invokespecial 25, 3) := by decide +kernel
theorem dX1_init_38 : decode cX1_init 38 = .ok (.putfield 26, 3) := by decide +kernel
theorem dX1_init_41 : decode cX1_init 41 = .ok (.aload_n 0, 1) := by decide +kernel
theorem dX1_init_42 : decode cX1_init 42 = .ok (.new 30, 3) := by decide +kernel
theorem dX1_init_45 : decode cX1_init 45 = .ok (.dup, 1) := by decide +kernel
theorem dX1_init_46 : decode cX1_init 46 = .ok (.invokespecial 32, 3) := by decide +kernel
theorem dX1_init_49 : decode cX1_init 49 = .ok (.putfield 33, 3) := by decide +kernel
theorem dX1_init_52 : decode cX1_init 52 = .ok (.aload_n 0, 1) := by decide +kernel
theorem dX1_init_53 : decode cX1_init 53 = .ok (.new 37, 3) := by decide +kernel
theorem dX1_init_56 : decode cX1_init 56 = .ok (.dup, 1) := by decide +kernel
theorem dX1_init_57 : decode cX1_init 57 = .ok (.bipush 8, 2) := by decide +kernel
theorem dX1_init_59 : decode cX1_init 59 = .ok (.invokespecial 39, 3) := by decide +kernel
theorem dX1_init_62 : decode cX1_init 62 = .ok (.putfield 40, 3) := by decide +kernel
theorem dX1_init_65 : decode cX1_init 65 = .ok (.aload_n 0, 1) := by decide +kernel
theorem dX1_init_66 : decode cX1_init 66 = .ok (.new 37, 3) := by decide +kernel
theorem dX1_init_69 : decode cX1_init 69 = .ok (.dup, 1) := by decide +kernel
theorem dX1_init_70 : decode cX1_init 70 = .ok (.iconst 4, 1) := by decide +kernel
theorem dX1_init_71 : decode cX1_init 71 = .ok (.invokespecial 39, 3) := by decide +kernel
theorem dX1_init_74 : decode cX1_init 74 = .ok (.putfield 44, 3) := by decide +kernel
theorem dX1_init_77 : decode cX1_init 77 = .ok (.aload_n 0, 1) := by decide +kernel
theorem dX1_init_78 : decode cX1_init 78 = .ok (.new 37, 3) := by decide +kernel
theorem dX1_init_81 : decode cX1_init 81 = .ok (.dup, 1) := by decide +kernel
theorem dX1_init_82 : decode cX1_init 82 = .ok (.bipush 8, 2) := by decide +kernel
theorem dX1_init_84 : decode cX1_init 84 = .ok (.invokespecial 39, 3) := by decide +kernel
theorem dX1_init_87 : decode cX1_init 87 = .ok (.putfield 47, 3) := by decide +kernel
theorem dX1_init_90 : decode cX1_init 90 = .ok (.aload_n 0, 1) := by decide +kernel
theorem dX1_init_91 : decode cX1_init 91 = .ok (.new 50, 3) := by decide +kernel
theorem dX1_init_94 : decode cX1_init 94 = .ok (.dup, 1) := by decide +kernel
theorem dX1_init_95 : decode cX1_init 95 = .ok (.invokespecial 52, 3) := by decide +kernel
theorem dX1_init_98 : decode cX1_init 98 = .ok (.putfield 53, 3) := by decide +kernel
theorem dX1_init_101 : decode cX1_init 101 = .ok (.aload_n 0, 1) := by decide +kernel
theorem dX1_init_102 : decode cX1_init 102 = .ok (.bipush 8, 2) := by decide +kernel
theorem dX1_init_104 : decode cX1_init 104 = .ok (.putfield 57, 3) := by decide +kernel
theorem dX1_init_107 : decode cX1_init 107 = .ok (.aload_n 0, 1) := by decide +kernel
theorem dX1_init_108 : decode cX1_init 108 = .ok (.bipush 7, 2) := by decide +kernel
theorem dX1_init_110 : decode cX1_init 110 = .ok (.putfield 61, 3) := by decide +kernel
theorem dX1_init_113 : decode cX1_init 113 = .ok (.return_, 1) := by decide +kernel
theorem dX1_textOf_0 : decode cX1_textOf 0 = .ok (.iload_n 1, 1) := by decide +kernel
theorem dX1_textOf_1 : decode cX1_textOf 1 = .ok (.ifCond .ne 10, 3) := by decide +kernel
theorem dX1_textOf_4 : decode cX1_textOf 4 = .ok (.aload_n 0, 1) := by decide +kernel
theorem dX1_textOf_5 : decode cX1_textOf 5 = .ok (.getfield 14, 3) := by decide +kernel
theorem dX1_textOf_8 : decode cX1_textOf 8 = .ok (.goto 7, 3) := by decide +kernel
theorem dX1_textOf_11 : decode cX1_textOf 11 = .ok (.aload_n 0, 1) := by decide +kernel
theorem dX1_textOf_12 : decode cX1_textOf 12 = .ok (.getfield 20, 3) := by decide +kernel
theorem dX1_textOf_15 : decode cX1_textOf 15 = .ok (.areturn, 1) := by decide +kernel
theorem dX1_readAnew_0 : decode cX1_readAnew 0 = .ok (.iload_n 1, 1) := by decide +kernel
theorem dX1_readAnew_1 : decode cX1_readAnew 1 = .ok (.ifCond .ne 17, 3) := by decide +kernel
theorem dX1_readAnew_4 : decode cX1_readAnew 4 = .ok (.aload_n 0, 1) := by decide +kernel
theorem dX1_readAnew_5 : decode cX1_readAnew 5 = .ok (.getfield 26, 3) := by decide +kernel
theorem dX1_readAnew_8 : decode cX1_readAnew 8 = .ok (.aload_n 0, 1) := by decide +kernel
theorem dX1_readAnew_9 : decode cX1_readAnew 9 = .ok (.getfield 14, 3) := by decide +kernel
theorem dX1_readAnew_12 : decode cX1_readAnew 12 = .ok (.invokevirtual 64, 3) := by decide +kernel
theorem dX1_readAnew_15 : decode cX1_readAnew 15 = .ok (.goto 14, 3) := by decide +kernel
theorem dX1_readAnew_18 : decode cX1_readAnew 18 = .ok (.aload_n 0, 1) := by decide +kernel
theorem dX1_readAnew_19 : decode cX1_readAnew 19 = .ok (.getfield 33, 3) := by decide +kernel
theorem dX1_readAnew_22 : decode cX1_readAnew 22 = .ok (.aload_n 0, 1) := by decide +kernel
theorem dX1_readAnew_23 : decode cX1_readAnew 23 = .ok (.getfield 20, 3) := by decide +kernel
theorem dX1_readAnew_26 : decode cX1_readAnew 26 = .ok (.invokevirtual 68, 3) := by decide +kernel
theorem dX1_readAnew_29 : decode cX1_readAnew 29 = .ok (.return_, 1) := by decide +kernel
theorem dX1_has_0 : decode cX1_has 0 = .ok (.iload_n 1, 1) := by decide +kernel
theorem dX1_has_1 : decode cX1_has 1 = .ok (.ifCond .lt 18, 3) := by decide +kernel
theorem dX1_has_4 : decode cX1_has 4 = .ok (.iload_n 1, 1) := by decide +kernel
theorem dX1_has_5 : decode cX1_has 5 = .ok (.aload_n 0, 1) := by decide +kernel
theorem dX1_has_6 : decode cX1_has 6 = .ok (.getfield 26, 3) := by decide +kernel
theorem dX1_has_9 : decode cX1_has 9 = .ok (.getfield 69, 3) := by decide +kernel
theorem dX1_has_12 : decode cX1_has 12 = .ok (.if_icmp .ge 7, 3) := by decide +kernel
theorem dX1_has_15 : decode cX1_has 15 = .ok (.iconst 1, 1) := by decide +kernel
theorem dX1_has_16 : decode cX1_has 16 = .ok (.goto 4, 3) := by decide +kernel
theorem dX1_has_19 : decode cX1_has 19 = .ok (.iconst 0, 1) := by decide +kernel
theorem dX1_has_20 : decode cX1_has 20 = .ok (.ireturn, 1) := by decide +kernel
theorem dX1_begin_0 : decode cX1_begin 0 = .ok (.aload_n 0, 1) := by decide +kernel
theorem dX1_begin_1 : decode cX1_begin 1 = .ok (.getfield 53, 3) := by decide +kernel
theorem dX1_begin_4 : decode cX1_begin 4 = .ok (.aload_n 0, 1) := by decide +kernel
theorem dX1_begin_5 : decode cX1_begin 5 = .ok (.getfield 26, 3) := by decide +kernel
theorem dX1_begin_8 : decode cX1_begin 8 = .ok (.iload_n 1, 1) := by decide +kernel
theorem dX1_begin_9 : decode cX1_begin 9 = .ok (.invokevirtual 72, 3) := by decide +kernel
theorem dX1_begin_12 : decode cX1_begin 12 = .ok (.putfield 76, 3) := by decide +kernel
theorem dX1_begin_15 : decode cX1_begin 15 = .ok (.aload_n 0, 1) := by decide +kernel
theorem dX1_begin_16 : decode cX1_begin 16 = .ok (.getfield 53, 3) := by decide +kernel
theorem dX1_begin_19 : decode cX1_begin 19 = .ok (.aload_n 0, 1) := by decide +kernel
theorem dX1_begin_20 : decode cX1_begin 20 = .ok (.getfield 26, 3) := by decide +kernel
theorem dX1_begin_23 : decode cX1_begin 23 = .ok (.iload_n 1, 1) := by decide +kernel
theorem dX1_begin_24 : decode cX1_begin 24 = .ok (.invokevirtual 79, 3) := by decide +kernel
theorem dX1_begin_27 : decode cX1_begin 27 = .ok (.putfield 82, 3) := by decide +kernel
theorem dX1_begin_30 : decode cX1_begin 30 = .ok (.aload_n 0, 1) := by decide +kernel
theorem dX1_begin_31 : decode cX1_begin 31 = .ok (.getfield 53, 3) := by decide +kernel
theorem dX1_begin_34 : decode cX1_begin 34 = .ok (.aload_n 0, 1) := by decide +kernel
theorem dX1_begin_35 : decode cX1_begin 35 = .ok (.getfield 26, 3) := by decide +kernel
theorem dX1_begin_38 : decode cX1_begin 38 = .ok (.iload_n 1, 1) := by decide +kernel
theorem dX1_begin_39 : decode cX1_begin 39 = .ok (.invokevirtual 85, 3) := by decide +kernel
theorem dX1_begin_42 : decode cX1_begin 42 = .ok (.putfield 88, 3) := by decide +kernel
theorem dX1_begin_45 : decode cX1_begin 45 = .ok (.iconst 0, 1) := by decide +kernel
theorem dX1_begin_46 : decode cX1_begin 46 = .ok (.istore_n 2, 1) := by decide +kernel
theorem dX1_begin_47 : decode cX1_begin 47 = .ok (.iload_n 2, 1) := by decide +kernel
theorem dX1_begin_48 : decode cX1_begin 48 = .ok (.iconst 5, 1) := by decide +kernel
theorem dX1_begin_49 : decode cX1_begin 49 = .ok (.if_icmp .ge 41, 3) := by decide +kernel
theorem dX1_begin_52 : decode cX1_begin 52 = .ok (.aload_n 0, 1) := by decide +kernel
theorem dX1_begin_53 : decode cX1_begin 53 = .ok (.getfield 26, 3) := by decide +kernel
theorem dX1_begin_56 : decode cX1_begin 56 = .ok (.iload_n 1, 1) := by decide +kernel
theorem dX1_begin_57 : decode cX1_begin 57 = .ok (.iload_n 2, 1) := by decide +kernel
theorem dX1_begin_58 : decode cX1_begin 58 = .ok (.invokevirtual 91, 3) := by decide +kernel
theorem dX1_begin_61 : decode cX1_begin 61 = .ok (.istore_n 3, 1) := by decide +kernel
theorem dX1_begin_62 : decode cX1_begin 62 = .ok (.aload_n 0, 1) := by decide +kernel
theorem dX1_begin_63 : decode cX1_begin 63 = .ok (.getfield 53, 3) := by decide +kernel
theorem dX1_begin_66 : decode cX1_begin 66 = .ok (.iload_n 2, 1) := by decide +kernel
theorem dX1_begin_67 : decode cX1_begin 67 = .ok (.iload_n 3, 1) := by decide +kernel
theorem dX1_begin_68 : decode cX1_begin 68 = .ok (.iload_n 3, 1) := by decide +kernel
theorem dX1_begin_69 : decode cX1_begin 69 = .ok (.aload_n 0, 1) := by decide +kernel
theorem dX1_begin_70 : decode cX1_begin 70 = .ok (.getfield 61, 3) := by decide +kernel
theorem dX1_begin_73 : decode cX1_begin 73 = .ok (.if_icmp .lt 7, 3) := by decide +kernel
theorem dX1_begin_76 : decode cX1_begin 76 = .ok (.iconst 1, 1) := by decide +kernel
theorem dX1_begin_77 : decode cX1_begin 77 = .ok (.goto 4, 3) := by decide +kernel
theorem dX1_begin_80 : decode cX1_begin 80 = .ok (.iconst 0, 1) := by decide +kernel
theorem dX1_begin_81 : decode cX1_begin 81 = .ok (.invokevirtual 95, 3) := by decide +kernel
theorem dX1_begin_84 : decode cX1_begin 84 = .ok (.iinc 2 1, 3) := by decide +kernel
theorem dX1_begin_87 : decode cX1_begin 87 = .ok (.goto (-40), 3) := by decide +kernel
theorem dX1_begin_90 : decode cX1_begin 90 = .ok (.aload_n 0, 1) := by decide +kernel
theorem dX1_begin_91 : decode cX1_begin 91 = .ok (.getfield 33, 3) := by decide +kernel
theorem dX1_begin_94 : decode cX1_begin 94 = .ok (.getfield 99, 3) := by decide +kernel
theorem dX1_begin_97 : decode cX1_begin 97 = .ok (.iconst 0, 1) := by decide +kernel
theorem dX1_begin_98 : decode cX1_begin 98 = .ok (.aload_n 0, 1) := by decide +kernel
theorem dX1_begin_99 : decode cX1_begin 99 = .ok (.getfield 53, 3) := by decide +kernel
theorem dX1_begin_102 : decode cX1_begin 102 = .ok (.getfield 103, 3) := by decide +kernel
theorem dX1_begin_105 : decode cX1_begin 105 = .ok (.iconst 0, 1) := by decide +kernel
theorem dX1_begin_106 : decode cX1_begin 106 = .ok (.bipush 30, 2) := by decide +kernel
theorem dX1_begin_108 : decode cX1_begin 108 = .ok (.invokestatic 104, 3) := by decide +kernel
theorem dX1_begin_111 : decode cX1_begin 111 = .ok (.aload_n 0, 1) := by decide +kernel
theorem dX1_begin_112 : decode cX1_begin 112 = .ok (.getfield 53, 3) := by decide +kernel
theorem dX1_begin_115 : decode cX1_begin 115 = .ok (.aload_n 0, 1) := by decide +kernel
theorem dX1_begin_116 : decode cX1_begin 116 = .ok (.getfield 40, 3) := by decide +kernel
theorem dX1_begin_119 : decode cX1_begin 119 = .ok (.iload_n 1, 1) := by decide +kernel
theorem dX1_begin_120 : decode cX1_begin 120 = .ok (.iconst (-1), 1) := by decide +kernel
theorem dX1_begin_121 : decode cX1_begin 121 = .ok (.invokevirtual 110, 3) := by decide +kernel
theorem dX1_begin_124 : decode cX1_begin 124 = .ok (.putfield 113, 3) := by decide +kernel
theorem dX1_begin_127 : decode cX1_begin 127 = .ok (.aload_n 0, 1) := by decide +kernel
theorem dX1_begin_128 : decode cX1_begin 128 = .ok (.getfield 53, 3) := by decide +kernel
theorem dX1_begin_131 : decode cX1_begin 131 = .ok (.aload_n 0, 1) := by decide +kernel
theorem dX1_begin_132 : decode cX1_begin 132 = .ok (.getfield 44, 3) := by decide +kernel
theorem dX1_begin_135 : decode cX1_begin 135 = .ok (.iload_n 1, 1) := by decide +kernel
theorem dX1_begin_136 : decode cX1_begin 136 = .ok (.iconst (-1), 1) := by decide +kernel
theorem dX1_begin_137 : decode cX1_begin 137 = .ok (.invokevirtual 110, 3) := by decide +kernel
theorem dX1_begin_140 : decode cX1_begin 140 = .ok (.putfield 116, 3) := by decide +kernel
theorem dX1_begin_143 : decode cX1_begin 143 = .ok (.aload_n 0, 1) := by decide +kernel
theorem dX1_begin_144 : decode cX1_begin 144 = .ok (.getfield 53, 3) := by decide +kernel
theorem dX1_begin_147 : decode cX1_begin 147 = .ok (.aload_n 0, 1) := by decide +kernel
theorem dX1_begin_148 : decode cX1_begin 148 = .ok (.getfield 57, 3) := by decide +kernel
theorem dX1_begin_151 : decode cX1_begin 151 = .ok (.putfield 119, 3) := by decide +kernel
theorem dX1_begin_154 : decode cX1_begin 154 = .ok (.aload_n 0, 1) := by decide +kernel
theorem dX1_begin_155 : decode cX1_begin 155 = .ok (.getfield 53, 3) := by decide +kernel
theorem dX1_begin_158 : decode cX1_begin 158 = .ok (.areturn, 1) := by decide +kernel
theorem dX2_init_0 : decode cX2_init 0 = .ok (.aload_n 0, 1) := by decide +kernel
theorem dX2_init_1 : decode cX2_init 1 = .ok (.invokespecial 3, 3) := by decide +kernel
theorem dX2_init_4 : decode cX2_init 4 = .ok (.aload_n 0, 1) := by decide +kernel
theorem dX2_init_5 : decode cX2_init 5 = .ok (.bipush 100, 2) := by decide +kernel
theorem dX2_init_7 : decode cX2_init 7 = .ok (.newarray .long, 2) := by decide +kernel
theorem dX2_init_9 : decode cX2_init 9 = .ok (.putfield 9, 3) := by decide +kernel
theorem dX2_init_12 : decode cX2_init 12 = .ok (.aload_n 0, 1) := by decide +kernel
theorem dX2_init_13 : decode cX2_init 13 = .ok (.bipush 100, 2) := by decide +kernel
theorem dX2_init_15 : decode cX2_init 15 = .ok (.newarray .long, 2) := by decide +kernel
theorem dX2_init_17 : decode cX2_init 17 = .ok (.putfield 15, 3) := by decide +kernel
theorem dX2_init_20 : decode cX2_init 20 = .ok (.aload_n 0, 1) := by decide +kernel
theorem dX2_init_21 : decode cX2_init 21 = .ok (.aload_n 1, 1) := by decide +kernel
theorem dX2_init_22 : decode cX2_init 22 = .ok (.putfield 18, 3) := by decide +kernel
theorem dX2_init_25 : decode cX2_init 25 = .ok (.return_, 1) := by decide +kernel
theorem dX2_findFrost_0 : decode cX2_findFrost 0 = .ok (.aload_n 0, 1) := by decide +kernel
theorem dX2_findFrost_1 : decode cX2_findFrost 1 = .ok (.getfield 18, 3) := by decide +kernel
theorem dX2_findFrost_4 : decode cX2_findFrost 4 = .ok (.iload_n 3, 1) := by decide +kernel
theorem dX2_findFrost_5 : decode cX2_findFrost 5 = .ok (.invokevirtual 22, 3) := by decide +kernel
theorem dX2_findFrost_8 : decode cX2_findFrost 8 = .ok (.astore 5, 2) := by decide +kernel
theorem dX2_findFrost_10 : decode cX2_findFrost 10 = .ok (.aload_n 0, 1) := by decide +kernel
theorem dX2_findFrost_11 : decode cX2_findFrost 11 = .ok (.lconst 0, 1) := by decide +kernel
theorem dX2_findFrost_12 : decode cX2_findFrost 12 = .ok (.putfield 28, 3) := by decide +kernel
theorem dX2_findFrost_15 : decode cX2_findFrost 15 = .ok (.aload_n 0, 1) := by decide +kernel
theorem dX2_findFrost_16 : decode cX2_findFrost 16 = .ok (.lconst 1, 1) := by decide +kernel
theorem dX2_findFrost_17 : decode cX2_findFrost 17 = .ok (.putfield 32, 3) := by decide +kernel
theorem dX2_findFrost_20 : decode cX2_findFrost 20 = .ok (.iload 4, 2) := by decide +kernel
theorem dX2_findFrost_22 : decode cX2_findFrost 22 = .ok (.aload 5, 2) := by decide +kernel
theorem dX2_findFrost_24 : decode cX2_findFrost 24 = .ok (.getfield 35, 3) := by decide +kernel
theorem dX2_findFrost_27 : decode cX2_findFrost 27 = .ok (.if_icmp .ge 4, 3) := by decide +kernel
theorem dX2_findFrost_30 : decode cX2_findFrost 30 = .ok (.return_, 1) := by decide +kernel
theorem dX2_findFrost_31 : decode cX2_findFrost 31 = .ok (.aload_n 0, 1) := by decide +kernel
theorem dX2_findFrost_32 : decode cX2_findFrost 32 = .ok (.getfield 9, 3) := by decide +kernel
theorem dX2_findFrost_35 : decode cX2_findFrost 35 = .ok (.lconst 0, 1) := by decide +kernel
theorem dX2_findFrost_36 : decode cX2_findFrost 36 = .ok (.invokestatic 41, 3) := by decide +kernel
theorem dX2_findFrost_39 : decode cX2_findFrost 39 = .ok (.aload_n 0, 1) := by decide +kernel
theorem dX2_findFrost_40 : decode cX2_findFrost 40 = .ok (.getfield 9, 3) := by decide +kernel
theorem dX2_findFrost_43 : decode cX2_findFrost 43 = .ok (.iconst 0, 1) := by decide +kernel
theorem dX2_findFrost_44 : decode cX2_findFrost 44 = .ok (.lconst 1, 1) := by decide +kernel
theorem dX2_findFrost_45 : decode cX2_findFrost 45 = .ok (.lastore, 1) := by decide +kernel
theorem dX2_findFrost_46 : decode cX2_findFrost 46 = .ok (.aload 5, 2) := by decide +kernel
theorem dX2_findFrost_48 : decode cX2_findFrost 48 = .ok (.getfield 35, 3) := by decide +kernel
theorem dX2_findFrost_51 : decode cX2_findFrost 51 = .ok (.istore 6, 2) := by decide +kernel
theorem dX2_findFrost_53 : decode cX2_findFrost 53 = .ok (.iload 6, 2) := by decide +kernel
theorem dX2_findFrost_55 : decode cX2_findFrost 55 = .ok (.iload 4, 2) := by decide +kernel
theorem dX2_findFrost_57 : decode cX2_findFrost 57 = .ok (.if_icmp .gt 85, 3) := by decide +kernel
theorem dX2_findFrost_60 : decode cX2_findFrost 60 = .ok (.iload 6, 2) := by decide +kernel
theorem dX2_findFrost_62 : decode cX2_findFrost 62 = .ok (.iload_n 2, 1) := by decide +kernel
theorem dX2_findFrost_63 : decode cX2_findFrost 63 = .ok (.if_icmp .gt 7, 3) := by decide +kernel
theorem dX2_findFrost_66 : decode cX2_findFrost 66 = .ok (.iconst 1, 1) := by decide +kernel
theorem dX2_findFrost_67 : decode cX2_findFrost 67 = .ok (.goto 4, 3) := by decide +kernel
theorem dX2_findFrost_70 : decode cX2_findFrost 70 = .ok (.iconst 0, 1) := by decide +kernel
theorem dX2_findFrost_71 : decode cX2_findFrost 71 = .ok (.istore 7, 2) := by decide +kernel
theorem dX2_findFrost_73 : decode cX2_findFrost 73 = .ok (.aload_n 0, 1) := by decide +kernel
theorem dX2_findFrost_74 : decode cX2_findFrost 74 = .ok (.aload 5, 2) := by decide +kernel
theorem dX2_findFrost_76 : decode cX2_findFrost 76 = .ok (.iload 6, 2) := by decide +kernel
theorem dX2_findFrost_78 : decode cX2_findFrost 78 = .ok (.iload 7, 2) := by decide +kernel
theorem dX2_findFrost_80 : decode cX2_findFrost 80 = .ok (.ifCond .eq 7, 3) := by decide +kernel
theorem dX2_findFrost_83 : decode cX2_findFrost 83 = .ok (.iload_n 1, 1) := by decide +kernel
theorem dX2_findFrost_84 : decode cX2_findFrost 84 = .ok (.goto 4, 3) := by decide +kernel
theorem dX2_findFrost_87 : decode cX2_findFrost 87 = .ok (.iconst 0, 1) := by decide +kernel
theorem dX2_findFrost_88 : decode cX2_findFrost 88 = .ok (.iload 7, 2) := by decide +kernel
theorem dX2_findFrost_90 : decode cX2_findFrost 90 = .ok (.ifCond .eq 8, 3) := by decide +kernel
theorem dX2_findFrost_93 : decode cX2_findFrost 93 = .ok (.bipush 16, 2) := by decide +kernel
theorem dX2_findFrost_95 : decode cX2_findFrost 95 = .ok (.goto 4, 3) := by decide +kernel
theorem dX2_findFrost_98 : decode cX2_findFrost 98 = .ok (.iconst 1, 1) := by decide +kernel
theorem dX2_findFrost_99 : decode cX2_findFrost 99 = .ok (.invokevirtual 47, 3) := by decide +kernel
theorem dX2_findFrost_102 : decode cX2_findFrost 102 = .ok (.aload_n 0, 1) := by decide +kernel
theorem dX2_findFrost_103 : decode cX2_findFrost 103 = .ok (.dup, 1) := by decide +kernel
theorem dX2_findFrost_104 : decode cX2_findFrost 104 = .ok (.getfield 32, 3) := by decide +kernel
theorem dX2_findFrost_107 : decode cX2_findFrost 107 = .ok (.iload 7, 2) := by decide +kernel
theorem dX2_findFrost_109 : decode cX2_findFrost 109 = .ok (.ifCond .eq 9, 3) := by decide +kernel
theorem dX2_findFrost_112 : decode cX2_findFrost 112 = .ok (.ldc2_w 51, 3) := by decide +kernel
theorem dX2_findFrost_115 : decode cX2_findFrost 115 = .ok (.goto 4, 3) := by decide +kernel
theorem dX2_findFrost_118 : decode cX2_findFrost 118 = .ok (.lconst 1, 1) := by decide +kernel
theorem dX2_findFrost_119 : decode cX2_findFrost 119 = .ok (.lmul, 1) := by decide +kernel
theorem dX2_findFrost_120 : decode cX2_findFrost 120 = .ok (.putfield 32, 3) := by decide +kernel
theorem dX2_findFrost_123 : decode cX2_findFrost 123 = .ok (.iload 6, 2) := by decide +kernel
theorem dX2_findFrost_125 : decode cX2_findFrost 125 = .ok (.iload 4, 2) := by decide +kernel
theorem dX2_findFrost_127 : decode cX2_findFrost 127 = .ok (.if_icmp .ge 9, 3) := by decide +kernel
theorem dX2_findFrost_130 : decode cX2_findFrost 130 = .ok (.aload_n 0, 1) := by decide +kernel
theorem dX2_findFrost_131 : decode cX2_findFrost 131 = .ok (.aload 5, 2) := by decide +kernel
theorem dX2_findFrost_133 : decode cX2_findFrost 133 = .ok (.invokevirtual 53, 3) := by decide +kernel
theorem dX2_findFrost_136 : decode cX2_findFrost 136 = .ok (.iinc 6 1, 3) := by decide +kernel
theorem dX2_findFrost_139 : decode cX2_findFrost 139 = .ok (.goto (-86), 3) := by decide +kernel
theorem dX2_findFrost_142 : decode cX2_findFrost 142 = .ok (.iconst 0, 1) := by decide +kernel
theorem dX2_findFrost_143 : decode cX2_findFrost 143 = .ok (.istore 6, 2) := by decide +kernel
theorem dX2_findFrost_145 : decode cX2_findFrost 145 = .ok (.iload 6, 2) := by decide +kernel
theorem dX2_findFrost_147 : decode cX2_findFrost 147 = .ok (.aload_n 0, 1) := by decide +kernel
theorem dX2_findFrost_148 : decode cX2_findFrost 148 = .ok (.getfield 9, 3) := by decide +kernel
theorem dX2_findFrost_151 : decode cX2_findFrost 151 = .ok (.arraylength, 1) := by decide +kernel
theorem dX2_findFrost_152 : decode cX2_findFrost 152 = .ok (.if_icmp .ge 25, 3) := by decide +kernel
theorem dX2_findFrost_155 : decode cX2_findFrost 155 = .ok (.aload_n 0, 1) := by decide +kernel
theorem dX2_findFrost_156 : decode cX2_findFrost 156 = .ok (.dup, 1) := by decide +kernel
theorem dX2_findFrost_157 : decode cX2_findFrost 157 = .ok (.getfield 28, 3) := by decide +kernel
theorem dX2_findFrost_160 : decode cX2_findFrost 160 = .ok (.aload_n 0, 1) := by decide +kernel
theorem dX2_findFrost_161 : decode cX2_findFrost 161 = .ok (.getfield 9, 3) := by decide +kernel
theorem dX2_findFrost_164 : decode cX2_findFrost 164 = .ok (.iload 6, 2) := by decide +kernel
theorem dX2_findFrost_166 : decode cX2_findFrost 166 = .ok (.laload, 1) := by decide +kernel
theorem dX2_findFrost_167 : decode cX2_findFrost 167 = .ok (.ladd, 1) := by decide +kernel
theorem dX2_findFrost_168 : decode cX2_findFrost 168 = .ok (.putfield 28, 3) := by decide +kernel
theorem dX2_findFrost_171 : decode cX2_findFrost 171 = .ok (.iinc 6 1, 3) := by decide +kernel
theorem dX2_findFrost_174 : decode cX2_findFrost 174 = .ok (.goto (-29), 3) := by decide +kernel
theorem dX2_findFrost_177 : decode cX2_findFrost 177 = .ok (.aload_n 0, 1) := by decide +kernel
theorem dX2_findFrost_178 : decode cX2_findFrost 178 = .ok (.invokevirtual 57, 3) := by decide +kernel
theorem dX2_findFrost_181 : decode cX2_findFrost 181 = .ok (.return_, 1) := by decide +kernel
theorem dX2_weighNight_0 : decode cX2_weighNight 0 = .ok (.aload_n 0, 1) := by decide +kernel
theorem dX2_weighNight_1 : decode cX2_weighNight 1 = .ok (.getfield 15, 3) := by decide +kernel
theorem dX2_weighNight_4 : decode cX2_weighNight 4 = .ok (.lconst 0, 1) := by decide +kernel
theorem dX2_weighNight_5 : decode cX2_weighNight 5 = .ok (.invokestatic 41, 3) := by decide +kernel
theorem dX2_weighNight_8 : decode cX2_weighNight 8 = .ok (.aload_n 1, 1) := by decide +kernel
theorem dX2_weighNight_9 : decode cX2_weighNight 9 = .ok (.iload_n 2, 1) := by decide +kernel
theorem dX2_weighNight_10 : decode cX2_weighNight 10 = .ok (.iconst 0, 1) := by decide +kernel
theorem dX2_weighNight_11 : decode cX2_weighNight 11 = .ok (.invokevirtual 60, 3) := by decide +kernel
theorem dX2_weighNight_14 : decode cX2_weighNight 14 = .ok (.istore 5, 2) := by decide +kernel
theorem dX2_weighNight_16 : decode cX2_weighNight 16 = .ok (.aload_n 1, 1) := by decide +kernel
theorem dX2_weighNight_17 : decode cX2_weighNight 17 = .ok (.iload_n 2, 1) := by decide +kernel
theorem dX2_weighNight_18 : decode cX2_weighNight 18 = .ok (.aload_n 1, 1) := by decide +kernel
theorem dX2_weighNight_19 : decode cX2_weighNight 19 = .ok (.iload_n 2, 1) := by decide +kernel
theorem dX2_weighNight_20 : decode cX2_weighNight 20 = .ok (.invokevirtual 64, 3) := by decide +kernel
theorem dX2_weighNight_23 : decode cX2_weighNight 23 = .ok (.invokevirtual 60, 3) := by decide +kernel
theorem dX2_weighNight_26 : decode cX2_weighNight 26 = .ok (.istore 6, 2) := by decide +kernel
theorem dX2_weighNight_28 : decode cX2_weighNight 28 = .ok (.iconst 0, 1) := by decide +kernel
theorem dX2_weighNight_29 : decode cX2_weighNight 29 = .ok (.istore 7, 2) := by decide +kernel
theorem dX2_weighNight_31 : decode cX2_weighNight 31 = .ok (.iload 7, 2) := by decide +kernel
theorem dX2_weighNight_33 : decode cX2_weighNight 33 = .ok (.aload_n 0, 1) := by decide +kernel
theorem dX2_weighNight_34 : decode cX2_weighNight 34 = .ok (.getfield 9, 3) := by decide +kernel
theorem dX2_weighNight_37 : decode cX2_weighNight 37 = .ok (.arraylength, 1) := by decide +kernel
theorem dX2_weighNight_38 : decode cX2_weighNight 38 = .ok (.if_icmp .ge 64, 3) := by decide +kernel
theorem dX2_weighNight_41 : decode cX2_weighNight 41 = .ok (.aload_n 0, 1) := by decide +kernel
theorem dX2_weighNight_42 : decode cX2_weighNight 42 = .ok (.getfield 9, 3) := by decide +kernel
theorem dX2_weighNight_45 : decode cX2_weighNight 45 = .ok (.iload 7, 2) := by decide +kernel
theorem dX2_weighNight_47 : decode cX2_weighNight 47 = .ok (.laload, 1) := by decide +kernel
theorem dX2_weighNight_48 : decode cX2_weighNight 48 = .ok (.lconst 0, 1) := by decide +kernel
theorem dX2_weighNight_49 : decode cX2_weighNight 49 = .ok (.lcmp, 1) := by decide +kernel
theorem dX2_weighNight_50 : decode cX2_weighNight 50 = .ok (.ifCond .eq 46, 3) := by decide +kernel
theorem dX2_weighNight_53 : decode cX2_weighNight 53 = .ok (.aload_n 0, 1) := by decide +kernel
theorem dX2_weighNight_54 : decode cX2_weighNight 54 = .ok (.aload_n 1, 1) := by decide +kernel
theorem dX2_weighNight_55 : decode cX2_weighNight 55 = .ok (.iload 7, 2) := by decide +kernel
theorem dX2_weighNight_57 : decode cX2_weighNight 57 = .ok (.iload 5, 2) := by decide +kernel
theorem dX2_weighNight_59 : decode cX2_weighNight 59 = .ok (.iadd, 1) := by decide +kernel
theorem dX2_weighNight_60 : decode cX2_weighNight 60 = .ok (.aload_n 0, 1) := by decide +kernel
theorem dX2_weighNight_61 : decode cX2_weighNight 61 = .ok (.getfield 9, 3) := by decide +kernel
theorem dX2_weighNight_64 : decode cX2_weighNight 64 = .ok (.iload 7, 2) := by decide +kernel
theorem dX2_weighNight_66 : decode cX2_weighNight 66 = .ok (.laload, 1) := by decide +kernel
theorem dX2_weighNight_67 : decode cX2_weighNight 67 = .ok (.iload_n 3, 1) := by decide +kernel
theorem dX2_weighNight_68 : decode cX2_weighNight 68 = .ok (.i2l, 1) := by decide +kernel
theorem dX2_weighNight_69 : decode cX2_weighNight 69 = .ok (.lmul, 1) := by decide +kernel
theorem dX2_weighNight_70 : decode cX2_weighNight 70 = .ok (.invokevirtual 68, 3) := by decide +kernel
theorem dX2_weighNight_73 : decode cX2_weighNight 73 = .ok (.aload_n 0, 1) := by decide +kernel
theorem dX2_weighNight_74 : decode cX2_weighNight 74 = .ok (.aload_n 1, 1) := by decide +kernel
theorem dX2_weighNight_75 : decode cX2_weighNight 75 = .ok (.iload 7, 2) := by decide +kernel
theorem dX2_weighNight_77 : decode cX2_weighNight 77 = .ok (.iload 6, 2) := by decide +kernel
theorem dX2_weighNight_79 : decode cX2_weighNight 79 = .ok (.iadd, 1) := by decide +kernel
theorem dX2_weighNight_80 : decode cX2_weighNight 80 = .ok (.aload_n 0, 1) := by decide +kernel
theorem dX2_weighNight_81 : decode cX2_weighNight 81 = .ok (.getfield 9, 3) := by decide +kernel
theorem dX2_weighNight_84 : decode cX2_weighNight 84 = .ok (.iload 7, 2) := by decide +kernel
theorem dX2_weighNight_86 : decode cX2_weighNight 86 = .ok (.laload, 1) := by decide +kernel
theorem dX2_weighNight_87 : decode cX2_weighNight 87 = .ok (.iload 4, 2) := by decide +kernel
theorem dX2_weighNight_89 : decode cX2_weighNight 89 = .ok (.iload_n 3, 1) := by decide +kernel
theorem dX2_weighNight_90 : decode cX2_weighNight 90 = .ok (.isub, 1) := by decide +kernel
theorem dX2_weighNight_91 : decode cX2_weighNight 91 = .ok (.i2l, 1) := by decide +kernel
theorem dX2_weighNight_92 : decode cX2_weighNight 92 = .ok (.lmul, 1) := by decide +kernel
theorem dX2_weighNight_93 : decode cX2_weighNight 93 = .ok (.invokevirtual 68, 3) := by decide +kernel
theorem dX2_weighNight_96 : decode cX2_weighNight 96 = .ok (.iinc 7 1, 3) := by decide +kernel
theorem dX2_weighNight_99 : decode cX2_weighNight 99 = .ok (.goto (-68), 3) := by decide +kernel
theorem dX2_weighNight_102 : decode cX2_weighNight 102 = .ok (.aload_n 0, 1) := by decide +kernel
theorem dX2_weighNight_103 : decode cX2_weighNight 103 = .ok (.getfield 15, 3) := by decide +kernel
theorem dX2_weighNight_106 : decode cX2_weighNight 106 = .ok (.iconst 0, 1) := by decide +kernel
theorem dX2_weighNight_107 : decode cX2_weighNight 107 = .ok (.aload_n 0, 1) := by decide +kernel
theorem dX2_weighNight_108 : decode cX2_weighNight 108 = .ok (.getfield 9, 3) := by decide +kernel
theorem dX2_weighNight_111 : decode cX2_weighNight 111 = .ok (.iconst 0, 1) := by decide +kernel
theorem dX2_weighNight_112 : decode cX2_weighNight 112 = .ok (.aload_n 0, 1) := by decide +kernel
theorem dX2_weighNight_113 : decode cX2_weighNight 113 = .ok (.getfield 15, 3) := by decide +kernel
theorem dX2_weighNight_116 : decode cX2_weighNight 116 = .ok (.arraylength, 1) := by decide +kernel
theorem dX2_weighNight_117 : decode cX2_weighNight 117 = .ok (.aload_n 0, 1) := by decide +kernel
theorem dX2_weighNight_118 : decode cX2_weighNight 118 = .ok (.getfield 9, 3) := by decide +kernel
theorem dX2_weighNight_121 : decode cX2_weighNight 121 = .ok (.arraylength, 1) := by decide +kernel
theorem dX2_weighNight_122 : decode cX2_weighNight 122 = .ok (.invokestatic 72, 3) := by decide +kernel
theorem dX2_weighNight_125 : decode cX2_weighNight 125 = .ok (.invokestatic 77, 3) := by decide +kernel
theorem dX2_weighNight_128 : decode cX2_weighNight 128 = .ok (.return_, 1) := by decide +kernel
theorem dX2_weigh_0 : decode cX2_weigh 0 = .ok (.aload_n 1, 1) := by decide +kernel
theorem dX2_weigh_1 : decode cX2_weigh 1 = .ok (.iload_n 2, 1) := by decide +kernel
theorem dX2_weigh_2 : decode cX2_weigh 2 = .ok (.invokevirtual 83, 3) := by decide +kernel
theorem dX2_weigh_5 : decode cX2_weigh 5 = .ok (.iconst (-1), 1) := by decide +kernel
theorem dX2_weigh_6 : decode cX2_weigh 6 = .ok (.if_icmp .eq 26, 3) := by decide +kernel
theorem dX2_weigh_9 : decode cX2_weigh 9 = .ok (.iload_n 2, 1) := by decide +kernel
theorem dX2_weigh_10 : decode cX2_weigh 10 = .ok (.ifCond .lt 22, 3) := by decide +kernel
theorem dX2_weigh_13 : decode cX2_weigh 13 = .ok (.iload_n 2, 1) := by decide +kernel
theorem dX2_weigh_14 : decode cX2_weigh 14 = .ok (.aload_n 0, 1) := by decide +kernel
theorem dX2_weigh_15 : decode cX2_weigh 15 = .ok (.getfield 15, 3) := by decide +kernel
theorem dX2_weigh_18 : decode cX2_weigh 18 = .ok (.arraylength, 1) := by decide +kernel
theorem dX2_weigh_19 : decode cX2_weigh 19 = .ok (.if_icmp .ge 13, 3) := by decide +kernel
theorem dX2_weigh_22 : decode cX2_weigh 22 = .ok (.aload_n 0, 1) := by decide +kernel
theorem dX2_weigh_23 : decode cX2_weigh 23 = .ok (.getfield 15, 3) := by decide +kernel
theorem dX2_weigh_26 : decode cX2_weigh 26 = .ok (.iload_n 2, 1) := by decide +kernel
theorem dX2_weigh_27 : decode cX2_weigh 27 = .ok (.dup2, 1) := by decide +kernel
theorem dX2_weigh_28 : decode cX2_weigh 28 = .ok (.laload, 1) := by decide +kernel
theorem dX2_weigh_29 : decode cX2_weigh 29 = .ok (.lload_n 3, 1) := by decide +kernel
theorem dX2_weigh_30 : decode cX2_weigh 30 = .ok (.ladd, 1) := by decide +kernel
theorem dX2_weigh_31 : decode cX2_weigh 31 = .ok (.lastore, 1) := by decide +kernel
theorem dX2_weigh_32 : decode cX2_weigh 32 = .ok (.return_, 1) := by decide +kernel
theorem dX2_dropEaten_0 : decode cX2_dropEaten 0 = .ok (.iconst 0, 1) := by decide +kernel
theorem dX2_dropEaten_1 : decode cX2_dropEaten 1 = .ok (.istore_n 2, 1) := by decide +kernel
theorem dX2_dropEaten_2 : decode cX2_dropEaten 2 = .ok (.iload_n 2, 1) := by decide +kernel
theorem dX2_dropEaten_3 : decode cX2_dropEaten 3 = .ok (.aload_n 0, 1) := by decide +kernel
theorem dX2_dropEaten_4 : decode cX2_dropEaten 4 = .ok (.getfield 9, 3) := by decide +kernel
theorem dX2_dropEaten_7 : decode cX2_dropEaten 7 = .ok (.arraylength, 1) := by decide +kernel
theorem dX2_dropEaten_8 : decode cX2_dropEaten 8 = .ok (.if_icmp .ge 28, 3) := by decide +kernel
theorem dX2_dropEaten_11 : decode cX2_dropEaten 11 = .ok (.aload_n 1, 1) := by decide +kernel
theorem dX2_dropEaten_12 : decode cX2_dropEaten 12 = .ok (.aload_n 1, 1) := by decide +kernel
theorem dX2_dropEaten_13 : decode cX2_dropEaten 13 = .ok (.iload_n 2, 1) := by decide +kernel
theorem dX2_dropEaten_14 : decode cX2_dropEaten 14 = .ok (.invokevirtual 83, 3) := by decide +kernel
theorem dX2_dropEaten_17 : decode cX2_dropEaten 17 = .ok (.invokevirtual 86, 3) := by decide +kernel
theorem dX2_dropEaten_20 : decode cX2_dropEaten 20 = .ok (.ifCond .eq 10, 3) := by decide +kernel
theorem dX2_dropEaten_23 : decode cX2_dropEaten 23 = .ok (.aload_n 0, 1) := by decide +kernel
theorem dX2_dropEaten_24 : decode cX2_dropEaten 24 = .ok (.getfield 9, 3) := by decide +kernel
theorem dX2_dropEaten_27 : decode cX2_dropEaten 27 = .ok (.iload_n 2, 1) := by decide +kernel
theorem dX2_dropEaten_28 : decode cX2_dropEaten 28 = .ok (.lconst 0, 1) := by decide +kernel
theorem dX2_dropEaten_29 : decode cX2_dropEaten 29 = .ok (.lastore, 1) := by decide +kernel
theorem dX2_dropEaten_30 : decode cX2_dropEaten 30 = .ok (.iinc 2 1, 3) := by decide +kernel
theorem dX2_dropEaten_33 : decode cX2_dropEaten 33 = .ok (.goto (-31), 3) := by decide +kernel
theorem dX2_dropEaten_36 : decode cX2_dropEaten 36 = .ok (.return_, 1) := by decide +kernel
theorem dX2_reduce_0 : decode cX2_reduce 0 = .ok (.aload_n 0, 1) := by decide +kernel
theorem dX2_reduce_1 : decode cX2_reduce 1 = .ok (.getfield 28, 3) := by decide +kernel
theorem dX2_reduce_4 : decode cX2_reduce 4 = .ok (.lconst 0, 1) := by decide +kernel
theorem dX2_reduce_5 : decode cX2_reduce 5 = .ok (.lcmp, 1) := by decide +kernel
theorem dX2_reduce_6 : decode cX2_reduce 6 = .ok (.ifCond .ne 8, 3) := by decide +kernel
theorem dX2_reduce_9 : decode cX2_reduce 9 = .ok (.aload_n 0, 1) := by decide +kernel
theorem dX2_reduce_10 : decode cX2_reduce 10 = .ok (.lconst 1, 1) := by decide +kernel
theorem dX2_reduce_11 : decode cX2_reduce 11 = .ok (.putfield 32, 3) := by decide +kernel
theorem dX2_reduce_14 : decode cX2_reduce 14 = .ok (.iconst 0, 1) := by decide +kernel
theorem dX2_reduce_15 : decode cX2_reduce 15 = .ok (.istore_n 1, 1) := by decide +kernel
theorem dX2_reduce_16 : decode cX2_reduce 16 = .ok (.iload_n 1, 1) := by decide +kernel
theorem dX2_reduce_17 : decode cX2_reduce 17 = .ok (.bipush 63, 2) := by decide +kernel
theorem dX2_reduce_19 : decode cX2_reduce 19 = .ok (.if_icmp .ge 51, 3) := by decide +kernel
theorem dX2_reduce_22 : decode cX2_reduce 22 = .ok (.aload_n 0, 1) := by decide +kernel
theorem dX2_reduce_23 : decode cX2_reduce 23 = .ok (.getfield 28, 3) := by decide +kernel
theorem dX2_reduce_26 : decode cX2_reduce 26 = .ok (.lconst 1, 1) := by decide +kernel
theorem dX2_reduce_27 : decode cX2_reduce 27 = .ok (.land, 1) := by decide +kernel
theorem dX2_reduce_28 : decode cX2_reduce 28 = .ok (.lconst 0, 1) := by decide +kernel
theorem dX2_reduce_29 : decode cX2_reduce 29 = .ok (.lcmp, 1) := by decide +kernel
theorem dX2_reduce_30 : decode cX2_reduce 30 = .ok (.ifCond .ne 40, 3) := by decide +kernel
theorem dX2_reduce_33 : decode cX2_reduce 33 = .ok (.aload_n 0, 1) := by decide +kernel
theorem dX2_reduce_34 : decode cX2_reduce 34 = .ok (.getfield 32, 3) := by decide +kernel
theorem dX2_reduce_37 : decode cX2_reduce 37 = .ok (.lconst 1, 1) := by decide +kernel
theorem dX2_reduce_38 : decode cX2_reduce 38 = .ok (.land, 1) := by decide +kernel
theorem dX2_reduce_39 : decode cX2_reduce 39 = .ok (.lconst 0, 1) := by decide +kernel
theorem dX2_reduce_40 : decode cX2_reduce 40 = .ok (.lcmp, 1) := by decide +kernel
theorem dX2_reduce_41 : decode cX2_reduce 41 = .ok (.ifCond .ne 29, 3) := by decide +kernel
theorem dX2_reduce_44 : decode cX2_reduce 44 = .ok (.aload_n 0, 1) := by decide +kernel
theorem dX2_reduce_45 : decode cX2_reduce 45 = .ok (.dup, 1) := by decide +kernel
theorem dX2_reduce_46 : decode cX2_reduce 46 = .ok (.getfield 28, 3) := by decide +kernel
theorem dX2_reduce_49 : decode cX2_reduce 49 = .ok (.iconst 1, 1) := by decide +kernel
theorem dX2_reduce_50 : decode cX2_reduce 50 = .ok (.lshr, 1) := by decide +kernel
theorem dX2_reduce_51 : decode cX2_reduce 51 = .ok (.putfield 28, 3) := by decide +kernel
theorem dX2_reduce_54 : decode cX2_reduce 54 = .ok (.aload_n 0, 1) := by decide +kernel
theorem dX2_reduce_55 : decode cX2_reduce 55 = .ok (.dup, 1) := by decide +kernel
theorem dX2_reduce_56 : decode cX2_reduce 56 = .ok (.getfield 32, 3) := by decide +kernel
theorem dX2_reduce_59 : decode cX2_reduce 59 = .ok (.iconst 1, 1) := by decide +kernel
theorem dX2_reduce_60 : decode cX2_reduce 60 = .ok (.lshr, 1) := by decide +kernel
theorem dX2_reduce_61 : decode cX2_reduce 61 = .ok (.putfield 32, 3) := by decide +kernel
theorem dX2_reduce_64 : decode cX2_reduce 64 = .ok (.iinc 1 1, 3) := by decide +kernel
theorem dX2_reduce_67 : decode cX2_reduce 67 = .ok (.goto (-51), 3) := by decide +kernel
theorem dX2_reduce_70 : decode cX2_reduce 70 = .ok (.return_, 1) := by decide +kernel
theorem dX2_findSummer_0 : decode cX2_findSummer 0 = .ok (.aload_n 0, 1) := by decide +kernel
theorem dX2_findSummer_1 : decode cX2_findSummer 1 = .ok (.iconst 0, 1) := by decide +kernel
theorem dX2_findSummer_2 : decode cX2_findSummer 2 = .ok (.putfield 90, 3) := by decide +kernel
theorem dX2_findSummer_5 : decode cX2_findSummer 5 = .ok (.aload_n 0, 1) := by decide +kernel
theorem dX2_findSummer_6 : decode cX2_findSummer 6 = .ok (.iconst 0, 1) := by decide +kernel
theorem dX2_findSummer_7 : decode cX2_findSummer 7 = .ok (.putfield 93, 3) := by decide +kernel
theorem dX2_findSummer_10 : decode cX2_findSummer 10 = .ok (.ldc 96, 2) := by decide +kernel
theorem dX2_findSummer_12 : decode cX2_findSummer 12 = .ok (.istore_n 3, 1) := by decide +kernel
theorem dX2_findSummer_13 : decode cX2_findSummer 13 = .ok (.iconst 0, 1) := by decide +kernel
theorem dX2_findSummer_14 : decode cX2_findSummer 14 = .ok (.istore 4, 2) := by decide +kernel
theorem dX2_findSummer_16 : decode cX2_findSummer 16 = .ok (.iload 4, 2) := by decide +kernel
theorem dX2_findSummer_18 : decode cX2_findSummer 18 = .ok (.aload_n 0, 1) := by decide +kernel
theorem dX2_findSummer_19 : decode cX2_findSummer 19 = .ok (.getfield 18, 3) := by decide +kernel
theorem dX2_findSummer_22 : decode cX2_findSummer 22 = .ok (.getfield 97, 3) := by decide +kernel
theorem dX2_findSummer_25 : decode cX2_findSummer 25 = .ok (.getfield 101, 3) := by decide +kernel
theorem dX2_findSummer_28 : decode cX2_findSummer 28 = .ok (.if_icmp .ge 62, 3) := by decide +kernel
theorem dX2_findSummer_31 : decode cX2_findSummer 31 = .ok (.aload_n 0, 1) := by decide +kernel
theorem dX2_findSummer_32 : decode cX2_findSummer 32 = .ok (.getfield 18, 3) := by decide +kernel
theorem dX2_findSummer_35 : decode cX2_findSummer 35 = .ok (.iload 4, 2) := by decide +kernel
theorem dX2_findSummer_37 : decode cX2_findSummer 37 = .ok (.invokevirtual 22, 3) := by decide +kernel
theorem dX2_findSummer_40 : decode cX2_findSummer 40 = .ok (.astore 5, 2) := by decide +kernel
theorem dX2_findSummer_42 : decode cX2_findSummer 42 = .ok (.aload 5, 2) := by decide +kernel
theorem dX2_findSummer_44 : decode cX2_findSummer 44 = .ok (.iload_n 1, 1) := by decide +kernel
theorem dX2_findSummer_45 : decode cX2_findSummer 45 = .ok (.iload_n 2, 1) := by decide +kernel
theorem dX2_findSummer_46 : decode cX2_findSummer 46 = .ok (.invokestatic 106, 3) := by decide +kernel
theorem dX2_findSummer_49 : decode cX2_findSummer 49 = .ok (.aload 5, 2) := by decide +kernel
theorem dX2_findSummer_51 : decode cX2_findSummer 51 = .ok (.invokevirtual 110, 3) := by decide +kernel
theorem dX2_findSummer_54 : decode cX2_findSummer 54 = .ok (.iload_n 3, 1) := by decide +kernel
theorem dX2_findSummer_55 : decode cX2_findSummer 55 = .ok (.aload 5, 2) := by decide +kernel
theorem dX2_findSummer_57 : decode cX2_findSummer 57 = .ok (.getfield 113, 3) := by decide +kernel
theorem dX2_findSummer_60 : decode cX2_findSummer 60 = .ok (.iand, 1) := by decide +kernel
theorem dX2_findSummer_61 : decode cX2_findSummer 61 = .ok (.istore_n 3, 1) := by decide +kernel
theorem dX2_findSummer_62 : decode cX2_findSummer 62 = .ok (.aload_n 0, 1) := by decide +kernel
theorem dX2_findSummer_63 : decode cX2_findSummer 63 = .ok (.dup, 1) := by decide +kernel
theorem dX2_findSummer_64 : decode cX2_findSummer 64 = .ok (.getfield 93, 3) := by decide +kernel
theorem dX2_findSummer_67 : decode cX2_findSummer 67 = .ok (.aload 5, 2) := by decide +kernel
theorem dX2_findSummer_69 : decode cX2_findSummer 69 = .ok (.getfield 116, 3) := by decide +kernel
theorem dX2_findSummer_72 : decode cX2_findSummer 72 = .ok (.ifCond .eq 7, 3) := by decide +kernel
theorem dX2_findSummer_75 : decode cX2_findSummer 75 = .ok (.iconst 1, 1) := by decide +kernel
theorem dX2_findSummer_76 : decode cX2_findSummer 76 = .ok (.goto 4, 3) := by decide +kernel
theorem dX2_findSummer_79 : decode cX2_findSummer 79 = .ok (.iconst 0, 1) := by decide +kernel
theorem dX2_findSummer_80 : decode cX2_findSummer 80 = .ok (.iadd, 1) := by decide +kernel
theorem dX2_findSummer_81 : decode cX2_findSummer 81 = .ok (.putfield 93, 3) := by decide +kernel
theorem dX2_findSummer_84 : decode cX2_findSummer 84 = .ok (.iinc 4 1, 3) := by decide +kernel
theorem dX2_findSummer_87 : decode cX2_findSummer 87 = .ok (.goto (-71), 3) := by decide +kernel
theorem dX2_findSummer_90 : decode cX2_findSummer 90 = .ok (.aload_n 0, 1) := by decide +kernel
theorem dX2_findSummer_91 : decode cX2_findSummer 91 = .ok (.getfield 18, 3) := by decide +kernel
theorem dX2_findSummer_94 : decode cX2_findSummer 94 = .ok (.getfield 97, 3) := by decide +kernel
theorem dX2_findSummer_97 : decode cX2_findSummer 97 = .ok (.getfield 101, 3) := by decide +kernel
theorem dX2_findSummer_100 : decode cX2_findSummer 100 = .ok (.ifCond .le 11, 3) := by decide +kernel
theorem dX2_findSummer_103 : decode cX2_findSummer 103 = .ok (.aload_n 0, 1) := by decide +kernel
theorem dX2_findSummer_104 : decode cX2_findSummer 104 = .ok (.iload_n 3, 1) := by decide +kernel
theorem dX2_findSummer_105 : decode cX2_findSummer 105 = .ok (.invokestatic 120, 3) := by decide +kernel
theorem dX2_findSummer_108 : decode cX2_findSummer 108 = .ok (.putfield 90, 3) := by decide +kernel
theorem dX2_findSummer_111 : decode cX2_findSummer 111 = .ok (.return_, 1) := by decide +kernel
theorem dX2_warmByLots_0 : decode cX2_warmByLots 0 = .ok (.iload_n 1, 1) := by decide +kernel
theorem dX2_warmByLots_1 : decode cX2_warmByLots 1 = .ok (.istore_n 3, 1) := by decide +kernel
theorem dX2_warmByLots_2 : decode cX2_warmByLots 2 = .ok (.iconst 0, 1) := by decide +kernel
theorem dX2_warmByLots_3 : decode cX2_warmByLots 3 = .ok (.istore 4, 2) := by decide +kernel
theorem dX2_warmByLots_5 : decode cX2_warmByLots 5 = .ok (.iload 4, 2) := by decide +kernel
theorem dX2_warmByLots_7 : decode cX2_warmByLots 7 = .ok (.bipush 30, 2) := by decide +kernel
theorem dX2_warmByLots_9 : decode cX2_warmByLots 9 = .ok (.if_icmp .ge 47, 3) := by decide +kernel
theorem dX2_warmByLots_12 : decode cX2_warmByLots 12 = .ok (.iload 4, 2) := by decide +kernel
theorem dX2_warmByLots_14 : decode cX2_warmByLots 14 = .ok (.iload_n 2, 1) := by decide +kernel
theorem dX2_warmByLots_15 : decode cX2_warmByLots 15 = .ok (.if_icmp .ge 28, 3) := by decide +kernel
theorem dX2_warmByLots_18 : decode cX2_warmByLots 18 = .ok (.ldc 125, 2) := by decide +kernel
theorem dX2_warmByLots_20 : decode cX2_warmByLots 20 = .ok (.iload_n 3, 1) := by decide +kernel
theorem dX2_warmByLots_21 : decode cX2_warmByLots 21 = .ok (.imul, 1) := by decide +kernel
theorem dX2_warmByLots_22 : decode cX2_warmByLots 22 = .ok (.sipush 12345, 3) := by decide +kernel
theorem dX2_warmByLots_25 : decode cX2_warmByLots 25 = .ok (.iadd, 1) := by decide +kernel
theorem dX2_warmByLots_26 : decode cX2_warmByLots 26 = .ok (.istore_n 3, 1) := by decide +kernel
theorem dX2_warmByLots_27 : decode cX2_warmByLots 27 = .ok (.aload_n 0, 1) := by decide +kernel
theorem dX2_warmByLots_28 : decode cX2_warmByLots 28 = .ok (.iload 4, 2) := by decide +kernel
theorem dX2_warmByLots_30 : decode cX2_warmByLots 30 = .ok (.iload_n 3, 1) := by decide +kernel
theorem dX2_warmByLots_31 : decode cX2_warmByLots 31 = .ok (.bipush 16, 2) := by decide +kernel
theorem dX2_warmByLots_33 : decode cX2_warmByLots 33 = .ok (.iushr, 1) := by decide +kernel
theorem dX2_warmByLots_34 : decode cX2_warmByLots 34 = .ok (.bipush 10, 2) := by decide +kernel
theorem dX2_warmByLots_36 : decode cX2_warmByLots 36 = .ok (.irem, 1) := by decide +kernel
theorem dX2_warmByLots_37 : decode cX2_warmByLots 37 = .ok (.invokevirtual 126, 3) := by decide +kernel
theorem dX2_warmByLots_40 : decode cX2_warmByLots 40 = .ok (.goto 10, 3) := by decide +kernel
theorem dX2_warmByLots_43 : decode cX2_warmByLots 43 = .ok (.aload_n 0, 1) := by decide +kernel
theorem dX2_warmByLots_44 : decode cX2_warmByLots 44 = .ok (.iload 4, 2) := by decide +kernel
theorem dX2_warmByLots_46 : decode cX2_warmByLots 46 = .ok (.iconst 5, 1) := by decide +kernel
theorem dX2_warmByLots_47 : decode cX2_warmByLots 47 = .ok (.invokevirtual 126, 3) := by decide +kernel
theorem dX2_warmByLots_50 : decode cX2_warmByLots 50 = .ok (.iinc 4 1, 3) := by decide +kernel
theorem dX2_warmByLots_53 : decode cX2_warmByLots 53 = .ok (.goto (-48), 3) := by decide +kernel
theorem dX2_warmByLots_56 : decode cX2_warmByLots 56 = .ok (.return_, 1) := by decide +kernel
theorem dX3_init_0 : decode cX3_init 0 = .ok (.aload_n 0, 1) := by decide +kernel
theorem dX3_init_1 : decode cX3_init 1 = .ok (.invokespecial 3, 3) := by decide +kernel
theorem dX3_init_4 : decode cX3_init 4 = .ok (.aload_n 0, 1) := by decide +kernel
theorem dX3_init_5 : decode cX3_init 5 = .ok (.sipush 270, 3) := by decide +kernel
theorem dX3_init_8 : decode cX3_init 8 = .ok (.newarray .int, 2) := by decide +kernel
theorem dX3_init_10 : decode cX3_init 10 = .ok (.putfield 11, 3) := by decide +kernel
theorem dX3_init_13 : decode cX3_init 13 = .ok (.aload_n 0, 1) := by decide +kernel
theorem dX3_init_14 : decode cX3_init 14 = .ok (.aload_n 1, 1) := by decide +kernel
theorem dX3_init_15 : decode cX3_init 15 = .ok (.putfield 15, 3) := by decide +kernel
theorem dX3_init_18 : decode cX3_init 18 = .ok (.return_, 1) := by decide +kernel
theorem dX3_neverTurnings_0 : decode cX3_neverTurnings 0 = .ok (.iconst 0, 1) := by decide +kernel
theorem dX3_neverTurnings_1 : decode cX3_neverTurnings 1 = .ok (.istore_n 1, 1) := by decide +kernel
theorem dX3_neverTurnings_2 : decode cX3_neverTurnings 2 = .ok (.iconst 0, 1) := by decide +kernel
theorem dX3_neverTurnings_3 : decode cX3_neverTurnings 3 = .ok (.istore_n 2, 1) := by decide +kernel
theorem dX3_neverTurnings_4 : decode cX3_neverTurnings 4 = .ok (.iload_n 2, 1) := by decide +kernel
theorem dX3_neverTurnings_5 : decode cX3_neverTurnings 5 = .ok (.aload_n 0, 1) := by decide +kernel
theorem dX3_neverTurnings_6 : decode cX3_neverTurnings 6 = .ok (.getfield 15, 3) := by decide +kernel
theorem dX3_neverTurnings_9 : decode cX3_neverTurnings 9 = .ok (.getfield 19, 3) := by decide +kernel
theorem dX3_neverTurnings_12 : decode cX3_neverTurnings 12 = .ok (.getfield 25, 3) := by decide +kernel
theorem dX3_neverTurnings_15 : decode cX3_neverTurnings 15 = .ok (.if_icmp .ge 24, 3) := by decide +kernel
theorem dX3_neverTurnings_18 : decode cX3_neverTurnings 18 = .ok (.aload_n 0, 1) := by decide +kernel
theorem dX3_neverTurnings_19 : decode cX3_neverTurnings 19 = .ok (.iconst (-1), 1) := by decide +kernel
theorem dX3_neverTurnings_20 : decode cX3_neverTurnings 20 = .ok (.iload_n 2, 1) := by decide +kernel
theorem dX3_neverTurnings_21 : decode cX3_neverTurnings 21 = .ok (.invokevirtual 31, 3) := by decide +kernel
theorem dX3_neverTurnings_24 : decode cX3_neverTurnings 24 = .ok (.ifCond .eq 9, 3) := by decide +kernel
theorem dX3_neverTurnings_27 : decode cX3_neverTurnings 27 = .ok (.iload_n 1, 1) := by decide +kernel
theorem dX3_neverTurnings_28 : decode cX3_neverTurnings 28 = .ok (.iconst 1, 1) := by decide +kernel
theorem dX3_neverTurnings_29 : decode cX3_neverTurnings 29 = .ok (.iload_n 2, 1) := by decide +kernel
theorem dX3_neverTurnings_30 : decode cX3_neverTurnings 30 = .ok (.ishl, 1) := by decide +kernel
theorem dX3_neverTurnings_31 : decode cX3_neverTurnings 31 = .ok (.ior, 1) := by decide +kernel
theorem dX3_neverTurnings_32 : decode cX3_neverTurnings 32 = .ok (.istore_n 1, 1) := by decide +kernel
theorem dX3_neverTurnings_33 : decode cX3_neverTurnings 33 = .ok (.iinc 2 1, 3) := by decide +kernel
theorem dX3_neverTurnings_36 : decode cX3_neverTurnings 36 = .ok (.goto (-32), 3) := by decide +kernel
theorem dX3_neverTurnings_39 : decode cX3_neverTurnings 39 = .ok (.iload_n 1, 1) := by decide +kernel
theorem dX3_neverTurnings_40 : decode cX3_neverTurnings 40 = .ok (.ireturn, 1) := by decide +kernel
theorem dX3_fromNights_0 : decode cX3_fromNights 0 = .ok (.aload_n 0, 1) := by decide +kernel
theorem dX3_fromNights_1 : decode cX3_fromNights 1 = .ok (.iload_n 1, 1) := by decide +kernel
theorem dX3_fromNights_2 : decode cX3_fromNights 2 = .ok (.iconst (-1), 1) := by decide +kernel
theorem dX3_fromNights_3 : decode cX3_fromNights 3 = .ok (.invokevirtual 31, 3) := by decide +kernel
theorem dX3_fromNights_6 : decode cX3_fromNights 6 = .ok (.ifCond .ne 5, 3) := by decide +kernel
theorem dX3_fromNights_9 : decode cX3_fromNights 9 = .ok (.iconst 0, 1) := by decide +kernel
theorem dX3_fromNights_10 : decode cX3_fromNights 10 = .ok (.ireturn, 1) := by decide +kernel
theorem dX3_fromNights_11 : decode cX3_fromNights 11 = .ok (.aload_n 0, 1) := by decide +kernel
theorem dX3_fromNights_12 : decode cX3_fromNights 12 = .ok (.getfield 15, 3) := by decide +kernel
theorem dX3_fromNights_15 : decode cX3_fromNights 15 = .ok (.iload_n 1, 1) := by decide +kernel
theorem dX3_fromNights_16 : decode cX3_fromNights 16 = .ok (.invokevirtual 35, 3) := by decide +kernel
theorem dX3_fromNights_19 : decode cX3_fromNights 19 = .ok (.astore_n 2, 1) := by decide +kernel
theorem dX3_fromNights_20 : decode cX3_fromNights 20 = .ok (.iconst 0, 1) := by decide +kernel
theorem dX3_fromNights_21 : decode cX3_fromNights 21 = .ok (.istore_n 3, 1) := by decide +kernel
theorem dX3_fromNights_22 : decode cX3_fromNights 22 = .ok (.iconst 0, 1) := by decide +kernel
theorem dX3_fromNights_23 : decode cX3_fromNights 23 = .ok (.istore 4, 2) := by decide +kernel
theorem dX3_fromNights_25 : decode cX3_fromNights 25 = .ok (.iload 4, 2) := by decide +kernel
theorem dX3_fromNights_27 : decode cX3_fromNights 27 = .ok (.bipush 20, 2) := by decide +kernel
theorem dX3_fromNights_29 : decode cX3_fromNights 29 = .ok (.if_icmp .ge 35, 3) := by decide +kernel
theorem dX3_fromNights_32 : decode cX3_fromNights 32 = .ok (.aload_n 2, 1) := by decide +kernel
theorem dX3_fromNights_33 : decode cX3_fromNights 33 = .ok (.iload 4, 2) := by decide +kernel
theorem dX3_fromNights_35 : decode cX3_fromNights 35 = .ok (.putfield 39, 3) := by decide +kernel
theorem dX3_fromNights_38 : decode cX3_fromNights 38 = .ok (.aload_n 2, 1) := by decide +kernel
theorem dX3_fromNights_39 : decode cX3_fromNights 39 = .ok (.invokevirtual 44, 3) := by decide +kernel
theorem dX3_fromNights_42 : decode cX3_fromNights 42 = .ok (.aload_n 0, 1) := by decide +kernel
theorem dX3_fromNights_43 : decode cX3_fromNights 43 = .ok (.aload_n 2, 1) := by decide +kernel
theorem dX3_fromNights_44 : decode cX3_fromNights 44 = .ok (.iload_n 1, 1) := by decide +kernel
theorem dX3_fromNights_45 : decode cX3_fromNights 45 = .ok (.invokevirtual 47, 3) := by decide +kernel
theorem dX3_fromNights_48 : decode cX3_fromNights 48 = .ok (.ifCond .eq 10, 3) := by decide +kernel
theorem dX3_fromNights_51 : decode cX3_fromNights 51 = .ok (.iload_n 3, 1) := by decide +kernel
theorem dX3_fromNights_52 : decode cX3_fromNights 52 = .ok (.iconst 1, 1) := by decide +kernel
theorem dX3_fromNights_53 : decode cX3_fromNights 53 = .ok (.iload 4, 2) := by decide +kernel
theorem dX3_fromNights_55 : decode cX3_fromNights 55 = .ok (.ishl, 1) := by decide +kernel
theorem dX3_fromNights_56 : decode cX3_fromNights 56 = .ok (.ior, 1) := by decide +kernel
theorem dX3_fromNights_57 : decode cX3_fromNights 57 = .ok (.istore_n 3, 1) := by decide +kernel
theorem dX3_fromNights_58 : decode cX3_fromNights 58 = .ok (.iinc 4 1, 3) := by decide +kernel
theorem dX3_fromNights_61 : decode cX3_fromNights 61 = .ok (.goto (-36), 3) := by decide +kernel
theorem dX3_fromNights_64 : decode cX3_fromNights 64 = .ok (.iload_n 3, 1) := by decide +kernel
theorem dX3_fromNights_65 : decode cX3_fromNights 65 = .ok (.ireturn, 1) := by decide +kernel
theorem dX3_fittingSorts_0 : decode cX3_fittingSorts 0 = .ok (.aload_n 0, 1) := by decide +kernel
theorem dX3_fittingSorts_1 : decode cX3_fittingSorts 1 = .ok (.iload_n 1, 1) := by decide +kernel
theorem dX3_fittingSorts_2 : decode cX3_fittingSorts 2 = .ok (.iconst (-1), 1) := by decide +kernel
theorem dX3_fittingSorts_3 : decode cX3_fittingSorts 3 = .ok (.invokevirtual 31, 3) := by decide +kernel
theorem dX3_fittingSorts_6 : decode cX3_fittingSorts 6 = .ok (.ifCond .ne 5, 3) := by decide +kernel
theorem dX3_fittingSorts_9 : decode cX3_fittingSorts 9 = .ok (.iconst 0, 1) := by decide +kernel
theorem dX3_fittingSorts_10 : decode cX3_fittingSorts 10 = .ok (.ireturn, 1) := by decide +kernel
theorem dX3_fittingSorts_11 : decode cX3_fittingSorts 11 = .ok (.aload_n 0, 1) := by decide +kernel
theorem dX3_fittingSorts_12 : decode cX3_fittingSorts 12 = .ok (.getfield 15, 3) := by decide +kernel
theorem dX3_fittingSorts_15 : decode cX3_fittingSorts 15 = .ok (.iload_n 1, 1) := by decide +kernel
theorem dX3_fittingSorts_16 : decode cX3_fittingSorts 16 = .ok (.invokevirtual 35, 3) := by decide +kernel
theorem dX3_fittingSorts_19 : decode cX3_fittingSorts 19 = .ok (.astore_n 2, 1) := by decide +kernel
theorem dX3_fittingSorts_20 : decode cX3_fittingSorts 20 = .ok (.iconst 0, 1) := by decide +kernel
theorem dX3_fittingSorts_21 : decode cX3_fittingSorts 21 = .ok (.istore_n 3, 1) := by decide +kernel
theorem dX3_fittingSorts_22 : decode cX3_fittingSorts 22 = .ok (.iconst 0, 1) := by decide +kernel
theorem dX3_fittingSorts_23 : decode cX3_fittingSorts 23 = .ok (.istore 4, 2) := by decide +kernel
theorem dX3_fittingSorts_25 : decode cX3_fittingSorts 25 = .ok (.iload 4, 2) := by decide +kernel
theorem dX3_fittingSorts_27 : decode cX3_fittingSorts 27 = .ok (.iconst 2, 1) := by decide +kernel
theorem dX3_fittingSorts_28 : decode cX3_fittingSorts 28 = .ok (.if_icmp .gt 35, 3) := by decide +kernel
theorem dX3_fittingSorts_31 : decode cX3_fittingSorts 31 = .ok (.aload_n 2, 1) := by decide +kernel
theorem dX3_fittingSorts_32 : decode cX3_fittingSorts 32 = .ok (.iload 4, 2) := by decide +kernel
theorem dX3_fittingSorts_34 : decode cX3_fittingSorts 34 = .ok (.putfield 51, 3) := by decide +kernel
theorem dX3_fittingSorts_37 : decode cX3_fittingSorts 37 = .ok (.aload_n 2, 1) := by decide +kernel
theorem dX3_fittingSorts_38 : decode cX3_fittingSorts 38 = .ok (.invokevirtual 44, 3) := by decide +kernel
theorem dX3_fittingSorts_41 : decode cX3_fittingSorts 41 = .ok (.aload_n 0, 1) := by decide +kernel
theorem dX3_fittingSorts_42 : decode cX3_fittingSorts 42 = .ok (.aload_n 2, 1) := by decide +kernel
theorem dX3_fittingSorts_43 : decode cX3_fittingSorts 43 = .ok (.iload_n 1, 1) := by decide +kernel
theorem dX3_fittingSorts_44 : decode cX3_fittingSorts 44 = .ok (.invokevirtual 47, 3) := by decide +kernel
theorem dX3_fittingSorts_47 : decode cX3_fittingSorts 47 = .ok (.ifCond .eq 10, 3) := by decide +kernel
theorem dX3_fittingSorts_50 : decode cX3_fittingSorts 50 = .ok (.iload_n 3, 1) := by decide +kernel
theorem dX3_fittingSorts_51 : decode cX3_fittingSorts 51 = .ok (.iconst 1, 1) := by decide +kernel
theorem dX3_fittingSorts_52 : decode cX3_fittingSorts 52 = .ok (.iload 4, 2) := by decide +kernel
theorem dX3_fittingSorts_54 : decode cX3_fittingSorts 54 = .ok (.ishl, 1) := by decide +kernel
theorem dX3_fittingSorts_55 : decode cX3_fittingSorts 55 = .ok (.ior, 1) := by decide +kernel
theorem dX3_fittingSorts_56 : decode cX3_fittingSorts 56 = .ok (.istore_n 3, 1) := by decide +kernel
theorem dX3_fittingSorts_57 : decode cX3_fittingSorts 57 = .ok (.iinc 4 1, 3) := by decide +kernel
theorem dX3_fittingSorts_60 : decode cX3_fittingSorts 60 = .ok (.goto (-35), 3) := by decide +kernel
theorem dX3_fittingSorts_63 : decode cX3_fittingSorts 63 = .ok (.iload_n 3, 1) := by decide +kernel
theorem dX3_fittingSorts_64 : decode cX3_fittingSorts 64 = .ok (.ireturn, 1) := by decide +kernel
theorem dX3_nextNight_0 : decode cX3_nextNight 0 = .ok (.aload_n 0, 1) := by decide +kernel
theorem dX3_nextNight_1 : decode cX3_nextNight 1 = .ok (.iload_n 1, 1) := by decide +kernel
theorem dX3_nextNight_2 : decode cX3_nextNight 2 = .ok (.iload_n 2, 1) := by decide +kernel
theorem dX3_nextNight_3 : decode cX3_nextNight 3 = .ok (.invokevirtual 54, 3) := by decide +kernel
theorem dX3_nextNight_6 : decode cX3_nextNight 6 = .ok (.iconst 0, 1) := by decide +kernel
theorem dX3_nextNight_7 : decode cX3_nextNight 7 = .ok (.istore_n 3, 1) := by decide +kernel
theorem dX3_nextNight_8 : decode cX3_nextNight 8 = .ok (.aload_n 0, 1) := by decide +kernel
theorem dX3_nextNight_9 : decode cX3_nextNight 9 = .ok (.iconst 0, 1) := by decide +kernel
theorem dX3_nextNight_10 : decode cX3_nextNight 10 = .ok (.invokevirtual 58, 3) := by decide +kernel
theorem dX3_nextNight_13 : decode cX3_nextNight 13 = .ok (.istore 4, 2) := by decide +kernel
theorem dX3_nextNight_15 : decode cX3_nextNight 15 = .ok (.iconst 1, 1) := by decide +kernel
theorem dX3_nextNight_16 : decode cX3_nextNight 16 = .ok (.istore 5, 2) := by decide +kernel
theorem dX3_nextNight_18 : decode cX3_nextNight 18 = .ok (.iload 5, 2) := by decide +kernel
theorem dX3_nextNight_20 : decode cX3_nextNight 20 = .ok (.bipush 30, 2) := by decide +kernel
theorem dX3_nextNight_22 : decode cX3_nextNight 22 = .ok (.if_icmp .ge 31, 3) := by decide +kernel
theorem dX3_nextNight_25 : decode cX3_nextNight 25 = .ok (.aload_n 0, 1) := by decide +kernel
theorem dX3_nextNight_26 : decode cX3_nextNight 26 = .ok (.iload 5, 2) := by decide +kernel
theorem dX3_nextNight_28 : decode cX3_nextNight 28 = .ok (.invokevirtual 58, 3) := by decide +kernel
theorem dX3_nextNight_31 : decode cX3_nextNight 31 = .ok (.istore 6, 2) := by decide +kernel
theorem dX3_nextNight_33 : decode cX3_nextNight 33 = .ok (.iload 6, 2) := by decide +kernel
theorem dX3_nextNight_35 : decode cX3_nextNight 35 = .ok (.iload 4, 2) := by decide +kernel
theorem dX3_nextNight_37 : decode cX3_nextNight 37 = .ok (.if_icmp .ge 10, 3) := by decide +kernel
theorem dX3_nextNight_40 : decode cX3_nextNight 40 = .ok (.iload 5, 2) := by decide +kernel
theorem dX3_nextNight_42 : decode cX3_nextNight 42 = .ok (.istore_n 3, 1) := by decide +kernel
theorem dX3_nextNight_43 : decode cX3_nextNight 43 = .ok (.iload 6, 2) := by decide +kernel
theorem dX3_nextNight_45 : decode cX3_nextNight 45 = .ok (.istore 4, 2) := by decide +kernel
theorem dX3_nextNight_47 : decode cX3_nextNight 47 = .ok (.iinc 5 1, 3) := by decide +kernel
theorem dX3_nextNight_50 : decode cX3_nextNight 50 = .ok (.goto (-32), 3) := by decide +kernel
theorem dX3_nextNight_53 : decode cX3_nextNight 53 = .ok (.iload_n 3, 1) := by decide +kernel
theorem dX3_nextNight_54 : decode cX3_nextNight 54 = .ok (.ireturn, 1) := by decide +kernel
theorem dX3_tallyAlike_0 : decode cX3_tallyAlike 0 = .ok (.aload_n 0, 1) := by decide +kernel
theorem dX3_tallyAlike_1 : decode cX3_tallyAlike 1 = .ok (.getfield 11, 3) := by decide +kernel
theorem dX3_tallyAlike_4 : decode cX3_tallyAlike 4 = .ok (.iconst 0, 1) := by decide +kernel
theorem dX3_tallyAlike_5 : decode cX3_tallyAlike 5 = .ok (.invokestatic 62, 3) := by decide +kernel
theorem dX3_tallyAlike_8 : decode cX3_tallyAlike 8 = .ok (.aload_n 0, 1) := by decide +kernel
theorem dX3_tallyAlike_9 : decode cX3_tallyAlike 9 = .ok (.getfield 15, 3) := by decide +kernel
theorem dX3_tallyAlike_12 : decode cX3_tallyAlike 12 = .ok (.iload_n 1, 1) := by decide +kernel
theorem dX3_tallyAlike_13 : decode cX3_tallyAlike 13 = .ok (.invokevirtual 35, 3) := by decide +kernel
theorem dX3_tallyAlike_16 : decode cX3_tallyAlike 16 = .ok (.astore_n 3, 1) := by decide +kernel
theorem dX3_tallyAlike_17 : decode cX3_tallyAlike 17 = .ok (.iconst 0, 1) := by decide +kernel
theorem dX3_tallyAlike_18 : decode cX3_tallyAlike 18 = .ok (.istore 4, 2) := by decide +kernel
theorem dX3_tallyAlike_20 : decode cX3_tallyAlike 20 = .ok (.iload 4, 2) := by decide +kernel
theorem dX3_tallyAlike_22 : decode cX3_tallyAlike 22 = .ok (.bipush 20, 2) := by decide +kernel
theorem dX3_tallyAlike_24 : decode cX3_tallyAlike 24 = .ok (.if_icmp .ge 62, 3) := by decide +kernel
theorem dX3_tallyAlike_27 : decode cX3_tallyAlike 27 = .ok (.iload_n 2, 1) := by decide +kernel
theorem dX3_tallyAlike_28 : decode cX3_tallyAlike 28 = .ok (.iload 4, 2) := by decide +kernel
theorem dX3_tallyAlike_30 : decode cX3_tallyAlike 30 = .ok (.invokestatic 68, 3) := by decide +kernel
theorem dX3_tallyAlike_33 : decode cX3_tallyAlike 33 = .ok (.ifCond .eq 47, 3) := by decide +kernel
theorem dX3_tallyAlike_36 : decode cX3_tallyAlike 36 = .ok (.aload_n 3, 1) := by decide +kernel
theorem dX3_tallyAlike_37 : decode cX3_tallyAlike 37 = .ok (.iload 4, 2) := by decide +kernel
theorem dX3_tallyAlike_39 : decode cX3_tallyAlike 39 = .ok (.putfield 39, 3) := by decide +kernel
theorem dX3_tallyAlike_42 : decode cX3_tallyAlike 42 = .ok (.aload_n 3, 1) := by decide +kernel
theorem dX3_tallyAlike_43 : decode cX3_tallyAlike 43 = .ok (.invokevirtual 44, 3) := by decide +kernel
theorem dX3_tallyAlike_46 : decode cX3_tallyAlike 46 = .ok (.iconst 0, 1) := by decide +kernel
theorem dX3_tallyAlike_47 : decode cX3_tallyAlike 47 = .ok (.istore 5, 2) := by decide +kernel
theorem dX3_tallyAlike_49 : decode cX3_tallyAlike 49 = .ok (.iload 5, 2) := by decide +kernel
theorem dX3_tallyAlike_51 : decode cX3_tallyAlike 51 = .ok (.bipush 30, 2) := by decide +kernel
theorem dX3_tallyAlike_53 : decode cX3_tallyAlike 53 = .ok (.if_icmp .ge 27, 3) := by decide +kernel
theorem dX3_tallyAlike_56 : decode cX3_tallyAlike 56 = .ok (.aload_n 0, 1) := by decide +kernel
theorem dX3_tallyAlike_57 : decode cX3_tallyAlike 57 = .ok (.iload 5, 2) := by decide +kernel
theorem dX3_tallyAlike_59 : decode cX3_tallyAlike 59 = .ok (.bipush 9, 2) := by decide +kernel
theorem dX3_tallyAlike_61 : decode cX3_tallyAlike 61 = .ok (.imul, 1) := by decide +kernel
theorem dX3_tallyAlike_62 : decode cX3_tallyAlike 62 = .ok (.aload_n 3, 1) := by decide +kernel
theorem dX3_tallyAlike_63 : decode cX3_tallyAlike 63 = .ok (.iload 5, 2) := by decide +kernel
theorem dX3_tallyAlike_65 : decode cX3_tallyAlike 65 = .ok (.invokevirtual 71, 3) := by decide +kernel
theorem dX3_tallyAlike_68 : decode cX3_tallyAlike 68 = .ok (.iadd, 1) := by decide +kernel
theorem dX3_tallyAlike_69 : decode cX3_tallyAlike 69 = .ok (.iconst 1, 1) := by decide +kernel
theorem dX3_tallyAlike_70 : decode cX3_tallyAlike 70 = .ok (.iadd, 1) := by decide +kernel
theorem dX3_tallyAlike_71 : decode cX3_tallyAlike 71 = .ok (.invokevirtual 74, 3) := by decide +kernel
theorem dX3_tallyAlike_74 : decode cX3_tallyAlike 74 = .ok (.iinc 5 1, 3) := by decide +kernel
theorem dX3_tallyAlike_77 : decode cX3_tallyAlike 77 = .ok (.goto (-28), 3) := by decide +kernel
theorem dX3_tallyAlike_80 : decode cX3_tallyAlike 80 = .ok (.iinc 4 1, 3) := by decide +kernel
theorem dX3_tallyAlike_83 : decode cX3_tallyAlike 83 = .ok (.goto (-63), 3) := by decide +kernel
theorem dX3_tallyAlike_86 : decode cX3_tallyAlike 86 = .ok (.return_, 1) := by decide +kernel
theorem dX3_tallyOne_0 : decode cX3_tallyOne 0 = .ok (.iload_n 1, 1) := by decide +kernel
theorem dX3_tallyOne_1 : decode cX3_tallyOne 1 = .ok (.ifCond .lt 22, 3) := by decide +kernel
theorem dX3_tallyOne_4 : decode cX3_tallyOne 4 = .ok (.iload_n 1, 1) := by decide +kernel
theorem dX3_tallyOne_5 : decode cX3_tallyOne 5 = .ok (.aload_n 0, 1) := by decide +kernel
theorem dX3_tallyOne_6 : decode cX3_tallyOne 6 = .ok (.getfield 11, 3) := by decide +kernel
theorem dX3_tallyOne_9 : decode cX3_tallyOne 9 = .ok (.arraylength, 1) := by decide +kernel
theorem dX3_tallyOne_10 : decode cX3_tallyOne 10 = .ok (.if_icmp .ge 13, 3) := by decide +kernel
theorem dX3_tallyOne_13 : decode cX3_tallyOne 13 = .ok (.aload_n 0, 1) := by decide +kernel
theorem dX3_tallyOne_14 : decode cX3_tallyOne 14 = .ok (.getfield 11, 3) := by decide +kernel
theorem dX3_tallyOne_17 : decode cX3_tallyOne 17 = .ok (.iload_n 1, 1) := by decide +kernel
theorem dX3_tallyOne_18 : decode cX3_tallyOne 18 = .ok (.dup2, 1) := by decide +kernel
theorem dX3_tallyOne_19 : decode cX3_tallyOne 19 = .ok (.iaload, 1) := by decide +kernel
theorem dX3_tallyOne_20 : decode cX3_tallyOne 20 = .ok (.iconst 1, 1) := by decide +kernel
theorem dX3_tallyOne_21 : decode cX3_tallyOne 21 = .ok (.iadd, 1) := by decide +kernel
theorem dX3_tallyOne_22 : decode cX3_tallyOne 22 = .ok (.iastore, 1) := by decide +kernel
theorem dX3_tallyOne_23 : decode cX3_tallyOne 23 = .ok (.return_, 1) := by decide +kernel
theorem dX3_mostAlike_0 : decode cX3_mostAlike 0 = .ok (.iconst 0, 1) := by decide +kernel
theorem dX3_mostAlike_1 : decode cX3_mostAlike 1 = .ok (.istore_n 2, 1) := by decide +kernel
theorem dX3_mostAlike_2 : decode cX3_mostAlike 2 = .ok (.iconst 0, 1) := by decide +kernel
theorem dX3_mostAlike_3 : decode cX3_mostAlike 3 = .ok (.istore_n 3, 1) := by decide +kernel
theorem dX3_mostAlike_4 : decode cX3_mostAlike 4 = .ok (.iload_n 3, 1) := by decide +kernel
theorem dX3_mostAlike_5 : decode cX3_mostAlike 5 = .ok (.bipush 9, 2) := by decide +kernel
theorem dX3_mostAlike_7 : decode cX3_mostAlike 7 = .ok (.if_icmp .ge 28, 3) := by decide +kernel
theorem dX3_mostAlike_10 : decode cX3_mostAlike 10 = .ok (.iload_n 2, 1) := by decide +kernel
theorem dX3_mostAlike_11 : decode cX3_mostAlike 11 = .ok (.aload_n 0, 1) := by decide +kernel
theorem dX3_mostAlike_12 : decode cX3_mostAlike 12 = .ok (.getfield 11, 3) := by decide +kernel
theorem dX3_mostAlike_15 : decode cX3_mostAlike 15 = .ok (.iload_n 1, 1) := by decide +kernel
theorem dX3_mostAlike_16 : decode cX3_mostAlike 16 = .ok (.bipush 9, 2) := by decide +kernel
theorem dX3_mostAlike_18 : decode cX3_mostAlike 18 = .ok (.imul, 1) := by decide +kernel
theorem dX3_mostAlike_19 : decode cX3_mostAlike 19 = .ok (.iload_n 3, 1) := by decide +kernel
theorem dX3_mostAlike_20 : decode cX3_mostAlike 20 = .ok (.iadd, 1) := by decide +kernel
theorem dX3_mostAlike_21 : decode cX3_mostAlike 21 = .ok (.iconst 0, 1) := by decide +kernel
theorem dX3_mostAlike_22 : decode cX3_mostAlike 22 = .ok (.invokestatic 78, 3) := by decide +kernel
theorem dX3_mostAlike_25 : decode cX3_mostAlike 25 = .ok (.invokestatic 82, 3) := by decide +kernel
theorem dX3_mostAlike_28 : decode cX3_mostAlike 28 = .ok (.istore_n 2, 1) := by decide +kernel
theorem dX3_mostAlike_29 : decode cX3_mostAlike 29 = .ok (.iinc 3 1, 3) := by decide +kernel
theorem dX3_mostAlike_32 : decode cX3_mostAlike 32 = .ok (.goto (-28), 3) := by decide +kernel
theorem dX3_mostAlike_35 : decode cX3_mostAlike 35 = .ok (.iload_n 2, 1) := by decide +kernel
theorem dX3_mostAlike_36 : decode cX3_mostAlike 36 = .ok (.ireturn, 1) := by decide +kernel
theorem dX3_othersFit_0 : decode cX3_othersFit 0 = .ok (.iconst 0, 1) := by decide +kernel
theorem dX3_othersFit_1 : decode cX3_othersFit 1 = .ok (.istore_n 3, 1) := by decide +kernel
theorem dX3_othersFit_2 : decode cX3_othersFit 2 = .ok (.iload_n 3, 1) := by decide +kernel
theorem dX3_othersFit_3 : decode cX3_othersFit 3 = .ok (.bipush 8, 2) := by decide +kernel
theorem dX3_othersFit_5 : decode cX3_othersFit 5 = .ok (.if_icmp .ge 86, 3) := by decide +kernel
theorem dX3_othersFit_8 : decode cX3_othersFit 8 = .ok (.iload_n 3, 1) := by decide +kernel
theorem dX3_othersFit_9 : decode cX3_othersFit 9 = .ok (.iload_n 1, 1) := by decide +kernel
theorem dX3_othersFit_10 : decode cX3_othersFit 10 = .ok (.if_icmp .eq 75, 3) := by decide +kernel
theorem dX3_othersFit_13 : decode cX3_othersFit 13 = .ok (.aload_n 0, 1) := by decide +kernel
theorem dX3_othersFit_14 : decode cX3_othersFit 14 = .ok (.getfield 15, 3) := by decide +kernel
theorem dX3_othersFit_17 : decode cX3_othersFit 17 = .ok (.getfield 88, 3) := by decide +kernel
theorem dX3_othersFit_20 : decode cX3_othersFit 20 = .ok (.iload_n 3, 1) := by decide +kernel
theorem dX3_othersFit_21 : decode cX3_othersFit 21 = .ok (.iconst (-1), 1) := by decide +kernel
theorem dX3_othersFit_22 : decode cX3_othersFit 22 = .ok (.invokevirtual 91, 3) := by decide +kernel
theorem dX3_othersFit_25 : decode cX3_othersFit 25 = .ok (.ifCond .eq 60, 3) := by decide +kernel
theorem dX3_othersFit_28 : decode cX3_othersFit 28 = .ok (.aload_n 0, 1) := by decide +kernel
theorem dX3_othersFit_29 : decode cX3_othersFit 29 = .ok (.getfield 15, 3) := by decide +kernel
theorem dX3_othersFit_32 : decode cX3_othersFit 32 = .ok (.iload_n 3, 1) := by decide +kernel
theorem dX3_othersFit_33 : decode cX3_othersFit 33 = .ok (.invokevirtual 94, 3) := by decide +kernel
theorem dX3_othersFit_36 : decode cX3_othersFit 36 = .ok (.ifCond .ne 5, 3) := by decide +kernel
theorem dX3_othersFit_39 : decode cX3_othersFit 39 = .ok (.iconst 0, 1) := by decide +kernel
theorem dX3_othersFit_40 : decode cX3_othersFit 40 = .ok (.ireturn, 1) := by decide +kernel
theorem dX3_othersFit_41 : decode cX3_othersFit 41 = .ok (.aload_n 0, 1) := by decide +kernel
theorem dX3_othersFit_42 : decode cX3_othersFit 42 = .ok (.getfield 15, 3) := by decide +kernel
theorem dX3_othersFit_45 : decode cX3_othersFit 45 = .ok (.iload_n 3, 1) := by decide +kernel
theorem dX3_othersFit_46 : decode cX3_othersFit 46 = .ok (.invokevirtual 35, 3) := by decide +kernel
theorem dX3_othersFit_49 : decode cX3_othersFit 49 = .ok (.astore 4, 2) := by decide +kernel
theorem dX3_othersFit_51 : decode cX3_othersFit 51 = .ok (.aload 4, 2) := by decide +kernel
theorem dX3_othersFit_53 : decode cX3_othersFit 53 = .ok (.aload_n 0, 1) := by decide +kernel
theorem dX3_othersFit_54 : decode cX3_othersFit 54 = .ok (.getfield 15, 3) := by decide +kernel
theorem dX3_othersFit_57 : decode cX3_othersFit 57 = .ok (.getfield 19, 3) := by decide +kernel
theorem dX3_othersFit_60 : decode cX3_othersFit 60 = .ok (.iload_n 3, 1) := by decide +kernel
theorem dX3_othersFit_61 : decode cX3_othersFit 61 = .ok (.iload_n 2, 1) := by decide +kernel
theorem dX3_othersFit_62 : decode cX3_othersFit 62 = .ok (.invokevirtual 91, 3) := by decide +kernel
theorem dX3_othersFit_65 : decode cX3_othersFit 65 = .ok (.putfield 98, 3) := by decide +kernel
theorem dX3_othersFit_68 : decode cX3_othersFit 68 = .ok (.aload 4, 2) := by decide +kernel
theorem dX3_othersFit_70 : decode cX3_othersFit 70 = .ok (.invokevirtual 44, 3) := by decide +kernel
theorem dX3_othersFit_73 : decode cX3_othersFit 73 = .ok (.aload_n 0, 1) := by decide +kernel
theorem dX3_othersFit_74 : decode cX3_othersFit 74 = .ok (.aload 4, 2) := by decide +kernel
theorem dX3_othersFit_76 : decode cX3_othersFit 76 = .ok (.iload_n 3, 1) := by decide +kernel
theorem dX3_othersFit_77 : decode cX3_othersFit 77 = .ok (.invokevirtual 47, 3) := by decide +kernel
theorem dX3_othersFit_80 : decode cX3_othersFit 80 = .ok (.ifCond .ne 5, 3) := by decide +kernel
theorem dX3_othersFit_83 : decode cX3_othersFit 83 = .ok (.iconst 0, 1) := by decide +kernel
theorem dX3_othersFit_84 : decode cX3_othersFit 84 = .ok (.ireturn, 1) := by decide +kernel
theorem dX3_othersFit_85 : decode cX3_othersFit 85 = .ok (.iinc 3 1, 3) := by decide +kernel
theorem dX3_othersFit_88 : decode cX3_othersFit 88 = .ok (.goto (-86), 3) := by decide +kernel
theorem dX3_othersFit_91 : decode cX3_othersFit 91 = .ok (.iconst 1, 1) := by decide +kernel
theorem dX3_othersFit_92 : decode cX3_othersFit 92 = .ok (.ireturn, 1) := by decide +kernel
theorem dX3_fits_0 : decode cX3_fits 0 = .ok (.aload_n 0, 1) := by decide +kernel
theorem dX3_fits_1 : decode cX3_fits 1 = .ok (.getfield 15, 3) := by decide +kernel
theorem dX3_fits_4 : decode cX3_fits 4 = .ok (.getfield 88, 3) := by decide +kernel
theorem dX3_fits_7 : decode cX3_fits 7 = .ok (.astore_n 3, 1) := by decide +kernel
theorem dX3_fits_8 : decode cX3_fits 8 = .ok (.iconst 0, 1) := by decide +kernel
theorem dX3_fits_9 : decode cX3_fits 9 = .ok (.istore 4, 2) := by decide +kernel
theorem dX3_fits_11 : decode cX3_fits 11 = .ok (.iload 4, 2) := by decide +kernel
theorem dX3_fits_13 : decode cX3_fits 13 = .ok (.aload_n 3, 1) := by decide +kernel
theorem dX3_fits_14 : decode cX3_fits 14 = .ok (.getfield 25, 3) := by decide +kernel
theorem dX3_fits_17 : decode cX3_fits 17 = .ok (.if_icmp .ge 68, 3) := by decide +kernel
theorem dX3_fits_20 : decode cX3_fits 20 = .ok (.aload_n 3, 1) := by decide +kernel
theorem dX3_fits_21 : decode cX3_fits 21 = .ok (.getfield 101, 3) := by decide +kernel
theorem dX3_fits_24 : decode cX3_fits 24 = .ok (.iload 4, 2) := by decide +kernel
theorem dX3_fits_26 : decode cX3_fits 26 = .ok (.iconst (-1), 1) := by decide +kernel
theorem dX3_fits_27 : decode cX3_fits 27 = .ok (.invokestatic 78, 3) := by decide +kernel
theorem dX3_fits_30 : decode cX3_fits 30 = .ok (.iload_n 2, 1) := by decide +kernel
theorem dX3_fits_31 : decode cX3_fits 31 = .ok (.if_icmp .ne 48, 3) := by decide +kernel
theorem dX3_fits_34 : decode cX3_fits 34 = .ok (.aload_n 1, 1) := by decide +kernel
theorem dX3_fits_35 : decode cX3_fits 35 = .ok (.aload_n 3, 1) := by decide +kernel
theorem dX3_fits_36 : decode cX3_fits 36 = .ok (.getfield 104, 3) := by decide +kernel
theorem dX3_fits_39 : decode cX3_fits 39 = .ok (.iload 4, 2) := by decide +kernel
theorem dX3_fits_41 : decode cX3_fits 41 = .ok (.iconst (-1), 1) := by decide +kernel
theorem dX3_fits_42 : decode cX3_fits 42 = .ok (.invokestatic 78, 3) := by decide +kernel
theorem dX3_fits_45 : decode cX3_fits 45 = .ok (.invokevirtual 71, 3) := by decide +kernel
theorem dX3_fits_48 : decode cX3_fits 48 = .ok (.istore 5, 2) := by decide +kernel
theorem dX3_fits_50 : decode cX3_fits 50 = .ok (.aload_n 3, 1) := by decide +kernel
theorem dX3_fits_51 : decode cX3_fits 51 = .ok (.getfield 107, 3) := by decide +kernel
theorem dX3_fits_54 : decode cX3_fits 54 = .ok (.iload 4, 2) := by decide +kernel
theorem dX3_fits_56 : decode cX3_fits 56 = .ok (.bipush 8, 2) := by decide +kernel
theorem dX3_fits_58 : decode cX3_fits 58 = .ok (.invokestatic 78, 3) := by decide +kernel
theorem dX3_fits_61 : decode cX3_fits 61 = .ok (.iload 5, 2) := by decide +kernel
theorem dX3_fits_63 : decode cX3_fits 63 = .ok (.iconst (-1), 1) := by decide +kernel
theorem dX3_fits_64 : decode cX3_fits 64 = .ok (.if_icmp .ne 8, 3) := by decide +kernel
theorem dX3_fits_67 : decode cX3_fits 67 = .ok (.bipush 8, 2) := by decide +kernel
theorem dX3_fits_69 : decode cX3_fits 69 = .ok (.goto 5, 3) := by decide +kernel
theorem dX3_fits_72 : decode cX3_fits 72 = .ok (.iload 5, 2) := by decide +kernel
theorem dX3_fits_74 : decode cX3_fits 74 = .ok (.if_icmp .eq 5, 3) := by decide +kernel
theorem dX3_fits_77 : decode cX3_fits 77 = .ok (.iconst 0, 1) := by decide +kernel
theorem dX3_fits_78 : decode cX3_fits 78 = .ok (.ireturn, 1) := by decide +kernel
theorem dX3_fits_79 : decode cX3_fits 79 = .ok (.iinc 4 1, 3) := by decide +kernel
theorem dX3_fits_82 : decode cX3_fits 82 = .ok (.goto (-71), 3) := by decide +kernel
theorem dX3_fits_85 : decode cX3_fits 85 = .ok (.iconst 1, 1) := by decide +kernel
theorem dX3_fits_86 : decode cX3_fits 86 = .ok (.ireturn, 1) := by decide +kernel
theorem dX4_init_0 : decode cX4_init 0 = .ok (.aload_n 0, 1) := by decide +kernel
theorem dX4_init_1 : decode cX4_init 1 = .ok (.invokespecial 3, 3) := by decide +kernel
theorem dX4_init_4 : decode cX4_init 4 = .ok (.iload_n 1, 1) := by decide +kernel
theorem dX4_init_5 : decode cX4_init 5 = .ok (.iconst 0, 1) := by decide +kernel
theorem dX4_init_6 : decode cX4_init 6 = .ok (.invokestatic 9, 3) := by decide +kernel
theorem dX4_init_9 : decode cX4_init 9 = .ok (.istore_n 2, 1) := by decide +kernel
theorem dX4_init_10 : decode cX4_init 10 = .ok (.aload_n 0, 1) := by decide +kernel
theorem dX4_init_11 : decode cX4_init 11 = .ok (.iload_n 2, 1) := by decide +kernel
theorem dX4_init_12 : decode cX4_init 12 = .ok (.newarray .int, 2) := by decide +kernel
theorem dX4_init_14 : decode cX4_init 14 = .ok (.putfield 15, 3) := by decide +kernel
theorem dX4_init_17 : decode cX4_init 17 = .ok (.aload_n 0, 1) := by decide +kernel
theorem dX4_init_18 : decode cX4_init 18 = .ok (.iload_n 2, 1) := by decide +kernel
theorem dX4_init_19 : decode cX4_init 19 = .ok (.newarray .int, 2) := by decide +kernel
theorem dX4_init_21 : decode cX4_init 21 = .ok (.putfield 21, 3) := by decide +kernel
theorem dX4_init_24 : decode cX4_init 24 = .ok (.aload_n 0, 1) := by decide +kernel
theorem dX4_init_25 : decode cX4_init 25 = .ok (.iload_n 2, 1) := by decide +kernel
theorem dX4_init_26 : decode cX4_init 26 = .ok (.newarray .int, 2) := by decide +kernel
theorem dX4_init_28 : decode cX4_init 28 = .ok (.putfield 24, 3) := by decide +kernel
theorem dX4_init_31 : decode cX4_init 31 = .ok (.return_, 1) := by decide +kernel
theorem dX4_isFull_0 : decode cX4_isFull 0 = .ok (.aload_n 0, 1) := by decide +kernel
theorem dX4_isFull_1 : decode cX4_isFull 1 = .ok (.getfield 27, 3) := by decide +kernel
theorem dX4_isFull_4 : decode cX4_isFull 4 = .ok (.aload_n 0, 1) := by decide +kernel
theorem dX4_isFull_5 : decode cX4_isFull 5 = .ok (.getfield 15, 3) := by decide +kernel
theorem dX4_isFull_8 : decode cX4_isFull 8 = .ok (.arraylength, 1) := by decide +kernel
theorem dX4_isFull_9 : decode cX4_isFull 9 = .ok (.if_icmp .lt 7, 3) := by decide +kernel
theorem dX4_isFull_12 : decode cX4_isFull 12 = .ok (.iconst 1, 1) := by decide +kernel
theorem dX4_isFull_13 : decode cX4_isFull 13 = .ok (.goto 4, 3) := by decide +kernel
theorem dX4_isFull_16 : decode cX4_isFull 16 = .ok (.iconst 0, 1) := by decide +kernel
theorem dX4_isFull_17 : decode cX4_isFull 17 = .ok (.ireturn, 1) := by decide +kernel
theorem dX4_append_0 : decode cX4_append 0 = .ok (.aload_n 0, 1) := by decide +kernel
theorem dX4_append_1 : decode cX4_append 1 = .ok (.getfield 27, 3) := by decide +kernel
theorem dX4_append_4 : decode cX4_append 4 = .ok (.istore 4, 2) := by decide +kernel
theorem dX4_append_6 : decode cX4_append 6 = .ok (.iload 4, 2) := by decide +kernel
theorem dX4_append_8 : decode cX4_append 8 = .ok (.ifCond .lt 67, 3) := by decide +kernel
theorem dX4_append_11 : decode cX4_append 11 = .ok (.iload 4, 2) := by decide +kernel
theorem dX4_append_13 : decode cX4_append 13 = .ok (.aload_n 0, 1) := by decide +kernel
theorem dX4_append_14 : decode cX4_append 14 = .ok (.getfield 15, 3) := by decide +kernel
theorem dX4_append_17 : decode cX4_append 17 = .ok (.arraylength, 1) := by decide +kernel
theorem dX4_append_18 : decode cX4_append 18 = .ok (.if_icmp .ge 57, 3) := by decide +kernel
theorem dX4_append_21 : decode cX4_append 21 = .ok (.iload 4, 2) := by decide +kernel
theorem dX4_append_23 : decode cX4_append 23 = .ok (.aload_n 0, 1) := by decide +kernel
theorem dX4_append_24 : decode cX4_append 24 = .ok (.getfield 21, 3) := by decide +kernel
theorem dX4_append_27 : decode cX4_append 27 = .ok (.arraylength, 1) := by decide +kernel
theorem dX4_append_28 : decode cX4_append 28 = .ok (.if_icmp .ge 47, 3) := by decide +kernel
theorem dX4_append_31 : decode cX4_append 31 = .ok (.iload 4, 2) := by decide +kernel
theorem dX4_append_33 : decode cX4_append 33 = .ok (.aload_n 0, 1) := by decide +kernel
theorem dX4_append_34 : decode cX4_append 34 = .ok (.getfield 24, 3) := by decide +kernel
theorem dX4_append_37 : decode cX4_append 37 = .ok (.arraylength, 1) := by decide +kernel
theorem dX4_append_38 : decode cX4_append 38 = .ok (.if_icmp .ge 37, 3) := by decide +kernel
theorem dX4_append_41 : decode cX4_append 41 = .ok (.aload_n 0, 1) := by decide +kernel
theorem dX4_append_42 : decode cX4_append 42 = .ok (.getfield 15, 3) := by decide +kernel
theorem dX4_append_45 : decode cX4_append 45 = .ok (.iload 4, 2) := by decide +kernel
theorem dX4_append_47 : decode cX4_append 47 = .ok (.iload_n 1, 1) := by decide +kernel
theorem dX4_append_48 : decode cX4_append 48 = .ok (.iastore, 1) := by decide +kernel
theorem dX4_append_49 : decode cX4_append 49 = .ok (.aload_n 0, 1) := by decide +kernel
theorem dX4_append_50 : decode cX4_append 50 = .ok (.getfield 21, 3) := by decide +kernel
theorem dX4_append_53 : decode cX4_append 53 = .ok (.iload 4, 2) := by decide +kernel
theorem dX4_append_55 : decode cX4_append 55 = .ok (.iload_n 2, 1) := by decide +kernel
theorem dX4_append_56 : decode cX4_append 56 = .ok (.iastore, 1) := by decide +kernel
theorem dX4_append_57 : decode cX4_append 57 = .ok (.aload_n 0, 1) := by decide +kernel
theorem dX4_append_58 : decode cX4_append 58 = .ok (.getfield 24, 3) := by decide +kernel
theorem dX4_append_61 : decode cX4_append 61 = .ok (.iload 4, 2) := by decide +kernel
theorem dX4_append_63 : decode cX4_append 63 = .ok (.iload_n 3, 1) := by decide +kernel
theorem dX4_append_64 : decode cX4_append 64 = .ok (.iastore, 1) := by decide +kernel
theorem dX4_append_65 : decode cX4_append 65 = .ok (.aload_n 0, 1) := by decide +kernel
theorem dX4_append_66 : decode cX4_append 66 = .ok (.dup, 1) := by decide +kernel
theorem dX4_append_67 : decode cX4_append 67 = .ok (.getfield 27, 3) := by decide +kernel
theorem dX4_append_70 : decode cX4_append 70 = .ok (.iconst 1, 1) := by decide +kernel
theorem dX4_append_71 : decode cX4_append 71 = .ok (.iadd, 1) := by decide +kernel
theorem dX4_append_72 : decode cX4_append 72 = .ok (.putfield 27, 3) := by decide +kernel
theorem dX4_append_75 : decode cX4_append 75 = .ok (.return_, 1) := by decide +kernel
theorem dX4_nightsOf_0 : decode cX4_nightsOf 0 = .ok (.iconst 0, 1) := by decide +kernel
theorem dX4_nightsOf_1 : decode cX4_nightsOf 1 = .ok (.istore_n 3, 1) := by decide +kernel
theorem dX4_nightsOf_2 : decode cX4_nightsOf 2 = .ok (.iconst 0, 1) := by decide +kernel
theorem dX4_nightsOf_3 : decode cX4_nightsOf 3 = .ok (.istore 4, 2) := by decide +kernel
theorem dX4_nightsOf_5 : decode cX4_nightsOf 5 = .ok (.iload 4, 2) := by decide +kernel
theorem dX4_nightsOf_7 : decode cX4_nightsOf 7 = .ok (.aload_n 0, 1) := by decide +kernel
theorem dX4_nightsOf_8 : decode cX4_nightsOf 8 = .ok (.getfield 27, 3) := by decide +kernel
theorem dX4_nightsOf_11 : decode cX4_nightsOf 11 = .ok (.if_icmp .ge 56, 3) := by decide +kernel
theorem dX4_nightsOf_14 : decode cX4_nightsOf 14 = .ok (.aload_n 0, 1) := by decide +kernel
theorem dX4_nightsOf_15 : decode cX4_nightsOf 15 = .ok (.getfield 15, 3) := by decide +kernel
theorem dX4_nightsOf_18 : decode cX4_nightsOf 18 = .ok (.iload 4, 2) := by decide +kernel
theorem dX4_nightsOf_20 : decode cX4_nightsOf 20 = .ok (.iconst (-1), 1) := by decide +kernel
theorem dX4_nightsOf_21 : decode cX4_nightsOf 21 = .ok (.invokestatic 31, 3) := by decide +kernel
theorem dX4_nightsOf_24 : decode cX4_nightsOf 24 = .ok (.istore 5, 2) := by decide +kernel
theorem dX4_nightsOf_26 : decode cX4_nightsOf 26 = .ok (.iload 4, 2) := by decide +kernel
theorem dX4_nightsOf_28 : decode cX4_nightsOf 28 = .ok (.iload_n 2, 1) := by decide +kernel
theorem dX4_nightsOf_29 : decode cX4_nightsOf 29 = .ok (.if_icmp .eq 32, 3) := by decide +kernel
theorem dX4_nightsOf_32 : decode cX4_nightsOf 32 = .ok (.aload_n 0, 1) := by decide +kernel
theorem dX4_nightsOf_33 : decode cX4_nightsOf 33 = .ok (.getfield 21, 3) := by decide +kernel
theorem dX4_nightsOf_36 : decode cX4_nightsOf 36 = .ok (.iload 4, 2) := by decide +kernel
theorem dX4_nightsOf_38 : decode cX4_nightsOf 38 = .ok (.iconst (-1), 1) := by decide +kernel
theorem dX4_nightsOf_39 : decode cX4_nightsOf 39 = .ok (.invokestatic 31, 3) := by decide +kernel
theorem dX4_nightsOf_42 : decode cX4_nightsOf 42 = .ok (.iload_n 1, 1) := by decide +kernel
theorem dX4_nightsOf_43 : decode cX4_nightsOf 43 = .ok (.if_icmp .ne 18, 3) := by decide +kernel
theorem dX4_nightsOf_46 : decode cX4_nightsOf 46 = .ok (.iload 5, 2) := by decide +kernel
theorem dX4_nightsOf_48 : decode cX4_nightsOf 48 = .ok (.invokestatic 35, 3) := by decide +kernel
theorem dX4_nightsOf_51 : decode cX4_nightsOf 51 = .ok (.ifCond .eq 10, 3) := by decide +kernel
theorem dX4_nightsOf_54 : decode cX4_nightsOf 54 = .ok (.iload_n 3, 1) := by decide +kernel
theorem dX4_nightsOf_55 : decode cX4_nightsOf 55 = .ok (.iconst 1, 1) := by decide +kernel
theorem dX4_nightsOf_56 : decode cX4_nightsOf 56 = .ok (.iload 5, 2) := by decide +kernel
theorem dX4_nightsOf_58 : decode cX4_nightsOf 58 = .ok (.ishl, 1) := by decide +kernel
theorem dX4_nightsOf_59 : decode cX4_nightsOf 59 = .ok (.ior, 1) := by decide +kernel
theorem dX4_nightsOf_60 : decode cX4_nightsOf 60 = .ok (.istore_n 3, 1) := by decide +kernel
theorem dX4_nightsOf_61 : decode cX4_nightsOf 61 = .ok (.iinc 4 1, 3) := by decide +kernel
theorem dX4_nightsOf_64 : decode cX4_nightsOf 64 = .ok (.goto (-59), 3) := by decide +kernel
theorem dX4_nightsOf_67 : decode cX4_nightsOf 67 = .ok (.iload_n 3, 1) := by decide +kernel
theorem dX4_nightsOf_68 : decode cX4_nightsOf 68 = .ok (.ireturn, 1) := by decide +kernel
theorem dX5_init_0 : decode cX5_init 0 = .ok (.aload_n 0, 1) := by decide +kernel
theorem dX5_init_1 : decode cX5_init 1 = .ok (.invokespecial 3, 3) := by decide +kernel
theorem dX5_init_4 : decode cX5_init 4 = .ok (.aload_n 0, 1) := by decide +kernel
theorem dX5_init_5 : decode cX5_init 5 = .ok (.sipush 240, 3) := by decide +kernel
theorem dX5_init_8 : decode cX5_init 8 = .ok (.newarray .int, 2) := by decide +kernel
theorem dX5_init_10 : decode cX5_init 10 = .ok (.putfield 9, 3) := by decide +kernel
theorem dX5_init_13 : decode cX5_init 13 = .ok (.aload_n 0, 1) := by decide +kernel
theorem dX5_init_14 : decode cX5_init 14 = .ok (.sipush 256, 3) := by decide +kernel
theorem dX5_init_17 : decode cX5_init 17 = .ok (.newarray .int, 2) := by decide +kernel
theorem dX5_init_19 : decode cX5_init 19 = .ok (.putfield 15, 3) := by decide +kernel
theorem dX5_init_22 : decode cX5_init 22 = .ok (.aload_n 0, 1) := by decide +kernel
theorem dX5_init_23 : decode cX5_init 23 = .ok (.sipush 256, 3) := by decide +kernel
theorem dX5_init_26 : decode cX5_init 26 = .ok (.newarray .int, 2) := by decide +kernel
theorem dX5_init_28 : decode cX5_init 28 = .ok (.putfield 18, 3) := by decide +kernel
theorem dX5_init_31 : decode cX5_init 31 = .ok (.aload_n 0, 1) := by decide +kernel
theorem dX5_init_32 : decode cX5_init 32 = .ok (.aload_n 1, 1) := by decide +kernel
theorem dX5_init_33 : decode cX5_init 33 = .ok (.putfield 21, 3) := by decide +kernel
theorem dX5_init_36 : decode cX5_init 36 = .ok (.return_, 1) := by decide +kernel
theorem dX5_findRipe_0 : decode cX5_findRipe 0 = .ok (.aload_n 0, 1) := by decide +kernel
theorem dX5_findRipe_1 : decode cX5_findRipe 1 = .ok (.getfield 21, 3) := by decide +kernel
theorem dX5_findRipe_4 : decode cX5_findRipe 4 = .ok (.iload_n 1, 1) := by decide +kernel
theorem dX5_findRipe_5 : decode cX5_findRipe 5 = .ok (.invokevirtual 25, 3) := by decide +kernel
theorem dX5_findRipe_8 : decode cX5_findRipe 8 = .ok (.astore_n 3, 1) := by decide +kernel
theorem dX5_findRipe_9 : decode cX5_findRipe 9 = .ok (.aload_n 0, 1) := by decide +kernel
theorem dX5_findRipe_10 : decode cX5_findRipe 10 = .ok (.iconst (-1), 1) := by decide +kernel
theorem dX5_findRipe_11 : decode cX5_findRipe 11 = .ok (.putfield 31, 3) := by decide +kernel
theorem dX5_findRipe_14 : decode cX5_findRipe 14 = .ok (.aload_n 0, 1) := by decide +kernel
theorem dX5_findRipe_15 : decode cX5_findRipe 15 = .ok (.iconst (-1), 1) := by decide +kernel
theorem dX5_findRipe_16 : decode cX5_findRipe 16 = .ok (.putfield 35, 3) := by decide +kernel
theorem dX5_findRipe_19 : decode cX5_findRipe 19 = .ok (.aload_n 0, 1) := by decide +kernel
theorem dX5_findRipe_20 : decode cX5_findRipe 20 = .ok (.iconst (-1), 1) := by decide +kernel
theorem dX5_findRipe_21 : decode cX5_findRipe 21 = .ok (.putfield 38, 3) := by decide +kernel
theorem dX5_findRipe_24 : decode cX5_findRipe 24 = .ok (.aload_n 3, 1) := by decide +kernel
theorem dX5_findRipe_25 : decode cX5_findRipe 25 = .ok (.iload_n 2, 1) := by decide +kernel
theorem dX5_findRipe_26 : decode cX5_findRipe 26 = .ok (.invokevirtual 41, 3) := by decide +kernel
theorem dX5_findRipe_29 : decode cX5_findRipe 29 = .ok (.aload_n 3, 1) := by decide +kernel
theorem dX5_findRipe_30 : decode cX5_findRipe 30 = .ok (.getfield 47, 3) := by decide +kernel
theorem dX5_findRipe_33 : decode cX5_findRipe 33 = .ok (.iconst 1, 1) := by decide +kernel
theorem dX5_findRipe_34 : decode cX5_findRipe 34 = .ok (.isub, 1) := by decide +kernel
theorem dX5_findRipe_35 : decode cX5_findRipe 35 = .ok (.if_icmp .ne 11, 3) := by decide +kernel
theorem dX5_findRipe_38 : decode cX5_findRipe 38 = .ok (.aload_n 0, 1) := by decide +kernel
theorem dX5_findRipe_39 : decode cX5_findRipe 39 = .ok (.iconst 0, 1) := by decide +kernel
theorem dX5_findRipe_40 : decode cX5_findRipe 40 = .ok (.putfield 31, 3) := by decide +kernel
theorem dX5_findRipe_43 : decode cX5_findRipe 43 = .ok (.goto 26, 3) := by decide +kernel
theorem dX5_findRipe_46 : decode cX5_findRipe 46 = .ok (.aload_n 3, 1) := by decide +kernel
theorem dX5_findRipe_47 : decode cX5_findRipe 47 = .ok (.getfield 50, 3) := by decide +kernel
theorem dX5_findRipe_50 : decode cX5_findRipe 50 = .ok (.iconst 2, 1) := by decide +kernel
theorem dX5_findRipe_51 : decode cX5_findRipe 51 = .ok (.if_icmp .eq 18, 3) := by decide +kernel
theorem dX5_findRipe_54 : decode cX5_findRipe 54 = .ok (.aload_n 0, 1) := by decide +kernel
theorem dX5_findRipe_55 : decode cX5_findRipe 55 = .ok (.aload_n 3, 1) := by decide +kernel
theorem dX5_findRipe_56 : decode cX5_findRipe 56 = .ok (.iload_n 2, 1) := by decide +kernel
theorem dX5_findRipe_57 : decode cX5_findRipe 57 = .ok (.invokevirtual 53, 3) := by decide +kernel
theorem dX5_findRipe_60 : decode cX5_findRipe 60 = .ok (.ifCond .ne 9, 3) := by decide +kernel
theorem dX5_findRipe_63 : decode cX5_findRipe 63 = .ok (.aload_n 0, 1) := by decide +kernel
theorem dX5_findRipe_64 : decode cX5_findRipe 64 = .ok (.aload_n 3, 1) := by decide +kernel
theorem dX5_findRipe_65 : decode cX5_findRipe 65 = .ok (.iload_n 2, 1) := by decide +kernel
theorem dX5_findRipe_66 : decode cX5_findRipe 66 = .ok (.invokevirtual 57, 3) := by decide +kernel
theorem dX5_findRipe_69 : decode cX5_findRipe 69 = .ok (.return_, 1) := by decide +kernel
theorem dX5_firstOfUse_0 : decode cX5_firstOfUse 0 = .ok (.aload_n 0, 1) := by decide +kernel
theorem dX5_firstOfUse_1 : decode cX5_firstOfUse 1 = .ok (.getfield 61, 3) := by decide +kernel
theorem dX5_firstOfUse_4 : decode cX5_firstOfUse 4 = .ok (.iconst 1, 1) := by decide +kernel
theorem dX5_firstOfUse_5 : decode cX5_firstOfUse 5 = .ok (.isub, 1) := by decide +kernel
theorem dX5_firstOfUse_6 : decode cX5_firstOfUse 6 = .ok (.iconst 0, 1) := by decide +kernel
theorem dX5_firstOfUse_7 : decode cX5_firstOfUse 7 = .ok (.invokestatic 64, 3) := by decide +kernel
theorem dX5_firstOfUse_10 : decode cX5_firstOfUse 10 = .ok (.ireturn, 1) := by decide +kernel
theorem dX5_findRipeByOne_0 : decode cX5_findRipeByOne 0 = .ok (.aload_n 1, 1) := by decide +kernel
theorem dX5_findRipeByOne_1 : decode cX5_findRipeByOne 1 = .ok (.getfield 70, 3) := by decide +kernel
theorem dX5_findRipeByOne_4 : decode cX5_findRipeByOne 4 = .ok (.istore_n 3, 1) := by decide +kernel
theorem dX5_findRipeByOne_5 : decode cX5_findRipeByOne 5 = .ok (.aload_n 1, 1) := by decide +kernel
theorem dX5_findRipeByOne_6 : decode cX5_findRipeByOne 6 = .ok (.invokestatic 73, 3) := by decide +kernel
theorem dX5_findRipeByOne_9 : decode cX5_findRipeByOne 9 = .ok (.istore 4, 2) := by decide +kernel
theorem dX5_findRipeByOne_11 : decode cX5_findRipeByOne 11 = .ok (.iload 4, 2) := by decide +kernel
theorem dX5_findRipeByOne_13 : decode cX5_findRipeByOne 13 = .ok (.iload_n 2, 1) := by decide +kernel
theorem dX5_findRipeByOne_14 : decode cX5_findRipeByOne 14 = .ok (.if_icmp .gt 46, 3) := by decide +kernel
theorem dX5_findRipeByOne_17 : decode cX5_findRipeByOne 17 = .ok (.aload_n 1, 1) := by decide +kernel
theorem dX5_findRipeByOne_18 : decode cX5_findRipeByOne 18 = .ok (.iload_n 3, 1) := by decide +kernel
theorem dX5_findRipeByOne_19 : decode cX5_findRipeByOne 19 = .ok (.iconst 1, 1) := by decide +kernel
theorem dX5_findRipeByOne_20 : decode cX5_findRipeByOne 20 = .ok (.iload 4, 2) := by decide +kernel
theorem dX5_findRipeByOne_22 : decode cX5_findRipeByOne 22 = .ok (.ishl, 1) := by decide +kernel
theorem dX5_findRipeByOne_23 : decode cX5_findRipeByOne 23 = .ok (.ior, 1) := by decide +kernel
theorem dX5_findRipeByOne_24 : decode cX5_findRipeByOne 24 = .ok (.putfield 70, 3) := by decide +kernel
theorem dX5_findRipeByOne_27 : decode cX5_findRipeByOne 27 = .ok (.aload_n 1, 1) := by decide +kernel
theorem dX5_findRipeByOne_28 : decode cX5_findRipeByOne 28 = .ok (.iload_n 2, 1) := by decide +kernel
theorem dX5_findRipeByOne_29 : decode cX5_findRipeByOne 29 = .ok (.invokevirtual 41, 3) := by decide +kernel
theorem dX5_findRipeByOne_32 : decode cX5_findRipeByOne 32 = .ok (.aload_n 1, 1) := by decide +kernel
theorem dX5_findRipeByOne_33 : decode cX5_findRipeByOne 33 = .ok (.getfield 47, 3) := by decide +kernel
theorem dX5_findRipeByOne_36 : decode cX5_findRipeByOne 36 = .ok (.iconst 1, 1) := by decide +kernel
theorem dX5_findRipeByOne_37 : decode cX5_findRipeByOne 37 = .ok (.isub, 1) := by decide +kernel
theorem dX5_findRipeByOne_38 : decode cX5_findRipeByOne 38 = .ok (.if_icmp .ne 16, 3) := by decide +kernel
theorem dX5_findRipeByOne_41 : decode cX5_findRipeByOne 41 = .ok (.aload_n 0, 1) := by decide +kernel
theorem dX5_findRipeByOne_42 : decode cX5_findRipeByOne 42 = .ok (.iconst 1, 1) := by decide +kernel
theorem dX5_findRipeByOne_43 : decode cX5_findRipeByOne 43 = .ok (.putfield 31, 3) := by decide +kernel
theorem dX5_findRipeByOne_46 : decode cX5_findRipeByOne 46 = .ok (.aload_n 0, 1) := by decide +kernel
theorem dX5_findRipeByOne_47 : decode cX5_findRipeByOne 47 = .ok (.iload 4, 2) := by decide +kernel
theorem dX5_findRipeByOne_49 : decode cX5_findRipeByOne 49 = .ok (.putfield 35, 3) := by decide +kernel
theorem dX5_findRipeByOne_52 : decode cX5_findRipeByOne 52 = .ok (.iconst 1, 1) := by decide +kernel
theorem dX5_findRipeByOne_53 : decode cX5_findRipeByOne 53 = .ok (.ireturn, 1) := by decide +kernel
theorem dX5_findRipeByOne_54 : decode cX5_findRipeByOne 54 = .ok (.iinc 4 1, 3) := by decide +kernel
theorem dX5_findRipeByOne_57 : decode cX5_findRipeByOne 57 = .ok (.goto (-46), 3) := by decide +kernel
theorem dX5_findRipeByOne_60 : decode cX5_findRipeByOne 60 = .ok (.aload_n 1, 1) := by decide +kernel
theorem dX5_findRipeByOne_61 : decode cX5_findRipeByOne 61 = .ok (.iload_n 3, 1) := by decide +kernel
theorem dX5_findRipeByOne_62 : decode cX5_findRipeByOne 62 = .ok (.putfield 70, 3) := by decide +kernel
theorem dX5_findRipeByOne_65 : decode cX5_findRipeByOne 65 = .ok (.iconst 0, 1) := by decide +kernel
theorem dX5_findRipeByOne_66 : decode cX5_findRipeByOne 66 = .ok (.ireturn, 1) := by decide +kernel
theorem dX5_findRipeByTwo_0 : decode cX5_findRipeByTwo 0 = .ok (.aload_n 1, 1) := by decide +kernel
theorem dX5_findRipeByTwo_1 : decode cX5_findRipeByTwo 1 = .ok (.getfield 70, 3) := by decide +kernel
theorem dX5_findRipeByTwo_4 : decode cX5_findRipeByTwo 4 = .ok (.istore_n 3, 1) := by decide +kernel
theorem dX5_findRipeByTwo_5 : decode cX5_findRipeByTwo 5 = .ok (.aload_n 1, 1) := by decide +kernel
theorem dX5_findRipeByTwo_6 : decode cX5_findRipeByTwo 6 = .ok (.invokestatic 73, 3) := by decide +kernel
theorem dX5_findRipeByTwo_9 : decode cX5_findRipeByTwo 9 = .ok (.istore 4, 2) := by decide +kernel
theorem dX5_findRipeByTwo_11 : decode cX5_findRipeByTwo 11 = .ok (.iload 4, 2) := by decide +kernel
theorem dX5_findRipeByTwo_13 : decode cX5_findRipeByTwo 13 = .ok (.iload_n 2, 1) := by decide +kernel
theorem dX5_findRipeByTwo_14 : decode cX5_findRipeByTwo 14 = .ok (.if_icmp .gt 74, 3) := by decide +kernel
theorem dX5_findRipeByTwo_17 : decode cX5_findRipeByTwo 17 = .ok (.iload 4, 2) := by decide +kernel
theorem dX5_findRipeByTwo_19 : decode cX5_findRipeByTwo 19 = .ok (.iconst 1, 1) := by decide +kernel
theorem dX5_findRipeByTwo_20 : decode cX5_findRipeByTwo 20 = .ok (.iadd, 1) := by decide +kernel
theorem dX5_findRipeByTwo_21 : decode cX5_findRipeByTwo 21 = .ok (.istore 5, 2) := by decide +kernel
theorem dX5_findRipeByTwo_23 : decode cX5_findRipeByTwo 23 = .ok (.iload 5, 2) := by decide +kernel
theorem dX5_findRipeByTwo_25 : decode cX5_findRipeByTwo 25 = .ok (.iload_n 2, 1) := by decide +kernel
theorem dX5_findRipeByTwo_26 : decode cX5_findRipeByTwo 26 = .ok (.if_icmp .gt 56, 3) := by decide +kernel
theorem dX5_findRipeByTwo_29 : decode cX5_findRipeByTwo 29 = .ok (.aload_n 1, 1) := by decide +kernel
theorem dX5_findRipeByTwo_30 : decode cX5_findRipeByTwo 30 = .ok (.iload_n 3, 1) := by decide +kernel
theorem dX5_findRipeByTwo_31 : decode cX5_findRipeByTwo 31 = .ok (.iconst 1, 1) := by decide +kernel
theorem dX5_findRipeByTwo_32 : decode cX5_findRipeByTwo 32 = .ok (.iload 4, 2) := by decide +kernel
theorem dX5_findRipeByTwo_34 : decode cX5_findRipeByTwo 34 = .ok (.ishl, 1) := by decide +kernel
theorem dX5_findRipeByTwo_35 : decode cX5_findRipeByTwo 35 = .ok (.ior, 1) := by decide +kernel
theorem dX5_findRipeByTwo_36 : decode cX5_findRipeByTwo 36 = .ok (.iconst 1, 1) := by decide +kernel
theorem dX5_findRipeByTwo_37 : decode cX5_findRipeByTwo 37 = .ok (.iload 5, 2) := by decide +kernel
theorem dX5_findRipeByTwo_39 : decode cX5_findRipeByTwo 39 = .ok (.ishl, 1) := by decide +kernel
theorem dX5_findRipeByTwo_40 : decode cX5_findRipeByTwo 40 = .ok (.ior, 1) := by decide +kernel
theorem dX5_findRipeByTwo_41 : decode cX5_findRipeByTwo 41 = .ok (.putfield 70, 3) := by decide +kernel
theorem dX5_findRipeByTwo_44 : decode cX5_findRipeByTwo 44 = .ok (.aload_n 1, 1) := by decide +kernel
theorem dX5_findRipeByTwo_45 : decode cX5_findRipeByTwo 45 = .ok (.iload_n 2, 1) := by decide +kernel
theorem dX5_findRipeByTwo_46 : decode cX5_findRipeByTwo 46 = .ok (.invokevirtual 41, 3) := by decide +kernel
theorem dX5_findRipeByTwo_49 : decode cX5_findRipeByTwo 49 = .ok (.aload_n 1, 1) := by decide +kernel
theorem dX5_findRipeByTwo_50 : decode cX5_findRipeByTwo 50 = .ok (.getfield 47, 3) := by decide +kernel
theorem dX5_findRipeByTwo_53 : decode cX5_findRipeByTwo 53 = .ok (.iconst 1, 1) := by decide +kernel
theorem dX5_findRipeByTwo_54 : decode cX5_findRipeByTwo 54 = .ok (.isub, 1) := by decide +kernel
theorem dX5_findRipeByTwo_55 : decode cX5_findRipeByTwo 55 = .ok (.if_icmp .ne 21, 3) := by decide +kernel
theorem dX5_findRipeByTwo_58 : decode cX5_findRipeByTwo 58 = .ok (.aload_n 0, 1) := by decide +kernel
theorem dX5_findRipeByTwo_59 : decode cX5_findRipeByTwo 59 = .ok (.iconst 2, 1) := by decide +kernel
theorem dX5_findRipeByTwo_60 : decode cX5_findRipeByTwo 60 = .ok (.putfield 31, 3) := by decide +kernel
theorem dX5_findRipeByTwo_63 : decode cX5_findRipeByTwo 63 = .ok (.aload_n 0, 1) := by decide +kernel
theorem dX5_findRipeByTwo_64 : decode cX5_findRipeByTwo 64 = .ok (.iload 4, 2) := by decide +kernel
theorem dX5_findRipeByTwo_66 : decode cX5_findRipeByTwo 66 = .ok (.putfield 35, 3) := by decide +kernel
theorem dX5_findRipeByTwo_69 : decode cX5_findRipeByTwo 69 = .ok (.aload_n 0, 1) := by decide +kernel
theorem dX5_findRipeByTwo_70 : decode cX5_findRipeByTwo 70 = .ok (.iload 5, 2) := by decide +kernel
theorem dX5_findRipeByTwo_72 : decode cX5_findRipeByTwo 72 = .ok (.putfield 38, 3) := by decide +kernel
theorem dX5_findRipeByTwo_75 : decode cX5_findRipeByTwo 75 = .ok (.return_, 1) := by decide +kernel
theorem dX5_findRipeByTwo_76 : decode cX5_findRipeByTwo 76 = .ok (.iinc 5 1, 3) := by decide +kernel
theorem dX5_findRipeByTwo_79 : decode cX5_findRipeByTwo 79 = .ok (.goto (-56), 3) := by decide +kernel
theorem dX5_findRipeByTwo_82 : decode cX5_findRipeByTwo 82 = .ok (.iinc 4 1, 3) := by decide +kernel
theorem dX5_findRipeByTwo_85 : decode cX5_findRipeByTwo 85 = .ok (.goto (-74), 3) := by decide +kernel
theorem dX5_findRipeByTwo_88 : decode cX5_findRipeByTwo 88 = .ok (.return_, 1) := by decide +kernel
theorem dX5_findCold_0 : decode cX5_findCold 0 = .ok (.aload_n 0, 1) := by decide +kernel
theorem dX5_findCold_1 : decode cX5_findCold 1 = .ok (.getfield 21, 3) := by decide +kernel
theorem dX5_findCold_4 : decode cX5_findCold 4 = .ok (.iload_n 1, 1) := by decide +kernel
theorem dX5_findCold_5 : decode cX5_findCold 5 = .ok (.invokevirtual 25, 3) := by decide +kernel
theorem dX5_findCold_8 : decode cX5_findCold 8 = .ok (.astore_n 2, 1) := by decide +kernel
theorem dX5_findCold_9 : decode cX5_findCold 9 = .ok (.aload_n 0, 1) := by decide +kernel
theorem dX5_findCold_10 : decode cX5_findCold 10 = .ok (.iconst (-1), 1) := by decide +kernel
theorem dX5_findCold_11 : decode cX5_findCold 11 = .ok (.putfield 77, 3) := by decide +kernel
theorem dX5_findCold_14 : decode cX5_findCold 14 = .ok (.aload_n 0, 1) := by decide +kernel
theorem dX5_findCold_15 : decode cX5_findCold 15 = .ok (.iconst (-1), 1) := by decide +kernel
theorem dX5_findCold_16 : decode cX5_findCold 16 = .ok (.putfield 80, 3) := by decide +kernel
theorem dX5_findCold_19 : decode cX5_findCold 19 = .ok (.iconst 0, 1) := by decide +kernel
theorem dX5_findCold_20 : decode cX5_findCold 20 = .ok (.istore_n 3, 1) := by decide +kernel
theorem dX5_findCold_21 : decode cX5_findCold 21 = .ok (.iload_n 3, 1) := by decide +kernel
theorem dX5_findCold_22 : decode cX5_findCold 22 = .ok (.bipush 30, 2) := by decide +kernel
theorem dX5_findCold_24 : decode cX5_findCold 24 = .ok (.if_icmp .ge 55, 3) := by decide +kernel
theorem dX5_findCold_27 : decode cX5_findCold 27 = .ok (.aload_n 2, 1) := by decide +kernel
theorem dX5_findCold_28 : decode cX5_findCold 28 = .ok (.iload_n 3, 1) := by decide +kernel
theorem dX5_findCold_29 : decode cX5_findCold 29 = .ok (.invokevirtual 83, 3) := by decide +kernel
theorem dX5_findCold_32 : decode cX5_findCold 32 = .ok (.istore 4, 2) := by decide +kernel
theorem dX5_findCold_34 : decode cX5_findCold 34 = .ok (.aload_n 2, 1) := by decide +kernel
theorem dX5_findCold_35 : decode cX5_findCold 35 = .ok (.iload_n 3, 1) := by decide +kernel
theorem dX5_findCold_36 : decode cX5_findCold 36 = .ok (.iconst 0, 1) := by decide +kernel
theorem dX5_findCold_37 : decode cX5_findCold 37 = .ok (.invokevirtual 86, 3) := by decide +kernel
theorem dX5_findCold_40 : decode cX5_findCold 40 = .ok (.aload_n 2, 1) := by decide +kernel
theorem dX5_findCold_41 : decode cX5_findCold 41 = .ok (.invokevirtual 90, 3) := by decide +kernel
theorem dX5_findCold_44 : decode cX5_findCold 44 = .ok (.istore 5, 2) := by decide +kernel
theorem dX5_findCold_46 : decode cX5_findCold 46 = .ok (.aload_n 2, 1) := by decide +kernel
theorem dX5_findCold_47 : decode cX5_findCold 47 = .ok (.iload_n 3, 1) := by decide +kernel
theorem dX5_findCold_48 : decode cX5_findCold 48 = .ok (.iload 4, 2) := by decide +kernel
theorem dX5_findCold_50 : decode cX5_findCold 50 = .ok (.invokevirtual 86, 3) := by decide +kernel
theorem dX5_findCold_53 : decode cX5_findCold 53 = .ok (.iload 5, 2) := by decide +kernel
theorem dX5_findCold_55 : decode cX5_findCold 55 = .ok (.aload_n 0, 1) := by decide +kernel
theorem dX5_findCold_56 : decode cX5_findCold 56 = .ok (.getfield 80, 3) := by decide +kernel
theorem dX5_findCold_59 : decode cX5_findCold 59 = .ok (.if_icmp .le 14, 3) := by decide +kernel
theorem dX5_findCold_62 : decode cX5_findCold 62 = .ok (.aload_n 0, 1) := by decide +kernel
theorem dX5_findCold_63 : decode cX5_findCold 63 = .ok (.iload_n 3, 1) := by decide +kernel
theorem dX5_findCold_64 : decode cX5_findCold 64 = .ok (.putfield 77, 3) := by decide +kernel
theorem dX5_findCold_67 : decode cX5_findCold 67 = .ok (.aload_n 0, 1) := by decide +kernel
theorem dX5_findCold_68 : decode cX5_findCold 68 = .ok (.iload 5, 2) := by decide +kernel
theorem dX5_findCold_70 : decode cX5_findCold 70 = .ok (.putfield 80, 3) := by decide +kernel
theorem dX5_findCold_73 : decode cX5_findCold 73 = .ok (.iinc 3 1, 3) := by decide +kernel
theorem dX5_findCold_76 : decode cX5_findCold 76 = .ok (.goto (-55), 3) := by decide +kernel
theorem dX5_findCold_79 : decode cX5_findCold 79 = .ok (.return_, 1) := by decide +kernel
theorem dX5_findCome_0 : decode cX5_findCome 0 = .ok (.aload_n 0, 1) := by decide +kernel
theorem dX5_findCome_1 : decode cX5_findCome 1 = .ok (.getfield 21, 3) := by decide +kernel
theorem dX5_findCome_4 : decode cX5_findCome 4 = .ok (.iload_n 1, 1) := by decide +kernel
theorem dX5_findCome_5 : decode cX5_findCome 5 = .ok (.invokevirtual 25, 3) := by decide +kernel
theorem dX5_findCome_8 : decode cX5_findCome 8 = .ok (.astore_n 2, 1) := by decide +kernel
theorem dX5_findCome_9 : decode cX5_findCome 9 = .ok (.aload_n 0, 1) := by decide +kernel
theorem dX5_findCome_10 : decode cX5_findCome 10 = .ok (.iconst (-1), 1) := by decide +kernel
theorem dX5_findCome_11 : decode cX5_findCome 11 = .ok (.putfield 94, 3) := by decide +kernel
theorem dX5_findCome_14 : decode cX5_findCome 14 = .ok (.aload_n 0, 1) := by decide +kernel
theorem dX5_findCome_15 : decode cX5_findCome 15 = .ok (.iconst (-1), 1) := by decide +kernel
theorem dX5_findCome_16 : decode cX5_findCome 16 = .ok (.putfield 97, 3) := by decide +kernel
theorem dX5_findCome_19 : decode cX5_findCome 19 = .ok (.iconst 0, 1) := by decide +kernel
theorem dX5_findCome_20 : decode cX5_findCome 20 = .ok (.istore_n 3, 1) := by decide +kernel
theorem dX5_findCome_21 : decode cX5_findCome 21 = .ok (.iload_n 3, 1) := by decide +kernel
theorem dX5_findCome_22 : decode cX5_findCome 22 = .ok (.bipush 20, 2) := by decide +kernel
theorem dX5_findCome_24 : decode cX5_findCome 24 = .ok (.if_icmp .ge 42, 3) := by decide +kernel
theorem dX5_findCome_27 : decode cX5_findCome 27 = .ok (.aload_n 2, 1) := by decide +kernel
theorem dX5_findCome_28 : decode cX5_findCome 28 = .ok (.iload_n 3, 1) := by decide +kernel
theorem dX5_findCome_29 : decode cX5_findCome 29 = .ok (.putfield 61, 3) := by decide +kernel
theorem dX5_findCome_32 : decode cX5_findCome 32 = .ok (.aload_n 2, 1) := by decide +kernel
theorem dX5_findCome_33 : decode cX5_findCome 33 = .ok (.bipush 29, 2) := by decide +kernel
theorem dX5_findCome_35 : decode cX5_findCome 35 = .ok (.invokevirtual 41, 3) := by decide +kernel
theorem dX5_findCome_38 : decode cX5_findCome 38 = .ok (.istore 4, 2) := by decide +kernel
theorem dX5_findCome_40 : decode cX5_findCome 40 = .ok (.iload 4, 2) := by decide +kernel
theorem dX5_findCome_42 : decode cX5_findCome 42 = .ok (.aload_n 0, 1) := by decide +kernel
theorem dX5_findCome_43 : decode cX5_findCome 43 = .ok (.getfield 97, 3) := by decide +kernel
theorem dX5_findCome_46 : decode cX5_findCome 46 = .ok (.if_icmp .le 14, 3) := by decide +kernel
theorem dX5_findCome_49 : decode cX5_findCome 49 = .ok (.aload_n 0, 1) := by decide +kernel
theorem dX5_findCome_50 : decode cX5_findCome 50 = .ok (.iload_n 3, 1) := by decide +kernel
theorem dX5_findCome_51 : decode cX5_findCome 51 = .ok (.putfield 94, 3) := by decide +kernel
theorem dX5_findCome_54 : decode cX5_findCome 54 = .ok (.aload_n 0, 1) := by decide +kernel
theorem dX5_findCome_55 : decode cX5_findCome 55 = .ok (.iload 4, 2) := by decide +kernel
theorem dX5_findCome_57 : decode cX5_findCome 57 = .ok (.putfield 97, 3) := by decide +kernel
theorem dX5_findCome_60 : decode cX5_findCome 60 = .ok (.iinc 3 1, 3) := by decide +kernel
theorem dX5_findCome_63 : decode cX5_findCome 63 = .ok (.goto (-42), 3) := by decide +kernel
theorem dX5_findCome_66 : decode cX5_findCome 66 = .ok (.return_, 1) := by decide +kernel
theorem dX5_bestSale_0 : decode cX5_bestSale 0 = .ok (.aload_n 0, 1) := by decide +kernel
theorem dX5_bestSale_1 : decode cX5_bestSale 1 = .ok (.getfield 21, 3) := by decide +kernel
theorem dX5_bestSale_4 : decode cX5_bestSale 4 = .ok (.getfield 100, 3) := by decide +kernel
theorem dX5_bestSale_7 : decode cX5_bestSale 7 = .ok (.getfield 104, 3) := by decide +kernel
theorem dX5_bestSale_10 : decode cX5_bestSale 10 = .ok (.bipush 8, 2) := by decide +kernel
theorem dX5_bestSale_12 : decode cX5_bestSale 12 = .ok (.invokestatic 109, 3) := by decide +kernel
theorem dX5_bestSale_15 : decode cX5_bestSale 15 = .ok (.istore_n 1, 1) := by decide +kernel
theorem dX5_bestSale_16 : decode cX5_bestSale 16 = .ok (.aload_n 0, 1) := by decide +kernel
theorem dX5_bestSale_17 : decode cX5_bestSale 17 = .ok (.getfield 9, 3) := by decide +kernel
theorem dX5_bestSale_20 : decode cX5_bestSale 20 = .ok (.iconst 0, 1) := by decide +kernel
theorem dX5_bestSale_21 : decode cX5_bestSale 21 = .ok (.invokestatic 112, 3) := by decide +kernel
theorem dX5_bestSale_24 : decode cX5_bestSale 24 = .ok (.iconst 0, 1) := by decide +kernel
theorem dX5_bestSale_25 : decode cX5_bestSale 25 = .ok (.istore_n 2, 1) := by decide +kernel
theorem dX5_bestSale_26 : decode cX5_bestSale 26 = .ok (.iload_n 2, 1) := by decide +kernel
theorem dX5_bestSale_27 : decode cX5_bestSale 27 = .ok (.iload_n 1, 1) := by decide +kernel
theorem dX5_bestSale_28 : decode cX5_bestSale 28 = .ok (.if_icmp .ge 14, 3) := by decide +kernel
theorem dX5_bestSale_31 : decode cX5_bestSale 31 = .ok (.aload_n 0, 1) := by decide +kernel
theorem dX5_bestSale_32 : decode cX5_bestSale 32 = .ok (.iload_n 2, 1) := by decide +kernel
theorem dX5_bestSale_33 : decode cX5_bestSale 33 = .ok (.invokevirtual 118, 3) := by decide +kernel
theorem dX5_bestSale_36 : decode cX5_bestSale 36 = .ok (.iinc 2 1, 3) := by decide +kernel
theorem dX5_bestSale_39 : decode cX5_bestSale 39 = .ok (.goto (-13), 3) := by decide +kernel
theorem dX5_bestSale_42 : decode cX5_bestSale 42 = .ok (.aload_n 0, 1) := by decide +kernel
theorem dX5_bestSale_43 : decode cX5_bestSale 43 = .ok (.getfield 15, 3) := by decide +kernel
theorem dX5_bestSale_46 : decode cX5_bestSale 46 = .ok (.iconst 0, 1) := by decide +kernel
theorem dX5_bestSale_47 : decode cX5_bestSale 47 = .ok (.invokestatic 112, 3) := by decide +kernel
theorem dX5_bestSale_50 : decode cX5_bestSale 50 = .ok (.iconst 0, 1) := by decide +kernel
theorem dX5_bestSale_51 : decode cX5_bestSale 51 = .ok (.istore_n 2, 1) := by decide +kernel
theorem dX5_bestSale_52 : decode cX5_bestSale 52 = .ok (.iload_n 2, 1) := by decide +kernel
theorem dX5_bestSale_53 : decode cX5_bestSale 53 = .ok (.bipush 30, 2) := by decide +kernel
theorem dX5_bestSale_55 : decode cX5_bestSale 55 = .ok (.if_icmp .ge 60, 3) := by decide +kernel
theorem dX5_bestSale_58 : decode cX5_bestSale 58 = .ok (.aload_n 0, 1) := by decide +kernel
theorem dX5_bestSale_59 : decode cX5_bestSale 59 = .ok (.getfield 15, 3) := by decide +kernel
theorem dX5_bestSale_62 : decode cX5_bestSale 62 = .ok (.iconst 0, 1) := by decide +kernel
theorem dX5_bestSale_63 : decode cX5_bestSale 63 = .ok (.aload_n 0, 1) := by decide +kernel
theorem dX5_bestSale_64 : decode cX5_bestSale 64 = .ok (.getfield 18, 3) := by decide +kernel
theorem dX5_bestSale_67 : decode cX5_bestSale 67 = .ok (.iconst 0, 1) := by decide +kernel
theorem dX5_bestSale_68 : decode cX5_bestSale 68 = .ok (.sipush 256, 3) := by decide +kernel
theorem dX5_bestSale_71 : decode cX5_bestSale 71 = .ok (.invokestatic 122, 3) := by decide +kernel
theorem dX5_bestSale_74 : decode cX5_bestSale 74 = .ok (.iconst 0, 1) := by decide +kernel
theorem dX5_bestSale_75 : decode cX5_bestSale 75 = .ok (.istore_n 3, 1) := by decide +kernel
theorem dX5_bestSale_76 : decode cX5_bestSale 76 = .ok (.iload_n 3, 1) := by decide +kernel
theorem dX5_bestSale_77 : decode cX5_bestSale 77 = .ok (.iload_n 1, 1) := by decide +kernel
theorem dX5_bestSale_78 : decode cX5_bestSale 78 = .ok (.if_icmp .ge 31, 3) := by decide +kernel
theorem dX5_bestSale_81 : decode cX5_bestSale 81 = .ok (.aload_n 0, 1) := by decide +kernel
theorem dX5_bestSale_82 : decode cX5_bestSale 82 = .ok (.iload_n 3, 1) := by decide +kernel
theorem dX5_bestSale_83 : decode cX5_bestSale 83 = .ok (.aload_n 0, 1) := by decide +kernel
theorem dX5_bestSale_84 : decode cX5_bestSale 84 = .ok (.getfield 9, 3) := by decide +kernel
theorem dX5_bestSale_87 : decode cX5_bestSale 87 = .ok (.iload_n 3, 1) := by decide +kernel
theorem dX5_bestSale_88 : decode cX5_bestSale 88 = .ok (.bipush 30, 2) := by decide +kernel
theorem dX5_bestSale_90 : decode cX5_bestSale 90 = .ok (.imul, 1) := by decide +kernel
theorem dX5_bestSale_91 : decode cX5_bestSale 91 = .ok (.iload_n 2, 1) := by decide +kernel
theorem dX5_bestSale_92 : decode cX5_bestSale 92 = .ok (.iadd, 1) := by decide +kernel
theorem dX5_bestSale_93 : decode cX5_bestSale 93 = .ok (.iconst 0, 1) := by decide +kernel
theorem dX5_bestSale_94 : decode cX5_bestSale 94 = .ok (.invokestatic 128, 3) := by decide +kernel
theorem dX5_bestSale_97 : decode cX5_bestSale 97 = .ok (.iconst 1, 1) := by decide +kernel
theorem dX5_bestSale_98 : decode cX5_bestSale 98 = .ok (.iload_n 1, 1) := by decide +kernel
theorem dX5_bestSale_99 : decode cX5_bestSale 99 = .ok (.ishl, 1) := by decide +kernel
theorem dX5_bestSale_100 : decode cX5_bestSale 100 = .ok (.invokevirtual 132, 3) := by decide +kernel
theorem dX5_bestSale_103 : decode cX5_bestSale 103 = .ok (.iinc 3 1, 3) := by decide +kernel
theorem dX5_bestSale_106 : decode cX5_bestSale 106 = .ok (.goto (-30), 3) := by decide +kernel
theorem dX5_bestSale_109 : decode cX5_bestSale 109 = .ok (.iinc 2 1, 3) := by decide +kernel
theorem dX5_bestSale_112 : decode cX5_bestSale 112 = .ok (.goto (-60), 3) := by decide +kernel
theorem dX5_bestSale_115 : decode cX5_bestSale 115 = .ok (.aload_n 0, 1) := by decide +kernel
theorem dX5_bestSale_116 : decode cX5_bestSale 116 = .ok (.getfield 15, 3) := by decide +kernel
theorem dX5_bestSale_119 : decode cX5_bestSale 119 = .ok (.iconst 1, 1) := by decide +kernel
theorem dX5_bestSale_120 : decode cX5_bestSale 120 = .ok (.iload_n 1, 1) := by decide +kernel
theorem dX5_bestSale_121 : decode cX5_bestSale 121 = .ok (.ishl, 1) := by decide +kernel
theorem dX5_bestSale_122 : decode cX5_bestSale 122 = .ok (.iconst 1, 1) := by decide +kernel
theorem dX5_bestSale_123 : decode cX5_bestSale 123 = .ok (.isub, 1) := by decide +kernel
theorem dX5_bestSale_124 : decode cX5_bestSale 124 = .ok (.iconst 0, 1) := by decide +kernel
theorem dX5_bestSale_125 : decode cX5_bestSale 125 = .ok (.invokestatic 128, 3) := by decide +kernel
theorem dX5_bestSale_128 : decode cX5_bestSale 128 = .ok (.ireturn, 1) := by decide +kernel
theorem dX5_priceLast_0 : decode cX5_priceLast 0 = .ok (.aload_n 0, 1) := by decide +kernel
theorem dX5_priceLast_1 : decode cX5_priceLast 1 = .ok (.getfield 21, 3) := by decide +kernel
theorem dX5_priceLast_4 : decode cX5_priceLast 4 = .ok (.iload_n 1, 1) := by decide +kernel
theorem dX5_priceLast_5 : decode cX5_priceLast 5 = .ok (.invokevirtual 25, 3) := by decide +kernel
theorem dX5_priceLast_8 : decode cX5_priceLast 8 = .ok (.astore_n 2, 1) := by decide +kernel
theorem dX5_priceLast_9 : decode cX5_priceLast 9 = .ok (.aload_n 2, 1) := by decide +kernel
theorem dX5_priceLast_10 : decode cX5_priceLast 10 = .ok (.invokevirtual 136, 3) := by decide +kernel
theorem dX5_priceLast_13 : decode cX5_priceLast 13 = .ok (.bipush 8, 2) := by decide +kernel
theorem dX5_priceLast_15 : decode cX5_priceLast 15 = .ok (.istore_n 3, 1) := by decide +kernel
theorem dX5_priceLast_16 : decode cX5_priceLast 16 = .ok (.bipush 29, 2) := by decide +kernel
theorem dX5_priceLast_18 : decode cX5_priceLast 18 = .ok (.istore 4, 2) := by decide +kernel
theorem dX5_priceLast_20 : decode cX5_priceLast 20 = .ok (.iload 4, 2) := by decide +kernel
theorem dX5_priceLast_22 : decode cX5_priceLast 22 = .ok (.ifCond .lt 65, 3) := by decide +kernel
theorem dX5_priceLast_25 : decode cX5_priceLast 25 = .ok (.iload_n 3, 1) := by decide +kernel
theorem dX5_priceLast_26 : decode cX5_priceLast 26 = .ok (.ifCond .le 61, 3) := by decide +kernel
theorem dX5_priceLast_29 : decode cX5_priceLast 29 = .ok (.iload_n 1, 1) := by decide +kernel
theorem dX5_priceLast_30 : decode cX5_priceLast 30 = .ok (.bipush 30, 2) := by decide +kernel
theorem dX5_priceLast_32 : decode cX5_priceLast 32 = .ok (.imul, 1) := by decide +kernel
theorem dX5_priceLast_33 : decode cX5_priceLast 33 = .ok (.iload 4, 2) := by decide +kernel
theorem dX5_priceLast_35 : decode cX5_priceLast 35 = .ok (.iadd, 1) := by decide +kernel
theorem dX5_priceLast_36 : decode cX5_priceLast 36 = .ok (.istore 5, 2) := by decide +kernel
theorem dX5_priceLast_38 : decode cX5_priceLast 38 = .ok (.aload_n 2, 1) := by decide +kernel
theorem dX5_priceLast_39 : decode cX5_priceLast 39 = .ok (.iload 4, 2) := by decide +kernel
theorem dX5_priceLast_41 : decode cX5_priceLast 41 = .ok (.invokevirtual 139, 3) := by decide +kernel
theorem dX5_priceLast_44 : decode cX5_priceLast 44 = .ok (.iconst (-1), 1) := by decide +kernel
theorem dX5_priceLast_45 : decode cX5_priceLast 45 = .ok (.if_icmp .eq 36, 3) := by decide +kernel
theorem dX5_priceLast_48 : decode cX5_priceLast 48 = .ok (.iload 5, 2) := by decide +kernel
theorem dX5_priceLast_50 : decode cX5_priceLast 50 = .ok (.ifCond .lt 31, 3) := by decide +kernel
theorem dX5_priceLast_53 : decode cX5_priceLast 53 = .ok (.iload 5, 2) := by decide +kernel
theorem dX5_priceLast_55 : decode cX5_priceLast 55 = .ok (.aload_n 0, 1) := by decide +kernel
theorem dX5_priceLast_56 : decode cX5_priceLast 56 = .ok (.getfield 9, 3) := by decide +kernel
theorem dX5_priceLast_59 : decode cX5_priceLast 59 = .ok (.arraylength, 1) := by decide +kernel
theorem dX5_priceLast_60 : decode cX5_priceLast 60 = .ok (.if_icmp .ge 21, 3) := by decide +kernel
theorem dX5_priceLast_63 : decode cX5_priceLast 63 = .ok (.aload_n 0, 1) := by decide +kernel
theorem dX5_priceLast_64 : decode cX5_priceLast 64 = .ok (.getfield 9, 3) := by decide +kernel
theorem dX5_priceLast_67 : decode cX5_priceLast 67 = .ok (.iload 5, 2) := by decide +kernel
theorem dX5_priceLast_69 : decode cX5_priceLast 69 = .ok (.aload_n 2, 1) := by decide +kernel
theorem dX5_priceLast_70 : decode cX5_priceLast 70 = .ok (.iload 4, 2) := by decide +kernel
theorem dX5_priceLast_72 : decode cX5_priceLast 72 = .ok (.invokevirtual 139, 3) := by decide +kernel
theorem dX5_priceLast_75 : decode cX5_priceLast 75 = .ok (.iconst 1, 1) := by decide +kernel
theorem dX5_priceLast_76 : decode cX5_priceLast 76 = .ok (.iadd, 1) := by decide +kernel
theorem dX5_priceLast_77 : decode cX5_priceLast 77 = .ok (.iastore, 1) := by decide +kernel
theorem dX5_priceLast_78 : decode cX5_priceLast 78 = .ok (.iinc 3 (-1), 3) := by decide +kernel
theorem dX5_priceLast_81 : decode cX5_priceLast 81 = .ok (.iinc 4 (-1), 3) := by decide +kernel
theorem dX5_priceLast_84 : decode cX5_priceLast 84 = .ok (.goto (-64), 3) := by decide +kernel
theorem dX5_priceLast_87 : decode cX5_priceLast 87 = .ok (.return_, 1) := by decide +kernel
theorem dX5_sell_0 : decode cX5_sell 0 = .ok (.iload_n 2, 1) := by decide +kernel
theorem dX5_sell_1 : decode cX5_sell 1 = .ok (.ifCond .gt 4, 3) := by decide +kernel
theorem dX5_sell_4 : decode cX5_sell 4 = .ok (.return_, 1) := by decide +kernel
theorem dX5_sell_5 : decode cX5_sell 5 = .ok (.iconst 1, 1) := by decide +kernel
theorem dX5_sell_6 : decode cX5_sell 6 = .ok (.iload_n 1, 1) := by decide +kernel
theorem dX5_sell_7 : decode cX5_sell 7 = .ok (.ishl, 1) := by decide +kernel
theorem dX5_sell_8 : decode cX5_sell 8 = .ok (.istore 4, 2) := by decide +kernel
theorem dX5_sell_10 : decode cX5_sell 10 = .ok (.iload 4, 2) := by decide +kernel
theorem dX5_sell_12 : decode cX5_sell 12 = .ok (.istore 5, 2) := by decide +kernel
theorem dX5_sell_14 : decode cX5_sell 14 = .ok (.iload 5, 2) := by decide +kernel
theorem dX5_sell_16 : decode cX5_sell 16 = .ok (.iload_n 3, 1) := by decide +kernel
theorem dX5_sell_17 : decode cX5_sell 17 = .ok (.if_icmp .ge 56, 3) := by decide +kernel
theorem dX5_sell_20 : decode cX5_sell 20 = .ok (.iload 5, 2) := by decide +kernel
theorem dX5_sell_22 : decode cX5_sell 22 = .ok (.aload_n 0, 1) := by decide +kernel
theorem dX5_sell_23 : decode cX5_sell 23 = .ok (.getfield 15, 3) := by decide +kernel
theorem dX5_sell_26 : decode cX5_sell 26 = .ok (.arraylength, 1) := by decide +kernel
theorem dX5_sell_27 : decode cX5_sell 27 = .ok (.if_icmp .ge 46, 3) := by decide +kernel
theorem dX5_sell_30 : decode cX5_sell 30 = .ok (.iload 5, 2) := by decide +kernel
theorem dX5_sell_32 : decode cX5_sell 32 = .ok (.iload 4, 2) := by decide +kernel
theorem dX5_sell_34 : decode cX5_sell 34 = .ok (.iand, 1) := by decide +kernel
theorem dX5_sell_35 : decode cX5_sell 35 = .ok (.ifCond .eq 32, 3) := by decide +kernel
theorem dX5_sell_38 : decode cX5_sell 38 = .ok (.aload_n 0, 1) := by decide +kernel
theorem dX5_sell_39 : decode cX5_sell 39 = .ok (.getfield 15, 3) := by decide +kernel
theorem dX5_sell_42 : decode cX5_sell 42 = .ok (.iload 5, 2) := by decide +kernel
theorem dX5_sell_44 : decode cX5_sell 44 = .ok (.aload_n 0, 1) := by decide +kernel
theorem dX5_sell_45 : decode cX5_sell 45 = .ok (.getfield 15, 3) := by decide +kernel
theorem dX5_sell_48 : decode cX5_sell 48 = .ok (.iload 5, 2) := by decide +kernel
theorem dX5_sell_50 : decode cX5_sell 50 = .ok (.iaload, 1) := by decide +kernel
theorem dX5_sell_51 : decode cX5_sell 51 = .ok (.aload_n 0, 1) := by decide +kernel
theorem dX5_sell_52 : decode cX5_sell 52 = .ok (.getfield 18, 3) := by decide +kernel
theorem dX5_sell_55 : decode cX5_sell 55 = .ok (.iload 5, 2) := by decide +kernel
theorem dX5_sell_57 : decode cX5_sell 57 = .ok (.iload 4, 2) := by decide +kernel
theorem dX5_sell_59 : decode cX5_sell 59 = .ok (.ixor, 1) := by decide +kernel
theorem dX5_sell_60 : decode cX5_sell 60 = .ok (.iaload, 1) := by decide +kernel
theorem dX5_sell_61 : decode cX5_sell 61 = .ok (.iload_n 2, 1) := by decide +kernel
theorem dX5_sell_62 : decode cX5_sell 62 = .ok (.iadd, 1) := by decide +kernel
theorem dX5_sell_63 : decode cX5_sell 63 = .ok (.invokestatic 64, 3) := by decide +kernel
theorem dX5_sell_66 : decode cX5_sell 66 = .ok (.iastore, 1) := by decide +kernel
theorem dX5_sell_67 : decode cX5_sell 67 = .ok (.iinc 5 1, 3) := by decide +kernel
theorem dX5_sell_70 : decode cX5_sell 70 = .ok (.goto (-56), 3) := by decide +kernel
theorem dX5_sell_73 : decode cX5_sell 73 = .ok (.return_, 1) := by decide +kernel
theorem dX6_init_0 : decode cX6_init 0 = .ok (.aload_n 0, 1) := by decide +kernel
theorem dX6_init_1 : decode cX6_init 1 = .ok (.invokespecial 3, 3) := by decide +kernel
theorem dX6_init_4 : decode cX6_init 4 = .ok (.aload_n 0, 1) := by decide +kernel
theorem dX6_init_5 : decode cX6_init 5 = .ok (.bipush 60, 2) := by decide +kernel
theorem dX6_init_7 : decode cX6_init 7 = .ok (.newarray .int, 2) := by decide +kernel
theorem dX6_init_9 : decode cX6_init 9 = .ok (.putfield 9, 3) := by decide +kernel
theorem dX6_init_12 : decode cX6_init 12 = .ok (.aload_n 0, 1) := by decide +kernel
theorem dX6_init_13 : decode cX6_init 13 = .ok (.iconst 1, 1) := by decide +kernel
theorem dX6_init_14 : decode cX6_init 14 = .ok (.putfield 15, 3) := by decide +kernel
theorem dX6_init_17 : decode cX6_init 17 = .ok (.return_, 1) := by decide +kernel
theorem dX6_renew_0 : decode cX6_renew 0 = .ok (.aload_n 0, 1) := by decide +kernel
theorem dX6_renew_1 : decode cX6_renew 1 = .ok (.getfield 9, 3) := by decide +kernel
theorem dX6_renew_4 : decode cX6_renew 4 = .ok (.iconst 0, 1) := by decide +kernel
theorem dX6_renew_5 : decode cX6_renew 5 = .ok (.invokestatic 19, 3) := by decide +kernel
theorem dX6_renew_8 : decode cX6_renew 8 = .ok (.aload_n 0, 1) := by decide +kernel
theorem dX6_renew_9 : decode cX6_renew 9 = .ok (.iconst 0, 1) := by decide +kernel
theorem dX6_renew_10 : decode cX6_renew 10 = .ok (.putfield 15, 3) := by decide +kernel
theorem dX6_renew_13 : decode cX6_renew 13 = .ok (.aload_n 0, 1) := by decide +kernel
theorem dX6_renew_14 : decode cX6_renew 14 = .ok (.iload_n 1, 1) := by decide +kernel
theorem dX6_renew_15 : decode cX6_renew 15 = .ok (.putfield 25, 3) := by decide +kernel
theorem dX6_renew_18 : decode cX6_renew 18 = .ok (.aload_n 0, 1) := by decide +kernel
theorem dX6_renew_19 : decode cX6_renew 19 = .ok (.iload_n 2, 1) := by decide +kernel
theorem dX6_renew_20 : decode cX6_renew 20 = .ok (.putfield 29, 3) := by decide +kernel
theorem dX6_renew_23 : decode cX6_renew 23 = .ok (.return_, 1) := by decide +kernel
theorem dX6_holds_0 : decode cX6_holds 0 = .ok (.iload_n 1, 1) := by decide +kernel
theorem dX6_holds_1 : decode cX6_holds 1 = .ok (.ifCond .lt 41, 3) := by decide +kernel
theorem dX6_holds_4 : decode cX6_holds 4 = .ok (.iload_n 2, 1) := by decide +kernel
theorem dX6_holds_5 : decode cX6_holds 5 = .ok (.ifCond .lt 37, 3) := by decide +kernel
theorem dX6_holds_8 : decode cX6_holds 8 = .ok (.iload_n 1, 1) := by decide +kernel
theorem dX6_holds_9 : decode cX6_holds 9 = .ok (.aload_n 0, 1) := by decide +kernel
theorem dX6_holds_10 : decode cX6_holds 10 = .ok (.getfield 29, 3) := by decide +kernel
theorem dX6_holds_13 : decode cX6_holds 13 = .ok (.if_icmp .gt 29, 3) := by decide +kernel
theorem dX6_holds_16 : decode cX6_holds 16 = .ok (.iload_n 2, 1) := by decide +kernel
theorem dX6_holds_17 : decode cX6_holds 17 = .ok (.aload_n 0, 1) := by decide +kernel
theorem dX6_holds_18 : decode cX6_holds 18 = .ok (.getfield 29, 3) := by decide +kernel
theorem dX6_holds_21 : decode cX6_holds 21 = .ok (.iload_n 1, 1) := by decide +kernel
theorem dX6_holds_22 : decode cX6_holds 22 = .ok (.isub, 1) := by decide +kernel
theorem dX6_holds_23 : decode cX6_holds 23 = .ok (.if_icmp .gt 19, 3) := by decide +kernel
theorem dX6_holds_26 : decode cX6_holds 26 = .ok (.aload_n 0, 1) := by decide +kernel
theorem dX6_holds_27 : decode cX6_holds 27 = .ok (.getfield 29, 3) := by decide +kernel
theorem dX6_holds_30 : decode cX6_holds 30 = .ok (.aload_n 0, 1) := by decide +kernel
theorem dX6_holds_31 : decode cX6_holds 31 = .ok (.getfield 9, 3) := by decide +kernel
theorem dX6_holds_34 : decode cX6_holds 34 = .ok (.arraylength, 1) := by decide +kernel
theorem dX6_holds_35 : decode cX6_holds 35 = .ok (.if_icmp .gt 7, 3) := by decide +kernel
theorem dX6_holds_38 : decode cX6_holds 38 = .ok (.iconst 1, 1) := by decide +kernel
theorem dX6_holds_39 : decode cX6_holds 39 = .ok (.goto 4, 3) := by decide +kernel
theorem dX6_holds_42 : decode cX6_holds 42 = .ok (.iconst 0, 1) := by decide +kernel
theorem dX6_holds_43 : decode cX6_holds 43 = .ok (.ireturn, 1) := by decide +kernel
theorem dX6_itemAt_0 : decode cX6_itemAt 0 = .ok (.aload_n 0, 1) := by decide +kernel
theorem dX6_itemAt_1 : decode cX6_itemAt 1 = .ok (.getfield 9, 3) := by decide +kernel
theorem dX6_itemAt_4 : decode cX6_itemAt 4 = .ok (.iload_n 1, 1) := by decide +kernel
theorem dX6_itemAt_5 : decode cX6_itemAt 5 = .ok (.iconst 0, 1) := by decide +kernel
theorem dX6_itemAt_6 : decode cX6_itemAt 6 = .ok (.invokestatic 32, 3) := by decide +kernel
theorem dX6_itemAt_9 : decode cX6_itemAt 9 = .ok (.ireturn, 1) := by decide +kernel
theorem dX6_place_0 : decode cX6_place 0 = .ok (.iload_n 1, 1) := by decide +kernel
theorem dX6_place_1 : decode cX6_place 1 = .ok (.ifCond .lt 44, 3) := by decide +kernel
theorem dX6_place_4 : decode cX6_place 4 = .ok (.iload_n 1, 1) := by decide +kernel
theorem dX6_place_5 : decode cX6_place 5 = .ok (.aload_n 0, 1) := by decide +kernel
theorem dX6_place_6 : decode cX6_place 6 = .ok (.getfield 9, 3) := by decide +kernel
theorem dX6_place_9 : decode cX6_place 9 = .ok (.arraylength, 1) := by decide +kernel
theorem dX6_place_10 : decode cX6_place 10 = .ok (.if_icmp .ge 35, 3) := by decide +kernel
theorem dX6_place_13 : decode cX6_place 13 = .ok (.aload_n 0, 1) := by decide +kernel
theorem dX6_place_14 : decode cX6_place 14 = .ok (.getfield 9, 3) := by decide +kernel
theorem dX6_place_17 : decode cX6_place 17 = .ok (.iload_n 1, 1) := by decide +kernel
theorem dX6_place_18 : decode cX6_place 18 = .ok (.aload_n 0, 1) := by decide +kernel
theorem dX6_place_19 : decode cX6_place 19 = .ok (.getfield 25, 3) := by decide +kernel
theorem dX6_place_22 : decode cX6_place 22 = .ok (.ifCond .ne 8, 3) := by decide +kernel
theorem dX6_place_25 : decode cX6_place 25 = .ok (.iload_n 2, 1) := by decide +kernel
theorem dX6_place_26 : decode cX6_place 26 = .ok (.i2b, 1) := by decide +kernel
theorem dX6_place_27 : decode cX6_place 27 = .ok (.goto 17, 3) := by decide +kernel
theorem dX6_place_30 : decode cX6_place 30 = .ok (.aload_n 0, 1) := by decide +kernel
theorem dX6_place_31 : decode cX6_place 31 = .ok (.getfield 25, 3) := by decide +kernel
theorem dX6_place_34 : decode cX6_place 34 = .ok (.iconst 1, 1) := by decide +kernel
theorem dX6_place_35 : decode cX6_place 35 = .ok (.if_icmp .ne 8, 3) := by decide +kernel
theorem dX6_place_38 : decode cX6_place 38 = .ok (.iload_n 2, 1) := by decide +kernel
theorem dX6_place_39 : decode cX6_place 39 = .ok (.i2s, 1) := by decide +kernel
theorem dX6_place_40 : decode cX6_place 40 = .ok (.goto 4, 3) := by decide +kernel
theorem dX6_place_43 : decode cX6_place 43 = .ok (.iload_n 2, 1) := by decide +kernel
theorem dX6_place_44 : decode cX6_place 44 = .ok (.iastore, 1) := by decide +kernel
theorem dX6_place_45 : decode cX6_place 45 = .ok (.return_, 1) := by decide +kernel
theorem dX7_init_0 : decode cX7_init 0 = .ok (.aload_n 0, 1) := by decide +kernel
theorem dX7_init_1 : decode cX7_init 1 = .ok (.invokespecial 3, 3) := by decide +kernel
theorem dX7_init_4 : decode cX7_init 4 = .ok (.aload_n 0, 1) := by decide +kernel
theorem dX7_init_5 : decode cX7_init 5 = .ok (.sipush 240, 3) := by decide +kernel
theorem dX7_init_8 : decode cX7_init 8 = .ok (.newarray .int, 2) := by decide +kernel
theorem dX7_init_10 : decode cX7_init 10 = .ok (.putfield 9, 3) := by decide +kernel
theorem dX7_init_13 : decode cX7_init 13 = .ok (.aload_n 0, 1) := by decide +kernel
theorem dX7_init_14 : decode cX7_init 14 = .ok (.aload_n 1, 1) := by decide +kernel
theorem dX7_init_15 : decode cX7_init 15 = .ok (.putfield 15, 3) := by decide +kernel
theorem dX7_init_18 : decode cX7_init 18 = .ok (.return_, 1) := by decide +kernel
theorem dX7_findScream_0 : decode cX7_findScream 0 = .ok (.aload_n 0, 1) := by decide +kernel
theorem dX7_findScream_1 : decode cX7_findScream 1 = .ok (.iconst (-1), 1) := by decide +kernel
theorem dX7_findScream_2 : decode cX7_findScream 2 = .ok (.putfield 19, 3) := by decide +kernel
theorem dX7_findScream_5 : decode cX7_findScream 5 = .ok (.aload_n 0, 1) := by decide +kernel
theorem dX7_findScream_6 : decode cX7_findScream 6 = .ok (.iconst (-1), 1) := by decide +kernel
theorem dX7_findScream_7 : decode cX7_findScream 7 = .ok (.putfield 23, 3) := by decide +kernel
theorem dX7_findScream_10 : decode cX7_findScream 10 = .ok (.iconst 0, 1) := by decide +kernel
theorem dX7_findScream_11 : decode cX7_findScream 11 = .ok (.istore_n 1, 1) := by decide +kernel
theorem dX7_findScream_12 : decode cX7_findScream 12 = .ok (.iload_n 1, 1) := by decide +kernel
theorem dX7_findScream_13 : decode cX7_findScream 13 = .ok (.aload_n 0, 1) := by decide +kernel
theorem dX7_findScream_14 : decode cX7_findScream 14 = .ok (.getfield 15, 3) := by decide +kernel
theorem dX7_findScream_17 : decode cX7_findScream 17 = .ok (.getfield 26, 3) := by decide +kernel
theorem dX7_findScream_20 : decode cX7_findScream 20 = .ok (.getfield 32, 3) := by decide +kernel
theorem dX7_findScream_23 : decode cX7_findScream 23 = .ok (.if_icmp .ge 58, 3) := by decide +kernel
theorem dX7_findScream_26 : decode cX7_findScream 26 = .ok (.aload_n 0, 1) := by decide +kernel
theorem dX7_findScream_27 : decode cX7_findScream 27 = .ok (.getfield 15, 3) := by decide +kernel
theorem dX7_findScream_30 : decode cX7_findScream 30 = .ok (.iload_n 1, 1) := by decide +kernel
theorem dX7_findScream_31 : decode cX7_findScream 31 = .ok (.invokevirtual 37, 3) := by decide +kernel
theorem dX7_findScream_34 : decode cX7_findScream 34 = .ok (.astore_n 2, 1) := by decide +kernel
theorem dX7_findScream_35 : decode cX7_findScream 35 = .ok (.aload_n 2, 1) := by decide +kernel
theorem dX7_findScream_36 : decode cX7_findScream 36 = .ok (.invokevirtual 41, 3) := by decide +kernel
theorem dX7_findScream_39 : decode cX7_findScream 39 = .ok (.aload_n 2, 1) := by decide +kernel
theorem dX7_findScream_40 : decode cX7_findScream 40 = .ok (.invokevirtual 46, 3) := by decide +kernel
theorem dX7_findScream_43 : decode cX7_findScream 43 = .ok (.istore_n 3, 1) := by decide +kernel
theorem dX7_findScream_44 : decode cX7_findScream 44 = .ok (.iload_n 3, 1) := by decide +kernel
theorem dX7_findScream_45 : decode cX7_findScream 45 = .ok (.iconst (-1), 1) := by decide +kernel
theorem dX7_findScream_46 : decode cX7_findScream 46 = .ok (.if_icmp .eq 29, 3) := by decide +kernel
theorem dX7_findScream_49 : decode cX7_findScream 49 = .ok (.aload_n 0, 1) := by decide +kernel
theorem dX7_findScream_50 : decode cX7_findScream 50 = .ok (.getfield 19, 3) := by decide +kernel
theorem dX7_findScream_53 : decode cX7_findScream 53 = .ok (.iconst (-1), 1) := by decide +kernel
theorem dX7_findScream_54 : decode cX7_findScream 54 = .ok (.if_icmp .eq 11, 3) := by decide +kernel
theorem dX7_findScream_57 : decode cX7_findScream 57 = .ok (.iload_n 3, 1) := by decide +kernel
theorem dX7_findScream_58 : decode cX7_findScream 58 = .ok (.aload_n 0, 1) := by decide +kernel
theorem dX7_findScream_59 : decode cX7_findScream 59 = .ok (.getfield 19, 3) := by decide +kernel
theorem dX7_findScream_62 : decode cX7_findScream 62 = .ok (.if_icmp .ge 13, 3) := by decide +kernel
theorem dX7_findScream_65 : decode cX7_findScream 65 = .ok (.aload_n 0, 1) := by decide +kernel
theorem dX7_findScream_66 : decode cX7_findScream 66 = .ok (.iload_n 3, 1) := by decide +kernel
theorem dX7_findScream_67 : decode cX7_findScream 67 = .ok (.putfield 19, 3) := by decide +kernel
theorem dX7_findScream_70 : decode cX7_findScream 70 = .ok (.aload_n 0, 1) := by decide +kernel
theorem dX7_findScream_71 : decode cX7_findScream 71 = .ok (.iload_n 1, 1) := by decide +kernel
theorem dX7_findScream_72 : decode cX7_findScream 72 = .ok (.putfield 23, 3) := by decide +kernel
theorem dX7_findScream_75 : decode cX7_findScream 75 = .ok (.iinc 1 1, 3) := by decide +kernel
theorem dX7_findScream_78 : decode cX7_findScream 78 = .ok (.goto (-66), 3) := by decide +kernel
theorem dX7_findScream_81 : decode cX7_findScream 81 = .ok (.return_, 1) := by decide +kernel
theorem dX7_tallyLetters_0 : decode cX7_tallyLetters 0 = .ok (.aload_n 0, 1) := by decide +kernel
theorem dX7_tallyLetters_1 : decode cX7_tallyLetters 1 = .ok (.getfield 9, 3) := by decide +kernel
theorem dX7_tallyLetters_4 : decode cX7_tallyLetters 4 = .ok (.iconst 0, 1) := by decide +kernel
theorem dX7_tallyLetters_5 : decode cX7_tallyLetters 5 = .ok (.invokestatic 50, 3) := by decide +kernel
theorem dX7_tallyLetters_8 : decode cX7_tallyLetters 8 = .ok (.iconst 0, 1) := by decide +kernel
theorem dX7_tallyLetters_9 : decode cX7_tallyLetters 9 = .ok (.istore_n 1, 1) := by decide +kernel
theorem dX7_tallyLetters_10 : decode cX7_tallyLetters 10 = .ok (.iload_n 1, 1) := by decide +kernel
theorem dX7_tallyLetters_11 : decode cX7_tallyLetters 11 = .ok (.aload_n 0, 1) := by decide +kernel
theorem dX7_tallyLetters_12 : decode cX7_tallyLetters 12 = .ok (.getfield 15, 3) := by decide +kernel
theorem dX7_tallyLetters_15 : decode cX7_tallyLetters 15 = .ok (.getfield 26, 3) := by decide +kernel
theorem dX7_tallyLetters_18 : decode cX7_tallyLetters 18 = .ok (.getfield 32, 3) := by decide +kernel
theorem dX7_tallyLetters_21 : decode cX7_tallyLetters 21 = .ok (.if_icmp .ge 78, 3) := by decide +kernel
theorem dX7_tallyLetters_24 : decode cX7_tallyLetters 24 = .ok (.aload_n 0, 1) := by decide +kernel
theorem dX7_tallyLetters_25 : decode cX7_tallyLetters 25 = .ok (.getfield 15, 3) := by decide +kernel
theorem dX7_tallyLetters_28 : decode cX7_tallyLetters 28 = .ok (.iload_n 1, 1) := by decide +kernel
theorem dX7_tallyLetters_29 : decode cX7_tallyLetters 29 = .ok (.invokevirtual 37, 3) := by decide +kernel
theorem dX7_tallyLetters_32 : decode cX7_tallyLetters 32 = .ok (.astore_n 2, 1) := by decide +kernel
theorem dX7_tallyLetters_33 : decode cX7_tallyLetters 33 = .ok (.aload_n 2, 1) := by decide +kernel
theorem dX7_tallyLetters_34 : decode cX7_tallyLetters 34 = .ok (.invokevirtual 41, 3) := by decide +kernel
theorem dX7_tallyLetters_37 : decode cX7_tallyLetters 37 = .ok (.iconst 0, 1) := by decide +kernel
theorem dX7_tallyLetters_38 : decode cX7_tallyLetters 38 = .ok (.istore_n 3, 1) := by decide +kernel
theorem dX7_tallyLetters_39 : decode cX7_tallyLetters 39 = .ok (.iload_n 3, 1) := by decide +kernel
theorem dX7_tallyLetters_40 : decode cX7_tallyLetters 40 = .ok (.bipush 30, 2) := by decide +kernel
theorem dX7_tallyLetters_42 : decode cX7_tallyLetters 42 = .ok (.if_icmp .ge 51, 3) := by decide +kernel
theorem dX7_tallyLetters_45 : decode cX7_tallyLetters 45 = .ok (.aload_n 2, 1) := by decide +kernel
theorem dX7_tallyLetters_46 : decode cX7_tallyLetters 46 = .ok (.iload_n 3, 1) := by decide +kernel
theorem dX7_tallyLetters_47 : decode cX7_tallyLetters 47 = .ok (.invokevirtual 56, 3) := by decide +kernel
theorem dX7_tallyLetters_50 : decode cX7_tallyLetters 50 = .ok (.istore 4, 2) := by decide +kernel
theorem dX7_tallyLetters_52 : decode cX7_tallyLetters 52 = .ok (.iload 4, 2) := by decide +kernel
theorem dX7_tallyLetters_54 : decode cX7_tallyLetters 54 = .ok (.bipush 30, 2) := by decide +kernel
theorem dX7_tallyLetters_56 : decode cX7_tallyLetters 56 = .ok (.imul, 1) := by decide +kernel
theorem dX7_tallyLetters_57 : decode cX7_tallyLetters 57 = .ok (.iload_n 3, 1) := by decide +kernel
theorem dX7_tallyLetters_58 : decode cX7_tallyLetters 58 = .ok (.iadd, 1) := by decide +kernel
theorem dX7_tallyLetters_59 : decode cX7_tallyLetters 59 = .ok (.istore 5, 2) := by decide +kernel
theorem dX7_tallyLetters_61 : decode cX7_tallyLetters 61 = .ok (.iload 4, 2) := by decide +kernel
theorem dX7_tallyLetters_63 : decode cX7_tallyLetters 63 = .ok (.ifCond .lt 24, 3) := by decide +kernel
theorem dX7_tallyLetters_66 : decode cX7_tallyLetters 66 = .ok (.iload 5, 2) := by decide +kernel
theorem dX7_tallyLetters_68 : decode cX7_tallyLetters 68 = .ok (.aload_n 0, 1) := by decide +kernel
theorem dX7_tallyLetters_69 : decode cX7_tallyLetters 69 = .ok (.getfield 9, 3) := by decide +kernel
theorem dX7_tallyLetters_72 : decode cX7_tallyLetters 72 = .ok (.arraylength, 1) := by decide +kernel
theorem dX7_tallyLetters_73 : decode cX7_tallyLetters 73 = .ok (.if_icmp .ge 14, 3) := by decide +kernel
theorem dX7_tallyLetters_76 : decode cX7_tallyLetters 76 = .ok (.aload_n 0, 1) := by decide +kernel
theorem dX7_tallyLetters_77 : decode cX7_tallyLetters 77 = .ok (.getfield 9, 3) := by decide +kernel
theorem dX7_tallyLetters_80 : decode cX7_tallyLetters 80 = .ok (.iload 5, 2) := by decide +kernel
theorem dX7_tallyLetters_82 : decode cX7_tallyLetters 82 = .ok (.dup2, 1) := by decide +kernel
theorem dX7_tallyLetters_83 : decode cX7_tallyLetters 83 = .ok (.iaload, 1) := by decide +kernel
theorem dX7_tallyLetters_84 : decode cX7_tallyLetters 84 = .ok (.iconst 1, 1) := by decide +kernel
theorem dX7_tallyLetters_85 : decode cX7_tallyLetters 85 = .ok (.iadd, 1) := by decide +kernel
theorem dX7_tallyLetters_86 : decode cX7_tallyLetters 86 = .ok (.iastore, 1) := by decide +kernel
theorem dX7_tallyLetters_87 : decode cX7_tallyLetters 87 = .ok (.iinc 3 1, 3) := by decide +kernel
theorem dX7_tallyLetters_90 : decode cX7_tallyLetters 90 = .ok (.goto (-51), 3) := by decide +kernel
theorem dX7_tallyLetters_93 : decode cX7_tallyLetters 93 = .ok (.iinc 1 1, 3) := by decide +kernel
theorem dX7_tallyLetters_96 : decode cX7_tallyLetters 96 = .ok (.goto (-86), 3) := by decide +kernel
theorem dX7_tallyLetters_99 : decode cX7_tallyLetters 99 = .ok (.return_, 1) := by decide +kernel
theorem dX7_findChord_0 : decode cX7_findChord 0 = .ok (.aload_n 0, 1) := by decide +kernel
theorem dX7_findChord_1 : decode cX7_findChord 1 = .ok (.iconst (-1), 1) := by decide +kernel
theorem dX7_findChord_2 : decode cX7_findChord 2 = .ok (.putfield 60, 3) := by decide +kernel
theorem dX7_findChord_5 : decode cX7_findChord 5 = .ok (.aload_n 0, 1) := by decide +kernel
theorem dX7_findChord_6 : decode cX7_findChord 6 = .ok (.iconst (-1), 1) := by decide +kernel
theorem dX7_findChord_7 : decode cX7_findChord 7 = .ok (.putfield 63, 3) := by decide +kernel
theorem dX7_findChord_10 : decode cX7_findChord 10 = .ok (.iconst 0, 1) := by decide +kernel
theorem dX7_findChord_11 : decode cX7_findChord 11 = .ok (.istore_n 2, 1) := by decide +kernel
theorem dX7_findChord_12 : decode cX7_findChord 12 = .ok (.iload_n 2, 1) := by decide +kernel
theorem dX7_findChord_13 : decode cX7_findChord 13 = .ok (.bipush 30, 2) := by decide +kernel
theorem dX7_findChord_15 : decode cX7_findChord 15 = .ok (.if_icmp .ge 46, 3) := by decide +kernel
theorem dX7_findChord_18 : decode cX7_findChord 18 = .ok (.aload_n 0, 1) := by decide +kernel
theorem dX7_findChord_19 : decode cX7_findChord 19 = .ok (.getfield 9, 3) := by decide +kernel
theorem dX7_findChord_22 : decode cX7_findChord 22 = .ok (.iload_n 1, 1) := by decide +kernel
theorem dX7_findChord_23 : decode cX7_findChord 23 = .ok (.bipush 30, 2) := by decide +kernel
theorem dX7_findChord_25 : decode cX7_findChord 25 = .ok (.imul, 1) := by decide +kernel
theorem dX7_findChord_26 : decode cX7_findChord 26 = .ok (.iload_n 2, 1) := by decide +kernel
theorem dX7_findChord_27 : decode cX7_findChord 27 = .ok (.iadd, 1) := by decide +kernel
theorem dX7_findChord_28 : decode cX7_findChord 28 = .ok (.iconst 0, 1) := by decide +kernel
theorem dX7_findChord_29 : decode cX7_findChord 29 = .ok (.invokestatic 66, 3) := by decide +kernel
theorem dX7_findChord_32 : decode cX7_findChord 32 = .ok (.istore_n 3, 1) := by decide +kernel
theorem dX7_findChord_33 : decode cX7_findChord 33 = .ok (.iload_n 3, 1) := by decide +kernel
theorem dX7_findChord_34 : decode cX7_findChord 34 = .ok (.aload_n 0, 1) := by decide +kernel
theorem dX7_findChord_35 : decode cX7_findChord 35 = .ok (.getfield 63, 3) := by decide +kernel
theorem dX7_findChord_38 : decode cX7_findChord 38 = .ok (.iconst 0, 1) := by decide +kernel
theorem dX7_findChord_39 : decode cX7_findChord 39 = .ok (.invokestatic 70, 3) := by decide +kernel
theorem dX7_findChord_42 : decode cX7_findChord 42 = .ok (.if_icmp .le 13, 3) := by decide +kernel
theorem dX7_findChord_45 : decode cX7_findChord 45 = .ok (.aload_n 0, 1) := by decide +kernel
theorem dX7_findChord_46 : decode cX7_findChord 46 = .ok (.iload_n 2, 1) := by decide +kernel
theorem dX7_findChord_47 : decode cX7_findChord 47 = .ok (.putfield 60, 3) := by decide +kernel
theorem dX7_findChord_50 : decode cX7_findChord 50 = .ok (.aload_n 0, 1) := by decide +kernel
theorem dX7_findChord_51 : decode cX7_findChord 51 = .ok (.iload_n 3, 1) := by decide +kernel
theorem dX7_findChord_52 : decode cX7_findChord 52 = .ok (.putfield 63, 3) := by decide +kernel
theorem dX7_findChord_55 : decode cX7_findChord 55 = .ok (.iinc 2 1, 3) := by decide +kernel
theorem dX7_findChord_58 : decode cX7_findChord 58 = .ok (.goto (-46), 3) := by decide +kernel
theorem dX7_findChord_61 : decode cX7_findChord 61 = .ok (.return_, 1) := by decide +kernel
theorem dX7_silentNights_0 : decode cX7_silentNights 0 = .ok (.iconst 0, 1) := by decide +kernel
theorem dX7_silentNights_1 : decode cX7_silentNights 1 = .ok (.istore_n 1, 1) := by decide +kernel
theorem dX7_silentNights_2 : decode cX7_silentNights 2 = .ok (.iconst 0, 1) := by decide +kernel
theorem dX7_silentNights_3 : decode cX7_silentNights 3 = .ok (.istore_n 2, 1) := by decide +kernel
theorem dX7_silentNights_4 : decode cX7_silentNights 4 = .ok (.iload_n 2, 1) := by decide +kernel
theorem dX7_silentNights_5 : decode cX7_silentNights 5 = .ok (.aload_n 0, 1) := by decide +kernel
theorem dX7_silentNights_6 : decode cX7_silentNights 6 = .ok (.getfield 15, 3) := by decide +kernel
theorem dX7_silentNights_9 : decode cX7_silentNights 9 = .ok (.getfield 26, 3) := by decide +kernel
theorem dX7_silentNights_12 : decode cX7_silentNights 12 = .ok (.getfield 32, 3) := by decide +kernel
theorem dX7_silentNights_15 : decode cX7_silentNights 15 = .ok (.if_icmp .ge 29, 3) := by decide +kernel
theorem dX7_silentNights_18 : decode cX7_silentNights 18 = .ok (.aload_n 0, 1) := by decide +kernel
theorem dX7_silentNights_19 : decode cX7_silentNights 19 = .ok (.getfield 15, 3) := by decide +kernel
theorem dX7_silentNights_22 : decode cX7_silentNights 22 = .ok (.iload_n 2, 1) := by decide +kernel
theorem dX7_silentNights_23 : decode cX7_silentNights 23 = .ok (.invokevirtual 37, 3) := by decide +kernel
theorem dX7_silentNights_26 : decode cX7_silentNights 26 = .ok (.astore_n 3, 1) := by decide +kernel
theorem dX7_silentNights_27 : decode cX7_silentNights 27 = .ok (.aload_n 3, 1) := by decide +kernel
theorem dX7_silentNights_28 : decode cX7_silentNights 28 = .ok (.invokevirtual 41, 3) := by decide +kernel
theorem dX7_silentNights_31 : decode cX7_silentNights 31 = .ok (.iload_n 1, 1) := by decide +kernel
theorem dX7_silentNights_32 : decode cX7_silentNights 32 = .ok (.aload_n 3, 1) := by decide +kernel
theorem dX7_silentNights_33 : decode cX7_silentNights 33 = .ok (.getfield 76, 3) := by decide +kernel
theorem dX7_silentNights_36 : decode cX7_silentNights 36 = .ok (.ior, 1) := by decide +kernel
theorem dX7_silentNights_37 : decode cX7_silentNights 37 = .ok (.istore_n 1, 1) := by decide +kernel
theorem dX7_silentNights_38 : decode cX7_silentNights 38 = .ok (.iinc 2 1, 3) := by decide +kernel
theorem dX7_silentNights_41 : decode cX7_silentNights 41 = .ok (.goto (-37), 3) := by decide +kernel
theorem dX7_silentNights_44 : decode cX7_silentNights 44 = .ok (.ldc 79, 2) := by decide +kernel
theorem dX7_silentNights_46 : decode cX7_silentNights 46 = .ok (.iload_n 1, 1) := by decide +kernel
theorem dX7_silentNights_47 : decode cX7_silentNights 47 = .ok (.iconst (-1), 1) := by decide +kernel
theorem dX7_silentNights_48 : decode cX7_silentNights 48 = .ok (.ixor, 1) := by decide +kernel
theorem dX7_silentNights_49 : decode cX7_silentNights 49 = .ok (.iand, 1) := by decide +kernel
theorem dX7_silentNights_50 : decode cX7_silentNights 50 = .ok (.ireturn, 1) := by decide +kernel
theorem dX7_eatenWheels_0 : decode cX7_eatenWheels 0 = .ok (.iconst 0, 1) := by decide +kernel
theorem dX7_eatenWheels_1 : decode cX7_eatenWheels 1 = .ok (.istore_n 1, 1) := by decide +kernel
theorem dX7_eatenWheels_2 : decode cX7_eatenWheels 2 = .ok (.iconst 0, 1) := by decide +kernel
theorem dX7_eatenWheels_3 : decode cX7_eatenWheels 3 = .ok (.istore_n 2, 1) := by decide +kernel
theorem dX7_eatenWheels_4 : decode cX7_eatenWheels 4 = .ok (.iload_n 2, 1) := by decide +kernel
theorem dX7_eatenWheels_5 : decode cX7_eatenWheels 5 = .ok (.aload_n 0, 1) := by decide +kernel
theorem dX7_eatenWheels_6 : decode cX7_eatenWheels 6 = .ok (.getfield 15, 3) := by decide +kernel
theorem dX7_eatenWheels_9 : decode cX7_eatenWheels 9 = .ok (.getfield 26, 3) := by decide +kernel
theorem dX7_eatenWheels_12 : decode cX7_eatenWheels 12 = .ok (.getfield 32, 3) := by decide +kernel
theorem dX7_eatenWheels_15 : decode cX7_eatenWheels 15 = .ok (.if_icmp .ge 37, 3) := by decide +kernel
theorem dX7_eatenWheels_18 : decode cX7_eatenWheels 18 = .ok (.aload_n 0, 1) := by decide +kernel
theorem dX7_eatenWheels_19 : decode cX7_eatenWheels 19 = .ok (.getfield 15, 3) := by decide +kernel
theorem dX7_eatenWheels_22 : decode cX7_eatenWheels 22 = .ok (.iload_n 2, 1) := by decide +kernel
theorem dX7_eatenWheels_23 : decode cX7_eatenWheels 23 = .ok (.invokevirtual 37, 3) := by decide +kernel
theorem dX7_eatenWheels_26 : decode cX7_eatenWheels 26 = .ok (.astore_n 3, 1) := by decide +kernel
theorem dX7_eatenWheels_27 : decode cX7_eatenWheels 27 = .ok (.aload_n 3, 1) := by decide +kernel
theorem dX7_eatenWheels_28 : decode cX7_eatenWheels 28 = .ok (.invokevirtual 41, 3) := by decide +kernel
theorem dX7_eatenWheels_31 : decode cX7_eatenWheels 31 = .ok (.iload_n 1, 1) := by decide +kernel
theorem dX7_eatenWheels_32 : decode cX7_eatenWheels 32 = .ok (.aload_n 3, 1) := by decide +kernel
theorem dX7_eatenWheels_33 : decode cX7_eatenWheels 33 = .ok (.getfield 80, 3) := by decide +kernel
theorem dX7_eatenWheels_36 : decode cX7_eatenWheels 36 = .ok (.ifCond .eq 7, 3) := by decide +kernel
theorem dX7_eatenWheels_39 : decode cX7_eatenWheels 39 = .ok (.iconst 1, 1) := by decide +kernel
theorem dX7_eatenWheels_40 : decode cX7_eatenWheels 40 = .ok (.goto 4, 3) := by decide +kernel
theorem dX7_eatenWheels_43 : decode cX7_eatenWheels 43 = .ok (.iconst 0, 1) := by decide +kernel
theorem dX7_eatenWheels_44 : decode cX7_eatenWheels 44 = .ok (.iadd, 1) := by decide +kernel
theorem dX7_eatenWheels_45 : decode cX7_eatenWheels 45 = .ok (.istore_n 1, 1) := by decide +kernel
theorem dX7_eatenWheels_46 : decode cX7_eatenWheels 46 = .ok (.iinc 2 1, 3) := by decide +kernel
theorem dX7_eatenWheels_49 : decode cX7_eatenWheels 49 = .ok (.goto (-45), 3) := by decide +kernel
theorem dX7_eatenWheels_52 : decode cX7_eatenWheels 52 = .ok (.iload_n 1, 1) := by decide +kernel
theorem dX7_eatenWheels_53 : decode cX7_eatenWheels 53 = .ok (.ireturn, 1) := by decide +kernel
theorem dX8_init_0 : decode cX8_init 0 = .ok (.aload_n 0, 1) := by decide +kernel
theorem dX8_init_1 : decode cX8_init 1 = .ok (.invokespecial 3, 3) := by decide +kernel
theorem dX8_init_4 : decode cX8_init 4 = .ok (.aload_n 0, 1) := by decide +kernel
theorem dX8_init_5 : decode cX8_init 5 = .ok (.iload_n 1, 1) := by decide +kernel
theorem dX8_init_6 : decode cX8_init 6 = .ok (.iconst 0, 1) := by decide +kernel
theorem dX8_init_7 : decode cX8_init 7 = .ok (.invokestatic 9, 3) := by decide +kernel
theorem dX8_init_10 : decode cX8_init 10 = .ok (.newarray .int, 2) := by decide +kernel
theorem dX8_init_12 : decode cX8_init 12 = .ok (.putfield 15, 3) := by decide +kernel
theorem dX8_init_15 : decode cX8_init 15 = .ok (.return_, 1) := by decide +kernel
theorem dX8_isFull_0 : decode cX8_isFull 0 = .ok (.aload_n 0, 1) := by decide +kernel
theorem dX8_isFull_1 : decode cX8_isFull 1 = .ok (.getfield 21, 3) := by decide +kernel
theorem dX8_isFull_4 : decode cX8_isFull 4 = .ok (.aload_n 0, 1) := by decide +kernel
theorem dX8_isFull_5 : decode cX8_isFull 5 = .ok (.getfield 15, 3) := by decide +kernel
theorem dX8_isFull_8 : decode cX8_isFull 8 = .ok (.arraylength, 1) := by decide +kernel
theorem dX8_isFull_9 : decode cX8_isFull 9 = .ok (.if_icmp .lt 7, 3) := by decide +kernel
theorem dX8_isFull_12 : decode cX8_isFull 12 = .ok (.iconst 1, 1) := by decide +kernel
theorem dX8_isFull_13 : decode cX8_isFull 13 = .ok (.goto 4, 3) := by decide +kernel
theorem dX8_isFull_16 : decode cX8_isFull 16 = .ok (.iconst 0, 1) := by decide +kernel
theorem dX8_isFull_17 : decode cX8_isFull 17 = .ok (.ireturn, 1) := by decide +kernel
theorem dX8_append_0 : decode cX8_append 0 = .ok (.aload_n 0, 1) := by decide +kernel
theorem dX8_append_1 : decode cX8_append 1 = .ok (.getfield 21, 3) := by decide +kernel
theorem dX8_append_4 : decode cX8_append 4 = .ok (.ifCond .lt 35, 3) := by decide +kernel
theorem dX8_append_7 : decode cX8_append 7 = .ok (.aload_n 0, 1) := by decide +kernel
theorem dX8_append_8 : decode cX8_append 8 = .ok (.getfield 21, 3) := by decide +kernel
theorem dX8_append_11 : decode cX8_append 11 = .ok (.aload_n 0, 1) := by decide +kernel
theorem dX8_append_12 : decode cX8_append 12 = .ok (.getfield 15, 3) := by decide +kernel
theorem dX8_append_15 : decode cX8_append 15 = .ok (.arraylength, 1) := by decide +kernel
theorem dX8_append_16 : decode cX8_append 16 = .ok (.if_icmp .ge 23, 3) := by decide +kernel
theorem dX8_append_19 : decode cX8_append 19 = .ok (.aload_n 0, 1) := by decide +kernel
theorem dX8_append_20 : decode cX8_append 20 = .ok (.getfield 15, 3) := by decide +kernel
theorem dX8_append_23 : decode cX8_append 23 = .ok (.aload_n 0, 1) := by decide +kernel
theorem dX8_append_24 : decode cX8_append 24 = .ok (.getfield 21, 3) := by decide +kernel
theorem dX8_append_27 : decode cX8_append 27 = .ok (.iload_n 1, 1) := by decide +kernel
theorem dX8_append_28 : decode cX8_append 28 = .ok (.iastore, 1) := by decide +kernel
theorem dX8_append_29 : decode cX8_append 29 = .ok (.aload_n 0, 1) := by decide +kernel
theorem dX8_append_30 : decode cX8_append 30 = .ok (.dup, 1) := by decide +kernel
theorem dX8_append_31 : decode cX8_append 31 = .ok (.getfield 21, 3) := by decide +kernel
theorem dX8_append_34 : decode cX8_append 34 = .ok (.iconst 1, 1) := by decide +kernel
theorem dX8_append_35 : decode cX8_append 35 = .ok (.iadd, 1) := by decide +kernel
theorem dX8_append_36 : decode cX8_append 36 = .ok (.putfield 21, 3) := by decide +kernel
theorem dX8_append_39 : decode cX8_append 39 = .ok (.return_, 1) := by decide +kernel
theorem dX8_byteAt_0 : decode cX8_byteAt 0 = .ok (.aload_n 0, 1) := by decide +kernel
theorem dX8_byteAt_1 : decode cX8_byteAt 1 = .ok (.getfield 15, 3) := by decide +kernel
theorem dX8_byteAt_4 : decode cX8_byteAt 4 = .ok (.iload_n 1, 1) := by decide +kernel
theorem dX8_byteAt_5 : decode cX8_byteAt 5 = .ok (.iconst (-1), 1) := by decide +kernel
theorem dX8_byteAt_6 : decode cX8_byteAt 6 = .ok (.invokestatic 25, 3) := by decide +kernel
theorem dX8_byteAt_9 : decode cX8_byteAt 9 = .ok (.ireturn, 1) := by decide +kernel
theorem dJ6_bitCount_0f7a4_0 : decode cJ6_bitCount_0f7a4 0 = .ok (.iload_n 0, 1) := by decide +kernel
theorem dJ6_bitCount_0f7a4_1 : decode cJ6_bitCount_0f7a4 1 = .ok (.iload_n 0, 1) := by decide +kernel
theorem dJ6_bitCount_0f7a4_2 : decode cJ6_bitCount_0f7a4 2 = .ok (.iconst 1, 1) := by decide +kernel
theorem dJ6_bitCount_0f7a4_3 : decode cJ6_bitCount_0f7a4 3 = .ok (.iushr, 1) := by decide +kernel
theorem dJ6_bitCount_0f7a4_4 : decode cJ6_bitCount_0f7a4 4 = .ok (.ldc_w 265, 3) := by decide +kernel
theorem dJ6_bitCount_0f7a4_7 : decode cJ6_bitCount_0f7a4 7 = .ok (.iand, 1) := by decide +kernel
theorem dJ6_bitCount_0f7a4_8 : decode cJ6_bitCount_0f7a4 8 = .ok (.isub, 1) := by decide +kernel
theorem dJ6_bitCount_0f7a4_9 : decode cJ6_bitCount_0f7a4 9 = .ok (.istore_n 0, 1) := by decide +kernel
theorem dJ6_bitCount_0f7a4_10 : decode cJ6_bitCount_0f7a4 10 = .ok (.iload_n 0, 1) := by decide +kernel
theorem dJ6_bitCount_0f7a4_11 : decode cJ6_bitCount_0f7a4 11 = .ok (.ldc_w 266, 3) := by decide +kernel
theorem dJ6_bitCount_0f7a4_14 : decode cJ6_bitCount_0f7a4 14 = .ok (.iand, 1) := by decide +kernel
theorem dJ6_bitCount_0f7a4_15 : decode cJ6_bitCount_0f7a4 15 = .ok (.iload_n 0, 1) := by decide +kernel
theorem dJ6_bitCount_0f7a4_16 : decode cJ6_bitCount_0f7a4 16 = .ok (.iconst 2, 1) := by decide +kernel
theorem dJ6_bitCount_0f7a4_17 : decode cJ6_bitCount_0f7a4 17 = .ok (.iushr, 1) := by decide +kernel
theorem dJ6_bitCount_0f7a4_18 : decode cJ6_bitCount_0f7a4 18 = .ok (.ldc_w 266, 3) := by decide +kernel
theorem dJ6_bitCount_0f7a4_21 : decode cJ6_bitCount_0f7a4 21 = .ok (.iand, 1) := by decide +kernel
theorem dJ6_bitCount_0f7a4_22 : decode cJ6_bitCount_0f7a4 22 = .ok (.iadd, 1) := by decide +kernel
theorem dJ6_bitCount_0f7a4_23 : decode cJ6_bitCount_0f7a4 23 = .ok (.istore_n 0, 1) := by decide +kernel
theorem dJ6_bitCount_0f7a4_24 : decode cJ6_bitCount_0f7a4 24 = .ok (.iload_n 0, 1) := by decide +kernel
theorem dJ6_bitCount_0f7a4_25 : decode cJ6_bitCount_0f7a4 25 = .ok (.iload_n 0, 1) := by decide +kernel
theorem dJ6_bitCount_0f7a4_26 : decode cJ6_bitCount_0f7a4 26 = .ok (.iconst 4, 1) := by decide +kernel
theorem dJ6_bitCount_0f7a4_27 : decode cJ6_bitCount_0f7a4 27 = .ok (.iushr, 1) := by decide +kernel
theorem dJ6_bitCount_0f7a4_28 : decode cJ6_bitCount_0f7a4 28 = .ok (.iadd, 1) := by decide +kernel
theorem dJ6_bitCount_0f7a4_29 : decode cJ6_bitCount_0f7a4 29 = .ok (.ldc_w 267, 3) := by decide +kernel
theorem dJ6_bitCount_0f7a4_32 : decode cJ6_bitCount_0f7a4 32 = .ok (.iand, 1) := by decide +kernel
theorem dJ6_bitCount_0f7a4_33 : decode cJ6_bitCount_0f7a4 33 = .ok (.istore_n 0, 1) := by decide +kernel
theorem dJ6_bitCount_0f7a4_34 : decode cJ6_bitCount_0f7a4 34 = .ok (.iload_n 0, 1) := by decide +kernel
theorem dJ6_bitCount_0f7a4_35 : decode cJ6_bitCount_0f7a4 35 = .ok (.iload_n 0, 1) := by decide +kernel
theorem dJ6_bitCount_0f7a4_36 : decode cJ6_bitCount_0f7a4 36 = .ok (.bipush 8, 2) := by decide +kernel
theorem dJ6_bitCount_0f7a4_38 : decode cJ6_bitCount_0f7a4 38 = .ok (.iushr, 1) := by decide +kernel
theorem dJ6_bitCount_0f7a4_39 : decode cJ6_bitCount_0f7a4 39 = .ok (.iadd, 1) := by decide +kernel
theorem dJ6_bitCount_0f7a4_40 : decode cJ6_bitCount_0f7a4 40 = .ok (.istore_n 0, 1) := by decide +kernel
theorem dJ6_bitCount_0f7a4_41 : decode cJ6_bitCount_0f7a4 41 = .ok (.iload_n 0, 1) := by decide +kernel
theorem dJ6_bitCount_0f7a4_42 : decode cJ6_bitCount_0f7a4 42 = .ok (.iload_n 0, 1) := by decide +kernel
theorem dJ6_bitCount_0f7a4_43 : decode cJ6_bitCount_0f7a4 43 = .ok (.bipush 16, 2) := by decide +kernel
theorem dJ6_bitCount_0f7a4_45 : decode cJ6_bitCount_0f7a4 45 = .ok (.iushr, 1) := by decide +kernel
theorem dJ6_bitCount_0f7a4_46 : decode cJ6_bitCount_0f7a4 46 = .ok (.iadd, 1) := by decide +kernel
theorem dJ6_bitCount_0f7a4_47 : decode cJ6_bitCount_0f7a4 47 = .ok (.istore_n 0, 1) := by decide +kernel
theorem dJ6_bitCount_0f7a4_48 : decode cJ6_bitCount_0f7a4 48 = .ok (.iload_n 0, 1) := by decide +kernel
theorem dJ6_bitCount_0f7a4_49 : decode cJ6_bitCount_0f7a4 49 = .ok (.bipush 63, 2) := by decide +kernel
theorem dJ6_bitCount_0f7a4_51 : decode cJ6_bitCount_0f7a4 51 = .ok (.iand, 1) := by decide +kernel
theorem dJ6_bitCount_0f7a4_52 : decode cJ6_bitCount_0f7a4 52 = .ok (.ireturn, 1) := by decide +kernel
theorem dJ9_max_7cf53_0 : decode cJ9_max_7cf53 0 = .ok (.iload_n 0, 1) := by decide +kernel
theorem dJ9_max_7cf53_1 : decode cJ9_max_7cf53 1 = .ok (.iload_n 1, 1) := by decide +kernel
theorem dJ9_max_7cf53_2 : decode cJ9_max_7cf53 2 = .ok (.if_icmp .lt 7, 3) := by decide +kernel
theorem dJ9_max_7cf53_5 : decode cJ9_max_7cf53 5 = .ok (.iload_n 0, 1) := by decide +kernel
theorem dJ9_max_7cf53_6 : decode cJ9_max_7cf53 6 = .ok (.goto 4, 3) := by decide +kernel
theorem dJ9_max_7cf53_9 : decode cJ9_max_7cf53 9 = .ok (.iload_n 1, 1) := by decide +kernel
theorem dJ9_max_7cf53_10 : decode cJ9_max_7cf53 10 = .ok (.ireturn, 1) := by decide +kernel
theorem dJ9_min_7cf53_0 : decode cJ9_min_7cf53 0 = .ok (.iload_n 0, 1) := by decide +kernel
