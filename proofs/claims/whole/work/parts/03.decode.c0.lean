theorem dX11_init_0 : decode cX11_init 0 = .ok (.aload_n 0, 1) := by decide +kernel
theorem dX11_init_1 : decode cX11_init 1 = .ok (.invokespecial 3, 3) := by decide +kernel
theorem dX11_init_4 : decode cX11_init 4 = .ok (.aload_n 0, 1) := by decide +kernel
theorem dX11_init_5 : decode cX11_init 5 = .ok (.new 9, 3) := by decide +kernel
theorem dX11_init_8 : decode cX11_init 8 = .ok (.dup, 1) := by decide +kernel
theorem dX11_init_9 : decode cX11_init 9 = .ok (.invokespecial 11, 3) := by decide +kernel
theorem dX11_init_12 : decode cX11_init 12 = .ok (.putfield 12, 3) := by decide +kernel
theorem dX11_init_15 : decode cX11_init 15 = .ok (.aload_n 0, 1) := by decide +kernel
theorem dX11_init_16 : decode cX11_init 16 = .ok (.new 16, 3) := by decide +kernel
theorem dX11_init_19 : decode cX11_init 19 = .ok (.dup, 1) := by decide +kernel
theorem dX11_init_20 : decode cX11_init 20 = .ok (.aload_n 0, 1) := by decide +kernel
theorem dX11_init_21 : decode cX11_init 21 = .ok (.getfield 12, 3) := by decide +kernel
theorem dX11_init_24 : decode cX11_init 24 = .ok (.invokespecial 18, 3) := by decide +kernel
theorem dX11_init_27 : decode cX11_init 27 = .ok (.putfield 21, 3) := by decide +kernel
theorem dX11_init_30 : decode cX11_init 30 = .ok (.aload_n 0, 1) := by decide +kernel
theorem dX11_init_31 : decode cX11_init 31 = .ok (.new 25, 3) := by decide +kernel
theorem dX11_init_34 : decode cX11_init 34 = .ok (.dup, 1) := by decide +kernel
theorem dX11_init_35 : decode cX11_init 35 = .ok (.aload_n 0, 1) := by decide +kernel
theorem dX11_init_36 : decode cX11_init 36 = .ok (.getfield 12, 3) := by decide +kernel
theorem dX11_init_39 : decode cX11_init 39 = .ok (.invokespecial 27, 3) := by decide +kernel
theorem dX11_init_42 : decode cX11_init 42 = .ok (.putfield 28, 3) := by decide +kernel
theorem dX11_init_45 : decode cX11_init 45 = .ok (.aload_n 0, 1) := by decide +kernel
theorem dX11_init_46 : decode cX11_init 46 = .ok (.new 32, 3) := by decide +kernel
theorem dX11_init_49 : decode cX11_init 49 = .ok (.dup, 1) := by decide +kernel
theorem dX11_init_50 : decode cX11_init 50 = .ok (.aload_n 0, 1) := by decide +kernel
theorem dX11_init_51 : decode cX11_init 51 = .ok (.getfield 12, 3) := by decide +kernel
theorem dX11_init_54 : decode cX11_init 54 = .ok (.invokespecial 34, 3) := by decide +kernel
theorem dX11_init_57 : decode cX11_init 57 = .ok (.putfield 35, 3) := by decide +kernel
theorem dX11_init_60 : decode cX11_init 60 = .ok (.aload_n 0, 1) := by decide +kernel
theorem dX11_init_61 : decode cX11_init 61 = .ok (.new 39, 3) := by decide +kernel
theorem dX11_init_64 : decode cX11_init 64 = .ok (.dup, 1) := by decide +kernel
theorem dX11_init_65 : decode cX11_init 65 = .ok (.aload_n 0, 1) := by decide +kernel
theorem dX11_init_66 : decode cX11_init 66 = .ok (.getfield 12, 3) := by decide +kernel
theorem dX11_init_69 : decode cX11_init 69 = .ok (.invokespecial 41, 3) := by decide +kernel
theorem dX11_init_72 : decode cX11_init 72 = .ok (.putfield 42, 3) := by decide +kernel
theorem dX11_init_75 : decode cX11_init 75 = .ok (.aload_n 0, 1) := by decide +kernel
theorem dX11_init_76 : decode cX11_init 76 = .ok (.iconst 4, 1) := by decide +kernel
theorem dX11_init_77 : decode cX11_init 77 = .ok (.anewarray 46, 3) := by decide +kernel
theorem dX11_init_80 : decode cX11_init 80 = .ok (.putfield 48, 3) := by decide +kernel
theorem dX11_init_83 : decode cX11_init 83 = .ok (.iconst 0, 1) := by decide +kernel
theorem dX11_init_84 : decode cX11_init 84 = .ok (.istore_n 1, 1) := by decide +kernel
theorem dX11_init_85 : decode cX11_init 85 = .ok (.iload_n 1, 1) := by decide +kernel
theorem dX11_init_86 : decode cX11_init 86 = .ok (.aload_n 0, 1) := by decide +kernel
theorem dX11_init_87 : decode cX11_init 87 = .ok (.getfield 48, 3) := by decide +kernel
theorem dX11_init_90 : decode cX11_init 90 = .ok (.arraylength, 1) := by decide +kernel
theorem dX11_init_91 : decode cX11_init 91 = .ok (.if_icmp .ge 22, 3) := by decide +kernel
theorem dX11_init_94 : decode cX11_init 94 = .ok (.aload_n 0, 1) := by decide +kernel
theorem dX11_init_95 : decode cX11_init 95 = .ok (.getfield 48, 3) := by decide +kernel
theorem dX11_init_98 : decode cX11_init 98 = .ok (.iload_n 1, 1) := by decide +kernel
theorem dX11_init_99 : decode cX11_init 99 = .ok (.new 46, 3) := by decide +kernel
theorem dX11_init_102 : decode cX11_init 102 = .ok (.dup, 1) := by decide +kernel
theorem dX11_init_103 : decode cX11_init 103 = .ok (.invokespecial 52, 3) := by decide +kernel
theorem dX11_init_106 : decode cX11_init 106 = .ok (.aastore, 1) := by decide +kernel
theorem dX11_init_107 : decode cX11_init 107 = .ok (.iinc 1 1, 3) := by decide +kernel
theorem dX11_init_110 : decode cX11_init 110 = .ok (.goto (-25), 3) := by decide +kernel
theorem dX11_init_113 : decode cX11_init 113 = .ok (.return_, 1) := by decide +kernel
theorem dX11_type_0 : decode cX11_type 0 = .ok (.iload_n 1, 1) := by decide +kernel
theorem dX11_type_1 : decode cX11_type 1 = .ok (.invokestatic 53, 3) := by decide +kernel
theorem dX11_type_4 : decode cX11_type 4 = .ok (.ifCond .eq 14, 3) := by decide +kernel
theorem dX11_type_7 : decode cX11_type 7 = .ok (.iload_n 2, 1) := by decide +kernel
theorem dX11_type_8 : decode cX11_type 8 = .ok (.ifCond .lt 10, 3) := by decide +kernel
theorem dX11_type_11 : decode cX11_type 11 = .ok (.iload_n 2, 1) := by decide +kernel
theorem dX11_type_12 : decode cX11_type 12 = .ok (.sipush 255, 3) := by decide +kernel
theorem dX11_type_15 : decode cX11_type 15 = .ok (.if_icmp .le 6, 3) := by decide +kernel
theorem dX11_type_18 : decode cX11_type 18 = .ok (.bipush (-2), 2) := by decide +kernel
theorem dX11_type_20 : decode cX11_type 20 = .ok (.ireturn, 1) := by decide +kernel
theorem dX11_type_21 : decode cX11_type 21 = .ok (.aload_n 0, 1) := by decide +kernel
theorem dX11_type_22 : decode cX11_type 22 = .ok (.getfield 12, 3) := by decide +kernel
theorem dX11_type_25 : decode cX11_type 25 = .ok (.iload_n 1, 1) := by decide +kernel
theorem dX11_type_26 : decode cX11_type 26 = .ok (.invokevirtual 57, 3) := by decide +kernel
theorem dX11_type_29 : decode cX11_type 29 = .ok (.astore_n 3, 1) := by decide +kernel
theorem dX11_type_30 : decode cX11_type 30 = .ok (.aload_n 3, 1) := by decide +kernel
theorem dX11_type_31 : decode cX11_type 31 = .ok (.invokevirtual 61, 3) := by decide +kernel
theorem dX11_type_34 : decode cX11_type 34 = .ok (.ifCond .eq 6, 3) := by decide +kernel
theorem dX11_type_37 : decode cX11_type 37 = .ok (.bipush (-4), 2) := by decide +kernel
theorem dX11_type_39 : decode cX11_type 39 = .ok (.ireturn, 1) := by decide +kernel
theorem dX11_type_40 : decode cX11_type 40 = .ok (.aload_n 3, 1) := by decide +kernel
theorem dX11_type_41 : decode cX11_type 41 = .ok (.iload_n 2, 1) := by decide +kernel
theorem dX11_type_42 : decode cX11_type 42 = .ok (.invokevirtual 67, 3) := by decide +kernel
theorem dX11_type_45 : decode cX11_type 45 = .ok (.aload_n 0, 1) := by decide +kernel
theorem dX11_type_46 : decode cX11_type 46 = .ok (.getfield 12, 3) := by decide +kernel
theorem dX11_type_49 : decode cX11_type 49 = .ok (.iload_n 1, 1) := by decide +kernel
theorem dX11_type_50 : decode cX11_type 50 = .ok (.invokevirtual 71, 3) := by decide +kernel
theorem dX11_type_53 : decode cX11_type 53 = .ok (.aload_n 3, 1) := by decide +kernel
theorem dX11_type_54 : decode cX11_type 54 = .ok (.getfield 74, 3) := by decide +kernel
theorem dX11_type_57 : decode cX11_type 57 = .ok (.ireturn, 1) := by decide +kernel
theorem dX11_wipe_0 : decode cX11_wipe 0 = .ok (.iload_n 1, 1) := by decide +kernel
theorem dX11_wipe_1 : decode cX11_wipe 1 = .ok (.invokestatic 53, 3) := by decide +kernel
theorem dX11_wipe_4 : decode cX11_wipe 4 = .ok (.ifCond .ne 6, 3) := by decide +kernel
theorem dX11_wipe_7 : decode cX11_wipe 7 = .ok (.bipush (-2), 2) := by decide +kernel
theorem dX11_wipe_9 : decode cX11_wipe 9 = .ok (.ireturn, 1) := by decide +kernel
theorem dX11_wipe_10 : decode cX11_wipe 10 = .ok (.aload_n 0, 1) := by decide +kernel
theorem dX11_wipe_11 : decode cX11_wipe 11 = .ok (.getfield 12, 3) := by decide +kernel
theorem dX11_wipe_14 : decode cX11_wipe 14 = .ok (.iload_n 1, 1) := by decide +kernel
theorem dX11_wipe_15 : decode cX11_wipe 15 = .ok (.invokevirtual 57, 3) := by decide +kernel
theorem dX11_wipe_18 : decode cX11_wipe 18 = .ok (.astore_n 2, 1) := by decide +kernel
theorem dX11_wipe_19 : decode cX11_wipe 19 = .ok (.aload_n 2, 1) := by decide +kernel
theorem dX11_wipe_20 : decode cX11_wipe 20 = .ok (.getfield 74, 3) := by decide +kernel
theorem dX11_wipe_23 : decode cX11_wipe 23 = .ok (.istore_n 3, 1) := by decide +kernel
theorem dX11_wipe_24 : decode cX11_wipe 24 = .ok (.aload_n 2, 1) := by decide +kernel
theorem dX11_wipe_25 : decode cX11_wipe 25 = .ok (.iconst 0, 1) := by decide +kernel
theorem dX11_wipe_26 : decode cX11_wipe 26 = .ok (.putfield 74, 3) := by decide +kernel
theorem dX11_wipe_29 : decode cX11_wipe 29 = .ok (.aload_n 0, 1) := by decide +kernel
theorem dX11_wipe_30 : decode cX11_wipe 30 = .ok (.getfield 12, 3) := by decide +kernel
theorem dX11_wipe_33 : decode cX11_wipe 33 = .ok (.iload_n 1, 1) := by decide +kernel
theorem dX11_wipe_34 : decode cX11_wipe 34 = .ok (.invokevirtual 71, 3) := by decide +kernel
theorem dX11_wipe_37 : decode cX11_wipe 37 = .ok (.iload_n 3, 1) := by decide +kernel
theorem dX11_wipe_38 : decode cX11_wipe 38 = .ok (.ireturn, 1) := by decide +kernel
theorem dX11_undo_0 : decode cX11_undo 0 = .ok (.iload_n 1, 1) := by decide +kernel
theorem dX11_undo_1 : decode cX11_undo 1 = .ok (.invokestatic 53, 3) := by decide +kernel
theorem dX11_undo_4 : decode cX11_undo 4 = .ok (.ifCond .ne 6, 3) := by decide +kernel
theorem dX11_undo_7 : decode cX11_undo 7 = .ok (.bipush (-2), 2) := by decide +kernel
theorem dX11_undo_9 : decode cX11_undo 9 = .ok (.ireturn, 1) := by decide +kernel
theorem dX11_undo_10 : decode cX11_undo 10 = .ok (.aload_n 0, 1) := by decide +kernel
theorem dX11_undo_11 : decode cX11_undo 11 = .ok (.getfield 12, 3) := by decide +kernel
theorem dX11_undo_14 : decode cX11_undo 14 = .ok (.iload_n 1, 1) := by decide +kernel
theorem dX11_undo_15 : decode cX11_undo 15 = .ok (.invokevirtual 57, 3) := by decide +kernel
theorem dX11_undo_18 : decode cX11_undo 18 = .ok (.astore_n 2, 1) := by decide +kernel
theorem dX11_undo_19 : decode cX11_undo 19 = .ok (.aload_n 2, 1) := by decide +kernel
theorem dX11_undo_20 : decode cX11_undo 20 = .ok (.getfield 74, 3) := by decide +kernel
theorem dX11_undo_23 : decode cX11_undo 23 = .ok (.ifCond .gt 6, 3) := by decide +kernel
theorem dX11_undo_26 : decode cX11_undo 26 = .ok (.bipush (-3), 2) := by decide +kernel
theorem dX11_undo_28 : decode cX11_undo 28 = .ok (.ireturn, 1) := by decide +kernel
theorem dX11_undo_29 : decode cX11_undo 29 = .ok (.aload_n 2, 1) := by decide +kernel
theorem dX11_undo_30 : decode cX11_undo 30 = .ok (.dup, 1) := by decide +kernel
theorem dX11_undo_31 : decode cX11_undo 31 = .ok (.getfield 74, 3) := by decide +kernel
theorem dX11_undo_34 : decode cX11_undo 34 = .ok (.iconst 1, 1) := by decide +kernel
theorem dX11_undo_35 : decode cX11_undo 35 = .ok (.isub, 1) := by decide +kernel
theorem dX11_undo_36 : decode cX11_undo 36 = .ok (.putfield 74, 3) := by decide +kernel
theorem dX11_undo_39 : decode cX11_undo 39 = .ok (.aload_n 0, 1) := by decide +kernel
theorem dX11_undo_40 : decode cX11_undo 40 = .ok (.getfield 12, 3) := by decide +kernel
theorem dX11_undo_43 : decode cX11_undo 43 = .ok (.iload_n 1, 1) := by decide +kernel
theorem dX11_undo_44 : decode cX11_undo 44 = .ok (.invokevirtual 71, 3) := by decide +kernel
theorem dX11_undo_47 : decode cX11_undo 47 = .ok (.aload_n 2, 1) := by decide +kernel
theorem dX11_undo_48 : decode cX11_undo 48 = .ok (.getfield 74, 3) := by decide +kernel
theorem dX11_undo_51 : decode cX11_undo 51 = .ok (.ireturn, 1) := by decide +kernel
theorem dX11_fault_0 : decode cX11_fault 0 = .ok (.iload_n 1, 1) := by decide +kernel
theorem dX11_fault_1 : decode cX11_fault 1 = .ok (.invokestatic 53, 3) := by decide +kernel
theorem dX11_fault_4 : decode cX11_fault 4 = .ok (.ifCond .ne 6, 3) := by decide +kernel
theorem dX11_fault_7 : decode cX11_fault 7 = .ok (.bipush (-2), 2) := by decide +kernel
theorem dX11_fault_9 : decode cX11_fault 9 = .ok (.ireturn, 1) := by decide +kernel
theorem dX11_fault_10 : decode cX11_fault 10 = .ok (.iload_n 1, 1) := by decide +kernel
theorem dX11_fault_11 : decode cX11_fault 11 = .ok (.ifCond .ne 16, 3) := by decide +kernel
theorem dX11_fault_14 : decode cX11_fault 14 = .ok (.aload_n 0, 1) := by decide +kernel
theorem dX11_fault_15 : decode cX11_fault 15 = .ok (.getfield 12, 3) := by decide +kernel
theorem dX11_fault_18 : decode cX11_fault 18 = .ok (.getfield 78, 3) := by decide +kernel
theorem dX11_fault_21 : decode cX11_fault 21 = .ok (.getfield 82, 3) := by decide +kernel
theorem dX11_fault_24 : decode cX11_fault 24 = .ok (.goto 13, 3) := by decide +kernel
theorem dX11_fault_27 : decode cX11_fault 27 = .ok (.aload_n 0, 1) := by decide +kernel
theorem dX11_fault_28 : decode cX11_fault 28 = .ok (.getfield 12, 3) := by decide +kernel
theorem dX11_fault_31 : decode cX11_fault 31 = .ok (.getfield 87, 3) := by decide +kernel
theorem dX11_fault_34 : decode cX11_fault 34 = .ok (.getfield 91, 3) := by decide +kernel
theorem dX11_fault_37 : decode cX11_fault 37 = .ok (.ireturn, 1) := by decide +kernel
theorem dX11_wheel_0 : decode cX11_wheel 0 = .ok (.aload_n 0, 1) := by decide +kernel
theorem dX11_wheel_1 : decode cX11_wheel 1 = .ok (.getfield 12, 3) := by decide +kernel
theorem dX11_wheel_4 : decode cX11_wheel 4 = .ok (.iload_n 1, 1) := by decide +kernel
theorem dX11_wheel_5 : decode cX11_wheel 5 = .ok (.invokevirtual 94, 3) := by decide +kernel
theorem dX11_wheel_8 : decode cX11_wheel 8 = .ok (.ifCond .eq 13, 3) := by decide +kernel
theorem dX11_wheel_11 : decode cX11_wheel 11 = .ok (.iload_n 2, 1) := by decide +kernel
theorem dX11_wheel_12 : decode cX11_wheel 12 = .ok (.ifCond .lt 9, 3) := by decide +kernel
theorem dX11_wheel_15 : decode cX11_wheel 15 = .ok (.iload_n 2, 1) := by decide +kernel
theorem dX11_wheel_16 : decode cX11_wheel 16 = .ok (.bipush 7, 2) := by decide +kernel
theorem dX11_wheel_18 : decode cX11_wheel 18 = .ok (.if_icmp .le 6, 3) := by decide +kernel
theorem dX11_wheel_21 : decode cX11_wheel 21 = .ok (.bipush (-2), 2) := by decide +kernel
theorem dX11_wheel_23 : decode cX11_wheel 23 = .ok (.ireturn, 1) := by decide +kernel
theorem dX11_wheel_24 : decode cX11_wheel 24 = .ok (.iload_n 2, 1) := by decide +kernel
theorem dX11_wheel_25 : decode cX11_wheel 25 = .ok (.ifCond .ne 15, 3) := by decide +kernel
theorem dX11_wheel_28 : decode cX11_wheel 28 = .ok (.aload_n 0, 1) := by decide +kernel
theorem dX11_wheel_29 : decode cX11_wheel 29 = .ok (.getfield 12, 3) := by decide +kernel
theorem dX11_wheel_32 : decode cX11_wheel 32 = .ok (.getfield 78, 3) := by decide +kernel
theorem dX11_wheel_35 : decode cX11_wheel 35 = .ok (.iload_n 1, 1) := by decide +kernel
theorem dX11_wheel_36 : decode cX11_wheel 36 = .ok (.invokevirtual 97, 3) := by decide +kernel
theorem dX11_wheel_39 : decode cX11_wheel 39 = .ok (.ireturn, 1) := by decide +kernel
theorem dX11_wheel_40 : decode cX11_wheel 40 = .ok (.iload_n 2, 1) := by decide +kernel
theorem dX11_wheel_41 : decode cX11_wheel 41 = .ok (.iconst 1, 1) := by decide +kernel
theorem dX11_wheel_42 : decode cX11_wheel 42 = .ok (.if_icmp .ne 15, 3) := by decide +kernel
theorem dX11_wheel_45 : decode cX11_wheel 45 = .ok (.aload_n 0, 1) := by decide +kernel
theorem dX11_wheel_46 : decode cX11_wheel 46 = .ok (.getfield 12, 3) := by decide +kernel
theorem dX11_wheel_49 : decode cX11_wheel 49 = .ok (.getfield 78, 3) := by decide +kernel
theorem dX11_wheel_52 : decode cX11_wheel 52 = .ok (.iload_n 1, 1) := by decide +kernel
theorem dX11_wheel_53 : decode cX11_wheel 53 = .ok (.invokevirtual 101, 3) := by decide +kernel
theorem dX11_wheel_56 : decode cX11_wheel 56 = .ok (.ireturn, 1) := by decide +kernel
theorem dX11_wheel_57 : decode cX11_wheel 57 = .ok (.iload_n 2, 1) := by decide +kernel
theorem dX11_wheel_58 : decode cX11_wheel 58 = .ok (.iconst 2, 1) := by decide +kernel
theorem dX11_wheel_59 : decode cX11_wheel 59 = .ok (.if_icmp .ne 17, 3) := by decide +kernel
theorem dX11_wheel_62 : decode cX11_wheel 62 = .ok (.aload_n 0, 1) := by decide +kernel
theorem dX11_wheel_63 : decode cX11_wheel 63 = .ok (.getfield 12, 3) := by decide +kernel
theorem dX11_wheel_66 : decode cX11_wheel 66 = .ok (.getfield 78, 3) := by decide +kernel
theorem dX11_wheel_69 : decode cX11_wheel 69 = .ok (.iload_n 1, 1) := by decide +kernel
theorem dX11_wheel_70 : decode cX11_wheel 70 = .ok (.invokevirtual 104, 3) := by decide +kernel
theorem dX11_wheel_73 : decode cX11_wheel 73 = .ok (.goto 17, 3) := by decide +kernel
theorem dX11_wheel_76 : decode cX11_wheel 76 = .ok (.aload_n 0, 1) := by decide +kernel
theorem dX11_wheel_77 : decode cX11_wheel 77 = .ok (.getfield 12, 3) := by decide +kernel
theorem dX11_wheel_80 : decode cX11_wheel 80 = .ok (.getfield 78, 3) := by decide +kernel
theorem dX11_wheel_83 : decode cX11_wheel 83 = .ok (.iload_n 1, 1) := by decide +kernel
theorem dX11_wheel_84 : decode cX11_wheel 84 = .ok (.iload_n 2, 1) := by decide +kernel
theorem dX11_wheel_85 : decode cX11_wheel 85 = .ok (.iconst 3, 1) := by decide +kernel
theorem dX11_wheel_86 : decode cX11_wheel 86 = .ok (.isub, 1) := by decide +kernel
theorem dX11_wheel_87 : decode cX11_wheel 87 = .ok (.invokevirtual 107, 3) := by decide +kernel
theorem dX11_wheel_90 : decode cX11_wheel 90 = .ok (.ireturn, 1) := by decide +kernel
theorem dX11_warm_0 : decode cX11_warm 0 = .ok (.iload_n 1, 1) := by decide +kernel
theorem dX11_warm_1 : decode cX11_warm 1 = .ok (.invokestatic 111, 3) := by decide +kernel
theorem dX11_warm_4 : decode cX11_warm 4 = .ok (.ifCond .eq 17, 3) := by decide +kernel
theorem dX11_warm_7 : decode cX11_warm 7 = .ok (.aload_n 0, 1) := by decide +kernel
theorem dX11_warm_8 : decode cX11_warm 8 = .ok (.getfield 12, 3) := by decide +kernel
theorem dX11_warm_11 : decode cX11_warm 11 = .ok (.getfield 87, 3) := by decide +kernel
theorem dX11_warm_14 : decode cX11_warm 14 = .ok (.iload_n 1, 1) := by decide +kernel
theorem dX11_warm_15 : decode cX11_warm 15 = .ok (.invokevirtual 114, 3) := by decide +kernel
theorem dX11_warm_18 : decode cX11_warm 18 = .ok (.goto 5, 3) := by decide +kernel
theorem dX11_warm_21 : decode cX11_warm 21 = .ok (.bipush (-2), 2) := by decide +kernel
theorem dX11_warm_23 : decode cX11_warm 23 = .ok (.ireturn, 1) := by decide +kernel
theorem dX11_set_0 : decode cX11_set 0 = .ok (.bipush (-2), 2) := by decide +kernel
theorem dX11_set_2 : decode cX11_set 2 = .ok (.istore_n 3, 1) := by decide +kernel
theorem dX11_set_3 : decode cX11_set 3 = .ok (.iload_n 1, 1) := by decide +kernel
theorem dX11_set_4 : decode cX11_set 4 = .ok (.ifCond .ne 33, 3) := by decide +kernel
theorem dX11_set_7 : decode cX11_set 7 = .ok (.iload_n 2, 1) := by decide +kernel
theorem dX11_set_8 : decode cX11_set 8 = .ok (.iconst 1, 1) := by decide +kernel
theorem dX11_set_9 : decode cX11_set 9 = .ok (.if_icmp .lt 28, 3) := by decide +kernel
theorem dX11_set_12 : decode cX11_set 12 = .ok (.iload_n 2, 1) := by decide +kernel
theorem dX11_set_13 : decode cX11_set 13 = .ok (.bipush 20, 2) := by decide +kernel
theorem dX11_set_15 : decode cX11_set 15 = .ok (.if_icmp .gt 22, 3) := by decide +kernel
theorem dX11_set_18 : decode cX11_set 18 = .ok (.aload_n 0, 1) := by decide +kernel
theorem dX11_set_19 : decode cX11_set 19 = .ok (.getfield 12, 3) := by decide +kernel
theorem dX11_set_22 : decode cX11_set 22 = .ok (.getfield 117, 3) := by decide +kernel
theorem dX11_set_25 : decode cX11_set 25 = .ok (.istore_n 3, 1) := by decide +kernel
theorem dX11_set_26 : decode cX11_set 26 = .ok (.aload_n 0, 1) := by decide +kernel
theorem dX11_set_27 : decode cX11_set 27 = .ok (.getfield 12, 3) := by decide +kernel
theorem dX11_set_30 : decode cX11_set 30 = .ok (.iload_n 2, 1) := by decide +kernel
theorem dX11_set_31 : decode cX11_set 31 = .ok (.putfield 117, 3) := by decide +kernel
theorem dX11_set_34 : decode cX11_set 34 = .ok (.goto 34, 3) := by decide +kernel
theorem dX11_set_37 : decode cX11_set 37 = .ok (.iload_n 1, 1) := by decide +kernel
theorem dX11_set_38 : decode cX11_set 38 = .ok (.iconst 1, 1) := by decide +kernel
theorem dX11_set_39 : decode cX11_set 39 = .ok (.if_icmp .ne 29, 3) := by decide +kernel
theorem dX11_set_42 : decode cX11_set 42 = .ok (.iload_n 2, 1) := by decide +kernel
theorem dX11_set_43 : decode cX11_set 43 = .ok (.ifCond .lt 25, 3) := by decide +kernel
theorem dX11_set_46 : decode cX11_set 46 = .ok (.iload_n 2, 1) := by decide +kernel
theorem dX11_set_47 : decode cX11_set 47 = .ok (.bipush 8, 2) := by decide +kernel
theorem dX11_set_49 : decode cX11_set 49 = .ok (.if_icmp .gt 19, 3) := by decide +kernel
theorem dX11_set_52 : decode cX11_set 52 = .ok (.aload_n 0, 1) := by decide +kernel
theorem dX11_set_53 : decode cX11_set 53 = .ok (.getfield 12, 3) := by decide +kernel
theorem dX11_set_56 : decode cX11_set 56 = .ok (.getfield 120, 3) := by decide +kernel
theorem dX11_set_59 : decode cX11_set 59 = .ok (.istore_n 3, 1) := by decide +kernel
theorem dX11_set_60 : decode cX11_set 60 = .ok (.aload_n 0, 1) := by decide +kernel
theorem dX11_set_61 : decode cX11_set 61 = .ok (.getfield 12, 3) := by decide +kernel
theorem dX11_set_64 : decode cX11_set 64 = .ok (.iload_n 2, 1) := by decide +kernel
theorem dX11_set_65 : decode cX11_set 65 = .ok (.putfield 120, 3) := by decide +kernel
theorem dX11_set_68 : decode cX11_set 68 = .ok (.iload_n 3, 1) := by decide +kernel
theorem dX11_set_69 : decode cX11_set 69 = .ok (.ireturn, 1) := by decide +kernel
theorem dX11_turning_0 : decode cX11_turning 0 = .ok (.aload_n 0, 1) := by decide +kernel
theorem dX11_turning_1 : decode cX11_turning 1 = .ok (.getfield 12, 3) := by decide +kernel
theorem dX11_turning_4 : decode cX11_turning 4 = .ok (.getfield 123, 3) := by decide +kernel
theorem dX11_turning_7 : decode cX11_turning 7 = .ok (.iload_n 1, 1) := by decide +kernel
theorem dX11_turning_8 : decode cX11_turning 8 = .ok (.iload_n 2, 1) := by decide +kernel
theorem dX11_turning_9 : decode cX11_turning 9 = .ok (.bipush 8, 2) := by decide +kernel
theorem dX11_turning_11 : decode cX11_turning 11 = .ok (.invokestatic 127, 3) := by decide +kernel
theorem dX11_turning_14 : decode cX11_turning 14 = .ok (.ireturn, 1) := by decide +kernel
theorem dX11_knock_0 : decode cX11_knock 0 = .ok (.aload_n 0, 1) := by decide +kernel
theorem dX11_knock_1 : decode cX11_knock 1 = .ok (.getfield 12, 3) := by decide +kernel
theorem dX11_knock_4 : decode cX11_knock 4 = .ok (.getfield 131, 3) := by decide +kernel
theorem dX11_knock_7 : decode cX11_knock 7 = .ok (.iload_n 1, 1) := by decide +kernel
theorem dX11_knock_8 : decode cX11_knock 8 = .ok (.iload_n 2, 1) := by decide +kernel
theorem dX11_knock_9 : decode cX11_knock 9 = .ok (.bipush 8, 2) := by decide +kernel
theorem dX11_knock_11 : decode cX11_knock 11 = .ok (.invokestatic 127, 3) := by decide +kernel
theorem dX11_knock_14 : decode cX11_knock 14 = .ok (.ireturn, 1) := by decide +kernel
theorem dX11_back_0 : decode cX11_back 0 = .ok (.iload_n 1, 1) := by decide +kernel
theorem dX11_back_1 : decode cX11_back 1 = .ok (.ifCond .lt 8, 3) := by decide +kernel
theorem dX11_back_4 : decode cX11_back 4 = .ok (.iload_n 1, 1) := by decide +kernel
theorem dX11_back_5 : decode cX11_back 5 = .ok (.iconst 1, 1) := by decide +kernel
theorem dX11_back_6 : decode cX11_back 6 = .ok (.if_icmp .le 6, 3) := by decide +kernel
theorem dX11_back_9 : decode cX11_back 9 = .ok (.bipush (-2), 2) := by decide +kernel
theorem dX11_back_11 : decode cX11_back 11 = .ok (.ireturn, 1) := by decide +kernel
theorem dX11_back_12 : decode cX11_back 12 = .ok (.iload_n 1, 1) := by decide +kernel
theorem dX11_back_13 : decode cX11_back 13 = .ok (.ifCond .ne 13, 3) := by decide +kernel
theorem dX11_back_16 : decode cX11_back 16 = .ok (.aload_n 0, 1) := by decide +kernel
theorem dX11_back_17 : decode cX11_back 17 = .ok (.getfield 12, 3) := by decide +kernel
theorem dX11_back_20 : decode cX11_back 20 = .ok (.getfield 123, 3) := by decide +kernel
theorem dX11_back_23 : decode cX11_back 23 = .ok (.goto 10, 3) := by decide +kernel
theorem dX11_back_26 : decode cX11_back 26 = .ok (.aload_n 0, 1) := by decide +kernel
theorem dX11_back_27 : decode cX11_back 27 = .ok (.getfield 12, 3) := by decide +kernel
theorem dX11_back_30 : decode cX11_back 30 = .ok (.getfield 131, 3) := by decide +kernel
theorem dX11_back_33 : decode cX11_back 33 = .ok (.astore_n 2, 1) := by decide +kernel
theorem dX11_back_34 : decode cX11_back 34 = .ok (.aload_n 2, 1) := by decide +kernel
theorem dX11_back_35 : decode cX11_back 35 = .ok (.getfield 134, 3) := by decide +kernel
theorem dX11_back_38 : decode cX11_back 38 = .ok (.ifCond .gt 6, 3) := by decide +kernel
theorem dX11_back_41 : decode cX11_back 41 = .ok (.bipush (-3), 2) := by decide +kernel
theorem dX11_back_43 : decode cX11_back 43 = .ok (.ireturn, 1) := by decide +kernel
theorem dX11_back_44 : decode cX11_back 44 = .ok (.aload_n 2, 1) := by decide +kernel
theorem dX11_back_45 : decode cX11_back 45 = .ok (.dup, 1) := by decide +kernel
theorem dX11_back_46 : decode cX11_back 46 = .ok (.getfield 134, 3) := by decide +kernel
theorem dX11_back_49 : decode cX11_back 49 = .ok (.iconst 1, 1) := by decide +kernel
theorem dX11_back_50 : decode cX11_back 50 = .ok (.isub, 1) := by decide +kernel
theorem dX11_back_51 : decode cX11_back 51 = .ok (.putfield 134, 3) := by decide +kernel
theorem dX11_back_54 : decode cX11_back 54 = .ok (.aload_n 2, 1) := by decide +kernel
theorem dX11_back_55 : decode cX11_back 55 = .ok (.getfield 134, 3) := by decide +kernel
theorem dX11_back_58 : decode cX11_back 58 = .ok (.ireturn, 1) := by decide +kernel
theorem dX11_read_0 : decode cX11_read 0 = .ok (.aload_n 0, 1) := by decide +kernel
theorem dX11_read_1 : decode cX11_read 1 = .ok (.iload_n 1, 1) := by decide +kernel
theorem dX11_read_2 : decode cX11_read 2 = .ok (.invokevirtual 139, 3) := by decide +kernel
theorem dX11_read_5 : decode cX11_read 5 = .ok (.ifCond .ne 6, 3) := by decide +kernel
theorem dX11_read_8 : decode cX11_read 8 = .ok (.bipush (-2), 2) := by decide +kernel
theorem dX11_read_10 : decode cX11_read 10 = .ok (.ireturn, 1) := by decide +kernel
theorem dX11_read_11 : decode cX11_read 11 = .ok (.aload_n 0, 1) := by decide +kernel
theorem dX11_read_12 : decode cX11_read 12 = .ok (.getfield 48, 3) := by decide +kernel
theorem dX11_read_15 : decode cX11_read 15 = .ok (.iload_n 1, 1) := by decide +kernel
theorem dX11_read_16 : decode cX11_read 16 = .ok (.aaload, 1) := by decide +kernel
theorem dX11_read_17 : decode cX11_read 17 = .ok (.astore_n 2, 1) := by decide +kernel
theorem dX11_read_18 : decode cX11_read 18 = .ok (.aload_n 2, 1) := by decide +kernel
theorem dX11_read_19 : decode cX11_read 19 = .ok (.getfield 142, 3) := by decide +kernel
theorem dX11_read_22 : decode cX11_read 22 = .ok (.ifCond .eq 9, 3) := by decide +kernel
theorem dX11_read_25 : decode cX11_read 25 = .ok (.aload_n 0, 1) := by decide +kernel
theorem dX11_read_26 : decode cX11_read 26 = .ok (.iconst 1, 1) := by decide +kernel
theorem dX11_read_27 : decode cX11_read 27 = .ok (.invokevirtual 146, 3) := by decide +kernel
theorem dX11_read_30 : decode cX11_read 30 = .ok (.ireturn, 1) := by decide +kernel
theorem dX11_read_31 : decode cX11_read 31 = .ok (.iconst 0, 1) := by decide +kernel
theorem dX11_read_32 : decode cX11_read 32 = .ok (.istore_n 3, 1) := by decide +kernel
theorem dX11_read_33 : decode cX11_read 33 = .ok (.iconst 0, 1) := by decide +kernel
theorem dX11_read_34 : decode cX11_read 34 = .ok (.istore 4, 2) := by decide +kernel
theorem dX11_read_36 : decode cX11_read 36 = .ok (.iload 4, 2) := by decide +kernel
theorem dX11_read_38 : decode cX11_read 38 = .ok (.iconst 1, 1) := by decide +kernel
theorem dX11_read_39 : decode cX11_read 39 = .ok (.iadd, 1) := by decide +kernel
theorem dX11_read_40 : decode cX11_read 40 = .ok (.aload_n 2, 1) := by decide +kernel
theorem dX11_read_41 : decode cX11_read 41 = .ok (.getfield 149, 3) := by decide +kernel
theorem dX11_read_44 : decode cX11_read 44 = .ok (.if_icmp .ge 43, 3) := by decide +kernel
theorem dX11_read_47 : decode cX11_read 47 = .ok (.aload_n 0, 1) := by decide +kernel
theorem dX11_read_48 : decode cX11_read 48 = .ok (.getfield 12, 3) := by decide +kernel
theorem dX11_read_51 : decode cX11_read 51 = .ok (.getfield 123, 3) := by decide +kernel
theorem dX11_read_54 : decode cX11_read 54 = .ok (.aload_n 2, 1) := by decide +kernel
theorem dX11_read_55 : decode cX11_read 55 = .ok (.iload 4, 2) := by decide +kernel
theorem dX11_read_57 : decode cX11_read 57 = .ok (.invokevirtual 152, 3) := by decide +kernel
theorem dX11_read_60 : decode cX11_read 60 = .ok (.aload_n 2, 1) := by decide +kernel
theorem dX11_read_61 : decode cX11_read 61 = .ok (.iload 4, 2) := by decide +kernel
theorem dX11_read_63 : decode cX11_read 63 = .ok (.iconst 1, 1) := by decide +kernel
theorem dX11_read_64 : decode cX11_read 64 = .ok (.iadd, 1) := by decide +kernel
theorem dX11_read_65 : decode cX11_read 65 = .ok (.invokevirtual 152, 3) := by decide +kernel
theorem dX11_read_68 : decode cX11_read 68 = .ok (.bipush 8, 2) := by decide +kernel
theorem dX11_read_70 : decode cX11_read 70 = .ok (.invokestatic 127, 3) := by decide +kernel
theorem dX11_read_73 : decode cX11_read 73 = .ok (.ifCond .ge 5, 3) := by decide +kernel
theorem dX11_read_76 : decode cX11_read 76 = .ok (.iload_n 3, 1) := by decide +kernel
theorem dX11_read_77 : decode cX11_read 77 = .ok (.ireturn, 1) := by decide +kernel
theorem dX11_read_78 : decode cX11_read 78 = .ok (.iinc 3 1, 3) := by decide +kernel
theorem dX11_read_81 : decode cX11_read 81 = .ok (.iinc 4 2, 3) := by decide +kernel
theorem dX11_read_84 : decode cX11_read 84 = .ok (.goto (-48), 3) := by decide +kernel
theorem dX11_read_87 : decode cX11_read 87 = .ok (.iload_n 3, 1) := by decide +kernel
theorem dX11_read_88 : decode cX11_read 88 = .ok (.ireturn, 1) := by decide +kernel
theorem dX11_at_0 : decode cX11_at 0 = .ok (.iload_n 1, 1) := by decide +kernel
theorem dX11_at_1 : decode cX11_at 1 = .ok (.invokestatic 111, 3) := by decide +kernel
theorem dX11_at_4 : decode cX11_at 4 = .ok (.ifCond .eq 23, 3) := by decide +kernel
theorem dX11_at_7 : decode cX11_at 7 = .ok (.aload_n 0, 1) := by decide +kernel
theorem dX11_at_8 : decode cX11_at 8 = .ok (.getfield 12, 3) := by decide +kernel
theorem dX11_at_11 : decode cX11_at 11 = .ok (.iload_n 2, 1) := by decide +kernel
theorem dX11_at_12 : decode cX11_at 12 = .ok (.invokevirtual 94, 3) := by decide +kernel
theorem dX11_at_15 : decode cX11_at 15 = .ok (.ifCond .eq 12, 3) := by decide +kernel
theorem dX11_at_18 : decode cX11_at 18 = .ok (.iload_n 3, 1) := by decide +kernel
theorem dX11_at_19 : decode cX11_at 19 = .ok (.ifCond .lt 8, 3) := by decide +kernel
theorem dX11_at_22 : decode cX11_at 22 = .ok (.iload_n 3, 1) := by decide +kernel
theorem dX11_at_23 : decode cX11_at 23 = .ok (.iconst 2, 1) := by decide +kernel
theorem dX11_at_24 : decode cX11_at 24 = .ok (.if_icmp .le 6, 3) := by decide +kernel
theorem dX11_at_27 : decode cX11_at 27 = .ok (.bipush (-2), 2) := by decide +kernel
theorem dX11_at_29 : decode cX11_at 29 = .ok (.ireturn, 1) := by decide +kernel
theorem dX11_at_30 : decode cX11_at 30 = .ok (.aload_n 0, 1) := by decide +kernel
theorem dX11_at_31 : decode cX11_at 31 = .ok (.getfield 12, 3) := by decide +kernel
theorem dX11_at_34 : decode cX11_at 34 = .ok (.iload_n 2, 1) := by decide +kernel
theorem dX11_at_35 : decode cX11_at 35 = .ok (.invokevirtual 155, 3) := by decide +kernel
theorem dX11_at_38 : decode cX11_at 38 = .ok (.astore 4, 2) := by decide +kernel
theorem dX11_at_40 : decode cX11_at 40 = .ok (.aload 4, 2) := by decide +kernel
theorem dX11_at_42 : decode cX11_at 42 = .ok (.invokevirtual 159, 3) := by decide +kernel
theorem dX11_at_45 : decode cX11_at 45 = .ok (.iload_n 3, 1) := by decide +kernel
theorem dX11_at_46 : decode cX11_at 46 = .ok (.ifCond .ne 10, 3) := by decide +kernel
theorem dX11_at_49 : decode cX11_at 49 = .ok (.aload 4, 2) := by decide +kernel
theorem dX11_at_51 : decode cX11_at 51 = .ok (.iload_n 1, 1) := by decide +kernel
theorem dX11_at_52 : decode cX11_at 52 = .ok (.invokevirtual 164, 3) := by decide +kernel
theorem dX11_at_55 : decode cX11_at 55 = .ok (.ireturn, 1) := by decide +kernel
theorem dX11_at_56 : decode cX11_at 56 = .ok (.iload_n 3, 1) := by decide +kernel
theorem dX11_at_57 : decode cX11_at 57 = .ok (.iconst 1, 1) := by decide +kernel
theorem dX11_at_58 : decode cX11_at 58 = .ok (.if_icmp .ne 12, 3) := by decide +kernel
theorem dX11_at_61 : decode cX11_at 61 = .ok (.aload 4, 2) := by decide +kernel
theorem dX11_at_63 : decode cX11_at 63 = .ok (.iload_n 1, 1) := by decide +kernel
theorem dX11_at_64 : decode cX11_at 64 = .ok (.invokevirtual 167, 3) := by decide +kernel
theorem dX11_at_67 : decode cX11_at 67 = .ok (.goto 9, 3) := by decide +kernel
theorem dX11_at_70 : decode cX11_at 70 = .ok (.aload 4, 2) := by decide +kernel
theorem dX11_at_72 : decode cX11_at 72 = .ok (.iload_n 1, 1) := by decide +kernel
theorem dX11_at_73 : decode cX11_at 73 = .ok (.invokevirtual 170, 3) := by decide +kernel
theorem dX11_at_76 : decode cX11_at 76 = .ok (.ireturn, 1) := by decide +kernel
theorem dX11_longs_0 : decode cX11_longs 0 = .ok (.aload_n 0, 1) := by decide +kernel
theorem dX11_longs_1 : decode cX11_longs 1 = .ok (.getfield 12, 3) := by decide +kernel
theorem dX11_longs_4 : decode cX11_longs 4 = .ok (.iload_n 1, 1) := by decide +kernel
theorem dX11_longs_5 : decode cX11_longs 5 = .ok (.invokevirtual 94, 3) := by decide +kernel
theorem dX11_longs_8 : decode cX11_longs 8 = .ok (.ifCond .ne 6, 3) := by decide +kernel
theorem dX11_longs_11 : decode cX11_longs 11 = .ok (.bipush (-2), 2) := by decide +kernel
theorem dX11_longs_13 : decode cX11_longs 13 = .ok (.ireturn, 1) := by decide +kernel
theorem dX11_longs_14 : decode cX11_longs 14 = .ok (.aload_n 0, 1) := by decide +kernel
theorem dX11_longs_15 : decode cX11_longs 15 = .ok (.getfield 12, 3) := by decide +kernel
theorem dX11_longs_18 : decode cX11_longs 18 = .ok (.iload_n 1, 1) := by decide +kernel
theorem dX11_longs_19 : decode cX11_longs 19 = .ok (.invokevirtual 155, 3) := by decide +kernel
theorem dX11_longs_22 : decode cX11_longs 22 = .ok (.invokevirtual 173, 3) := by decide +kernel
theorem dX11_longs_25 : decode cX11_longs 25 = .ok (.ireturn, 1) := by decide +kernel
theorem dX11_scream_0 : decode cX11_scream 0 = .ok (.iload_n 1, 1) := by decide +kernel
theorem dX11_scream_1 : decode cX11_scream 1 = .ok (.ifCond .lt 8, 3) := by decide +kernel
theorem dX11_scream_4 : decode cX11_scream 4 = .ok (.iload_n 1, 1) := by decide +kernel
theorem dX11_scream_5 : decode cX11_scream 5 = .ok (.iconst 1, 1) := by decide +kernel
theorem dX11_scream_6 : decode cX11_scream 6 = .ok (.if_icmp .le 6, 3) := by decide +kernel
theorem dX11_scream_9 : decode cX11_scream 9 = .ok (.bipush (-2), 2) := by decide +kernel
theorem dX11_scream_11 : decode cX11_scream 11 = .ok (.ireturn, 1) := by decide +kernel
theorem dX11_scream_12 : decode cX11_scream 12 = .ok (.aload_n 0, 1) := by decide +kernel
theorem dX11_scream_13 : decode cX11_scream 13 = .ok (.getfield 21, 3) := by decide +kernel
theorem dX11_scream_16 : decode cX11_scream 16 = .ok (.invokevirtual 177, 3) := by decide +kernel
theorem dX11_scream_19 : decode cX11_scream 19 = .ok (.iload_n 1, 1) := by decide +kernel
theorem dX11_scream_20 : decode cX11_scream 20 = .ok (.ifCond .ne 13, 3) := by decide +kernel
theorem dX11_scream_23 : decode cX11_scream 23 = .ok (.aload_n 0, 1) := by decide +kernel
theorem dX11_scream_24 : decode cX11_scream 24 = .ok (.getfield 21, 3) := by decide +kernel
theorem dX11_scream_27 : decode cX11_scream 27 = .ok (.getfield 180, 3) := by decide +kernel
theorem dX11_scream_30 : decode cX11_scream 30 = .ok (.goto 10, 3) := by decide +kernel
theorem dX11_scream_33 : decode cX11_scream 33 = .ok (.aload_n 0, 1) := by decide +kernel
theorem dX11_scream_34 : decode cX11_scream 34 = .ok (.getfield 21, 3) := by decide +kernel
theorem dX11_scream_37 : decode cX11_scream 37 = .ok (.getfield 183, 3) := by decide +kernel
theorem dX11_scream_40 : decode cX11_scream 40 = .ok (.ireturn, 1) := by decide +kernel
theorem dX11_chord_0 : decode cX11_chord 0 = .ok (.iload_n 1, 1) := by decide +kernel
theorem dX11_chord_1 : decode cX11_chord 1 = .ok (.ifCond .lt 18, 3) := by decide +kernel
theorem dX11_chord_4 : decode cX11_chord 4 = .ok (.iload_n 1, 1) := by decide +kernel
theorem dX11_chord_5 : decode cX11_chord 5 = .ok (.bipush 8, 2) := by decide +kernel
theorem dX11_chord_7 : decode cX11_chord 7 = .ok (.if_icmp .ge 12, 3) := by decide +kernel
theorem dX11_chord_10 : decode cX11_chord 10 = .ok (.iload_n 2, 1) := by decide +kernel
theorem dX11_chord_11 : decode cX11_chord 11 = .ok (.ifCond .lt 8, 3) := by decide +kernel
theorem dX11_chord_14 : decode cX11_chord 14 = .ok (.iload_n 2, 1) := by decide +kernel
theorem dX11_chord_15 : decode cX11_chord 15 = .ok (.iconst 1, 1) := by decide +kernel
theorem dX11_chord_16 : decode cX11_chord 16 = .ok (.if_icmp .le 6, 3) := by decide +kernel
theorem dX11_chord_19 : decode cX11_chord 19 = .ok (.bipush (-2), 2) := by decide +kernel
theorem dX11_chord_21 : decode cX11_chord 21 = .ok (.ireturn, 1) := by decide +kernel
theorem dX11_chord_22 : decode cX11_chord 22 = .ok (.aload_n 0, 1) := by decide +kernel
theorem dX11_chord_23 : decode cX11_chord 23 = .ok (.getfield 21, 3) := by decide +kernel
theorem dX11_chord_26 : decode cX11_chord 26 = .ok (.invokevirtual 186, 3) := by decide +kernel
theorem dX11_chord_29 : decode cX11_chord 29 = .ok (.aload_n 0, 1) := by decide +kernel
theorem dX11_chord_30 : decode cX11_chord 30 = .ok (.getfield 21, 3) := by decide +kernel
theorem dX11_chord_33 : decode cX11_chord 33 = .ok (.iload_n 1, 1) := by decide +kernel
theorem dX11_chord_34 : decode cX11_chord 34 = .ok (.invokevirtual 189, 3) := by decide +kernel
theorem dX11_chord_37 : decode cX11_chord 37 = .ok (.iload_n 2, 1) := by decide +kernel
theorem dX11_chord_38 : decode cX11_chord 38 = .ok (.ifCond .ne 13, 3) := by decide +kernel
theorem dX11_chord_41 : decode cX11_chord 41 = .ok (.aload_n 0, 1) := by decide +kernel
theorem dX11_chord_42 : decode cX11_chord 42 = .ok (.getfield 21, 3) := by decide +kernel
theorem dX11_chord_45 : decode cX11_chord 45 = .ok (.getfield 192, 3) := by decide +kernel
theorem dX11_chord_48 : decode cX11_chord 48 = .ok (.goto 10, 3) := by decide +kernel
theorem dX11_chord_51 : decode cX11_chord 51 = .ok (.aload_n 0, 1) := by decide +kernel
theorem dX11_chord_52 : decode cX11_chord 52 = .ok (.getfield 21, 3) := by decide +kernel
theorem dX11_chord_55 : decode cX11_chord 55 = .ok (.getfield 195, 3) := by decide +kernel
theorem dX11_chord_58 : decode cX11_chord 58 = .ok (.ireturn, 1) := by decide +kernel
theorem dX11_hush_0 : decode cX11_hush 0 = .ok (.aload_n 0, 1) := by decide +kernel
theorem dX11_hush_1 : decode cX11_hush 1 = .ok (.getfield 21, 3) := by decide +kernel
theorem dX11_hush_4 : decode cX11_hush 4 = .ok (.invokevirtual 198, 3) := by decide +kernel
theorem dX11_hush_7 : decode cX11_hush 7 = .ok (.ireturn, 1) := by decide +kernel
theorem dX11_ripe_0 : decode cX11_ripe 0 = .ok (.aload_n 0, 1) := by decide +kernel
theorem dX11_ripe_1 : decode cX11_ripe 1 = .ok (.getfield 12, 3) := by decide +kernel
theorem dX11_ripe_4 : decode cX11_ripe 4 = .ok (.iload_n 1, 1) := by decide +kernel
theorem dX11_ripe_5 : decode cX11_ripe 5 = .ok (.invokevirtual 94, 3) := by decide +kernel
theorem dX11_ripe_8 : decode cX11_ripe 8 = .ok (.ifCond .eq 20, 3) := by decide +kernel
theorem dX11_ripe_11 : decode cX11_ripe 11 = .ok (.iload_n 2, 1) := by decide +kernel
theorem dX11_ripe_12 : decode cX11_ripe 12 = .ok (.invokestatic 111, 3) := by decide +kernel
theorem dX11_ripe_15 : decode cX11_ripe 15 = .ok (.ifCond .eq 13, 3) := by decide +kernel
theorem dX11_ripe_18 : decode cX11_ripe 18 = .ok (.iload_n 3, 1) := by decide +kernel
theorem dX11_ripe_19 : decode cX11_ripe 19 = .ok (.iconst (-1), 1) := by decide +kernel
theorem dX11_ripe_20 : decode cX11_ripe 20 = .ok (.if_icmp .lt 8, 3) := by decide +kernel
theorem dX11_ripe_23 : decode cX11_ripe 23 = .ok (.iload_n 3, 1) := by decide +kernel
theorem dX11_ripe_24 : decode cX11_ripe 24 = .ok (.iconst 1, 1) := by decide +kernel
theorem dX11_ripe_25 : decode cX11_ripe 25 = .ok (.if_icmp .le 6, 3) := by decide +kernel
theorem dX11_ripe_28 : decode cX11_ripe 28 = .ok (.bipush (-2), 2) := by decide +kernel
theorem dX11_ripe_30 : decode cX11_ripe 30 = .ok (.ireturn, 1) := by decide +kernel
theorem dX11_ripe_31 : decode cX11_ripe 31 = .ok (.aload_n 0, 1) := by decide +kernel
theorem dX11_ripe_32 : decode cX11_ripe 32 = .ok (.getfield 28, 3) := by decide +kernel
theorem dX11_ripe_35 : decode cX11_ripe 35 = .ok (.iload_n 1, 1) := by decide +kernel
theorem dX11_ripe_36 : decode cX11_ripe 36 = .ok (.iload_n 2, 1) := by decide +kernel
theorem dX11_ripe_37 : decode cX11_ripe 37 = .ok (.invokevirtual 201, 3) := by decide +kernel
theorem dX11_ripe_40 : decode cX11_ripe 40 = .ok (.iload_n 3, 1) := by decide +kernel
theorem dX11_ripe_41 : decode cX11_ripe 41 = .ok (.iconst (-1), 1) := by decide +kernel
theorem dX11_ripe_42 : decode cX11_ripe 42 = .ok (.if_icmp .ne 11, 3) := by decide +kernel
theorem dX11_ripe_45 : decode cX11_ripe 45 = .ok (.aload_n 0, 1) := by decide +kernel
theorem dX11_ripe_46 : decode cX11_ripe 46 = .ok (.getfield 28, 3) := by decide +kernel
theorem dX11_ripe_49 : decode cX11_ripe 49 = .ok (.getfield 205, 3) := by decide +kernel
theorem dX11_ripe_52 : decode cX11_ripe 52 = .ok (.ireturn, 1) := by decide +kernel
theorem dX11_ripe_53 : decode cX11_ripe 53 = .ok (.iload_n 3, 1) := by decide +kernel
theorem dX11_ripe_54 : decode cX11_ripe 54 = .ok (.ifCond .ne 13, 3) := by decide +kernel
theorem dX11_ripe_57 : decode cX11_ripe 57 = .ok (.aload_n 0, 1) := by decide +kernel
theorem dX11_ripe_58 : decode cX11_ripe 58 = .ok (.getfield 28, 3) := by decide +kernel
theorem dX11_ripe_61 : decode cX11_ripe 61 = .ok (.getfield 208, 3) := by decide +kernel
theorem dX11_ripe_64 : decode cX11_ripe 64 = .ok (.goto 10, 3) := by decide +kernel
theorem dX11_ripe_67 : decode cX11_ripe 67 = .ok (.aload_n 0, 1) := by decide +kernel
theorem dX11_ripe_68 : decode cX11_ripe 68 = .ok (.getfield 28, 3) := by decide +kernel
theorem dX11_ripe_71 : decode cX11_ripe 71 = .ok (.getfield 211, 3) := by decide +kernel
theorem dX11_ripe_74 : decode cX11_ripe 74 = .ok (.ireturn, 1) := by decide +kernel
theorem dX11_cold_0 : decode cX11_cold 0 = .ok (.aload_n 0, 1) := by decide +kernel
theorem dX11_cold_1 : decode cX11_cold 1 = .ok (.getfield 12, 3) := by decide +kernel
theorem dX11_cold_4 : decode cX11_cold 4 = .ok (.iload_n 1, 1) := by decide +kernel
theorem dX11_cold_5 : decode cX11_cold 5 = .ok (.invokevirtual 94, 3) := by decide +kernel
theorem dX11_cold_8 : decode cX11_cold 8 = .ok (.ifCond .eq 12, 3) := by decide +kernel
theorem dX11_cold_11 : decode cX11_cold 11 = .ok (.iload_n 2, 1) := by decide +kernel
theorem dX11_cold_12 : decode cX11_cold 12 = .ok (.ifCond .lt 8, 3) := by decide +kernel
theorem dX11_cold_15 : decode cX11_cold 15 = .ok (.iload_n 2, 1) := by decide +kernel
theorem dX11_cold_16 : decode cX11_cold 16 = .ok (.iconst 1, 1) := by decide +kernel
theorem dX11_cold_17 : decode cX11_cold 17 = .ok (.if_icmp .le 6, 3) := by decide +kernel
theorem dX11_cold_20 : decode cX11_cold 20 = .ok (.bipush (-2), 2) := by decide +kernel
theorem dX11_cold_22 : decode cX11_cold 22 = .ok (.ireturn, 1) := by decide +kernel
theorem dX11_cold_23 : decode cX11_cold 23 = .ok (.aload_n 0, 1) := by decide +kernel
theorem dX11_cold_24 : decode cX11_cold 24 = .ok (.getfield 28, 3) := by decide +kernel
theorem dX11_cold_27 : decode cX11_cold 27 = .ok (.iload_n 1, 1) := by decide +kernel
theorem dX11_cold_28 : decode cX11_cold 28 = .ok (.invokevirtual 214, 3) := by decide +kernel
theorem dX11_cold_31 : decode cX11_cold 31 = .ok (.iload_n 2, 1) := by decide +kernel
theorem dX11_cold_32 : decode cX11_cold 32 = .ok (.ifCond .ne 13, 3) := by decide +kernel
theorem dX11_cold_35 : decode cX11_cold 35 = .ok (.aload_n 0, 1) := by decide +kernel
theorem dX11_cold_36 : decode cX11_cold 36 = .ok (.getfield 28, 3) := by decide +kernel
theorem dX11_cold_39 : decode cX11_cold 39 = .ok (.getfield 217, 3) := by decide +kernel
theorem dX11_cold_42 : decode cX11_cold 42 = .ok (.goto 10, 3) := by decide +kernel
theorem dX11_cold_45 : decode cX11_cold 45 = .ok (.aload_n 0, 1) := by decide +kernel
theorem dX11_cold_46 : decode cX11_cold 46 = .ok (.getfield 28, 3) := by decide +kernel
theorem dX11_cold_49 : decode cX11_cold 49 = .ok (.getfield 220, 3) := by decide +kernel
theorem dX11_cold_52 : decode cX11_cold 52 = .ok (.ireturn, 1) := by decide +kernel
theorem dX11_come_0 : decode cX11_come 0 = .ok (.aload_n 0, 1) := by decide +kernel
theorem dX11_come_1 : decode cX11_come 1 = .ok (.getfield 12, 3) := by decide +kernel
theorem dX11_come_4 : decode cX11_come 4 = .ok (.iload_n 1, 1) := by decide +kernel
theorem dX11_come_5 : decode cX11_come 5 = .ok (.invokevirtual 94, 3) := by decide +kernel
theorem dX11_come_8 : decode cX11_come 8 = .ok (.ifCond .eq 12, 3) := by decide +kernel
theorem dX11_come_11 : decode cX11_come 11 = .ok (.iload_n 2, 1) := by decide +kernel
theorem dX11_come_12 : decode cX11_come 12 = .ok (.ifCond .lt 8, 3) := by decide +kernel
theorem dX11_come_15 : decode cX11_come 15 = .ok (.iload_n 2, 1) := by decide +kernel
theorem dX11_come_16 : decode cX11_come 16 = .ok (.iconst 1, 1) := by decide +kernel
theorem dX11_come_17 : decode cX11_come 17 = .ok (.if_icmp .le 6, 3) := by decide +kernel
theorem dX11_come_20 : decode cX11_come 20 = .ok (.bipush (-2), 2) := by decide +kernel
theorem dX11_come_22 : decode cX11_come 22 = .ok (.ireturn, 1) := by decide +kernel
theorem dX11_come_23 : decode cX11_come 23 = .ok (.aload_n 0, 1) := by decide +kernel
theorem dX11_come_24 : decode cX11_come 24 = .ok (.getfield 28, 3) := by decide +kernel
theorem dX11_come_27 : decode cX11_come 27 = .ok (.iload_n 1, 1) := by decide +kernel
theorem dX11_come_28 : decode cX11_come 28 = .ok (.invokevirtual 223, 3) := by decide +kernel
theorem dX11_come_31 : decode cX11_come 31 = .ok (.iload_n 2, 1) := by decide +kernel
theorem dX11_come_32 : decode cX11_come 32 = .ok (.ifCond .ne 13, 3) := by decide +kernel
theorem dX11_come_35 : decode cX11_come 35 = .ok (.aload_n 0, 1) := by decide +kernel
theorem dX11_come_36 : decode cX11_come 36 = .ok (.getfield 28, 3) := by decide +kernel
theorem dX11_come_39 : decode cX11_come 39 = .ok (.getfield 226, 3) := by decide +kernel
theorem dX11_come_42 : decode cX11_come 42 = .ok (.goto 10, 3) := by decide +kernel
theorem dX11_come_45 : decode cX11_come 45 = .ok (.aload_n 0, 1) := by decide +kernel
theorem dX11_come_46 : decode cX11_come 46 = .ok (.getfield 28, 3) := by decide +kernel
theorem dX11_come_49 : decode cX11_come 49 = .ok (.getfield 229, 3) := by decide +kernel
theorem dX11_come_52 : decode cX11_come 52 = .ok (.ireturn, 1) := by decide +kernel
theorem dX11_sale_0 : decode cX11_sale 0 = .ok (.aload_n 0, 1) := by decide +kernel
theorem dX11_sale_1 : decode cX11_sale 1 = .ok (.getfield 28, 3) := by decide +kernel
theorem dX11_sale_4 : decode cX11_sale 4 = .ok (.invokevirtual 232, 3) := by decide +kernel
theorem dX11_sale_7 : decode cX11_sale 7 = .ok (.ireturn, 1) := by decide +kernel
theorem dX11_listen_0 : decode cX11_listen 0 = .ok (.iload_n 3, 1) := by decide +kernel
theorem dX11_listen_1 : decode cX11_listen 1 = .ok (.ifCond .lt 9, 3) := by decide +kernel
theorem dX11_listen_4 : decode cX11_listen 4 = .ok (.iload_n 3, 1) := by decide +kernel
theorem dX11_listen_5 : decode cX11_listen 5 = .ok (.bipush 8, 2) := by decide +kernel
theorem dX11_listen_7 : decode cX11_listen 7 = .ok (.if_icmp .le 6, 3) := by decide +kernel
theorem dX11_listen_10 : decode cX11_listen 10 = .ok (.bipush (-2), 2) := by decide +kernel
theorem dX11_listen_12 : decode cX11_listen 12 = .ok (.ireturn, 1) := by decide +kernel
theorem dX11_listen_13 : decode cX11_listen 13 = .ok (.aload_n 0, 1) := by decide +kernel
theorem dX11_listen_14 : decode cX11_listen 14 = .ok (.getfield 12, 3) := by decide +kernel
theorem dX11_listen_17 : decode cX11_listen 17 = .ok (.getfield 235, 3) := by decide +kernel
theorem dX11_listen_20 : decode cX11_listen 20 = .ok (.iload_n 1, 1) := by decide +kernel
theorem dX11_listen_21 : decode cX11_listen 21 = .ok (.iload_n 2, 1) := by decide +kernel
theorem dX11_listen_22 : decode cX11_listen 22 = .ok (.iload_n 3, 1) := by decide +kernel
theorem dX11_listen_23 : decode cX11_listen 23 = .ok (.invokestatic 127, 3) := by decide +kernel
theorem dX11_listen_26 : decode cX11_listen 26 = .ok (.ireturn, 1) := by decide +kernel
theorem dX11_forget_0 : decode cX11_forget 0 = .ok (.aload_n 0, 1) := by decide +kernel
theorem dX11_forget_1 : decode cX11_forget 1 = .ok (.getfield 12, 3) := by decide +kernel
theorem dX11_forget_4 : decode cX11_forget 4 = .ok (.getfield 235, 3) := by decide +kernel
theorem dX11_forget_7 : decode cX11_forget 7 = .ok (.getfield 134, 3) := by decide +kernel
theorem dX11_forget_10 : decode cX11_forget 10 = .ok (.istore_n 1, 1) := by decide +kernel
theorem dX11_forget_11 : decode cX11_forget 11 = .ok (.aload_n 0, 1) := by decide +kernel
theorem dX11_forget_12 : decode cX11_forget 12 = .ok (.getfield 12, 3) := by decide +kernel
theorem dX11_forget_15 : decode cX11_forget 15 = .ok (.getfield 235, 3) := by decide +kernel
theorem dX11_forget_18 : decode cX11_forget 18 = .ok (.iconst 0, 1) := by decide +kernel
theorem dX11_forget_19 : decode cX11_forget 19 = .ok (.putfield 134, 3) := by decide +kernel
theorem dX11_forget_22 : decode cX11_forget 22 = .ok (.iload_n 1, 1) := by decide +kernel
theorem dX11_forget_23 : decode cX11_forget 23 = .ok (.ireturn, 1) := by decide +kernel
theorem dX11_never_0 : decode cX11_never 0 = .ok (.aload_n 0, 1) := by decide +kernel
theorem dX11_never_1 : decode cX11_never 1 = .ok (.getfield 35, 3) := by decide +kernel
theorem dX11_never_4 : decode cX11_never 4 = .ok (.invokevirtual 238, 3) := by decide +kernel
theorem dX11_never_7 : decode cX11_never 7 = .ok (.ireturn, 1) := by decide +kernel
theorem dX11_was_0 : decode cX11_was 0 = .ok (.aload_n 0, 1) := by decide +kernel
theorem dX11_was_1 : decode cX11_was 1 = .ok (.getfield 12, 3) := by decide +kernel
theorem dX11_was_4 : decode cX11_was 4 = .ok (.iload_n 1, 1) := by decide +kernel
theorem dX11_was_5 : decode cX11_was 5 = .ok (.invokevirtual 94, 3) := by decide +kernel
theorem dX11_was_8 : decode cX11_was 8 = .ok (.ifCond .eq 12, 3) := by decide +kernel
theorem dX11_was_11 : decode cX11_was 11 = .ok (.iload_n 2, 1) := by decide +kernel
theorem dX11_was_12 : decode cX11_was 12 = .ok (.ifCond .lt 8, 3) := by decide +kernel
theorem dX11_was_15 : decode cX11_was 15 = .ok (.iload_n 2, 1) := by decide +kernel
theorem dX11_was_16 : decode cX11_was 16 = .ok (.iconst 1, 1) := by decide +kernel
theorem dX11_was_17 : decode cX11_was 17 = .ok (.if_icmp .le 6, 3) := by decide +kernel
theorem dX11_was_20 : decode cX11_was 20 = .ok (.bipush (-2), 2) := by decide +kernel
theorem dX11_was_22 : decode cX11_was 22 = .ok (.ireturn, 1) := by decide +kernel
theorem dX11_was_23 : decode cX11_was 23 = .ok (.iload_n 2, 1) := by decide +kernel
theorem dX11_was_24 : decode cX11_was 24 = .ok (.ifCond .ne 14, 3) := by decide +kernel
theorem dX11_was_27 : decode cX11_was 27 = .ok (.aload_n 0, 1) := by decide +kernel
theorem dX11_was_28 : decode cX11_was 28 = .ok (.getfield 35, 3) := by decide +kernel
theorem dX11_was_31 : decode cX11_was 31 = .ok (.iload_n 1, 1) := by decide +kernel
theorem dX11_was_32 : decode cX11_was 32 = .ok (.invokevirtual 241, 3) := by decide +kernel
theorem dX11_was_35 : decode cX11_was 35 = .ok (.goto 11, 3) := by decide +kernel
theorem dX11_was_38 : decode cX11_was 38 = .ok (.aload_n 0, 1) := by decide +kernel
theorem dX11_was_39 : decode cX11_was 39 = .ok (.getfield 35, 3) := by decide +kernel
theorem dX11_was_42 : decode cX11_was 42 = .ok (.iload_n 1, 1) := by decide +kernel
theorem dX11_was_43 : decode cX11_was 43 = .ok (.invokevirtual 244, 3) := by decide +kernel
theorem dX11_was_46 : decode cX11_was 46 = .ok (.ireturn, 1) := by decide +kernel
theorem dX11_ask_0 : decode cX11_ask 0 = .ok (.aload_n 0, 1) := by decide +kernel
theorem dX11_ask_1 : decode cX11_ask 1 = .ok (.getfield 12, 3) := by decide +kernel
theorem dX11_ask_4 : decode cX11_ask 4 = .ok (.iload_n 1, 1) := by decide +kernel
theorem dX11_ask_5 : decode cX11_ask 5 = .ok (.invokevirtual 94, 3) := by decide +kernel
theorem dX11_ask_8 : decode cX11_ask 8 = .ok (.ifCond .ne 6, 3) := by decide +kernel
theorem dX11_ask_11 : decode cX11_ask 11 = .ok (.bipush (-2), 2) := by decide +kernel
theorem dX11_ask_13 : decode cX11_ask 13 = .ok (.ireturn, 1) := by decide +kernel
theorem dX11_ask_14 : decode cX11_ask 14 = .ok (.aload_n 0, 1) := by decide +kernel
theorem dX11_ask_15 : decode cX11_ask 15 = .ok (.getfield 35, 3) := by decide +kernel
theorem dX11_ask_18 : decode cX11_ask 18 = .ok (.iload_n 1, 1) := by decide +kernel
theorem dX11_ask_19 : decode cX11_ask 19 = .ok (.aload_n 0, 1) := by decide +kernel
theorem dX11_ask_20 : decode cX11_ask 20 = .ok (.getfield 35, 3) := by decide +kernel
theorem dX11_ask_23 : decode cX11_ask 23 = .ok (.iload_n 1, 1) := by decide +kernel
theorem dX11_ask_24 : decode cX11_ask 24 = .ok (.invokevirtual 241, 3) := by decide +kernel
theorem dX11_ask_27 : decode cX11_ask 27 = .ok (.invokevirtual 247, 3) := by decide +kernel
theorem dX11_ask_30 : decode cX11_ask 30 = .ok (.ireturn, 1) := by decide +kernel
theorem dX11_frost_0 : decode cX11_frost 0 = .ok (.iload_n 1, 1) := by decide +kernel
theorem dX11_frost_1 : decode cX11_frost 1 = .ok (.ifCond .lt 23, 3) := by decide +kernel
theorem dX11_frost_4 : decode cX11_frost 4 = .ok (.iload_n 1, 1) := by decide +kernel
theorem dX11_frost_5 : decode cX11_frost 5 = .ok (.bipush 16, 2) := by decide +kernel
theorem dX11_frost_7 : decode cX11_frost 7 = .ok (.if_icmp .gt 17, 3) := by decide +kernel
theorem dX11_frost_10 : decode cX11_frost 10 = .ok (.iload_n 2, 1) := by decide +kernel
theorem dX11_frost_11 : decode cX11_frost 11 = .ok (.ifCond .lt 13, 3) := by decide +kernel
theorem dX11_frost_14 : decode cX11_frost 14 = .ok (.iload_n 2, 1) := by decide +kernel
theorem dX11_frost_15 : decode cX11_frost 15 = .ok (.bipush 9, 2) := by decide +kernel
theorem dX11_frost_17 : decode cX11_frost 17 = .ok (.if_icmp .gt 7, 3) := by decide +kernel
theorem dX11_frost_20 : decode cX11_frost 20 = .ok (.iconst 1, 1) := by decide +kernel
theorem dX11_frost_21 : decode cX11_frost 21 = .ok (.goto 4, 3) := by decide +kernel
theorem dX11_frost_24 : decode cX11_frost 24 = .ok (.iconst 0, 1) := by decide +kernel
theorem dX11_frost_25 : decode cX11_frost 25 = .ok (.istore 6, 2) := by decide +kernel
theorem dX11_frost_27 : decode cX11_frost 27 = .ok (.iload 6, 2) := by decide +kernel
theorem dX11_frost_29 : decode cX11_frost 29 = .ok (.ifCond .eq 33, 3) := by decide +kernel
theorem dX11_frost_32 : decode cX11_frost 32 = .ok (.aload_n 0, 1) := by decide +kernel
theorem dX11_frost_33 : decode cX11_frost 33 = .ok (.getfield 12, 3) := by decide +kernel
theorem dX11_frost_36 : decode cX11_frost 36 = .ok (.iload_n 3, 1) := by decide +kernel
theorem dX11_frost_37 : decode cX11_frost 37 = .ok (.invokevirtual 94, 3) := by decide +kernel
theorem dX11_frost_40 : decode cX11_frost 40 = .ok (.ifCond .eq 22, 3) := by decide +kernel
theorem dX11_frost_43 : decode cX11_frost 43 = .ok (.iload 4, 2) := by decide +kernel
theorem dX11_frost_45 : decode cX11_frost 45 = .ok (.invokestatic 111, 3) := by decide +kernel
theorem dX11_frost_48 : decode cX11_frost 48 = .ok (.ifCond .eq 14, 3) := by decide +kernel
theorem dX11_frost_51 : decode cX11_frost 51 = .ok (.iload 5, 2) := by decide +kernel
theorem dX11_frost_53 : decode cX11_frost 53 = .ok (.ifCond .lt 9, 3) := by decide +kernel
theorem dX11_frost_56 : decode cX11_frost 56 = .ok (.iload 5, 2) := by decide +kernel
theorem dX11_frost_58 : decode cX11_frost 58 = .ok (.iconst 1, 1) := by decide +kernel
theorem dX11_frost_59 : decode cX11_frost 59 = .ok (.if_icmp .le 7, 3) := by decide +kernel
theorem dX11_frost_62 : decode cX11_frost 62 = .ok (.ldc2_w 250, 3) := by decide +kernel
theorem dX11_frost_65 : decode cX11_frost 65 = .ok (.lreturn, 1) := by decide +kernel
theorem dX11_frost_66 : decode cX11_frost 66 = .ok (.aload_n 0, 1) := by decide +kernel
theorem dX11_frost_67 : decode cX11_frost 67 = .ok (.getfield 42, 3) := by decide +kernel
theorem dX11_frost_70 : decode cX11_frost 70 = .ok (.iload_n 1, 1) := by decide +kernel
theorem dX11_frost_71 : decode cX11_frost 71 = .ok (.iload_n 2, 1) := by decide +kernel
theorem dX11_frost_72 : decode cX11_frost 72 = .ok (.iload_n 3, 1) := by decide +kernel
theorem dX11_frost_73 : decode cX11_frost 73 = .ok (.iload 4, 2) := by decide +kernel
theorem dX11_frost_75 : decode cX11_frost 75 = .ok (.invokevirtual 252, 3) := by decide +kernel
theorem dX11_frost_78 : decode cX11_frost 78 = .ok (.iload 5, 2) := by decide +kernel
theorem dX11_frost_80 : decode cX11_frost 80 = .ok (.ifCond .ne 13, 3) := by decide +kernel
theorem dX11_frost_83 : decode cX11_frost 83 = .ok (.aload_n 0, 1) := by decide +kernel
theorem dX11_frost_84 : decode cX11_frost 84 = .ok (.getfield 42, 3) := by decide +kernel
theorem dX11_frost_87 : decode cX11_frost 87 = .ok (.getfield 256, 3) := by decide +kernel
theorem dX11_frost_90 : decode cX11_frost 90 = .ok (.goto 10, 3) := by decide +kernel
theorem dX11_frost_93 : decode cX11_frost 93 = .ok (.aload_n 0, 1) := by decide +kernel
theorem dX11_frost_94 : decode cX11_frost 94 = .ok (.getfield 42, 3) := by decide +kernel
theorem dX11_frost_97 : decode cX11_frost 97 = .ok (.getfield 260, 3) := by decide +kernel
theorem dX11_frost_100 : decode cX11_frost 100 = .ok (.lreturn, 1) := by decide +kernel
theorem dX11_summer_0 : decode cX11_summer 0 = .ok (.iload_n 2, 1) := by decide +kernel
theorem dX11_summer_1 : decode cX11_summer 1 = .ok (.ifCond .lt 18, 3) := by decide +kernel
theorem dX11_summer_4 : decode cX11_summer 4 = .ok (.iload_n 2, 1) := by decide +kernel
theorem dX11_summer_5 : decode cX11_summer 5 = .ok (.bipush 30, 2) := by decide +kernel
theorem dX11_summer_7 : decode cX11_summer 7 = .ok (.if_icmp .gt 12, 3) := by decide +kernel
theorem dX11_summer_10 : decode cX11_summer 10 = .ok (.iload_n 3, 1) := by decide +kernel
theorem dX11_summer_11 : decode cX11_summer 11 = .ok (.ifCond .lt 8, 3) := by decide +kernel
theorem dX11_summer_14 : decode cX11_summer 14 = .ok (.iload_n 3, 1) := by decide +kernel
theorem dX11_summer_15 : decode cX11_summer 15 = .ok (.iconst 1, 1) := by decide +kernel
theorem dX11_summer_16 : decode cX11_summer 16 = .ok (.if_icmp .le 6, 3) := by decide +kernel
theorem dX11_summer_19 : decode cX11_summer 19 = .ok (.bipush (-2), 2) := by decide +kernel
theorem dX11_summer_21 : decode cX11_summer 21 = .ok (.ireturn, 1) := by decide +kernel
theorem dX11_summer_22 : decode cX11_summer 22 = .ok (.aload_n 0, 1) := by decide +kernel
theorem dX11_summer_23 : decode cX11_summer 23 = .ok (.getfield 42, 3) := by decide +kernel
theorem dX11_summer_26 : decode cX11_summer 26 = .ok (.iload_n 1, 1) := by decide +kernel
theorem dX11_summer_27 : decode cX11_summer 27 = .ok (.iload_n 2, 1) := by decide +kernel
theorem dX11_summer_28 : decode cX11_summer 28 = .ok (.invokevirtual 263, 3) := by decide +kernel
theorem dX11_summer_31 : decode cX11_summer 31 = .ok (.iload_n 3, 1) := by decide +kernel
theorem dX11_summer_32 : decode cX11_summer 32 = .ok (.ifCond .ne 13, 3) := by decide +kernel
theorem dX11_summer_35 : decode cX11_summer 35 = .ok (.aload_n 0, 1) := by decide +kernel
theorem dX11_summer_36 : decode cX11_summer 36 = .ok (.getfield 42, 3) := by decide +kernel
theorem dX11_summer_39 : decode cX11_summer 39 = .ok (.getfield 266, 3) := by decide +kernel
theorem dX11_summer_42 : decode cX11_summer 42 = .ok (.goto 10, 3) := by decide +kernel
theorem dX11_summer_45 : decode cX11_summer 45 = .ok (.aload_n 0, 1) := by decide +kernel
theorem dX11_summer_46 : decode cX11_summer 46 = .ok (.getfield 42, 3) := by decide +kernel
theorem dX11_summer_49 : decode cX11_summer 49 = .ok (.getfield 269, 3) := by decide +kernel
theorem dX11_summer_52 : decode cX11_summer 52 = .ok (.ireturn, 1) := by decide +kernel
theorem dX11_sheet_0 : decode cX11_sheet 0 = .ok (.aload_n 0, 1) := by decide +kernel
theorem dX11_sheet_1 : decode cX11_sheet 1 = .ok (.iload_n 1, 1) := by decide +kernel
theorem dX11_sheet_2 : decode cX11_sheet 2 = .ok (.invokevirtual 139, 3) := by decide +kernel
theorem dX11_sheet_5 : decode cX11_sheet 5 = .ok (.ifCond .eq 16, 3) := by decide +kernel
theorem dX11_sheet_8 : decode cX11_sheet 8 = .ok (.iload_n 2, 1) := by decide +kernel
theorem dX11_sheet_9 : decode cX11_sheet 9 = .ok (.invokestatic 272, 3) := by decide +kernel
theorem dX11_sheet_12 : decode cX11_sheet 12 = .ok (.ifCond .eq 9, 3) := by decide +kernel
theorem dX11_sheet_15 : decode cX11_sheet 15 = .ok (.iload_n 3, 1) := by decide +kernel
theorem dX11_sheet_16 : decode cX11_sheet 16 = .ok (.bipush 60, 2) := by decide +kernel
theorem dX11_sheet_18 : decode cX11_sheet 18 = .ok (.if_icmp .le 6, 3) := by decide +kernel
theorem dX11_sheet_21 : decode cX11_sheet 21 = .ok (.bipush (-2), 2) := by decide +kernel
theorem dX11_sheet_23 : decode cX11_sheet 23 = .ok (.ireturn, 1) := by decide +kernel
theorem dX11_sheet_24 : decode cX11_sheet 24 = .ok (.iload_n 3, 1) := by decide +kernel
theorem dX11_sheet_25 : decode cX11_sheet 25 = .ok (.ifCond .ge 9, 3) := by decide +kernel
theorem dX11_sheet_28 : decode cX11_sheet 28 = .ok (.aload_n 0, 1) := by decide +kernel
theorem dX11_sheet_29 : decode cX11_sheet 29 = .ok (.iconst 5, 1) := by decide +kernel
theorem dX11_sheet_30 : decode cX11_sheet 30 = .ok (.invokevirtual 146, 3) := by decide +kernel
theorem dX11_sheet_33 : decode cX11_sheet 33 = .ok (.ireturn, 1) := by decide +kernel
theorem dX11_sheet_34 : decode cX11_sheet 34 = .ok (.aload_n 0, 1) := by decide +kernel
theorem dX11_sheet_35 : decode cX11_sheet 35 = .ok (.getfield 48, 3) := by decide +kernel
theorem dX11_sheet_38 : decode cX11_sheet 38 = .ok (.iload_n 1, 1) := by decide +kernel
theorem dX11_sheet_39 : decode cX11_sheet 39 = .ok (.aaload, 1) := by decide +kernel
theorem dX11_sheet_40 : decode cX11_sheet 40 = .ok (.iload_n 2, 1) := by decide +kernel
theorem dX11_sheet_41 : decode cX11_sheet 41 = .ok (.iload_n 3, 1) := by decide +kernel
theorem dX11_sheet_42 : decode cX11_sheet 42 = .ok (.invokevirtual 275, 3) := by decide +kernel
theorem dX11_sheet_45 : decode cX11_sheet 45 = .ok (.iload_n 3, 1) := by decide +kernel
theorem dX11_sheet_46 : decode cX11_sheet 46 = .ok (.ireturn, 1) := by decide +kernel
theorem dX11_lose_0 : decode cX11_lose 0 = .ok (.aload_n 0, 1) := by decide +kernel
theorem dX11_lose_1 : decode cX11_lose 1 = .ok (.iload_n 1, 1) := by decide +kernel
theorem dX11_lose_2 : decode cX11_lose 2 = .ok (.invokevirtual 139, 3) := by decide +kernel
theorem dX11_lose_5 : decode cX11_lose 5 = .ok (.ifCond .ne 6, 3) := by decide +kernel
theorem dX11_lose_8 : decode cX11_lose 8 = .ok (.bipush (-2), 2) := by decide +kernel
theorem dX11_lose_10 : decode cX11_lose 10 = .ok (.ireturn, 1) := by decide +kernel
theorem dX11_lose_11 : decode cX11_lose 11 = .ok (.aload_n 0, 1) := by decide +kernel
theorem dX11_lose_12 : decode cX11_lose 12 = .ok (.getfield 48, 3) := by decide +kernel
theorem dX11_lose_15 : decode cX11_lose 15 = .ok (.iload_n 1, 1) := by decide +kernel
theorem dX11_lose_16 : decode cX11_lose 16 = .ok (.aaload, 1) := by decide +kernel
theorem dX11_lose_17 : decode cX11_lose 17 = .ok (.getfield 142, 3) := by decide +kernel
theorem dX11_lose_20 : decode cX11_lose 20 = .ok (.ifCond .eq 9, 3) := by decide +kernel
theorem dX11_lose_23 : decode cX11_lose 23 = .ok (.aload_n 0, 1) := by decide +kernel
theorem dX11_lose_24 : decode cX11_lose 24 = .ok (.iconst 1, 1) := by decide +kernel
theorem dX11_lose_25 : decode cX11_lose 25 = .ok (.invokevirtual 146, 3) := by decide +kernel
theorem dX11_lose_28 : decode cX11_lose 28 = .ok (.ireturn, 1) := by decide +kernel
theorem dX11_lose_29 : decode cX11_lose 29 = .ok (.aload_n 0, 1) := by decide +kernel
theorem dX11_lose_30 : decode cX11_lose 30 = .ok (.getfield 48, 3) := by decide +kernel
theorem dX11_lose_33 : decode cX11_lose 33 = .ok (.iload_n 1, 1) := by decide +kernel
theorem dX11_lose_34 : decode cX11_lose 34 = .ok (.aaload, 1) := by decide +kernel
theorem dX11_lose_35 : decode cX11_lose 35 = .ok (.iconst 1, 1) := by decide +kernel
theorem dX11_lose_36 : decode cX11_lose 36 = .ok (.putfield 142, 3) := by decide +kernel
theorem dX11_lose_39 : decode cX11_lose 39 = .ok (.aload_n 0, 1) := by decide +kernel
theorem dX11_lose_40 : decode cX11_lose 40 = .ok (.getfield 48, 3) := by decide +kernel
theorem dX11_lose_43 : decode cX11_lose 43 = .ok (.iload_n 1, 1) := by decide +kernel
theorem dX11_lose_44 : decode cX11_lose 44 = .ok (.aaload, 1) := by decide +kernel
theorem dX11_lose_45 : decode cX11_lose 45 = .ok (.getfield 149, 3) := by decide +kernel
theorem dX11_lose_48 : decode cX11_lose 48 = .ok (.ireturn, 1) := by decide +kernel
theorem dX11_put_0 : decode cX11_put 0 = .ok (.aload_n 0, 1) := by decide +kernel
theorem dX11_put_1 : decode cX11_put 1 = .ok (.iload_n 1, 1) := by decide +kernel
theorem dX11_put_2 : decode cX11_put 2 = .ok (.invokevirtual 139, 3) := by decide +kernel
theorem dX11_put_5 : decode cX11_put 5 = .ok (.ifCond .eq 10, 3) := by decide +kernel
theorem dX11_put_8 : decode cX11_put 8 = .ok (.iload_n 2, 1) := by decide +kernel
theorem dX11_put_9 : decode cX11_put 9 = .ok (.invokestatic 272, 3) := by decide +kernel
theorem dX11_put_12 : decode cX11_put 12 = .ok (.ifCond .ne 6, 3) := by decide +kernel
theorem dX11_put_15 : decode cX11_put 15 = .ok (.bipush (-2), 2) := by decide +kernel
theorem dX11_put_17 : decode cX11_put 17 = .ok (.ireturn, 1) := by decide +kernel
theorem dX11_put_18 : decode cX11_put 18 = .ok (.aload_n 0, 1) := by decide +kernel
theorem dX11_put_19 : decode cX11_put 19 = .ok (.getfield 48, 3) := by decide +kernel
theorem dX11_put_22 : decode cX11_put 22 = .ok (.iload_n 1, 1) := by decide +kernel
theorem dX11_put_23 : decode cX11_put 23 = .ok (.aaload, 1) := by decide +kernel
theorem dX11_put_24 : decode cX11_put 24 = .ok (.iload_n 2, 1) := by decide +kernel
theorem dX11_put_25 : decode cX11_put 25 = .ok (.iload_n 3, 1) := by decide +kernel
theorem dX11_put_26 : decode cX11_put 26 = .ok (.invokestatic 278, 3) := by decide +kernel
theorem dX11_put_29 : decode cX11_put 29 = .ok (.istore 5, 2) := by decide +kernel
theorem dX11_put_31 : decode cX11_put 31 = .ok (.iload 5, 2) := by decide +kernel
theorem dX11_put_33 : decode cX11_put 33 = .ok (.ifCond .eq 10, 3) := by decide +kernel
theorem dX11_put_36 : decode cX11_put 36 = .ok (.aload_n 0, 1) := by decide +kernel
theorem dX11_put_37 : decode cX11_put 37 = .ok (.iload 5, 2) := by decide +kernel
theorem dX11_put_39 : decode cX11_put 39 = .ok (.invokevirtual 146, 3) := by decide +kernel
theorem dX11_put_42 : decode cX11_put 42 = .ok (.ireturn, 1) := by decide +kernel
theorem dX11_put_43 : decode cX11_put 43 = .ok (.aload_n 0, 1) := by decide +kernel
theorem dX11_put_44 : decode cX11_put 44 = .ok (.getfield 48, 3) := by decide +kernel
theorem dX11_put_47 : decode cX11_put 47 = .ok (.iload_n 1, 1) := by decide +kernel
theorem dX11_put_48 : decode cX11_put 48 = .ok (.aaload, 1) := by decide +kernel
theorem dX11_put_49 : decode cX11_put 49 = .ok (.iload_n 3, 1) := by decide +kernel
theorem dX11_put_50 : decode cX11_put 50 = .ok (.iload 4, 2) := by decide +kernel
theorem dX11_put_52 : decode cX11_put 52 = .ok (.invokevirtual 282, 3) := by decide +kernel
theorem dX11_put_55 : decode cX11_put 55 = .ok (.iconst 1, 1) := by decide +kernel
theorem dX11_put_56 : decode cX11_put 56 = .ok (.ireturn, 1) := by decide +kernel
theorem dX11_get_0 : decode cX11_get 0 = .ok (.aload_n 0, 1) := by decide +kernel
theorem dX11_get_1 : decode cX11_get 1 = .ok (.iload_n 1, 1) := by decide +kernel
theorem dX11_get_2 : decode cX11_get 2 = .ok (.invokevirtual 139, 3) := by decide +kernel
theorem dX11_get_5 : decode cX11_get 5 = .ok (.ifCond .eq 10, 3) := by decide +kernel
theorem dX11_get_8 : decode cX11_get 8 = .ok (.iload_n 2, 1) := by decide +kernel
theorem dX11_get_9 : decode cX11_get 9 = .ok (.invokestatic 272, 3) := by decide +kernel
theorem dX11_get_12 : decode cX11_get 12 = .ok (.ifCond .ne 7, 3) := by decide +kernel
theorem dX11_get_15 : decode cX11_get 15 = .ok (.ldc_w 285, 3) := by decide +kernel
theorem dX11_get_18 : decode cX11_get 18 = .ok (.ireturn, 1) := by decide +kernel
theorem dX11_get_19 : decode cX11_get 19 = .ok (.aload_n 0, 1) := by decide +kernel
theorem dX11_get_20 : decode cX11_get 20 = .ok (.getfield 48, 3) := by decide +kernel
theorem dX11_get_23 : decode cX11_get 23 = .ok (.iload_n 1, 1) := by decide +kernel
theorem dX11_get_24 : decode cX11_get 24 = .ok (.aaload, 1) := by decide +kernel
theorem dX11_get_25 : decode cX11_get 25 = .ok (.iload_n 2, 1) := by decide +kernel
theorem dX11_get_26 : decode cX11_get 26 = .ok (.iload_n 3, 1) := by decide +kernel
theorem dX11_get_27 : decode cX11_get 27 = .ok (.invokestatic 278, 3) := by decide +kernel
theorem dX11_get_30 : decode cX11_get 30 = .ok (.istore 4, 2) := by decide +kernel
theorem dX11_get_32 : decode cX11_get 32 = .ok (.iload 4, 2) := by decide +kernel
theorem dX11_get_34 : decode cX11_get 34 = .ok (.ifCond .eq 14, 3) := by decide +kernel
theorem dX11_get_37 : decode cX11_get 37 = .ok (.aload_n 0, 1) := by decide +kernel
theorem dX11_get_38 : decode cX11_get 38 = .ok (.iload 4, 2) := by decide +kernel
theorem dX11_get_40 : decode cX11_get 40 = .ok (.invokevirtual 146, 3) := by decide +kernel
theorem dX11_get_43 : decode cX11_get 43 = .ok (.pop, 1) := by decide +kernel
theorem dX11_get_44 : decode cX11_get 44 = .ok (.ldc_w 285, 3) := by decide +kernel
theorem dX11_get_47 : decode cX11_get 47 = .ok (.ireturn, 1) := by decide +kernel
theorem dX11_get_48 : decode cX11_get 48 = .ok (.aload_n 0, 1) := by decide +kernel
theorem dX11_get_49 : decode cX11_get 49 = .ok (.getfield 48, 3) := by decide +kernel
theorem dX11_get_52 : decode cX11_get 52 = .ok (.iload_n 1, 1) := by decide +kernel
theorem dX11_get_53 : decode cX11_get 53 = .ok (.aaload, 1) := by decide +kernel
theorem dX11_get_54 : decode cX11_get 54 = .ok (.iload_n 3, 1) := by decide +kernel
theorem dX11_get_55 : decode cX11_get 55 = .ok (.invokevirtual 152, 3) := by decide +kernel
theorem dX11_get_58 : decode cX11_get 58 = .ok (.ireturn, 1) := by decide +kernel
theorem dX11_copy_0 : decode cX11_copy 0 = .ok (.aload_n 0, 1) := by decide +kernel
theorem dX11_copy_1 : decode cX11_copy 1 = .ok (.iload_n 1, 1) := by decide +kernel
theorem dX11_copy_2 : decode cX11_copy 2 = .ok (.invokevirtual 139, 3) := by decide +kernel
theorem dX11_copy_5 : decode cX11_copy 5 = .ok (.ifCond .eq 11, 3) := by decide +kernel
theorem dX11_copy_8 : decode cX11_copy 8 = .ok (.aload_n 0, 1) := by decide +kernel
theorem dX11_copy_9 : decode cX11_copy 9 = .ok (.iload_n 3, 1) := by decide +kernel
theorem dX11_copy_10 : decode cX11_copy 10 = .ok (.invokevirtual 139, 3) := by decide +kernel
theorem dX11_copy_13 : decode cX11_copy 13 = .ok (.ifCond .ne 6, 3) := by decide +kernel
theorem dX11_copy_16 : decode cX11_copy 16 = .ok (.bipush (-2), 2) := by decide +kernel
theorem dX11_copy_18 : decode cX11_copy 18 = .ok (.ireturn, 1) := by decide +kernel
theorem dX11_copy_19 : decode cX11_copy 19 = .ok (.aload_n 0, 1) := by decide +kernel
theorem dX11_copy_20 : decode cX11_copy 20 = .ok (.getfield 48, 3) := by decide +kernel
theorem dX11_copy_23 : decode cX11_copy 23 = .ok (.iload_n 1, 1) := by decide +kernel
theorem dX11_copy_24 : decode cX11_copy 24 = .ok (.aaload, 1) := by decide +kernel
theorem dX11_copy_25 : decode cX11_copy 25 = .ok (.astore 6, 2) := by decide +kernel
theorem dX11_copy_27 : decode cX11_copy 27 = .ok (.aload_n 0, 1) := by decide +kernel
theorem dX11_copy_28 : decode cX11_copy 28 = .ok (.getfield 48, 3) := by decide +kernel
theorem dX11_copy_31 : decode cX11_copy 31 = .ok (.iload_n 3, 1) := by decide +kernel
theorem dX11_copy_32 : decode cX11_copy 32 = .ok (.aaload, 1) := by decide +kernel
theorem dX11_copy_33 : decode cX11_copy 33 = .ok (.astore 7, 2) := by decide +kernel
theorem dX11_copy_35 : decode cX11_copy 35 = .ok (.aload 6, 2) := by decide +kernel
theorem dX11_copy_37 : decode cX11_copy 37 = .ok (.getfield 142, 3) := by decide +kernel
theorem dX11_copy_40 : decode cX11_copy 40 = .ok (.ifCond .ne 11, 3) := by decide +kernel
theorem dX11_copy_43 : decode cX11_copy 43 = .ok (.aload 7, 2) := by decide +kernel
theorem dX11_copy_45 : decode cX11_copy 45 = .ok (.getfield 142, 3) := by decide +kernel
theorem dX11_copy_48 : decode cX11_copy 48 = .ok (.ifCond .eq 9, 3) := by decide +kernel
theorem dX11_copy_51 : decode cX11_copy 51 = .ok (.aload_n 0, 1) := by decide +kernel
theorem dX11_copy_52 : decode cX11_copy 52 = .ok (.iconst 1, 1) := by decide +kernel
theorem dX11_copy_53 : decode cX11_copy 53 = .ok (.invokevirtual 146, 3) := by decide +kernel
theorem dX11_copy_56 : decode cX11_copy 56 = .ok (.ireturn, 1) := by decide +kernel
theorem dX11_copy_57 : decode cX11_copy 57 = .ok (.aload 6, 2) := by decide +kernel
theorem dX11_copy_59 : decode cX11_copy 59 = .ok (.getfield 286, 3) := by decide +kernel
theorem dX11_copy_62 : decode cX11_copy 62 = .ok (.aload 7, 2) := by decide +kernel
theorem dX11_copy_64 : decode cX11_copy 64 = .ok (.getfield 286, 3) := by decide +kernel
theorem dX11_copy_67 : decode cX11_copy 67 = .ok (.if_icmp .eq 9, 3) := by decide +kernel
theorem dX11_copy_70 : decode cX11_copy 70 = .ok (.aload_n 0, 1) := by decide +kernel
theorem dX11_copy_71 : decode cX11_copy 71 = .ok (.iconst 4, 1) := by decide +kernel
theorem dX11_copy_72 : decode cX11_copy 72 = .ok (.invokevirtual 146, 3) := by decide +kernel
theorem dX11_copy_75 : decode cX11_copy 75 = .ok (.ireturn, 1) := by decide +kernel
theorem dX11_copy_76 : decode cX11_copy 76 = .ok (.aload 6, 2) := by decide +kernel
theorem dX11_copy_78 : decode cX11_copy 78 = .ok (.iload_n 2, 1) := by decide +kernel
theorem dX11_copy_79 : decode cX11_copy 79 = .ok (.iload 5, 2) := by decide +kernel
theorem dX11_copy_81 : decode cX11_copy 81 = .ok (.invokevirtual 289, 3) := by decide +kernel
theorem dX11_copy_84 : decode cX11_copy 84 = .ok (.ifCond .eq 15, 3) := by decide +kernel
theorem dX11_copy_87 : decode cX11_copy 87 = .ok (.aload 7, 2) := by decide +kernel
theorem dX11_copy_89 : decode cX11_copy 89 = .ok (.iload 4, 2) := by decide +kernel
theorem dX11_copy_91 : decode cX11_copy 91 = .ok (.iload 5, 2) := by decide +kernel
theorem dX11_copy_93 : decode cX11_copy 93 = .ok (.invokevirtual 289, 3) := by decide +kernel
theorem dX11_copy_96 : decode cX11_copy 96 = .ok (.ifCond .ne 9, 3) := by decide +kernel
theorem dX11_copy_99 : decode cX11_copy 99 = .ok (.aload_n 0, 1) := by decide +kernel
theorem dX11_copy_100 : decode cX11_copy 100 = .ok (.iconst 2, 1) := by decide +kernel
theorem dX11_copy_101 : decode cX11_copy 101 = .ok (.invokevirtual 146, 3) := by decide +kernel
theorem dX11_copy_104 : decode cX11_copy 104 = .ok (.ireturn, 1) := by decide +kernel
theorem dX11_copy_105 : decode cX11_copy 105 = .ok (.aload 6, 2) := by decide +kernel
theorem dX11_copy_107 : decode cX11_copy 107 = .ok (.getfield 293, 3) := by decide +kernel
theorem dX11_copy_110 : decode cX11_copy 110 = .ok (.iload_n 2, 1) := by decide +kernel
theorem dX11_copy_111 : decode cX11_copy 111 = .ok (.aload 7, 2) := by decide +kernel
theorem dX11_copy_113 : decode cX11_copy 113 = .ok (.getfield 293, 3) := by decide +kernel
theorem dX11_copy_116 : decode cX11_copy 116 = .ok (.iload 4, 2) := by decide +kernel
theorem dX11_copy_118 : decode cX11_copy 118 = .ok (.iload 5, 2) := by decide +kernel
theorem dX11_copy_120 : decode cX11_copy 120 = .ok (.invokestatic 297, 3) := by decide +kernel
theorem dX11_copy_123 : decode cX11_copy 123 = .ok (.iconst 1, 1) := by decide +kernel
theorem dX11_copy_124 : decode cX11_copy 124 = .ok (.ireturn, 1) := by decide +kernel
theorem dX11_write_0 : decode cX11_write 0 = .ok (.aload_n 0, 1) := by decide +kernel
theorem dX11_write_1 : decode cX11_write 1 = .ok (.getfield 12, 3) := by decide +kernel
theorem dX11_write_4 : decode cX11_write 4 = .ok (.iload_n 1, 1) := by decide +kernel
theorem dX11_write_5 : decode cX11_write 5 = .ok (.invokevirtual 94, 3) := by decide +kernel
theorem dX11_write_8 : decode cX11_write 8 = .ok (.ifCond .eq 11, 3) := by decide +kernel
theorem dX11_write_11 : decode cX11_write 11 = .ok (.aload_n 0, 1) := by decide +kernel
theorem dX11_write_12 : decode cX11_write 12 = .ok (.iload_n 2, 1) := by decide +kernel
theorem dX11_write_13 : decode cX11_write 13 = .ok (.invokevirtual 139, 3) := by decide +kernel
theorem dX11_write_16 : decode cX11_write 16 = .ok (.ifCond .ne 6, 3) := by decide +kernel
theorem dX11_write_19 : decode cX11_write 19 = .ok (.bipush (-2), 2) := by decide +kernel
theorem dX11_write_21 : decode cX11_write 21 = .ok (.ireturn, 1) := by decide +kernel
theorem dX11_write_22 : decode cX11_write 22 = .ok (.aload_n 0, 1) := by decide +kernel
theorem dX11_write_23 : decode cX11_write 23 = .ok (.getfield 48, 3) := by decide +kernel
theorem dX11_write_26 : decode cX11_write 26 = .ok (.iload_n 2, 1) := by decide +kernel
theorem dX11_write_27 : decode cX11_write 27 = .ok (.aaload, 1) := by decide +kernel
theorem dX11_write_28 : decode cX11_write 28 = .ok (.astore_n 3, 1) := by decide +kernel
theorem dX11_write_29 : decode cX11_write 29 = .ok (.aload_n 3, 1) := by decide +kernel
theorem dX11_write_30 : decode cX11_write 30 = .ok (.getfield 142, 3) := by decide +kernel
theorem dX11_write_33 : decode cX11_write 33 = .ok (.ifCond .eq 9, 3) := by decide +kernel
theorem dX11_write_36 : decode cX11_write 36 = .ok (.aload_n 0, 1) := by decide +kernel
theorem dX11_write_37 : decode cX11_write 37 = .ok (.iconst 1, 1) := by decide +kernel
theorem dX11_write_38 : decode cX11_write 38 = .ok (.invokevirtual 146, 3) := by decide +kernel
theorem dX11_write_41 : decode cX11_write 41 = .ok (.ireturn, 1) := by decide +kernel
theorem dX11_write_42 : decode cX11_write 42 = .ok (.aload_n 0, 1) := by decide +kernel
theorem dX11_write_43 : decode cX11_write 43 = .ok (.getfield 12, 3) := by decide +kernel
theorem dX11_write_46 : decode cX11_write 46 = .ok (.iload_n 1, 1) := by decide +kernel
theorem dX11_write_47 : decode cX11_write 47 = .ok (.invokevirtual 155, 3) := by decide +kernel
theorem dX11_write_50 : decode cX11_write 50 = .ok (.astore 4, 2) := by decide +kernel
theorem dX11_write_52 : decode cX11_write 52 = .ok (.aload 4, 2) := by decide +kernel
theorem dX11_write_54 : decode cX11_write 54 = .ok (.invokevirtual 159, 3) := by decide +kernel
theorem dX11_write_57 : decode cX11_write 57 = .ok (.aload_n 3, 1) := by decide +kernel
theorem dX11_write_58 : decode cX11_write 58 = .ok (.getfield 149, 3) := by decide +kernel
theorem dX11_write_61 : decode cX11_write 61 = .ok (.bipush 30, 2) := by decide +kernel
theorem dX11_write_63 : decode cX11_write 63 = .ok (.invokestatic 303, 3) := by decide +kernel
theorem dX11_write_66 : decode cX11_write 66 = .ok (.istore 5, 2) := by decide +kernel
theorem dX11_write_68 : decode cX11_write 68 = .ok (.iconst 0, 1) := by decide +kernel
theorem dX11_write_69 : decode cX11_write 69 = .ok (.istore 6, 2) := by decide +kernel
theorem dX11_write_71 : decode cX11_write 71 = .ok (.iload 6, 2) := by decide +kernel
theorem dX11_write_73 : decode cX11_write 73 = .ok (.iload 5, 2) := by decide +kernel
theorem dX11_write_75 : decode cX11_write 75 = .ok (.if_icmp .ge 22, 3) := by decide +kernel
theorem dX11_write_78 : decode cX11_write 78 = .ok (.aload_n 3, 1) := by decide +kernel
theorem dX11_write_79 : decode cX11_write 79 = .ok (.iload 6, 2) := by decide +kernel
theorem dX11_write_81 : decode cX11_write 81 = .ok (.aload 4, 2) := by decide +kernel
theorem dX11_write_83 : decode cX11_write 83 = .ok (.iload 6, 2) := by decide +kernel
theorem dX11_write_85 : decode cX11_write 85 = .ok (.invokevirtual 167, 3) := by decide +kernel
theorem dX11_write_88 : decode cX11_write 88 = .ok (.invokevirtual 282, 3) := by decide +kernel
theorem dX11_write_91 : decode cX11_write 91 = .ok (.iinc 6 1, 3) := by decide +kernel
theorem dX11_write_94 : decode cX11_write 94 = .ok (.goto (-23), 3) := by decide +kernel
theorem dX11_write_97 : decode cX11_write 97 = .ok (.iload 5, 2) := by decide +kernel
theorem dX11_write_99 : decode cX11_write 99 = .ok (.ireturn, 1) := by decide +kernel
theorem dX11_count_0 : decode cX11_count 0 = .ok (.iload_n 1, 1) := by decide +kernel
theorem dX11_count_1 : decode cX11_count 1 = .ok (.tableswitch 141 0 8 #[51, 62, 73, 84, 95, 106, 117, 125, 136], 51) := by decide +kernel
theorem dX11_count_52 : decode cX11_count 52 = .ok (.aload_n 0, 1) := by decide +kernel
theorem dX11_count_53 : decode cX11_count 53 = .ok (.getfield 12, 3) := by decide +kernel
theorem dX11_count_56 : decode cX11_count 56 = .ok (.getfield 78, 3) := by decide +kernel
theorem dX11_count_59 : decode cX11_count 59 = .ok (.getfield 308, 3) := by decide +kernel
theorem dX11_count_62 : decode cX11_count 62 = .ok (.ireturn, 1) := by decide +kernel
theorem dX11_count_63 : decode cX11_count 63 = .ok (.aload_n 0, 1) := by decide +kernel
theorem dX11_count_64 : decode cX11_count 64 = .ok (.getfield 12, 3) := by decide +kernel
theorem dX11_count_67 : decode cX11_count 67 = .ok (.getfield 87, 3) := by decide +kernel
theorem dX11_count_70 : decode cX11_count 70 = .ok (.getfield 309, 3) := by decide +kernel
theorem dX11_count_73 : decode cX11_count 73 = .ok (.ireturn, 1) := by decide +kernel
theorem dX11_count_74 : decode cX11_count 74 = .ok (.aload_n 0, 1) := by decide +kernel
theorem dX11_count_75 : decode cX11_count 75 = .ok (.getfield 12, 3) := by decide +kernel
theorem dX11_count_78 : decode cX11_count 78 = .ok (.getfield 312, 3) := by decide +kernel
theorem dX11_count_81 : decode cX11_count 81 = .ok (.getfield 74, 3) := by decide +kernel
theorem dX11_count_84 : decode cX11_count 84 = .ok (.ireturn, 1) := by decide +kernel
theorem dX11_count_85 : decode cX11_count 85 = .ok (.aload_n 0, 1) := by decide +kernel
theorem dX11_count_86 : decode cX11_count 86 = .ok (.getfield 12, 3) := by decide +kernel
theorem dX11_count_89 : decode cX11_count 89 = .ok (.getfield 316, 3) := by decide +kernel
theorem dX11_count_92 : decode cX11_count 92 = .ok (.getfield 74, 3) := by decide +kernel
theorem dX11_count_95 : decode cX11_count 95 = .ok (.ireturn, 1) := by decide +kernel
theorem dX11_count_96 : decode cX11_count 96 = .ok (.aload_n 0, 1) := by decide +kernel
theorem dX11_count_97 : decode cX11_count 97 = .ok (.getfield 12, 3) := by decide +kernel
theorem dX11_count_100 : decode cX11_count 100 = .ok (.getfield 123, 3) := by decide +kernel
theorem dX11_count_103 : decode cX11_count 103 = .ok (.getfield 134, 3) := by decide +kernel
theorem dX11_count_106 : decode cX11_count 106 = .ok (.ireturn, 1) := by decide +kernel
theorem dX11_count_107 : decode cX11_count 107 = .ok (.aload_n 0, 1) := by decide +kernel
theorem dX11_count_108 : decode cX11_count 108 = .ok (.getfield 12, 3) := by decide +kernel
theorem dX11_count_111 : decode cX11_count 111 = .ok (.getfield 131, 3) := by decide +kernel
theorem dX11_count_114 : decode cX11_count 114 = .ok (.getfield 134, 3) := by decide +kernel
theorem dX11_count_117 : decode cX11_count 117 = .ok (.ireturn, 1) := by decide +kernel
theorem dX11_count_118 : decode cX11_count 118 = .ok (.aload_n 0, 1) := by decide +kernel
theorem dX11_count_119 : decode cX11_count 119 = .ok (.getfield 21, 3) := by decide +kernel
theorem dX11_count_122 : decode cX11_count 122 = .ok (.invokevirtual 319, 3) := by decide +kernel
theorem dX11_count_125 : decode cX11_count 125 = .ok (.ireturn, 1) := by decide +kernel
theorem dX11_count_126 : decode cX11_count 126 = .ok (.aload_n 0, 1) := by decide +kernel
theorem dX11_count_127 : decode cX11_count 127 = .ok (.getfield 12, 3) := by decide +kernel
theorem dX11_count_130 : decode cX11_count 130 = .ok (.getfield 235, 3) := by decide +kernel
theorem dX11_count_133 : decode cX11_count 133 = .ok (.getfield 134, 3) := by decide +kernel
theorem dX11_count_136 : decode cX11_count 136 = .ok (.ireturn, 1) := by decide +kernel
theorem dX11_count_137 : decode cX11_count 137 = .ok (.aload_n 0, 1) := by decide +kernel
theorem dX11_count_138 : decode cX11_count 138 = .ok (.getfield 322, 3) := by decide +kernel
theorem dX11_count_141 : decode cX11_count 141 = .ok (.ireturn, 1) := by decide +kernel
theorem dX11_count_142 : decode cX11_count 142 = .ok (.bipush (-2), 2) := by decide +kernel
theorem dX11_count_144 : decode cX11_count 144 = .ok (.ireturn, 1) := by decide +kernel
theorem dX11_digest_0 : decode cX11_digest 0 = .ok (.ldc2_w 325, 3) := by decide +kernel
theorem dX11_digest_3 : decode cX11_digest 3 = .ok (.lstore_n 1, 1) := by decide +kernel
theorem dX11_digest_4 : decode cX11_digest 4 = .ok (.iconst 0, 1) := by decide +kernel
theorem dX11_digest_5 : decode cX11_digest 5 = .ok (.istore_n 3, 1) := by decide +kernel
theorem dX11_digest_6 : decode cX11_digest 6 = .ok (.iload_n 3, 1) := by decide +kernel
theorem dX11_digest_7 : decode cX11_digest 7 = .ok (.bipush 7, 2) := by decide +kernel
theorem dX11_digest_9 : decode cX11_digest 9 = .ok (.if_icmp .gt 22, 3) := by decide +kernel
theorem dX11_digest_12 : decode cX11_digest 12 = .ok (.ldc2_w 327, 3) := by decide +kernel
theorem dX11_digest_15 : decode cX11_digest 15 = .ok (.lload_n 1, 1) := by decide +kernel
theorem dX11_digest_16 : decode cX11_digest 16 = .ok (.lmul, 1) := by decide +kernel
theorem dX11_digest_17 : decode cX11_digest 17 = .ok (.aload_n 0, 1) := by decide +kernel
theorem dX11_digest_18 : decode cX11_digest 18 = .ok (.iload_n 3, 1) := by decide +kernel
theorem dX11_digest_19 : decode cX11_digest 19 = .ok (.invokevirtual 329, 3) := by decide +kernel
theorem dX11_digest_22 : decode cX11_digest 22 = .ok (.i2l, 1) := by decide +kernel
theorem dX11_digest_23 : decode cX11_digest 23 = .ok (.ladd, 1) := by decide +kernel
theorem dX11_digest_24 : decode cX11_digest 24 = .ok (.lstore_n 1, 1) := by decide +kernel
theorem dX11_digest_25 : decode cX11_digest 25 = .ok (.iinc 3 1, 3) := by decide +kernel
theorem dX11_digest_28 : decode cX11_digest 28 = .ok (.goto (-22), 3) := by decide +kernel
theorem dX11_digest_31 : decode cX11_digest 31 = .ok (.ldc2_w 327, 3) := by decide +kernel
theorem dX11_digest_34 : decode cX11_digest 34 = .ok (.lload_n 1, 1) := by decide +kernel
theorem dX11_digest_35 : decode cX11_digest 35 = .ok (.lmul, 1) := by decide +kernel
theorem dX11_digest_36 : decode cX11_digest 36 = .ok (.aload_n 0, 1) := by decide +kernel
theorem dX11_digest_37 : decode cX11_digest 37 = .ok (.iconst 0, 1) := by decide +kernel
theorem dX11_digest_38 : decode cX11_digest 38 = .ok (.invokevirtual 332, 3) := by decide +kernel
theorem dX11_digest_41 : decode cX11_digest 41 = .ok (.i2l, 1) := by decide +kernel
theorem dX11_digest_42 : decode cX11_digest 42 = .ok (.ladd, 1) := by decide +kernel
theorem dX11_digest_43 : decode cX11_digest 43 = .ok (.lstore_n 1, 1) := by decide +kernel
theorem dX11_digest_44 : decode cX11_digest 44 = .ok (.ldc2_w 327, 3) := by decide +kernel
theorem dX11_digest_47 : decode cX11_digest 47 = .ok (.lload_n 1, 1) := by decide +kernel
theorem dX11_digest_48 : decode cX11_digest 48 = .ok (.lmul, 1) := by decide +kernel
theorem dX11_digest_49 : decode cX11_digest 49 = .ok (.aload_n 0, 1) := by decide +kernel
theorem dX11_digest_50 : decode cX11_digest 50 = .ok (.iconst 1, 1) := by decide +kernel
theorem dX11_digest_51 : decode cX11_digest 51 = .ok (.invokevirtual 332, 3) := by decide +kernel
theorem dX11_digest_54 : decode cX11_digest 54 = .ok (.i2l, 1) := by decide +kernel
theorem dX11_digest_55 : decode cX11_digest 55 = .ok (.ladd, 1) := by decide +kernel
theorem dX11_digest_56 : decode cX11_digest 56 = .ok (.lstore_n 1, 1) := by decide +kernel
theorem dX11_digest_57 : decode cX11_digest 57 = .ok (.iconst 0, 1) := by decide +kernel
theorem dX11_digest_58 : decode cX11_digest 58 = .ok (.istore_n 3, 1) := by decide +kernel
theorem dX11_digest_59 : decode cX11_digest 59 = .ok (.iload_n 3, 1) := by decide +kernel
theorem dX11_digest_60 : decode cX11_digest 60 = .ok (.getstatic 335, 3) := by decide +kernel
theorem dX11_digest_63 : decode cX11_digest 63 = .ok (.arraylength, 1) := by decide +kernel
theorem dX11_digest_64 : decode cX11_digest 64 = .ok (.if_icmp .ge 26, 3) := by decide +kernel
theorem dX11_digest_67 : decode cX11_digest 67 = .ok (.ldc2_w 327, 3) := by decide +kernel
theorem dX11_digest_70 : decode cX11_digest 70 = .ok (.lload_n 1, 1) := by decide +kernel
theorem dX11_digest_71 : decode cX11_digest 71 = .ok (.lmul, 1) := by decide +kernel
theorem dX11_digest_72 : decode cX11_digest 72 = .ok (.aload_n 0, 1) := by decide +kernel
theorem dX11_digest_73 : decode cX11_digest 73 = .ok (.getstatic 335, 3) := by decide +kernel
theorem dX11_digest_76 : decode cX11_digest 76 = .ok (.iload_n 3, 1) := by decide +kernel
theorem dX11_digest_77 : decode cX11_digest 77 = .ok (.iaload, 1) := by decide +kernel
theorem dX11_digest_78 : decode cX11_digest 78 = .ok (.invokevirtual 338, 3) := by decide +kernel
theorem dX11_digest_81 : decode cX11_digest 81 = .ok (.i2l, 1) := by decide +kernel
theorem dX11_digest_82 : decode cX11_digest 82 = .ok (.ladd, 1) := by decide +kernel
theorem dX11_digest_83 : decode cX11_digest 83 = .ok (.lstore_n 1, 1) := by decide +kernel
theorem dX11_digest_84 : decode cX11_digest 84 = .ok (.iinc 3 1, 3) := by decide +kernel
theorem dX11_digest_87 : decode cX11_digest 87 = .ok (.goto (-28), 3) := by decide +kernel
theorem dX11_digest_90 : decode cX11_digest 90 = .ok (.iconst 0, 1) := by decide +kernel
theorem dX11_digest_91 : decode cX11_digest 91 = .ok (.istore_n 3, 1) := by decide +kernel
theorem dX11_digest_92 : decode cX11_digest 92 = .ok (.iload_n 3, 1) := by decide +kernel
theorem dX11_digest_93 : decode cX11_digest 93 = .ok (.aload_n 0, 1) := by decide +kernel
theorem dX11_digest_94 : decode cX11_digest 94 = .ok (.getfield 12, 3) := by decide +kernel
theorem dX11_digest_97 : decode cX11_digest 97 = .ok (.getfield 78, 3) := by decide +kernel
theorem dX11_digest_100 : decode cX11_digest 100 = .ok (.getfield 308, 3) := by decide +kernel
theorem dX11_digest_103 : decode cX11_digest 103 = .ok (.if_icmp .ge 30, 3) := by decide +kernel
theorem dX11_digest_106 : decode cX11_digest 106 = .ok (.aload_n 0, 1) := by decide +kernel
theorem dX11_digest_107 : decode cX11_digest 107 = .ok (.lload_n 1, 1) := by decide +kernel
theorem dX11_digest_108 : decode cX11_digest 108 = .ok (.iload_n 3, 1) := by decide +kernel
theorem dX11_digest_109 : decode cX11_digest 109 = .ok (.invokevirtual 341, 3) := by decide +kernel
theorem dX11_digest_112 : decode cX11_digest 112 = .ok (.lstore_n 1, 1) := by decide +kernel
theorem dX11_digest_113 : decode cX11_digest 113 = .ok (.aload_n 0, 1) := by decide +kernel
theorem dX11_digest_114 : decode cX11_digest 114 = .ok (.lload_n 1, 1) := by decide +kernel
theorem dX11_digest_115 : decode cX11_digest 115 = .ok (.iload_n 3, 1) := by decide +kernel
theorem dX11_digest_116 : decode cX11_digest 116 = .ok (.invokevirtual 345, 3) := by decide +kernel
theorem dX11_digest_119 : decode cX11_digest 119 = .ok (.lstore_n 1, 1) := by decide +kernel
theorem dX11_digest_120 : decode cX11_digest 120 = .ok (.aload_n 0, 1) := by decide +kernel
theorem dX11_digest_121 : decode cX11_digest 121 = .ok (.lload_n 1, 1) := by decide +kernel
theorem dX11_digest_122 : decode cX11_digest 122 = .ok (.iload_n 3, 1) := by decide +kernel
theorem dX11_digest_123 : decode cX11_digest 123 = .ok (.invokevirtual 348, 3) := by decide +kernel
theorem dX11_digest_126 : decode cX11_digest 126 = .ok (.lstore_n 1, 1) := by decide +kernel
theorem dX11_digest_127 : decode cX11_digest 127 = .ok (.iinc 3 1, 3) := by decide +kernel
theorem dX11_digest_130 : decode cX11_digest 130 = .ok (.goto (-38), 3) := by decide +kernel
theorem dX11_digest_133 : decode cX11_digest 133 = .ok (.aload_n 0, 1) := by decide +kernel
theorem dX11_digest_134 : decode cX11_digest 134 = .ok (.lload_n 1, 1) := by decide +kernel
theorem dX11_digest_135 : decode cX11_digest 135 = .ok (.invokevirtual 351, 3) := by decide +kernel
theorem dX11_digest_138 : decode cX11_digest 138 = .ok (.lreturn, 1) := by decide +kernel
theorem dX11_mixNights_0 : decode cX11_mixNights 0 = .ok (.lload_n 1, 1) := by decide +kernel
theorem dX11_mixNights_1 : decode cX11_mixNights 1 = .ok (.lstore 4, 2) := by decide +kernel
theorem dX11_mixNights_3 : decode cX11_mixNights 3 = .ok (.iconst 0, 1) := by decide +kernel
theorem dX11_mixNights_4 : decode cX11_mixNights 4 = .ok (.istore 6, 2) := by decide +kernel
theorem dX11_mixNights_6 : decode cX11_mixNights 6 = .ok (.iload 6, 2) := by decide +kernel
theorem dX11_mixNights_8 : decode cX11_mixNights 8 = .ok (.bipush 7, 2) := by decide +kernel
theorem dX11_mixNights_10 : decode cX11_mixNights 10 = .ok (.if_icmp .gt 26, 3) := by decide +kernel
theorem dX11_mixNights_13 : decode cX11_mixNights 13 = .ok (.ldc2_w 327, 3) := by decide +kernel
theorem dX11_mixNights_16 : decode cX11_mixNights 16 = .ok (.lload 4, 2) := by decide +kernel
theorem dX11_mixNights_18 : decode cX11_mixNights 18 = .ok (.lmul, 1) := by decide +kernel
theorem dX11_mixNights_19 : decode cX11_mixNights 19 = .ok (.aload_n 0, 1) := by decide +kernel
theorem dX11_mixNights_20 : decode cX11_mixNights 20 = .ok (.iload_n 3, 1) := by decide +kernel
theorem dX11_mixNights_21 : decode cX11_mixNights 21 = .ok (.iload 6, 2) := by decide +kernel
theorem dX11_mixNights_23 : decode cX11_mixNights 23 = .ok (.invokevirtual 355, 3) := by decide +kernel
theorem dX11_mixNights_26 : decode cX11_mixNights 26 = .ok (.i2l, 1) := by decide +kernel
theorem dX11_mixNights_27 : decode cX11_mixNights 27 = .ok (.ladd, 1) := by decide +kernel
theorem dX11_mixNights_28 : decode cX11_mixNights 28 = .ok (.lstore 4, 2) := by decide +kernel
theorem dX11_mixNights_30 : decode cX11_mixNights 30 = .ok (.iinc 6 1, 3) := by decide +kernel
theorem dX11_mixNights_33 : decode cX11_mixNights 33 = .ok (.goto (-27), 3) := by decide +kernel
theorem dX11_mixNights_36 : decode cX11_mixNights 36 = .ok (.aload_n 0, 1) := by decide +kernel
theorem dX11_mixNights_37 : decode cX11_mixNights 37 = .ok (.getfield 12, 3) := by decide +kernel
theorem dX11_mixNights_40 : decode cX11_mixNights 40 = .ok (.iload_n 3, 1) := by decide +kernel
theorem dX11_mixNights_41 : decode cX11_mixNights 41 = .ok (.invokevirtual 155, 3) := by decide +kernel
theorem dX11_mixNights_44 : decode cX11_mixNights 44 = .ok (.astore 6, 2) := by decide +kernel
theorem dX11_mixNights_46 : decode cX11_mixNights 46 = .ok (.aload 6, 2) := by decide +kernel
theorem dX11_mixNights_48 : decode cX11_mixNights 48 = .ok (.invokevirtual 159, 3) := by decide +kernel
theorem dX11_mixNights_51 : decode cX11_mixNights 51 = .ok (.iconst 0, 1) := by decide +kernel
theorem dX11_mixNights_52 : decode cX11_mixNights 52 = .ok (.istore 7, 2) := by decide +kernel
theorem dX11_mixNights_54 : decode cX11_mixNights 54 = .ok (.iload 7, 2) := by decide +kernel
theorem dX11_mixNights_56 : decode cX11_mixNights 56 = .ok (.getstatic 358, 3) := by decide +kernel
theorem dX11_mixNights_59 : decode cX11_mixNights 59 = .ok (.arraylength, 1) := by decide +kernel
theorem dX11_mixNights_60 : decode cX11_mixNights 60 = .ok (.if_icmp .ge 68, 3) := by decide +kernel
theorem dX11_mixNights_63 : decode cX11_mixNights 63 = .ok (.getstatic 358, 3) := by decide +kernel
theorem dX11_mixNights_66 : decode cX11_mixNights 66 = .ok (.iload 7, 2) := by decide +kernel
theorem dX11_mixNights_68 : decode cX11_mixNights 68 = .ok (.iaload, 1) := by decide +kernel
theorem dX11_mixNights_69 : decode cX11_mixNights 69 = .ok (.istore 8, 2) := by decide +kernel
theorem dX11_mixNights_71 : decode cX11_mixNights 71 = .ok (.ldc2_w 327, 3) := by decide +kernel
theorem dX11_mixNights_74 : decode cX11_mixNights 74 = .ok (.lload 4, 2) := by decide +kernel
theorem dX11_mixNights_76 : decode cX11_mixNights 76 = .ok (.lmul, 1) := by decide +kernel
theorem dX11_mixNights_77 : decode cX11_mixNights 77 = .ok (.aload 6, 2) := by decide +kernel
theorem dX11_mixNights_79 : decode cX11_mixNights 79 = .ok (.iload 8, 2) := by decide +kernel
theorem dX11_mixNights_81 : decode cX11_mixNights 81 = .ok (.invokevirtual 164, 3) := by decide +kernel
theorem dX11_mixNights_84 : decode cX11_mixNights 84 = .ok (.i2l, 1) := by decide +kernel
theorem dX11_mixNights_85 : decode cX11_mixNights 85 = .ok (.ladd, 1) := by decide +kernel
theorem dX11_mixNights_86 : decode cX11_mixNights 86 = .ok (.lstore 4, 2) := by decide +kernel
theorem dX11_mixNights_88 : decode cX11_mixNights 88 = .ok (.ldc2_w 327, 3) := by decide +kernel
theorem dX11_mixNights_91 : decode cX11_mixNights 91 = .ok (.lload 4, 2) := by decide +kernel
theorem dX11_mixNights_93 : decode cX11_mixNights 93 = .ok (.lmul, 1) := by decide +kernel
theorem dX11_mixNights_94 : decode cX11_mixNights 94 = .ok (.aload 6, 2) := by decide +kernel
theorem dX11_mixNights_96 : decode cX11_mixNights 96 = .ok (.iload 8, 2) := by decide +kernel
theorem dX11_mixNights_98 : decode cX11_mixNights 98 = .ok (.invokevirtual 167, 3) := by decide +kernel
theorem dX11_mixNights_101 : decode cX11_mixNights 101 = .ok (.i2l, 1) := by decide +kernel
theorem dX11_mixNights_102 : decode cX11_mixNights 102 = .ok (.ladd, 1) := by decide +kernel
theorem dX11_mixNights_103 : decode cX11_mixNights 103 = .ok (.lstore 4, 2) := by decide +kernel
theorem dX11_mixNights_105 : decode cX11_mixNights 105 = .ok (.ldc2_w 327, 3) := by decide +kernel
theorem dX11_mixNights_108 : decode cX11_mixNights 108 = .ok (.lload 4, 2) := by decide +kernel
theorem dX11_mixNights_110 : decode cX11_mixNights 110 = .ok (.lmul, 1) := by decide +kernel
theorem dX11_mixNights_111 : decode cX11_mixNights 111 = .ok (.aload 6, 2) := by decide +kernel
theorem dX11_mixNights_113 : decode cX11_mixNights 113 = .ok (.iload 8, 2) := by decide +kernel
theorem dX11_mixNights_115 : decode cX11_mixNights 115 = .ok (.invokevirtual 170, 3) := by decide +kernel
theorem dX11_mixNights_118 : decode cX11_mixNights 118 = .ok (.i2l, 1) := by decide +kernel
theorem dX11_mixNights_119 : decode cX11_mixNights 119 = .ok (.ladd, 1) := by decide +kernel
theorem dX11_mixNights_120 : decode cX11_mixNights 120 = .ok (.lstore 4, 2) := by decide +kernel
theorem dX11_mixNights_122 : decode cX11_mixNights 122 = .ok (.iinc 7 1, 3) := by decide +kernel
theorem dX11_mixNights_125 : decode cX11_mixNights 125 = .ok (.goto (-71), 3) := by decide +kernel
theorem dX11_mixNights_128 : decode cX11_mixNights 128 = .ok (.ldc2_w 327, 3) := by decide +kernel
theorem dX11_mixNights_131 : decode cX11_mixNights 131 = .ok (.lload 4, 2) := by decide +kernel
theorem dX11_mixNights_133 : decode cX11_mixNights 133 = .ok (.lmul, 1) := by decide +kernel
theorem dX11_mixNights_134 : decode cX11_mixNights 134 = .ok (.aload 6, 2) := by decide +kernel
theorem dX11_mixNights_136 : decode cX11_mixNights 136 = .ok (.invokevirtual 173, 3) := by decide +kernel
theorem dX11_mixNights_139 : decode cX11_mixNights 139 = .ok (.i2l, 1) := by decide +kernel
theorem dX11_mixNights_140 : decode cX11_mixNights 140 = .ok (.ladd, 1) := by decide +kernel
theorem dX11_mixNights_141 : decode cX11_mixNights 141 = .ok (.lreturn, 1) := by decide +kernel
theorem dX11_mixPlans_0 : decode cX11_mixPlans 0 = .ok (.aload_n 0, 1) := by decide +kernel
theorem dX11_mixPlans_1 : decode cX11_mixPlans 1 = .ok (.getfield 28, 3) := by decide +kernel
theorem dX11_mixPlans_4 : decode cX11_mixPlans 4 = .ok (.iload_n 3, 1) := by decide +kernel
theorem dX11_mixPlans_5 : decode cX11_mixPlans 5 = .ok (.bipush 12, 2) := by decide +kernel
theorem dX11_mixPlans_7 : decode cX11_mixPlans 7 = .ok (.invokevirtual 201, 3) := by decide +kernel
theorem dX11_mixPlans_10 : decode cX11_mixPlans 10 = .ok (.aload_n 0, 1) := by decide +kernel
theorem dX11_mixPlans_11 : decode cX11_mixPlans 11 = .ok (.getfield 28, 3) := by decide +kernel
theorem dX11_mixPlans_14 : decode cX11_mixPlans 14 = .ok (.iload_n 3, 1) := by decide +kernel
theorem dX11_mixPlans_15 : decode cX11_mixPlans 15 = .ok (.invokevirtual 214, 3) := by decide +kernel
theorem dX11_mixPlans_18 : decode cX11_mixPlans 18 = .ok (.aload_n 0, 1) := by decide +kernel
theorem dX11_mixPlans_19 : decode cX11_mixPlans 19 = .ok (.getfield 28, 3) := by decide +kernel
theorem dX11_mixPlans_22 : decode cX11_mixPlans 22 = .ok (.iload_n 3, 1) := by decide +kernel
theorem dX11_mixPlans_23 : decode cX11_mixPlans 23 = .ok (.invokevirtual 223, 3) := by decide +kernel
theorem dX11_mixPlans_26 : decode cX11_mixPlans 26 = .ok (.ldc2_w 327, 3) := by decide +kernel
theorem dX11_mixPlans_29 : decode cX11_mixPlans 29 = .ok (.lload_n 1, 1) := by decide +kernel
theorem dX11_mixPlans_30 : decode cX11_mixPlans 30 = .ok (.lmul, 1) := by decide +kernel
theorem dX11_mixPlans_31 : decode cX11_mixPlans 31 = .ok (.aload_n 0, 1) := by decide +kernel
theorem dX11_mixPlans_32 : decode cX11_mixPlans 32 = .ok (.getfield 28, 3) := by decide +kernel
theorem dX11_mixPlans_35 : decode cX11_mixPlans 35 = .ok (.getfield 205, 3) := by decide +kernel
theorem dX11_mixPlans_38 : decode cX11_mixPlans 38 = .ok (.i2l, 1) := by decide +kernel
theorem dX11_mixPlans_39 : decode cX11_mixPlans 39 = .ok (.ladd, 1) := by decide +kernel
theorem dX11_mixPlans_40 : decode cX11_mixPlans 40 = .ok (.lstore 4, 2) := by decide +kernel
theorem dX11_mixPlans_42 : decode cX11_mixPlans 42 = .ok (.ldc2_w 327, 3) := by decide +kernel
theorem dX11_mixPlans_45 : decode cX11_mixPlans 45 = .ok (.lload 4, 2) := by decide +kernel
theorem dX11_mixPlans_47 : decode cX11_mixPlans 47 = .ok (.lmul, 1) := by decide +kernel
theorem dX11_mixPlans_48 : decode cX11_mixPlans 48 = .ok (.aload_n 0, 1) := by decide +kernel
theorem dX11_mixPlans_49 : decode cX11_mixPlans 49 = .ok (.getfield 28, 3) := by decide +kernel
theorem dX11_mixPlans_52 : decode cX11_mixPlans 52 = .ok (.getfield 208, 3) := by decide +kernel
theorem dX11_mixPlans_55 : decode cX11_mixPlans 55 = .ok (.i2l, 1) := by decide +kernel
theorem dX11_mixPlans_56 : decode cX11_mixPlans 56 = .ok (.ladd, 1) := by decide +kernel
theorem dX11_mixPlans_57 : decode cX11_mixPlans 57 = .ok (.lstore 4, 2) := by decide +kernel
theorem dX11_mixPlans_59 : decode cX11_mixPlans 59 = .ok (.ldc2_w 327, 3) := by decide +kernel
theorem dX11_mixPlans_62 : decode cX11_mixPlans 62 = .ok (.lload 4, 2) := by decide +kernel
theorem dX11_mixPlans_64 : decode cX11_mixPlans 64 = .ok (.lmul, 1) := by decide +kernel
theorem dX11_mixPlans_65 : decode cX11_mixPlans 65 = .ok (.aload_n 0, 1) := by decide +kernel
theorem dX11_mixPlans_66 : decode cX11_mixPlans 66 = .ok (.getfield 28, 3) := by decide +kernel
theorem dX11_mixPlans_69 : decode cX11_mixPlans 69 = .ok (.getfield 217, 3) := by decide +kernel
theorem dX11_mixPlans_72 : decode cX11_mixPlans 72 = .ok (.i2l, 1) := by decide +kernel
theorem dX11_mixPlans_73 : decode cX11_mixPlans 73 = .ok (.ladd, 1) := by decide +kernel
theorem dX11_mixPlans_74 : decode cX11_mixPlans 74 = .ok (.lstore 4, 2) := by decide +kernel
theorem dX11_mixPlans_76 : decode cX11_mixPlans 76 = .ok (.ldc2_w 327, 3) := by decide +kernel
theorem dX11_mixPlans_79 : decode cX11_mixPlans 79 = .ok (.lload 4, 2) := by decide +kernel
theorem dX11_mixPlans_81 : decode cX11_mixPlans 81 = .ok (.lmul, 1) := by decide +kernel
theorem dX11_mixPlans_82 : decode cX11_mixPlans 82 = .ok (.aload_n 0, 1) := by decide +kernel
theorem dX11_mixPlans_83 : decode cX11_mixPlans 83 = .ok (.getfield 28, 3) := by decide +kernel
theorem dX11_mixPlans_86 : decode cX11_mixPlans 86 = .ok (.getfield 220, 3) := by decide +kernel
theorem dX11_mixPlans_89 : decode cX11_mixPlans 89 = .ok (.i2l, 1) := by decide +kernel
theorem dX11_mixPlans_90 : decode cX11_mixPlans 90 = .ok (.ladd, 1) := by decide +kernel
theorem dX11_mixPlans_91 : decode cX11_mixPlans 91 = .ok (.lstore 4, 2) := by decide +kernel
theorem dX11_mixPlans_93 : decode cX11_mixPlans 93 = .ok (.ldc2_w 327, 3) := by decide +kernel
theorem dX11_mixPlans_96 : decode cX11_mixPlans 96 = .ok (.lload 4, 2) := by decide +kernel
theorem dX11_mixPlans_98 : decode cX11_mixPlans 98 = .ok (.lmul, 1) := by decide +kernel
theorem dX11_mixPlans_99 : decode cX11_mixPlans 99 = .ok (.aload_n 0, 1) := by decide +kernel
theorem dX11_mixPlans_100 : decode cX11_mixPlans 100 = .ok (.getfield 28, 3) := by decide +kernel
theorem dX11_mixPlans_103 : decode cX11_mixPlans 103 = .ok (.getfield 226, 3) := by decide +kernel
theorem dX11_mixPlans_106 : decode cX11_mixPlans 106 = .ok (.i2l, 1) := by decide +kernel
theorem dX11_mixPlans_107 : decode cX11_mixPlans 107 = .ok (.ladd, 1) := by decide +kernel
theorem dX11_mixPlans_108 : decode cX11_mixPlans 108 = .ok (.lstore 4, 2) := by decide +kernel
theorem dX11_mixPlans_110 : decode cX11_mixPlans 110 = .ok (.ldc2_w 327, 3) := by decide +kernel
theorem dX11_mixPlans_113 : decode cX11_mixPlans 113 = .ok (.lload 4, 2) := by decide +kernel
theorem dX11_mixPlans_115 : decode cX11_mixPlans 115 = .ok (.lmul, 1) := by decide +kernel
theorem dX11_mixPlans_116 : decode cX11_mixPlans 116 = .ok (.aload_n 0, 1) := by decide +kernel
theorem dX11_mixPlans_117 : decode cX11_mixPlans 117 = .ok (.getfield 28, 3) := by decide +kernel
theorem dX11_mixPlans_120 : decode cX11_mixPlans 120 = .ok (.getfield 229, 3) := by decide +kernel
theorem dX11_mixPlans_123 : decode cX11_mixPlans 123 = .ok (.i2l, 1) := by decide +kernel
theorem dX11_mixPlans_124 : decode cX11_mixPlans 124 = .ok (.ladd, 1) := by decide +kernel
theorem dX11_mixPlans_125 : decode cX11_mixPlans 125 = .ok (.lreturn, 1) := by decide +kernel
theorem dX11_mixClues_0 : decode cX11_mixClues 0 = .ok (.aload_n 0, 1) := by decide +kernel
theorem dX11_mixClues_1 : decode cX11_mixClues 1 = .ok (.getfield 35, 3) := by decide +kernel
theorem dX11_mixClues_4 : decode cX11_mixClues 4 = .ok (.iload_n 3, 1) := by decide +kernel
theorem dX11_mixClues_5 : decode cX11_mixClues 5 = .ok (.invokevirtual 241, 3) := by decide +kernel
theorem dX11_mixClues_8 : decode cX11_mixClues 8 = .ok (.istore 4, 2) := by decide +kernel
theorem dX11_mixClues_10 : decode cX11_mixClues 10 = .ok (.ldc2_w 327, 3) := by decide +kernel
theorem dX11_mixClues_13 : decode cX11_mixClues 13 = .ok (.lload_n 1, 1) := by decide +kernel
theorem dX11_mixClues_14 : decode cX11_mixClues 14 = .ok (.lmul, 1) := by decide +kernel
theorem dX11_mixClues_15 : decode cX11_mixClues 15 = .ok (.iload 4, 2) := by decide +kernel
theorem dX11_mixClues_17 : decode cX11_mixClues 17 = .ok (.i2l, 1) := by decide +kernel
theorem dX11_mixClues_18 : decode cX11_mixClues 18 = .ok (.ladd, 1) := by decide +kernel
theorem dX11_mixClues_19 : decode cX11_mixClues 19 = .ok (.lstore 5, 2) := by decide +kernel
theorem dX11_mixClues_21 : decode cX11_mixClues 21 = .ok (.ldc2_w 327, 3) := by decide +kernel
theorem dX11_mixClues_24 : decode cX11_mixClues 24 = .ok (.lload 5, 2) := by decide +kernel
theorem dX11_mixClues_26 : decode cX11_mixClues 26 = .ok (.lmul, 1) := by decide +kernel
theorem dX11_mixClues_27 : decode cX11_mixClues 27 = .ok (.aload_n 0, 1) := by decide +kernel
theorem dX11_mixClues_28 : decode cX11_mixClues 28 = .ok (.getfield 35, 3) := by decide +kernel
theorem dX11_mixClues_31 : decode cX11_mixClues 31 = .ok (.iload_n 3, 1) := by decide +kernel
theorem dX11_mixClues_32 : decode cX11_mixClues 32 = .ok (.invokevirtual 244, 3) := by decide +kernel
theorem dX11_mixClues_35 : decode cX11_mixClues 35 = .ok (.i2l, 1) := by decide +kernel
theorem dX11_mixClues_36 : decode cX11_mixClues 36 = .ok (.ladd, 1) := by decide +kernel
theorem dX11_mixClues_37 : decode cX11_mixClues 37 = .ok (.lstore 5, 2) := by decide +kernel
theorem dX11_mixClues_39 : decode cX11_mixClues 39 = .ok (.ldc2_w 327, 3) := by decide +kernel
theorem dX11_mixClues_42 : decode cX11_mixClues 42 = .ok (.lload 5, 2) := by decide +kernel
theorem dX11_mixClues_44 : decode cX11_mixClues 44 = .ok (.lmul, 1) := by decide +kernel
theorem dX11_mixClues_45 : decode cX11_mixClues 45 = .ok (.aload_n 0, 1) := by decide +kernel
theorem dX11_mixClues_46 : decode cX11_mixClues 46 = .ok (.getfield 35, 3) := by decide +kernel
theorem dX11_mixClues_49 : decode cX11_mixClues 49 = .ok (.iload_n 3, 1) := by decide +kernel
theorem dX11_mixClues_50 : decode cX11_mixClues 50 = .ok (.iload 4, 2) := by decide +kernel
theorem dX11_mixClues_52 : decode cX11_mixClues 52 = .ok (.invokevirtual 247, 3) := by decide +kernel
theorem dX11_mixClues_55 : decode cX11_mixClues 55 = .ok (.i2l, 1) := by decide +kernel
theorem dX11_mixClues_56 : decode cX11_mixClues 56 = .ok (.ladd, 1) := by decide +kernel
theorem dX11_mixClues_57 : decode cX11_mixClues 57 = .ok (.lstore 5, 2) := by decide +kernel
theorem dX11_mixClues_59 : decode cX11_mixClues 59 = .ok (.aload_n 0, 1) := by decide +kernel
theorem dX11_mixClues_60 : decode cX11_mixClues 60 = .ok (.getfield 42, 3) := by decide +kernel
theorem dX11_mixClues_63 : decode cX11_mixClues 63 = .ok (.iconst 5, 1) := by decide +kernel
theorem dX11_mixClues_64 : decode cX11_mixClues 64 = .ok (.iconst 5, 1) := by decide +kernel
theorem dX11_mixClues_65 : decode cX11_mixClues 65 = .ok (.iload_n 3, 1) := by decide +kernel
theorem dX11_mixClues_66 : decode cX11_mixClues 66 = .ok (.bipush 12, 2) := by decide +kernel
theorem dX11_mixClues_68 : decode cX11_mixClues 68 = .ok (.invokevirtual 252, 3) := by decide +kernel
theorem dX11_mixClues_71 : decode cX11_mixClues 71 = .ok (.ldc2_w 327, 3) := by decide +kernel
theorem dX11_mixClues_74 : decode cX11_mixClues 74 = .ok (.lload 5, 2) := by decide +kernel
theorem dX11_mixClues_76 : decode cX11_mixClues 76 = .ok (.lmul, 1) := by decide +kernel
theorem dX11_mixClues_77 : decode cX11_mixClues 77 = .ok (.aload_n 0, 1) := by decide +kernel
theorem dX11_mixClues_78 : decode cX11_mixClues 78 = .ok (.getfield 42, 3) := by decide +kernel
theorem dX11_mixClues_81 : decode cX11_mixClues 81 = .ok (.getfield 256, 3) := by decide +kernel
theorem dX11_mixClues_84 : decode cX11_mixClues 84 = .ok (.ladd, 1) := by decide +kernel
theorem dX11_mixClues_85 : decode cX11_mixClues 85 = .ok (.lstore 5, 2) := by decide +kernel
theorem dX11_mixClues_87 : decode cX11_mixClues 87 = .ok (.ldc2_w 327, 3) := by decide +kernel
theorem dX11_mixClues_90 : decode cX11_mixClues 90 = .ok (.lload 5, 2) := by decide +kernel
theorem dX11_mixClues_92 : decode cX11_mixClues 92 = .ok (.lmul, 1) := by decide +kernel
theorem dX11_mixClues_93 : decode cX11_mixClues 93 = .ok (.aload_n 0, 1) := by decide +kernel
theorem dX11_mixClues_94 : decode cX11_mixClues 94 = .ok (.getfield 42, 3) := by decide +kernel
theorem dX11_mixClues_97 : decode cX11_mixClues 97 = .ok (.getfield 260, 3) := by decide +kernel
theorem dX11_mixClues_100 : decode cX11_mixClues 100 = .ok (.ladd, 1) := by decide +kernel
theorem dX11_mixClues_101 : decode cX11_mixClues 101 = .ok (.lreturn, 1) := by decide +kernel
theorem dX11_mixAll_0 : decode cX11_mixAll 0 = .ok (.aload_n 0, 1) := by decide +kernel
theorem dX11_mixAll_1 : decode cX11_mixAll 1 = .ok (.getfield 21, 3) := by decide +kernel
theorem dX11_mixAll_4 : decode cX11_mixAll 4 = .ok (.invokevirtual 177, 3) := by decide +kernel
theorem dX11_mixAll_7 : decode cX11_mixAll 7 = .ok (.ldc2_w 327, 3) := by decide +kernel
theorem dX11_mixAll_10 : decode cX11_mixAll 10 = .ok (.lload_n 1, 1) := by decide +kernel
theorem dX11_mixAll_11 : decode cX11_mixAll 11 = .ok (.lmul, 1) := by decide +kernel
theorem dX11_mixAll_12 : decode cX11_mixAll 12 = .ok (.aload_n 0, 1) := by decide +kernel
theorem dX11_mixAll_13 : decode cX11_mixAll 13 = .ok (.getfield 21, 3) := by decide +kernel
theorem dX11_mixAll_16 : decode cX11_mixAll 16 = .ok (.getfield 180, 3) := by decide +kernel
theorem dX11_mixAll_19 : decode cX11_mixAll 19 = .ok (.i2l, 1) := by decide +kernel
theorem dX11_mixAll_20 : decode cX11_mixAll 20 = .ok (.ladd, 1) := by decide +kernel
theorem dX11_mixAll_21 : decode cX11_mixAll 21 = .ok (.lstore_n 3, 1) := by decide +kernel
theorem dX11_mixAll_22 : decode cX11_mixAll 22 = .ok (.ldc2_w 327, 3) := by decide +kernel
theorem dX11_mixAll_25 : decode cX11_mixAll 25 = .ok (.lload_n 3, 1) := by decide +kernel
theorem dX11_mixAll_26 : decode cX11_mixAll 26 = .ok (.lmul, 1) := by decide +kernel
theorem dX11_mixAll_27 : decode cX11_mixAll 27 = .ok (.aload_n 0, 1) := by decide +kernel
theorem dX11_mixAll_28 : decode cX11_mixAll 28 = .ok (.getfield 21, 3) := by decide +kernel
theorem dX11_mixAll_31 : decode cX11_mixAll 31 = .ok (.getfield 183, 3) := by decide +kernel
theorem dX11_mixAll_34 : decode cX11_mixAll 34 = .ok (.i2l, 1) := by decide +kernel
theorem dX11_mixAll_35 : decode cX11_mixAll 35 = .ok (.ladd, 1) := by decide +kernel
theorem dX11_mixAll_36 : decode cX11_mixAll 36 = .ok (.lstore_n 3, 1) := by decide +kernel
theorem dX11_mixAll_37 : decode cX11_mixAll 37 = .ok (.aload_n 0, 1) := by decide +kernel
theorem dX11_mixAll_38 : decode cX11_mixAll 38 = .ok (.getfield 21, 3) := by decide +kernel
theorem dX11_mixAll_41 : decode cX11_mixAll 41 = .ok (.invokevirtual 186, 3) := by decide +kernel
theorem dX11_mixAll_44 : decode cX11_mixAll 44 = .ok (.iconst 0, 1) := by decide +kernel
theorem dX11_mixAll_45 : decode cX11_mixAll 45 = .ok (.istore 5, 2) := by decide +kernel
theorem dX11_mixAll_47 : decode cX11_mixAll 47 = .ok (.iload 5, 2) := by decide +kernel
theorem dX11_mixAll_49 : decode cX11_mixAll 49 = .ok (.bipush 8, 2) := by decide +kernel
theorem dX11_mixAll_51 : decode cX11_mixAll 51 = .ok (.if_icmp .ge 48, 3) := by decide +kernel
theorem dX11_mixAll_54 : decode cX11_mixAll 54 = .ok (.aload_n 0, 1) := by decide +kernel
theorem dX11_mixAll_55 : decode cX11_mixAll 55 = .ok (.getfield 21, 3) := by decide +kernel
theorem dX11_mixAll_58 : decode cX11_mixAll 58 = .ok (.iload 5, 2) := by decide +kernel
theorem dX11_mixAll_60 : decode cX11_mixAll 60 = .ok (.invokevirtual 189, 3) := by decide +kernel
theorem dX11_mixAll_63 : decode cX11_mixAll 63 = .ok (.ldc2_w 327, 3) := by decide +kernel
theorem dX11_mixAll_66 : decode cX11_mixAll 66 = .ok (.lload_n 3, 1) := by decide +kernel
theorem dX11_mixAll_67 : decode cX11_mixAll 67 = .ok (.lmul, 1) := by decide +kernel
theorem dX11_mixAll_68 : decode cX11_mixAll 68 = .ok (.aload_n 0, 1) := by decide +kernel
theorem dX11_mixAll_69 : decode cX11_mixAll 69 = .ok (.getfield 21, 3) := by decide +kernel
theorem dX11_mixAll_72 : decode cX11_mixAll 72 = .ok (.getfield 192, 3) := by decide +kernel
theorem dX11_mixAll_75 : decode cX11_mixAll 75 = .ok (.i2l, 1) := by decide +kernel
theorem dX11_mixAll_76 : decode cX11_mixAll 76 = .ok (.ladd, 1) := by decide +kernel
theorem dX11_mixAll_77 : decode cX11_mixAll 77 = .ok (.lstore_n 3, 1) := by decide +kernel
theorem dX11_mixAll_78 : decode cX11_mixAll 78 = .ok (.ldc2_w 327, 3) := by decide +kernel
theorem dX11_mixAll_81 : decode cX11_mixAll 81 = .ok (.lload_n 3, 1) := by decide +kernel
theorem dX11_mixAll_82 : decode cX11_mixAll 82 = .ok (.lmul, 1) := by decide +kernel
theorem dX11_mixAll_83 : decode cX11_mixAll 83 = .ok (.aload_n 0, 1) := by decide +kernel
theorem dX11_mixAll_84 : decode cX11_mixAll 84 = .ok (.getfield 21, 3) := by decide +kernel
theorem dX11_mixAll_87 : decode cX11_mixAll 87 = .ok (.getfield 195, 3) := by decide +kernel
theorem dX11_mixAll_90 : decode cX11_mixAll 90 = .ok (.i2l, 1) := by decide +kernel
theorem dX11_mixAll_91 : decode cX11_mixAll 91 = .ok (.ladd, 1) := by decide +kernel
theorem dX11_mixAll_92 : decode cX11_mixAll 92 = .ok (.lstore_n 3, 1) := by decide +kernel
theorem dX11_mixAll_93 : decode cX11_mixAll 93 = .ok (.iinc 5 1, 3) := by decide +kernel
theorem dX11_mixAll_96 : decode cX11_mixAll 96 = .ok (.goto (-49), 3) := by decide +kernel
theorem dX11_mixAll_99 : decode cX11_mixAll 99 = .ok (.ldc2_w 327, 3) := by decide +kernel
theorem dX11_mixAll_102 : decode cX11_mixAll 102 = .ok (.lload_n 3, 1) := by decide +kernel
theorem dX11_mixAll_103 : decode cX11_mixAll 103 = .ok (.lmul, 1) := by decide +kernel
theorem dX11_mixAll_104 : decode cX11_mixAll 104 = .ok (.aload_n 0, 1) := by decide +kernel
theorem dX11_mixAll_105 : decode cX11_mixAll 105 = .ok (.getfield 21, 3) := by decide +kernel
theorem dX11_mixAll_108 : decode cX11_mixAll 108 = .ok (.invokevirtual 198, 3) := by decide +kernel
theorem dX11_mixAll_111 : decode cX11_mixAll 111 = .ok (.i2l, 1) := by decide +kernel
theorem dX11_mixAll_112 : decode cX11_mixAll 112 = .ok (.ladd, 1) := by decide +kernel
theorem dX11_mixAll_113 : decode cX11_mixAll 113 = .ok (.lstore_n 3, 1) := by decide +kernel
theorem dX11_mixAll_114 : decode cX11_mixAll 114 = .ok (.ldc2_w 327, 3) := by decide +kernel
theorem dX11_mixAll_117 : decode cX11_mixAll 117 = .ok (.lload_n 3, 1) := by decide +kernel
theorem dX11_mixAll_118 : decode cX11_mixAll 118 = .ok (.lmul, 1) := by decide +kernel
theorem dX11_mixAll_119 : decode cX11_mixAll 119 = .ok (.aload_n 0, 1) := by decide +kernel
theorem dX11_mixAll_120 : decode cX11_mixAll 120 = .ok (.getfield 28, 3) := by decide +kernel
theorem dX11_mixAll_123 : decode cX11_mixAll 123 = .ok (.invokevirtual 232, 3) := by decide +kernel
theorem dX11_mixAll_126 : decode cX11_mixAll 126 = .ok (.i2l, 1) := by decide +kernel
theorem dX11_mixAll_127 : decode cX11_mixAll 127 = .ok (.ladd, 1) := by decide +kernel
theorem dX11_mixAll_128 : decode cX11_mixAll 128 = .ok (.lstore_n 3, 1) := by decide +kernel
theorem dX11_mixAll_129 : decode cX11_mixAll 129 = .ok (.ldc2_w 327, 3) := by decide +kernel
theorem dX11_mixAll_132 : decode cX11_mixAll 132 = .ok (.lload_n 3, 1) := by decide +kernel
theorem dX11_mixAll_133 : decode cX11_mixAll 133 = .ok (.lmul, 1) := by decide +kernel
theorem dX11_mixAll_134 : decode cX11_mixAll 134 = .ok (.aload_n 0, 1) := by decide +kernel
theorem dX11_mixAll_135 : decode cX11_mixAll 135 = .ok (.getfield 35, 3) := by decide +kernel
theorem dX11_mixAll_138 : decode cX11_mixAll 138 = .ok (.invokevirtual 238, 3) := by decide +kernel
theorem dX11_mixAll_141 : decode cX11_mixAll 141 = .ok (.i2l, 1) := by decide +kernel
theorem dX11_mixAll_142 : decode cX11_mixAll 142 = .ok (.ladd, 1) := by decide +kernel
theorem dX11_mixAll_143 : decode cX11_mixAll 143 = .ok (.lstore_n 3, 1) := by decide +kernel
theorem dX11_mixAll_144 : decode cX11_mixAll 144 = .ok (.aload_n 0, 1) := by decide +kernel
theorem dX11_mixAll_145 : decode cX11_mixAll 145 = .ok (.getfield 42, 3) := by decide +kernel
theorem dX11_mixAll_148 : decode cX11_mixAll 148 = .ok (.bipush 7, 2) := by decide +kernel
theorem dX11_mixAll_150 : decode cX11_mixAll 150 = .ok (.bipush 20, 2) := by decide +kernel
theorem dX11_mixAll_152 : decode cX11_mixAll 152 = .ok (.invokevirtual 263, 3) := by decide +kernel
theorem dX11_mixAll_155 : decode cX11_mixAll 155 = .ok (.ldc2_w 327, 3) := by decide +kernel
theorem dX11_mixAll_158 : decode cX11_mixAll 158 = .ok (.lload_n 3, 1) := by decide +kernel
theorem dX11_mixAll_159 : decode cX11_mixAll 159 = .ok (.lmul, 1) := by decide +kernel
theorem dX11_mixAll_160 : decode cX11_mixAll 160 = .ok (.aload_n 0, 1) := by decide +kernel
theorem dX11_mixAll_161 : decode cX11_mixAll 161 = .ok (.getfield 42, 3) := by decide +kernel
theorem dX11_mixAll_164 : decode cX11_mixAll 164 = .ok (.getfield 266, 3) := by decide +kernel
theorem dX11_mixAll_167 : decode cX11_mixAll 167 = .ok (.i2l, 1) := by decide +kernel
theorem dX11_mixAll_168 : decode cX11_mixAll 168 = .ok (.ladd, 1) := by decide +kernel
theorem dX11_mixAll_169 : decode cX11_mixAll 169 = .ok (.lstore_n 3, 1) := by decide +kernel
theorem dX11_mixAll_170 : decode cX11_mixAll 170 = .ok (.ldc2_w 327, 3) := by decide +kernel
theorem dX11_mixAll_173 : decode cX11_mixAll 173 = .ok (.lload_n 3, 1) := by decide +kernel
theorem dX11_mixAll_174 : decode cX11_mixAll 174 = .ok (.lmul, 1) := by decide +kernel
theorem dX11_mixAll_175 : decode cX11_mixAll 175 = .ok (.aload_n 0, 1) := by decide +kernel
theorem dX11_mixAll_176 : decode cX11_mixAll 176 = .ok (.getfield 42, 3) := by decide +kernel
theorem dX11_mixAll_179 : decode cX11_mixAll 179 = .ok (.getfield 269, 3) := by decide +kernel
theorem dX11_mixAll_182 : decode cX11_mixAll 182 = .ok (.i2l, 1) := by decide +kernel
theorem dX11_mixAll_183 : decode cX11_mixAll 183 = .ok (.ladd, 1) := by decide +kernel
theorem dX11_mixAll_184 : decode cX11_mixAll 184 = .ok (.lreturn, 1) := by decide +kernel
theorem dX11_isText_0 : decode cX11_isText 0 = .ok (.iload_n 0, 1) := by decide +kernel
theorem dX11_isText_1 : decode cX11_isText 1 = .ok (.ifCond .eq 8, 3) := by decide +kernel
theorem dX11_isText_4 : decode cX11_isText 4 = .ok (.iload_n 0, 1) := by decide +kernel
theorem dX11_isText_5 : decode cX11_isText 5 = .ok (.iconst 1, 1) := by decide +kernel
theorem dX11_isText_6 : decode cX11_isText 6 = .ok (.if_icmp .ne 7, 3) := by decide +kernel
theorem dX11_isText_9 : decode cX11_isText 9 = .ok (.iconst 1, 1) := by decide +kernel
theorem dX11_isText_10 : decode cX11_isText 10 = .ok (.goto 4, 3) := by decide +kernel
theorem dX11_isText_13 : decode cX11_isText 13 = .ok (.iconst 0, 1) := by decide +kernel
theorem dX11_isText_14 : decode cX11_isText 14 = .ok (.ireturn, 1) := by decide +kernel
theorem dX11_isNight_0 : decode cX11_isNight 0 = .ok (.iload_n 0, 1) := by decide +kernel
theorem dX11_isNight_1 : decode cX11_isNight 1 = .ok (.ifCond .lt 13, 3) := by decide +kernel
theorem dX11_isNight_4 : decode cX11_isNight 4 = .ok (.iload_n 0, 1) := by decide +kernel
theorem dX11_isNight_5 : decode cX11_isNight 5 = .ok (.bipush 30, 2) := by decide +kernel
theorem dX11_isNight_7 : decode cX11_isNight 7 = .ok (.if_icmp .ge 7, 3) := by decide +kernel
theorem dX11_isNight_10 : decode cX11_isNight 10 = .ok (.iconst 1, 1) := by decide +kernel
theorem dX11_isNight_11 : decode cX11_isNight 11 = .ok (.goto 4, 3) := by decide +kernel
theorem dX11_isNight_14 : decode cX11_isNight 14 = .ok (.iconst 0, 1) := by decide +kernel
theorem dX11_isNight_15 : decode cX11_isNight 15 = .ok (.ireturn, 1) := by decide +kernel
theorem dX11_isForm_0 : decode cX11_isForm 0 = .ok (.iload_n 0, 1) := by decide +kernel
theorem dX11_isForm_1 : decode cX11_isForm 1 = .ok (.ifCond .lt 12, 3) := by decide +kernel
theorem dX11_isForm_4 : decode cX11_isForm 4 = .ok (.iload_n 0, 1) := by decide +kernel
theorem dX11_isForm_5 : decode cX11_isForm 5 = .ok (.iconst 3, 1) := by decide +kernel
theorem dX11_isForm_6 : decode cX11_isForm 6 = .ok (.if_icmp .ge 7, 3) := by decide +kernel
theorem dX11_isForm_9 : decode cX11_isForm 9 = .ok (.iconst 1, 1) := by decide +kernel
theorem dX11_isForm_10 : decode cX11_isForm 10 = .ok (.goto 4, 3) := by decide +kernel
theorem dX11_isForm_13 : decode cX11_isForm 13 = .ok (.iconst 0, 1) := by decide +kernel
theorem dX11_isForm_14 : decode cX11_isForm 14 = .ok (.ireturn, 1) := by decide +kernel
theorem dX11_isSheet_0 : decode cX11_isSheet 0 = .ok (.iload_n 1, 1) := by decide +kernel
theorem dX11_isSheet_1 : decode cX11_isSheet 1 = .ok (.ifCond .lt 16, 3) := by decide +kernel
theorem dX11_isSheet_4 : decode cX11_isSheet 4 = .ok (.iload_n 1, 1) := by decide +kernel
theorem dX11_isSheet_5 : decode cX11_isSheet 5 = .ok (.aload_n 0, 1) := by decide +kernel
theorem dX11_isSheet_6 : decode cX11_isSheet 6 = .ok (.getfield 48, 3) := by decide +kernel
theorem dX11_isSheet_9 : decode cX11_isSheet 9 = .ok (.arraylength, 1) := by decide +kernel
theorem dX11_isSheet_10 : decode cX11_isSheet 10 = .ok (.if_icmp .ge 7, 3) := by decide +kernel
theorem dX11_isSheet_13 : decode cX11_isSheet 13 = .ok (.iconst 1, 1) := by decide +kernel
theorem dX11_isSheet_14 : decode cX11_isSheet 14 = .ok (.goto 4, 3) := by decide +kernel
theorem dX11_isSheet_17 : decode cX11_isSheet 17 = .ok (.iconst 0, 1) := by decide +kernel
theorem dX11_isSheet_18 : decode cX11_isSheet 18 = .ok (.ireturn, 1) := by decide +kernel
theorem dX11_addMark_0 : decode cX11_addMark 0 = .ok (.iload_n 1, 1) := by decide +kernel
theorem dX11_addMark_1 : decode cX11_addMark 1 = .ok (.invokestatic 111, 3) := by decide +kernel
theorem dX11_addMark_4 : decode cX11_addMark 4 = .ok (.ifCond .eq 13, 3) := by decide +kernel
theorem dX11_addMark_7 : decode cX11_addMark 7 = .ok (.iload_n 2, 1) := by decide +kernel
theorem dX11_addMark_8 : decode cX11_addMark 8 = .ok (.ifCond .lt 9, 3) := by decide +kernel
theorem dX11_addMark_11 : decode cX11_addMark 11 = .ok (.iload_n 2, 1) := by decide +kernel
theorem dX11_addMark_12 : decode cX11_addMark 12 = .ok (.bipush 8, 2) := by decide +kernel
theorem dX11_addMark_14 : decode cX11_addMark 14 = .ok (.if_icmp .lt 6, 3) := by decide +kernel
theorem dX11_addMark_17 : decode cX11_addMark 17 = .ok (.bipush (-2), 2) := by decide +kernel
theorem dX11_addMark_19 : decode cX11_addMark 19 = .ok (.ireturn, 1) := by decide +kernel
theorem dX11_addMark_20 : decode cX11_addMark 20 = .ok (.aload_n 0, 1) := by decide +kernel
theorem dX11_addMark_21 : decode cX11_addMark 21 = .ok (.invokevirtual 361, 3) := by decide +kernel
theorem dX11_addMark_24 : decode cX11_addMark 24 = .ok (.ifCond .eq 6, 3) := by decide +kernel
theorem dX11_addMark_27 : decode cX11_addMark 27 = .ok (.bipush (-4), 2) := by decide +kernel
theorem dX11_addMark_29 : decode cX11_addMark 29 = .ok (.ireturn, 1) := by decide +kernel
theorem dX11_addMark_30 : decode cX11_addMark 30 = .ok (.aload_n 0, 1) := by decide +kernel
theorem dX11_addMark_31 : decode cX11_addMark 31 = .ok (.iload_n 1, 1) := by decide +kernel
theorem dX11_addMark_32 : decode cX11_addMark 32 = .ok (.iload_n 2, 1) := by decide +kernel
theorem dX11_addMark_33 : decode cX11_addMark 33 = .ok (.iload_n 3, 1) := by decide +kernel
theorem dX11_addMark_34 : decode cX11_addMark 34 = .ok (.invokevirtual 362, 3) := by decide +kernel
theorem dX11_addMark_37 : decode cX11_addMark 37 = .ok (.aload_n 0, 1) := by decide +kernel
theorem dX11_addMark_38 : decode cX11_addMark 38 = .ok (.getfield 134, 3) := by decide +kernel
theorem dX11_addMark_41 : decode cX11_addMark 41 = .ok (.ireturn, 1) := by decide +kernel
theorem dX11_found_0 : decode cX11_found 0 = .ok (.aload_n 0, 1) := by decide +kernel
theorem dX11_found_1 : decode cX11_found 1 = .ok (.iload_n 1, 1) := by decide +kernel
theorem dX11_found_2 : decode cX11_found 2 = .ok (.putfield 322, 3) := by decide +kernel
theorem dX11_found_5 : decode cX11_found 5 = .ok (.bipush (-10), 2) := by decide +kernel
theorem dX11_found_7 : decode cX11_found 7 = .ok (.iload_n 1, 1) := by decide +kernel
theorem dX11_found_8 : decode cX11_found 8 = .ok (.isub, 1) := by decide +kernel
theorem dX11_found_9 : decode cX11_found 9 = .ok (.ireturn, 1) := by decide +kernel
theorem dX11_findingAt_0 : decode cX11_findingAt 0 = .ok (.aload_n 0, 1) := by decide +kernel
theorem dX11_findingAt_1 : decode cX11_findingAt 1 = .ok (.getfield 142, 3) := by decide +kernel
theorem dX11_findingAt_4 : decode cX11_findingAt 4 = .ok (.ifCond .eq 5, 3) := by decide +kernel
theorem dX11_findingAt_7 : decode cX11_findingAt 7 = .ok (.iconst 1, 1) := by decide +kernel
theorem dX11_findingAt_8 : decode cX11_findingAt 8 = .ok (.ireturn, 1) := by decide +kernel
theorem dX11_findingAt_9 : decode cX11_findingAt 9 = .ok (.aload_n 0, 1) := by decide +kernel
theorem dX11_findingAt_10 : decode cX11_findingAt 10 = .ok (.getfield 286, 3) := by decide +kernel
theorem dX11_findingAt_13 : decode cX11_findingAt 13 = .ok (.iload_n 1, 1) := by decide +kernel
theorem dX11_findingAt_14 : decode cX11_findingAt 14 = .ok (.if_icmp .eq 5, 3) := by decide +kernel
theorem dX11_findingAt_17 : decode cX11_findingAt 17 = .ok (.iconst 3, 1) := by decide +kernel
theorem dX11_findingAt_18 : decode cX11_findingAt 18 = .ok (.ireturn, 1) := by decide +kernel
theorem dX11_findingAt_19 : decode cX11_findingAt 19 = .ok (.iload_n 2, 1) := by decide +kernel
theorem dX11_findingAt_20 : decode cX11_findingAt 20 = .ok (.ifCond .lt 11, 3) := by decide +kernel
theorem dX11_findingAt_23 : decode cX11_findingAt 23 = .ok (.iload_n 2, 1) := by decide +kernel
theorem dX11_findingAt_24 : decode cX11_findingAt 24 = .ok (.aload_n 0, 1) := by decide +kernel
theorem dX11_findingAt_25 : decode cX11_findingAt 25 = .ok (.getfield 149, 3) := by decide +kernel
theorem dX11_findingAt_28 : decode cX11_findingAt 28 = .ok (.if_icmp .lt 7, 3) := by decide +kernel
theorem dX11_findingAt_31 : decode cX11_findingAt 31 = .ok (.iconst 2, 1) := by decide +kernel
theorem dX11_findingAt_32 : decode cX11_findingAt 32 = .ok (.goto 4, 3) := by decide +kernel
theorem dX11_findingAt_35 : decode cX11_findingAt 35 = .ok (.iconst 0, 1) := by decide +kernel
theorem dX11_findingAt_36 : decode cX11_findingAt 36 = .ok (.ireturn, 1) := by decide +kernel
theorem dX11_itemOr_0 : decode cX11_itemOr 0 = .ok (.iload_n 1, 1) := by decide +kernel
theorem dX11_itemOr_1 : decode cX11_itemOr 1 = .ok (.ifCond .lt 15, 3) := by decide +kernel
theorem dX11_itemOr_4 : decode cX11_itemOr 4 = .ok (.iload_n 1, 1) := by decide +kernel
theorem dX11_itemOr_5 : decode cX11_itemOr 5 = .ok (.aload_n 0, 1) := by decide +kernel
theorem dX11_itemOr_6 : decode cX11_itemOr 6 = .ok (.arraylength, 1) := by decide +kernel
theorem dX11_itemOr_7 : decode cX11_itemOr 7 = .ok (.if_icmp .ge 9, 3) := by decide +kernel
theorem dX11_itemOr_10 : decode cX11_itemOr 10 = .ok (.aload_n 0, 1) := by decide +kernel
theorem dX11_itemOr_11 : decode cX11_itemOr 11 = .ok (.iload_n 1, 1) := by decide +kernel
theorem dX11_itemOr_12 : decode cX11_itemOr 12 = .ok (.iaload, 1) := by decide +kernel
theorem dX11_itemOr_13 : decode cX11_itemOr 13 = .ok (.goto 4, 3) := by decide +kernel
theorem dX11_itemOr_16 : decode cX11_itemOr 16 = .ok (.iload_n 2, 1) := by decide +kernel
theorem dX11_itemOr_17 : decode cX11_itemOr 17 = .ok (.ireturn, 1) := by decide +kernel
theorem dX11_isOn_0 : decode cX11_isOn 0 = .ok (.iload_n 1, 1) := by decide +kernel
theorem dX11_isOn_1 : decode cX11_isOn 1 = .ok (.ifCond .lt 21, 3) := by decide +kernel
theorem dX11_isOn_4 : decode cX11_isOn 4 = .ok (.iload_n 1, 1) := by decide +kernel
theorem dX11_isOn_5 : decode cX11_isOn 5 = .ok (.bipush 31, 2) := by decide +kernel
theorem dX11_isOn_7 : decode cX11_isOn 7 = .ok (.if_icmp .ge 15, 3) := by decide +kernel
theorem dX11_isOn_10 : decode cX11_isOn 10 = .ok (.iload_n 0, 1) := by decide +kernel
theorem dX11_isOn_11 : decode cX11_isOn 11 = .ok (.iload_n 1, 1) := by decide +kernel
theorem dX11_isOn_12 : decode cX11_isOn 12 = .ok (.ishr, 1) := by decide +kernel
theorem dX11_isOn_13 : decode cX11_isOn 13 = .ok (.iconst 1, 1) := by decide +kernel
theorem dX11_isOn_14 : decode cX11_isOn 14 = .ok (.iand, 1) := by decide +kernel
theorem dX11_isOn_15 : decode cX11_isOn 15 = .ok (.ifCond .eq 7, 3) := by decide +kernel
theorem dX11_isOn_18 : decode cX11_isOn 18 = .ok (.iconst 1, 1) := by decide +kernel
theorem dX11_isOn_19 : decode cX11_isOn 19 = .ok (.goto 4, 3) := by decide +kernel
theorem dX11_isOn_22 : decode cX11_isOn 22 = .ok (.iconst 0, 1) := by decide +kernel
theorem dX11_isOn_23 : decode cX11_isOn 23 = .ok (.ireturn, 1) := by decide +kernel
