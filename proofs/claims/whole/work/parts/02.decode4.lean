theorem ndD_end_0 : decode ncD_end 0 = .ok (.aload_n 0, 1) := by decide +kernel
theorem ndD_end_1 : decode ncD_end 1 = .ok (.getfield 74, 3) := by decide +kernel
theorem ndD_end_4 : decode ncD_end 4 = .ok (.ifCond .eq 17, 3) := by decide +kernel
theorem ndD_end_7 : decode ncD_end 7 = .ok (.aload_n 0, 1) := by decide +kernel
theorem ndD_end_8 : decode ncD_end 8 = .ok (.getfield 77, 3) := by decide +kernel
theorem ndD_end_11 : decode ncD_end 11 = .ok (.ifCond .ne 10, 3) := by decide +kernel
theorem ndD_end_14 : decode ncD_end 14 = .ok (.aload_n 0, 1) := by decide +kernel
theorem ndD_end_15 : decode ncD_end 15 = .ok (.invokevirtual 100, 3) := by decide +kernel
theorem ndD_end_18 : decode ncD_end 18 = .ok (.ifCond .eq 5, 3) := by decide +kernel
theorem ndD_end_21 : decode ncD_end 21 = .ok (.iconst (-1), 1) := by decide +kernel
theorem ndD_end_22 : decode ncD_end 22 = .ok (.ireturn, 1) := by decide +kernel
theorem ndD_end_23 : decode ncD_end 23 = .ok (.iconst 0, 1) := by decide +kernel
theorem ndD_end_24 : decode ncD_end 24 = .ok (.istore_n 1, 1) := by decide +kernel
theorem ndD_end_25 : decode ncD_end 25 = .ok (.iconst 0, 1) := by decide +kernel
theorem ndD_end_26 : decode ncD_end 26 = .ok (.istore_n 2, 1) := by decide +kernel
theorem ndD_end_27 : decode ncD_end 27 = .ok (.iload_n 2, 1) := by decide +kernel
theorem ndD_end_28 : decode ncD_end 28 = .ok (.aload_n 0, 1) := by decide +kernel
theorem ndD_end_29 : decode ncD_end 29 = .ok (.getfield 71, 3) := by decide +kernel
theorem ndD_end_32 : decode ncD_end 32 = .ok (.if_icmp .ge 20, 3) := by decide +kernel
theorem ndD_end_35 : decode ncD_end 35 = .ok (.iload_n 1, 1) := by decide +kernel
theorem ndD_end_36 : decode ncD_end 36 = .ok (.aload_n 0, 1) := by decide +kernel
theorem ndD_end_37 : decode ncD_end 37 = .ok (.getfield 17, 3) := by decide +kernel
theorem ndD_end_40 : decode ncD_end 40 = .ok (.iload_n 2, 1) := by decide +kernel
theorem ndD_end_41 : decode ncD_end 41 = .ok (.iaload, 1) := by decide +kernel
theorem ndD_end_42 : decode ncD_end 42 = .ok (.invokestatic 52, 3) := by decide +kernel
theorem ndD_end_45 : decode ncD_end 45 = .ok (.istore_n 1, 1) := by decide +kernel
theorem ndD_end_46 : decode ncD_end 46 = .ok (.iinc 2 1, 3) := by decide +kernel
theorem ndD_end_49 : decode ncD_end 49 = .ok (.goto (-22), 3) := by decide +kernel
theorem ndD_end_52 : decode ncD_end 52 = .ok (.bipush 98, 2) := by decide +kernel
theorem ndD_end_54 : decode ncD_end 54 = .ok (.iload_n 1, 1) := by decide +kernel
theorem ndD_end_55 : decode ncD_end 55 = .ok (.bipush 100, 2) := by decide +kernel
theorem ndD_end_57 : decode ncD_end 57 = .ok (.imul, 1) := by decide +kernel
theorem ndD_end_58 : decode ncD_end 58 = .ok (.bipush 97, 2) := by decide +kernel
theorem ndD_end_60 : decode ncD_end 60 = .ok (.irem, 1) := by decide +kernel
theorem ndD_end_61 : decode ncD_end 61 = .ok (.isub, 1) := by decide +kernel
theorem ndD_end_62 : decode ncD_end 62 = .ok (.istore_n 2, 1) := by decide +kernel
theorem ndD_end_63 : decode ncD_end 63 = .ok (.aload_n 0, 1) := by decide +kernel
theorem ndD_end_64 : decode ncD_end 64 = .ok (.bipush 48, 2) := by decide +kernel
theorem ndD_end_66 : decode ncD_end 66 = .ok (.iload_n 2, 1) := by decide +kernel
theorem ndD_end_67 : decode ncD_end 67 = .ok (.bipush 10, 2) := by decide +kernel
theorem ndD_end_69 : decode ncD_end 69 = .ok (.idiv, 1) := by decide +kernel
theorem ndD_end_70 : decode ncD_end 70 = .ok (.iadd, 1) := by decide +kernel
theorem ndD_end_71 : decode ncD_end 71 = .ok (.invokevirtual 84, 3) := by decide +kernel
theorem ndD_end_74 : decode ncD_end 74 = .ok (.aload_n 0, 1) := by decide +kernel
theorem ndD_end_75 : decode ncD_end 75 = .ok (.bipush 48, 2) := by decide +kernel
theorem ndD_end_77 : decode ncD_end 77 = .ok (.iload_n 2, 1) := by decide +kernel
theorem ndD_end_78 : decode ncD_end 78 = .ok (.bipush 10, 2) := by decide +kernel
theorem ndD_end_80 : decode ncD_end 80 = .ok (.irem, 1) := by decide +kernel
theorem ndD_end_81 : decode ncD_end 81 = .ok (.iadd, 1) := by decide +kernel
theorem ndD_end_82 : decode ncD_end 82 = .ok (.invokevirtual 84, 3) := by decide +kernel
theorem ndD_end_85 : decode ncD_end 85 = .ok (.aload_n 0, 1) := by decide +kernel
theorem ndD_end_86 : decode ncD_end 86 = .ok (.iconst 1, 1) := by decide +kernel
theorem ndD_end_87 : decode ncD_end 87 = .ok (.putfield 77, 3) := by decide +kernel
theorem ndD_end_90 : decode ncD_end 90 = .ok (.aload_n 0, 1) := by decide +kernel
theorem ndD_end_91 : decode ncD_end 91 = .ok (.getfield 71, 3) := by decide +kernel
theorem ndD_end_94 : decode ncD_end 94 = .ok (.ireturn, 1) := by decide +kernel
theorem ndD_byteOf_0 : decode ncD_byteOf 0 = .ok (.iload_n 1, 1) := by decide +kernel
theorem ndD_byteOf_1 : decode ncD_byteOf 1 = .ok (.ifCond .lt 20, 3) := by decide +kernel
theorem ndD_byteOf_4 : decode ncD_byteOf 4 = .ok (.iload_n 1, 1) := by decide +kernel
theorem ndD_byteOf_5 : decode ncD_byteOf 5 = .ok (.aload_n 0, 1) := by decide +kernel
theorem ndD_byteOf_6 : decode ncD_byteOf 6 = .ok (.getfield 71, 3) := by decide +kernel
theorem ndD_byteOf_9 : decode ncD_byteOf 9 = .ok (.if_icmp .ge 12, 3) := by decide +kernel
theorem ndD_byteOf_12 : decode ncD_byteOf 12 = .ok (.aload_n 0, 1) := by decide +kernel
theorem ndD_byteOf_13 : decode ncD_byteOf 13 = .ok (.getfield 17, 3) := by decide +kernel
theorem ndD_byteOf_16 : decode ncD_byteOf 16 = .ok (.iload_n 1, 1) := by decide +kernel
theorem ndD_byteOf_17 : decode ncD_byteOf 17 = .ok (.iaload, 1) := by decide +kernel
theorem ndD_byteOf_18 : decode ncD_byteOf 18 = .ok (.goto 4, 3) := by decide +kernel
theorem ndD_byteOf_21 : decode ncD_byteOf 21 = .ok (.iconst (-1), 1) := by decide +kernel
theorem ndD_byteOf_22 : decode ncD_byteOf 22 = .ok (.ireturn, 1) := by decide +kernel
theorem ndD_copy_0 : decode ncD_copy 0 = .ok (.aload_n 0, 1) := by decide +kernel
theorem ndD_copy_1 : decode ncD_copy 1 = .ok (.getfield 74, 3) := by decide +kernel
theorem ndD_copy_4 : decode ncD_copy 4 = .ok (.ifCond .eq 18, 3) := by decide +kernel
theorem ndD_copy_7 : decode ncD_copy 7 = .ok (.aload_n 0, 1) := by decide +kernel
theorem ndD_copy_8 : decode ncD_copy 8 = .ok (.getfield 29, 3) := by decide +kernel
theorem ndD_copy_11 : decode ncD_copy 11 = .ok (.aload_n 0, 1) := by decide +kernel
theorem ndD_copy_12 : decode ncD_copy 12 = .ok (.getfield 71, 3) := by decide +kernel
theorem ndD_copy_15 : decode ncD_copy 15 = .ok (.iadd, 1) := by decide +kernel
theorem ndD_copy_16 : decode ncD_copy 16 = .ok (.sipush 400, 3) := by decide +kernel
theorem ndD_copy_19 : decode ncD_copy 19 = .ok (.if_icmp .le 5, 3) := by decide +kernel
theorem ndD_copy_22 : decode ncD_copy 22 = .ok (.iconst 0, 1) := by decide +kernel
theorem ndD_copy_23 : decode ncD_copy 23 = .ok (.ireturn, 1) := by decide +kernel
theorem ndD_copy_24 : decode ncD_copy 24 = .ok (.iconst 0, 1) := by decide +kernel
theorem ndD_copy_25 : decode ncD_copy 25 = .ok (.istore_n 1, 1) := by decide +kernel
theorem ndD_copy_26 : decode ncD_copy 26 = .ok (.iload_n 1, 1) := by decide +kernel
theorem ndD_copy_27 : decode ncD_copy 27 = .ok (.aload_n 0, 1) := by decide +kernel
theorem ndD_copy_28 : decode ncD_copy 28 = .ok (.getfield 71, 3) := by decide +kernel
theorem ndD_copy_31 : decode ncD_copy 31 = .ok (.if_icmp .ge 26, 3) := by decide +kernel
theorem ndD_copy_34 : decode ncD_copy 34 = .ok (.aload_n 0, 1) := by decide +kernel
theorem ndD_copy_35 : decode ncD_copy 35 = .ok (.getfield 7, 3) := by decide +kernel
theorem ndD_copy_38 : decode ncD_copy 38 = .ok (.aload_n 0, 1) := by decide +kernel
theorem ndD_copy_39 : decode ncD_copy 39 = .ok (.getfield 29, 3) := by decide +kernel
theorem ndD_copy_42 : decode ncD_copy 42 = .ok (.iload_n 1, 1) := by decide +kernel
theorem ndD_copy_43 : decode ncD_copy 43 = .ok (.iadd, 1) := by decide +kernel
theorem ndD_copy_44 : decode ncD_copy 44 = .ok (.aload_n 0, 1) := by decide +kernel
theorem ndD_copy_45 : decode ncD_copy 45 = .ok (.getfield 17, 3) := by decide +kernel
theorem ndD_copy_48 : decode ncD_copy 48 = .ok (.iload_n 1, 1) := by decide +kernel
theorem ndD_copy_49 : decode ncD_copy 49 = .ok (.iaload, 1) := by decide +kernel
theorem ndD_copy_50 : decode ncD_copy 50 = .ok (.iastore, 1) := by decide +kernel
theorem ndD_copy_51 : decode ncD_copy 51 = .ok (.iinc 1 1, 3) := by decide +kernel
theorem ndD_copy_54 : decode ncD_copy 54 = .ok (.goto (-28), 3) := by decide +kernel
theorem ndD_copy_57 : decode ncD_copy 57 = .ok (.aload_n 0, 1) := by decide +kernel
theorem ndD_copy_58 : decode ncD_copy 58 = .ok (.aload_n 0, 1) := by decide +kernel
theorem ndD_copy_59 : decode ncD_copy 59 = .ok (.getfield 29, 3) := by decide +kernel
theorem ndD_copy_62 : decode ncD_copy 62 = .ok (.aload_n 0, 1) := by decide +kernel
theorem ndD_copy_63 : decode ncD_copy 63 = .ok (.getfield 71, 3) := by decide +kernel
theorem ndD_copy_66 : decode ncD_copy 66 = .ok (.iadd, 1) := by decide +kernel
theorem ndD_copy_67 : decode ncD_copy 67 = .ok (.putfield 29, 3) := by decide +kernel
theorem ndD_copy_70 : decode ncD_copy 70 = .ok (.iconst 1, 1) := by decide +kernel
theorem ndD_copy_71 : decode ncD_copy 71 = .ok (.ireturn, 1) := by decide +kernel
theorem ndM_init_0 : decode ncM_init 0 = .ok (.aload_n 0, 1) := by decide +kernel
theorem ndM_init_1 : decode ncM_init 1 = .ok (.invokespecial 3, 3) := by decide +kernel
theorem ndM_init_4 : decode ncM_init 4 = .ok (.aload_n 0, 1) := by decide +kernel
theorem ndM_init_5 : decode ncM_init 5 = .ok (.bipush 20, 2) := by decide +kernel
theorem ndM_init_7 : decode ncM_init 7 = .ok (.newarray .int, 2) := by decide +kernel
theorem ndM_init_9 : decode ncM_init 9 = .ok (.putfield 9, 3) := by decide +kernel
theorem ndM_init_12 : decode ncM_init 12 = .ok (.aload_n 0, 1) := by decide +kernel
theorem ndM_init_13 : decode ncM_init 13 = .ok (.bipush 20, 2) := by decide +kernel
theorem ndM_init_15 : decode ncM_init 15 = .ok (.newarray .long, 2) := by decide +kernel
theorem ndM_init_17 : decode ncM_init 17 = .ok (.putfield 15, 3) := by decide +kernel
theorem ndM_init_20 : decode ncM_init 20 = .ok (.aload_n 0, 1) := by decide +kernel
theorem ndM_init_21 : decode ncM_init 21 = .ok (.iconst 0, 1) := by decide +kernel
theorem ndM_init_22 : decode ncM_init 22 = .ok (.putfield 19, 3) := by decide +kernel
theorem ndM_init_25 : decode ncM_init 25 = .ok (.aload_n 0, 1) := by decide +kernel
theorem ndM_init_26 : decode ncM_init 26 = .ok (.iconst 0, 1) := by decide +kernel
theorem ndM_init_27 : decode ncM_init 27 = .ok (.putfield 23, 3) := by decide +kernel
theorem ndM_init_30 : decode ncM_init 30 = .ok (.return_, 1) := by decide +kernel
theorem ndM_start_0 : decode ncM_start 0 = .ok (.aload_n 0, 1) := by decide +kernel
theorem ndM_start_1 : decode ncM_start 1 = .ok (.iload_n 1, 1) := by decide +kernel
theorem ndM_start_2 : decode ncM_start 2 = .ok (.putfield 19, 3) := by decide +kernel
theorem ndM_start_5 : decode ncM_start 5 = .ok (.aload_n 0, 1) := by decide +kernel
theorem ndM_start_6 : decode ncM_start 6 = .ok (.iconst 0, 1) := by decide +kernel
theorem ndM_start_7 : decode ncM_start 7 = .ok (.putfield 23, 3) := by decide +kernel
theorem ndM_start_10 : decode ncM_start 10 = .ok (.return_, 1) := by decide +kernel
theorem ndM_sortAt_0 : decode ncM_sortAt 0 = .ok (.iload_n 1, 1) := by decide +kernel
theorem ndM_sortAt_1 : decode ncM_sortAt 1 = .ok (.ifCond .lt 29, 3) := by decide +kernel
theorem ndM_sortAt_4 : decode ncM_sortAt 4 = .ok (.iload_n 1, 1) := by decide +kernel
theorem ndM_sortAt_5 : decode ncM_sortAt 5 = .ok (.aload_n 0, 1) := by decide +kernel
theorem ndM_sortAt_6 : decode ncM_sortAt 6 = .ok (.getfield 23, 3) := by decide +kernel
theorem ndM_sortAt_9 : decode ncM_sortAt 9 = .ok (.if_icmp .ge 21, 3) := by decide +kernel
theorem ndM_sortAt_12 : decode ncM_sortAt 12 = .ok (.iload_n 1, 1) := by decide +kernel
theorem ndM_sortAt_13 : decode ncM_sortAt 13 = .ok (.aload_n 0, 1) := by decide +kernel
theorem ndM_sortAt_14 : decode ncM_sortAt 14 = .ok (.getfield 9, 3) := by decide +kernel
theorem ndM_sortAt_17 : decode ncM_sortAt 17 = .ok (.arraylength, 1) := by decide +kernel
theorem ndM_sortAt_18 : decode ncM_sortAt 18 = .ok (.if_icmp .ge 12, 3) := by decide +kernel
theorem ndM_sortAt_21 : decode ncM_sortAt 21 = .ok (.aload_n 0, 1) := by decide +kernel
theorem ndM_sortAt_22 : decode ncM_sortAt 22 = .ok (.getfield 9, 3) := by decide +kernel
theorem ndM_sortAt_25 : decode ncM_sortAt 25 = .ok (.iload_n 1, 1) := by decide +kernel
theorem ndM_sortAt_26 : decode ncM_sortAt 26 = .ok (.iaload, 1) := by decide +kernel
theorem ndM_sortAt_27 : decode ncM_sortAt 27 = .ok (.goto 4, 3) := by decide +kernel
theorem ndM_sortAt_30 : decode ncM_sortAt 30 = .ok (.iconst 0, 1) := by decide +kernel
theorem ndM_sortAt_31 : decode ncM_sortAt 31 = .ok (.ireturn, 1) := by decide +kernel
theorem ndM_numberAt_0 : decode ncM_numberAt 0 = .ok (.iload_n 1, 1) := by decide +kernel
theorem ndM_numberAt_1 : decode ncM_numberAt 1 = .ok (.ifCond .lt 29, 3) := by decide +kernel
theorem ndM_numberAt_4 : decode ncM_numberAt 4 = .ok (.iload_n 1, 1) := by decide +kernel
theorem ndM_numberAt_5 : decode ncM_numberAt 5 = .ok (.aload_n 0, 1) := by decide +kernel
theorem ndM_numberAt_6 : decode ncM_numberAt 6 = .ok (.getfield 23, 3) := by decide +kernel
theorem ndM_numberAt_9 : decode ncM_numberAt 9 = .ok (.if_icmp .ge 21, 3) := by decide +kernel
theorem ndM_numberAt_12 : decode ncM_numberAt 12 = .ok (.iload_n 1, 1) := by decide +kernel
theorem ndM_numberAt_13 : decode ncM_numberAt 13 = .ok (.aload_n 0, 1) := by decide +kernel
theorem ndM_numberAt_14 : decode ncM_numberAt 14 = .ok (.getfield 15, 3) := by decide +kernel
theorem ndM_numberAt_17 : decode ncM_numberAt 17 = .ok (.arraylength, 1) := by decide +kernel
theorem ndM_numberAt_18 : decode ncM_numberAt 18 = .ok (.if_icmp .ge 12, 3) := by decide +kernel
theorem ndM_numberAt_21 : decode ncM_numberAt 21 = .ok (.aload_n 0, 1) := by decide +kernel
theorem ndM_numberAt_22 : decode ncM_numberAt 22 = .ok (.getfield 15, 3) := by decide +kernel
theorem ndM_numberAt_25 : decode ncM_numberAt 25 = .ok (.iload_n 1, 1) := by decide +kernel
theorem ndM_numberAt_26 : decode ncM_numberAt 26 = .ok (.laload, 1) := by decide +kernel
theorem ndM_numberAt_27 : decode ncM_numberAt 27 = .ok (.goto 6, 3) := by decide +kernel
theorem ndM_numberAt_30 : decode ncM_numberAt 30 = .ok (.ldc2_w 26, 3) := by decide +kernel
theorem ndM_numberAt_33 : decode ncM_numberAt 33 = .ok (.lreturn, 1) := by decide +kernel
theorem ndM_dueSort_0 : decode ncM_dueSort 0 = .ok (.aload_n 0, 1) := by decide +kernel
theorem ndM_dueSort_1 : decode ncM_dueSort 1 = .ok (.getfield 19, 3) := by decide +kernel
theorem ndM_dueSort_4 : decode ncM_dueSort 4 = .ok (.iconst 1, 1) := by decide +kernel
theorem ndM_dueSort_5 : decode ncM_dueSort 5 = .ok (.if_icmp .lt 19, 3) := by decide +kernel
theorem ndM_dueSort_8 : decode ncM_dueSort 8 = .ok (.aload_n 0, 1) := by decide +kernel
theorem ndM_dueSort_9 : decode ncM_dueSort 9 = .ok (.getfield 19, 3) := by decide +kernel
theorem ndM_dueSort_12 : decode ncM_dueSort 12 = .ok (.bipush 15, 2) := by decide +kernel
theorem ndM_dueSort_14 : decode ncM_dueSort 14 = .ok (.if_icmp .gt 10, 3) := by decide +kernel
theorem ndM_dueSort_17 : decode ncM_dueSort 17 = .ok (.aload_n 0, 1) := by decide +kernel
theorem ndM_dueSort_18 : decode ncM_dueSort 18 = .ok (.getfield 23, 3) := by decide +kernel
theorem ndM_dueSort_21 : decode ncM_dueSort 21 = .ok (.ifCond .ge 5, 3) := by decide +kernel
theorem ndM_dueSort_24 : decode ncM_dueSort 24 = .ok (.iconst 0, 1) := by decide +kernel
theorem ndM_dueSort_25 : decode ncM_dueSort 25 = .ok (.ireturn, 1) := by decide +kernel
theorem ndM_dueSort_26 : decode ncM_dueSort 26 = .ok (.aload_n 0, 1) := by decide +kernel
theorem ndM_dueSort_27 : decode ncM_dueSort 27 = .ok (.getfield 19, 3) := by decide +kernel
theorem ndM_dueSort_30 : decode ncM_dueSort 30 = .ok (.bipush 6, 2) := by decide +kernel
theorem ndM_dueSort_32 : decode ncM_dueSort 32 = .ok (.if_icmp .ne 22, 3) := by decide +kernel
theorem ndM_dueSort_35 : decode ncM_dueSort 35 = .ok (.aload_n 0, 1) := by decide +kernel
theorem ndM_dueSort_36 : decode ncM_dueSort 36 = .ok (.getfield 23, 3) := by decide +kernel
theorem ndM_dueSort_39 : decode ncM_dueSort 39 = .ok (.iconst 4, 1) := by decide +kernel
theorem ndM_dueSort_40 : decode ncM_dueSort 40 = .ok (.if_icmp .lt 14, 3) := by decide +kernel
theorem ndM_dueSort_43 : decode ncM_dueSort 43 = .ok (.aload_n 0, 1) := by decide +kernel
theorem ndM_dueSort_44 : decode ncM_dueSort 44 = .ok (.aload_n 0, 1) := by decide +kernel
theorem ndM_dueSort_45 : decode ncM_dueSort 45 = .ok (.getfield 23, 3) := by decide +kernel
theorem ndM_dueSort_48 : decode ncM_dueSort 48 = .ok (.iconst 4, 1) := by decide +kernel
theorem ndM_dueSort_49 : decode ncM_dueSort 49 = .ok (.isub, 1) := by decide +kernel
theorem ndM_dueSort_50 : decode ncM_dueSort 50 = .ok (.invokevirtual 28, 3) := by decide +kernel
theorem ndM_dueSort_53 : decode ncM_dueSort 53 = .ok (.ireturn, 1) := by decide +kernel
theorem ndM_dueSort_54 : decode ncM_dueSort 54 = .ok (.aload_n 0, 1) := by decide +kernel
theorem ndM_dueSort_55 : decode ncM_dueSort 55 = .ok (.getfield 23, 3) := by decide +kernel
theorem ndM_dueSort_58 : decode ncM_dueSort 58 = .ok (.bipush 6, 2) := by decide +kernel
theorem ndM_dueSort_60 : decode ncM_dueSort 60 = .ok (.if_icmp .ge 26, 3) := by decide +kernel
theorem ndM_dueSort_63 : decode ncM_dueSort 63 = .ok (.getstatic 32, 3) := by decide +kernel
theorem ndM_dueSort_66 : decode ncM_dueSort 66 = .ok (.aload_n 0, 1) := by decide +kernel
theorem ndM_dueSort_67 : decode ncM_dueSort 67 = .ok (.getfield 19, 3) := by decide +kernel
theorem ndM_dueSort_70 : decode ncM_dueSort 70 = .ok (.iconst 1, 1) := by decide +kernel
theorem ndM_dueSort_71 : decode ncM_dueSort 71 = .ok (.isub, 1) := by decide +kernel
theorem ndM_dueSort_72 : decode ncM_dueSort 72 = .ok (.bipush 6, 2) := by decide +kernel
theorem ndM_dueSort_74 : decode ncM_dueSort 74 = .ok (.imul, 1) := by decide +kernel
theorem ndM_dueSort_75 : decode ncM_dueSort 75 = .ok (.aload_n 0, 1) := by decide +kernel
theorem ndM_dueSort_76 : decode ncM_dueSort 76 = .ok (.getfield 23, 3) := by decide +kernel
theorem ndM_dueSort_79 : decode ncM_dueSort 79 = .ok (.iadd, 1) := by decide +kernel
theorem ndM_dueSort_80 : decode ncM_dueSort 80 = .ok (.invokestatic 35, 3) := by decide +kernel
theorem ndM_dueSort_83 : decode ncM_dueSort 83 = .ok (.goto 4, 3) := by decide +kernel
theorem ndM_dueSort_86 : decode ncM_dueSort 86 = .ok (.iconst 0, 1) := by decide +kernel
theorem ndM_dueSort_87 : decode ncM_dueSort 87 = .ok (.ireturn, 1) := by decide +kernel
theorem ndM_dueLegSort_0 : decode ncM_dueLegSort 0 = .ok (.aload_n 0, 1) := by decide +kernel
theorem ndM_dueLegSort_1 : decode ncM_dueLegSort 1 = .ok (.iconst 3, 1) := by decide +kernel
theorem ndM_dueLegSort_2 : decode ncM_dueLegSort 2 = .ok (.invokevirtual 39, 3) := by decide +kernel
theorem ndM_dueLegSort_5 : decode ncM_dueLegSort 5 = .ok (.lstore_n 2, 1) := by decide +kernel
theorem ndM_dueLegSort_6 : decode ncM_dueLegSort 6 = .ok (.iload_n 1, 1) := by decide +kernel
theorem ndM_dueLegSort_7 : decode ncM_dueLegSort 7 = .ok (.i2l, 1) := by decide +kernel
theorem ndM_dueLegSort_8 : decode ncM_dueLegSort 8 = .ok (.lload_n 2, 1) := by decide +kernel
theorem ndM_dueLegSort_9 : decode ncM_dueLegSort 9 = .ok (.ldc2_w 43, 3) := by decide +kernel
theorem ndM_dueLegSort_12 : decode ncM_dueLegSort 12 = .ok (.lmul, 1) := by decide +kernel
theorem ndM_dueLegSort_13 : decode ncM_dueLegSort 13 = .ok (.lcmp, 1) := by decide +kernel
theorem ndM_dueLegSort_14 : decode ncM_dueLegSort 14 = .ok (.ifCond .ge 15, 3) := by decide +kernel
theorem ndM_dueLegSort_17 : decode ncM_dueLegSort 17 = .ok (.getstatic 45, 3) := by decide +kernel
theorem ndM_dueLegSort_20 : decode ncM_dueLegSort 20 = .ok (.iload_n 1, 1) := by decide +kernel
theorem ndM_dueLegSort_21 : decode ncM_dueLegSort 21 = .ok (.iconst 4, 1) := by decide +kernel
theorem ndM_dueLegSort_22 : decode ncM_dueLegSort 22 = .ok (.irem, 1) := by decide +kernel
theorem ndM_dueLegSort_23 : decode ncM_dueLegSort 23 = .ok (.invokestatic 35, 3) := by decide +kernel
theorem ndM_dueLegSort_26 : decode ncM_dueLegSort 26 = .ok (.goto 4, 3) := by decide +kernel
theorem ndM_dueLegSort_29 : decode ncM_dueLegSort 29 = .ok (.iconst 0, 1) := by decide +kernel
theorem ndM_dueLegSort_30 : decode ncM_dueLegSort 30 = .ok (.ireturn, 1) := by decide +kernel
theorem ndM_mustBeZero_0 : decode ncM_mustBeZero 0 = .ok (.aload_n 0, 1) := by decide +kernel
theorem ndM_mustBeZero_1 : decode ncM_mustBeZero 1 = .ok (.getfield 19, 3) := by decide +kernel
theorem ndM_mustBeZero_4 : decode ncM_mustBeZero 4 = .ok (.iconst 2, 1) := by decide +kernel
theorem ndM_mustBeZero_5 : decode ncM_mustBeZero 5 = .ok (.if_icmp .ne 17, 3) := by decide +kernel
theorem ndM_mustBeZero_8 : decode ncM_mustBeZero 8 = .ok (.aload_n 0, 1) := by decide +kernel
theorem ndM_mustBeZero_9 : decode ncM_mustBeZero 9 = .ok (.iconst 3, 1) := by decide +kernel
theorem ndM_mustBeZero_10 : decode ncM_mustBeZero 10 = .ok (.invokevirtual 39, 3) := by decide +kernel
theorem ndM_mustBeZero_13 : decode ncM_mustBeZero 13 = .ok (.lconst 0, 1) := by decide +kernel
theorem ndM_mustBeZero_14 : decode ncM_mustBeZero 14 = .ok (.lcmp, 1) := by decide +kernel
theorem ndM_mustBeZero_15 : decode ncM_mustBeZero 15 = .ok (.ifCond .ne 7, 3) := by decide +kernel
theorem ndM_mustBeZero_18 : decode ncM_mustBeZero 18 = .ok (.iconst 1, 1) := by decide +kernel
theorem ndM_mustBeZero_19 : decode ncM_mustBeZero 19 = .ok (.goto 4, 3) := by decide +kernel
theorem ndM_mustBeZero_22 : decode ncM_mustBeZero 22 = .ok (.iconst 0, 1) := by decide +kernel
theorem ndM_mustBeZero_23 : decode ncM_mustBeZero 23 = .ok (.ireturn, 1) := by decide +kernel
theorem ndM_suits_0 : decode ncM_suits 0 = .ok (.aload_n 0, 1) := by decide +kernel
theorem ndM_suits_1 : decode ncM_suits 1 = .ok (.invokevirtual 48, 3) := by decide +kernel
theorem ndM_suits_4 : decode ncM_suits 4 = .ok (.istore_n 3, 1) := by decide +kernel
theorem ndM_suits_5 : decode ncM_suits 5 = .ok (.iload_n 3, 1) := by decide +kernel
theorem ndM_suits_6 : decode ncM_suits 6 = .ok (.iconst 1, 1) := by decide +kernel
theorem ndM_suits_7 : decode ncM_suits 7 = .ok (.if_icmp .lt 24, 3) := by decide +kernel
theorem ndM_suits_10 : decode ncM_suits 10 = .ok (.iload_n 3, 1) := by decide +kernel
theorem ndM_suits_11 : decode ncM_suits 11 = .ok (.getstatic 52, 3) := by decide +kernel
theorem ndM_suits_14 : decode ncM_suits 14 = .ok (.arraylength, 1) := by decide +kernel
theorem ndM_suits_15 : decode ncM_suits 15 = .ok (.if_icmp .ge 16, 3) := by decide +kernel
theorem ndM_suits_18 : decode ncM_suits 18 = .ok (.aload_n 0, 1) := by decide +kernel
theorem ndM_suits_19 : decode ncM_suits 19 = .ok (.invokevirtual 55, 3) := by decide +kernel
theorem ndM_suits_22 : decode ncM_suits 22 = .ok (.ifCond .eq 11, 3) := by decide +kernel
theorem ndM_suits_25 : decode ncM_suits 25 = .ok (.lload_n 1, 1) := by decide +kernel
theorem ndM_suits_26 : decode ncM_suits 26 = .ok (.lconst 0, 1) := by decide +kernel
theorem ndM_suits_27 : decode ncM_suits 27 = .ok (.lcmp, 1) := by decide +kernel
theorem ndM_suits_28 : decode ncM_suits 28 = .ok (.ifCond .eq 5, 3) := by decide +kernel
theorem ndM_suits_31 : decode ncM_suits 31 = .ok (.iconst 0, 1) := by decide +kernel
theorem ndM_suits_32 : decode ncM_suits 32 = .ok (.ireturn, 1) := by decide +kernel
theorem ndM_suits_33 : decode ncM_suits 33 = .ok (.lload_n 1, 1) := by decide +kernel
theorem ndM_suits_34 : decode ncM_suits 34 = .ok (.getstatic 59, 3) := by decide +kernel
theorem ndM_suits_37 : decode ncM_suits 37 = .ok (.iload_n 3, 1) := by decide +kernel
theorem ndM_suits_38 : decode ncM_suits 38 = .ok (.invokestatic 35, 3) := by decide +kernel
theorem ndM_suits_41 : decode ncM_suits 41 = .ok (.i2l, 1) := by decide +kernel
theorem ndM_suits_42 : decode ncM_suits 42 = .ok (.lcmp, 1) := by decide +kernel
theorem ndM_suits_43 : decode ncM_suits 43 = .ok (.ifCond .lt 17, 3) := by decide +kernel
theorem ndM_suits_46 : decode ncM_suits 46 = .ok (.lload_n 1, 1) := by decide +kernel
theorem ndM_suits_47 : decode ncM_suits 47 = .ok (.getstatic 52, 3) := by decide +kernel
theorem ndM_suits_50 : decode ncM_suits 50 = .ok (.iload_n 3, 1) := by decide +kernel
theorem ndM_suits_51 : decode ncM_suits 51 = .ok (.laload, 1) := by decide +kernel
theorem ndM_suits_52 : decode ncM_suits 52 = .ok (.lcmp, 1) := by decide +kernel
theorem ndM_suits_53 : decode ncM_suits 53 = .ok (.ifCond .gt 7, 3) := by decide +kernel
theorem ndM_suits_56 : decode ncM_suits 56 = .ok (.iconst 1, 1) := by decide +kernel
theorem ndM_suits_57 : decode ncM_suits 57 = .ok (.goto 4, 3) := by decide +kernel
theorem ndM_suits_60 : decode ncM_suits 60 = .ok (.iconst 0, 1) := by decide +kernel
theorem ndM_suits_61 : decode ncM_suits 61 = .ok (.ireturn, 1) := by decide +kernel
theorem ndM_take_0 : decode ncM_take 0 = .ok (.aload_n 0, 1) := by decide +kernel
theorem ndM_take_1 : decode ncM_take 1 = .ok (.getfield 23, 3) := by decide +kernel
theorem ndM_take_4 : decode ncM_take 4 = .ok (.ifCond .lt 60, 3) := by decide +kernel
theorem ndM_take_7 : decode ncM_take 7 = .ok (.aload_n 0, 1) := by decide +kernel
theorem ndM_take_8 : decode ncM_take 8 = .ok (.getfield 23, 3) := by decide +kernel
theorem ndM_take_11 : decode ncM_take 11 = .ok (.aload_n 0, 1) := by decide +kernel
theorem ndM_take_12 : decode ncM_take 12 = .ok (.getfield 9, 3) := by decide +kernel
theorem ndM_take_15 : decode ncM_take 15 = .ok (.arraylength, 1) := by decide +kernel
theorem ndM_take_16 : decode ncM_take 16 = .ok (.if_icmp .ge 48, 3) := by decide +kernel
theorem ndM_take_19 : decode ncM_take 19 = .ok (.aload_n 0, 1) := by decide +kernel
theorem ndM_take_20 : decode ncM_take 20 = .ok (.getfield 23, 3) := by decide +kernel
theorem ndM_take_23 : decode ncM_take 23 = .ok (.aload_n 0, 1) := by decide +kernel
theorem ndM_take_24 : decode ncM_take 24 = .ok (.getfield 15, 3) := by decide +kernel
theorem ndM_take_27 : decode ncM_take 27 = .ok (.arraylength, 1) := by decide +kernel
theorem ndM_take_28 : decode ncM_take 28 = .ok (.if_icmp .ge 36, 3) := by decide +kernel
theorem ndM_take_31 : decode ncM_take 31 = .ok (.aload_n 0, 1) := by decide +kernel
theorem ndM_take_32 : decode ncM_take 32 = .ok (.getfield 9, 3) := by decide +kernel
theorem ndM_take_35 : decode ncM_take 35 = .ok (.aload_n 0, 1) := by decide +kernel
theorem ndM_take_36 : decode ncM_take 36 = .ok (.getfield 23, 3) := by decide +kernel
theorem ndM_take_39 : decode ncM_take 39 = .ok (.aload_n 0, 1) := by decide +kernel
theorem ndM_take_40 : decode ncM_take 40 = .ok (.invokevirtual 48, 3) := by decide +kernel
theorem ndM_take_43 : decode ncM_take 43 = .ok (.iastore, 1) := by decide +kernel
theorem ndM_take_44 : decode ncM_take 44 = .ok (.aload_n 0, 1) := by decide +kernel
theorem ndM_take_45 : decode ncM_take 45 = .ok (.getfield 15, 3) := by decide +kernel
theorem ndM_take_48 : decode ncM_take 48 = .ok (.aload_n 0, 1) := by decide +kernel
theorem ndM_take_49 : decode ncM_take 49 = .ok (.getfield 23, 3) := by decide +kernel
theorem ndM_take_52 : decode ncM_take 52 = .ok (.lload_n 1, 1) := by decide +kernel
theorem ndM_take_53 : decode ncM_take 53 = .ok (.lastore, 1) := by decide +kernel
theorem ndM_take_54 : decode ncM_take 54 = .ok (.aload_n 0, 1) := by decide +kernel
theorem ndM_take_55 : decode ncM_take 55 = .ok (.dup, 1) := by decide +kernel
theorem ndM_take_56 : decode ncM_take 56 = .ok (.getfield 23, 3) := by decide +kernel
theorem ndM_take_59 : decode ncM_take 59 = .ok (.iconst 1, 1) := by decide +kernel
theorem ndM_take_60 : decode ncM_take 60 = .ok (.iadd, 1) := by decide +kernel
theorem ndM_take_61 : decode ncM_take 61 = .ok (.putfield 23, 3) := by decide +kernel
theorem ndM_take_64 : decode ncM_take 64 = .ok (.return_, 1) := by decide +kernel
theorem ndR_init_0 : decode ncR_init 0 = .ok (.aload_n 0, 1) := by decide +kernel
theorem ndR_init_1 : decode ncR_init 1 = .ok (.invokespecial 1, 3) := by decide +kernel
theorem ndR_init_4 : decode ncR_init 4 = .ok (.aload_n 0, 1) := by decide +kernel
theorem ndR_init_5 : decode ncR_init 5 = .ok (.iconst 0, 1) := by decide +kernel
theorem ndR_init_6 : decode ncR_init 6 = .ok (.putfield 7, 3) := by decide +kernel
theorem ndR_init_9 : decode ncR_init 9 = .ok (.aload_n 0, 1) := by decide +kernel
theorem ndR_init_10 : decode ncR_init 10 = .ok (.iload_n 1, 1) := by decide +kernel
theorem ndR_init_11 : decode ncR_init 11 = .ok (.ifCond .ge 7, 3) := by decide +kernel
theorem ndR_init_14 : decode ncR_init 14 = .ok (.iconst 0, 1) := by decide +kernel
theorem ndR_init_15 : decode ncR_init 15 = .ok (.goto 4, 3) := by decide +kernel
theorem ndR_init_18 : decode ncR_init 18 = .ok (.iload_n 1, 1) := by decide +kernel
theorem ndR_init_19 : decode ncR_init 19 = .ok (.newarray .int, 2) := by decide +kernel
theorem ndR_init_21 : decode ncR_init 21 = .ok (.putfield 13, 3) := by decide +kernel
theorem ndR_init_24 : decode ncR_init 24 = .ok (.return_, 1) := by decide +kernel
theorem ndR_hasRoomFor_0 : decode ncR_hasRoomFor 0 = .ok (.iload_n 1, 1) := by decide +kernel
theorem ndR_hasRoomFor_1 : decode ncR_hasRoomFor 1 = .ok (.aload_n 0, 1) := by decide +kernel
theorem ndR_hasRoomFor_2 : decode ncR_hasRoomFor 2 = .ok (.getfield 13, 3) := by decide +kernel
theorem ndR_hasRoomFor_5 : decode ncR_hasRoomFor 5 = .ok (.arraylength, 1) := by decide +kernel
theorem ndR_hasRoomFor_6 : decode ncR_hasRoomFor 6 = .ok (.aload_n 0, 1) := by decide +kernel
theorem ndR_hasRoomFor_7 : decode ncR_hasRoomFor 7 = .ok (.getfield 7, 3) := by decide +kernel
theorem ndR_hasRoomFor_10 : decode ncR_hasRoomFor 10 = .ok (.isub, 1) := by decide +kernel
theorem ndR_hasRoomFor_11 : decode ncR_hasRoomFor 11 = .ok (.if_icmp .gt 7, 3) := by decide +kernel
theorem ndR_hasRoomFor_14 : decode ncR_hasRoomFor 14 = .ok (.iconst 1, 1) := by decide +kernel
theorem ndR_hasRoomFor_15 : decode ncR_hasRoomFor 15 = .ok (.goto 4, 3) := by decide +kernel
theorem ndR_hasRoomFor_18 : decode ncR_hasRoomFor 18 = .ok (.iconst 0, 1) := by decide +kernel
theorem ndR_hasRoomFor_19 : decode ncR_hasRoomFor 19 = .ok (.ireturn, 1) := by decide +kernel
theorem ndR_clear_0 : decode ncR_clear 0 = .ok (.aload_n 0, 1) := by decide +kernel
theorem ndR_clear_1 : decode ncR_clear 1 = .ok (.iconst 0, 1) := by decide +kernel
theorem ndR_clear_2 : decode ncR_clear 2 = .ok (.putfield 7, 3) := by decide +kernel
theorem ndR_clear_5 : decode ncR_clear 5 = .ok (.return_, 1) := by decide +kernel
theorem ndR_append_0 : decode ncR_append 0 = .ok (.aload_n 0, 1) := by decide +kernel
theorem ndR_append_1 : decode ncR_append 1 = .ok (.getfield 7, 3) := by decide +kernel
theorem ndR_append_4 : decode ncR_append 4 = .ok (.ifCond .lt 35, 3) := by decide +kernel
theorem ndR_append_7 : decode ncR_append 7 = .ok (.aload_n 0, 1) := by decide +kernel
theorem ndR_append_8 : decode ncR_append 8 = .ok (.getfield 7, 3) := by decide +kernel
theorem ndR_append_11 : decode ncR_append 11 = .ok (.aload_n 0, 1) := by decide +kernel
theorem ndR_append_12 : decode ncR_append 12 = .ok (.getfield 13, 3) := by decide +kernel
theorem ndR_append_15 : decode ncR_append 15 = .ok (.arraylength, 1) := by decide +kernel
theorem ndR_append_16 : decode ncR_append 16 = .ok (.if_icmp .ge 23, 3) := by decide +kernel
theorem ndR_append_19 : decode ncR_append 19 = .ok (.aload_n 0, 1) := by decide +kernel
theorem ndR_append_20 : decode ncR_append 20 = .ok (.getfield 13, 3) := by decide +kernel
theorem ndR_append_23 : decode ncR_append 23 = .ok (.aload_n 0, 1) := by decide +kernel
theorem ndR_append_24 : decode ncR_append 24 = .ok (.getfield 7, 3) := by decide +kernel
theorem ndR_append_27 : decode ncR_append 27 = .ok (.iload_n 1, 1) := by decide +kernel
theorem ndR_append_28 : decode ncR_append 28 = .ok (.iastore, 1) := by decide +kernel
theorem ndR_append_29 : decode ncR_append 29 = .ok (.aload_n 0, 1) := by decide +kernel
theorem ndR_append_30 : decode ncR_append 30 = .ok (.dup, 1) := by decide +kernel
theorem ndR_append_31 : decode ncR_append 31 = .ok (.getfield 7, 3) := by decide +kernel
theorem ndR_append_34 : decode ncR_append 34 = .ok (.iconst 1, 1) := by decide +kernel
theorem ndR_append_35 : decode ncR_append 35 = .ok (.iadd, 1) := by decide +kernel
theorem ndR_append_36 : decode ncR_append 36 = .ok (.putfield 7, 3) := by decide +kernel
theorem ndR_append_39 : decode ncR_append 39 = .ok (.return_, 1) := by decide +kernel
theorem ndR_put_0 : decode ncR_put 0 = .ok (.iload_n 1, 1) := by decide +kernel
theorem ndR_put_1 : decode ncR_put 1 = .ok (.ifCond .lt 27, 3) := by decide +kernel
theorem ndR_put_4 : decode ncR_put 4 = .ok (.iload_n 1, 1) := by decide +kernel
theorem ndR_put_5 : decode ncR_put 5 = .ok (.aload_n 0, 1) := by decide +kernel
theorem ndR_put_6 : decode ncR_put 6 = .ok (.getfield 7, 3) := by decide +kernel
theorem ndR_put_9 : decode ncR_put 9 = .ok (.if_icmp .ge 19, 3) := by decide +kernel
theorem ndR_put_12 : decode ncR_put 12 = .ok (.iload_n 1, 1) := by decide +kernel
theorem ndR_put_13 : decode ncR_put 13 = .ok (.aload_n 0, 1) := by decide +kernel
theorem ndR_put_14 : decode ncR_put 14 = .ok (.getfield 13, 3) := by decide +kernel
theorem ndR_put_17 : decode ncR_put 17 = .ok (.arraylength, 1) := by decide +kernel
theorem ndR_put_18 : decode ncR_put 18 = .ok (.if_icmp .ge 10, 3) := by decide +kernel
theorem ndR_put_21 : decode ncR_put 21 = .ok (.aload_n 0, 1) := by decide +kernel
theorem ndR_put_22 : decode ncR_put 22 = .ok (.getfield 13, 3) := by decide +kernel
theorem ndR_put_25 : decode ncR_put 25 = .ok (.iload_n 1, 1) := by decide +kernel
theorem ndR_put_26 : decode ncR_put 26 = .ok (.iload_n 2, 1) := by decide +kernel
theorem ndR_put_27 : decode ncR_put 27 = .ok (.iastore, 1) := by decide +kernel
theorem ndR_put_28 : decode ncR_put 28 = .ok (.return_, 1) := by decide +kernel
theorem ndR_at_0 : decode ncR_at 0 = .ok (.iload_n 1, 1) := by decide +kernel
theorem ndR_at_1 : decode ncR_at 1 = .ok (.ifCond .lt 29, 3) := by decide +kernel
theorem ndR_at_4 : decode ncR_at 4 = .ok (.iload_n 1, 1) := by decide +kernel
theorem ndR_at_5 : decode ncR_at 5 = .ok (.aload_n 0, 1) := by decide +kernel
theorem ndR_at_6 : decode ncR_at 6 = .ok (.getfield 7, 3) := by decide +kernel
theorem ndR_at_9 : decode ncR_at 9 = .ok (.if_icmp .ge 21, 3) := by decide +kernel
theorem ndR_at_12 : decode ncR_at 12 = .ok (.iload_n 1, 1) := by decide +kernel
theorem ndR_at_13 : decode ncR_at 13 = .ok (.aload_n 0, 1) := by decide +kernel
theorem ndR_at_14 : decode ncR_at 14 = .ok (.getfield 13, 3) := by decide +kernel
theorem ndR_at_17 : decode ncR_at 17 = .ok (.arraylength, 1) := by decide +kernel
theorem ndR_at_18 : decode ncR_at 18 = .ok (.if_icmp .ge 12, 3) := by decide +kernel
theorem ndR_at_21 : decode ncR_at 21 = .ok (.aload_n 0, 1) := by decide +kernel
theorem ndR_at_22 : decode ncR_at 22 = .ok (.getfield 13, 3) := by decide +kernel
theorem ndR_at_25 : decode ncR_at 25 = .ok (.iload_n 1, 1) := by decide +kernel
theorem ndR_at_26 : decode ncR_at 26 = .ok (.iaload, 1) := by decide +kernel
theorem ndR_at_27 : decode ncR_at 27 = .ok (.goto 4, 3) := by decide +kernel
theorem ndR_at_30 : decode ncR_at 30 = .ok (.iconst (-1), 1) := by decide +kernel
theorem ndR_at_31 : decode ncR_at 31 = .ok (.ireturn, 1) := by decide +kernel
theorem ndR_remainder_0 : decode ncR_remainder 0 = .ok (.iconst 0, 1) := by decide +kernel
theorem ndR_remainder_1 : decode ncR_remainder 1 = .ok (.istore_n 1, 1) := by decide +kernel
theorem ndR_remainder_2 : decode ncR_remainder 2 = .ok (.iconst 0, 1) := by decide +kernel
theorem ndR_remainder_3 : decode ncR_remainder 3 = .ok (.istore_n 2, 1) := by decide +kernel
theorem ndR_remainder_4 : decode ncR_remainder 4 = .ok (.iload_n 2, 1) := by decide +kernel
theorem ndR_remainder_5 : decode ncR_remainder 5 = .ok (.aload_n 0, 1) := by decide +kernel
theorem ndR_remainder_6 : decode ncR_remainder 6 = .ok (.getfield 7, 3) := by decide +kernel
theorem ndR_remainder_9 : decode ncR_remainder 9 = .ok (.if_icmp .ge 39, 3) := by decide +kernel
theorem ndR_remainder_12 : decode ncR_remainder 12 = .ok (.aload_n 0, 1) := by decide +kernel
theorem ndR_remainder_13 : decode ncR_remainder 13 = .ok (.iload_n 2, 1) := by decide +kernel
theorem ndR_remainder_14 : decode ncR_remainder 14 = .ok (.invokevirtual 17, 3) := by decide +kernel
theorem ndR_remainder_17 : decode ncR_remainder 17 = .ok (.invokestatic 21, 3) := by decide +kernel
theorem ndR_remainder_20 : decode ncR_remainder 20 = .ok (.istore_n 3, 1) := by decide +kernel
theorem ndR_remainder_21 : decode ncR_remainder 21 = .ok (.iload_n 1, 1) := by decide +kernel
theorem ndR_remainder_22 : decode ncR_remainder 22 = .ok (.iload_n 3, 1) := by decide +kernel
theorem ndR_remainder_23 : decode ncR_remainder 23 = .ok (.bipush 10, 2) := by decide +kernel
theorem ndR_remainder_25 : decode ncR_remainder 25 = .ok (.if_icmp .ge 8, 3) := by decide +kernel
theorem ndR_remainder_28 : decode ncR_remainder 28 = .ok (.bipush 10, 2) := by decide +kernel
theorem ndR_remainder_30 : decode ncR_remainder 30 = .ok (.goto 5, 3) := by decide +kernel
theorem ndR_remainder_33 : decode ncR_remainder 33 = .ok (.bipush 100, 2) := by decide +kernel
theorem ndR_remainder_35 : decode ncR_remainder 35 = .ok (.imul, 1) := by decide +kernel
theorem ndR_remainder_36 : decode ncR_remainder 36 = .ok (.iload_n 3, 1) := by decide +kernel
theorem ndR_remainder_37 : decode ncR_remainder 37 = .ok (.iadd, 1) := by decide +kernel
theorem ndR_remainder_38 : decode ncR_remainder 38 = .ok (.bipush 97, 2) := by decide +kernel
theorem ndR_remainder_40 : decode ncR_remainder 40 = .ok (.irem, 1) := by decide +kernel
theorem ndR_remainder_41 : decode ncR_remainder 41 = .ok (.istore_n 1, 1) := by decide +kernel
theorem ndR_remainder_42 : decode ncR_remainder 42 = .ok (.iinc 2 1, 3) := by decide +kernel
theorem ndR_remainder_45 : decode ncR_remainder 45 = .ok (.goto (-41), 3) := by decide +kernel
theorem ndR_remainder_48 : decode ncR_remainder 48 = .ok (.iload_n 1, 1) := by decide +kernel
theorem ndR_remainder_49 : decode ncR_remainder 49 = .ok (.ireturn, 1) := by decide +kernel
theorem ndL_law_0 : decode ncL_law 0 = .ok (.new 7, 3) := by decide +kernel
theorem ndL_law_3 : decode ncL_law 3 = .ok (.dup, 1) := by decide +kernel
theorem ndL_law_4 : decode ncL_law 4 = .ok (.invokespecial 9, 3) := by decide +kernel
theorem ndL_law_7 : decode ncL_law 7 = .ok (.astore_n 1, 1) := by decide +kernel
theorem ndL_law_8 : decode ncL_law 8 = .ok (.new 10, 3) := by decide +kernel
theorem ndL_law_11 : decode ncL_law 11 = .ok (.dup, 1) := by decide +kernel
theorem ndL_law_12 : decode ncL_law 12 = .ok (.invokespecial 12, 3) := by decide +kernel
theorem ndL_law_15 : decode ncL_law 15 = .ok (.astore_n 2, 1) := by decide +kernel
theorem ndL_law_16 : decode ncL_law 16 = .ok (.iconst 0, 1) := by decide +kernel
theorem ndL_law_17 : decode ncL_law 17 = .ok (.istore_n 3, 1) := by decide +kernel
theorem ndL_law_18 : decode ncL_law 18 = .ok (.iload_n 3, 1) := by decide +kernel
theorem ndL_law_19 : decode ncL_law 19 = .ok (.aload_n 0, 1) := by decide +kernel
theorem ndL_law_20 : decode ncL_law 20 = .ok (.arraylength, 1) := by decide +kernel
theorem ndL_law_21 : decode ncL_law 21 = .ok (.iconst 4, 1) := by decide +kernel
theorem ndL_law_22 : decode ncL_law 22 = .ok (.isub, 1) := by decide +kernel
theorem ndL_law_23 : decode ncL_law 23 = .ok (.if_icmp .gt 332, 3) := by decide +kernel
theorem ndL_law_26 : decode ncL_law 26 = .ok (.aload_n 0, 1) := by decide +kernel
theorem ndL_law_27 : decode ncL_law 27 = .ok (.iload_n 3, 1) := by decide +kernel
theorem ndL_law_28 : decode ncL_law 28 = .ok (.iaload, 1) := by decide +kernel
theorem ndL_law_29 : decode ncL_law 29 = .ok (.bipush 15, 2) := by decide +kernel
theorem ndL_law_31 : decode ncL_law 31 = .ok (.iand, 1) := by decide +kernel
theorem ndL_law_32 : decode ncL_law 32 = .ok (.tableswitch 317 0 9 #[56, 119, 132, 145, 168, 192, 215, 268, 281, 304], 56) := by decide +kernel
theorem ndL_law_88 : decode ncL_law 88 = .ok (.aload_n 1, 1) := by decide +kernel
theorem ndL_law_89 : decode ncL_law 89 = .ok (.aload_n 0, 1) := by decide +kernel
theorem ndL_law_90 : decode ncL_law 90 = .ok (.iload_n 3, 1) := by decide +kernel
theorem ndL_law_91 : decode ncL_law 91 = .ok (.iconst 1, 1) := by decide +kernel
theorem ndL_law_92 : decode ncL_law 92 = .ok (.iadd, 1) := by decide +kernel
theorem ndL_law_93 : decode ncL_law 93 = .ok (.iaload, 1) := by decide +kernel
theorem ndL_law_94 : decode ncL_law 94 = .ok (.i2l, 1) := by decide +kernel
theorem ndL_law_95 : decode ncL_law 95 = .ok (.bipush 32, 2) := by decide +kernel
theorem ndL_law_97 : decode ncL_law 97 = .ok (.lshl, 1) := by decide +kernel
theorem ndL_law_98 : decode ncL_law 98 = .ok (.aload_n 0, 1) := by decide +kernel
theorem ndL_law_99 : decode ncL_law 99 = .ok (.iload_n 3, 1) := by decide +kernel
theorem ndL_law_100 : decode ncL_law 100 = .ok (.iconst 2, 1) := by decide +kernel
theorem ndL_law_101 : decode ncL_law 101 = .ok (.iadd, 1) := by decide +kernel
theorem ndL_law_102 : decode ncL_law 102 = .ok (.iaload, 1) := by decide +kernel
theorem ndL_law_103 : decode ncL_law 103 = .ok (.i2l, 1) := by decide +kernel
theorem ndL_law_104 : decode ncL_law 104 = .ok (.ldc2_w 13, 3) := by decide +kernel
theorem ndL_law_107 : decode ncL_law 107 = .ok (.land, 1) := by decide +kernel
theorem ndL_law_108 : decode ncL_law 108 = .ok (.lor, 1) := by decide +kernel
theorem ndL_law_109 : decode ncL_law 109 = .ok (.aload_n 0, 1) := by decide +kernel
theorem ndL_law_110 : decode ncL_law 110 = .ok (.iload_n 3, 1) := by decide +kernel
theorem ndL_law_111 : decode ncL_law 111 = .ok (.iconst 3, 1) := by decide +kernel
theorem ndL_law_112 : decode ncL_law 112 = .ok (.iadd, 1) := by decide +kernel
theorem ndL_law_113 : decode ncL_law 113 = .ok (.iaload, 1) := by decide +kernel
theorem ndL_law_114 : decode ncL_law 114 = .ok (.invokevirtual 15, 3) := by decide +kernel
theorem ndL_law_117 : decode ncL_law 117 = .ok (.aload_n 2, 1) := by decide +kernel
theorem ndL_law_118 : decode ncL_law 118 = .ok (.aload_n 0, 1) := by decide +kernel
theorem ndL_law_119 : decode ncL_law 119 = .ok (.iload_n 3, 1) := by decide +kernel
theorem ndL_law_120 : decode ncL_law 120 = .ok (.iconst 1, 1) := by decide +kernel
theorem ndL_law_121 : decode ncL_law 121 = .ok (.iadd, 1) := by decide +kernel
theorem ndL_law_122 : decode ncL_law 122 = .ok (.iaload, 1) := by decide +kernel
theorem ndL_law_123 : decode ncL_law 123 = .ok (.i2l, 1) := by decide +kernel
theorem ndL_law_124 : decode ncL_law 124 = .ok (.bipush 32, 2) := by decide +kernel
theorem ndL_law_126 : decode ncL_law 126 = .ok (.lshl, 1) := by decide +kernel
theorem ndL_law_127 : decode ncL_law 127 = .ok (.aload_n 0, 1) := by decide +kernel
theorem ndL_law_128 : decode ncL_law 128 = .ok (.iload_n 3, 1) := by decide +kernel
theorem ndL_law_129 : decode ncL_law 129 = .ok (.iconst 2, 1) := by decide +kernel
theorem ndL_law_130 : decode ncL_law 130 = .ok (.iadd, 1) := by decide +kernel
theorem ndL_law_131 : decode ncL_law 131 = .ok (.iaload, 1) := by decide +kernel
theorem ndL_law_132 : decode ncL_law 132 = .ok (.i2l, 1) := by decide +kernel
theorem ndL_law_133 : decode ncL_law 133 = .ok (.ldc2_w 13, 3) := by decide +kernel
theorem ndL_law_136 : decode ncL_law 136 = .ok (.land, 1) := by decide +kernel
theorem ndL_law_137 : decode ncL_law 137 = .ok (.lor, 1) := by decide +kernel
theorem ndL_law_138 : decode ncL_law 138 = .ok (.aload_n 0, 1) := by decide +kernel
theorem ndL_law_139 : decode ncL_law 139 = .ok (.iload_n 3, 1) := by decide +kernel
theorem ndL_law_140 : decode ncL_law 140 = .ok (.iconst 3, 1) := by decide +kernel
theorem ndL_law_141 : decode ncL_law 141 = .ok (.iadd, 1) := by decide +kernel
theorem ndL_law_142 : decode ncL_law 142 = .ok (.iaload, 1) := by decide +kernel
theorem ndL_law_143 : decode ncL_law 143 = .ok (.invokevirtual 19, 3) := by decide +kernel
theorem ndL_law_146 : decode ncL_law 146 = .ok (.if_icmp .eq 203, 3) := by decide +kernel
theorem ndL_law_149 : decode ncL_law 149 = .ok (.iconst 0, 1) := by decide +kernel
theorem ndL_law_150 : decode ncL_law 150 = .ok (.ireturn, 1) := by decide +kernel
theorem ndL_law_151 : decode ncL_law 151 = .ok (.aload_n 1, 1) := by decide +kernel
theorem ndL_law_152 : decode ncL_law 152 = .ok (.invokevirtual 20, 3) := by decide +kernel
theorem ndL_law_155 : decode ncL_law 155 = .ok (.aload_n 2, 1) := by decide +kernel
theorem ndL_law_156 : decode ncL_law 156 = .ok (.invokevirtual 24, 3) := by decide +kernel
theorem ndL_law_159 : decode ncL_law 159 = .ok (.if_icmp .eq 190, 3) := by decide +kernel
theorem ndL_law_162 : decode ncL_law 162 = .ok (.iconst 0, 1) := by decide +kernel
theorem ndL_law_163 : decode ncL_law 163 = .ok (.ireturn, 1) := by decide +kernel
theorem ndL_law_164 : decode ncL_law 164 = .ok (.aload_n 1, 1) := by decide +kernel
theorem ndL_law_165 : decode ncL_law 165 = .ok (.invokevirtual 25, 3) := by decide +kernel
theorem ndL_law_168 : decode ncL_law 168 = .ok (.aload_n 2, 1) := by decide +kernel
theorem ndL_law_169 : decode ncL_law 169 = .ok (.invokevirtual 28, 3) := by decide +kernel
theorem ndL_law_172 : decode ncL_law 172 = .ok (.if_icmp .eq 177, 3) := by decide +kernel
theorem ndL_law_175 : decode ncL_law 175 = .ok (.iconst 0, 1) := by decide +kernel
theorem ndL_law_176 : decode ncL_law 176 = .ok (.ireturn, 1) := by decide +kernel
theorem ndL_law_177 : decode ncL_law 177 = .ok (.aload_n 1, 1) := by decide +kernel
theorem ndL_law_178 : decode ncL_law 178 = .ok (.aload_n 0, 1) := by decide +kernel
theorem ndL_law_179 : decode ncL_law 179 = .ok (.iload_n 3, 1) := by decide +kernel
theorem ndL_law_180 : decode ncL_law 180 = .ok (.iconst 1, 1) := by decide +kernel
theorem ndL_law_181 : decode ncL_law 181 = .ok (.iadd, 1) := by decide +kernel
theorem ndL_law_182 : decode ncL_law 182 = .ok (.iaload, 1) := by decide +kernel
theorem ndL_law_183 : decode ncL_law 183 = .ok (.invokevirtual 29, 3) := by decide +kernel
theorem ndL_law_186 : decode ncL_law 186 = .ok (.aload_n 2, 1) := by decide +kernel
theorem ndL_law_187 : decode ncL_law 187 = .ok (.aload_n 0, 1) := by decide +kernel
theorem ndL_law_188 : decode ncL_law 188 = .ok (.iload_n 3, 1) := by decide +kernel
theorem ndL_law_189 : decode ncL_law 189 = .ok (.iconst 1, 1) := by decide +kernel
theorem ndL_law_190 : decode ncL_law 190 = .ok (.iadd, 1) := by decide +kernel
theorem ndL_law_191 : decode ncL_law 191 = .ok (.iaload, 1) := by decide +kernel
theorem ndL_law_192 : decode ncL_law 192 = .ok (.invokevirtual 33, 3) := by decide +kernel
theorem ndL_law_195 : decode ncL_law 195 = .ok (.if_icmp .eq 154, 3) := by decide +kernel
theorem ndL_law_198 : decode ncL_law 198 = .ok (.iconst 0, 1) := by decide +kernel
theorem ndL_law_199 : decode ncL_law 199 = .ok (.ireturn, 1) := by decide +kernel
theorem ndL_law_200 : decode ncL_law 200 = .ok (.aload_n 1, 1) := by decide +kernel
theorem ndL_law_201 : decode ncL_law 201 = .ok (.aload_n 0, 1) := by decide +kernel
theorem ndL_law_202 : decode ncL_law 202 = .ok (.iload_n 3, 1) := by decide +kernel
theorem ndL_law_203 : decode ncL_law 203 = .ok (.iconst 1, 1) := by decide +kernel
theorem ndL_law_204 : decode ncL_law 204 = .ok (.iadd, 1) := by decide +kernel
theorem ndL_law_205 : decode ncL_law 205 = .ok (.iaload, 1) := by decide +kernel
theorem ndL_law_206 : decode ncL_law 206 = .ok (.invokevirtual 34, 3) := by decide +kernel
theorem ndL_law_209 : decode ncL_law 209 = .ok (.aload_n 2, 1) := by decide +kernel
theorem ndL_law_210 : decode ncL_law 210 = .ok (.aload_n 0, 1) := by decide +kernel
theorem ndL_law_211 : decode ncL_law 211 = .ok (.iload_n 3, 1) := by decide +kernel
theorem ndL_law_212 : decode ncL_law 212 = .ok (.iconst 1, 1) := by decide +kernel
theorem ndL_law_213 : decode ncL_law 213 = .ok (.iadd, 1) := by decide +kernel
theorem ndL_law_214 : decode ncL_law 214 = .ok (.iaload, 1) := by decide +kernel
theorem ndL_law_215 : decode ncL_law 215 = .ok (.invokevirtual 38, 3) := by decide +kernel
theorem ndL_law_218 : decode ncL_law 218 = .ok (.lcmp, 1) := by decide +kernel
theorem ndL_law_219 : decode ncL_law 219 = .ok (.ifCond .eq 130, 3) := by decide +kernel
theorem ndL_law_222 : decode ncL_law 222 = .ok (.iconst 0, 1) := by decide +kernel
theorem ndL_law_223 : decode ncL_law 223 = .ok (.ireturn, 1) := by decide +kernel
theorem ndL_law_224 : decode ncL_law 224 = .ok (.aload_n 1, 1) := by decide +kernel
theorem ndL_law_225 : decode ncL_law 225 = .ok (.aload_n 0, 1) := by decide +kernel
theorem ndL_law_226 : decode ncL_law 226 = .ok (.iload_n 3, 1) := by decide +kernel
theorem ndL_law_227 : decode ncL_law 227 = .ok (.iconst 1, 1) := by decide +kernel
theorem ndL_law_228 : decode ncL_law 228 = .ok (.iadd, 1) := by decide +kernel
theorem ndL_law_229 : decode ncL_law 229 = .ok (.iaload, 1) := by decide +kernel
theorem ndL_law_230 : decode ncL_law 230 = .ok (.invokevirtual 39, 3) := by decide +kernel
theorem ndL_law_233 : decode ncL_law 233 = .ok (.aload_n 2, 1) := by decide +kernel
theorem ndL_law_234 : decode ncL_law 234 = .ok (.aload_n 0, 1) := by decide +kernel
theorem ndL_law_235 : decode ncL_law 235 = .ok (.iload_n 3, 1) := by decide +kernel
theorem ndL_law_236 : decode ncL_law 236 = .ok (.iconst 1, 1) := by decide +kernel
theorem ndL_law_237 : decode ncL_law 237 = .ok (.iadd, 1) := by decide +kernel
theorem ndL_law_238 : decode ncL_law 238 = .ok (.iaload, 1) := by decide +kernel
theorem ndL_law_239 : decode ncL_law 239 = .ok (.invokevirtual 43, 3) := by decide +kernel
theorem ndL_law_242 : decode ncL_law 242 = .ok (.if_icmp .eq 107, 3) := by decide +kernel
theorem ndL_law_245 : decode ncL_law 245 = .ok (.iconst 0, 1) := by decide +kernel
theorem ndL_law_246 : decode ncL_law 246 = .ok (.ireturn, 1) := by decide +kernel
theorem ndL_law_247 : decode ncL_law 247 = .ok (.aload_n 1, 1) := by decide +kernel
theorem ndL_law_248 : decode ncL_law 248 = .ok (.aload_n 0, 1) := by decide +kernel
theorem ndL_law_249 : decode ncL_law 249 = .ok (.iload_n 3, 1) := by decide +kernel
theorem ndL_law_250 : decode ncL_law 250 = .ok (.iconst 1, 1) := by decide +kernel
theorem ndL_law_251 : decode ncL_law 251 = .ok (.iadd, 1) := by decide +kernel
theorem ndL_law_252 : decode ncL_law 252 = .ok (.iaload, 1) := by decide +kernel
theorem ndL_law_253 : decode ncL_law 253 = .ok (.i2l, 1) := by decide +kernel
theorem ndL_law_254 : decode ncL_law 254 = .ok (.bipush 32, 2) := by decide +kernel
theorem ndL_law_256 : decode ncL_law 256 = .ok (.lshl, 1) := by decide +kernel
theorem ndL_law_257 : decode ncL_law 257 = .ok (.aload_n 0, 1) := by decide +kernel
theorem ndL_law_258 : decode ncL_law 258 = .ok (.iload_n 3, 1) := by decide +kernel
theorem ndL_law_259 : decode ncL_law 259 = .ok (.iconst 2, 1) := by decide +kernel
theorem ndL_law_260 : decode ncL_law 260 = .ok (.iadd, 1) := by decide +kernel
theorem ndL_law_261 : decode ncL_law 261 = .ok (.iaload, 1) := by decide +kernel
theorem ndL_law_262 : decode ncL_law 262 = .ok (.i2l, 1) := by decide +kernel
theorem ndL_law_263 : decode ncL_law 263 = .ok (.ldc2_w 13, 3) := by decide +kernel
theorem ndL_law_266 : decode ncL_law 266 = .ok (.land, 1) := by decide +kernel
theorem ndL_law_267 : decode ncL_law 267 = .ok (.lor, 1) := by decide +kernel
theorem ndL_law_268 : decode ncL_law 268 = .ok (.invokevirtual 44, 3) := by decide +kernel
theorem ndL_law_271 : decode ncL_law 271 = .ok (.aload_n 2, 1) := by decide +kernel
theorem ndL_law_272 : decode ncL_law 272 = .ok (.aload_n 0, 1) := by decide +kernel
theorem ndL_law_273 : decode ncL_law 273 = .ok (.iload_n 3, 1) := by decide +kernel
theorem ndL_law_274 : decode ncL_law 274 = .ok (.iconst 1, 1) := by decide +kernel
theorem ndL_law_275 : decode ncL_law 275 = .ok (.iadd, 1) := by decide +kernel
theorem ndL_law_276 : decode ncL_law 276 = .ok (.iaload, 1) := by decide +kernel
theorem ndL_law_277 : decode ncL_law 277 = .ok (.i2l, 1) := by decide +kernel
theorem ndL_law_278 : decode ncL_law 278 = .ok (.bipush 32, 2) := by decide +kernel
theorem ndL_law_280 : decode ncL_law 280 = .ok (.lshl, 1) := by decide +kernel
theorem ndL_law_281 : decode ncL_law 281 = .ok (.aload_n 0, 1) := by decide +kernel
theorem ndL_law_282 : decode ncL_law 282 = .ok (.iload_n 3, 1) := by decide +kernel
theorem ndL_law_283 : decode ncL_law 283 = .ok (.iconst 2, 1) := by decide +kernel
theorem ndL_law_284 : decode ncL_law 284 = .ok (.iadd, 1) := by decide +kernel
theorem ndL_law_285 : decode ncL_law 285 = .ok (.iaload, 1) := by decide +kernel
theorem ndL_law_286 : decode ncL_law 286 = .ok (.i2l, 1) := by decide +kernel
theorem ndL_law_287 : decode ncL_law 287 = .ok (.ldc2_w 13, 3) := by decide +kernel
theorem ndL_law_290 : decode ncL_law 290 = .ok (.land, 1) := by decide +kernel
theorem ndL_law_291 : decode ncL_law 291 = .ok (.lor, 1) := by decide +kernel
theorem ndL_law_292 : decode ncL_law 292 = .ok (.invokevirtual 48, 3) := by decide +kernel
theorem ndL_law_295 : decode ncL_law 295 = .ok (.if_icmp .eq 54, 3) := by decide +kernel
theorem ndL_law_298 : decode ncL_law 298 = .ok (.iconst 0, 1) := by decide +kernel
theorem ndL_law_299 : decode ncL_law 299 = .ok (.ireturn, 1) := by decide +kernel
theorem ndL_law_300 : decode ncL_law 300 = .ok (.aload_n 1, 1) := by decide +kernel
theorem ndL_law_301 : decode ncL_law 301 = .ok (.invokevirtual 49, 3) := by decide +kernel
theorem ndL_law_304 : decode ncL_law 304 = .ok (.aload_n 2, 1) := by decide +kernel
theorem ndL_law_305 : decode ncL_law 305 = .ok (.invokevirtual 52, 3) := by decide +kernel
theorem ndL_law_308 : decode ncL_law 308 = .ok (.if_icmp .eq 41, 3) := by decide +kernel
theorem ndL_law_311 : decode ncL_law 311 = .ok (.iconst 0, 1) := by decide +kernel
theorem ndL_law_312 : decode ncL_law 312 = .ok (.ireturn, 1) := by decide +kernel
theorem ndL_law_313 : decode ncL_law 313 = .ok (.aload_n 1, 1) := by decide +kernel
theorem ndL_law_314 : decode ncL_law 314 = .ok (.aload_n 0, 1) := by decide +kernel
theorem ndL_law_315 : decode ncL_law 315 = .ok (.iload_n 3, 1) := by decide +kernel
theorem ndL_law_316 : decode ncL_law 316 = .ok (.iconst 1, 1) := by decide +kernel
theorem ndL_law_317 : decode ncL_law 317 = .ok (.iadd, 1) := by decide +kernel
theorem ndL_law_318 : decode ncL_law 318 = .ok (.iaload, 1) := by decide +kernel
theorem ndL_law_319 : decode ncL_law 319 = .ok (.invokevirtual 53, 3) := by decide +kernel
theorem ndL_law_322 : decode ncL_law 322 = .ok (.aload_n 2, 1) := by decide +kernel
theorem ndL_law_323 : decode ncL_law 323 = .ok (.aload_n 0, 1) := by decide +kernel
theorem ndL_law_324 : decode ncL_law 324 = .ok (.iload_n 3, 1) := by decide +kernel
theorem ndL_law_325 : decode ncL_law 325 = .ok (.iconst 1, 1) := by decide +kernel
theorem ndL_law_326 : decode ncL_law 326 = .ok (.iadd, 1) := by decide +kernel
theorem ndL_law_327 : decode ncL_law 327 = .ok (.iaload, 1) := by decide +kernel
theorem ndL_law_328 : decode ncL_law 328 = .ok (.invokevirtual 56, 3) := by decide +kernel
theorem ndL_law_331 : decode ncL_law 331 = .ok (.if_icmp .eq 18, 3) := by decide +kernel
theorem ndL_law_334 : decode ncL_law 334 = .ok (.iconst 0, 1) := by decide +kernel
theorem ndL_law_335 : decode ncL_law 335 = .ok (.ireturn, 1) := by decide +kernel
theorem ndL_law_336 : decode ncL_law 336 = .ok (.aload_n 1, 1) := by decide +kernel
theorem ndL_law_337 : decode ncL_law 337 = .ok (.invokevirtual 57, 3) := by decide +kernel
theorem ndL_law_340 : decode ncL_law 340 = .ok (.aload_n 2, 1) := by decide +kernel
theorem ndL_law_341 : decode ncL_law 341 = .ok (.invokevirtual 61, 3) := by decide +kernel
theorem ndL_law_344 : decode ncL_law 344 = .ok (.if_icmp .eq 5, 3) := by decide +kernel
theorem ndL_law_347 : decode ncL_law 347 = .ok (.iconst 0, 1) := by decide +kernel
theorem ndL_law_348 : decode ncL_law 348 = .ok (.ireturn, 1) := by decide +kernel
theorem ndL_law_349 : decode ncL_law 349 = .ok (.iinc 3 4, 3) := by decide +kernel
theorem ndL_law_352 : decode ncL_law 352 = .ok (.goto (-334), 3) := by decide +kernel
theorem ndL_law_355 : decode ncL_law 355 = .ok (.iconst 1, 1) := by decide +kernel
theorem ndL_law_356 : decode ncL_law 356 = .ok (.ireturn, 1) := by decide +kernel
