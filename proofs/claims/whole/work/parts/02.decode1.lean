theorem ndF_init_0 : decode ncF_init 0 = .ok (.aload_n 0, 1) := by decide +kernel
theorem ndF_init_1 : decode ncF_init 1 = .ok (.invokespecial 1, 3) := by decide +kernel
theorem ndF_init_4 : decode ncF_init 4 = .ok (.aload_n 0, 1) := by decide +kernel
theorem ndF_init_5 : decode ncF_init 5 = .ok (.new 7, 3) := by decide +kernel
theorem ndF_init_8 : decode ncF_init 8 = .ok (.dup, 1) := by decide +kernel
theorem ndF_init_9 : decode ncF_init 9 = .ok (.sipush 400, 3) := by decide +kernel
theorem ndF_init_12 : decode ncF_init 12 = .ok (.invokespecial 11, 3) := by decide +kernel
theorem ndF_init_15 : decode ncF_init 15 = .ok (.putfield 14, 3) := by decide +kernel
theorem ndF_init_18 : decode ncF_init 18 = .ok (.aload_n 0, 1) := by decide +kernel
theorem ndF_init_19 : decode ncF_init 19 = .ok (.new 18, 3) := by decide +kernel
theorem ndF_init_22 : decode ncF_init 22 = .ok (.dup, 1) := by decide +kernel
theorem ndF_init_23 : decode ncF_init 23 = .ok (.invokespecial 20, 3) := by decide +kernel
theorem ndF_init_26 : decode ncF_init 26 = .ok (.putfield 21, 3) := by decide +kernel
theorem ndF_init_29 : decode ncF_init 29 = .ok (.aload_n 0, 1) := by decide +kernel
theorem ndF_init_30 : decode ncF_init 30 = .ok (.new 7, 3) := by decide +kernel
theorem ndF_init_33 : decode ncF_init 33 = .ok (.dup, 1) := by decide +kernel
theorem ndF_init_34 : decode ncF_init 34 = .ok (.bipush 123, 2) := by decide +kernel
theorem ndF_init_36 : decode ncF_init 36 = .ok (.invokespecial 11, 3) := by decide +kernel
theorem ndF_init_39 : decode ncF_init 39 = .ok (.putfield 25, 3) := by decide +kernel
theorem ndF_init_42 : decode ncF_init 42 = .ok (.aload_n 0, 1) := by decide +kernel
theorem ndF_init_43 : decode ncF_init 43 = .ok (.new 18, 3) := by decide +kernel
theorem ndF_init_46 : decode ncF_init 46 = .ok (.dup, 1) := by decide +kernel
theorem ndF_init_47 : decode ncF_init 47 = .ok (.invokespecial 20, 3) := by decide +kernel
theorem ndF_init_50 : decode ncF_init 50 = .ok (.putfield 28, 3) := by decide +kernel
theorem ndF_init_53 : decode ncF_init 53 = .ok (.aload_n 0, 1) := by decide +kernel
theorem ndF_init_54 : decode ncF_init 54 = .ok (.iconst 0, 1) := by decide +kernel
theorem ndF_init_55 : decode ncF_init 55 = .ok (.putfield 31, 3) := by decide +kernel
theorem ndF_init_58 : decode ncF_init 58 = .ok (.return_, 1) := by decide +kernel
theorem ndF_type_0 : decode ncF_type 0 = .ok (.iload_n 3, 1) := by decide +kernel
theorem ndF_type_1 : decode ncF_type 1 = .ok (.iconst 1, 1) := by decide +kernel
theorem ndF_type_2 : decode ncF_type 2 = .ok (.if_icmp .lt 20, 3) := by decide +kernel
theorem ndF_type_5 : decode ncF_type 5 = .ok (.iload_n 3, 1) := by decide +kernel
theorem ndF_type_6 : decode ncF_type 6 = .ok (.bipush 8, 2) := by decide +kernel
theorem ndF_type_8 : decode ncF_type 8 = .ok (.if_icmp .gt 14, 3) := by decide +kernel
theorem ndF_type_11 : decode ncF_type 11 = .ok (.aload_n 0, 1) := by decide +kernel
theorem ndF_type_12 : decode ncF_type 12 = .ok (.getfield 14, 3) := by decide +kernel
theorem ndF_type_15 : decode ncF_type 15 = .ok (.iload_n 3, 1) := by decide +kernel
theorem ndF_type_16 : decode ncF_type 16 = .ok (.invokevirtual 35, 3) := by decide +kernel
theorem ndF_type_19 : decode ncF_type 19 = .ok (.ifCond .ne 5, 3) := by decide +kernel
theorem ndF_type_22 : decode ncF_type 22 = .ok (.iconst 0, 1) := by decide +kernel
theorem ndF_type_23 : decode ncF_type 23 = .ok (.ireturn, 1) := by decide +kernel
theorem ndF_type_24 : decode ncF_type 24 = .ok (.iload_n 3, 1) := by decide +kernel
theorem ndF_type_25 : decode ncF_type 25 = .ok (.iconst 1, 1) := by decide +kernel
theorem ndF_type_26 : decode ncF_type 26 = .ok (.isub, 1) := by decide +kernel
theorem ndF_type_27 : decode ncF_type 27 = .ok (.istore 4, 2) := by decide +kernel
theorem ndF_type_29 : decode ncF_type 29 = .ok (.iload 4, 2) := by decide +kernel
theorem ndF_type_31 : decode ncF_type 31 = .ok (.ifCond .lt 28, 3) := by decide +kernel
theorem ndF_type_34 : decode ncF_type 34 = .ok (.aload_n 0, 1) := by decide +kernel
theorem ndF_type_35 : decode ncF_type 35 = .ok (.getfield 14, 3) := by decide +kernel
theorem ndF_type_38 : decode ncF_type 38 = .ok (.lload_n 1, 1) := by decide +kernel
theorem ndF_type_39 : decode ncF_type 39 = .ok (.bipush 8, 2) := by decide +kernel
theorem ndF_type_41 : decode ncF_type 41 = .ok (.iload 4, 2) := by decide +kernel
theorem ndF_type_43 : decode ncF_type 43 = .ok (.imul, 1) := by decide +kernel
theorem ndF_type_44 : decode ncF_type 44 = .ok (.lushr, 1) := by decide +kernel
theorem ndF_type_45 : decode ncF_type 45 = .ok (.l2i, 1) := by decide +kernel
theorem ndF_type_46 : decode ncF_type 46 = .ok (.sipush 255, 3) := by decide +kernel
theorem ndF_type_49 : decode ncF_type 49 = .ok (.iand, 1) := by decide +kernel
theorem ndF_type_50 : decode ncF_type 50 = .ok (.invokevirtual 39, 3) := by decide +kernel
theorem ndF_type_53 : decode ncF_type 53 = .ok (.iinc 4 (-1), 3) := by decide +kernel
theorem ndF_type_56 : decode ncF_type 56 = .ok (.goto (-27), 3) := by decide +kernel
theorem ndF_type_59 : decode ncF_type 59 = .ok (.iconst 1, 1) := by decide +kernel
theorem ndF_type_60 : decode ncF_type 60 = .ok (.ireturn, 1) := by decide +kernel
theorem ndF_read_0 : decode ncF_read 0 = .ok (.aload_n 0, 1) := by decide +kernel
theorem ndF_read_1 : decode ncF_read 1 = .ok (.invokevirtual 42, 3) := by decide +kernel
theorem ndF_read_4 : decode ncF_read 4 = .ok (.istore_n 1, 1) := by decide +kernel
theorem ndF_read_5 : decode ncF_read 5 = .ok (.aload_n 0, 1) := by decide +kernel
theorem ndF_read_6 : decode ncF_read 6 = .ok (.getfield 14, 3) := by decide +kernel
theorem ndF_read_9 : decode ncF_read 9 = .ok (.invokevirtual 46, 3) := by decide +kernel
theorem ndF_read_12 : decode ncF_read 12 = .ok (.iload_n 1, 1) := by decide +kernel
theorem ndF_read_13 : decode ncF_read 13 = .ok (.iconst (-1), 1) := by decide +kernel
theorem ndF_read_14 : decode ncF_read 14 = .ok (.if_icmp .eq 15, 3) := by decide +kernel
theorem ndF_read_17 : decode ncF_read 17 = .ok (.aload_n 0, 1) := by decide +kernel
theorem ndF_read_18 : decode ncF_read 18 = .ok (.getfield 21, 3) := by decide +kernel
theorem ndF_read_21 : decode ncF_read 21 = .ok (.iconst 0, 1) := by decide +kernel
theorem ndF_read_22 : decode ncF_read 22 = .ok (.invokevirtual 49, 3) := by decide +kernel
theorem ndF_read_25 : decode ncF_read 25 = .ok (.iconst (-1), 1) := by decide +kernel
theorem ndF_read_26 : decode ncF_read 26 = .ok (.iload_n 1, 1) := by decide +kernel
theorem ndF_read_27 : decode ncF_read 27 = .ok (.isub, 1) := by decide +kernel
theorem ndF_read_28 : decode ncF_read 28 = .ok (.ireturn, 1) := by decide +kernel
theorem ndF_read_29 : decode ncF_read 29 = .ok (.aload_n 0, 1) := by decide +kernel
theorem ndF_read_30 : decode ncF_read 30 = .ok (.getfield 21, 3) := by decide +kernel
theorem ndF_read_33 : decode ncF_read 33 = .ok (.getfield 52, 3) := by decide +kernel
theorem ndF_read_36 : decode ncF_read 36 = .ok (.ireturn, 1) := by decide +kernel
theorem ndF_fields_0 : decode ncF_fields 0 = .ok (.aload_n 0, 1) := by decide +kernel
theorem ndF_fields_1 : decode ncF_fields 1 = .ok (.getfield 21, 3) := by decide +kernel
theorem ndF_fields_4 : decode ncF_fields 4 = .ok (.getfield 56, 3) := by decide +kernel
theorem ndF_fields_7 : decode ncF_fields 7 = .ok (.ireturn, 1) := by decide +kernel
theorem ndF_sort_0 : decode ncF_sort 0 = .ok (.aload_n 0, 1) := by decide +kernel
theorem ndF_sort_1 : decode ncF_sort 1 = .ok (.getfield 21, 3) := by decide +kernel
theorem ndF_sort_4 : decode ncF_sort 4 = .ok (.iload_n 1, 1) := by decide +kernel
theorem ndF_sort_5 : decode ncF_sort 5 = .ok (.invokevirtual 59, 3) := by decide +kernel
theorem ndF_sort_8 : decode ncF_sort 8 = .ok (.ireturn, 1) := by decide +kernel
theorem ndF_number_0 : decode ncF_number 0 = .ok (.aload_n 0, 1) := by decide +kernel
theorem ndF_number_1 : decode ncF_number 1 = .ok (.getfield 21, 3) := by decide +kernel
theorem ndF_number_4 : decode ncF_number 4 = .ok (.iload_n 1, 1) := by decide +kernel
theorem ndF_number_5 : decode ncF_number 5 = .ok (.invokevirtual 63, 3) := by decide +kernel
theorem ndF_number_8 : decode ncF_number 8 = .ok (.lreturn, 1) := by decide +kernel
theorem ndF_begin_0 : decode ncF_begin 0 = .ok (.iload_n 1, 1) := by decide +kernel
theorem ndF_begin_1 : decode ncF_begin 1 = .ok (.iconst 1, 1) := by decide +kernel
theorem ndF_begin_2 : decode ncF_begin 2 = .ok (.if_icmp .lt 9, 3) := by decide +kernel
theorem ndF_begin_5 : decode ncF_begin 5 = .ok (.iload_n 1, 1) := by decide +kernel
theorem ndF_begin_6 : decode ncF_begin 6 = .ok (.bipush 15, 2) := by decide +kernel
theorem ndF_begin_8 : decode ncF_begin 8 = .ok (.if_icmp .le 5, 3) := by decide +kernel
theorem ndF_begin_11 : decode ncF_begin 11 = .ok (.iconst 0, 1) := by decide +kernel
theorem ndF_begin_12 : decode ncF_begin 12 = .ok (.ireturn, 1) := by decide +kernel
theorem ndF_begin_13 : decode ncF_begin 13 = .ok (.aload_n 0, 1) := by decide +kernel
theorem ndF_begin_14 : decode ncF_begin 14 = .ok (.getfield 28, 3) := by decide +kernel
theorem ndF_begin_17 : decode ncF_begin 17 = .ok (.iload_n 1, 1) := by decide +kernel
theorem ndF_begin_18 : decode ncF_begin 18 = .ok (.invokevirtual 49, 3) := by decide +kernel
theorem ndF_begin_21 : decode ncF_begin 21 = .ok (.aload_n 0, 1) := by decide +kernel
theorem ndF_begin_22 : decode ncF_begin 22 = .ok (.iconst 0, 1) := by decide +kernel
theorem ndF_begin_23 : decode ncF_begin 23 = .ok (.putfield 31, 3) := by decide +kernel
theorem ndF_begin_26 : decode ncF_begin 26 = .ok (.aload_n 0, 1) := by decide +kernel
theorem ndF_begin_27 : decode ncF_begin 27 = .ok (.getfield 25, 3) := by decide +kernel
theorem ndF_begin_30 : decode ncF_begin 30 = .ok (.invokevirtual 46, 3) := by decide +kernel
theorem ndF_begin_33 : decode ncF_begin 33 = .ok (.iconst 0, 1) := by decide +kernel
theorem ndF_begin_34 : decode ncF_begin 34 = .ok (.istore_n 2, 1) := by decide +kernel
theorem ndF_begin_35 : decode ncF_begin 35 = .ok (.iload_n 2, 1) := by decide +kernel
theorem ndF_begin_36 : decode ncF_begin 36 = .ok (.iconst 3, 1) := by decide +kernel
theorem ndF_begin_37 : decode ncF_begin 37 = .ok (.if_icmp .ge 21, 3) := by decide +kernel
theorem ndF_begin_40 : decode ncF_begin 40 = .ok (.aload_n 0, 1) := by decide +kernel
theorem ndF_begin_41 : decode ncF_begin 41 = .ok (.getfield 25, 3) := by decide +kernel
theorem ndF_begin_44 : decode ncF_begin 44 = .ok (.iload_n 1, 1) := by decide +kernel
theorem ndF_begin_45 : decode ncF_begin 45 = .ok (.iload_n 2, 1) := by decide +kernel
theorem ndF_begin_46 : decode ncF_begin 46 = .ok (.invokestatic 67, 3) := by decide +kernel
theorem ndF_begin_49 : decode ncF_begin 49 = .ok (.invokevirtual 39, 3) := by decide +kernel
theorem ndF_begin_52 : decode ncF_begin 52 = .ok (.iinc 2 1, 3) := by decide +kernel
theorem ndF_begin_55 : decode ncF_begin 55 = .ok (.goto (-20), 3) := by decide +kernel
theorem ndF_begin_58 : decode ncF_begin 58 = .ok (.iconst 1, 1) := by decide +kernel
theorem ndF_begin_59 : decode ncF_begin 59 = .ok (.ireturn, 1) := by decide +kernel
theorem ndF_add_0 : decode ncF_add 0 = .ok (.aload_n 0, 1) := by decide +kernel
theorem ndF_add_1 : decode ncF_add 1 = .ok (.getfield 28, 3) := by decide +kernel
theorem ndF_add_4 : decode ncF_add 4 = .ok (.lload_n 1, 1) := by decide +kernel
theorem ndF_add_5 : decode ncF_add 5 = .ok (.invokevirtual 71, 3) := by decide +kernel
theorem ndF_add_8 : decode ncF_add 8 = .ok (.ifCond .ne 5, 3) := by decide +kernel
theorem ndF_add_11 : decode ncF_add 11 = .ok (.iconst 0, 1) := by decide +kernel
theorem ndF_add_12 : decode ncF_add 12 = .ok (.ireturn, 1) := by decide +kernel
theorem ndF_add_13 : decode ncF_add 13 = .ok (.aload_n 0, 1) := by decide +kernel
theorem ndF_add_14 : decode ncF_add 14 = .ok (.aload_n 0, 1) := by decide +kernel
theorem ndF_add_15 : decode ncF_add 15 = .ok (.getfield 28, 3) := by decide +kernel
theorem ndF_add_18 : decode ncF_add 18 = .ok (.invokevirtual 75, 3) := by decide +kernel
theorem ndF_add_21 : decode ncF_add 21 = .ok (.lload_n 1, 1) := by decide +kernel
theorem ndF_add_22 : decode ncF_add 22 = .ok (.invokevirtual 78, 3) := by decide +kernel
theorem ndF_add_25 : decode ncF_add 25 = .ok (.aload_n 0, 1) := by decide +kernel
theorem ndF_add_26 : decode ncF_add 26 = .ok (.getfield 28, 3) := by decide +kernel
theorem ndF_add_29 : decode ncF_add 29 = .ok (.lload_n 1, 1) := by decide +kernel
theorem ndF_add_30 : decode ncF_add 30 = .ok (.invokevirtual 82, 3) := by decide +kernel
theorem ndF_add_33 : decode ncF_add 33 = .ok (.iconst 1, 1) := by decide +kernel
theorem ndF_add_34 : decode ncF_add 34 = .ok (.ireturn, 1) := by decide +kernel
theorem ndF_end_0 : decode ncF_end 0 = .ok (.aload_n 0, 1) := by decide +kernel
theorem ndF_end_1 : decode ncF_end 1 = .ok (.getfield 28, 3) := by decide +kernel
theorem ndF_end_4 : decode ncF_end 4 = .ok (.getfield 52, 3) := by decide +kernel
theorem ndF_end_7 : decode ncF_end 7 = .ok (.ifCond .eq 20, 3) := by decide +kernel
theorem ndF_end_10 : decode ncF_end 10 = .ok (.aload_n 0, 1) := by decide +kernel
theorem ndF_end_11 : decode ncF_end 11 = .ok (.getfield 31, 3) := by decide +kernel
theorem ndF_end_14 : decode ncF_end 14 = .ok (.ifCond .ne 13, 3) := by decide +kernel
theorem ndF_end_17 : decode ncF_end 17 = .ok (.aload_n 0, 1) := by decide +kernel
theorem ndF_end_18 : decode ncF_end 18 = .ok (.getfield 28, 3) := by decide +kernel
theorem ndF_end_21 : decode ncF_end 21 = .ok (.invokevirtual 75, 3) := by decide +kernel
theorem ndF_end_24 : decode ncF_end 24 = .ok (.ifCond .eq 5, 3) := by decide +kernel
theorem ndF_end_27 : decode ncF_end 27 = .ok (.iconst (-1), 1) := by decide +kernel
theorem ndF_end_28 : decode ncF_end 28 = .ok (.ireturn, 1) := by decide +kernel
theorem ndF_end_29 : decode ncF_end 29 = .ok (.bipush 98, 2) := by decide +kernel
theorem ndF_end_31 : decode ncF_end 31 = .ok (.aload_n 0, 1) := by decide +kernel
theorem ndF_end_32 : decode ncF_end 32 = .ok (.getfield 25, 3) := by decide +kernel
theorem ndF_end_35 : decode ncF_end 35 = .ok (.invokevirtual 86, 3) := by decide +kernel
theorem ndF_end_38 : decode ncF_end 38 = .ok (.bipush 100, 2) := by decide +kernel
theorem ndF_end_40 : decode ncF_end 40 = .ok (.imul, 1) := by decide +kernel
theorem ndF_end_41 : decode ncF_end 41 = .ok (.bipush 97, 2) := by decide +kernel
theorem ndF_end_43 : decode ncF_end 43 = .ok (.irem, 1) := by decide +kernel
theorem ndF_end_44 : decode ncF_end 44 = .ok (.isub, 1) := by decide +kernel
theorem ndF_end_45 : decode ncF_end 45 = .ok (.istore_n 1, 1) := by decide +kernel
theorem ndF_end_46 : decode ncF_end 46 = .ok (.aload_n 0, 1) := by decide +kernel
theorem ndF_end_47 : decode ncF_end 47 = .ok (.getfield 25, 3) := by decide +kernel
theorem ndF_end_50 : decode ncF_end 50 = .ok (.bipush 48, 2) := by decide +kernel
theorem ndF_end_52 : decode ncF_end 52 = .ok (.iload_n 1, 1) := by decide +kernel
theorem ndF_end_53 : decode ncF_end 53 = .ok (.bipush 10, 2) := by decide +kernel
theorem ndF_end_55 : decode ncF_end 55 = .ok (.idiv, 1) := by decide +kernel
theorem ndF_end_56 : decode ncF_end 56 = .ok (.iadd, 1) := by decide +kernel
theorem ndF_end_57 : decode ncF_end 57 = .ok (.invokevirtual 39, 3) := by decide +kernel
theorem ndF_end_60 : decode ncF_end 60 = .ok (.aload_n 0, 1) := by decide +kernel
theorem ndF_end_61 : decode ncF_end 61 = .ok (.getfield 25, 3) := by decide +kernel
theorem ndF_end_64 : decode ncF_end 64 = .ok (.bipush 48, 2) := by decide +kernel
theorem ndF_end_66 : decode ncF_end 66 = .ok (.iload_n 1, 1) := by decide +kernel
theorem ndF_end_67 : decode ncF_end 67 = .ok (.bipush 10, 2) := by decide +kernel
theorem ndF_end_69 : decode ncF_end 69 = .ok (.irem, 1) := by decide +kernel
theorem ndF_end_70 : decode ncF_end 70 = .ok (.iadd, 1) := by decide +kernel
theorem ndF_end_71 : decode ncF_end 71 = .ok (.invokevirtual 39, 3) := by decide +kernel
theorem ndF_end_74 : decode ncF_end 74 = .ok (.aload_n 0, 1) := by decide +kernel
theorem ndF_end_75 : decode ncF_end 75 = .ok (.iconst 1, 1) := by decide +kernel
theorem ndF_end_76 : decode ncF_end 76 = .ok (.putfield 31, 3) := by decide +kernel
theorem ndF_end_79 : decode ncF_end 79 = .ok (.aload_n 0, 1) := by decide +kernel
theorem ndF_end_80 : decode ncF_end 80 = .ok (.getfield 25, 3) := by decide +kernel
theorem ndF_end_83 : decode ncF_end 83 = .ok (.getfield 89, 3) := by decide +kernel
theorem ndF_end_86 : decode ncF_end 86 = .ok (.ireturn, 1) := by decide +kernel
theorem ndF_byteOf_0 : decode ncF_byteOf 0 = .ok (.aload_n 0, 1) := by decide +kernel
theorem ndF_byteOf_1 : decode ncF_byteOf 1 = .ok (.getfield 25, 3) := by decide +kernel
theorem ndF_byteOf_4 : decode ncF_byteOf 4 = .ok (.iload_n 1, 1) := by decide +kernel
theorem ndF_byteOf_5 : decode ncF_byteOf 5 = .ok (.invokevirtual 92, 3) := by decide +kernel
theorem ndF_byteOf_8 : decode ncF_byteOf 8 = .ok (.ireturn, 1) := by decide +kernel
theorem ndF_copy_0 : decode ncF_copy 0 = .ok (.aload_n 0, 1) := by decide +kernel
theorem ndF_copy_1 : decode ncF_copy 1 = .ok (.getfield 28, 3) := by decide +kernel
theorem ndF_copy_4 : decode ncF_copy 4 = .ok (.getfield 52, 3) := by decide +kernel
theorem ndF_copy_7 : decode ncF_copy 7 = .ok (.ifCond .eq 20, 3) := by decide +kernel
theorem ndF_copy_10 : decode ncF_copy 10 = .ok (.aload_n 0, 1) := by decide +kernel
theorem ndF_copy_11 : decode ncF_copy 11 = .ok (.getfield 14, 3) := by decide +kernel
theorem ndF_copy_14 : decode ncF_copy 14 = .ok (.aload_n 0, 1) := by decide +kernel
theorem ndF_copy_15 : decode ncF_copy 15 = .ok (.getfield 25, 3) := by decide +kernel
theorem ndF_copy_18 : decode ncF_copy 18 = .ok (.getfield 89, 3) := by decide +kernel
theorem ndF_copy_21 : decode ncF_copy 21 = .ok (.invokevirtual 35, 3) := by decide +kernel
theorem ndF_copy_24 : decode ncF_copy 24 = .ok (.ifCond .ne 5, 3) := by decide +kernel
theorem ndF_copy_27 : decode ncF_copy 27 = .ok (.iconst 0, 1) := by decide +kernel
theorem ndF_copy_28 : decode ncF_copy 28 = .ok (.ireturn, 1) := by decide +kernel
theorem ndF_copy_29 : decode ncF_copy 29 = .ok (.iconst 0, 1) := by decide +kernel
theorem ndF_copy_30 : decode ncF_copy 30 = .ok (.istore_n 1, 1) := by decide +kernel
theorem ndF_copy_31 : decode ncF_copy 31 = .ok (.iload_n 1, 1) := by decide +kernel
theorem ndF_copy_32 : decode ncF_copy 32 = .ok (.aload_n 0, 1) := by decide +kernel
theorem ndF_copy_33 : decode ncF_copy 33 = .ok (.getfield 25, 3) := by decide +kernel
theorem ndF_copy_36 : decode ncF_copy 36 = .ok (.getfield 89, 3) := by decide +kernel
theorem ndF_copy_39 : decode ncF_copy 39 = .ok (.if_icmp .ge 24, 3) := by decide +kernel
theorem ndF_copy_42 : decode ncF_copy 42 = .ok (.aload_n 0, 1) := by decide +kernel
theorem ndF_copy_43 : decode ncF_copy 43 = .ok (.getfield 14, 3) := by decide +kernel
theorem ndF_copy_46 : decode ncF_copy 46 = .ok (.aload_n 0, 1) := by decide +kernel
theorem ndF_copy_47 : decode ncF_copy 47 = .ok (.getfield 25, 3) := by decide +kernel
theorem ndF_copy_50 : decode ncF_copy 50 = .ok (.iload_n 1, 1) := by decide +kernel
theorem ndF_copy_51 : decode ncF_copy 51 = .ok (.invokevirtual 92, 3) := by decide +kernel
theorem ndF_copy_54 : decode ncF_copy 54 = .ok (.invokevirtual 39, 3) := by decide +kernel
theorem ndF_copy_57 : decode ncF_copy 57 = .ok (.iinc 1 1, 3) := by decide +kernel
theorem ndF_copy_60 : decode ncF_copy 60 = .ok (.goto (-29), 3) := by decide +kernel
theorem ndF_copy_63 : decode ncF_copy 63 = .ok (.iconst 1, 1) := by decide +kernel
theorem ndF_copy_64 : decode ncF_copy 64 = .ok (.ireturn, 1) := by decide +kernel
theorem ndF_hearText_0 : decode ncF_hearText 0 = .ok (.aload_n 0, 1) := by decide +kernel
theorem ndF_hearText_1 : decode ncF_hearText 1 = .ok (.invokevirtual 95, 3) := by decide +kernel
theorem ndF_hearText_4 : decode ncF_hearText 4 = .ok (.istore_n 1, 1) := by decide +kernel
theorem ndF_hearText_5 : decode ncF_hearText 5 = .ok (.iconst 3, 1) := by decide +kernel
theorem ndF_hearText_6 : decode ncF_hearText 6 = .ok (.istore_n 2, 1) := by decide +kernel
theorem ndF_hearText_7 : decode ncF_hearText 7 = .ok (.iconst 0, 1) := by decide +kernel
theorem ndF_hearText_8 : decode ncF_hearText 8 = .ok (.istore_n 3, 1) := by decide +kernel
theorem ndF_hearText_9 : decode ncF_hearText 9 = .ok (.iload_n 3, 1) := by decide +kernel
theorem ndF_hearText_10 : decode ncF_hearText 10 = .ok (.bipush 20, 2) := by decide +kernel
theorem ndF_hearText_12 : decode ncF_hearText 12 = .ok (.if_icmp .ge 52, 3) := by decide +kernel
theorem ndF_hearText_15 : decode ncF_hearText 15 = .ok (.iload_n 1, 1) := by decide +kernel
theorem ndF_hearText_16 : decode ncF_hearText 16 = .ok (.iconst (-1), 1) := by decide +kernel
theorem ndF_hearText_17 : decode ncF_hearText 17 = .ok (.if_icmp .ne 47, 3) := by decide +kernel
theorem ndF_hearText_20 : decode ncF_hearText 20 = .ok (.aload_n 0, 1) := by decide +kernel
theorem ndF_hearText_21 : decode ncF_hearText 21 = .ok (.getfield 21, 3) := by decide +kernel
theorem ndF_hearText_24 : decode ncF_hearText 24 = .ok (.invokevirtual 75, 3) := by decide +kernel
theorem ndF_hearText_27 : decode ncF_hearText 27 = .ok (.ifCond .eq 37, 3) := by decide +kernel
theorem ndF_hearText_30 : decode ncF_hearText 30 = .ok (.iload_n 2, 1) := by decide +kernel
theorem ndF_hearText_31 : decode ncF_hearText 31 = .ok (.getstatic 98, 3) := by decide +kernel
theorem ndF_hearText_34 : decode ncF_hearText 34 = .ok (.aload_n 0, 1) := by decide +kernel
theorem ndF_hearText_35 : decode ncF_hearText 35 = .ok (.getfield 21, 3) := by decide +kernel
theorem ndF_hearText_38 : decode ncF_hearText 38 = .ok (.invokevirtual 75, 3) := by decide +kernel
theorem ndF_hearText_41 : decode ncF_hearText 41 = .ok (.invokestatic 102, 3) := by decide +kernel
theorem ndF_hearText_44 : decode ncF_hearText 44 = .ok (.iadd, 1) := by decide +kernel
theorem ndF_hearText_45 : decode ncF_hearText 45 = .ok (.istore 4, 2) := by decide +kernel
theorem ndF_hearText_47 : decode ncF_hearText 47 = .ok (.aload_n 0, 1) := by decide +kernel
theorem ndF_hearText_48 : decode ncF_hearText 48 = .ok (.iload_n 2, 1) := by decide +kernel
theorem ndF_hearText_49 : decode ncF_hearText 49 = .ok (.iload 4, 2) := by decide +kernel
theorem ndF_hearText_51 : decode ncF_hearText 51 = .ok (.invokevirtual 106, 3) := by decide +kernel
theorem ndF_hearText_54 : decode ncF_hearText 54 = .ok (.istore_n 1, 1) := by decide +kernel
theorem ndF_hearText_55 : decode ncF_hearText 55 = .ok (.iload 4, 2) := by decide +kernel
theorem ndF_hearText_57 : decode ncF_hearText 57 = .ok (.istore_n 2, 1) := by decide +kernel
theorem ndF_hearText_58 : decode ncF_hearText 58 = .ok (.iinc 3 1, 3) := by decide +kernel
theorem ndF_hearText_61 : decode ncF_hearText 61 = .ok (.goto (-52), 3) := by decide +kernel
theorem ndF_hearText_64 : decode ncF_hearText 64 = .ok (.iload_n 1, 1) := by decide +kernel
theorem ndF_hearText_65 : decode ncF_hearText 65 = .ok (.iconst (-1), 1) := by decide +kernel
theorem ndF_hearText_66 : decode ncF_hearText 66 = .ok (.if_icmp .ne 11, 3) := by decide +kernel
theorem ndF_hearText_69 : decode ncF_hearText 69 = .ok (.aload_n 0, 1) := by decide +kernel
theorem ndF_hearText_70 : decode ncF_hearText 70 = .ok (.iload_n 2, 1) := by decide +kernel
theorem ndF_hearText_71 : decode ncF_hearText 71 = .ok (.invokevirtual 109, 3) := by decide +kernel
theorem ndF_hearText_74 : decode ncF_hearText 74 = .ok (.goto 4, 3) := by decide +kernel
theorem ndF_hearText_77 : decode ncF_hearText 77 = .ok (.iload_n 1, 1) := by decide +kernel
theorem ndF_hearText_78 : decode ncF_hearText 78 = .ok (.ireturn, 1) := by decide +kernel
theorem ndF_hearKind_0 : decode ncF_hearKind 0 = .ok (.iconst 0, 1) := by decide +kernel
theorem ndF_hearKind_1 : decode ncF_hearKind 1 = .ok (.istore_n 1, 1) := by decide +kernel
theorem ndF_hearKind_2 : decode ncF_hearKind 2 = .ok (.iload_n 1, 1) := by decide +kernel
theorem ndF_hearKind_3 : decode ncF_hearKind 3 = .ok (.iconst 3, 1) := by decide +kernel
theorem ndF_hearKind_4 : decode ncF_hearKind 4 = .ok (.if_icmp .ge 21, 3) := by decide +kernel
theorem ndF_hearKind_7 : decode ncF_hearKind 7 = .ok (.aload_n 0, 1) := by decide +kernel
theorem ndF_hearKind_8 : decode ncF_hearKind 8 = .ok (.iload_n 1, 1) := by decide +kernel
theorem ndF_hearKind_9 : decode ncF_hearKind 9 = .ok (.iconst 1, 1) := by decide +kernel
theorem ndF_hearKind_10 : decode ncF_hearKind 10 = .ok (.iadd, 1) := by decide +kernel
theorem ndF_hearKind_11 : decode ncF_hearKind 11 = .ok (.invokevirtual 112, 3) := by decide +kernel
theorem ndF_hearKind_14 : decode ncF_hearKind 14 = .ok (.ifCond .ne 5, 3) := by decide +kernel
theorem ndF_hearKind_17 : decode ncF_hearKind 17 = .ok (.iload_n 1, 1) := by decide +kernel
theorem ndF_hearKind_18 : decode ncF_hearKind 18 = .ok (.ireturn, 1) := by decide +kernel
theorem ndF_hearKind_19 : decode ncF_hearKind 19 = .ok (.iinc 1 1, 3) := by decide +kernel
theorem ndF_hearKind_22 : decode ncF_hearKind 22 = .ok (.goto (-20), 3) := by decide +kernel
theorem ndF_hearKind_25 : decode ncF_hearKind 25 = .ok (.aload_n 0, 1) := by decide +kernel
theorem ndF_hearKind_26 : decode ncF_hearKind 26 = .ok (.getfield 21, 3) := by decide +kernel
theorem ndF_hearKind_29 : decode ncF_hearKind 29 = .ok (.aload_n 0, 1) := by decide +kernel
theorem ndF_hearKind_30 : decode ncF_hearKind 30 = .ok (.iconst 3, 1) := by decide +kernel
theorem ndF_hearKind_31 : decode ncF_hearKind 31 = .ok (.invokevirtual 112, 3) := by decide +kernel
theorem ndF_hearKind_34 : decode ncF_hearKind 34 = .ok (.invokevirtual 49, 3) := by decide +kernel
theorem ndF_hearKind_37 : decode ncF_hearKind 37 = .ok (.iconst (-1), 1) := by decide +kernel
theorem ndF_hearKind_38 : decode ncF_hearKind 38 = .ok (.ireturn, 1) := by decide +kernel
theorem ndF_kindWithSigns_0 : decode ncF_kindWithSigns 0 = .ok (.iconst 1, 1) := by decide +kernel
theorem ndF_kindWithSigns_1 : decode ncF_kindWithSigns 1 = .ok (.istore_n 2, 1) := by decide +kernel
theorem ndF_kindWithSigns_2 : decode ncF_kindWithSigns 2 = .ok (.iload_n 2, 1) := by decide +kernel
theorem ndF_kindWithSigns_3 : decode ncF_kindWithSigns 3 = .ok (.bipush 15, 2) := by decide +kernel
theorem ndF_kindWithSigns_5 : decode ncF_kindWithSigns 5 = .ok (.if_icmp .gt 20, 3) := by decide +kernel
theorem ndF_kindWithSigns_8 : decode ncF_kindWithSigns 8 = .ok (.aload_n 0, 1) := by decide +kernel
theorem ndF_kindWithSigns_9 : decode ncF_kindWithSigns 9 = .ok (.iload_n 2, 1) := by decide +kernel
theorem ndF_kindWithSigns_10 : decode ncF_kindWithSigns 10 = .ok (.iload_n 1, 1) := by decide +kernel
theorem ndF_kindWithSigns_11 : decode ncF_kindWithSigns 11 = .ok (.invokevirtual 115, 3) := by decide +kernel
theorem ndF_kindWithSigns_14 : decode ncF_kindWithSigns 14 = .ok (.ifCond .eq 5, 3) := by decide +kernel
theorem ndF_kindWithSigns_17 : decode ncF_kindWithSigns 17 = .ok (.iload_n 2, 1) := by decide +kernel
theorem ndF_kindWithSigns_18 : decode ncF_kindWithSigns 18 = .ok (.ireturn, 1) := by decide +kernel
theorem ndF_kindWithSigns_19 : decode ncF_kindWithSigns 19 = .ok (.iinc 2 1, 3) := by decide +kernel
theorem ndF_kindWithSigns_22 : decode ncF_kindWithSigns 22 = .ok (.goto (-20), 3) := by decide +kernel
theorem ndF_kindWithSigns_25 : decode ncF_kindWithSigns 25 = .ok (.iconst 0, 1) := by decide +kernel
theorem ndF_kindWithSigns_26 : decode ncF_kindWithSigns 26 = .ok (.ireturn, 1) := by decide +kernel
theorem ndF_textBeginsAs_0 : decode ncF_textBeginsAs 0 = .ok (.iconst 0, 1) := by decide +kernel
theorem ndF_textBeginsAs_1 : decode ncF_textBeginsAs 1 = .ok (.istore_n 3, 1) := by decide +kernel
theorem ndF_textBeginsAs_2 : decode ncF_textBeginsAs 2 = .ok (.iload_n 3, 1) := by decide +kernel
theorem ndF_textBeginsAs_3 : decode ncF_textBeginsAs 3 = .ok (.iload_n 2, 1) := by decide +kernel
theorem ndF_textBeginsAs_4 : decode ncF_textBeginsAs 4 = .ok (.if_icmp .ge 27, 3) := by decide +kernel
theorem ndF_textBeginsAs_7 : decode ncF_textBeginsAs 7 = .ok (.aload_n 0, 1) := by decide +kernel
theorem ndF_textBeginsAs_8 : decode ncF_textBeginsAs 8 = .ok (.getfield 14, 3) := by decide +kernel
theorem ndF_textBeginsAs_11 : decode ncF_textBeginsAs 11 = .ok (.iload_n 3, 1) := by decide +kernel
theorem ndF_textBeginsAs_12 : decode ncF_textBeginsAs 12 = .ok (.invokevirtual 92, 3) := by decide +kernel
theorem ndF_textBeginsAs_15 : decode ncF_textBeginsAs 15 = .ok (.iload_n 1, 1) := by decide +kernel
theorem ndF_textBeginsAs_16 : decode ncF_textBeginsAs 16 = .ok (.iload_n 3, 1) := by decide +kernel
theorem ndF_textBeginsAs_17 : decode ncF_textBeginsAs 17 = .ok (.invokestatic 67, 3) := by decide +kernel
theorem ndF_textBeginsAs_20 : decode ncF_textBeginsAs 20 = .ok (.if_icmp .eq 5, 3) := by decide +kernel
theorem ndF_textBeginsAs_23 : decode ncF_textBeginsAs 23 = .ok (.iconst 0, 1) := by decide +kernel
theorem ndF_textBeginsAs_24 : decode ncF_textBeginsAs 24 = .ok (.ireturn, 1) := by decide +kernel
theorem ndF_textBeginsAs_25 : decode ncF_textBeginsAs 25 = .ok (.iinc 3 1, 3) := by decide +kernel
theorem ndF_textBeginsAs_28 : decode ncF_textBeginsAs 28 = .ok (.goto (-26), 3) := by decide +kernel
theorem ndF_textBeginsAs_31 : decode ncF_textBeginsAs 31 = .ok (.iconst 1, 1) := by decide +kernel
theorem ndF_textBeginsAs_32 : decode ncF_textBeginsAs 32 = .ok (.ireturn, 1) := by decide +kernel
theorem ndF_hearField_0 : decode ncF_hearField 0 = .ok (.aload_n 0, 1) := by decide +kernel
theorem ndF_hearField_1 : decode ncF_hearField 1 = .ok (.getfield 21, 3) := by decide +kernel
theorem ndF_hearField_4 : decode ncF_hearField 4 = .ok (.invokevirtual 75, 3) := by decide +kernel
theorem ndF_hearField_7 : decode ncF_hearField 7 = .ok (.istore_n 3, 1) := by decide +kernel
theorem ndF_hearField_8 : decode ncF_hearField 8 = .ok (.iload_n 3, 1) := by decide +kernel
theorem ndF_hearField_9 : decode ncF_hearField 9 = .ok (.invokestatic 119, 3) := by decide +kernel
theorem ndF_hearField_12 : decode ncF_hearField 12 = .ok (.ifCond .eq 8, 3) := by decide +kernel
theorem ndF_hearField_15 : decode ncF_hearField 15 = .ok (.bipush 36, 2) := by decide +kernel
theorem ndF_hearField_17 : decode ncF_hearField 17 = .ok (.goto 5, 3) := by decide +kernel
theorem ndF_hearField_20 : decode ncF_hearField 20 = .ok (.bipush 10, 2) := by decide +kernel
theorem ndF_hearField_22 : decode ncF_hearField 22 = .ok (.istore 4, 2) := by decide +kernel
theorem ndF_hearField_24 : decode ncF_hearField 24 = .ok (.lconst 0, 1) := by decide +kernel
theorem ndF_hearField_25 : decode ncF_hearField 25 = .ok (.lstore 5, 2) := by decide +kernel
theorem ndF_hearField_27 : decode ncF_hearField 27 = .ok (.iload_n 1, 1) := by decide +kernel
theorem ndF_hearField_28 : decode ncF_hearField 28 = .ok (.istore 7, 2) := by decide +kernel
theorem ndF_hearField_30 : decode ncF_hearField 30 = .ok (.iload 7, 2) := by decide +kernel
theorem ndF_hearField_32 : decode ncF_hearField 32 = .ok (.iload_n 2, 1) := by decide +kernel
theorem ndF_hearField_33 : decode ncF_hearField 33 = .ok (.if_icmp .ge 59, 3) := by decide +kernel
theorem ndF_hearField_36 : decode ncF_hearField 36 = .ok (.iload_n 3, 1) := by decide +kernel
theorem ndF_hearField_37 : decode ncF_hearField 37 = .ok (.aload_n 0, 1) := by decide +kernel
theorem ndF_hearField_38 : decode ncF_hearField 38 = .ok (.getfield 14, 3) := by decide +kernel
theorem ndF_hearField_41 : decode ncF_hearField 41 = .ok (.iload 7, 2) := by decide +kernel
theorem ndF_hearField_43 : decode ncF_hearField 43 = .ok (.invokevirtual 92, 3) := by decide +kernel
theorem ndF_hearField_46 : decode ncF_hearField 46 = .ok (.invokestatic 122, 3) := by decide +kernel
theorem ndF_hearField_49 : decode ncF_hearField 49 = .ok (.istore 8, 2) := by decide +kernel
theorem ndF_hearField_51 : decode ncF_hearField 51 = .ok (.iload 8, 2) := by decide +kernel
theorem ndF_hearField_53 : decode ncF_hearField 53 = .ok (.ifCond .lt 18, 3) := by decide +kernel
theorem ndF_hearField_56 : decode ncF_hearField 56 = .ok (.iload 8, 2) := by decide +kernel
theorem ndF_hearField_58 : decode ncF_hearField 58 = .ok (.ifCond .le 16, 3) := by decide +kernel
theorem ndF_hearField_61 : decode ncF_hearField 61 = .ok (.aload_n 0, 1) := by decide +kernel
theorem ndF_hearField_62 : decode ncF_hearField 62 = .ok (.getfield 21, 3) := by decide +kernel
theorem ndF_hearField_65 : decode ncF_hearField 65 = .ok (.invokevirtual 125, 3) := by decide +kernel
theorem ndF_hearField_68 : decode ncF_hearField 68 = .ok (.ifCond .eq 6, 3) := by decide +kernel
theorem ndF_hearField_71 : decode ncF_hearField 71 = .ok (.iload 7, 2) := by decide +kernel
theorem ndF_hearField_73 : decode ncF_hearField 73 = .ok (.ireturn, 1) := by decide +kernel
theorem ndF_hearField_74 : decode ncF_hearField 74 = .ok (.lload 5, 2) := by decide +kernel
theorem ndF_hearField_76 : decode ncF_hearField 76 = .ok (.iload 4, 2) := by decide +kernel
theorem ndF_hearField_78 : decode ncF_hearField 78 = .ok (.i2l, 1) := by decide +kernel
theorem ndF_hearField_79 : decode ncF_hearField 79 = .ok (.lmul, 1) := by decide +kernel
theorem ndF_hearField_80 : decode ncF_hearField 80 = .ok (.iload 8, 2) := by decide +kernel
theorem ndF_hearField_82 : decode ncF_hearField 82 = .ok (.i2l, 1) := by decide +kernel
theorem ndF_hearField_83 : decode ncF_hearField 83 = .ok (.ladd, 1) := by decide +kernel
theorem ndF_hearField_84 : decode ncF_hearField 84 = .ok (.lstore 5, 2) := by decide +kernel
theorem ndF_hearField_86 : decode ncF_hearField 86 = .ok (.iinc 7 1, 3) := by decide +kernel
theorem ndF_hearField_89 : decode ncF_hearField 89 = .ok (.goto (-59), 3) := by decide +kernel
theorem ndF_hearField_92 : decode ncF_hearField 92 = .ok (.aload_n 0, 1) := by decide +kernel
theorem ndF_hearField_93 : decode ncF_hearField 93 = .ok (.getfield 21, 3) := by decide +kernel
theorem ndF_hearField_96 : decode ncF_hearField 96 = .ok (.lload 5, 2) := by decide +kernel
theorem ndF_hearField_98 : decode ncF_hearField 98 = .ok (.invokevirtual 82, 3) := by decide +kernel
theorem ndF_hearField_101 : decode ncF_hearField 101 = .ok (.iconst (-1), 1) := by decide +kernel
theorem ndF_hearField_102 : decode ncF_hearField 102 = .ok (.ireturn, 1) := by decide +kernel
theorem ndF_hearCheckDigits_0 : decode ncF_hearCheckDigits 0 = .ok (.iload_n 1, 1) := by decide +kernel
theorem ndF_hearCheckDigits_1 : decode ncF_hearCheckDigits 1 = .ok (.istore_n 2, 1) := by decide +kernel
theorem ndF_hearCheckDigits_2 : decode ncF_hearCheckDigits 2 = .ok (.iload_n 2, 1) := by decide +kernel
theorem ndF_hearCheckDigits_3 : decode ncF_hearCheckDigits 3 = .ok (.iload_n 1, 1) := by decide +kernel
theorem ndF_hearCheckDigits_4 : decode ncF_hearCheckDigits 4 = .ok (.iconst 2, 1) := by decide +kernel
theorem ndF_hearCheckDigits_5 : decode ncF_hearCheckDigits 5 = .ok (.iadd, 1) := by decide +kernel
theorem ndF_hearCheckDigits_6 : decode ncF_hearCheckDigits 6 = .ok (.if_icmp .ge 25, 3) := by decide +kernel
theorem ndF_hearCheckDigits_9 : decode ncF_hearCheckDigits 9 = .ok (.aload_n 0, 1) := by decide +kernel
theorem ndF_hearCheckDigits_10 : decode ncF_hearCheckDigits 10 = .ok (.getfield 14, 3) := by decide +kernel
theorem ndF_hearCheckDigits_13 : decode ncF_hearCheckDigits 13 = .ok (.iload_n 2, 1) := by decide +kernel
theorem ndF_hearCheckDigits_14 : decode ncF_hearCheckDigits 14 = .ok (.invokevirtual 92, 3) := by decide +kernel
theorem ndF_hearCheckDigits_17 : decode ncF_hearCheckDigits 17 = .ok (.invokestatic 129, 3) := by decide +kernel
theorem ndF_hearCheckDigits_20 : decode ncF_hearCheckDigits 20 = .ok (.ifCond .ne 5, 3) := by decide +kernel
theorem ndF_hearCheckDigits_23 : decode ncF_hearCheckDigits 23 = .ok (.iload_n 2, 1) := by decide +kernel
theorem ndF_hearCheckDigits_24 : decode ncF_hearCheckDigits 24 = .ok (.ireturn, 1) := by decide +kernel
theorem ndF_hearCheckDigits_25 : decode ncF_hearCheckDigits 25 = .ok (.iinc 2 1, 3) := by decide +kernel
theorem ndF_hearCheckDigits_28 : decode ncF_hearCheckDigits 28 = .ok (.goto (-26), 3) := by decide +kernel
theorem ndF_hearCheckDigits_31 : decode ncF_hearCheckDigits 31 = .ok (.aload_n 0, 1) := by decide +kernel
theorem ndF_hearCheckDigits_32 : decode ncF_hearCheckDigits 32 = .ok (.getfield 14, 3) := by decide +kernel
theorem ndF_hearCheckDigits_35 : decode ncF_hearCheckDigits 35 = .ok (.getfield 89, 3) := by decide +kernel
theorem ndF_hearCheckDigits_38 : decode ncF_hearCheckDigits 38 = .ok (.iload_n 1, 1) := by decide +kernel
theorem ndF_hearCheckDigits_39 : decode ncF_hearCheckDigits 39 = .ok (.iconst 2, 1) := by decide +kernel
theorem ndF_hearCheckDigits_40 : decode ncF_hearCheckDigits 40 = .ok (.iadd, 1) := by decide +kernel
theorem ndF_hearCheckDigits_41 : decode ncF_hearCheckDigits 41 = .ok (.if_icmp .le 7, 3) := by decide +kernel
theorem ndF_hearCheckDigits_44 : decode ncF_hearCheckDigits 44 = .ok (.iload_n 1, 1) := by decide +kernel
theorem ndF_hearCheckDigits_45 : decode ncF_hearCheckDigits 45 = .ok (.iconst 2, 1) := by decide +kernel
theorem ndF_hearCheckDigits_46 : decode ncF_hearCheckDigits 46 = .ok (.iadd, 1) := by decide +kernel
theorem ndF_hearCheckDigits_47 : decode ncF_hearCheckDigits 47 = .ok (.ireturn, 1) := by decide +kernel
theorem ndF_hearCheckDigits_48 : decode ncF_hearCheckDigits 48 = .ok (.aload_n 0, 1) := by decide +kernel
theorem ndF_hearCheckDigits_49 : decode ncF_hearCheckDigits 49 = .ok (.getfield 14, 3) := by decide +kernel
theorem ndF_hearCheckDigits_52 : decode ncF_hearCheckDigits 52 = .ok (.invokevirtual 86, 3) := by decide +kernel
theorem ndF_hearCheckDigits_55 : decode ncF_hearCheckDigits 55 = .ok (.iconst 1, 1) := by decide +kernel
theorem ndF_hearCheckDigits_56 : decode ncF_hearCheckDigits 56 = .ok (.if_icmp .ne 7, 3) := by decide +kernel
theorem ndF_hearCheckDigits_59 : decode ncF_hearCheckDigits 59 = .ok (.iconst (-1), 1) := by decide +kernel
theorem ndF_hearCheckDigits_60 : decode ncF_hearCheckDigits 60 = .ok (.goto 4, 3) := by decide +kernel
theorem ndF_hearCheckDigits_63 : decode ncF_hearCheckDigits 63 = .ok (.iload_n 1, 1) := by decide +kernel
theorem ndF_hearCheckDigits_64 : decode ncF_hearCheckDigits 64 = .ok (.ireturn, 1) := by decide +kernel
theorem ndF_writeField_0 : decode ncF_writeField 0 = .ok (.aload_n 0, 1) := by decide +kernel
theorem ndF_writeField_1 : decode ncF_writeField 1 = .ok (.getfield 25, 3) := by decide +kernel
theorem ndF_writeField_4 : decode ncF_writeField 4 = .ok (.getfield 89, 3) := by decide +kernel
theorem ndF_writeField_7 : decode ncF_writeField 7 = .ok (.istore 4, 2) := by decide +kernel
theorem ndF_writeField_9 : decode ncF_writeField 9 = .ok (.iload 4, 2) := by decide +kernel
theorem ndF_writeField_11 : decode ncF_writeField 11 = .ok (.getstatic 98, 3) := by decide +kernel
theorem ndF_writeField_14 : decode ncF_writeField 14 = .ok (.iload_n 1, 1) := by decide +kernel
theorem ndF_writeField_15 : decode ncF_writeField 15 = .ok (.invokestatic 102, 3) := by decide +kernel
theorem ndF_writeField_18 : decode ncF_writeField 18 = .ok (.iadd, 1) := by decide +kernel
theorem ndF_writeField_19 : decode ncF_writeField 19 = .ok (.istore 5, 2) := by decide +kernel
theorem ndF_writeField_21 : decode ncF_writeField 21 = .ok (.iload 4, 2) := by decide +kernel
theorem ndF_writeField_23 : decode ncF_writeField 23 = .ok (.istore 6, 2) := by decide +kernel
theorem ndF_writeField_25 : decode ncF_writeField 25 = .ok (.iload 6, 2) := by decide +kernel
theorem ndF_writeField_27 : decode ncF_writeField 27 = .ok (.iload 5, 2) := by decide +kernel
theorem ndF_writeField_29 : decode ncF_writeField 29 = .ok (.if_icmp .ge 18, 3) := by decide +kernel
theorem ndF_writeField_32 : decode ncF_writeField 32 = .ok (.aload_n 0, 1) := by decide +kernel
theorem ndF_writeField_33 : decode ncF_writeField 33 = .ok (.getfield 25, 3) := by decide +kernel
theorem ndF_writeField_36 : decode ncF_writeField 36 = .ok (.bipush 48, 2) := by decide +kernel
theorem ndF_writeField_38 : decode ncF_writeField 38 = .ok (.invokevirtual 39, 3) := by decide +kernel
theorem ndF_writeField_41 : decode ncF_writeField 41 = .ok (.iinc 6 1, 3) := by decide +kernel
theorem ndF_writeField_44 : decode ncF_writeField 44 = .ok (.goto (-19), 3) := by decide +kernel
theorem ndF_writeField_47 : decode ncF_writeField 47 = .ok (.iload_n 1, 1) := by decide +kernel
theorem ndF_writeField_48 : decode ncF_writeField 48 = .ok (.invokestatic 119, 3) := by decide +kernel
theorem ndF_writeField_51 : decode ncF_writeField 51 = .ok (.istore 6, 2) := by decide +kernel
theorem ndF_writeField_53 : decode ncF_writeField 53 = .ok (.lload_n 2, 1) := by decide +kernel
theorem ndF_writeField_54 : decode ncF_writeField 54 = .ok (.lstore 7, 2) := by decide +kernel
theorem ndF_writeField_56 : decode ncF_writeField 56 = .ok (.iload 5, 2) := by decide +kernel
theorem ndF_writeField_58 : decode ncF_writeField 58 = .ok (.iconst 1, 1) := by decide +kernel
theorem ndF_writeField_59 : decode ncF_writeField 59 = .ok (.isub, 1) := by decide +kernel
theorem ndF_writeField_60 : decode ncF_writeField 60 = .ok (.istore 9, 2) := by decide +kernel
theorem ndF_writeField_62 : decode ncF_writeField 62 = .ok (.iload 9, 2) := by decide +kernel
theorem ndF_writeField_64 : decode ncF_writeField 64 = .ok (.iload 4, 2) := by decide +kernel
theorem ndF_writeField_66 : decode ncF_writeField 66 = .ok (.if_icmp .lt 69, 3) := by decide +kernel
theorem ndF_writeField_69 : decode ncF_writeField 69 = .ok (.iload 6, 2) := by decide +kernel
theorem ndF_writeField_71 : decode ncF_writeField 71 = .ok (.ifCond .eq 12, 3) := by decide +kernel
theorem ndF_writeField_74 : decode ncF_writeField 74 = .ok (.lload 7, 2) := by decide +kernel
theorem ndF_writeField_76 : decode ncF_writeField 76 = .ok (.ldc2_w 132, 3) := by decide +kernel
theorem ndF_writeField_79 : decode ncF_writeField 79 = .ok (.lrem, 1) := by decide +kernel
theorem ndF_writeField_80 : decode ncF_writeField 80 = .ok (.goto 9, 3) := by decide +kernel
theorem ndF_writeField_83 : decode ncF_writeField 83 = .ok (.lload 7, 2) := by decide +kernel
theorem ndF_writeField_85 : decode ncF_writeField 85 = .ok (.ldc2_w 134, 3) := by decide +kernel
theorem ndF_writeField_88 : decode ncF_writeField 88 = .ok (.lrem, 1) := by decide +kernel
theorem ndF_writeField_89 : decode ncF_writeField 89 = .ok (.l2i, 1) := by decide +kernel
theorem ndF_writeField_90 : decode ncF_writeField 90 = .ok (.istore 10, 2) := by decide +kernel
theorem ndF_writeField_92 : decode ncF_writeField 92 = .ok (.aload_n 0, 1) := by decide +kernel
theorem ndF_writeField_93 : decode ncF_writeField 93 = .ok (.getfield 25, 3) := by decide +kernel
theorem ndF_writeField_96 : decode ncF_writeField 96 = .ok (.iload 9, 2) := by decide +kernel
theorem ndF_writeField_98 : decode ncF_writeField 98 = .ok (.iload_n 1, 1) := by decide +kernel
theorem ndF_writeField_99 : decode ncF_writeField 99 = .ok (.iload 10, 2) := by decide +kernel
theorem ndF_writeField_101 : decode ncF_writeField 101 = .ok (.invokestatic 136, 3) := by decide +kernel
theorem ndF_writeField_104 : decode ncF_writeField 104 = .ok (.invokevirtual 139, 3) := by decide +kernel
theorem ndF_writeField_107 : decode ncF_writeField 107 = .ok (.iload 6, 2) := by decide +kernel
theorem ndF_writeField_109 : decode ncF_writeField 109 = .ok (.ifCond .eq 12, 3) := by decide +kernel
theorem ndF_writeField_112 : decode ncF_writeField 112 = .ok (.lload 7, 2) := by decide +kernel
theorem ndF_writeField_114 : decode ncF_writeField 114 = .ok (.ldc2_w 132, 3) := by decide +kernel
theorem ndF_writeField_117 : decode ncF_writeField 117 = .ok (.ldiv, 1) := by decide +kernel
theorem ndF_writeField_118 : decode ncF_writeField 118 = .ok (.goto 9, 3) := by decide +kernel
theorem ndF_writeField_121 : decode ncF_writeField 121 = .ok (.lload 7, 2) := by decide +kernel
theorem ndF_writeField_123 : decode ncF_writeField 123 = .ok (.ldc2_w 134, 3) := by decide +kernel
theorem ndF_writeField_126 : decode ncF_writeField 126 = .ok (.ldiv, 1) := by decide +kernel
theorem ndF_writeField_127 : decode ncF_writeField 127 = .ok (.lstore 7, 2) := by decide +kernel
theorem ndF_writeField_129 : decode ncF_writeField 129 = .ok (.iinc 9 (-1), 3) := by decide +kernel
theorem ndF_writeField_132 : decode ncF_writeField 132 = .ok (.goto (-70), 3) := by decide +kernel
theorem ndF_writeField_135 : decode ncF_writeField 135 = .ok (.return_, 1) := by decide +kernel
theorem ndF_isToBase36_0 : decode ncF_isToBase36 0 = .ok (.iload_n 0, 1) := by decide +kernel
theorem ndF_isToBase36_1 : decode ncF_isToBase36 1 = .ok (.iconst 1, 1) := by decide +kernel
theorem ndF_isToBase36_2 : decode ncF_isToBase36 2 = .ok (.if_icmp .lt 12, 3) := by decide +kernel
theorem ndF_isToBase36_5 : decode ncF_isToBase36 5 = .ok (.iload_n 0, 1) := by decide +kernel
theorem ndF_isToBase36_6 : decode ncF_isToBase36 6 = .ok (.iconst 3, 1) := by decide +kernel
theorem ndF_isToBase36_7 : decode ncF_isToBase36 7 = .ok (.if_icmp .gt 7, 3) := by decide +kernel
theorem ndF_isToBase36_10 : decode ncF_isToBase36 10 = .ok (.iconst 1, 1) := by decide +kernel
theorem ndF_isToBase36_11 : decode ncF_isToBase36 11 = .ok (.goto 4, 3) := by decide +kernel
theorem ndF_isToBase36_14 : decode ncF_isToBase36 14 = .ok (.iconst 0, 1) := by decide +kernel
theorem ndF_isToBase36_15 : decode ncF_isToBase36 15 = .ok (.ireturn, 1) := by decide +kernel
theorem ndF_valueInSort_0 : decode ncF_valueInSort 0 = .ok (.iload_n 0, 1) := by decide +kernel
theorem ndF_valueInSort_1 : decode ncF_valueInSort 1 = .ok (.iconst 5, 1) := by decide +kernel
theorem ndF_valueInSort_2 : decode ncF_valueInSort 2 = .ok (.if_icmp .ne 10, 3) := by decide +kernel
theorem ndF_valueInSort_5 : decode ncF_valueInSort 5 = .ok (.iload_n 1, 1) := by decide +kernel
theorem ndF_valueInSort_6 : decode ncF_valueInSort 6 = .ok (.invokestatic 143, 3) := by decide +kernel
theorem ndF_valueInSort_9 : decode ncF_valueInSort 9 = .ok (.goto 7, 3) := by decide +kernel
theorem ndF_valueInSort_12 : decode ncF_valueInSort 12 = .ok (.iload_n 1, 1) := by decide +kernel
theorem ndF_valueInSort_13 : decode ncF_valueInSort 13 = .ok (.invokestatic 146, 3) := by decide +kernel
theorem ndF_valueInSort_16 : decode ncF_valueInSort 16 = .ok (.istore_n 2, 1) := by decide +kernel
theorem ndF_valueInSort_17 : decode ncF_valueInSort 17 = .ok (.iload_n 2, 1) := by decide +kernel
theorem ndF_valueInSort_18 : decode ncF_valueInSort 18 = .ok (.getstatic 149, 3) := by decide +kernel
theorem ndF_valueInSort_21 : decode ncF_valueInSort 21 = .ok (.iload_n 0, 1) := by decide +kernel
theorem ndF_valueInSort_22 : decode ncF_valueInSort 22 = .ok (.invokestatic 102, 3) := by decide +kernel
theorem ndF_valueInSort_25 : decode ncF_valueInSort 25 = .ok (.if_icmp .lt 18, 3) := by decide +kernel
theorem ndF_valueInSort_28 : decode ncF_valueInSort 28 = .ok (.iload_n 2, 1) := by decide +kernel
theorem ndF_valueInSort_29 : decode ncF_valueInSort 29 = .ok (.getstatic 152, 3) := by decide +kernel
theorem ndF_valueInSort_32 : decode ncF_valueInSort 32 = .ok (.iload_n 0, 1) := by decide +kernel
theorem ndF_valueInSort_33 : decode ncF_valueInSort 33 = .ok (.invokestatic 102, 3) := by decide +kernel
theorem ndF_valueInSort_36 : decode ncF_valueInSort 36 = .ok (.if_icmp .gt 7, 3) := by decide +kernel
theorem ndF_valueInSort_39 : decode ncF_valueInSort 39 = .ok (.iconst 1, 1) := by decide +kernel
theorem ndF_valueInSort_40 : decode ncF_valueInSort 40 = .ok (.goto 4, 3) := by decide +kernel
theorem ndF_valueInSort_43 : decode ncF_valueInSort 43 = .ok (.iconst 0, 1) := by decide +kernel
theorem ndF_valueInSort_44 : decode ncF_valueInSort 44 = .ok (.istore_n 3, 1) := by decide +kernel
theorem ndF_valueInSort_45 : decode ncF_valueInSort 45 = .ok (.iload_n 3, 1) := by decide +kernel
theorem ndF_valueInSort_46 : decode ncF_valueInSort 46 = .ok (.ifCond .eq 7, 3) := by decide +kernel
theorem ndF_valueInSort_49 : decode ncF_valueInSort 49 = .ok (.iload_n 2, 1) := by decide +kernel
theorem ndF_valueInSort_50 : decode ncF_valueInSort 50 = .ok (.goto 4, 3) := by decide +kernel
theorem ndF_valueInSort_53 : decode ncF_valueInSort 53 = .ok (.iconst (-1), 1) := by decide +kernel
theorem ndF_valueInSort_54 : decode ncF_valueInSort 54 = .ok (.ireturn, 1) := by decide +kernel
