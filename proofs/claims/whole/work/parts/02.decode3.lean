theorem ndD_step_0 : decode ncD_step 0 = .ok (.iload_n 1, 1) := by decide +kernel
theorem ndD_step_1 : decode ncD_step 1 = .ok (.bipush 57, 2) := by decide +kernel
theorem ndD_step_3 : decode ncD_step 3 = .ok (.if_icmp .gt 18, 3) := by decide +kernel
theorem ndD_step_6 : decode ncD_step 6 = .ok (.iload_n 0, 1) := by decide +kernel
theorem ndD_step_7 : decode ncD_step 7 = .ok (.bipush 10, 2) := by decide +kernel
theorem ndD_step_9 : decode ncD_step 9 = .ok (.imul, 1) := by decide +kernel
theorem ndD_step_10 : decode ncD_step 10 = .ok (.iload_n 1, 1) := by decide +kernel
theorem ndD_step_11 : decode ncD_step 11 = .ok (.iadd, 1) := by decide +kernel
theorem ndD_step_12 : decode ncD_step 12 = .ok (.bipush 48, 2) := by decide +kernel
theorem ndD_step_14 : decode ncD_step 14 = .ok (.isub, 1) := by decide +kernel
theorem ndD_step_15 : decode ncD_step 15 = .ok (.bipush 97, 2) := by decide +kernel
theorem ndD_step_17 : decode ncD_step 17 = .ok (.irem, 1) := by decide +kernel
theorem ndD_step_18 : decode ncD_step 18 = .ok (.goto 18, 3) := by decide +kernel
theorem ndD_step_21 : decode ncD_step 21 = .ok (.iload_n 0, 1) := by decide +kernel
theorem ndD_step_22 : decode ncD_step 22 = .ok (.bipush 100, 2) := by decide +kernel
theorem ndD_step_24 : decode ncD_step 24 = .ok (.imul, 1) := by decide +kernel
theorem ndD_step_25 : decode ncD_step 25 = .ok (.iload_n 1, 1) := by decide +kernel
theorem ndD_step_26 : decode ncD_step 26 = .ok (.iadd, 1) := by decide +kernel
theorem ndD_step_27 : decode ncD_step 27 = .ok (.bipush 65, 2) := by decide +kernel
theorem ndD_step_29 : decode ncD_step 29 = .ok (.isub, 1) := by decide +kernel
theorem ndD_step_30 : decode ncD_step 30 = .ok (.bipush 10, 2) := by decide +kernel
theorem ndD_step_32 : decode ncD_step 32 = .ok (.iadd, 1) := by decide +kernel
theorem ndD_step_33 : decode ncD_step 33 = .ok (.bipush 97, 2) := by decide +kernel
theorem ndD_step_35 : decode ncD_step 35 = .ok (.irem, 1) := by decide +kernel
theorem ndD_step_36 : decode ncD_step 36 = .ok (.ireturn, 1) := by decide +kernel
theorem ndD_type_0 : decode ncD_type 0 = .ok (.iload_n 3, 1) := by decide +kernel
theorem ndD_type_1 : decode ncD_type 1 = .ok (.iconst 1, 1) := by decide +kernel
theorem ndD_type_2 : decode ncD_type 2 = .ok (.if_icmp .lt 21, 3) := by decide +kernel
theorem ndD_type_5 : decode ncD_type 5 = .ok (.iload_n 3, 1) := by decide +kernel
theorem ndD_type_6 : decode ncD_type 6 = .ok (.bipush 8, 2) := by decide +kernel
theorem ndD_type_8 : decode ncD_type 8 = .ok (.if_icmp .gt 15, 3) := by decide +kernel
theorem ndD_type_11 : decode ncD_type 11 = .ok (.aload_n 0, 1) := by decide +kernel
theorem ndD_type_12 : decode ncD_type 12 = .ok (.getfield 29, 3) := by decide +kernel
theorem ndD_type_15 : decode ncD_type 15 = .ok (.iload_n 3, 1) := by decide +kernel
theorem ndD_type_16 : decode ncD_type 16 = .ok (.iadd, 1) := by decide +kernel
theorem ndD_type_17 : decode ncD_type 17 = .ok (.sipush 400, 3) := by decide +kernel
theorem ndD_type_20 : decode ncD_type 20 = .ok (.if_icmp .le 5, 3) := by decide +kernel
theorem ndD_type_23 : decode ncD_type 23 = .ok (.iconst 0, 1) := by decide +kernel
theorem ndD_type_24 : decode ncD_type 24 = .ok (.ireturn, 1) := by decide +kernel
theorem ndD_type_25 : decode ncD_type 25 = .ok (.iload_n 3, 1) := by decide +kernel
theorem ndD_type_26 : decode ncD_type 26 = .ok (.iconst 1, 1) := by decide +kernel
theorem ndD_type_27 : decode ncD_type 27 = .ok (.isub, 1) := by decide +kernel
theorem ndD_type_28 : decode ncD_type 28 = .ok (.istore 4, 2) := by decide +kernel
theorem ndD_type_30 : decode ncD_type 30 = .ok (.iload 4, 2) := by decide +kernel
theorem ndD_type_32 : decode ncD_type 32 = .ok (.ifCond .lt 40, 3) := by decide +kernel
theorem ndD_type_35 : decode ncD_type 35 = .ok (.aload_n 0, 1) := by decide +kernel
theorem ndD_type_36 : decode ncD_type 36 = .ok (.getfield 7, 3) := by decide +kernel
theorem ndD_type_39 : decode ncD_type 39 = .ok (.aload_n 0, 1) := by decide +kernel
theorem ndD_type_40 : decode ncD_type 40 = .ok (.getfield 29, 3) := by decide +kernel
theorem ndD_type_43 : decode ncD_type 43 = .ok (.lload_n 1, 1) := by decide +kernel
theorem ndD_type_44 : decode ncD_type 44 = .ok (.bipush 8, 2) := by decide +kernel
theorem ndD_type_46 : decode ncD_type 46 = .ok (.iload 4, 2) := by decide +kernel
theorem ndD_type_48 : decode ncD_type 48 = .ok (.imul, 1) := by decide +kernel
theorem ndD_type_49 : decode ncD_type 49 = .ok (.lshr, 1) := by decide +kernel
theorem ndD_type_50 : decode ncD_type 50 = .ok (.ldc2_w 33, 3) := by decide +kernel
theorem ndD_type_53 : decode ncD_type 53 = .ok (.land, 1) := by decide +kernel
theorem ndD_type_54 : decode ncD_type 54 = .ok (.l2i, 1) := by decide +kernel
theorem ndD_type_55 : decode ncD_type 55 = .ok (.iastore, 1) := by decide +kernel
theorem ndD_type_56 : decode ncD_type 56 = .ok (.aload_n 0, 1) := by decide +kernel
theorem ndD_type_57 : decode ncD_type 57 = .ok (.aload_n 0, 1) := by decide +kernel
theorem ndD_type_58 : decode ncD_type 58 = .ok (.getfield 29, 3) := by decide +kernel
theorem ndD_type_61 : decode ncD_type 61 = .ok (.iconst 1, 1) := by decide +kernel
theorem ndD_type_62 : decode ncD_type 62 = .ok (.iadd, 1) := by decide +kernel
theorem ndD_type_63 : decode ncD_type 63 = .ok (.putfield 29, 3) := by decide +kernel
theorem ndD_type_66 : decode ncD_type 66 = .ok (.iinc 4 (-1), 3) := by decide +kernel
theorem ndD_type_69 : decode ncD_type 69 = .ok (.goto (-39), 3) := by decide +kernel
theorem ndD_type_72 : decode ncD_type 72 = .ok (.iconst 1, 1) := by decide +kernel
theorem ndD_type_73 : decode ncD_type 73 = .ok (.ireturn, 1) := by decide +kernel
theorem ndD_kindOf_0 : decode ncD_kindOf 0 = .ok (.iconst 1, 1) := by decide +kernel
theorem ndD_kindOf_1 : decode ncD_kindOf 1 = .ok (.istore_n 2, 1) := by decide +kernel
theorem ndD_kindOf_2 : decode ncD_kindOf 2 = .ok (.iload_n 2, 1) := by decide +kernel
theorem ndD_kindOf_3 : decode ncD_kindOf 3 = .ok (.bipush 16, 2) := by decide +kernel
theorem ndD_kindOf_5 : decode ncD_kindOf 5 = .ok (.if_icmp .ge 58, 3) := by decide +kernel
theorem ndD_kindOf_8 : decode ncD_kindOf 8 = .ok (.iconst 1, 1) := by decide +kernel
theorem ndD_kindOf_9 : decode ncD_kindOf 9 = .ok (.istore_n 3, 1) := by decide +kernel
theorem ndD_kindOf_10 : decode ncD_kindOf 10 = .ok (.iconst 0, 1) := by decide +kernel
theorem ndD_kindOf_11 : decode ncD_kindOf 11 = .ok (.istore 4, 2) := by decide +kernel
theorem ndD_kindOf_13 : decode ncD_kindOf 13 = .ok (.iload 4, 2) := by decide +kernel
theorem ndD_kindOf_15 : decode ncD_kindOf 15 = .ok (.iload_n 1, 1) := by decide +kernel
theorem ndD_kindOf_16 : decode ncD_kindOf 16 = .ok (.if_icmp .ge 35, 3) := by decide +kernel
theorem ndD_kindOf_19 : decode ncD_kindOf 19 = .ok (.iload_n 3, 1) := by decide +kernel
theorem ndD_kindOf_20 : decode ncD_kindOf 20 = .ok (.ifCond .eq 23, 3) := by decide +kernel
theorem ndD_kindOf_23 : decode ncD_kindOf 23 = .ok (.aload_n 0, 1) := by decide +kernel
theorem ndD_kindOf_24 : decode ncD_kindOf 24 = .ok (.getfield 7, 3) := by decide +kernel
theorem ndD_kindOf_27 : decode ncD_kindOf 27 = .ok (.iload 4, 2) := by decide +kernel
theorem ndD_kindOf_29 : decode ncD_kindOf 29 = .ok (.iaload, 1) := by decide +kernel
theorem ndD_kindOf_30 : decode ncD_kindOf 30 = .ok (.iload_n 2, 1) := by decide +kernel
theorem ndD_kindOf_31 : decode ncD_kindOf 31 = .ok (.iload 4, 2) := by decide +kernel
theorem ndD_kindOf_33 : decode ncD_kindOf 33 = .ok (.invokestatic 35, 3) := by decide +kernel
theorem ndD_kindOf_36 : decode ncD_kindOf 36 = .ok (.if_icmp .ne 7, 3) := by decide +kernel
theorem ndD_kindOf_39 : decode ncD_kindOf 39 = .ok (.iconst 1, 1) := by decide +kernel
theorem ndD_kindOf_40 : decode ncD_kindOf 40 = .ok (.goto 4, 3) := by decide +kernel
theorem ndD_kindOf_43 : decode ncD_kindOf 43 = .ok (.iconst 0, 1) := by decide +kernel
theorem ndD_kindOf_44 : decode ncD_kindOf 44 = .ok (.istore_n 3, 1) := by decide +kernel
theorem ndD_kindOf_45 : decode ncD_kindOf 45 = .ok (.iinc 4 1, 3) := by decide +kernel
theorem ndD_kindOf_48 : decode ncD_kindOf 48 = .ok (.goto (-35), 3) := by decide +kernel
theorem ndD_kindOf_51 : decode ncD_kindOf 51 = .ok (.iload_n 3, 1) := by decide +kernel
theorem ndD_kindOf_52 : decode ncD_kindOf 52 = .ok (.ifCond .eq 5, 3) := by decide +kernel
theorem ndD_kindOf_55 : decode ncD_kindOf 55 = .ok (.iload_n 2, 1) := by decide +kernel
theorem ndD_kindOf_56 : decode ncD_kindOf 56 = .ok (.ireturn, 1) := by decide +kernel
theorem ndD_kindOf_57 : decode ncD_kindOf 57 = .ok (.iinc 2 1, 3) := by decide +kernel
theorem ndD_kindOf_60 : decode ncD_kindOf 60 = .ok (.goto (-58), 3) := by decide +kernel
theorem ndD_kindOf_63 : decode ncD_kindOf 63 = .ok (.iconst 0, 1) := by decide +kernel
theorem ndD_kindOf_64 : decode ncD_kindOf 64 = .ok (.ireturn, 1) := by decide +kernel
theorem ndD_fault_0 : decode ncD_fault 0 = .ok (.aload_n 0, 1) := by decide +kernel
theorem ndD_fault_1 : decode ncD_fault 1 = .ok (.iconst 0, 1) := by decide +kernel
theorem ndD_fault_2 : decode ncD_fault 2 = .ok (.putfield 29, 3) := by decide +kernel
theorem ndD_fault_5 : decode ncD_fault 5 = .ok (.aload_n 0, 1) := by decide +kernel
theorem ndD_fault_6 : decode ncD_fault 6 = .ok (.iconst 0, 1) := by decide +kernel
theorem ndD_fault_7 : decode ncD_fault 7 = .ok (.putfield 39, 3) := by decide +kernel
theorem ndD_fault_10 : decode ncD_fault 10 = .ok (.aload_n 0, 1) := by decide +kernel
theorem ndD_fault_11 : decode ncD_fault 11 = .ok (.iconst 0, 1) := by decide +kernel
theorem ndD_fault_12 : decode ncD_fault 12 = .ok (.putfield 42, 3) := by decide +kernel
theorem ndD_fault_15 : decode ncD_fault 15 = .ok (.iconst (-1), 1) := by decide +kernel
theorem ndD_fault_16 : decode ncD_fault 16 = .ok (.iload_n 1, 1) := by decide +kernel
theorem ndD_fault_17 : decode ncD_fault 17 = .ok (.isub, 1) := by decide +kernel
theorem ndD_fault_18 : decode ncD_fault 18 = .ok (.ireturn, 1) := by decide +kernel
theorem ndD_read_0 : decode ncD_read 0 = .ok (.iconst 0, 1) := by decide +kernel
theorem ndD_read_1 : decode ncD_read 1 = .ok (.istore_n 1, 1) := by decide +kernel
theorem ndD_read_2 : decode ncD_read 2 = .ok (.iconst 0, 1) := by decide +kernel
theorem ndD_read_3 : decode ncD_read 3 = .ok (.istore_n 2, 1) := by decide +kernel
theorem ndD_read_4 : decode ncD_read 4 = .ok (.iload_n 2, 1) := by decide +kernel
theorem ndD_read_5 : decode ncD_read 5 = .ok (.iconst 3, 1) := by decide +kernel
theorem ndD_read_6 : decode ncD_read 6 = .ok (.if_icmp .ge 44, 3) := by decide +kernel
theorem ndD_read_9 : decode ncD_read 9 = .ok (.iload_n 2, 1) := by decide +kernel
theorem ndD_read_10 : decode ncD_read 10 = .ok (.aload_n 0, 1) := by decide +kernel
theorem ndD_read_11 : decode ncD_read 11 = .ok (.getfield 29, 3) := by decide +kernel
theorem ndD_read_14 : decode ncD_read 14 = .ok (.if_icmp .eq 13, 3) := by decide +kernel
theorem ndD_read_17 : decode ncD_read 17 = .ok (.aload_n 0, 1) := by decide +kernel
theorem ndD_read_18 : decode ncD_read 18 = .ok (.iload_n 2, 1) := by decide +kernel
theorem ndD_read_19 : decode ncD_read 19 = .ok (.iconst 1, 1) := by decide +kernel
theorem ndD_read_20 : decode ncD_read 20 = .ok (.iadd, 1) := by decide +kernel
theorem ndD_read_21 : decode ncD_read 21 = .ok (.invokevirtual 45, 3) := by decide +kernel
theorem ndD_read_24 : decode ncD_read 24 = .ok (.ifCond .ne 9, 3) := by decide +kernel
theorem ndD_read_27 : decode ncD_read 27 = .ok (.aload_n 0, 1) := by decide +kernel
theorem ndD_read_28 : decode ncD_read 28 = .ok (.iload_n 2, 1) := by decide +kernel
theorem ndD_read_29 : decode ncD_read 29 = .ok (.invokevirtual 49, 3) := by decide +kernel
theorem ndD_read_32 : decode ncD_read 32 = .ok (.ireturn, 1) := by decide +kernel
theorem ndD_read_33 : decode ncD_read 33 = .ok (.iload_n 1, 1) := by decide +kernel
theorem ndD_read_34 : decode ncD_read 34 = .ok (.aload_n 0, 1) := by decide +kernel
theorem ndD_read_35 : decode ncD_read 35 = .ok (.getfield 7, 3) := by decide +kernel
theorem ndD_read_38 : decode ncD_read 38 = .ok (.iload_n 2, 1) := by decide +kernel
theorem ndD_read_39 : decode ncD_read 39 = .ok (.iaload, 1) := by decide +kernel
theorem ndD_read_40 : decode ncD_read 40 = .ok (.invokestatic 52, 3) := by decide +kernel
theorem ndD_read_43 : decode ncD_read 43 = .ok (.istore_n 1, 1) := by decide +kernel
theorem ndD_read_44 : decode ncD_read 44 = .ok (.iinc 2 1, 3) := by decide +kernel
theorem ndD_read_47 : decode ncD_read 47 = .ok (.goto (-43), 3) := by decide +kernel
theorem ndD_read_50 : decode ncD_read 50 = .ok (.aload_n 0, 1) := by decide +kernel
theorem ndD_read_51 : decode ncD_read 51 = .ok (.aload_n 0, 1) := by decide +kernel
theorem ndD_read_52 : decode ncD_read 52 = .ok (.iconst 3, 1) := by decide +kernel
theorem ndD_read_53 : decode ncD_read 53 = .ok (.invokevirtual 45, 3) := by decide +kernel
theorem ndD_read_56 : decode ncD_read 56 = .ok (.putfield 39, 3) := by decide +kernel
theorem ndD_read_59 : decode ncD_read 59 = .ok (.aload_n 0, 1) := by decide +kernel
theorem ndD_read_60 : decode ncD_read 60 = .ok (.iconst 0, 1) := by decide +kernel
theorem ndD_read_61 : decode ncD_read 61 = .ok (.putfield 42, 3) := by decide +kernel
theorem ndD_read_64 : decode ncD_read 64 = .ok (.iconst 3, 1) := by decide +kernel
theorem ndD_read_65 : decode ncD_read 65 = .ok (.istore_n 2, 1) := by decide +kernel
theorem ndD_read_66 : decode ncD_read 66 = .ok (.iconst 1, 1) := by decide +kernel
theorem ndD_read_67 : decode ncD_read 67 = .ok (.istore_n 3, 1) := by decide +kernel
theorem ndD_read_68 : decode ncD_read 68 = .ok (.iload_n 3, 1) := by decide +kernel
theorem ndD_read_69 : decode ncD_read 69 = .ok (.ifCond .le 207, 3) := by decide +kernel
theorem ndD_read_72 : decode ncD_read 72 = .ok (.aload_n 0, 1) := by decide +kernel
theorem ndD_read_73 : decode ncD_read 73 = .ok (.getfield 39, 3) := by decide +kernel
theorem ndD_read_76 : decode ncD_read 76 = .ok (.iconst 2, 1) := by decide +kernel
theorem ndD_read_77 : decode ncD_read 77 = .ok (.if_icmp .ne 26, 3) := by decide +kernel
theorem ndD_read_80 : decode ncD_read 80 = .ok (.aload_n 0, 1) := by decide +kernel
theorem ndD_read_81 : decode ncD_read 81 = .ok (.getfield 42, 3) := by decide +kernel
theorem ndD_read_84 : decode ncD_read 84 = .ok (.iconst 3, 1) := by decide +kernel
theorem ndD_read_85 : decode ncD_read 85 = .ok (.if_icmp .le 18, 3) := by decide +kernel
theorem ndD_read_88 : decode ncD_read 88 = .ok (.aload_n 0, 1) := by decide +kernel
theorem ndD_read_89 : decode ncD_read 89 = .ok (.getfield 13, 3) := by decide +kernel
theorem ndD_read_92 : decode ncD_read 92 = .ok (.iconst 3, 1) := by decide +kernel
theorem ndD_read_93 : decode ncD_read 93 = .ok (.laload, 1) := by decide +kernel
theorem ndD_read_94 : decode ncD_read 94 = .ok (.lconst 0, 1) := by decide +kernel
theorem ndD_read_95 : decode ncD_read 95 = .ok (.lcmp, 1) := by decide +kernel
theorem ndD_read_96 : decode ncD_read 96 = .ok (.ifCond .ne 7, 3) := by decide +kernel
theorem ndD_read_99 : decode ncD_read 99 = .ok (.iconst 1, 1) := by decide +kernel
theorem ndD_read_100 : decode ncD_read 100 = .ok (.goto 4, 3) := by decide +kernel
theorem ndD_read_103 : decode ncD_read 103 = .ok (.iconst 0, 1) := by decide +kernel
theorem ndD_read_104 : decode ncD_read 104 = .ok (.istore 4, 2) := by decide +kernel
theorem ndD_read_106 : decode ncD_read 106 = .ok (.aload_n 0, 1) := by decide +kernel
theorem ndD_read_107 : decode ncD_read 107 = .ok (.getfield 13, 3) := by decide +kernel
theorem ndD_read_110 : decode ncD_read 110 = .ok (.aload_n 0, 1) := by decide +kernel
theorem ndD_read_111 : decode ncD_read 111 = .ok (.getfield 42, 3) := by decide +kernel
theorem ndD_read_114 : decode ncD_read 114 = .ok (.lconst 0, 1) := by decide +kernel
theorem ndD_read_115 : decode ncD_read 115 = .ok (.lastore, 1) := by decide +kernel
theorem ndD_read_116 : decode ncD_read 116 = .ok (.iconst 0, 1) := by decide +kernel
theorem ndD_read_117 : decode ncD_read 117 = .ok (.istore 5, 2) := by decide +kernel
theorem ndD_read_119 : decode ncD_read 119 = .ok (.iload 5, 2) := by decide +kernel
theorem ndD_read_121 : decode ncD_read 121 = .ok (.iload_n 3, 1) := by decide +kernel
theorem ndD_read_122 : decode ncD_read 122 = .ok (.invokestatic 55, 3) := by decide +kernel
theorem ndD_read_125 : decode ncD_read 125 = .ok (.if_icmp .ge 120, 3) := by decide +kernel
theorem ndD_read_128 : decode ncD_read 128 = .ok (.iload_n 2, 1) := by decide +kernel
theorem ndD_read_129 : decode ncD_read 129 = .ok (.aload_n 0, 1) := by decide +kernel
theorem ndD_read_130 : decode ncD_read 130 = .ok (.getfield 29, 3) := by decide +kernel
theorem ndD_read_133 : decode ncD_read 133 = .ok (.if_icmp .eq 18, 3) := by decide +kernel
theorem ndD_read_136 : decode ncD_read 136 = .ok (.iload_n 3, 1) := by decide +kernel
theorem ndD_read_137 : decode ncD_read 137 = .ok (.aload_n 0, 1) := by decide +kernel
theorem ndD_read_138 : decode ncD_read 138 = .ok (.getfield 7, 3) := by decide +kernel
theorem ndD_read_141 : decode ncD_read 141 = .ok (.iload_n 2, 1) := by decide +kernel
theorem ndD_read_142 : decode ncD_read 142 = .ok (.iaload, 1) := by decide +kernel
theorem ndD_read_143 : decode ncD_read 143 = .ok (.iload 4, 2) := by decide +kernel
theorem ndD_read_145 : decode ncD_read 145 = .ok (.invokestatic 58, 3) := by decide +kernel
theorem ndD_read_148 : decode ncD_read 148 = .ok (.ifCond .ne 9, 3) := by decide +kernel
theorem ndD_read_151 : decode ncD_read 151 = .ok (.aload_n 0, 1) := by decide +kernel
theorem ndD_read_152 : decode ncD_read 152 = .ok (.iload_n 2, 1) := by decide +kernel
theorem ndD_read_153 : decode ncD_read 153 = .ok (.invokevirtual 49, 3) := by decide +kernel
theorem ndD_read_156 : decode ncD_read 156 = .ok (.ireturn, 1) := by decide +kernel
theorem ndD_read_157 : decode ncD_read 157 = .ok (.aload_n 0, 1) := by decide +kernel
theorem ndD_read_158 : decode ncD_read 158 = .ok (.getfield 13, 3) := by decide +kernel
theorem ndD_read_161 : decode ncD_read 161 = .ok (.aload_n 0, 1) := by decide +kernel
theorem ndD_read_162 : decode ncD_read 162 = .ok (.getfield 42, 3) := by decide +kernel
theorem ndD_read_165 : decode ncD_read 165 = .ok (.iload_n 3, 1) := by decide +kernel
theorem ndD_read_166 : decode ncD_read 166 = .ok (.iconst 5, 1) := by decide +kernel
theorem ndD_read_167 : decode ncD_read 167 = .ok (.if_icmp .ne 22, 3) := by decide +kernel
theorem ndD_read_170 : decode ncD_read 170 = .ok (.aload_n 0, 1) := by decide +kernel
theorem ndD_read_171 : decode ncD_read 171 = .ok (.getfield 7, 3) := by decide +kernel
theorem ndD_read_174 : decode ncD_read 174 = .ok (.iload_n 2, 1) := by decide +kernel
theorem ndD_read_175 : decode ncD_read 175 = .ok (.iaload, 1) := by decide +kernel
theorem ndD_read_176 : decode ncD_read 176 = .ok (.bipush 83, 2) := by decide +kernel
theorem ndD_read_178 : decode ncD_read 178 = .ok (.if_icmp .ne 7, 3) := by decide +kernel
theorem ndD_read_181 : decode ncD_read 181 = .ok (.lconst 1, 1) := by decide +kernel
theorem ndD_read_182 : decode ncD_read 182 = .ok (.goto 41, 3) := by decide +kernel
theorem ndD_read_185 : decode ncD_read 185 = .ok (.lconst 0, 1) := by decide +kernel
theorem ndD_read_186 : decode ncD_read 186 = .ok (.goto 37, 3) := by decide +kernel
theorem ndD_read_189 : decode ncD_read 189 = .ok (.aload_n 0, 1) := by decide +kernel
theorem ndD_read_190 : decode ncD_read 190 = .ok (.getfield 13, 3) := by decide +kernel
theorem ndD_read_193 : decode ncD_read 193 = .ok (.aload_n 0, 1) := by decide +kernel
theorem ndD_read_194 : decode ncD_read 194 = .ok (.getfield 42, 3) := by decide +kernel
theorem ndD_read_197 : decode ncD_read 197 = .ok (.laload, 1) := by decide +kernel
theorem ndD_read_198 : decode ncD_read 198 = .ok (.iload_n 3, 1) := by decide +kernel
theorem ndD_read_199 : decode ncD_read 199 = .ok (.iconst 4, 1) := by decide +kernel
theorem ndD_read_200 : decode ncD_read 200 = .ok (.if_icmp .ge 8, 3) := by decide +kernel
theorem ndD_read_203 : decode ncD_read 203 = .ok (.bipush 36, 2) := by decide +kernel
theorem ndD_read_205 : decode ncD_read 205 = .ok (.goto 5, 3) := by decide +kernel
theorem ndD_read_208 : decode ncD_read 208 = .ok (.bipush 10, 2) := by decide +kernel
theorem ndD_read_210 : decode ncD_read 210 = .ok (.i2l, 1) := by decide +kernel
theorem ndD_read_211 : decode ncD_read 211 = .ok (.lmul, 1) := by decide +kernel
theorem ndD_read_212 : decode ncD_read 212 = .ok (.aload_n 0, 1) := by decide +kernel
theorem ndD_read_213 : decode ncD_read 213 = .ok (.getfield 7, 3) := by decide +kernel
theorem ndD_read_216 : decode ncD_read 216 = .ok (.iload_n 2, 1) := by decide +kernel
theorem ndD_read_217 : decode ncD_read 217 = .ok (.iaload, 1) := by decide +kernel
theorem ndD_read_218 : decode ncD_read 218 = .ok (.invokestatic 62, 3) := by decide +kernel
theorem ndD_read_221 : decode ncD_read 221 = .ok (.i2l, 1) := by decide +kernel
theorem ndD_read_222 : decode ncD_read 222 = .ok (.ladd, 1) := by decide +kernel
theorem ndD_read_223 : decode ncD_read 223 = .ok (.lastore, 1) := by decide +kernel
theorem ndD_read_224 : decode ncD_read 224 = .ok (.iload_n 1, 1) := by decide +kernel
theorem ndD_read_225 : decode ncD_read 225 = .ok (.aload_n 0, 1) := by decide +kernel
theorem ndD_read_226 : decode ncD_read 226 = .ok (.getfield 7, 3) := by decide +kernel
theorem ndD_read_229 : decode ncD_read 229 = .ok (.iload_n 2, 1) := by decide +kernel
theorem ndD_read_230 : decode ncD_read 230 = .ok (.iaload, 1) := by decide +kernel
theorem ndD_read_231 : decode ncD_read 231 = .ok (.invokestatic 52, 3) := by decide +kernel
theorem ndD_read_234 : decode ncD_read 234 = .ok (.istore_n 1, 1) := by decide +kernel
theorem ndD_read_235 : decode ncD_read 235 = .ok (.iload_n 2, 1) := by decide +kernel
theorem ndD_read_236 : decode ncD_read 236 = .ok (.iconst 1, 1) := by decide +kernel
theorem ndD_read_237 : decode ncD_read 237 = .ok (.iadd, 1) := by decide +kernel
theorem ndD_read_238 : decode ncD_read 238 = .ok (.istore_n 2, 1) := by decide +kernel
theorem ndD_read_239 : decode ncD_read 239 = .ok (.iinc 5 1, 3) := by decide +kernel
theorem ndD_read_242 : decode ncD_read 242 = .ok (.goto (-123), 3) := by decide +kernel
theorem ndD_read_245 : decode ncD_read 245 = .ok (.aload_n 0, 1) := by decide +kernel
theorem ndD_read_246 : decode ncD_read 246 = .ok (.aload_n 0, 1) := by decide +kernel
theorem ndD_read_247 : decode ncD_read 247 = .ok (.getfield 42, 3) := by decide +kernel
theorem ndD_read_250 : decode ncD_read 250 = .ok (.iconst 1, 1) := by decide +kernel
theorem ndD_read_251 : decode ncD_read 251 = .ok (.iadd, 1) := by decide +kernel
theorem ndD_read_252 : decode ncD_read 252 = .ok (.putfield 42, 3) := by decide +kernel
theorem ndD_read_255 : decode ncD_read 255 = .ok (.aload_n 0, 1) := by decide +kernel
theorem ndD_read_256 : decode ncD_read 256 = .ok (.getfield 39, 3) := by decide +kernel
theorem ndD_read_259 : decode ncD_read 259 = .ok (.aload_n 0, 1) := by decide +kernel
theorem ndD_read_260 : decode ncD_read 260 = .ok (.getfield 42, 3) := by decide +kernel
theorem ndD_read_263 : decode ncD_read 263 = .ok (.aload_n 0, 1) := by decide +kernel
theorem ndD_read_264 : decode ncD_read 264 = .ok (.getfield 13, 3) := by decide +kernel
theorem ndD_read_267 : decode ncD_read 267 = .ok (.iconst 3, 1) := by decide +kernel
theorem ndD_read_268 : decode ncD_read 268 = .ok (.laload, 1) := by decide +kernel
theorem ndD_read_269 : decode ncD_read 269 = .ok (.invokestatic 65, 3) := by decide +kernel
theorem ndD_read_272 : decode ncD_read 272 = .ok (.istore_n 3, 1) := by decide +kernel
theorem ndD_read_273 : decode ncD_read 273 = .ok (.goto (-205), 3) := by decide +kernel
theorem ndD_read_276 : decode ncD_read 276 = .ok (.iconst 0, 1) := by decide +kernel
theorem ndD_read_277 : decode ncD_read 277 = .ok (.istore 4, 2) := by decide +kernel
theorem ndD_read_279 : decode ncD_read 279 = .ok (.iload 4, 2) := by decide +kernel
theorem ndD_read_281 : decode ncD_read 281 = .ok (.iconst 2, 1) := by decide +kernel
theorem ndD_read_282 : decode ncD_read 282 = .ok (.if_icmp .ge 71, 3) := by decide +kernel
theorem ndD_read_285 : decode ncD_read 285 = .ok (.iload_n 2, 1) := by decide +kernel
theorem ndD_read_286 : decode ncD_read 286 = .ok (.iload 4, 2) := by decide +kernel
theorem ndD_read_288 : decode ncD_read 288 = .ok (.iadd, 1) := by decide +kernel
theorem ndD_read_289 : decode ncD_read 289 = .ok (.aload_n 0, 1) := by decide +kernel
theorem ndD_read_290 : decode ncD_read 290 = .ok (.getfield 29, 3) := by decide +kernel
theorem ndD_read_293 : decode ncD_read 293 = .ok (.if_icmp .ge 31, 3) := by decide +kernel
theorem ndD_read_296 : decode ncD_read 296 = .ok (.aload_n 0, 1) := by decide +kernel
theorem ndD_read_297 : decode ncD_read 297 = .ok (.getfield 7, 3) := by decide +kernel
theorem ndD_read_300 : decode ncD_read 300 = .ok (.iload_n 2, 1) := by decide +kernel
theorem ndD_read_301 : decode ncD_read 301 = .ok (.iload 4, 2) := by decide +kernel
theorem ndD_read_303 : decode ncD_read 303 = .ok (.iadd, 1) := by decide +kernel
theorem ndD_read_304 : decode ncD_read 304 = .ok (.iaload, 1) := by decide +kernel
theorem ndD_read_305 : decode ncD_read 305 = .ok (.bipush 48, 2) := by decide +kernel
theorem ndD_read_307 : decode ncD_read 307 = .ok (.if_icmp .lt 17, 3) := by decide +kernel
theorem ndD_read_310 : decode ncD_read 310 = .ok (.aload_n 0, 1) := by decide +kernel
theorem ndD_read_311 : decode ncD_read 311 = .ok (.getfield 7, 3) := by decide +kernel
theorem ndD_read_314 : decode ncD_read 314 = .ok (.iload_n 2, 1) := by decide +kernel
theorem ndD_read_315 : decode ncD_read 315 = .ok (.iload 4, 2) := by decide +kernel
theorem ndD_read_317 : decode ncD_read 317 = .ok (.iadd, 1) := by decide +kernel
theorem ndD_read_318 : decode ncD_read 318 = .ok (.iaload, 1) := by decide +kernel
theorem ndD_read_319 : decode ncD_read 319 = .ok (.bipush 57, 2) := by decide +kernel
theorem ndD_read_321 : decode ncD_read 321 = .ok (.if_icmp .le 12, 3) := by decide +kernel
theorem ndD_read_324 : decode ncD_read 324 = .ok (.aload_n 0, 1) := by decide +kernel
theorem ndD_read_325 : decode ncD_read 325 = .ok (.iload_n 2, 1) := by decide +kernel
theorem ndD_read_326 : decode ncD_read 326 = .ok (.iload 4, 2) := by decide +kernel
theorem ndD_read_328 : decode ncD_read 328 = .ok (.iadd, 1) := by decide +kernel
theorem ndD_read_329 : decode ncD_read 329 = .ok (.invokevirtual 49, 3) := by decide +kernel
theorem ndD_read_332 : decode ncD_read 332 = .ok (.ireturn, 1) := by decide +kernel
theorem ndD_read_333 : decode ncD_read 333 = .ok (.iload_n 1, 1) := by decide +kernel
theorem ndD_read_334 : decode ncD_read 334 = .ok (.aload_n 0, 1) := by decide +kernel
theorem ndD_read_335 : decode ncD_read 335 = .ok (.getfield 7, 3) := by decide +kernel
theorem ndD_read_338 : decode ncD_read 338 = .ok (.iload_n 2, 1) := by decide +kernel
theorem ndD_read_339 : decode ncD_read 339 = .ok (.iload 4, 2) := by decide +kernel
theorem ndD_read_341 : decode ncD_read 341 = .ok (.iadd, 1) := by decide +kernel
theorem ndD_read_342 : decode ncD_read 342 = .ok (.iaload, 1) := by decide +kernel
theorem ndD_read_343 : decode ncD_read 343 = .ok (.invokestatic 52, 3) := by decide +kernel
theorem ndD_read_346 : decode ncD_read 346 = .ok (.istore_n 1, 1) := by decide +kernel
theorem ndD_read_347 : decode ncD_read 347 = .ok (.iinc 4 1, 3) := by decide +kernel
theorem ndD_read_350 : decode ncD_read 350 = .ok (.goto (-71), 3) := by decide +kernel
theorem ndD_read_353 : decode ncD_read 353 = .ok (.aload_n 0, 1) := by decide +kernel
theorem ndD_read_354 : decode ncD_read 354 = .ok (.getfield 29, 3) := by decide +kernel
theorem ndD_read_357 : decode ncD_read 357 = .ok (.iload_n 2, 1) := by decide +kernel
theorem ndD_read_358 : decode ncD_read 358 = .ok (.iconst 2, 1) := by decide +kernel
theorem ndD_read_359 : decode ncD_read 359 = .ok (.iadd, 1) := by decide +kernel
theorem ndD_read_360 : decode ncD_read 360 = .ok (.if_icmp .le 11, 3) := by decide +kernel
theorem ndD_read_363 : decode ncD_read 363 = .ok (.aload_n 0, 1) := by decide +kernel
theorem ndD_read_364 : decode ncD_read 364 = .ok (.iload_n 2, 1) := by decide +kernel
theorem ndD_read_365 : decode ncD_read 365 = .ok (.iconst 2, 1) := by decide +kernel
theorem ndD_read_366 : decode ncD_read 366 = .ok (.iadd, 1) := by decide +kernel
theorem ndD_read_367 : decode ncD_read 367 = .ok (.invokevirtual 49, 3) := by decide +kernel
theorem ndD_read_370 : decode ncD_read 370 = .ok (.ireturn, 1) := by decide +kernel
theorem ndD_read_371 : decode ncD_read 371 = .ok (.iload_n 1, 1) := by decide +kernel
theorem ndD_read_372 : decode ncD_read 372 = .ok (.iconst 1, 1) := by decide +kernel
theorem ndD_read_373 : decode ncD_read 373 = .ok (.if_icmp .eq 9, 3) := by decide +kernel
theorem ndD_read_376 : decode ncD_read 376 = .ok (.aload_n 0, 1) := by decide +kernel
theorem ndD_read_377 : decode ncD_read 377 = .ok (.iload_n 2, 1) := by decide +kernel
theorem ndD_read_378 : decode ncD_read 378 = .ok (.invokevirtual 49, 3) := by decide +kernel
theorem ndD_read_381 : decode ncD_read 381 = .ok (.ireturn, 1) := by decide +kernel
theorem ndD_read_382 : decode ncD_read 382 = .ok (.aload_n 0, 1) := by decide +kernel
theorem ndD_read_383 : decode ncD_read 383 = .ok (.iconst 0, 1) := by decide +kernel
theorem ndD_read_384 : decode ncD_read 384 = .ok (.putfield 29, 3) := by decide +kernel
theorem ndD_read_387 : decode ncD_read 387 = .ok (.aload_n 0, 1) := by decide +kernel
theorem ndD_read_388 : decode ncD_read 388 = .ok (.getfield 39, 3) := by decide +kernel
theorem ndD_read_391 : decode ncD_read 391 = .ok (.ireturn, 1) := by decide +kernel
theorem ndD_fields_0 : decode ncD_fields 0 = .ok (.aload_n 0, 1) := by decide +kernel
theorem ndD_fields_1 : decode ncD_fields 1 = .ok (.getfield 42, 3) := by decide +kernel
theorem ndD_fields_4 : decode ncD_fields 4 = .ok (.ireturn, 1) := by decide +kernel
theorem ndD_sort_0 : decode ncD_sort 0 = .ok (.iload_n 1, 1) := by decide +kernel
theorem ndD_sort_1 : decode ncD_sort 1 = .ok (.ifCond .lt 28, 3) := by decide +kernel
theorem ndD_sort_4 : decode ncD_sort 4 = .ok (.iload_n 1, 1) := by decide +kernel
theorem ndD_sort_5 : decode ncD_sort 5 = .ok (.aload_n 0, 1) := by decide +kernel
theorem ndD_sort_6 : decode ncD_sort 6 = .ok (.getfield 42, 3) := by decide +kernel
theorem ndD_sort_9 : decode ncD_sort 9 = .ok (.if_icmp .ge 20, 3) := by decide +kernel
theorem ndD_sort_12 : decode ncD_sort 12 = .ok (.aload_n 0, 1) := by decide +kernel
theorem ndD_sort_13 : decode ncD_sort 13 = .ok (.getfield 39, 3) := by decide +kernel
theorem ndD_sort_16 : decode ncD_sort 16 = .ok (.iload_n 1, 1) := by decide +kernel
theorem ndD_sort_17 : decode ncD_sort 17 = .ok (.aload_n 0, 1) := by decide +kernel
theorem ndD_sort_18 : decode ncD_sort 18 = .ok (.getfield 13, 3) := by decide +kernel
theorem ndD_sort_21 : decode ncD_sort 21 = .ok (.iconst 3, 1) := by decide +kernel
theorem ndD_sort_22 : decode ncD_sort 22 = .ok (.laload, 1) := by decide +kernel
theorem ndD_sort_23 : decode ncD_sort 23 = .ok (.invokestatic 65, 3) := by decide +kernel
theorem ndD_sort_26 : decode ncD_sort 26 = .ok (.goto 4, 3) := by decide +kernel
theorem ndD_sort_29 : decode ncD_sort 29 = .ok (.iconst 0, 1) := by decide +kernel
theorem ndD_sort_30 : decode ncD_sort 30 = .ok (.ireturn, 1) := by decide +kernel
theorem ndD_number_0 : decode ncD_number 0 = .ok (.iload_n 1, 1) := by decide +kernel
theorem ndD_number_1 : decode ncD_number 1 = .ok (.ifCond .lt 20, 3) := by decide +kernel
theorem ndD_number_4 : decode ncD_number 4 = .ok (.iload_n 1, 1) := by decide +kernel
theorem ndD_number_5 : decode ncD_number 5 = .ok (.aload_n 0, 1) := by decide +kernel
theorem ndD_number_6 : decode ncD_number 6 = .ok (.getfield 42, 3) := by decide +kernel
theorem ndD_number_9 : decode ncD_number 9 = .ok (.if_icmp .ge 12, 3) := by decide +kernel
theorem ndD_number_12 : decode ncD_number 12 = .ok (.aload_n 0, 1) := by decide +kernel
theorem ndD_number_13 : decode ncD_number 13 = .ok (.getfield 13, 3) := by decide +kernel
theorem ndD_number_16 : decode ncD_number 16 = .ok (.iload_n 1, 1) := by decide +kernel
theorem ndD_number_17 : decode ncD_number 17 = .ok (.laload, 1) := by decide +kernel
theorem ndD_number_18 : decode ncD_number 18 = .ok (.goto 6, 3) := by decide +kernel
theorem ndD_number_21 : decode ncD_number 21 = .ok (.ldc2_w 69, 3) := by decide +kernel
theorem ndD_number_24 : decode ncD_number 24 = .ok (.lreturn, 1) := by decide +kernel
theorem ndD_lay_0 : decode ncD_lay 0 = .ok (.aload_n 0, 1) := by decide +kernel
theorem ndD_lay_1 : decode ncD_lay 1 = .ok (.getfield 17, 3) := by decide +kernel
theorem ndD_lay_4 : decode ncD_lay 4 = .ok (.aload_n 0, 1) := by decide +kernel
theorem ndD_lay_5 : decode ncD_lay 5 = .ok (.getfield 71, 3) := by decide +kernel
theorem ndD_lay_8 : decode ncD_lay 8 = .ok (.iload_n 1, 1) := by decide +kernel
theorem ndD_lay_9 : decode ncD_lay 9 = .ok (.iastore, 1) := by decide +kernel
theorem ndD_lay_10 : decode ncD_lay 10 = .ok (.aload_n 0, 1) := by decide +kernel
theorem ndD_lay_11 : decode ncD_lay 11 = .ok (.aload_n 0, 1) := by decide +kernel
theorem ndD_lay_12 : decode ncD_lay 12 = .ok (.getfield 71, 3) := by decide +kernel
theorem ndD_lay_15 : decode ncD_lay 15 = .ok (.iconst 1, 1) := by decide +kernel
theorem ndD_lay_16 : decode ncD_lay 16 = .ok (.iadd, 1) := by decide +kernel
theorem ndD_lay_17 : decode ncD_lay 17 = .ok (.putfield 71, 3) := by decide +kernel
theorem ndD_lay_20 : decode ncD_lay 20 = .ok (.return_, 1) := by decide +kernel
theorem ndD_begin_0 : decode ncD_begin 0 = .ok (.iload_n 1, 1) := by decide +kernel
theorem ndD_begin_1 : decode ncD_begin 1 = .ok (.iconst 1, 1) := by decide +kernel
theorem ndD_begin_2 : decode ncD_begin 2 = .ok (.if_icmp .lt 9, 3) := by decide +kernel
theorem ndD_begin_5 : decode ncD_begin 5 = .ok (.iload_n 1, 1) := by decide +kernel
theorem ndD_begin_6 : decode ncD_begin 6 = .ok (.bipush 15, 2) := by decide +kernel
theorem ndD_begin_8 : decode ncD_begin 8 = .ok (.if_icmp .le 5, 3) := by decide +kernel
theorem ndD_begin_11 : decode ncD_begin 11 = .ok (.iconst 0, 1) := by decide +kernel
theorem ndD_begin_12 : decode ncD_begin 12 = .ok (.ireturn, 1) := by decide +kernel
theorem ndD_begin_13 : decode ncD_begin 13 = .ok (.aload_n 0, 1) := by decide +kernel
theorem ndD_begin_14 : decode ncD_begin 14 = .ok (.iload_n 1, 1) := by decide +kernel
theorem ndD_begin_15 : decode ncD_begin 15 = .ok (.putfield 74, 3) := by decide +kernel
theorem ndD_begin_18 : decode ncD_begin 18 = .ok (.aload_n 0, 1) := by decide +kernel
theorem ndD_begin_19 : decode ncD_begin 19 = .ok (.iconst 0, 1) := by decide +kernel
theorem ndD_begin_20 : decode ncD_begin 20 = .ok (.putfield 77, 3) := by decide +kernel
theorem ndD_begin_23 : decode ncD_begin 23 = .ok (.aload_n 0, 1) := by decide +kernel
theorem ndD_begin_24 : decode ncD_begin 24 = .ok (.iconst 0, 1) := by decide +kernel
theorem ndD_begin_25 : decode ncD_begin 25 = .ok (.putfield 71, 3) := by decide +kernel
theorem ndD_begin_28 : decode ncD_begin 28 = .ok (.aload_n 0, 1) := by decide +kernel
theorem ndD_begin_29 : decode ncD_begin 29 = .ok (.iconst 0, 1) := by decide +kernel
theorem ndD_begin_30 : decode ncD_begin 30 = .ok (.putfield 81, 3) := by decide +kernel
theorem ndD_begin_33 : decode ncD_begin 33 = .ok (.iconst 0, 1) := by decide +kernel
theorem ndD_begin_34 : decode ncD_begin 34 = .ok (.istore_n 2, 1) := by decide +kernel
theorem ndD_begin_35 : decode ncD_begin 35 = .ok (.iload_n 2, 1) := by decide +kernel
theorem ndD_begin_36 : decode ncD_begin 36 = .ok (.iconst 3, 1) := by decide +kernel
theorem ndD_begin_37 : decode ncD_begin 37 = .ok (.if_icmp .ge 18, 3) := by decide +kernel
theorem ndD_begin_40 : decode ncD_begin 40 = .ok (.aload_n 0, 1) := by decide +kernel
theorem ndD_begin_41 : decode ncD_begin 41 = .ok (.iload_n 1, 1) := by decide +kernel
theorem ndD_begin_42 : decode ncD_begin 42 = .ok (.iload_n 2, 1) := by decide +kernel
theorem ndD_begin_43 : decode ncD_begin 43 = .ok (.invokestatic 35, 3) := by decide +kernel
theorem ndD_begin_46 : decode ncD_begin 46 = .ok (.invokevirtual 84, 3) := by decide +kernel
theorem ndD_begin_49 : decode ncD_begin 49 = .ok (.iinc 2 1, 3) := by decide +kernel
theorem ndD_begin_52 : decode ncD_begin 52 = .ok (.goto (-17), 3) := by decide +kernel
theorem ndD_begin_55 : decode ncD_begin 55 = .ok (.iconst 1, 1) := by decide +kernel
theorem ndD_begin_56 : decode ncD_begin 56 = .ok (.ireturn, 1) := by decide +kernel
theorem ndD_most_0 : decode ncD_most 0 = .ok (.iload_n 0, 1) := by decide +kernel
theorem ndD_most_1 : decode ncD_most 1 = .ok (.tableswitch 69 1 7 #[43, 47, 51, 55, 59, 61, 65], 43) := by decide +kernel
theorem ndD_most_44 : decode ncD_most 44 = .ok (.ldc2_w 88, 3) := by decide +kernel
theorem ndD_most_47 : decode ncD_most 47 = .ok (.lreturn, 1) := by decide +kernel
theorem ndD_most_48 : decode ncD_most 48 = .ok (.ldc2_w 90, 3) := by decide +kernel
theorem ndD_most_51 : decode ncD_most 51 = .ok (.lreturn, 1) := by decide +kernel
theorem ndD_most_52 : decode ncD_most 52 = .ok (.ldc2_w 92, 3) := by decide +kernel
theorem ndD_most_55 : decode ncD_most 55 = .ok (.lreturn, 1) := by decide +kernel
theorem ndD_most_56 : decode ncD_most 56 = .ok (.ldc2_w 94, 3) := by decide +kernel
theorem ndD_most_59 : decode ncD_most 59 = .ok (.lreturn, 1) := by decide +kernel
theorem ndD_most_60 : decode ncD_most 60 = .ok (.lconst 1, 1) := by decide +kernel
theorem ndD_most_61 : decode ncD_most 61 = .ok (.lreturn, 1) := by decide +kernel
theorem ndD_most_62 : decode ncD_most 62 = .ok (.ldc2_w 96, 3) := by decide +kernel
theorem ndD_most_65 : decode ncD_most 65 = .ok (.lreturn, 1) := by decide +kernel
theorem ndD_most_66 : decode ncD_most 66 = .ok (.ldc2_w 98, 3) := by decide +kernel
theorem ndD_most_69 : decode ncD_most 69 = .ok (.lreturn, 1) := by decide +kernel
theorem ndD_most_70 : decode ncD_most 70 = .ok (.ldc2_w 23, 3) := by decide +kernel
theorem ndD_most_73 : decode ncD_most 73 = .ok (.lreturn, 1) := by decide +kernel
theorem ndD_nextSort_0 : decode ncD_nextSort 0 = .ok (.aload_n 0, 1) := by decide +kernel
theorem ndD_nextSort_1 : decode ncD_nextSort 1 = .ok (.getfield 74, 3) := by decide +kernel
theorem ndD_nextSort_4 : decode ncD_nextSort 4 = .ok (.ifCond .ne 7, 3) := by decide +kernel
theorem ndD_nextSort_7 : decode ncD_nextSort 7 = .ok (.iconst 0, 1) := by decide +kernel
theorem ndD_nextSort_8 : decode ncD_nextSort 8 = .ok (.goto 20, 3) := by decide +kernel
theorem ndD_nextSort_11 : decode ncD_nextSort 11 = .ok (.aload_n 0, 1) := by decide +kernel
theorem ndD_nextSort_12 : decode ncD_nextSort 12 = .ok (.getfield 74, 3) := by decide +kernel
theorem ndD_nextSort_15 : decode ncD_nextSort 15 = .ok (.aload_n 0, 1) := by decide +kernel
theorem ndD_nextSort_16 : decode ncD_nextSort 16 = .ok (.getfield 81, 3) := by decide +kernel
theorem ndD_nextSort_19 : decode ncD_nextSort 19 = .ok (.aload_n 0, 1) := by decide +kernel
theorem ndD_nextSort_20 : decode ncD_nextSort 20 = .ok (.getfield 20, 3) := by decide +kernel
theorem ndD_nextSort_23 : decode ncD_nextSort 23 = .ok (.iconst 3, 1) := by decide +kernel
theorem ndD_nextSort_24 : decode ncD_nextSort 24 = .ok (.laload, 1) := by decide +kernel
theorem ndD_nextSort_25 : decode ncD_nextSort 25 = .ok (.invokestatic 65, 3) := by decide +kernel
theorem ndD_nextSort_28 : decode ncD_nextSort 28 = .ok (.ireturn, 1) := by decide +kernel
theorem ndD_add_0 : decode ncD_add 0 = .ok (.aload_n 0, 1) := by decide +kernel
theorem ndD_add_1 : decode ncD_add 1 = .ok (.invokevirtual 100, 3) := by decide +kernel
theorem ndD_add_4 : decode ncD_add 4 = .ok (.istore_n 3, 1) := by decide +kernel
theorem ndD_add_5 : decode ncD_add 5 = .ok (.aload_n 0, 1) := by decide +kernel
theorem ndD_add_6 : decode ncD_add 6 = .ok (.getfield 74, 3) := by decide +kernel
theorem ndD_add_9 : decode ncD_add 9 = .ok (.iconst 2, 1) := by decide +kernel
theorem ndD_add_10 : decode ncD_add 10 = .ok (.if_icmp .ne 26, 3) := by decide +kernel
theorem ndD_add_13 : decode ncD_add 13 = .ok (.aload_n 0, 1) := by decide +kernel
theorem ndD_add_14 : decode ncD_add 14 = .ok (.getfield 81, 3) := by decide +kernel
theorem ndD_add_17 : decode ncD_add 17 = .ok (.iconst 3, 1) := by decide +kernel
theorem ndD_add_18 : decode ncD_add 18 = .ok (.if_icmp .le 18, 3) := by decide +kernel
theorem ndD_add_21 : decode ncD_add 21 = .ok (.aload_n 0, 1) := by decide +kernel
theorem ndD_add_22 : decode ncD_add 22 = .ok (.getfield 20, 3) := by decide +kernel
theorem ndD_add_25 : decode ncD_add 25 = .ok (.iconst 3, 1) := by decide +kernel
theorem ndD_add_26 : decode ncD_add 26 = .ok (.laload, 1) := by decide +kernel
theorem ndD_add_27 : decode ncD_add 27 = .ok (.lconst 0, 1) := by decide +kernel
theorem ndD_add_28 : decode ncD_add 28 = .ok (.lcmp, 1) := by decide +kernel
theorem ndD_add_29 : decode ncD_add 29 = .ok (.ifCond .ne 7, 3) := by decide +kernel
theorem ndD_add_32 : decode ncD_add 32 = .ok (.iconst 1, 1) := by decide +kernel
theorem ndD_add_33 : decode ncD_add 33 = .ok (.goto 4, 3) := by decide +kernel
theorem ndD_add_36 : decode ncD_add 36 = .ok (.iconst 0, 1) := by decide +kernel
theorem ndD_add_37 : decode ncD_add 37 = .ok (.istore 4, 2) := by decide +kernel
theorem ndD_add_39 : decode ncD_add 39 = .ok (.iload_n 3, 1) := by decide +kernel
theorem ndD_add_40 : decode ncD_add 40 = .ok (.ifCond .eq 39, 3) := by decide +kernel
theorem ndD_add_43 : decode ncD_add 43 = .ok (.lload_n 1, 1) := by decide +kernel
theorem ndD_add_44 : decode ncD_add 44 = .ok (.iload_n 3, 1) := by decide +kernel
theorem ndD_add_45 : decode ncD_add 45 = .ok (.bipush 6, 2) := by decide +kernel
theorem ndD_add_47 : decode ncD_add 47 = .ok (.if_icmp .le 7, 3) := by decide +kernel
theorem ndD_add_50 : decode ncD_add 50 = .ok (.lconst 1, 1) := by decide +kernel
theorem ndD_add_51 : decode ncD_add 51 = .ok (.goto 4, 3) := by decide +kernel
theorem ndD_add_54 : decode ncD_add 54 = .ok (.lconst 0, 1) := by decide +kernel
theorem ndD_add_55 : decode ncD_add 55 = .ok (.lcmp, 1) := by decide +kernel
theorem ndD_add_56 : decode ncD_add 56 = .ok (.ifCond .lt 23, 3) := by decide +kernel
theorem ndD_add_59 : decode ncD_add 59 = .ok (.lload_n 1, 1) := by decide +kernel
theorem ndD_add_60 : decode ncD_add 60 = .ok (.iload_n 3, 1) := by decide +kernel
theorem ndD_add_61 : decode ncD_add 61 = .ok (.invokestatic 104, 3) := by decide +kernel
theorem ndD_add_64 : decode ncD_add 64 = .ok (.lcmp, 1) := by decide +kernel
theorem ndD_add_65 : decode ncD_add 65 = .ok (.ifCond .gt 14, 3) := by decide +kernel
theorem ndD_add_68 : decode ncD_add 68 = .ok (.iload 4, 2) := by decide +kernel
theorem ndD_add_70 : decode ncD_add 70 = .ok (.ifCond .eq 11, 3) := by decide +kernel
theorem ndD_add_73 : decode ncD_add 73 = .ok (.lload_n 1, 1) := by decide +kernel
theorem ndD_add_74 : decode ncD_add 74 = .ok (.lconst 0, 1) := by decide +kernel
theorem ndD_add_75 : decode ncD_add 75 = .ok (.lcmp, 1) := by decide +kernel
theorem ndD_add_76 : decode ncD_add 76 = .ok (.ifCond .eq 5, 3) := by decide +kernel
theorem ndD_add_79 : decode ncD_add 79 = .ok (.iconst 0, 1) := by decide +kernel
theorem ndD_add_80 : decode ncD_add 80 = .ok (.ireturn, 1) := by decide +kernel
theorem ndD_add_81 : decode ncD_add 81 = .ok (.aload_n 0, 1) := by decide +kernel
theorem ndD_add_82 : decode ncD_add 82 = .ok (.getfield 20, 3) := by decide +kernel
theorem ndD_add_85 : decode ncD_add 85 = .ok (.aload_n 0, 1) := by decide +kernel
theorem ndD_add_86 : decode ncD_add 86 = .ok (.getfield 81, 3) := by decide +kernel
theorem ndD_add_89 : decode ncD_add 89 = .ok (.lload_n 1, 1) := by decide +kernel
theorem ndD_add_90 : decode ncD_add 90 = .ok (.lastore, 1) := by decide +kernel
theorem ndD_add_91 : decode ncD_add 91 = .ok (.aload_n 0, 1) := by decide +kernel
theorem ndD_add_92 : decode ncD_add 92 = .ok (.aload_n 0, 1) := by decide +kernel
theorem ndD_add_93 : decode ncD_add 93 = .ok (.getfield 81, 3) := by decide +kernel
theorem ndD_add_96 : decode ncD_add 96 = .ok (.iconst 1, 1) := by decide +kernel
theorem ndD_add_97 : decode ncD_add 97 = .ok (.iadd, 1) := by decide +kernel
theorem ndD_add_98 : decode ncD_add 98 = .ok (.putfield 81, 3) := by decide +kernel
theorem ndD_add_101 : decode ncD_add 101 = .ok (.iload_n 3, 1) := by decide +kernel
theorem ndD_add_102 : decode ncD_add 102 = .ok (.iconst 4, 1) := by decide +kernel
theorem ndD_add_103 : decode ncD_add 103 = .ok (.if_icmp .ge 9, 3) := by decide +kernel
theorem ndD_add_106 : decode ncD_add 106 = .ok (.ldc2_w 108, 3) := by decide +kernel
theorem ndD_add_109 : decode ncD_add 109 = .ok (.goto 6, 3) := by decide +kernel
theorem ndD_add_112 : decode ncD_add 112 = .ok (.ldc2_w 110, 3) := by decide +kernel
theorem ndD_add_115 : decode ncD_add 115 = .ok (.lstore 5, 2) := by decide +kernel
theorem ndD_add_117 : decode ncD_add 117 = .ok (.iload_n 3, 1) := by decide +kernel
theorem ndD_add_118 : decode ncD_add 118 = .ok (.invokestatic 55, 3) := by decide +kernel
theorem ndD_add_121 : decode ncD_add 121 = .ok (.iconst 1, 1) := by decide +kernel
theorem ndD_add_122 : decode ncD_add 122 = .ok (.isub, 1) := by decide +kernel
theorem ndD_add_123 : decode ncD_add 123 = .ok (.istore 7, 2) := by decide +kernel
theorem ndD_add_125 : decode ncD_add 125 = .ok (.iload 7, 2) := by decide +kernel
theorem ndD_add_127 : decode ncD_add 127 = .ok (.ifCond .lt 91, 3) := by decide +kernel
theorem ndD_add_130 : decode ncD_add 130 = .ok (.lload_n 1, 1) := by decide +kernel
theorem ndD_add_131 : decode ncD_add 131 = .ok (.lstore 8, 2) := by decide +kernel
theorem ndD_add_133 : decode ncD_add 133 = .ok (.iconst 0, 1) := by decide +kernel
theorem ndD_add_134 : decode ncD_add 134 = .ok (.istore 10, 2) := by decide +kernel
theorem ndD_add_136 : decode ncD_add 136 = .ok (.iload 10, 2) := by decide +kernel
theorem ndD_add_138 : decode ncD_add 138 = .ok (.iload 7, 2) := by decide +kernel
theorem ndD_add_140 : decode ncD_add 140 = .ok (.if_icmp .ge 16, 3) := by decide +kernel
theorem ndD_add_143 : decode ncD_add 143 = .ok (.lload 8, 2) := by decide +kernel
theorem ndD_add_145 : decode ncD_add 145 = .ok (.lload 5, 2) := by decide +kernel
theorem ndD_add_147 : decode ncD_add 147 = .ok (.ldiv, 1) := by decide +kernel
theorem ndD_add_148 : decode ncD_add 148 = .ok (.lstore 8, 2) := by decide +kernel
theorem ndD_add_150 : decode ncD_add 150 = .ok (.iinc 10 1, 3) := by decide +kernel
theorem ndD_add_153 : decode ncD_add 153 = .ok (.goto (-17), 3) := by decide +kernel
theorem ndD_add_156 : decode ncD_add 156 = .ok (.lload 8, 2) := by decide +kernel
theorem ndD_add_158 : decode ncD_add 158 = .ok (.lload 5, 2) := by decide +kernel
theorem ndD_add_160 : decode ncD_add 160 = .ok (.lrem, 1) := by decide +kernel
theorem ndD_add_161 : decode ncD_add 161 = .ok (.l2i, 1) := by decide +kernel
theorem ndD_add_162 : decode ncD_add 162 = .ok (.istore 10, 2) := by decide +kernel
theorem ndD_add_164 : decode ncD_add 164 = .ok (.aload_n 0, 1) := by decide +kernel
theorem ndD_add_165 : decode ncD_add 165 = .ok (.iload_n 3, 1) := by decide +kernel
theorem ndD_add_166 : decode ncD_add 166 = .ok (.iconst 5, 1) := by decide +kernel
theorem ndD_add_167 : decode ncD_add 167 = .ok (.if_icmp .ne 19, 3) := by decide +kernel
theorem ndD_add_170 : decode ncD_add 170 = .ok (.lload_n 1, 1) := by decide +kernel
theorem ndD_add_171 : decode ncD_add 171 = .ok (.lconst 0, 1) := by decide +kernel
theorem ndD_add_172 : decode ncD_add 172 = .ok (.lcmp, 1) := by decide +kernel
theorem ndD_add_173 : decode ncD_add 173 = .ok (.ifCond .ne 8, 3) := by decide +kernel
theorem ndD_add_176 : decode ncD_add 176 = .ok (.bipush 67, 2) := by decide +kernel
theorem ndD_add_178 : decode ncD_add 178 = .ok (.goto 31, 3) := by decide +kernel
theorem ndD_add_181 : decode ncD_add 181 = .ok (.bipush 83, 2) := by decide +kernel
theorem ndD_add_183 : decode ncD_add 183 = .ok (.goto 26, 3) := by decide +kernel
theorem ndD_add_186 : decode ncD_add 186 = .ok (.iload 10, 2) := by decide +kernel
theorem ndD_add_188 : decode ncD_add 188 = .ok (.bipush 10, 2) := by decide +kernel
theorem ndD_add_190 : decode ncD_add 190 = .ok (.if_icmp .ge 11, 3) := by decide +kernel
theorem ndD_add_193 : decode ncD_add 193 = .ok (.bipush 48, 2) := by decide +kernel
theorem ndD_add_195 : decode ncD_add 195 = .ok (.iload 10, 2) := by decide +kernel
theorem ndD_add_197 : decode ncD_add 197 = .ok (.iadd, 1) := by decide +kernel
theorem ndD_add_198 : decode ncD_add 198 = .ok (.goto 11, 3) := by decide +kernel
theorem ndD_add_201 : decode ncD_add 201 = .ok (.bipush 65, 2) := by decide +kernel
theorem ndD_add_203 : decode ncD_add 203 = .ok (.iload 10, 2) := by decide +kernel
theorem ndD_add_205 : decode ncD_add 205 = .ok (.iadd, 1) := by decide +kernel
theorem ndD_add_206 : decode ncD_add 206 = .ok (.bipush 10, 2) := by decide +kernel
theorem ndD_add_208 : decode ncD_add 208 = .ok (.isub, 1) := by decide +kernel
theorem ndD_add_209 : decode ncD_add 209 = .ok (.invokevirtual 84, 3) := by decide +kernel
theorem ndD_add_212 : decode ncD_add 212 = .ok (.iinc 7 (-1), 3) := by decide +kernel
theorem ndD_add_215 : decode ncD_add 215 = .ok (.goto (-90), 3) := by decide +kernel
theorem ndD_add_218 : decode ncD_add 218 = .ok (.iconst 1, 1) := by decide +kernel
theorem ndD_add_219 : decode ncD_add 219 = .ok (.ireturn, 1) := by decide +kernel
