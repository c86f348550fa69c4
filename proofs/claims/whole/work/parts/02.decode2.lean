theorem ndF_signInSort_0 : decode ncF_signInSort 0 = .ok (.iload_n 0, 1) := by decide +kernel
theorem ndF_signInSort_1 : decode ncF_signInSort 1 = .ok (.iconst 5, 1) := by decide +kernel
theorem ndF_signInSort_2 : decode ncF_signInSort 2 = .ok (.if_icmp .ne 15, 3) := by decide +kernel
theorem ndF_signInSort_5 : decode ncF_signInSort 5 = .ok (.iload_n 1, 1) := by decide +kernel
theorem ndF_signInSort_6 : decode ncF_signInSort 6 = .ok (.ifCond .ne 8, 3) := by decide +kernel
theorem ndF_signInSort_9 : decode ncF_signInSort 9 = .ok (.bipush 67, 2) := by decide +kernel
theorem ndF_signInSort_11 : decode ncF_signInSort 11 = .ok (.goto 5, 3) := by decide +kernel
theorem ndF_signInSort_14 : decode ncF_signInSort 14 = .ok (.bipush 83, 2) := by decide +kernel
theorem ndF_signInSort_16 : decode ncF_signInSort 16 = .ok (.ireturn, 1) := by decide +kernel
theorem ndF_signInSort_17 : decode ncF_signInSort 17 = .ok (.iload_n 1, 1) := by decide +kernel
theorem ndF_signInSort_18 : decode ncF_signInSort 18 = .ok (.bipush 10, 2) := by decide +kernel
theorem ndF_signInSort_20 : decode ncF_signInSort 20 = .ok (.if_icmp .ge 10, 3) := by decide +kernel
theorem ndF_signInSort_23 : decode ncF_signInSort 23 = .ok (.bipush 48, 2) := by decide +kernel
theorem ndF_signInSort_25 : decode ncF_signInSort 25 = .ok (.iload_n 1, 1) := by decide +kernel
theorem ndF_signInSort_26 : decode ncF_signInSort 26 = .ok (.iadd, 1) := by decide +kernel
theorem ndF_signInSort_27 : decode ncF_signInSort 27 = .ok (.goto 10, 3) := by decide +kernel
theorem ndF_signInSort_30 : decode ncF_signInSort 30 = .ok (.bipush 65, 2) := by decide +kernel
theorem ndF_signInSort_32 : decode ncF_signInSort 32 = .ok (.iload_n 1, 1) := by decide +kernel
theorem ndF_signInSort_33 : decode ncF_signInSort 33 = .ok (.iadd, 1) := by decide +kernel
theorem ndF_signInSort_34 : decode ncF_signInSort 34 = .ok (.bipush 10, 2) := by decide +kernel
theorem ndF_signInSort_36 : decode ncF_signInSort 36 = .ok (.isub, 1) := by decide +kernel
theorem ndF_signInSort_37 : decode ncF_signInSort 37 = .ok (.ireturn, 1) := by decide +kernel
theorem ndF_valueOfClass_0 : decode ncF_valueOfClass 0 = .ok (.iload_n 0, 1) := by decide +kernel
theorem ndF_valueOfClass_1 : decode ncF_valueOfClass 1 = .ok (.bipush 67, 2) := by decide +kernel
theorem ndF_valueOfClass_3 : decode ncF_valueOfClass 3 = .ok (.if_icmp .ne 5, 3) := by decide +kernel
theorem ndF_valueOfClass_6 : decode ncF_valueOfClass 6 = .ok (.iconst 0, 1) := by decide +kernel
theorem ndF_valueOfClass_7 : decode ncF_valueOfClass 7 = .ok (.ireturn, 1) := by decide +kernel
theorem ndF_valueOfClass_8 : decode ncF_valueOfClass 8 = .ok (.iload_n 0, 1) := by decide +kernel
theorem ndF_valueOfClass_9 : decode ncF_valueOfClass 9 = .ok (.bipush 83, 2) := by decide +kernel
theorem ndF_valueOfClass_11 : decode ncF_valueOfClass 11 = .ok (.if_icmp .ne 7, 3) := by decide +kernel
theorem ndF_valueOfClass_14 : decode ncF_valueOfClass 14 = .ok (.iconst 1, 1) := by decide +kernel
theorem ndF_valueOfClass_15 : decode ncF_valueOfClass 15 = .ok (.goto 4, 3) := by decide +kernel
theorem ndF_valueOfClass_18 : decode ncF_valueOfClass 18 = .ok (.iconst (-1), 1) := by decide +kernel
theorem ndF_valueOfClass_19 : decode ncF_valueOfClass 19 = .ok (.ireturn, 1) := by decide +kernel
theorem ndF_valueOfSign_0 : decode ncF_valueOfSign 0 = .ok (.iload_n 0, 1) := by decide +kernel
theorem ndF_valueOfSign_1 : decode ncF_valueOfSign 1 = .ok (.invokestatic 129, 3) := by decide +kernel
theorem ndF_valueOfSign_4 : decode ncF_valueOfSign 4 = .ok (.ifCond .eq 8, 3) := by decide +kernel
theorem ndF_valueOfSign_7 : decode ncF_valueOfSign 7 = .ok (.iload_n 0, 1) := by decide +kernel
theorem ndF_valueOfSign_8 : decode ncF_valueOfSign 8 = .ok (.bipush 48, 2) := by decide +kernel
theorem ndF_valueOfSign_10 : decode ncF_valueOfSign 10 = .ok (.isub, 1) := by decide +kernel
theorem ndF_valueOfSign_11 : decode ncF_valueOfSign 11 = .ok (.ireturn, 1) := by decide +kernel
theorem ndF_valueOfSign_12 : decode ncF_valueOfSign 12 = .ok (.iload_n 0, 1) := by decide +kernel
theorem ndF_valueOfSign_13 : decode ncF_valueOfSign 13 = .ok (.bipush 65, 2) := by decide +kernel
theorem ndF_valueOfSign_15 : decode ncF_valueOfSign 15 = .ok (.if_icmp .lt 19, 3) := by decide +kernel
theorem ndF_valueOfSign_18 : decode ncF_valueOfSign 18 = .ok (.iload_n 0, 1) := by decide +kernel
theorem ndF_valueOfSign_19 : decode ncF_valueOfSign 19 = .ok (.bipush 90, 2) := by decide +kernel
theorem ndF_valueOfSign_21 : decode ncF_valueOfSign 21 = .ok (.if_icmp .gt 13, 3) := by decide +kernel
theorem ndF_valueOfSign_24 : decode ncF_valueOfSign 24 = .ok (.iload_n 0, 1) := by decide +kernel
theorem ndF_valueOfSign_25 : decode ncF_valueOfSign 25 = .ok (.bipush 65, 2) := by decide +kernel
theorem ndF_valueOfSign_27 : decode ncF_valueOfSign 27 = .ok (.isub, 1) := by decide +kernel
theorem ndF_valueOfSign_28 : decode ncF_valueOfSign 28 = .ok (.bipush 10, 2) := by decide +kernel
theorem ndF_valueOfSign_30 : decode ncF_valueOfSign 30 = .ok (.iadd, 1) := by decide +kernel
theorem ndF_valueOfSign_31 : decode ncF_valueOfSign 31 = .ok (.goto 4, 3) := by decide +kernel
theorem ndF_valueOfSign_34 : decode ncF_valueOfSign 34 = .ok (.iconst (-1), 1) := by decide +kernel
theorem ndF_valueOfSign_35 : decode ncF_valueOfSign 35 = .ok (.ireturn, 1) := by decide +kernel
theorem ndF_isDigit_0 : decode ncF_isDigit 0 = .ok (.iload_n 0, 1) := by decide +kernel
theorem ndF_isDigit_1 : decode ncF_isDigit 1 = .ok (.bipush 48, 2) := by decide +kernel
theorem ndF_isDigit_3 : decode ncF_isDigit 3 = .ok (.if_icmp .lt 13, 3) := by decide +kernel
theorem ndF_isDigit_6 : decode ncF_isDigit 6 = .ok (.iload_n 0, 1) := by decide +kernel
theorem ndF_isDigit_7 : decode ncF_isDigit 7 = .ok (.bipush 57, 2) := by decide +kernel
theorem ndF_isDigit_9 : decode ncF_isDigit 9 = .ok (.if_icmp .gt 7, 3) := by decide +kernel
theorem ndF_isDigit_12 : decode ncF_isDigit 12 = .ok (.iconst 1, 1) := by decide +kernel
theorem ndF_isDigit_13 : decode ncF_isDigit 13 = .ok (.goto 4, 3) := by decide +kernel
theorem ndF_isDigit_16 : decode ncF_isDigit 16 = .ok (.iconst 0, 1) := by decide +kernel
theorem ndF_isDigit_17 : decode ncF_isDigit 17 = .ok (.ireturn, 1) := by decide +kernel
theorem ndF_letterOf_0 : decode ncF_letterOf 0 = .ok (.iload_n 0, 1) := by decide +kernel
theorem ndF_letterOf_1 : decode ncF_letterOf 1 = .ok (.iconst 1, 1) := by decide +kernel
theorem ndF_letterOf_2 : decode ncF_letterOf 2 = .ok (.isub, 1) := by decide +kernel
theorem ndF_letterOf_3 : decode ncF_letterOf 3 = .ok (.iconst 3, 1) := by decide +kernel
theorem ndF_letterOf_4 : decode ncF_letterOf 4 = .ok (.imul, 1) := by decide +kernel
theorem ndF_letterOf_5 : decode ncF_letterOf 5 = .ok (.iload_n 1, 1) := by decide +kernel
theorem ndF_letterOf_6 : decode ncF_letterOf 6 = .ok (.iadd, 1) := by decide +kernel
theorem ndF_letterOf_7 : decode ncF_letterOf 7 = .ok (.istore_n 2, 1) := by decide +kernel
theorem ndF_letterOf_8 : decode ncF_letterOf 8 = .ok (.iload_n 2, 1) := by decide +kernel
theorem ndF_letterOf_9 : decode ncF_letterOf 9 = .ok (.ifCond .lt 21, 3) := by decide +kernel
theorem ndF_letterOf_12 : decode ncF_letterOf 12 = .ok (.iload_n 2, 1) := by decide +kernel
theorem ndF_letterOf_13 : decode ncF_letterOf 13 = .ok (.ldc 155, 2) := by decide +kernel
theorem ndF_letterOf_15 : decode ncF_letterOf 15 = .ok (.invokevirtual 157, 3) := by decide +kernel
theorem ndF_letterOf_18 : decode ncF_letterOf 18 = .ok (.if_icmp .ge 12, 3) := by decide +kernel
theorem ndF_letterOf_21 : decode ncF_letterOf 21 = .ok (.ldc 155, 2) := by decide +kernel
theorem ndF_letterOf_23 : decode ncF_letterOf 23 = .ok (.iload_n 2, 1) := by decide +kernel
theorem ndF_letterOf_24 : decode ncF_letterOf 24 = .ok (.invokevirtual 161, 3) := by decide +kernel
theorem ndF_letterOf_27 : decode ncF_letterOf 27 = .ok (.goto 4, 3) := by decide +kernel
theorem ndF_letterOf_30 : decode ncF_letterOf 30 = .ok (.iconst 0, 1) := by decide +kernel
theorem ndF_letterOf_31 : decode ncF_letterOf 31 = .ok (.ireturn, 1) := by decide +kernel
theorem ndF_entry_0 : decode ncF_entry 0 = .ok (.iload_n 1, 1) := by decide +kernel
theorem ndF_entry_1 : decode ncF_entry 1 = .ok (.ifCond .lt 15, 3) := by decide +kernel
theorem ndF_entry_4 : decode ncF_entry 4 = .ok (.iload_n 1, 1) := by decide +kernel
theorem ndF_entry_5 : decode ncF_entry 5 = .ok (.aload_n 0, 1) := by decide +kernel
theorem ndF_entry_6 : decode ncF_entry 6 = .ok (.arraylength, 1) := by decide +kernel
theorem ndF_entry_7 : decode ncF_entry 7 = .ok (.if_icmp .ge 9, 3) := by decide +kernel
theorem ndF_entry_10 : decode ncF_entry 10 = .ok (.aload_n 0, 1) := by decide +kernel
theorem ndF_entry_11 : decode ncF_entry 11 = .ok (.iload_n 1, 1) := by decide +kernel
theorem ndF_entry_12 : decode ncF_entry 12 = .ok (.iaload, 1) := by decide +kernel
theorem ndF_entry_13 : decode ncF_entry 13 = .ok (.goto 4, 3) := by decide +kernel
theorem ndF_entry_16 : decode ncF_entry 16 = .ok (.iconst 0, 1) := by decide +kernel
theorem ndF_entry_17 : decode ncF_entry 17 = .ok (.ireturn, 1) := by decide +kernel
theorem ndD_init_0 : decode ncD_init 0 = .ok (.aload_n 0, 1) := by decide +kernel
theorem ndD_init_1 : decode ncD_init 1 = .ok (.invokespecial 1, 3) := by decide +kernel
theorem ndD_init_4 : decode ncD_init 4 = .ok (.aload_n 0, 1) := by decide +kernel
theorem ndD_init_5 : decode ncD_init 5 = .ok (.sipush 400, 3) := by decide +kernel
theorem ndD_init_8 : decode ncD_init 8 = .ok (.newarray .int, 2) := by decide +kernel
theorem ndD_init_10 : decode ncD_init 10 = .ok (.putfield 7, 3) := by decide +kernel
theorem ndD_init_13 : decode ncD_init 13 = .ok (.aload_n 0, 1) := by decide +kernel
theorem ndD_init_14 : decode ncD_init 14 = .ok (.bipush 24, 2) := by decide +kernel
theorem ndD_init_16 : decode ncD_init 16 = .ok (.newarray .long, 2) := by decide +kernel
theorem ndD_init_18 : decode ncD_init 18 = .ok (.putfield 13, 3) := by decide +kernel
theorem ndD_init_21 : decode ncD_init 21 = .ok (.aload_n 0, 1) := by decide +kernel
theorem ndD_init_22 : decode ncD_init 22 = .ok (.sipush 200, 3) := by decide +kernel
theorem ndD_init_25 : decode ncD_init 25 = .ok (.newarray .int, 2) := by decide +kernel
theorem ndD_init_27 : decode ncD_init 27 = .ok (.putfield 17, 3) := by decide +kernel
theorem ndD_init_30 : decode ncD_init 30 = .ok (.aload_n 0, 1) := by decide +kernel
theorem ndD_init_31 : decode ncD_init 31 = .ok (.bipush 24, 2) := by decide +kernel
theorem ndD_init_33 : decode ncD_init 33 = .ok (.newarray .long, 2) := by decide +kernel
theorem ndD_init_35 : decode ncD_init 35 = .ok (.putfield 20, 3) := by decide +kernel
theorem ndD_init_38 : decode ncD_init 38 = .ok (.return_, 1) := by decide +kernel
theorem ndD_letter_0 : decode ncD_letter 0 = .ok (.iload_n 0, 1) := by decide +kernel
theorem ndD_letter_1 : decode ncD_letter 1 = .ok (.tableswitch 369 1 14 #[71, 93, 115, 137, 149, 171, 193, 215, 237, 259, 281, 303, 325, 347], 71) := by decide +kernel
theorem ndD_letter_72 : decode ncD_letter 72 = .ok (.iload_n 1, 1) := by decide +kernel
theorem ndD_letter_73 : decode ncD_letter 73 = .ok (.ifCond .ne 8, 3) := by decide +kernel
theorem ndD_letter_76 : decode ncD_letter 76 = .ok (.bipush 78, 2) := by decide +kernel
theorem ndD_letter_78 : decode ncD_letter 78 = .ok (.goto 15, 3) := by decide +kernel
theorem ndD_letter_81 : decode ncD_letter 81 = .ok (.iload_n 1, 1) := by decide +kernel
theorem ndD_letter_82 : decode ncD_letter 82 = .ok (.iconst 1, 1) := by decide +kernel
theorem ndD_letter_83 : decode ncD_letter 83 = .ok (.if_icmp .ne 8, 3) := by decide +kernel
theorem ndD_letter_86 : decode ncD_letter 86 = .ok (.bipush 69, 2) := by decide +kernel
theorem ndD_letter_88 : decode ncD_letter 88 = .ok (.goto 5, 3) := by decide +kernel
theorem ndD_letter_91 : decode ncD_letter 91 = .ok (.bipush 87, 2) := by decide +kernel
theorem ndD_letter_93 : decode ncD_letter 93 = .ok (.ireturn, 1) := by decide +kernel
theorem ndD_letter_94 : decode ncD_letter 94 = .ok (.iload_n 1, 1) := by decide +kernel
theorem ndD_letter_95 : decode ncD_letter 95 = .ok (.ifCond .ne 8, 3) := by decide +kernel
theorem ndD_letter_98 : decode ncD_letter 98 = .ok (.bipush 65, 2) := by decide +kernel
theorem ndD_letter_100 : decode ncD_letter 100 = .ok (.goto 15, 3) := by decide +kernel
theorem ndD_letter_103 : decode ncD_letter 103 = .ok (.iload_n 1, 1) := by decide +kernel
theorem ndD_letter_104 : decode ncD_letter 104 = .ok (.iconst 1, 1) := by decide +kernel
theorem ndD_letter_105 : decode ncD_letter 105 = .ok (.if_icmp .ne 8, 3) := by decide +kernel
theorem ndD_letter_108 : decode ncD_letter 108 = .ok (.bipush 83, 2) := by decide +kernel
theorem ndD_letter_110 : decode ncD_letter 110 = .ok (.goto 5, 3) := by decide +kernel
theorem ndD_letter_113 : decode ncD_letter 113 = .ok (.bipush 84, 2) := by decide +kernel
theorem ndD_letter_115 : decode ncD_letter 115 = .ok (.ireturn, 1) := by decide +kernel
theorem ndD_letter_116 : decode ncD_letter 116 = .ok (.iload_n 1, 1) := by decide +kernel
theorem ndD_letter_117 : decode ncD_letter 117 = .ok (.ifCond .ne 8, 3) := by decide +kernel
theorem ndD_letter_120 : decode ncD_letter 120 = .ok (.bipush 80, 2) := by decide +kernel
theorem ndD_letter_122 : decode ncD_letter 122 = .ok (.goto 15, 3) := by decide +kernel
theorem ndD_letter_125 : decode ncD_letter 125 = .ok (.iload_n 1, 1) := by decide +kernel
theorem ndD_letter_126 : decode ncD_letter 126 = .ok (.iconst 1, 1) := by decide +kernel
theorem ndD_letter_127 : decode ncD_letter 127 = .ok (.if_icmp .ne 8, 3) := by decide +kernel
theorem ndD_letter_130 : decode ncD_letter 130 = .ok (.bipush 82, 2) := by decide +kernel
theorem ndD_letter_132 : decode ncD_letter 132 = .ok (.goto 5, 3) := by decide +kernel
theorem ndD_letter_135 : decode ncD_letter 135 = .ok (.bipush 67, 2) := by decide +kernel
theorem ndD_letter_137 : decode ncD_letter 137 = .ok (.ireturn, 1) := by decide +kernel
theorem ndD_letter_138 : decode ncD_letter 138 = .ok (.iload_n 1, 1) := by decide +kernel
theorem ndD_letter_139 : decode ncD_letter 139 = .ok (.ifCond .ne 8, 3) := by decide +kernel
theorem ndD_letter_142 : decode ncD_letter 142 = .ok (.bipush 73, 2) := by decide +kernel
theorem ndD_letter_144 : decode ncD_letter 144 = .ok (.goto 5, 3) := by decide +kernel
theorem ndD_letter_147 : decode ncD_letter 147 = .ok (.bipush 83, 2) := by decide +kernel
theorem ndD_letter_149 : decode ncD_letter 149 = .ok (.ireturn, 1) := by decide +kernel
theorem ndD_letter_150 : decode ncD_letter 150 = .ok (.iload_n 1, 1) := by decide +kernel
theorem ndD_letter_151 : decode ncD_letter 151 = .ok (.ifCond .ne 8, 3) := by decide +kernel
theorem ndD_letter_154 : decode ncD_letter 154 = .ok (.bipush 82, 2) := by decide +kernel
theorem ndD_letter_156 : decode ncD_letter 156 = .ok (.goto 15, 3) := by decide +kernel
theorem ndD_letter_159 : decode ncD_letter 159 = .ok (.iload_n 1, 1) := by decide +kernel
theorem ndD_letter_160 : decode ncD_letter 160 = .ok (.iconst 1, 1) := by decide +kernel
theorem ndD_letter_161 : decode ncD_letter 161 = .ok (.if_icmp .ne 8, 3) := by decide +kernel
theorem ndD_letter_164 : decode ncD_letter 164 = .ok (.bipush 69, 2) := by decide +kernel
theorem ndD_letter_166 : decode ncD_letter 166 = .ok (.goto 5, 3) := by decide +kernel
theorem ndD_letter_169 : decode ncD_letter 169 = .ok (.bipush 68, 2) := by decide +kernel
theorem ndD_letter_171 : decode ncD_letter 171 = .ok (.ireturn, 1) := by decide +kernel
theorem ndD_letter_172 : decode ncD_letter 172 = .ok (.iload_n 1, 1) := by decide +kernel
theorem ndD_letter_173 : decode ncD_letter 173 = .ok (.ifCond .ne 8, 3) := by decide +kernel
theorem ndD_letter_176 : decode ncD_letter 176 = .ok (.bipush 80, 2) := by decide +kernel
theorem ndD_letter_178 : decode ncD_letter 178 = .ok (.goto 15, 3) := by decide +kernel
theorem ndD_letter_181 : decode ncD_letter 181 = .ok (.iload_n 1, 1) := by decide +kernel
theorem ndD_letter_182 : decode ncD_letter 182 = .ok (.iconst 1, 1) := by decide +kernel
theorem ndD_letter_183 : decode ncD_letter 183 = .ok (.if_icmp .ne 8, 3) := by decide +kernel
theorem ndD_letter_186 : decode ncD_letter 186 = .ok (.bipush 65, 2) := by decide +kernel
theorem ndD_letter_188 : decode ncD_letter 188 = .ok (.goto 5, 3) := by decide +kernel
theorem ndD_letter_191 : decode ncD_letter 191 = .ok (.bipush 89, 2) := by decide +kernel
theorem ndD_letter_193 : decode ncD_letter 193 = .ok (.ireturn, 1) := by decide +kernel
theorem ndD_letter_194 : decode ncD_letter 194 = .ok (.iload_n 1, 1) := by decide +kernel
theorem ndD_letter_195 : decode ncD_letter 195 = .ok (.ifCond .ne 8, 3) := by decide +kernel
theorem ndD_letter_198 : decode ncD_letter 198 = .ok (.bipush 67, 2) := by decide +kernel
theorem ndD_letter_200 : decode ncD_letter 200 = .ok (.goto 15, 3) := by decide +kernel
theorem ndD_letter_203 : decode ncD_letter 203 = .ok (.iload_n 1, 1) := by decide +kernel
theorem ndD_letter_204 : decode ncD_letter 204 = .ok (.iconst 1, 1) := by decide +kernel
theorem ndD_letter_205 : decode ncD_letter 205 = .ok (.if_icmp .ne 8, 3) := by decide +kernel
theorem ndD_letter_208 : decode ncD_letter 208 = .ok (.bipush 78, 2) := by decide +kernel
theorem ndD_letter_210 : decode ncD_letter 210 = .ok (.goto 5, 3) := by decide +kernel
theorem ndD_letter_213 : decode ncD_letter 213 = .ok (.bipush 70, 2) := by decide +kernel
theorem ndD_letter_215 : decode ncD_letter 215 = .ok (.ireturn, 1) := by decide +kernel
theorem ndD_letter_216 : decode ncD_letter 216 = .ok (.iload_n 1, 1) := by decide +kernel
theorem ndD_letter_217 : decode ncD_letter 217 = .ok (.ifCond .ne 8, 3) := by decide +kernel
theorem ndD_letter_220 : decode ncD_letter 220 = .ok (.bipush 67, 2) := by decide +kernel
theorem ndD_letter_222 : decode ncD_letter 222 = .ok (.goto 15, 3) := by decide +kernel
theorem ndD_letter_225 : decode ncD_letter 225 = .ok (.iload_n 1, 1) := by decide +kernel
theorem ndD_letter_226 : decode ncD_letter 226 = .ok (.iconst 1, 1) := by decide +kernel
theorem ndD_letter_227 : decode ncD_letter 227 = .ok (.if_icmp .ne 8, 3) := by decide +kernel
theorem ndD_letter_230 : decode ncD_letter 230 = .ok (.bipush 65, 2) := by decide +kernel
theorem ndD_letter_232 : decode ncD_letter 232 = .ok (.goto 5, 3) := by decide +kernel
theorem ndD_letter_235 : decode ncD_letter 235 = .ok (.bipush 78, 2) := by decide +kernel
theorem ndD_letter_237 : decode ncD_letter 237 = .ok (.ireturn, 1) := by decide +kernel
theorem ndD_letter_238 : decode ncD_letter 238 = .ok (.iload_n 1, 1) := by decide +kernel
theorem ndD_letter_239 : decode ncD_letter 239 = .ok (.ifCond .ne 8, 3) := by decide +kernel
theorem ndD_letter_242 : decode ncD_letter 242 = .ok (.bipush 80, 2) := by decide +kernel
theorem ndD_letter_244 : decode ncD_letter 244 = .ok (.goto 15, 3) := by decide +kernel
theorem ndD_letter_247 : decode ncD_letter 247 = .ok (.iload_n 1, 1) := by decide +kernel
theorem ndD_letter_248 : decode ncD_letter 248 = .ok (.iconst 1, 1) := by decide +kernel
theorem ndD_letter_249 : decode ncD_letter 249 = .ok (.if_icmp .ne 8, 3) := by decide +kernel
theorem ndD_letter_252 : decode ncD_letter 252 = .ok (.bipush 82, 2) := by decide +kernel
theorem ndD_letter_254 : decode ncD_letter 254 = .ok (.goto 5, 3) := by decide +kernel
theorem ndD_letter_257 : decode ncD_letter 257 = .ok (.bipush 73, 2) := by decide +kernel
theorem ndD_letter_259 : decode ncD_letter 259 = .ok (.ireturn, 1) := by decide +kernel
theorem ndD_letter_260 : decode ncD_letter 260 = .ok (.iload_n 1, 1) := by decide +kernel
theorem ndD_letter_261 : decode ncD_letter 261 = .ok (.ifCond .ne 8, 3) := by decide +kernel
theorem ndD_letter_264 : decode ncD_letter 264 = .ok (.bipush 76, 2) := by decide +kernel
theorem ndD_letter_266 : decode ncD_letter 266 = .ok (.goto 15, 3) := by decide +kernel
theorem ndD_letter_269 : decode ncD_letter 269 = .ok (.iload_n 1, 1) := by decide +kernel
theorem ndD_letter_270 : decode ncD_letter 270 = .ok (.iconst 1, 1) := by decide +kernel
theorem ndD_letter_271 : decode ncD_letter 271 = .ok (.if_icmp .ne 8, 3) := by decide +kernel
theorem ndD_letter_274 : decode ncD_letter 274 = .ok (.bipush 73, 2) := by decide +kernel
theorem ndD_letter_276 : decode ncD_letter 276 = .ok (.goto 5, 3) := by decide +kernel
theorem ndD_letter_279 : decode ncD_letter 279 = .ok (.bipush 77, 2) := by decide +kernel
theorem ndD_letter_281 : decode ncD_letter 281 = .ok (.ireturn, 1) := by decide +kernel
theorem ndD_letter_282 : decode ncD_letter 282 = .ok (.iload_n 1, 1) := by decide +kernel
theorem ndD_letter_283 : decode ncD_letter 283 = .ok (.ifCond .ne 8, 3) := by decide +kernel
theorem ndD_letter_286 : decode ncD_letter 286 = .ok (.bipush 85, 2) := by decide +kernel
theorem ndD_letter_288 : decode ncD_letter 288 = .ok (.goto 15, 3) := by decide +kernel
theorem ndD_letter_291 : decode ncD_letter 291 = .ok (.iload_n 1, 1) := by decide +kernel
theorem ndD_letter_292 : decode ncD_letter 292 = .ok (.iconst 1, 1) := by decide +kernel
theorem ndD_letter_293 : decode ncD_letter 293 = .ok (.if_icmp .ne 8, 3) := by decide +kernel
theorem ndD_letter_296 : decode ncD_letter 296 = .ok (.bipush 78, 2) := by decide +kernel
theorem ndD_letter_298 : decode ncD_letter 298 = .ok (.goto 5, 3) := by decide +kernel
theorem ndD_letter_301 : decode ncD_letter 301 = .ok (.bipush 76, 2) := by decide +kernel
theorem ndD_letter_303 : decode ncD_letter 303 = .ok (.ireturn, 1) := by decide +kernel
theorem ndD_letter_304 : decode ncD_letter 304 = .ok (.iload_n 1, 1) := by decide +kernel
theorem ndD_letter_305 : decode ncD_letter 305 = .ok (.ifCond .ne 8, 3) := by decide +kernel
theorem ndD_letter_308 : decode ncD_letter 308 = .ok (.bipush 80, 2) := by decide +kernel
theorem ndD_letter_310 : decode ncD_letter 310 = .ok (.goto 15, 3) := by decide +kernel
theorem ndD_letter_313 : decode ncD_letter 313 = .ok (.iload_n 1, 1) := by decide +kernel
theorem ndD_letter_314 : decode ncD_letter 314 = .ok (.iconst 1, 1) := by decide +kernel
theorem ndD_letter_315 : decode ncD_letter 315 = .ok (.if_icmp .ne 8, 3) := by decide +kernel
theorem ndD_letter_318 : decode ncD_letter 318 = .ok (.bipush 76, 2) := by decide +kernel
theorem ndD_letter_320 : decode ncD_letter 320 = .ok (.goto 5, 3) := by decide +kernel
theorem ndD_letter_323 : decode ncD_letter 323 = .ok (.bipush 71, 2) := by decide +kernel
theorem ndD_letter_325 : decode ncD_letter 325 = .ok (.ireturn, 1) := by decide +kernel
theorem ndD_letter_326 : decode ncD_letter 326 = .ok (.iload_n 1, 1) := by decide +kernel
theorem ndD_letter_327 : decode ncD_letter 327 = .ok (.ifCond .ne 8, 3) := by decide +kernel
theorem ndD_letter_330 : decode ncD_letter 330 = .ok (.bipush 85, 2) := by decide +kernel
theorem ndD_letter_332 : decode ncD_letter 332 = .ok (.goto 15, 3) := by decide +kernel
theorem ndD_letter_335 : decode ncD_letter 335 = .ok (.iload_n 1, 1) := by decide +kernel
theorem ndD_letter_336 : decode ncD_letter 336 = .ok (.iconst 1, 1) := by decide +kernel
theorem ndD_letter_337 : decode ncD_letter 337 = .ok (.if_icmp .ne 8, 3) := by decide +kernel
theorem ndD_letter_340 : decode ncD_letter 340 = .ok (.bipush 78, 2) := by decide +kernel
theorem ndD_letter_342 : decode ncD_letter 342 = .ok (.goto 5, 3) := by decide +kernel
theorem ndD_letter_345 : decode ncD_letter 345 = .ok (.bipush 80, 2) := by decide +kernel
theorem ndD_letter_347 : decode ncD_letter 347 = .ok (.ireturn, 1) := by decide +kernel
theorem ndD_letter_348 : decode ncD_letter 348 = .ok (.iload_n 1, 1) := by decide +kernel
theorem ndD_letter_349 : decode ncD_letter 349 = .ok (.ifCond .ne 8, 3) := by decide +kernel
theorem ndD_letter_352 : decode ncD_letter 352 = .ok (.bipush 82, 2) := by decide +kernel
theorem ndD_letter_354 : decode ncD_letter 354 = .ok (.goto 15, 3) := by decide +kernel
theorem ndD_letter_357 : decode ncD_letter 357 = .ok (.iload_n 1, 1) := by decide +kernel
theorem ndD_letter_358 : decode ncD_letter 358 = .ok (.iconst 1, 1) := by decide +kernel
theorem ndD_letter_359 : decode ncD_letter 359 = .ok (.if_icmp .ne 8, 3) := by decide +kernel
theorem ndD_letter_362 : decode ncD_letter 362 = .ok (.bipush 69, 2) := by decide +kernel
theorem ndD_letter_364 : decode ncD_letter 364 = .ok (.goto 5, 3) := by decide +kernel
theorem ndD_letter_367 : decode ncD_letter 367 = .ok (.bipush 83, 2) := by decide +kernel
theorem ndD_letter_369 : decode ncD_letter 369 = .ok (.ireturn, 1) := by decide +kernel
theorem ndD_letter_370 : decode ncD_letter 370 = .ok (.iload_n 1, 1) := by decide +kernel
theorem ndD_letter_371 : decode ncD_letter 371 = .ok (.ifCond .ne 8, 3) := by decide +kernel
theorem ndD_letter_374 : decode ncD_letter 374 = .ok (.bipush 83, 2) := by decide +kernel
theorem ndD_letter_376 : decode ncD_letter 376 = .ok (.goto 15, 3) := by decide +kernel
theorem ndD_letter_379 : decode ncD_letter 379 = .ok (.iload_n 1, 1) := by decide +kernel
theorem ndD_letter_380 : decode ncD_letter 380 = .ok (.iconst 1, 1) := by decide +kernel
theorem ndD_letter_381 : decode ncD_letter 381 = .ok (.if_icmp .ne 8, 3) := by decide +kernel
theorem ndD_letter_384 : decode ncD_letter 384 = .ok (.bipush 84, 2) := by decide +kernel
theorem ndD_letter_386 : decode ncD_letter 386 = .ok (.goto 5, 3) := by decide +kernel
theorem ndD_letter_389 : decode ncD_letter 389 = .ok (.bipush 77, 2) := by decide +kernel
theorem ndD_letter_391 : decode ncD_letter 391 = .ok (.ireturn, 1) := by decide +kernel
theorem ndD_sortOf_0 : decode ncD_sortOf 0 = .ok (.iload_n 1, 1) := by decide +kernel
theorem ndD_sortOf_1 : decode ncD_sortOf 1 = .ok (.iconst 2, 1) := by decide +kernel
theorem ndD_sortOf_2 : decode ncD_sortOf 2 = .ok (.if_icmp .ge 13, 3) := by decide +kernel
theorem ndD_sortOf_5 : decode ncD_sortOf 5 = .ok (.iload_n 1, 1) := by decide +kernel
theorem ndD_sortOf_6 : decode ncD_sortOf 6 = .ok (.ifCond .ne 7, 3) := by decide +kernel
theorem ndD_sortOf_9 : decode ncD_sortOf 9 = .ok (.iconst 1, 1) := by decide +kernel
theorem ndD_sortOf_10 : decode ncD_sortOf 10 = .ok (.goto 4, 3) := by decide +kernel
theorem ndD_sortOf_13 : decode ncD_sortOf 13 = .ok (.iconst 3, 1) := by decide +kernel
theorem ndD_sortOf_14 : decode ncD_sortOf 14 = .ok (.ireturn, 1) := by decide +kernel
theorem ndD_sortOf_15 : decode ncD_sortOf 15 = .ok (.iload_n 1, 1) := by decide +kernel
theorem ndD_sortOf_16 : decode ncD_sortOf 16 = .ok (.iconst 2, 1) := by decide +kernel
theorem ndD_sortOf_17 : decode ncD_sortOf 17 = .ok (.isub, 1) := by decide +kernel
theorem ndD_sortOf_18 : decode ncD_sortOf 18 = .ok (.istore 4, 2) := by decide +kernel
theorem ndD_sortOf_20 : decode ncD_sortOf 20 = .ok (.iload_n 0, 1) := by decide +kernel
theorem ndD_sortOf_21 : decode ncD_sortOf 21 = .ok (.tableswitch 348 1 13 #[67, 78, 120, 152, 152, 183, 252, 273, 284, 306, 67, 327, 327], 67) := by decide +kernel
theorem ndD_sortOf_88 : decode ncD_sortOf 88 = .ok (.iload 4, 2) := by decide +kernel
theorem ndD_sortOf_90 : decode ncD_sortOf 90 = .ok (.ifCond .ne 7, 3) := by decide +kernel
theorem ndD_sortOf_93 : decode ncD_sortOf 93 = .ok (.iconst 1, 1) := by decide +kernel
theorem ndD_sortOf_94 : decode ncD_sortOf 94 = .ok (.goto 4, 3) := by decide +kernel
theorem ndD_sortOf_97 : decode ncD_sortOf 97 = .ok (.iconst 0, 1) := by decide +kernel
theorem ndD_sortOf_98 : decode ncD_sortOf 98 = .ok (.ireturn, 1) := by decide +kernel
theorem ndD_sortOf_99 : decode ncD_sortOf 99 = .ok (.iload 4, 2) := by decide +kernel
theorem ndD_sortOf_101 : decode ncD_sortOf 101 = .ok (.ifCond .ne 7, 3) := by decide +kernel
theorem ndD_sortOf_104 : decode ncD_sortOf 104 = .ok (.iconst 2, 1) := by decide +kernel
theorem ndD_sortOf_105 : decode ncD_sortOf 105 = .ok (.goto 35, 3) := by decide +kernel
theorem ndD_sortOf_108 : decode ncD_sortOf 108 = .ok (.iload 4, 2) := by decide +kernel
theorem ndD_sortOf_110 : decode ncD_sortOf 110 = .ok (.iconst 1, 1) := by decide +kernel
theorem ndD_sortOf_111 : decode ncD_sortOf 111 = .ok (.if_icmp .ne 7, 3) := by decide +kernel
theorem ndD_sortOf_114 : decode ncD_sortOf 114 = .ok (.iconst 5, 1) := by decide +kernel
theorem ndD_sortOf_115 : decode ncD_sortOf 115 = .ok (.goto 25, 3) := by decide +kernel
theorem ndD_sortOf_118 : decode ncD_sortOf 118 = .ok (.iload 4, 2) := by decide +kernel
theorem ndD_sortOf_120 : decode ncD_sortOf 120 = .ok (.iconst 2, 1) := by decide +kernel
theorem ndD_sortOf_121 : decode ncD_sortOf 121 = .ok (.if_icmp .ne 7, 3) := by decide +kernel
theorem ndD_sortOf_124 : decode ncD_sortOf 124 = .ok (.iconst 4, 1) := by decide +kernel
theorem ndD_sortOf_125 : decode ncD_sortOf 125 = .ok (.goto 15, 3) := by decide +kernel
theorem ndD_sortOf_128 : decode ncD_sortOf 128 = .ok (.iload 4, 2) := by decide +kernel
theorem ndD_sortOf_130 : decode ncD_sortOf 130 = .ok (.iconst 3, 1) := by decide +kernel
theorem ndD_sortOf_131 : decode ncD_sortOf 131 = .ok (.if_icmp .ne 8, 3) := by decide +kernel
theorem ndD_sortOf_134 : decode ncD_sortOf 134 = .ok (.bipush 6, 2) := by decide +kernel
theorem ndD_sortOf_136 : decode ncD_sortOf 136 = .ok (.goto 4, 3) := by decide +kernel
theorem ndD_sortOf_139 : decode ncD_sortOf 139 = .ok (.iconst 0, 1) := by decide +kernel
theorem ndD_sortOf_140 : decode ncD_sortOf 140 = .ok (.ireturn, 1) := by decide +kernel
theorem ndD_sortOf_141 : decode ncD_sortOf 141 = .ok (.iload 4, 2) := by decide +kernel
theorem ndD_sortOf_143 : decode ncD_sortOf 143 = .ok (.ifCond .ne 7, 3) := by decide +kernel
theorem ndD_sortOf_146 : decode ncD_sortOf 146 = .ok (.iconst 2, 1) := by decide +kernel
theorem ndD_sortOf_147 : decode ncD_sortOf 147 = .ok (.goto 25, 3) := by decide +kernel
theorem ndD_sortOf_150 : decode ncD_sortOf 150 = .ok (.iload 4, 2) := by decide +kernel
theorem ndD_sortOf_152 : decode ncD_sortOf 152 = .ok (.iconst 1, 1) := by decide +kernel
theorem ndD_sortOf_153 : decode ncD_sortOf 153 = .ok (.if_icmp .ne 7, 3) := by decide +kernel
theorem ndD_sortOf_156 : decode ncD_sortOf 156 = .ok (.iconst 4, 1) := by decide +kernel
theorem ndD_sortOf_157 : decode ncD_sortOf 157 = .ok (.goto 15, 3) := by decide +kernel
theorem ndD_sortOf_160 : decode ncD_sortOf 160 = .ok (.iload 4, 2) := by decide +kernel
theorem ndD_sortOf_162 : decode ncD_sortOf 162 = .ok (.iconst 2, 1) := by decide +kernel
theorem ndD_sortOf_163 : decode ncD_sortOf 163 = .ok (.if_icmp .ne 8, 3) := by decide +kernel
theorem ndD_sortOf_166 : decode ncD_sortOf 166 = .ok (.bipush 6, 2) := by decide +kernel
theorem ndD_sortOf_168 : decode ncD_sortOf 168 = .ok (.goto 4, 3) := by decide +kernel
theorem ndD_sortOf_171 : decode ncD_sortOf 171 = .ok (.iconst 0, 1) := by decide +kernel
theorem ndD_sortOf_172 : decode ncD_sortOf 172 = .ok (.ireturn, 1) := by decide +kernel
theorem ndD_sortOf_173 : decode ncD_sortOf 173 = .ok (.iload 4, 2) := by decide +kernel
theorem ndD_sortOf_175 : decode ncD_sortOf 175 = .ok (.ifCond .ne 7, 3) := by decide +kernel
theorem ndD_sortOf_178 : decode ncD_sortOf 178 = .ok (.iconst 2, 1) := by decide +kernel
theorem ndD_sortOf_179 : decode ncD_sortOf 179 = .ok (.goto 24, 3) := by decide +kernel
theorem ndD_sortOf_182 : decode ncD_sortOf 182 = .ok (.iload 4, 2) := by decide +kernel
theorem ndD_sortOf_184 : decode ncD_sortOf 184 = .ok (.iconst 1, 1) := by decide +kernel
theorem ndD_sortOf_185 : decode ncD_sortOf 185 = .ok (.if_icmp .ne 7, 3) := by decide +kernel
theorem ndD_sortOf_188 : decode ncD_sortOf 188 = .ok (.iconst 1, 1) := by decide +kernel
theorem ndD_sortOf_189 : decode ncD_sortOf 189 = .ok (.goto 14, 3) := by decide +kernel
theorem ndD_sortOf_192 : decode ncD_sortOf 192 = .ok (.iload 4, 2) := by decide +kernel
theorem ndD_sortOf_194 : decode ncD_sortOf 194 = .ok (.iconst 2, 1) := by decide +kernel
theorem ndD_sortOf_195 : decode ncD_sortOf 195 = .ok (.if_icmp .ne 7, 3) := by decide +kernel
theorem ndD_sortOf_198 : decode ncD_sortOf 198 = .ok (.iconst 4, 1) := by decide +kernel
theorem ndD_sortOf_199 : decode ncD_sortOf 199 = .ok (.goto 4, 3) := by decide +kernel
theorem ndD_sortOf_202 : decode ncD_sortOf 202 = .ok (.iconst 0, 1) := by decide +kernel
theorem ndD_sortOf_203 : decode ncD_sortOf 203 = .ok (.ireturn, 1) := by decide +kernel
theorem ndD_sortOf_204 : decode ncD_sortOf 204 = .ok (.iload 4, 2) := by decide +kernel
theorem ndD_sortOf_206 : decode ncD_sortOf 206 = .ok (.ifCond .ne 8, 3) := by decide +kernel
theorem ndD_sortOf_209 : decode ncD_sortOf 209 = .ok (.bipush 7, 2) := by decide +kernel
theorem ndD_sortOf_211 : decode ncD_sortOf 211 = .ok (.goto 61, 3) := by decide +kernel
theorem ndD_sortOf_214 : decode ncD_sortOf 214 = .ok (.iload 4, 2) := by decide +kernel
theorem ndD_sortOf_216 : decode ncD_sortOf 216 = .ok (.iconst 1, 1) := by decide +kernel
theorem ndD_sortOf_217 : decode ncD_sortOf 217 = .ok (.if_icmp .ne 8, 3) := by decide +kernel
theorem ndD_sortOf_220 : decode ncD_sortOf 220 = .ok (.bipush 8, 2) := by decide +kernel
theorem ndD_sortOf_222 : decode ncD_sortOf 222 = .ok (.goto 50, 3) := by decide +kernel
theorem ndD_sortOf_225 : decode ncD_sortOf 225 = .ok (.iload 4, 2) := by decide +kernel
theorem ndD_sortOf_227 : decode ncD_sortOf 227 = .ok (.iconst 2, 1) := by decide +kernel
theorem ndD_sortOf_228 : decode ncD_sortOf 228 = .ok (.isub, 1) := by decide +kernel
theorem ndD_sortOf_229 : decode ncD_sortOf 229 = .ok (.i2l, 1) := by decide +kernel
theorem ndD_sortOf_230 : decode ncD_sortOf 230 = .ok (.ldc2_w 23, 3) := by decide +kernel
theorem ndD_sortOf_233 : decode ncD_sortOf 233 = .ok (.lload_n 2, 1) := by decide +kernel
theorem ndD_sortOf_234 : decode ncD_sortOf 234 = .ok (.lmul, 1) := by decide +kernel
theorem ndD_sortOf_235 : decode ncD_sortOf 235 = .ok (.lcmp, 1) := by decide +kernel
theorem ndD_sortOf_236 : decode ncD_sortOf 236 = .ok (.ifCond .lt 7, 3) := by decide +kernel
theorem ndD_sortOf_239 : decode ncD_sortOf 239 = .ok (.iconst 0, 1) := by decide +kernel
theorem ndD_sortOf_240 : decode ncD_sortOf 240 = .ok (.goto 32, 3) := by decide +kernel
theorem ndD_sortOf_243 : decode ncD_sortOf 243 = .ok (.iload 4, 2) := by decide +kernel
theorem ndD_sortOf_245 : decode ncD_sortOf 245 = .ok (.iconst 2, 1) := by decide +kernel
theorem ndD_sortOf_246 : decode ncD_sortOf 246 = .ok (.isub, 1) := by decide +kernel
theorem ndD_sortOf_247 : decode ncD_sortOf 247 = .ok (.iconst 4, 1) := by decide +kernel
theorem ndD_sortOf_248 : decode ncD_sortOf 248 = .ok (.irem, 1) := by decide +kernel
theorem ndD_sortOf_249 : decode ncD_sortOf 249 = .ok (.iconst 2, 1) := by decide +kernel
theorem ndD_sortOf_250 : decode ncD_sortOf 250 = .ok (.if_icmp .ge 7, 3) := by decide +kernel
theorem ndD_sortOf_253 : decode ncD_sortOf 253 = .ok (.iconst 1, 1) := by decide +kernel
theorem ndD_sortOf_254 : decode ncD_sortOf 254 = .ok (.goto 18, 3) := by decide +kernel
theorem ndD_sortOf_257 : decode ncD_sortOf 257 = .ok (.iload 4, 2) := by decide +kernel
theorem ndD_sortOf_259 : decode ncD_sortOf 259 = .ok (.iconst 2, 1) := by decide +kernel
theorem ndD_sortOf_260 : decode ncD_sortOf 260 = .ok (.isub, 1) := by decide +kernel
theorem ndD_sortOf_261 : decode ncD_sortOf 261 = .ok (.iconst 4, 1) := by decide +kernel
theorem ndD_sortOf_262 : decode ncD_sortOf 262 = .ok (.irem, 1) := by decide +kernel
theorem ndD_sortOf_263 : decode ncD_sortOf 263 = .ok (.iconst 2, 1) := by decide +kernel
theorem ndD_sortOf_264 : decode ncD_sortOf 264 = .ok (.if_icmp .ne 7, 3) := by decide +kernel
theorem ndD_sortOf_267 : decode ncD_sortOf 267 = .ok (.iconst 2, 1) := by decide +kernel
theorem ndD_sortOf_268 : decode ncD_sortOf 268 = .ok (.goto 4, 3) := by decide +kernel
theorem ndD_sortOf_271 : decode ncD_sortOf 271 = .ok (.iconst 4, 1) := by decide +kernel
theorem ndD_sortOf_272 : decode ncD_sortOf 272 = .ok (.ireturn, 1) := by decide +kernel
theorem ndD_sortOf_273 : decode ncD_sortOf 273 = .ok (.iload 4, 2) := by decide +kernel
theorem ndD_sortOf_275 : decode ncD_sortOf 275 = .ok (.ifCond .ne 7, 3) := by decide +kernel
theorem ndD_sortOf_278 : decode ncD_sortOf 278 = .ok (.iconst 1, 1) := by decide +kernel
theorem ndD_sortOf_279 : decode ncD_sortOf 279 = .ok (.goto 14, 3) := by decide +kernel
theorem ndD_sortOf_282 : decode ncD_sortOf 282 = .ok (.iload 4, 2) := by decide +kernel
theorem ndD_sortOf_284 : decode ncD_sortOf 284 = .ok (.iconst 1, 1) := by decide +kernel
theorem ndD_sortOf_285 : decode ncD_sortOf 285 = .ok (.if_icmp .ne 7, 3) := by decide +kernel
theorem ndD_sortOf_288 : decode ncD_sortOf 288 = .ok (.iconst 3, 1) := by decide +kernel
theorem ndD_sortOf_289 : decode ncD_sortOf 289 = .ok (.goto 4, 3) := by decide +kernel
theorem ndD_sortOf_292 : decode ncD_sortOf 292 = .ok (.iconst 0, 1) := by decide +kernel
theorem ndD_sortOf_293 : decode ncD_sortOf 293 = .ok (.ireturn, 1) := by decide +kernel
theorem ndD_sortOf_294 : decode ncD_sortOf 294 = .ok (.iload 4, 2) := by decide +kernel
theorem ndD_sortOf_296 : decode ncD_sortOf 296 = .ok (.ifCond .ne 7, 3) := by decide +kernel
theorem ndD_sortOf_299 : decode ncD_sortOf 299 = .ok (.iconst 3, 1) := by decide +kernel
theorem ndD_sortOf_300 : decode ncD_sortOf 300 = .ok (.goto 4, 3) := by decide +kernel
theorem ndD_sortOf_303 : decode ncD_sortOf 303 = .ok (.iconst 0, 1) := by decide +kernel
theorem ndD_sortOf_304 : decode ncD_sortOf 304 = .ok (.ireturn, 1) := by decide +kernel
theorem ndD_sortOf_305 : decode ncD_sortOf 305 = .ok (.iload 4, 2) := by decide +kernel
theorem ndD_sortOf_307 : decode ncD_sortOf 307 = .ok (.ifCond .ne 7, 3) := by decide +kernel
theorem ndD_sortOf_310 : decode ncD_sortOf 310 = .ok (.iconst 3, 1) := by decide +kernel
theorem ndD_sortOf_311 : decode ncD_sortOf 311 = .ok (.goto 15, 3) := by decide +kernel
theorem ndD_sortOf_314 : decode ncD_sortOf 314 = .ok (.iload 4, 2) := by decide +kernel
theorem ndD_sortOf_316 : decode ncD_sortOf 316 = .ok (.iconst 1, 1) := by decide +kernel
theorem ndD_sortOf_317 : decode ncD_sortOf 317 = .ok (.if_icmp .ne 8, 3) := by decide +kernel
theorem ndD_sortOf_320 : decode ncD_sortOf 320 = .ok (.bipush 7, 2) := by decide +kernel
theorem ndD_sortOf_322 : decode ncD_sortOf 322 = .ok (.goto 4, 3) := by decide +kernel
theorem ndD_sortOf_325 : decode ncD_sortOf 325 = .ok (.iconst 0, 1) := by decide +kernel
theorem ndD_sortOf_326 : decode ncD_sortOf 326 = .ok (.ireturn, 1) := by decide +kernel
theorem ndD_sortOf_327 : decode ncD_sortOf 327 = .ok (.iload 4, 2) := by decide +kernel
theorem ndD_sortOf_329 : decode ncD_sortOf 329 = .ok (.ifCond .ne 7, 3) := by decide +kernel
theorem ndD_sortOf_332 : decode ncD_sortOf 332 = .ok (.iconst 1, 1) := by decide +kernel
theorem ndD_sortOf_333 : decode ncD_sortOf 333 = .ok (.goto 14, 3) := by decide +kernel
theorem ndD_sortOf_336 : decode ncD_sortOf 336 = .ok (.iload 4, 2) := by decide +kernel
theorem ndD_sortOf_338 : decode ncD_sortOf 338 = .ok (.iconst 1, 1) := by decide +kernel
theorem ndD_sortOf_339 : decode ncD_sortOf 339 = .ok (.if_icmp .ne 7, 3) := by decide +kernel
theorem ndD_sortOf_342 : decode ncD_sortOf 342 = .ok (.iconst 4, 1) := by decide +kernel
theorem ndD_sortOf_343 : decode ncD_sortOf 343 = .ok (.goto 4, 3) := by decide +kernel
theorem ndD_sortOf_346 : decode ncD_sortOf 346 = .ok (.iconst 0, 1) := by decide +kernel
theorem ndD_sortOf_347 : decode ncD_sortOf 347 = .ok (.ireturn, 1) := by decide +kernel
theorem ndD_sortOf_348 : decode ncD_sortOf 348 = .ok (.iload 4, 2) := by decide +kernel
theorem ndD_sortOf_350 : decode ncD_sortOf 350 = .ok (.ifCond .ne 7, 3) := by decide +kernel
theorem ndD_sortOf_353 : decode ncD_sortOf 353 = .ok (.iconst 2, 1) := by decide +kernel
theorem ndD_sortOf_354 : decode ncD_sortOf 354 = .ok (.goto 14, 3) := by decide +kernel
theorem ndD_sortOf_357 : decode ncD_sortOf 357 = .ok (.iload 4, 2) := by decide +kernel
theorem ndD_sortOf_359 : decode ncD_sortOf 359 = .ok (.iconst 1, 1) := by decide +kernel
theorem ndD_sortOf_360 : decode ncD_sortOf 360 = .ok (.if_icmp .ne 7, 3) := by decide +kernel
theorem ndD_sortOf_363 : decode ncD_sortOf 363 = .ok (.iconst 4, 1) := by decide +kernel
theorem ndD_sortOf_364 : decode ncD_sortOf 364 = .ok (.goto 4, 3) := by decide +kernel
theorem ndD_sortOf_367 : decode ncD_sortOf 367 = .ok (.iconst 0, 1) := by decide +kernel
theorem ndD_sortOf_368 : decode ncD_sortOf 368 = .ok (.ireturn, 1) := by decide +kernel
theorem ndD_sortOf_369 : decode ncD_sortOf 369 = .ok (.iconst 0, 1) := by decide +kernel
theorem ndD_sortOf_370 : decode ncD_sortOf 370 = .ok (.ireturn, 1) := by decide +kernel
theorem ndD_width_0 : decode ncD_width 0 = .ok (.iload_n 0, 1) := by decide +kernel
theorem ndD_width_1 : decode ncD_width 1 = .ok (.tableswitch 51 1 6 #[39, 41, 43, 46, 51, 49], 39) := by decide +kernel
theorem ndD_width_40 : decode ncD_width 40 = .ok (.iconst 4, 1) := by decide +kernel
theorem ndD_width_41 : decode ncD_width 41 = .ok (.ireturn, 1) := by decide +kernel
theorem ndD_width_42 : decode ncD_width 42 = .ok (.iconst 3, 1) := by decide +kernel
theorem ndD_width_43 : decode ncD_width 43 = .ok (.ireturn, 1) := by decide +kernel
theorem ndD_width_44 : decode ncD_width 44 = .ok (.bipush 8, 2) := by decide +kernel
theorem ndD_width_46 : decode ncD_width 46 = .ok (.ireturn, 1) := by decide +kernel
theorem ndD_width_47 : decode ncD_width 47 = .ok (.bipush 15, 2) := by decide +kernel
theorem ndD_width_49 : decode ncD_width 49 = .ok (.ireturn, 1) := by decide +kernel
theorem ndD_width_50 : decode ncD_width 50 = .ok (.iconst 2, 1) := by decide +kernel
theorem ndD_width_51 : decode ncD_width 51 = .ok (.ireturn, 1) := by decide +kernel
theorem ndD_width_52 : decode ncD_width 52 = .ok (.iconst 1, 1) := by decide +kernel
theorem ndD_width_53 : decode ncD_width 53 = .ok (.ireturn, 1) := by decide +kernel
theorem ndD_isSign_0 : decode ncD_isSign 0 = .ok (.iload_n 0, 1) := by decide +kernel
theorem ndD_isSign_1 : decode ncD_isSign 1 = .ok (.bipush 48, 2) := by decide +kernel
theorem ndD_isSign_3 : decode ncD_isSign 3 = .ok (.if_icmp .lt 9, 3) := by decide +kernel
theorem ndD_isSign_6 : decode ncD_isSign 6 = .ok (.iload_n 0, 1) := by decide +kernel
theorem ndD_isSign_7 : decode ncD_isSign 7 = .ok (.bipush 57, 2) := by decide +kernel
theorem ndD_isSign_9 : decode ncD_isSign 9 = .ok (.if_icmp .le 15, 3) := by decide +kernel
theorem ndD_isSign_12 : decode ncD_isSign 12 = .ok (.iload_n 0, 1) := by decide +kernel
theorem ndD_isSign_13 : decode ncD_isSign 13 = .ok (.bipush 65, 2) := by decide +kernel
theorem ndD_isSign_15 : decode ncD_isSign 15 = .ok (.if_icmp .lt 13, 3) := by decide +kernel
theorem ndD_isSign_18 : decode ncD_isSign 18 = .ok (.iload_n 0, 1) := by decide +kernel
theorem ndD_isSign_19 : decode ncD_isSign 19 = .ok (.bipush 90, 2) := by decide +kernel
theorem ndD_isSign_21 : decode ncD_isSign 21 = .ok (.if_icmp .gt 7, 3) := by decide +kernel
theorem ndD_isSign_24 : decode ncD_isSign 24 = .ok (.iconst 1, 1) := by decide +kernel
theorem ndD_isSign_25 : decode ncD_isSign 25 = .ok (.goto 4, 3) := by decide +kernel
theorem ndD_isSign_28 : decode ncD_isSign 28 = .ok (.iconst 0, 1) := by decide +kernel
theorem ndD_isSign_29 : decode ncD_isSign 29 = .ok (.ireturn, 1) := by decide +kernel
theorem ndD_valueOf_0 : decode ncD_valueOf 0 = .ok (.iload_n 0, 1) := by decide +kernel
theorem ndD_valueOf_1 : decode ncD_valueOf 1 = .ok (.bipush 57, 2) := by decide +kernel
theorem ndD_valueOf_3 : decode ncD_valueOf 3 = .ok (.if_icmp .gt 10, 3) := by decide +kernel
theorem ndD_valueOf_6 : decode ncD_valueOf 6 = .ok (.iload_n 0, 1) := by decide +kernel
theorem ndD_valueOf_7 : decode ncD_valueOf 7 = .ok (.bipush 48, 2) := by decide +kernel
theorem ndD_valueOf_9 : decode ncD_valueOf 9 = .ok (.isub, 1) := by decide +kernel
theorem ndD_valueOf_10 : decode ncD_valueOf 10 = .ok (.goto 10, 3) := by decide +kernel
theorem ndD_valueOf_13 : decode ncD_valueOf 13 = .ok (.iload_n 0, 1) := by decide +kernel
theorem ndD_valueOf_14 : decode ncD_valueOf 14 = .ok (.bipush 65, 2) := by decide +kernel
theorem ndD_valueOf_16 : decode ncD_valueOf 16 = .ok (.isub, 1) := by decide +kernel
theorem ndD_valueOf_17 : decode ncD_valueOf 17 = .ok (.bipush 10, 2) := by decide +kernel
theorem ndD_valueOf_19 : decode ncD_valueOf 19 = .ok (.iadd, 1) := by decide +kernel
theorem ndD_valueOf_20 : decode ncD_valueOf 20 = .ok (.ireturn, 1) := by decide +kernel
theorem ndD_fits_0 : decode ncD_fits 0 = .ok (.iload_n 0, 1) := by decide +kernel
theorem ndD_fits_1 : decode ncD_fits 1 = .ok (.tableswitch 111 1 7 #[43, 43, 43, 48, 75, 48, 93], 43) := by decide +kernel
theorem ndD_fits_44 : decode ncD_fits 44 = .ok (.iload_n 1, 1) := by decide +kernel
theorem ndD_fits_45 : decode ncD_fits 45 = .ok (.invokestatic 25, 3) := by decide +kernel
theorem ndD_fits_48 : decode ncD_fits 48 = .ok (.ireturn, 1) := by decide +kernel
theorem ndD_fits_49 : decode ncD_fits 49 = .ok (.iload_n 1, 1) := by decide +kernel
theorem ndD_fits_50 : decode ncD_fits 50 = .ok (.bipush 48, 2) := by decide +kernel
theorem ndD_fits_52 : decode ncD_fits 52 = .ok (.if_icmp .lt 22, 3) := by decide +kernel
theorem ndD_fits_55 : decode ncD_fits 55 = .ok (.iload_n 1, 1) := by decide +kernel
theorem ndD_fits_56 : decode ncD_fits 56 = .ok (.iload_n 2, 1) := by decide +kernel
theorem ndD_fits_57 : decode ncD_fits 57 = .ok (.ifCond .eq 8, 3) := by decide +kernel
theorem ndD_fits_60 : decode ncD_fits 60 = .ok (.bipush 48, 2) := by decide +kernel
theorem ndD_fits_62 : decode ncD_fits 62 = .ok (.goto 5, 3) := by decide +kernel
theorem ndD_fits_65 : decode ncD_fits 65 = .ok (.bipush 57, 2) := by decide +kernel
theorem ndD_fits_67 : decode ncD_fits 67 = .ok (.if_icmp .gt 7, 3) := by decide +kernel
theorem ndD_fits_70 : decode ncD_fits 70 = .ok (.iconst 1, 1) := by decide +kernel
theorem ndD_fits_71 : decode ncD_fits 71 = .ok (.goto 4, 3) := by decide +kernel
theorem ndD_fits_74 : decode ncD_fits 74 = .ok (.iconst 0, 1) := by decide +kernel
theorem ndD_fits_75 : decode ncD_fits 75 = .ok (.ireturn, 1) := by decide +kernel
theorem ndD_fits_76 : decode ncD_fits 76 = .ok (.iload_n 1, 1) := by decide +kernel
theorem ndD_fits_77 : decode ncD_fits 77 = .ok (.bipush 67, 2) := by decide +kernel
theorem ndD_fits_79 : decode ncD_fits 79 = .ok (.if_icmp .eq 9, 3) := by decide +kernel
theorem ndD_fits_82 : decode ncD_fits 82 = .ok (.iload_n 1, 1) := by decide +kernel
theorem ndD_fits_83 : decode ncD_fits 83 = .ok (.bipush 83, 2) := by decide +kernel
theorem ndD_fits_85 : decode ncD_fits 85 = .ok (.if_icmp .ne 7, 3) := by decide +kernel
theorem ndD_fits_88 : decode ncD_fits 88 = .ok (.iconst 1, 1) := by decide +kernel
theorem ndD_fits_89 : decode ncD_fits 89 = .ok (.goto 4, 3) := by decide +kernel
theorem ndD_fits_92 : decode ncD_fits 92 = .ok (.iconst 0, 1) := by decide +kernel
theorem ndD_fits_93 : decode ncD_fits 93 = .ok (.ireturn, 1) := by decide +kernel
theorem ndD_fits_94 : decode ncD_fits 94 = .ok (.iload_n 1, 1) := by decide +kernel
theorem ndD_fits_95 : decode ncD_fits 95 = .ok (.bipush 49, 2) := by decide +kernel
theorem ndD_fits_97 : decode ncD_fits 97 = .ok (.if_icmp .lt 13, 3) := by decide +kernel
theorem ndD_fits_100 : decode ncD_fits 100 = .ok (.iload_n 1, 1) := by decide +kernel
theorem ndD_fits_101 : decode ncD_fits 101 = .ok (.bipush 57, 2) := by decide +kernel
theorem ndD_fits_103 : decode ncD_fits 103 = .ok (.if_icmp .gt 7, 3) := by decide +kernel
theorem ndD_fits_106 : decode ncD_fits 106 = .ok (.iconst 1, 1) := by decide +kernel
theorem ndD_fits_107 : decode ncD_fits 107 = .ok (.goto 4, 3) := by decide +kernel
theorem ndD_fits_110 : decode ncD_fits 110 = .ok (.iconst 0, 1) := by decide +kernel
theorem ndD_fits_111 : decode ncD_fits 111 = .ok (.ireturn, 1) := by decide +kernel
theorem ndD_fits_112 : decode ncD_fits 112 = .ok (.iload_n 1, 1) := by decide +kernel
theorem ndD_fits_113 : decode ncD_fits 113 = .ok (.bipush 49, 2) := by decide +kernel
theorem ndD_fits_115 : decode ncD_fits 115 = .ok (.if_icmp .lt 13, 3) := by decide +kernel
theorem ndD_fits_118 : decode ncD_fits 118 = .ok (.iload_n 1, 1) := by decide +kernel
theorem ndD_fits_119 : decode ncD_fits 119 = .ok (.bipush 52, 2) := by decide +kernel
theorem ndD_fits_121 : decode ncD_fits 121 = .ok (.if_icmp .gt 7, 3) := by decide +kernel
theorem ndD_fits_124 : decode ncD_fits 124 = .ok (.iconst 1, 1) := by decide +kernel
theorem ndD_fits_125 : decode ncD_fits 125 = .ok (.goto 4, 3) := by decide +kernel
theorem ndD_fits_128 : decode ncD_fits 128 = .ok (.iconst 0, 1) := by decide +kernel
theorem ndD_fits_129 : decode ncD_fits 129 = .ok (.ireturn, 1) := by decide +kernel
