theorem dX10_init_0 : decode cX10_init 0 = .ok (.aload_n 0, 1) := by decide +kernel
theorem dX10_init_1 : decode cX10_init 1 = .ok (.invokespecial 3, 3) := by decide +kernel
theorem dX10_init_4 : decode cX10_init 4 = .ok (.aload_n 0, 1) := by decide +kernel
theorem dX10_init_5 : decode cX10_init 5 = .ok (.iconst 0, 1) := by decide +kernel
theorem dX10_init_6 : decode cX10_init 6 = .ok (.newarray .int, 2) := by decide +kernel
theorem dX10_init_8 : decode cX10_init 8 = .ok (.putfield 9, 3) := by decide +kernel
theorem dX10_init_11 : decode cX10_init 11 = .ok (.aload_n 0, 1) := by decide +kernel
theorem dX10_init_12 : decode cX10_init 12 = .ok (.getstatic 15, 3) := by decide +kernel
theorem dX10_init_15 : decode cX10_init 15 = .ok (.putfield 21, 3) := by decide +kernel
theorem dX10_init_18 : decode cX10_init 18 = .ok (.return_, 1) := by decide +kernel
theorem dX10_isSeparator_0 : decode cX10_isSeparator 0 = .ok (.iload_n 0, 1) := by decide +kernel
theorem dX10_isSeparator_1 : decode cX10_isSeparator 1 = .ok (.bipush 32, 2) := by decide +kernel
theorem dX10_isSeparator_3 : decode cX10_isSeparator 3 = .ok (.if_icmp .eq 9, 3) := by decide +kernel
theorem dX10_isSeparator_6 : decode cX10_isSeparator 6 = .ok (.iload_n 0, 1) := by decide +kernel
theorem dX10_isSeparator_7 : decode cX10_isSeparator 7 = .ok (.bipush 10, 2) := by decide +kernel
theorem dX10_isSeparator_9 : decode cX10_isSeparator 9 = .ok (.if_icmp .ne 7, 3) := by decide +kernel
theorem dX10_isSeparator_12 : decode cX10_isSeparator 12 = .ok (.iconst 1, 1) := by decide +kernel
theorem dX10_isSeparator_13 : decode cX10_isSeparator 13 = .ok (.goto 4, 3) := by decide +kernel
theorem dX10_isSeparator_16 : decode cX10_isSeparator 16 = .ok (.iconst 0, 1) := by decide +kernel
theorem dX10_isSeparator_17 : decode cX10_isSeparator 17 = .ok (.ireturn, 1) := by decide +kernel
theorem dX10_isLetter_0 : decode cX10_isLetter 0 = .ok (.iload_n 0, 1) := by decide +kernel
theorem dX10_isLetter_1 : decode cX10_isLetter 1 = .ok (.bipush 97, 2) := by decide +kernel
theorem dX10_isLetter_3 : decode cX10_isLetter 3 = .ok (.if_icmp .lt 13, 3) := by decide +kernel
theorem dX10_isLetter_6 : decode cX10_isLetter 6 = .ok (.iload_n 0, 1) := by decide +kernel
theorem dX10_isLetter_7 : decode cX10_isLetter 7 = .ok (.bipush 122, 2) := by decide +kernel
theorem dX10_isLetter_9 : decode cX10_isLetter 9 = .ok (.if_icmp .gt 7, 3) := by decide +kernel
theorem dX10_isLetter_12 : decode cX10_isLetter 12 = .ok (.iconst 1, 1) := by decide +kernel
theorem dX10_isLetter_13 : decode cX10_isLetter 13 = .ok (.goto 4, 3) := by decide +kernel
theorem dX10_isLetter_16 : decode cX10_isLetter 16 = .ok (.iconst 0, 1) := by decide +kernel
theorem dX10_isLetter_17 : decode cX10_isLetter 17 = .ok (.ireturn, 1) := by decide +kernel
theorem dX10_isDigit_0 : decode cX10_isDigit 0 = .ok (.iload_n 0, 1) := by decide +kernel
theorem dX10_isDigit_1 : decode cX10_isDigit 1 = .ok (.bipush 48, 2) := by decide +kernel
theorem dX10_isDigit_3 : decode cX10_isDigit 3 = .ok (.if_icmp .lt 13, 3) := by decide +kernel
theorem dX10_isDigit_6 : decode cX10_isDigit 6 = .ok (.iload_n 0, 1) := by decide +kernel
theorem dX10_isDigit_7 : decode cX10_isDigit 7 = .ok (.bipush 57, 2) := by decide +kernel
theorem dX10_isDigit_9 : decode cX10_isDigit 9 = .ok (.if_icmp .gt 7, 3) := by decide +kernel
theorem dX10_isDigit_12 : decode cX10_isDigit 12 = .ok (.iconst 1, 1) := by decide +kernel
theorem dX10_isDigit_13 : decode cX10_isDigit 13 = .ok (.goto 4, 3) := by decide +kernel
theorem dX10_isDigit_16 : decode cX10_isDigit 16 = .ok (.iconst 0, 1) := by decide +kernel
theorem dX10_isDigit_17 : decode cX10_isDigit 17 = .ok (.ireturn, 1) := by decide +kernel
theorem dX10_advance_0 : decode cX10_advance 0 = .ok (.aload_n 0, 1) := by decide +kernel
theorem dX10_advance_1 : decode cX10_advance 1 = .ok (.getfield 34, 3) := by decide +kernel
theorem dX10_advance_4 : decode cX10_advance 4 = .ok (.aload_n 0, 1) := by decide +kernel
theorem dX10_advance_5 : decode cX10_advance 5 = .ok (.getfield 30, 3) := by decide +kernel
theorem dX10_advance_8 : decode cX10_advance 8 = .ok (.if_icmp .ge 31, 3) := by decide +kernel
theorem dX10_advance_11 : decode cX10_advance 11 = .ok (.aload_n 0, 1) := by decide +kernel
theorem dX10_advance_12 : decode cX10_advance 12 = .ok (.getfield 9, 3) := by decide +kernel
theorem dX10_advance_15 : decode cX10_advance 15 = .ok (.aload_n 0, 1) := by decide +kernel
theorem dX10_advance_16 : decode cX10_advance 16 = .ok (.getfield 34, 3) := by decide +kernel
theorem dX10_advance_19 : decode cX10_advance 19 = .ok (.iaload, 1) := by decide +kernel
theorem dX10_advance_20 : decode cX10_advance 20 = .ok (.invokestatic 40, 3) := by decide +kernel
theorem dX10_advance_23 : decode cX10_advance 23 = .ok (.ifCond .eq 16, 3) := by decide +kernel
theorem dX10_advance_26 : decode cX10_advance 26 = .ok (.aload_n 0, 1) := by decide +kernel
theorem dX10_advance_27 : decode cX10_advance 27 = .ok (.dup, 1) := by decide +kernel
theorem dX10_advance_28 : decode cX10_advance 28 = .ok (.getfield 34, 3) := by decide +kernel
theorem dX10_advance_31 : decode cX10_advance 31 = .ok (.iconst 1, 1) := by decide +kernel
theorem dX10_advance_32 : decode cX10_advance 32 = .ok (.iadd, 1) := by decide +kernel
theorem dX10_advance_33 : decode cX10_advance 33 = .ok (.putfield 34, 3) := by decide +kernel
theorem dX10_advance_36 : decode cX10_advance 36 = .ok (.goto (-36), 3) := by decide +kernel
theorem dX10_advance_39 : decode cX10_advance 39 = .ok (.aload_n 0, 1) := by decide +kernel
theorem dX10_advance_40 : decode cX10_advance 40 = .ok (.aload_n 0, 1) := by decide +kernel
theorem dX10_advance_41 : decode cX10_advance 41 = .ok (.getfield 34, 3) := by decide +kernel
theorem dX10_advance_44 : decode cX10_advance 44 = .ok (.putfield 44, 3) := by decide +kernel
theorem dX10_advance_47 : decode cX10_advance 47 = .ok (.aload_n 0, 1) := by decide +kernel
theorem dX10_advance_48 : decode cX10_advance 48 = .ok (.getfield 34, 3) := by decide +kernel
theorem dX10_advance_51 : decode cX10_advance 51 = .ok (.aload_n 0, 1) := by decide +kernel
theorem dX10_advance_52 : decode cX10_advance 52 = .ok (.getfield 30, 3) := by decide +kernel
theorem dX10_advance_55 : decode cX10_advance 55 = .ok (.if_icmp .lt 11, 3) := by decide +kernel
theorem dX10_advance_58 : decode cX10_advance 58 = .ok (.aload_n 0, 1) := by decide +kernel
theorem dX10_advance_59 : decode cX10_advance 59 = .ok (.getstatic 15, 3) := by decide +kernel
theorem dX10_advance_62 : decode cX10_advance 62 = .ok (.putfield 21, 3) := by decide +kernel
theorem dX10_advance_65 : decode cX10_advance 65 = .ok (.return_, 1) := by decide +kernel
theorem dX10_advance_66 : decode cX10_advance 66 = .ok (.aload_n 0, 1) := by decide +kernel
theorem dX10_advance_67 : decode cX10_advance 67 = .ok (.getfield 9, 3) := by decide +kernel
theorem dX10_advance_70 : decode cX10_advance 70 = .ok (.aload_n 0, 1) := by decide +kernel
theorem dX10_advance_71 : decode cX10_advance 71 = .ok (.getfield 34, 3) := by decide +kernel
theorem dX10_advance_74 : decode cX10_advance 74 = .ok (.iaload, 1) := by decide +kernel
theorem dX10_advance_75 : decode cX10_advance 75 = .ok (.istore_n 1, 1) := by decide +kernel
theorem dX10_advance_76 : decode cX10_advance 76 = .ok (.aload_n 0, 1) := by decide +kernel
theorem dX10_advance_77 : decode cX10_advance 77 = .ok (.dup, 1) := by decide +kernel
theorem dX10_advance_78 : decode cX10_advance 78 = .ok (.getfield 34, 3) := by decide +kernel
theorem dX10_advance_81 : decode cX10_advance 81 = .ok (.iconst 1, 1) := by decide +kernel
theorem dX10_advance_82 : decode cX10_advance 82 = .ok (.iadd, 1) := by decide +kernel
theorem dX10_advance_83 : decode cX10_advance 83 = .ok (.putfield 34, 3) := by decide +kernel
theorem dX10_advance_86 : decode cX10_advance 86 = .ok (.iload_n 1, 1) := by decide +kernel
theorem dX10_advance_87 : decode cX10_advance 87 = .ok (.invokestatic 47, 3) := by decide +kernel
theorem dX10_advance_90 : decode cX10_advance 90 = .ok (.ifCond .eq 49, 3) := by decide +kernel
theorem dX10_advance_93 : decode cX10_advance 93 = .ok (.aload_n 0, 1) := by decide +kernel
theorem dX10_advance_94 : decode cX10_advance 94 = .ok (.getstatic 50, 3) := by decide +kernel
theorem dX10_advance_97 : decode cX10_advance 97 = .ok (.putfield 21, 3) := by decide +kernel
theorem dX10_advance_100 : decode cX10_advance 100 = .ok (.aload_n 0, 1) := by decide +kernel
theorem dX10_advance_101 : decode cX10_advance 101 = .ok (.getfield 34, 3) := by decide +kernel
theorem dX10_advance_104 : decode cX10_advance 104 = .ok (.aload_n 0, 1) := by decide +kernel
theorem dX10_advance_105 : decode cX10_advance 105 = .ok (.getfield 30, 3) := by decide +kernel
theorem dX10_advance_108 : decode cX10_advance 108 = .ok (.if_icmp .ge 140, 3) := by decide +kernel
theorem dX10_advance_111 : decode cX10_advance 111 = .ok (.aload_n 0, 1) := by decide +kernel
theorem dX10_advance_112 : decode cX10_advance 112 = .ok (.getfield 9, 3) := by decide +kernel
theorem dX10_advance_115 : decode cX10_advance 115 = .ok (.aload_n 0, 1) := by decide +kernel
theorem dX10_advance_116 : decode cX10_advance 116 = .ok (.getfield 34, 3) := by decide +kernel
theorem dX10_advance_119 : decode cX10_advance 119 = .ok (.iaload, 1) := by decide +kernel
theorem dX10_advance_120 : decode cX10_advance 120 = .ok (.invokestatic 47, 3) := by decide +kernel
theorem dX10_advance_123 : decode cX10_advance 123 = .ok (.ifCond .eq 125, 3) := by decide +kernel
theorem dX10_advance_126 : decode cX10_advance 126 = .ok (.aload_n 0, 1) := by decide +kernel
theorem dX10_advance_127 : decode cX10_advance 127 = .ok (.dup, 1) := by decide +kernel
theorem dX10_advance_128 : decode cX10_advance 128 = .ok (.getfield 34, 3) := by decide +kernel
theorem dX10_advance_131 : decode cX10_advance 131 = .ok (.iconst 1, 1) := by decide +kernel
theorem dX10_advance_132 : decode cX10_advance 132 = .ok (.iadd, 1) := by decide +kernel
theorem dX10_advance_133 : decode cX10_advance 133 = .ok (.putfield 34, 3) := by decide +kernel
theorem dX10_advance_136 : decode cX10_advance 136 = .ok (.goto (-36), 3) := by decide +kernel
theorem dX10_advance_139 : decode cX10_advance 139 = .ok (.iload_n 1, 1) := by decide +kernel
theorem dX10_advance_140 : decode cX10_advance 140 = .ok (.invokestatic 53, 3) := by decide +kernel
theorem dX10_advance_143 : decode cX10_advance 143 = .ok (.ifCond .eq 86, 3) := by decide +kernel
theorem dX10_advance_146 : decode cX10_advance 146 = .ok (.aload_n 0, 1) := by decide +kernel
theorem dX10_advance_147 : decode cX10_advance 147 = .ok (.getstatic 56, 3) := by decide +kernel
theorem dX10_advance_150 : decode cX10_advance 150 = .ok (.putfield 21, 3) := by decide +kernel
theorem dX10_advance_153 : decode cX10_advance 153 = .ok (.aload_n 0, 1) := by decide +kernel
theorem dX10_advance_154 : decode cX10_advance 154 = .ok (.iload_n 1, 1) := by decide +kernel
theorem dX10_advance_155 : decode cX10_advance 155 = .ok (.bipush 48, 2) := by decide +kernel
theorem dX10_advance_157 : decode cX10_advance 157 = .ok (.isub, 1) := by decide +kernel
theorem dX10_advance_158 : decode cX10_advance 158 = .ok (.putfield 59, 3) := by decide +kernel
theorem dX10_advance_161 : decode cX10_advance 161 = .ok (.aload_n 0, 1) := by decide +kernel
theorem dX10_advance_162 : decode cX10_advance 162 = .ok (.getfield 34, 3) := by decide +kernel
theorem dX10_advance_165 : decode cX10_advance 165 = .ok (.aload_n 0, 1) := by decide +kernel
theorem dX10_advance_166 : decode cX10_advance 166 = .ok (.getfield 30, 3) := by decide +kernel
theorem dX10_advance_169 : decode cX10_advance 169 = .ok (.if_icmp .ge 79, 3) := by decide +kernel
theorem dX10_advance_172 : decode cX10_advance 172 = .ok (.aload_n 0, 1) := by decide +kernel
theorem dX10_advance_173 : decode cX10_advance 173 = .ok (.getfield 9, 3) := by decide +kernel
theorem dX10_advance_176 : decode cX10_advance 176 = .ok (.aload_n 0, 1) := by decide +kernel
theorem dX10_advance_177 : decode cX10_advance 177 = .ok (.getfield 34, 3) := by decide +kernel
theorem dX10_advance_180 : decode cX10_advance 180 = .ok (.iaload, 1) := by decide +kernel
theorem dX10_advance_181 : decode cX10_advance 181 = .ok (.invokestatic 53, 3) := by decide +kernel
theorem dX10_advance_184 : decode cX10_advance 184 = .ok (.ifCond .eq 64, 3) := by decide +kernel
theorem dX10_advance_187 : decode cX10_advance 187 = .ok (.aload_n 0, 1) := by decide +kernel
theorem dX10_advance_188 : decode cX10_advance 188 = .ok (.ldc 62, 2) := by decide +kernel
theorem dX10_advance_190 : decode cX10_advance 190 = .ok (.aload_n 0, 1) := by decide +kernel
theorem dX10_advance_191 : decode cX10_advance 191 = .ok (.getfield 59, 3) := by decide +kernel
theorem dX10_advance_194 : decode cX10_advance 194 = .ok (.bipush 10, 2) := by decide +kernel
theorem dX10_advance_196 : decode cX10_advance 196 = .ok (.imul, 1) := by decide +kernel
theorem dX10_advance_197 : decode cX10_advance 197 = .ok (.aload_n 0, 1) := by decide +kernel
theorem dX10_advance_198 : decode cX10_advance 198 = .ok (.getfield 9, 3) := by decide +kernel
theorem dX10_advance_201 : decode cX10_advance 201 = .ok (.aload_n 0, 1) := by decide +kernel
theorem dX10_advance_202 : decode cX10_advance 202 = .ok (.getfield 34, 3) := by decide +kernel
theorem dX10_advance_205 : decode cX10_advance 205 = .ok (.iaload, 1) := by decide +kernel
theorem dX10_advance_206 : decode cX10_advance 206 = .ok (.iadd, 1) := by decide +kernel
theorem dX10_advance_207 : decode cX10_advance 207 = .ok (.bipush 48, 2) := by decide +kernel
theorem dX10_advance_209 : decode cX10_advance 209 = .ok (.isub, 1) := by decide +kernel
theorem dX10_advance_210 : decode cX10_advance 210 = .ok (.invokestatic 24, 3) := by decide +kernel
theorem dX10_advance_213 : decode cX10_advance 213 = .ok (.putfield 59, 3) := by decide +kernel
theorem dX10_advance_216 : decode cX10_advance 216 = .ok (.aload_n 0, 1) := by decide +kernel
theorem dX10_advance_217 : decode cX10_advance 217 = .ok (.dup, 1) := by decide +kernel
theorem dX10_advance_218 : decode cX10_advance 218 = .ok (.getfield 34, 3) := by decide +kernel
theorem dX10_advance_221 : decode cX10_advance 221 = .ok (.iconst 1, 1) := by decide +kernel
theorem dX10_advance_222 : decode cX10_advance 222 = .ok (.iadd, 1) := by decide +kernel
theorem dX10_advance_223 : decode cX10_advance 223 = .ok (.putfield 34, 3) := by decide +kernel
theorem dX10_advance_226 : decode cX10_advance 226 = .ok (.goto (-65), 3) := by decide +kernel
theorem dX10_advance_229 : decode cX10_advance 229 = .ok (.aload_n 0, 1) := by decide +kernel
theorem dX10_advance_230 : decode cX10_advance 230 = .ok (.iload_n 1, 1) := by decide +kernel
theorem dX10_advance_231 : decode cX10_advance 231 = .ok (.bipush 59, 2) := by decide +kernel
theorem dX10_advance_233 : decode cX10_advance 233 = .ok (.if_icmp .ne 9, 3) := by decide +kernel
theorem dX10_advance_236 : decode cX10_advance 236 = .ok (.getstatic 63, 3) := by decide +kernel
theorem dX10_advance_239 : decode cX10_advance 239 = .ok (.goto 6, 3) := by decide +kernel
theorem dX10_advance_242 : decode cX10_advance 242 = .ok (.getstatic 66, 3) := by decide +kernel
theorem dX10_advance_245 : decode cX10_advance 245 = .ok (.putfield 21, 3) := by decide +kernel
theorem dX10_advance_248 : decode cX10_advance 248 = .ok (.return_, 1) := by decide +kernel
theorem dX10_begin_0 : decode cX10_begin 0 = .ok (.aload_n 0, 1) := by decide +kernel
theorem dX10_begin_1 : decode cX10_begin 1 = .ok (.aload_n 1, 1) := by decide +kernel
theorem dX10_begin_2 : decode cX10_begin 2 = .ok (.putfield 9, 3) := by decide +kernel
theorem dX10_begin_5 : decode cX10_begin 5 = .ok (.aload_n 0, 1) := by decide +kernel
theorem dX10_begin_6 : decode cX10_begin 6 = .ok (.iload_n 2, 1) := by decide +kernel
theorem dX10_begin_7 : decode cX10_begin 7 = .ok (.aload_n 1, 1) := by decide +kernel
theorem dX10_begin_8 : decode cX10_begin 8 = .ok (.arraylength, 1) := by decide +kernel
theorem dX10_begin_9 : decode cX10_begin 9 = .ok (.invokestatic 24, 3) := by decide +kernel
theorem dX10_begin_12 : decode cX10_begin 12 = .ok (.putfield 30, 3) := by decide +kernel
theorem dX10_begin_15 : decode cX10_begin 15 = .ok (.aload_n 0, 1) := by decide +kernel
theorem dX10_begin_16 : decode cX10_begin 16 = .ok (.iconst 0, 1) := by decide +kernel
theorem dX10_begin_17 : decode cX10_begin 17 = .ok (.putfield 34, 3) := by decide +kernel
theorem dX10_begin_20 : decode cX10_begin 20 = .ok (.aload_n 0, 1) := by decide +kernel
theorem dX10_begin_21 : decode cX10_begin 21 = .ok (.invokevirtual 37, 3) := by decide +kernel
theorem dX10_begin_24 : decode cX10_begin 24 = .ok (.return_, 1) := by decide +kernel
theorem dX10_isWord_0 : decode cX10_isWord 0 = .ok (.aload_n 0, 1) := by decide +kernel
theorem dX10_isWord_1 : decode cX10_isWord 1 = .ok (.getfield 21, 3) := by decide +kernel
theorem dX10_isWord_4 : decode cX10_isWord 4 = .ok (.getstatic 50, 3) := by decide +kernel
theorem dX10_isWord_7 : decode cX10_isWord 7 = .ok (.if_acmp .ne 19, 3) := by decide +kernel
theorem dX10_isWord_10 : decode cX10_isWord 10 = .ok (.aload_n 0, 1) := by decide +kernel
theorem dX10_isWord_11 : decode cX10_isWord 11 = .ok (.getfield 34, 3) := by decide +kernel
theorem dX10_isWord_14 : decode cX10_isWord 14 = .ok (.aload_n 0, 1) := by decide +kernel
theorem dX10_isWord_15 : decode cX10_isWord 15 = .ok (.getfield 44, 3) := by decide +kernel
theorem dX10_isWord_18 : decode cX10_isWord 18 = .ok (.isub, 1) := by decide +kernel
theorem dX10_isWord_19 : decode cX10_isWord 19 = .ok (.aload_n 1, 1) := by decide +kernel
theorem dX10_isWord_20 : decode cX10_isWord 20 = .ok (.invokevirtual 69, 3) := by decide +kernel
theorem dX10_isWord_23 : decode cX10_isWord 23 = .ok (.if_icmp .eq 5, 3) := by decide +kernel
theorem dX10_isWord_26 : decode cX10_isWord 26 = .ok (.iconst 0, 1) := by decide +kernel
theorem dX10_isWord_27 : decode cX10_isWord 27 = .ok (.ireturn, 1) := by decide +kernel
theorem dX10_isWord_28 : decode cX10_isWord 28 = .ok (.iconst 0, 1) := by decide +kernel
theorem dX10_isWord_29 : decode cX10_isWord 29 = .ok (.istore_n 2, 1) := by decide +kernel
theorem dX10_isWord_30 : decode cX10_isWord 30 = .ok (.iload_n 2, 1) := by decide +kernel
theorem dX10_isWord_31 : decode cX10_isWord 31 = .ok (.aload_n 1, 1) := by decide +kernel
theorem dX10_isWord_32 : decode cX10_isWord 32 = .ok (.invokevirtual 69, 3) := by decide +kernel
theorem dX10_isWord_35 : decode cX10_isWord 35 = .ok (.if_icmp .ge 30, 3) := by decide +kernel
theorem dX10_isWord_38 : decode cX10_isWord 38 = .ok (.aload_n 0, 1) := by decide +kernel
theorem dX10_isWord_39 : decode cX10_isWord 39 = .ok (.getfield 9, 3) := by decide +kernel
theorem dX10_isWord_42 : decode cX10_isWord 42 = .ok (.aload_n 0, 1) := by decide +kernel
theorem dX10_isWord_43 : decode cX10_isWord 43 = .ok (.getfield 44, 3) := by decide +kernel
theorem dX10_isWord_46 : decode cX10_isWord 46 = .ok (.iload_n 2, 1) := by decide +kernel
theorem dX10_isWord_47 : decode cX10_isWord 47 = .ok (.iadd, 1) := by decide +kernel
theorem dX10_isWord_48 : decode cX10_isWord 48 = .ok (.iaload, 1) := by decide +kernel
theorem dX10_isWord_49 : decode cX10_isWord 49 = .ok (.aload_n 1, 1) := by decide +kernel
theorem dX10_isWord_50 : decode cX10_isWord 50 = .ok (.iload_n 2, 1) := by decide +kernel
theorem dX10_isWord_51 : decode cX10_isWord 51 = .ok (.invokevirtual 74, 3) := by decide +kernel
theorem dX10_isWord_54 : decode cX10_isWord 54 = .ok (.if_icmp .eq 5, 3) := by decide +kernel
theorem dX10_isWord_57 : decode cX10_isWord 57 = .ok (.iconst 0, 1) := by decide +kernel
theorem dX10_isWord_58 : decode cX10_isWord 58 = .ok (.ireturn, 1) := by decide +kernel
theorem dX10_isWord_59 : decode cX10_isWord 59 = .ok (.iinc 2 1, 3) := by decide +kernel
theorem dX10_isWord_62 : decode cX10_isWord 62 = .ok (.goto (-32), 3) := by decide +kernel
theorem dX10_isWord_65 : decode cX10_isWord 65 = .ok (.iconst 1, 1) := by decide +kernel
theorem dX10_isWord_66 : decode cX10_isWord 66 = .ok (.ireturn, 1) := by decide +kernel
