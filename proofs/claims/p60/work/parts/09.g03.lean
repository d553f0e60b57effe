theorem dL_alike_31 : decode cL_alike 31 = .ok (.goto (-20), 3) := by decide +kernel
theorem dL_alike_34 : decode cL_alike 34 = .ok (.iconst 1, 1) := by decide +kernel
theorem dL_alike_35 : decode cL_alike 35 = .ok (.ireturn, 1) := by decide +kernel
theorem dL_isBench_0 : decode cL_isBench 0 = .ok (.iconst 0, 1) := by decide +kernel
theorem dL_isBench_1 : decode cL_isBench 1 = .ok (.istore_n 1, 1) := by decide +kernel
theorem dL_isBench_2 : decode cL_isBench 2 = .ok (.iconst 0, 1) := by decide +kernel
theorem dL_isBench_3 : decode cL_isBench 3 = .ok (.istore_n 2, 1) := by decide +kernel
theorem dL_isBench_4 : decode cL_isBench 4 = .ok (.iload_n 2, 1) := by decide +kernel
theorem dL_isBench_5 : decode cL_isBench 5 = .ok (.aload_n 0, 1) := by decide +kernel
theorem dL_isBench_6 : decode cL_isBench 6 = .ok (.invokevirtual 30, 3) := by decide +kernel
theorem dL_isBench_9 : decode cL_isBench 9 = .ok (.if_icmp .ge 535, 3) := by decide +kernel
theorem dL_isBench_12 : decode cL_isBench 12 = .ok (.aload_n 0, 1) := by decide +kernel
theorem dL_isBench_13 : decode cL_isBench 13 = .ok (.iload_n 2, 1) := by decide +kernel
theorem dL_isBench_14 : decode cL_isBench 14 = .ok (.invokevirtual 33, 3) := by decide +kernel
theorem dL_isBench_17 : decode cL_isBench 17 = .ok (.istore_n 3, 1) := by decide +kernel
theorem dL_isBench_18 : decode cL_isBench 18 = .ok (.iconst 0, 1) := by decide +kernel
theorem dL_isBench_19 : decode cL_isBench 19 = .ok (.istore 4, 2) := by decide +kernel
theorem dL_isBench_21 : decode cL_isBench 21 = .ok (.iconst 0, 1) := by decide +kernel
theorem dL_isBench_22 : decode cL_isBench 22 = .ok (.istore 5, 2) := by decide +kernel
theorem dL_isBench_24 : decode cL_isBench 24 = .ok (.iconst 0, 1) := by decide +kernel
theorem dL_isBench_25 : decode cL_isBench 25 = .ok (.istore 6, 2) := by decide +kernel
theorem dL_isBench_27 : decode cL_isBench 27 = .ok (.aload_n 0, 1) := by decide +kernel
theorem dL_isBench_28 : decode cL_isBench 28 = .ok (.iload_n 2, 1) := by decide +kernel
theorem dL_isBench_29 : decode cL_isBench 29 = .ok (.aload_n 0, 1) := by decide +kernel
theorem dL_isBench_30 : decode cL_isBench 30 = .ok (.iload_n 2, 1) := by decide +kernel
theorem dL_isBench_31 : decode cL_isBench 31 = .ok (.invokevirtual 76, 3) := by decide +kernel
theorem dL_isBench_34 : decode cL_isBench 34 = .ok (.invokevirtual 72, 3) := by decide +kernel
theorem dL_isBench_37 : decode cL_isBench 37 = .ok (.istore 7, 2) := by decide +kernel
theorem dL_isBench_39 : decode cL_isBench 39 = .ok (.aload_n 0, 1) := by decide +kernel
theorem dL_isBench_40 : decode cL_isBench 40 = .ok (.iload_n 2, 1) := by decide +kernel
theorem dL_isBench_41 : decode cL_isBench 41 = .ok (.aload_n 0, 1) := by decide +kernel
theorem dL_isBench_42 : decode cL_isBench 42 = .ok (.iload_n 2, 1) := by decide +kernel
theorem dL_isBench_43 : decode cL_isBench 43 = .ok (.invokevirtual 79, 3) := by decide +kernel
theorem dL_isBench_46 : decode cL_isBench 46 = .ok (.invokevirtual 72, 3) := by decide +kernel
theorem dL_isBench_49 : decode cL_isBench 49 = .ok (.istore 8, 2) := by decide +kernel
theorem dL_isBench_51 : decode cL_isBench 51 = .ok (.iload_n 1, 1) := by decide +kernel
theorem dL_isBench_52 : decode cL_isBench 52 = .ok (.aload_n 0, 1) := by decide +kernel
theorem dL_isBench_53 : decode cL_isBench 53 = .ok (.iload_n 2, 1) := by decide +kernel
theorem dL_isBench_54 : decode cL_isBench 54 = .ok (.invokevirtual 65, 3) := by decide +kernel
theorem dL_isBench_57 : decode cL_isBench 57 = .ok (.ifCond .eq 7, 3) := by decide +kernel
theorem dL_isBench_60 : decode cL_isBench 60 = .ok (.iconst 1, 1) := by decide +kernel
theorem dL_isBench_61 : decode cL_isBench 61 = .ok (.goto 4, 3) := by decide +kernel
theorem dL_isBench_64 : decode cL_isBench 64 = .ok (.iconst 0, 1) := by decide +kernel
theorem dL_isBench_65 : decode cL_isBench 65 = .ok (.iadd, 1) := by decide +kernel
theorem dL_isBench_66 : decode cL_isBench 66 = .ok (.istore_n 1, 1) := by decide +kernel
theorem dL_isBench_67 : decode cL_isBench 67 = .ok (.iconst 0, 1) := by decide +kernel
theorem dL_isBench_68 : decode cL_isBench 68 = .ok (.istore 9, 2) := by decide +kernel
theorem dL_isBench_70 : decode cL_isBench 70 = .ok (.iload 9, 2) := by decide +kernel
theorem dL_isBench_72 : decode cL_isBench 72 = .ok (.iload_n 3, 1) := by decide +kernel
theorem dL_isBench_73 : decode cL_isBench 73 = .ok (.if_icmp .ge 88, 3) := by decide +kernel
theorem dL_isBench_76 : decode cL_isBench 76 = .ok (.aload_n 0, 1) := by decide +kernel
theorem dL_isBench_77 : decode cL_isBench 77 = .ok (.iload_n 2, 1) := by decide +kernel
theorem dL_isBench_78 : decode cL_isBench 78 = .ok (.iload 9, 2) := by decide +kernel
theorem dL_isBench_80 : decode cL_isBench 80 = .ok (.invokevirtual 72, 3) := by decide +kernel
theorem dL_isBench_83 : decode cL_isBench 83 = .ok (.istore 10, 2) := by decide +kernel
theorem dL_isBench_85 : decode cL_isBench 85 = .ok (.iload 4, 2) := by decide +kernel
theorem dL_isBench_87 : decode cL_isBench 87 = .ok (.iload 10, 2) := by decide +kernel
theorem dL_isBench_89 : decode cL_isBench 89 = .ok (.iadd, 1) := by decide +kernel
theorem dL_isBench_90 : decode cL_isBench 90 = .ok (.istore 4, 2) := by decide +kernel
theorem dL_isBench_92 : decode cL_isBench 92 = .ok (.iload 5, 2) := by decide +kernel
theorem dL_isBench_94 : decode cL_isBench 94 = .ok (.aload_n 0, 1) := by decide +kernel
theorem dL_isBench_95 : decode cL_isBench 95 = .ok (.iload_n 2, 1) := by decide +kernel
theorem dL_isBench_96 : decode cL_isBench 96 = .ok (.iload 9, 2) := by decide +kernel
theorem dL_isBench_98 : decode cL_isBench 98 = .ok (.invokevirtual 68, 3) := by decide +kernel
theorem dL_isBench_101 : decode cL_isBench 101 = .ok (.ifCond .eq 8, 3) := by decide +kernel
theorem dL_isBench_104 : decode cL_isBench 104 = .ok (.iload 10, 2) := by decide +kernel
theorem dL_isBench_106 : decode cL_isBench 106 = .ok (.goto 4, 3) := by decide +kernel
theorem dL_isBench_109 : decode cL_isBench 109 = .ok (.iconst 0, 1) := by decide +kernel
theorem dL_isBench_110 : decode cL_isBench 110 = .ok (.iadd, 1) := by decide +kernel
theorem dL_isBench_111 : decode cL_isBench 111 = .ok (.istore 5, 2) := by decide +kernel
theorem dL_isBench_113 : decode cL_isBench 113 = .ok (.iload 6, 2) := by decide +kernel
theorem dL_isBench_115 : decode cL_isBench 115 = .ok (.aload_n 0, 1) := by decide +kernel
theorem dL_isBench_116 : decode cL_isBench 116 = .ok (.iload_n 2, 1) := by decide +kernel
theorem dL_isBench_117 : decode cL_isBench 117 = .ok (.iload 9, 2) := by decide +kernel
theorem dL_isBench_119 : decode cL_isBench 119 = .ok (.invokevirtual 68, 3) := by decide +kernel
theorem dL_isBench_122 : decode cL_isBench 122 = .ok (.ifCond .eq 7, 3) := by decide +kernel
theorem dL_isBench_125 : decode cL_isBench 125 = .ok (.iconst 1, 1) := by decide +kernel
theorem dL_isBench_126 : decode cL_isBench 126 = .ok (.goto 4, 3) := by decide +kernel
theorem dL_isBench_129 : decode cL_isBench 129 = .ok (.iconst 0, 1) := by decide +kernel
theorem dL_isBench_130 : decode cL_isBench 130 = .ok (.iadd, 1) := by decide +kernel
theorem dL_isBench_131 : decode cL_isBench 131 = .ok (.istore 6, 2) := by decide +kernel
theorem dL_isBench_133 : decode cL_isBench 133 = .ok (.iload 10, 2) := by decide +kernel
theorem dL_isBench_135 : decode cL_isBench 135 = .ok (.iload 7, 2) := by decide +kernel
theorem dL_isBench_137 : decode cL_isBench 137 = .ok (.if_icmp .lt 16, 3) := by decide +kernel
theorem dL_isBench_140 : decode cL_isBench 140 = .ok (.iload 10, 2) := by decide +kernel
theorem dL_isBench_142 : decode cL_isBench 142 = .ok (.iload 8, 2) := by decide +kernel
theorem dL_isBench_144 : decode cL_isBench 144 = .ok (.if_icmp .gt 9, 3) := by decide +kernel
theorem dL_isBench_147 : decode cL_isBench 147 = .ok (.iload 10, 2) := by decide +kernel
theorem dL_isBench_149 : decode cL_isBench 149 = .ok (.iconst 1, 1) := by decide +kernel
theorem dL_isBench_150 : decode cL_isBench 150 = .ok (.if_icmp .ge 5, 3) := by decide +kernel
theorem dL_isBench_153 : decode cL_isBench 153 = .ok (.iconst 0, 1) := by decide +kernel
theorem dL_isBench_154 : decode cL_isBench 154 = .ok (.ireturn, 1) := by decide +kernel
theorem dL_isBench_155 : decode cL_isBench 155 = .ok (.iinc 9 1, 3) := by decide +kernel
theorem dL_isBench_158 : decode cL_isBench 158 = .ok (.goto (-88), 3) := by decide +kernel
theorem dL_isBench_161 : decode cL_isBench 161 = .ok (.aload_n 0, 1) := by decide +kernel
theorem dL_isBench_162 : decode cL_isBench 162 = .ok (.iload_n 2, 1) := by decide +kernel
theorem dL_isBench_163 : decode cL_isBench 163 = .ok (.invokevirtual 62, 3) := by decide +kernel
theorem dL_isBench_166 : decode cL_isBench 166 = .ok (.ifCond .ne 15, 3) := by decide +kernel
theorem dL_isBench_169 : decode cL_isBench 169 = .ok (.aload_n 0, 1) := by decide +kernel
theorem dL_isBench_170 : decode cL_isBench 170 = .ok (.iload_n 2, 1) := by decide +kernel
