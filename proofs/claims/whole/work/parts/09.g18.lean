/-! ===== decode rows: the law ===== -/
theorem dL_law_3104 : decode cL_law 3104 = .ok (.invokevirtual 166, 3) := by decide +kernel
theorem dL_law_3107 : decode cL_law 3107 = .ok (.iload 6, 2) := by decide +kernel
theorem dL_law_3109 : decode cL_law 3109 = .ok (.if_icmp .eq 5, 3) := by decide +kernel
theorem dL_law_3112 : decode cL_law 3112 = .ok (.iconst 0, 1) := by decide +kernel
theorem dL_law_3113 : decode cL_law 3113 = .ok (.ireturn, 1) := by decide +kernel
theorem dL_law_3114 : decode cL_law 3114 = .ok (.iload 6, 2) := by decide +kernel
theorem dL_law_3116 : decode cL_law 3116 = .ok (.ifCond .ne 15, 3) := by decide +kernel
theorem dL_law_3119 : decode cL_law 3119 = .ok (.aload_n 3, 1) := by decide +kernel
theorem dL_law_3120 : decode cL_law 3120 = .ok (.iconst 0, 1) := by decide +kernel
theorem dL_law_3121 : decode cL_law 3121 = .ok (.laload, 1) := by decide +kernel
theorem dL_law_3122 : decode cL_law 3122 = .ok (.iload 7, 2) := by decide +kernel
theorem dL_law_3124 : decode cL_law 3124 = .ok (.i2l, 1) := by decide +kernel
theorem dL_law_3125 : decode cL_law 3125 = .ok (.lcmp, 1) := by decide +kernel
theorem dL_law_3126 : decode cL_law 3126 = .ok (.ifCond .eq 5, 3) := by decide +kernel
theorem dL_law_3129 : decode cL_law 3129 = .ok (.iconst 0, 1) := by decide +kernel
theorem dL_law_3130 : decode cL_law 3130 = .ok (.ireturn, 1) := by decide +kernel
theorem dL_law_3131 : decode cL_law 3131 = .ok (.goto 3, 3) := by decide +kernel
theorem dL_law_3134 : decode cL_law 3134 = .ok (.iinc 5 6, 3) := by decide +kernel
theorem dL_law_3137 : decode cL_law 3137 = .ok (.goto (-3109), 3) := by decide +kernel
theorem dL_law_3140 : decode cL_law 3140 = .ok (.iconst 1, 1) := by decide +kernel
theorem dL_law_3141 : decode cL_law 3141 = .ok (.ireturn, 1) := by decide +kernel
