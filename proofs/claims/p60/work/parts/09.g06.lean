theorem dL_isBench_557 : decode cL_isBench 557 = .ok (.goto 4, 3) := by decide +kernel
theorem dL_isBench_560 : decode cL_isBench 560 = .ok (.iconst 0, 1) := by decide +kernel
theorem dL_isBench_561 : decode cL_isBench 561 = .ok (.aload_n 0, 1) := by decide +kernel
theorem dL_isBench_562 : decode cL_isBench 562 = .ok (.invokevirtual 30, 3) := by decide +kernel
theorem dL_isBench_565 : decode cL_isBench 565 = .ok (.ifCond .ne 7, 3) := by decide +kernel
theorem dL_isBench_568 : decode cL_isBench 568 = .ok (.iconst 1, 1) := by decide +kernel
theorem dL_isBench_569 : decode cL_isBench 569 = .ok (.goto 4, 3) := by decide +kernel
theorem dL_isBench_572 : decode cL_isBench 572 = .ok (.iconst 0, 1) := by decide +kernel
theorem dL_isBench_573 : decode cL_isBench 573 = .ok (.if_icmp .ne 14, 3) := by decide +kernel
theorem dL_isBench_576 : decode cL_isBench 576 = .ok (.aload_n 0, 1) := by decide +kernel
theorem dL_isBench_577 : decode cL_isBench 577 = .ok (.invokevirtual 37, 3) := by decide +kernel
theorem dL_isBench_580 : decode cL_isBench 580 = .ok (.ifCond .lt 7, 3) := by decide +kernel
theorem dL_isBench_583 : decode cL_isBench 583 = .ok (.iconst 1, 1) := by decide +kernel
theorem dL_isBench_584 : decode cL_isBench 584 = .ok (.goto 4, 3) := by decide +kernel
theorem dL_isBench_587 : decode cL_isBench 587 = .ok (.iconst 0, 1) := by decide +kernel
theorem dL_isBench_588 : decode cL_isBench 588 = .ok (.ireturn, 1) := by decide +kernel
theorem dL_act_0 : decode cL_act 0 = .ok (.iload_n 1, 1) := by decide +kernel
theorem dL_act_1 : decode cL_act 1 = .ok (.bipush 24, 2) := by decide +kernel
theorem dL_act_3 : decode cL_act 3 = .ok (.invokestatic 128, 3) := by decide +kernel
theorem dL_act_6 : decode cL_act 6 = .ok (.istore_n 2, 1) := by decide +kernel
theorem dL_act_7 : decode cL_act 7 = .ok (.iload_n 1, 1) := by decide +kernel
theorem dL_act_8 : decode cL_act 8 = .ok (.iconst 4, 1) := by decide +kernel
theorem dL_act_9 : decode cL_act 9 = .ok (.ishr, 1) := by decide +kernel
theorem dL_act_10 : decode cL_act 10 = .ok (.istore_n 3, 1) := by decide +kernel
theorem dL_act_11 : decode cL_act 11 = .ok (.aload_n 0, 1) := by decide +kernel
theorem dL_act_12 : decode cL_act 12 = .ok (.invokevirtual 30, 3) := by decide +kernel
theorem dL_act_15 : decode cL_act 15 = .ok (.istore 4, 2) := by decide +kernel
theorem dL_act_17 : decode cL_act 17 = .ok (.iload 4, 2) := by decide +kernel
theorem dL_act_19 : decode cL_act 19 = .ok (.ifCond .ne 23, 3) := by decide +kernel
theorem dL_act_22 : decode cL_act 22 = .ok (.aload_n 0, 1) := by decide +kernel
theorem dL_act_23 : decode cL_act 23 = .ok (.iconst 1, 1) := by decide +kernel
theorem dL_act_24 : decode cL_act 24 = .ok (.iload_n 3, 1) := by decide +kernel
theorem dL_act_25 : decode cL_act 25 = .ok (.iconst 3, 1) := by decide +kernel
theorem dL_act_26 : decode cL_act 26 = .ok (.invokestatic 128, 3) := by decide +kernel
theorem dL_act_29 : decode cL_act 29 = .ok (.iadd, 1) := by decide +kernel
theorem dL_act_30 : decode cL_act 30 = .ok (.invokevirtual 131, 3) := by decide +kernel
theorem dL_act_33 : decode cL_act 33 = .ok (.ifCond .le 7, 3) := by decide +kernel
theorem dL_act_36 : decode cL_act 36 = .ok (.iconst 1, 1) := by decide +kernel
theorem dL_act_37 : decode cL_act 37 = .ok (.goto 4, 3) := by decide +kernel
theorem dL_act_40 : decode cL_act 40 = .ok (.iconst 0, 1) := by decide +kernel
theorem dL_act_41 : decode cL_act 41 = .ok (.ireturn, 1) := by decide +kernel
theorem dL_act_42 : decode cL_act 42 = .ok (.iload_n 3, 1) := by decide +kernel
theorem dL_act_43 : decode cL_act 43 = .ok (.iload 4, 2) := by decide +kernel
theorem dL_act_45 : decode cL_act 45 = .ok (.invokestatic 128, 3) := by decide +kernel
theorem dL_act_48 : decode cL_act 48 = .ok (.istore 5, 2) := by decide +kernel
theorem dL_act_50 : decode cL_act 50 = .ok (.aload_n 0, 1) := by decide +kernel
theorem dL_act_51 : decode cL_act 51 = .ok (.iload 5, 2) := by decide +kernel
theorem dL_act_53 : decode cL_act 53 = .ok (.invokevirtual 33, 3) := by decide +kernel
theorem dL_act_56 : decode cL_act 56 = .ok (.istore 6, 2) := by decide +kernel
theorem dL_act_58 : decode cL_act 58 = .ok (.aload_n 0, 1) := by decide +kernel
theorem dL_act_59 : decode cL_act 59 = .ok (.iload 5, 2) := by decide +kernel
theorem dL_act_61 : decode cL_act 61 = .ok (.invokevirtual 65, 3) := by decide +kernel
theorem dL_act_64 : decode cL_act 64 = .ok (.istore 7, 2) := by decide +kernel
theorem dL_act_66 : decode cL_act 66 = .ok (.iconst 2, 1) := by decide +kernel
theorem dL_act_67 : decode cL_act 67 = .ok (.iload_n 3, 1) := by decide +kernel
theorem dL_act_68 : decode cL_act 68 = .ok (.iconst 2, 1) := by decide +kernel
theorem dL_act_69 : decode cL_act 69 = .ok (.ishr, 1) := by decide +kernel
theorem dL_act_70 : decode cL_act 70 = .ok (.iconst 3, 1) := by decide +kernel
theorem dL_act_71 : decode cL_act 71 = .ok (.invokestatic 128, 3) := by decide +kernel
theorem dL_act_74 : decode cL_act 74 = .ok (.iadd, 1) := by decide +kernel
theorem dL_act_75 : decode cL_act 75 = .ok (.istore 8, 2) := by decide +kernel
theorem dL_act_77 : decode cL_act 77 = .ok (.iload_n 2, 1) := by decide +kernel
theorem dL_act_78 : decode cL_act 78 = .ok (.iconst 5, 1) := by decide +kernel
theorem dL_act_79 : decode cL_act 79 = .ok (.if_icmp .ge 187, 3) := by decide +kernel
theorem dL_act_82 : decode cL_act 82 = .ok (.iload 6, 2) := by decide +kernel
theorem dL_act_84 : decode cL_act 84 = .ok (.bipush 60, 2) := by decide +kernel
theorem dL_act_86 : decode cL_act 86 = .ok (.if_icmp .ge 180, 3) := by decide +kernel
theorem dL_act_89 : decode cL_act 89 = .ok (.aload_n 0, 1) := by decide +kernel
theorem dL_act_90 : decode cL_act 90 = .ok (.iload 5, 2) := by decide +kernel
theorem dL_act_92 : decode cL_act 92 = .ok (.iload 8, 2) := by decide +kernel
theorem dL_act_94 : decode cL_act 94 = .ok (.invokevirtual 116, 3) := by decide +kernel
theorem dL_act_97 : decode cL_act 97 = .ok (.ifCond .le 20, 3) := by decide +kernel
theorem dL_act_100 : decode cL_act 100 = .ok (.aload_n 0, 1) := by decide +kernel
theorem dL_act_101 : decode cL_act 101 = .ok (.iload 5, 2) := by decide +kernel
theorem dL_act_103 : decode cL_act 103 = .ok (.iload 8, 2) := by decide +kernel
theorem dL_act_105 : decode cL_act 105 = .ok (.invokevirtual 122, 3) := by decide +kernel
theorem dL_act_108 : decode cL_act 108 = .ok (.ifCond .ne 7, 3) := by decide +kernel
theorem dL_act_111 : decode cL_act 111 = .ok (.iconst 1, 1) := by decide +kernel
theorem dL_act_112 : decode cL_act 112 = .ok (.goto 4, 3) := by decide +kernel
theorem dL_act_115 : decode cL_act 115 = .ok (.iconst 0, 1) := by decide +kernel
theorem dL_act_116 : decode cL_act 116 = .ok (.ireturn, 1) := by decide +kernel
theorem dL_act_117 : decode cL_act 117 = .ok (.aload_n 0, 1) := by decide +kernel
theorem dL_act_118 : decode cL_act 118 = .ok (.iload 5, 2) := by decide +kernel
theorem dL_act_120 : decode cL_act 120 = .ok (.iload 8, 2) := by decide +kernel
theorem dL_act_122 : decode cL_act 122 = .ok (.invokevirtual 119, 3) := by decide +kernel
theorem dL_act_125 : decode cL_act 125 = .ok (.istore 9, 2) := by decide +kernel
theorem dL_act_127 : decode cL_act 127 = .ok (.aload_n 0, 1) := by decide +kernel
theorem dL_act_128 : decode cL_act 128 = .ok (.iload 5, 2) := by decide +kernel
theorem dL_act_130 : decode cL_act 130 = .ok (.invokevirtual 88, 3) := by decide +kernel
theorem dL_act_133 : decode cL_act 133 = .ok (.istore 10, 2) := by decide +kernel
theorem dL_act_135 : decode cL_act 135 = .ok (.aload_n 0, 1) := by decide +kernel
theorem dL_act_136 : decode cL_act 136 = .ok (.iload 5, 2) := by decide +kernel
theorem dL_act_138 : decode cL_act 138 = .ok (.iload 8, 2) := by decide +kernel
theorem dL_act_140 : decode cL_act 140 = .ok (.invokevirtual 122, 3) := by decide +kernel
theorem dL_act_143 : decode cL_act 143 = .ok (.istore 11, 2) := by decide +kernel
theorem dL_act_145 : decode cL_act 145 = .ok (.aload_n 0, 1) := by decide +kernel
theorem dL_act_146 : decode cL_act 146 = .ok (.iload 5, 2) := by decide +kernel
theorem dL_act_148 : decode cL_act 148 = .ok (.invokevirtual 58, 3) := by decide +kernel
theorem dL_act_151 : decode cL_act 151 = .ok (.istore 12, 2) := by decide +kernel
theorem dL_act_153 : decode cL_act 153 = .ok (.aload_n 0, 1) := by decide +kernel
