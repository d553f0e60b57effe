theorem dL_end_0 : decode cL_end 0 = .ok (.aload_n 1, 1) := by decide +kernel
theorem dL_end_1 : decode cL_end 1 = .ok (.iconst 5, 1) := by decide +kernel
theorem dL_end_2 : decode cL_end 2 = .ok (.iaload, 1) := by decide +kernel
theorem dL_end_3 : decode cL_end 3 = .ok (.istore_n 2, 1) := by decide +kernel
theorem dL_end_4 : decode cL_end 4 = .ok (.aload_n 1, 1) := by decide +kernel
theorem dL_end_5 : decode cL_end 5 = .ok (.iconst 5, 1) := by decide +kernel
theorem dL_end_6 : decode cL_end 6 = .ok (.iaload, 1) := by decide +kernel
theorem dL_end_7 : decode cL_end 7 = .ok (.bipush 20, 2) := by decide +kernel
theorem dL_end_9 : decode cL_end 9 = .ok (.irem, 1) := by decide +kernel
theorem dL_end_10 : decode cL_end 10 = .ok (.ifCond .eq 13, 3) := by decide +kernel
theorem dL_end_13 : decode cL_end 13 = .ok (.aload_n 0, 1) := by decide +kernel
theorem dL_end_14 : decode cL_end 14 = .ok (.aload_n 1, 1) := by decide +kernel
theorem dL_end_15 : decode cL_end 15 = .ok (.bipush 32, 2) := by decide +kernel
theorem dL_end_17 : decode cL_end 17 = .ok (.invokestatic 24, 3) := by decide +kernel
theorem dL_end_20 : decode cL_end 20 = .ok (.goto (-16), 3) := by decide +kernel
theorem dL_end_23 : decode cL_end 23 = .ok (.aload_n 1, 1) := by decide +kernel
theorem dL_end_24 : decode cL_end 24 = .ok (.iconst 5, 1) := by decide +kernel
theorem dL_end_25 : decode cL_end 25 = .ok (.iconst 0, 1) := by decide +kernel
theorem dL_end_26 : decode cL_end 26 = .ok (.iastore, 1) := by decide +kernel
theorem dL_end_27 : decode cL_end 27 = .ok (.iload_n 2, 1) := by decide +kernel
theorem dL_end_28 : decode cL_end 28 = .ok (.ireturn, 1) := by decide +kernel
theorem dL_all_0 : decode cL_all 0 = .ok (.aload_n 0, 1) := by decide +kernel
theorem dL_all_1 : decode cL_all 1 = .ok (.invokevirtual 30, 3) := by decide +kernel
theorem dL_all_4 : decode cL_all 4 = .ok (.istore_n 1, 1) := by decide +kernel
theorem dL_all_5 : decode cL_all 5 = .ok (.iconst 0, 1) := by decide +kernel
theorem dL_all_6 : decode cL_all 6 = .ok (.istore_n 2, 1) := by decide +kernel
theorem dL_all_7 : decode cL_all 7 = .ok (.iconst 0, 1) := by decide +kernel
theorem dL_all_8 : decode cL_all 8 = .ok (.istore_n 3, 1) := by decide +kernel
theorem dL_all_9 : decode cL_all 9 = .ok (.iload_n 3, 1) := by decide +kernel
theorem dL_all_10 : decode cL_all 10 = .ok (.iload_n 1, 1) := by decide +kernel
theorem dL_all_11 : decode cL_all 11 = .ok (.if_icmp .ge 17, 3) := by decide +kernel
theorem dL_all_14 : decode cL_all 14 = .ok (.iload_n 2, 1) := by decide +kernel
theorem dL_all_15 : decode cL_all 15 = .ok (.aload_n 0, 1) := by decide +kernel
theorem dL_all_16 : decode cL_all 16 = .ok (.iload_n 3, 1) := by decide +kernel
theorem dL_all_17 : decode cL_all 17 = .ok (.invokevirtual 33, 3) := by decide +kernel
theorem dL_all_20 : decode cL_all 20 = .ok (.iadd, 1) := by decide +kernel
theorem dL_all_21 : decode cL_all 21 = .ok (.istore_n 2, 1) := by decide +kernel
theorem dL_all_22 : decode cL_all 22 = .ok (.iinc 3 1, 3) := by decide +kernel
theorem dL_all_25 : decode cL_all 25 = .ok (.goto (-16), 3) := by decide +kernel
theorem dL_all_28 : decode cL_all 28 = .ok (.iconst 5, 1) := by decide +kernel
theorem dL_all_29 : decode cL_all 29 = .ok (.bipush 7, 2) := by decide +kernel
theorem dL_all_31 : decode cL_all 31 = .ok (.iload_n 1, 1) := by decide +kernel
theorem dL_all_32 : decode cL_all 32 = .ok (.imul, 1) := by decide +kernel
theorem dL_all_33 : decode cL_all 33 = .ok (.iadd, 1) := by decide +kernel
theorem dL_all_34 : decode cL_all 34 = .ok (.iload_n 2, 1) := by decide +kernel
theorem dL_all_35 : decode cL_all 35 = .ok (.iadd, 1) := by decide +kernel
theorem dL_all_36 : decode cL_all 36 = .ok (.newarray .int, 2) := by decide +kernel
theorem dL_all_38 : decode cL_all 38 = .ok (.astore_n 3, 1) := by decide +kernel
theorem dL_all_39 : decode cL_all 39 = .ok (.iconst 0, 1) := by decide +kernel
theorem dL_all_40 : decode cL_all 40 = .ok (.istore 4, 2) := by decide +kernel
theorem dL_all_42 : decode cL_all 42 = .ok (.aload_n 3, 1) := by decide +kernel
theorem dL_all_43 : decode cL_all 43 = .ok (.iload 4, 2) := by decide +kernel
theorem dL_all_45 : decode cL_all 45 = .ok (.iinc 4 1, 3) := by decide +kernel
theorem dL_all_48 : decode cL_all 48 = .ok (.iload_n 1, 1) := by decide +kernel
theorem dL_all_49 : decode cL_all 49 = .ok (.iastore, 1) := by decide +kernel
theorem dL_all_50 : decode cL_all 50 = .ok (.aload_n 3, 1) := by decide +kernel
theorem dL_all_51 : decode cL_all 51 = .ok (.iload 4, 2) := by decide +kernel
theorem dL_all_53 : decode cL_all 53 = .ok (.iinc 4 1, 3) := by decide +kernel
theorem dL_all_56 : decode cL_all 56 = .ok (.aload_n 0, 1) := by decide +kernel
theorem dL_all_57 : decode cL_all 57 = .ok (.invokevirtual 37, 3) := by decide +kernel
theorem dL_all_60 : decode cL_all 60 = .ok (.iastore, 1) := by decide +kernel
theorem dL_all_61 : decode cL_all 61 = .ok (.aload_n 3, 1) := by decide +kernel
theorem dL_all_62 : decode cL_all 62 = .ok (.iload 4, 2) := by decide +kernel
theorem dL_all_64 : decode cL_all 64 = .ok (.iinc 4 1, 3) := by decide +kernel
theorem dL_all_67 : decode cL_all 67 = .ok (.aload_n 0, 1) := by decide +kernel
theorem dL_all_68 : decode cL_all 68 = .ok (.invokevirtual 40, 3) := by decide +kernel
theorem dL_all_71 : decode cL_all 71 = .ok (.iastore, 1) := by decide +kernel
theorem dL_all_72 : decode cL_all 72 = .ok (.aload_n 3, 1) := by decide +kernel
theorem dL_all_73 : decode cL_all 73 = .ok (.iload 4, 2) := by decide +kernel
theorem dL_all_75 : decode cL_all 75 = .ok (.iinc 4 1, 3) := by decide +kernel
theorem dL_all_78 : decode cL_all 78 = .ok (.aload_n 0, 1) := by decide +kernel
theorem dL_all_79 : decode cL_all 79 = .ok (.invokevirtual 43, 3) := by decide +kernel
theorem dL_all_82 : decode cL_all 82 = .ok (.iastore, 1) := by decide +kernel
theorem dL_all_83 : decode cL_all 83 = .ok (.aload_n 3, 1) := by decide +kernel
theorem dL_all_84 : decode cL_all 84 = .ok (.iload 4, 2) := by decide +kernel
theorem dL_all_86 : decode cL_all 86 = .ok (.iinc 4 1, 3) := by decide +kernel
theorem dL_all_89 : decode cL_all 89 = .ok (.aload_n 0, 1) := by decide +kernel
theorem dL_all_90 : decode cL_all 90 = .ok (.invokevirtual 46, 3) := by decide +kernel
theorem dL_all_93 : decode cL_all 93 = .ok (.iastore, 1) := by decide +kernel
theorem dL_all_94 : decode cL_all 94 = .ok (.iconst 0, 1) := by decide +kernel
theorem dL_all_95 : decode cL_all 95 = .ok (.istore 5, 2) := by decide +kernel
theorem dL_all_97 : decode cL_all 97 = .ok (.iload 5, 2) := by decide +kernel
theorem dL_all_99 : decode cL_all 99 = .ok (.iload_n 1, 1) := by decide +kernel
theorem dL_all_100 : decode cL_all 100 = .ok (.if_icmp .ge 182, 3) := by decide +kernel
theorem dL_all_103 : decode cL_all 103 = .ok (.aload_n 3, 1) := by decide +kernel
theorem dL_all_104 : decode cL_all 104 = .ok (.iload 4, 2) := by decide +kernel
theorem dL_all_106 : decode cL_all 106 = .ok (.iinc 4 1, 3) := by decide +kernel
theorem dL_all_109 : decode cL_all 109 = .ok (.aload_n 0, 1) := by decide +kernel
theorem dL_all_110 : decode cL_all 110 = .ok (.iload 5, 2) := by decide +kernel
theorem dL_all_112 : decode cL_all 112 = .ok (.invokevirtual 33, 3) := by decide +kernel
theorem dL_all_115 : decode cL_all 115 = .ok (.iastore, 1) := by decide +kernel
theorem dL_all_116 : decode cL_all 116 = .ok (.aload_n 3, 1) := by decide +kernel
theorem dL_all_117 : decode cL_all 117 = .ok (.iload 4, 2) := by decide +kernel
theorem dL_all_119 : decode cL_all 119 = .ok (.iinc 4 1, 3) := by decide +kernel
theorem dL_all_122 : decode cL_all 122 = .ok (.aload_n 0, 1) := by decide +kernel
theorem dL_all_123 : decode cL_all 123 = .ok (.iload 5, 2) := by decide +kernel
theorem dL_all_125 : decode cL_all 125 = .ok (.invokevirtual 49, 3) := by decide +kernel
theorem dL_all_128 : decode cL_all 128 = .ok (.iastore, 1) := by decide +kernel
theorem dL_all_129 : decode cL_all 129 = .ok (.aload_n 3, 1) := by decide +kernel
theorem dL_all_130 : decode cL_all 130 = .ok (.iload 4, 2) := by decide +kernel
