theorem dX12_begin_0 : decode cX12_begin 0 = .ok (.iconst 0, 1) := by decide +kernel
theorem dX12_begin_1 : decode cX12_begin 1 = .ok (.istore 4, 2) := by decide +kernel
theorem dX12_begin_3 : decode cX12_begin 3 = .ok (.iload 4, 2) := by decide +kernel
theorem dX12_begin_5 : decode cX12_begin 5 = .ok (.sipush 1456, 3) := by decide +kernel
theorem dX12_begin_8 : decode cX12_begin 8 = .ok (.if_icmp .ge 17, 3) := by decide +kernel
theorem dX12_begin_11 : decode cX12_begin 11 = .ok (.aload_n 0, 1) := by decide +kernel
theorem dX12_begin_12 : decode cX12_begin 12 = .ok (.getfield 25, 3) := by decide +kernel
theorem dX12_begin_15 : decode cX12_begin 15 = .ok (.iload 4, 2) := by decide +kernel
theorem dX12_begin_17 : decode cX12_begin 17 = .ok (.iconst 0, 1) := by decide +kernel
theorem dX12_begin_18 : decode cX12_begin 18 = .ok (.iastore, 1) := by decide +kernel
theorem dX12_begin_19 : decode cX12_begin 19 = .ok (.iinc 4 1, 3) := by decide +kernel
theorem dX12_begin_22 : decode cX12_begin 22 = .ok (.goto (-19), 3) := by decide +kernel
theorem dX12_begin_25 : decode cX12_begin 25 = .ok (.aload_n 0, 1) := by decide +kernel
theorem dX12_begin_26 : decode cX12_begin 26 = .ok (.getfield 25, 3) := by decide +kernel
theorem dX12_begin_29 : decode cX12_begin 29 = .ok (.iconst 0, 1) := by decide +kernel
theorem dX12_begin_30 : decode cX12_begin 30 = .ok (.iload_n 1, 1) := by decide +kernel
theorem dX12_begin_31 : decode cX12_begin 31 = .ok (.iastore, 1) := by decide +kernel
theorem dX12_begin_32 : decode cX12_begin 32 = .ok (.aload_n 0, 1) := by decide +kernel
theorem dX12_begin_33 : decode cX12_begin 33 = .ok (.getfield 25, 3) := by decide +kernel
theorem dX12_begin_36 : decode cX12_begin 36 = .ok (.iconst 1, 1) := by decide +kernel
theorem dX12_begin_37 : decode cX12_begin 37 = .ok (.iload_n 2, 1) := by decide +kernel
theorem dX12_begin_38 : decode cX12_begin 38 = .ok (.iastore, 1) := by decide +kernel
theorem dX12_begin_39 : decode cX12_begin 39 = .ok (.aload_n 0, 1) := by decide +kernel
theorem dX12_begin_40 : decode cX12_begin 40 = .ok (.getfield 25, 3) := by decide +kernel
theorem dX12_begin_43 : decode cX12_begin 43 = .ok (.iconst 2, 1) := by decide +kernel
theorem dX12_begin_44 : decode cX12_begin 44 = .ok (.iload_n 3, 1) := by decide +kernel
theorem dX12_begin_45 : decode cX12_begin 45 = .ok (.iastore, 1) := by decide +kernel
theorem dX12_begin_46 : decode cX12_begin 46 = .ok (.return_, 1) := by decide +kernel
theorem dX12_at_0 : decode cX12_at 0 = .ok (.bipush 7, 2) := by decide +kernel
theorem dX12_at_2 : decode cX12_at 2 = .ok (.sipush 207, 3) := by decide +kernel
theorem dX12_at_5 : decode cX12_at 5 = .ok (.iload_n 0, 1) := by decide +kernel
theorem dX12_at_6 : decode cX12_at 6 = .ok (.imul, 1) := by decide +kernel
theorem dX12_at_7 : decode cX12_at 7 = .ok (.iadd, 1) := by decide +kernel
theorem dX12_at_8 : decode cX12_at 8 = .ok (.ireturn, 1) := by decide +kernel
theorem dX12_lay_0 : decode cX12_lay 0 = .ok (.aload_n 0, 1) := by decide +kernel
theorem dX12_lay_1 : decode cX12_lay 1 = .ok (.getfield 25, 3) := by decide +kernel
theorem dX12_lay_4 : decode cX12_lay 4 = .ok (.iload_n 1, 1) := by decide +kernel
theorem dX12_lay_5 : decode cX12_lay 5 = .ok (.invokestatic 86, 3) := by decide +kernel
theorem dX12_lay_8 : decode cX12_lay 8 = .ok (.iload_n 2, 1) := by decide +kernel
theorem dX12_lay_9 : decode cX12_lay 9 = .ok (.iadd, 1) := by decide +kernel
theorem dX12_lay_10 : decode cX12_lay 10 = .ok (.iload_n 3, 1) := by decide +kernel
theorem dX12_lay_11 : decode cX12_lay 11 = .ok (.iastore, 1) := by decide +kernel
theorem dX12_lay_12 : decode cX12_lay 12 = .ok (.return_, 1) := by decide +kernel
theorem dX12_startSheet_0 : decode cX12_startSheet 0 = .ok (.iconst 0, 1) := by decide +kernel
theorem dX12_startSheet_1 : decode cX12_startSheet 1 = .ok (.istore_n 3, 1) := by decide +kernel
theorem dX12_startSheet_2 : decode cX12_startSheet 2 = .ok (.iload_n 3, 1) := by decide +kernel
theorem dX12_startSheet_3 : decode cX12_startSheet 3 = .ok (.bipush 7, 2) := by decide +kernel
theorem dX12_startSheet_5 : decode cX12_startSheet 5 = .ok (.if_icmp .ge 16, 3) := by decide +kernel
theorem dX12_startSheet_8 : decode cX12_startSheet 8 = .ok (.aload_n 0, 1) := by decide +kernel
theorem dX12_startSheet_9 : decode cX12_startSheet 9 = .ok (.iload_n 1, 1) := by decide +kernel
theorem dX12_startSheet_10 : decode cX12_startSheet 10 = .ok (.iload_n 3, 1) := by decide +kernel
theorem dX12_startSheet_11 : decode cX12_startSheet 11 = .ok (.iconst 0, 1) := by decide +kernel
theorem dX12_startSheet_12 : decode cX12_startSheet 12 = .ok (.invokevirtual 90, 3) := by decide +kernel
theorem dX12_startSheet_15 : decode cX12_startSheet 15 = .ok (.iinc 3 1, 3) := by decide +kernel
theorem dX12_startSheet_18 : decode cX12_startSheet 18 = .ok (.goto (-16), 3) := by decide +kernel
theorem dX12_startSheet_21 : decode cX12_startSheet 21 = .ok (.aload_n 0, 1) := by decide +kernel
theorem dX12_startSheet_22 : decode cX12_startSheet 22 = .ok (.iload_n 1, 1) := by decide +kernel
theorem dX12_startSheet_23 : decode cX12_startSheet 23 = .ok (.iconst 0, 1) := by decide +kernel
theorem dX12_startSheet_24 : decode cX12_startSheet 24 = .ok (.iload_n 2, 1) := by decide +kernel
theorem dX12_startSheet_25 : decode cX12_startSheet 25 = .ok (.invokevirtual 90, 3) := by decide +kernel
theorem dX12_startSheet_28 : decode cX12_startSheet 28 = .ok (.return_, 1) := by decide +kernel
theorem dX12_of_0 : decode cX12_of 0 = .ok (.aload_n 0, 1) := by decide +kernel
theorem dX12_of_1 : decode cX12_of 1 = .ok (.getfield 25, 3) := by decide +kernel
theorem dX12_of_4 : decode cX12_of 4 = .ok (.iload_n 1, 1) := by decide +kernel
theorem dX12_of_5 : decode cX12_of 5 = .ok (.invokestatic 86, 3) := by decide +kernel
theorem dX12_of_8 : decode cX12_of 8 = .ok (.iload_n 2, 1) := by decide +kernel
theorem dX12_of_9 : decode cX12_of 9 = .ok (.iadd, 1) := by decide +kernel
theorem dX12_of_10 : decode cX12_of 10 = .ok (.iaload, 1) := by decide +kernel
theorem dX12_of_11 : decode cX12_of 11 = .ok (.ireturn, 1) := by decide +kernel
theorem dX12_addLayer_0 : decode cX12_addLayer 0 = .ok (.aload_n 0, 1) := by decide +kernel
theorem dX12_addLayer_1 : decode cX12_addLayer 1 = .ok (.iload_n 1, 1) := by decide +kernel
theorem dX12_addLayer_2 : decode cX12_addLayer 2 = .ok (.bipush 7, 2) := by decide +kernel
theorem dX12_addLayer_4 : decode cX12_addLayer 4 = .ok (.aload_n 0, 1) := by decide +kernel
theorem dX12_addLayer_5 : decode cX12_addLayer 5 = .ok (.iload_n 1, 1) := by decide +kernel
theorem dX12_addLayer_6 : decode cX12_addLayer 6 = .ok (.bipush 6, 2) := by decide +kernel
theorem dX12_addLayer_8 : decode cX12_addLayer 8 = .ok (.invokevirtual 93, 3) := by decide +kernel
theorem dX12_addLayer_11 : decode cX12_addLayer 11 = .ok (.iadd, 1) := by decide +kernel
theorem dX12_addLayer_12 : decode cX12_addLayer 12 = .ok (.iload_n 2, 1) := by decide +kernel
theorem dX12_addLayer_13 : decode cX12_addLayer 13 = .ok (.invokevirtual 90, 3) := by decide +kernel
theorem dX12_addLayer_16 : decode cX12_addLayer 16 = .ok (.aload_n 0, 1) := by decide +kernel
theorem dX12_addLayer_17 : decode cX12_addLayer 17 = .ok (.iload_n 1, 1) := by decide +kernel
theorem dX12_addLayer_18 : decode cX12_addLayer 18 = .ok (.bipush 6, 2) := by decide +kernel
theorem dX12_addLayer_20 : decode cX12_addLayer 20 = .ok (.aload_n 0, 1) := by decide +kernel
theorem dX12_addLayer_21 : decode cX12_addLayer 21 = .ok (.iload_n 1, 1) := by decide +kernel
theorem dX12_addLayer_22 : decode cX12_addLayer 22 = .ok (.bipush 6, 2) := by decide +kernel
theorem dX12_addLayer_24 : decode cX12_addLayer 24 = .ok (.invokevirtual 93, 3) := by decide +kernel
theorem dX12_addLayer_27 : decode cX12_addLayer 27 = .ok (.iconst 1, 1) := by decide +kernel
theorem dX12_addLayer_28 : decode cX12_addLayer 28 = .ok (.iadd, 1) := by decide +kernel
theorem dX12_addLayer_29 : decode cX12_addLayer 29 = .ok (.invokevirtual 90, 3) := by decide +kernel
theorem dX12_addLayer_32 : decode cX12_addLayer 32 = .ok (.return_, 1) := by decide +kernel
theorem dX12_expectLayers_0 : decode cX12_expectLayers 0 = .ok (.iconst 0, 1) := by decide +kernel
theorem dX12_expectLayers_1 : decode cX12_expectLayers 1 = .ok (.istore_n 1, 1) := by decide +kernel
theorem dX12_expectLayers_2 : decode cX12_expectLayers 2 = .ok (.iload_n 1, 1) := by decide +kernel
theorem dX12_expectLayers_3 : decode cX12_expectLayers 3 = .ok (.aload_n 0, 1) := by decide +kernel
theorem dX12_expectLayers_4 : decode cX12_expectLayers 4 = .ok (.getfield 25, 3) := by decide +kernel
theorem dX12_expectLayers_7 : decode cX12_expectLayers 7 = .ok (.iconst 3, 1) := by decide +kernel
theorem dX12_expectLayers_8 : decode cX12_expectLayers 8 = .ok (.iaload, 1) := by decide +kernel
theorem dX12_expectLayers_9 : decode cX12_expectLayers 9 = .ok (.if_icmp .ge 22, 3) := by decide +kernel
theorem dX12_expectLayers_12 : decode cX12_expectLayers 12 = .ok (.aload_n 0, 1) := by decide +kernel
theorem dX12_expectLayers_13 : decode cX12_expectLayers 13 = .ok (.iload_n 1, 1) := by decide +kernel
theorem dX12_expectLayers_14 : decode cX12_expectLayers 14 = .ok (.iconst 5, 1) := by decide +kernel
theorem dX12_expectLayers_15 : decode cX12_expectLayers 15 = .ok (.aload_n 0, 1) := by decide +kernel
theorem dX12_expectLayers_16 : decode cX12_expectLayers 16 = .ok (.iload_n 1, 1) := by decide +kernel
theorem dX12_expectLayers_17 : decode cX12_expectLayers 17 = .ok (.bipush 6, 2) := by decide +kernel
theorem dX12_expectLayers_19 : decode cX12_expectLayers 19 = .ok (.invokevirtual 93, 3) := by decide +kernel
theorem dX12_expectLayers_22 : decode cX12_expectLayers 22 = .ok (.invokevirtual 90, 3) := by decide +kernel
theorem dX12_expectLayers_25 : decode cX12_expectLayers 25 = .ok (.iinc 1 1, 3) := by decide +kernel
theorem dX12_expectLayers_28 : decode cX12_expectLayers 28 = .ok (.goto (-26), 3) := by decide +kernel
theorem dX12_expectLayers_31 : decode cX12_expectLayers 31 = .ok (.return_, 1) := by decide +kernel
theorem dX12_init_0 : decode cX12_init 0 = .ok (.aload_n 0, 1) := by decide +kernel
theorem dX12_init_1 : decode cX12_init 1 = .ok (.invokespecial 1, 3) := by decide +kernel
theorem dX12_init_4 : decode cX12_init 4 = .ok (.aload_n 0, 1) := by decide +kernel
theorem dX12_init_5 : decode cX12_init 5 = .ok (.sipush 1456, 3) := by decide +kernel
theorem dX12_init_8 : decode cX12_init 8 = .ok (.newarray .int, 2) := by decide +kernel
theorem dX12_init_10 : decode cX12_init 10 = .ok (.putfield 9, 3) := by decide +kernel
theorem dX12_init_13 : decode cX12_init 13 = .ok (.aload_n 0, 1) := by decide +kernel
theorem dX12_init_14 : decode cX12_init 14 = .ok (.sipush 1456, 3) := by decide +kernel
theorem dX12_init_17 : decode cX12_init 17 = .ok (.newarray .int, 2) := by decide +kernel
theorem dX12_init_19 : decode cX12_init 19 = .ok (.putfield 13, 3) := by decide +kernel
theorem dX12_init_22 : decode cX12_init 22 = .ok (.aload_n 0, 1) := by decide +kernel
theorem dX12_init_23 : decode cX12_init 23 = .ok (.sipush 1456, 3) := by decide +kernel
theorem dX12_init_26 : decode cX12_init 26 = .ok (.newarray .int, 2) := by decide +kernel
theorem dX12_init_28 : decode cX12_init 28 = .ok (.putfield 16, 3) := by decide +kernel
theorem dX12_init_31 : decode cX12_init 31 = .ok (.aload_n 0, 1) := by decide +kernel
theorem dX12_init_32 : decode cX12_init 32 = .ok (.sipush 1456, 3) := by decide +kernel
theorem dX12_init_35 : decode cX12_init 35 = .ok (.newarray .int, 2) := by decide +kernel
theorem dX12_init_37 : decode cX12_init 37 = .ok (.putfield 19, 3) := by decide +kernel
theorem dX12_init_40 : decode cX12_init 40 = .ok (.aload_n 0, 1) := by decide +kernel
theorem dX12_init_41 : decode cX12_init 41 = .ok (.sipush 11648, 3) := by decide +kernel
theorem dX12_init_44 : decode cX12_init 44 = .ok (.newarray .int, 2) := by decide +kernel
theorem dX12_init_46 : decode cX12_init 46 = .ok (.putfield 22, 3) := by decide +kernel
theorem dX12_init_49 : decode cX12_init 49 = .ok (.aload_n 0, 1) := by decide +kernel
theorem dX12_init_50 : decode cX12_init 50 = .ok (.aload_n 0, 1) := by decide +kernel
theorem dX12_init_51 : decode cX12_init 51 = .ok (.getfield 9, 3) := by decide +kernel
theorem dX12_init_54 : decode cX12_init 54 = .ok (.putfield 25, 3) := by decide +kernel
theorem dX12_init_57 : decode cX12_init 57 = .ok (.aload_n 0, 1) := by decide +kernel
theorem dX12_init_58 : decode cX12_init 58 = .ok (.sipush 1300, 3) := by decide +kernel
theorem dX12_init_61 : decode cX12_init 61 = .ok (.newarray .int, 2) := by decide +kernel
theorem dX12_init_63 : decode cX12_init 63 = .ok (.putfield 28, 3) := by decide +kernel
theorem dX12_init_66 : decode cX12_init 66 = .ok (.aload_n 0, 1) := by decide +kernel
theorem dX12_init_67 : decode cX12_init 67 = .ok (.sipush 500, 3) := by decide +kernel
theorem dX12_init_70 : decode cX12_init 70 = .ok (.newarray .int, 2) := by decide +kernel
theorem dX12_init_72 : decode cX12_init 72 = .ok (.putfield 31, 3) := by decide +kernel
theorem dX12_init_75 : decode cX12_init 75 = .ok (.aload_n 0, 1) := by decide +kernel
theorem dX12_init_76 : decode cX12_init 76 = .ok (.iconst (-1), 1) := by decide +kernel
theorem dX12_init_77 : decode cX12_init 77 = .ok (.putfield 34, 3) := by decide +kernel
theorem dX12_init_80 : decode cX12_init 80 = .ok (.aload_n 0, 1) := by decide +kernel
theorem dX12_init_81 : decode cX12_init 81 = .ok (.bipush 60, 2) := by decide +kernel
theorem dX12_init_83 : decode cX12_init 83 = .ok (.newarray .int, 2) := by decide +kernel
theorem dX12_init_85 : decode cX12_init 85 = .ok (.putfield 38, 3) := by decide +kernel
theorem dX12_init_88 : decode cX12_init 88 = .ok (.aload_n 0, 1) := by decide +kernel
theorem dX12_init_89 : decode cX12_init 89 = .ok (.bipush 9, 2) := by decide +kernel
theorem dX12_init_91 : decode cX12_init 91 = .ok (.anewarray 41, 3) := by decide +kernel
theorem dX12_init_94 : decode cX12_init 94 = .ok (.dup, 1) := by decide +kernel
theorem dX12_init_95 : decode cX12_init 95 = .ok (.iconst 0, 1) := by decide +kernel
theorem dX12_init_96 : decode cX12_init 96 = .ok (.ldc 43, 2) := by decide +kernel
theorem dX12_init_98 : decode cX12_init 98 = .ok (.aastore, 1) := by decide +kernel
theorem dX12_init_99 : decode cX12_init 99 = .ok (.dup, 1) := by decide +kernel
theorem dX12_init_100 : decode cX12_init 100 = .ok (.iconst 1, 1) := by decide +kernel
theorem dX12_init_101 : decode cX12_init 101 = .ok (.ldc 45, 2) := by decide +kernel
theorem dX12_init_103 : decode cX12_init 103 = .ok (.aastore, 1) := by decide +kernel
theorem dX12_init_104 : decode cX12_init 104 = .ok (.dup, 1) := by decide +kernel
theorem dX12_init_105 : decode cX12_init 105 = .ok (.iconst 2, 1) := by decide +kernel
theorem dX12_init_106 : decode cX12_init 106 = .ok (.ldc 47, 2) := by decide +kernel
theorem dX12_init_108 : decode cX12_init 108 = .ok (.aastore, 1) := by decide +kernel
theorem dX12_init_109 : decode cX12_init 109 = .ok (.dup, 1) := by decide +kernel
theorem dX12_init_110 : decode cX12_init 110 = .ok (.iconst 3, 1) := by decide +kernel
theorem dX12_init_111 : decode cX12_init 111 = .ok (.ldc 49, 2) := by decide +kernel
theorem dX12_init_113 : decode cX12_init 113 = .ok (.aastore, 1) := by decide +kernel
theorem dX12_init_114 : decode cX12_init 114 = .ok (.dup, 1) := by decide +kernel
theorem dX12_init_115 : decode cX12_init 115 = .ok (.iconst 4, 1) := by decide +kernel
theorem dX12_init_116 : decode cX12_init 116 = .ok (.ldc 51, 2) := by decide +kernel
theorem dX12_init_118 : decode cX12_init 118 = .ok (.aastore, 1) := by decide +kernel
theorem dX12_init_119 : decode cX12_init 119 = .ok (.dup, 1) := by decide +kernel
theorem dX12_init_120 : decode cX12_init 120 = .ok (.iconst 5, 1) := by decide +kernel
theorem dX12_init_121 : decode cX12_init 121 = .ok (.ldc 53, 2) := by decide +kernel
theorem dX12_init_123 : decode cX12_init 123 = .ok (.aastore, 1) := by decide +kernel
theorem dX12_init_124 : decode cX12_init 124 = .ok (.dup, 1) := by decide +kernel
theorem dX12_init_125 : decode cX12_init 125 = .ok (.bipush 6, 2) := by decide +kernel
theorem dX12_init_127 : decode cX12_init 127 = .ok (.ldc 55, 2) := by decide +kernel
theorem dX12_init_129 : decode cX12_init 129 = .ok (.aastore, 1) := by decide +kernel
theorem dX12_init_130 : decode cX12_init 130 = .ok (.dup, 1) := by decide +kernel
theorem dX12_init_131 : decode cX12_init 131 = .ok (.bipush 7, 2) := by decide +kernel
theorem dX12_init_133 : decode cX12_init 133 = .ok (.ldc 57, 2) := by decide +kernel
theorem dX12_init_135 : decode cX12_init 135 = .ok (.aastore, 1) := by decide +kernel
theorem dX12_init_136 : decode cX12_init 136 = .ok (.dup, 1) := by decide +kernel
theorem dX12_init_137 : decode cX12_init 137 = .ok (.bipush 8, 2) := by decide +kernel
theorem dX12_init_139 : decode cX12_init 139 = .ok (.ldc 59, 2) := by decide +kernel
theorem dX12_init_141 : decode cX12_init 141 = .ok (.aastore, 1) := by decide +kernel
theorem dX12_init_142 : decode cX12_init 142 = .ok (.putfield 61, 3) := by decide +kernel
theorem dX12_init_145 : decode cX12_init 145 = .ok (.aload_n 0, 1) := by decide +kernel
theorem dX12_init_146 : decode cX12_init 146 = .ok (.bipush 22, 2) := by decide +kernel
theorem dX12_init_148 : decode cX12_init 148 = .ok (.bipush 18, 2) := by decide +kernel
theorem dX12_init_150 : decode cX12_init 150 = .ok (.iconst 5, 1) := by decide +kernel
theorem dX12_init_151 : decode cX12_init 151 = .ok (.invokevirtual 65, 3) := by decide +kernel
theorem dX12_init_154 : decode cX12_init 154 = .ok (.aload_n 0, 1) := by decide +kernel
theorem dX12_init_155 : decode cX12_init 155 = .ok (.iconst 0, 1) := by decide +kernel
theorem dX12_init_156 : decode cX12_init 156 = .ok (.bipush 10, 2) := by decide +kernel
theorem dX12_init_158 : decode cX12_init 158 = .ok (.invokevirtual 69, 3) := by decide +kernel
theorem dX12_init_161 : decode cX12_init 161 = .ok (.aload_n 0, 1) := by decide +kernel
theorem dX12_init_162 : decode cX12_init 162 = .ok (.iconst 0, 1) := by decide +kernel
theorem dX12_init_163 : decode cX12_init 163 = .ok (.bipush 60, 2) := by decide +kernel
theorem dX12_init_165 : decode cX12_init 165 = .ok (.invokevirtual 73, 3) := by decide +kernel
theorem dX12_init_168 : decode cX12_init 168 = .ok (.aload_n 0, 1) := by decide +kernel
theorem dX12_init_169 : decode cX12_init 169 = .ok (.iconst 0, 1) := by decide +kernel
theorem dX12_init_170 : decode cX12_init 170 = .ok (.bipush (-40), 2) := by decide +kernel
theorem dX12_init_172 : decode cX12_init 172 = .ok (.invokevirtual 73, 3) := by decide +kernel
theorem dX12_init_175 : decode cX12_init 175 = .ok (.aload_n 0, 1) := by decide +kernel
theorem dX12_init_176 : decode cX12_init 176 = .ok (.iconst 0, 1) := by decide +kernel
theorem dX12_init_177 : decode cX12_init 177 = .ok (.bipush 60, 2) := by decide +kernel
theorem dX12_init_179 : decode cX12_init 179 = .ok (.invokevirtual 73, 3) := by decide +kernel
theorem dX12_init_182 : decode cX12_init 182 = .ok (.aload_n 0, 1) := by decide +kernel
theorem dX12_init_183 : decode cX12_init 183 = .ok (.iconst 1, 1) := by decide +kernel
theorem dX12_init_184 : decode cX12_init 184 = .ok (.bipush 20, 2) := by decide +kernel
theorem dX12_init_186 : decode cX12_init 186 = .ok (.invokevirtual 69, 3) := by decide +kernel
theorem dX12_init_189 : decode cX12_init 189 = .ok (.aload_n 0, 1) := by decide +kernel
theorem dX12_init_190 : decode cX12_init 190 = .ok (.iconst 1, 1) := by decide +kernel
theorem dX12_init_191 : decode cX12_init 191 = .ok (.bipush 30, 2) := by decide +kernel
theorem dX12_init_193 : decode cX12_init 193 = .ok (.invokevirtual 73, 3) := by decide +kernel
theorem dX12_init_196 : decode cX12_init 196 = .ok (.aload_n 0, 1) := by decide +kernel
theorem dX12_init_197 : decode cX12_init 197 = .ok (.iconst 1, 1) := by decide +kernel
theorem dX12_init_198 : decode cX12_init 198 = .ok (.bipush (-9), 2) := by decide +kernel
theorem dX12_init_200 : decode cX12_init 200 = .ok (.invokevirtual 73, 3) := by decide +kernel
theorem dX12_init_203 : decode cX12_init 203 = .ok (.aload_n 0, 1) := by decide +kernel
theorem dX12_init_204 : decode cX12_init 204 = .ok (.iconst 1, 1) := by decide +kernel
theorem dX12_init_205 : decode cX12_init 205 = .ok (.bipush 25, 2) := by decide +kernel
theorem dX12_init_207 : decode cX12_init 207 = .ok (.invokevirtual 73, 3) := by decide +kernel
theorem dX12_init_210 : decode cX12_init 210 = .ok (.aload_n 0, 1) := by decide +kernel
theorem dX12_init_211 : decode cX12_init 211 = .ok (.iconst 1, 1) := by decide +kernel
theorem dX12_init_212 : decode cX12_init 212 = .ok (.bipush (-3), 2) := by decide +kernel
theorem dX12_init_214 : decode cX12_init 214 = .ok (.invokevirtual 73, 3) := by decide +kernel
theorem dX12_init_217 : decode cX12_init 217 = .ok (.aload_n 0, 1) := by decide +kernel
theorem dX12_init_218 : decode cX12_init 218 = .ok (.iconst 1, 1) := by decide +kernel
theorem dX12_init_219 : decode cX12_init 219 = .ok (.bipush 30, 2) := by decide +kernel
theorem dX12_init_221 : decode cX12_init 221 = .ok (.invokevirtual 73, 3) := by decide +kernel
theorem dX12_init_224 : decode cX12_init 224 = .ok (.aload_n 0, 1) := by decide +kernel
theorem dX12_init_225 : decode cX12_init 225 = .ok (.getfield 25, 3) := by decide +kernel
theorem dX12_init_228 : decode cX12_init 228 = .ok (.iconst 3, 1) := by decide +kernel
theorem dX12_init_229 : decode cX12_init 229 = .ok (.iconst 2, 1) := by decide +kernel
theorem dX12_init_230 : decode cX12_init 230 = .ok (.iastore, 1) := by decide +kernel
theorem dX12_init_231 : decode cX12_init 231 = .ok (.aload_n 0, 1) := by decide +kernel
theorem dX12_init_232 : decode cX12_init 232 = .ok (.invokevirtual 76, 3) := by decide +kernel
theorem dX12_init_235 : decode cX12_init 235 = .ok (.return_, 1) := by decide +kernel
theorem dX12_thrown_0 : decode cX12_thrown 0 = .ok (.aload_n 0, 1) := by decide +kernel
theorem dX12_thrown_1 : decode cX12_thrown 1 = .ok (.getfield 79, 3) := by decide +kernel
theorem dX12_thrown_4 : decode cX12_thrown 4 = .ok (.ireturn, 1) := by decide +kernel
theorem dX12_inRange_0 : decode cX12_inRange 0 = .ok (.iload_n 0, 1) := by decide +kernel
theorem dX12_inRange_1 : decode cX12_inRange 1 = .ok (.iload_n 1, 1) := by decide +kernel
theorem dX12_inRange_2 : decode cX12_inRange 2 = .ok (.if_icmp .lt 12, 3) := by decide +kernel
theorem dX12_inRange_5 : decode cX12_inRange 5 = .ok (.iload_n 0, 1) := by decide +kernel
theorem dX12_inRange_6 : decode cX12_inRange 6 = .ok (.iload_n 2, 1) := by decide +kernel
theorem dX12_inRange_7 : decode cX12_inRange 7 = .ok (.if_icmp .gt 7, 3) := by decide +kernel
theorem dX12_inRange_10 : decode cX12_inRange 10 = .ok (.iconst 1, 1) := by decide +kernel
theorem dX12_inRange_11 : decode cX12_inRange 11 = .ok (.goto 4, 3) := by decide +kernel
theorem dX12_inRange_14 : decode cX12_inRange 14 = .ok (.iconst 0, 1) := by decide +kernel
theorem dX12_inRange_15 : decode cX12_inRange 15 = .ok (.ireturn, 1) := by decide +kernel
theorem dX12_lacks_0 : decode cX12_lacks 0 = .ok (.aload_n 0, 1) := by decide +kernel
theorem dX12_lacks_1 : decode cX12_lacks 1 = .ok (.iload_n 1, 1) := by decide +kernel
theorem dX12_lacks_2 : decode cX12_lacks 2 = .ok (.ifCond .eq 7, 3) := by decide +kernel
theorem dX12_lacks_5 : decode cX12_lacks 5 = .ok (.iconst 0, 1) := by decide +kernel
theorem dX12_lacks_6 : decode cX12_lacks 6 = .ok (.goto 4, 3) := by decide +kernel
theorem dX12_lacks_9 : decode cX12_lacks 9 = .ok (.iconst 1, 1) := by decide +kernel
theorem dX12_lacks_10 : decode cX12_lacks 10 = .ok (.putfield 79, 3) := by decide +kernel
theorem dX12_lacks_13 : decode cX12_lacks 13 = .ok (.iload_n 1, 1) := by decide +kernel
theorem dX12_lacks_14 : decode cX12_lacks 14 = .ok (.ifCond .ne 7, 3) := by decide +kernel
theorem dX12_lacks_17 : decode cX12_lacks 17 = .ok (.iconst 1, 1) := by decide +kernel
theorem dX12_lacks_18 : decode cX12_lacks 18 = .ok (.goto 4, 3) := by decide +kernel
theorem dX12_lacks_21 : decode cX12_lacks 21 = .ok (.iconst 0, 1) := by decide +kernel
theorem dX12_lacks_22 : decode cX12_lacks 22 = .ok (.ireturn, 1) := by decide +kernel
theorem dX12_lacksBoth_0 : decode cX12_lacksBoth 0 = .ok (.aload_n 0, 1) := by decide +kernel
theorem dX12_lacksBoth_1 : decode cX12_lacksBoth 1 = .ok (.iload_n 1, 1) := by decide +kernel
theorem dX12_lacksBoth_2 : decode cX12_lacksBoth 2 = .ok (.invokevirtual 82, 3) := by decide +kernel
theorem dX12_lacksBoth_5 : decode cX12_lacksBoth 5 = .ok (.ifCond .eq 5, 3) := by decide +kernel
theorem dX12_lacksBoth_8 : decode cX12_lacksBoth 8 = .ok (.iconst 1, 1) := by decide +kernel
theorem dX12_lacksBoth_9 : decode cX12_lacksBoth 9 = .ok (.ireturn, 1) := by decide +kernel
theorem dX12_lacksBoth_10 : decode cX12_lacksBoth 10 = .ok (.aload_n 0, 1) := by decide +kernel
theorem dX12_lacksBoth_11 : decode cX12_lacksBoth 11 = .ok (.iload_n 2, 1) := by decide +kernel
theorem dX12_lacksBoth_12 : decode cX12_lacksBoth 12 = .ok (.ifCond .eq 7, 3) := by decide +kernel
theorem dX12_lacksBoth_15 : decode cX12_lacksBoth 15 = .ok (.iconst 0, 1) := by decide +kernel
theorem dX12_lacksBoth_16 : decode cX12_lacksBoth 16 = .ok (.goto 4, 3) := by decide +kernel
theorem dX12_lacksBoth_19 : decode cX12_lacksBoth 19 = .ok (.iconst 2, 1) := by decide +kernel
theorem dX12_lacksBoth_20 : decode cX12_lacksBoth 20 = .ok (.putfield 79, 3) := by decide +kernel
theorem dX12_lacksBoth_23 : decode cX12_lacksBoth 23 = .ok (.aload_n 0, 1) := by decide +kernel
theorem dX12_lacksBoth_24 : decode cX12_lacksBoth 24 = .ok (.getfield 79, 3) := by decide +kernel
theorem dX12_lacksBoth_27 : decode cX12_lacksBoth 27 = .ok (.ifCond .eq 7, 3) := by decide +kernel
theorem dX12_lacksBoth_30 : decode cX12_lacksBoth 30 = .ok (.iconst 1, 1) := by decide +kernel
theorem dX12_lacksBoth_31 : decode cX12_lacksBoth 31 = .ok (.goto 4, 3) := by decide +kernel
theorem dX12_lacksBoth_34 : decode cX12_lacksBoth 34 = .ok (.iconst 0, 1) := by decide +kernel
theorem dX12_lacksBoth_35 : decode cX12_lacksBoth 35 = .ok (.ireturn, 1) := by decide +kernel
theorem dX12_sizeOf_0 : decode cX12_sizeOf 0 = .ok (.iload_n 0, 1) := by decide +kernel
theorem dX12_sizeOf_1 : decode cX12_sizeOf 1 = .ok (.ifCond .ge 8, 3) := by decide +kernel
theorem dX12_sizeOf_4 : decode cX12_sizeOf 4 = .ok (.iload_n 0, 1) := by decide +kernel
theorem dX12_sizeOf_5 : decode cX12_sizeOf 5 = .ok (.ineg, 1) := by decide +kernel
theorem dX12_sizeOf_6 : decode cX12_sizeOf 6 = .ok (.goto 4, 3) := by decide +kernel
theorem dX12_sizeOf_9 : decode cX12_sizeOf 9 = .ok (.iload_n 0, 1) := by decide +kernel
theorem dX12_sizeOf_10 : decode cX12_sizeOf 10 = .ok (.ireturn, 1) := by decide +kernel
theorem dX12_least_0 : decode cX12_least 0 = .ok (.iload_n 0, 1) := by decide +kernel
theorem dX12_least_1 : decode cX12_least 1 = .ok (.iload_n 1, 1) := by decide +kernel
theorem dX12_least_2 : decode cX12_least 2 = .ok (.if_icmp .ge 7, 3) := by decide +kernel
theorem dX12_least_5 : decode cX12_least 5 = .ok (.iload_n 0, 1) := by decide +kernel
theorem dX12_least_6 : decode cX12_least 6 = .ok (.goto 4, 3) := by decide +kernel
theorem dX12_least_9 : decode cX12_least 9 = .ok (.iload_n 1, 1) := by decide +kernel
theorem dX12_least_10 : decode cX12_least 10 = .ok (.ireturn, 1) := by decide +kernel
theorem dX12_most_0 : decode cX12_most 0 = .ok (.iload_n 0, 1) := by decide +kernel
theorem dX12_most_1 : decode cX12_most 1 = .ok (.iload_n 1, 1) := by decide +kernel
theorem dX12_most_2 : decode cX12_most 2 = .ok (.if_icmp .le 7, 3) := by decide +kernel
theorem dX12_most_5 : decode cX12_most 5 = .ok (.iload_n 0, 1) := by decide +kernel
theorem dX12_most_6 : decode cX12_most 6 = .ok (.goto 4, 3) := by decide +kernel
theorem dX12_most_9 : decode cX12_most 9 = .ok (.iload_n 1, 1) := by decide +kernel
theorem dX12_most_10 : decode cX12_most 10 = .ok (.ireturn, 1) := by decide +kernel
theorem dX12_layer_0 : decode cX12_layer 0 = .ok (.aload_n 0, 1) := by decide +kernel
theorem dX12_layer_1 : decode cX12_layer 1 = .ok (.getfield 25, 3) := by decide +kernel
theorem dX12_layer_4 : decode cX12_layer 4 = .ok (.iload_n 1, 1) := by decide +kernel
theorem dX12_layer_5 : decode cX12_layer 5 = .ok (.invokestatic 86, 3) := by decide +kernel
theorem dX12_layer_8 : decode cX12_layer 8 = .ok (.bipush 7, 2) := by decide +kernel
theorem dX12_layer_10 : decode cX12_layer 10 = .ok (.iadd, 1) := by decide +kernel
theorem dX12_layer_11 : decode cX12_layer 11 = .ok (.iload_n 2, 1) := by decide +kernel
theorem dX12_layer_12 : decode cX12_layer 12 = .ok (.iadd, 1) := by decide +kernel
theorem dX12_layer_13 : decode cX12_layer 13 = .ok (.iaload, 1) := by decide +kernel
theorem dX12_layer_14 : decode cX12_layer 14 = .ok (.ireturn, 1) := by decide +kernel
theorem dX12_areAlike_0 : decode cX12_areAlike 0 = .ok (.iload_n 0, 1) := by decide +kernel
theorem dX12_areAlike_1 : decode cX12_areAlike 1 = .ok (.ifCond .le 7, 3) := by decide +kernel
theorem dX12_areAlike_4 : decode cX12_areAlike 4 = .ok (.iconst 1, 1) := by decide +kernel
theorem dX12_areAlike_5 : decode cX12_areAlike 5 = .ok (.goto 4, 3) := by decide +kernel
theorem dX12_areAlike_8 : decode cX12_areAlike 8 = .ok (.iconst 0, 1) := by decide +kernel
theorem dX12_areAlike_9 : decode cX12_areAlike 9 = .ok (.iload_n 1, 1) := by decide +kernel
theorem dX12_areAlike_10 : decode cX12_areAlike 10 = .ok (.ifCond .le 7, 3) := by decide +kernel
theorem dX12_areAlike_13 : decode cX12_areAlike 13 = .ok (.iconst 1, 1) := by decide +kernel
theorem dX12_areAlike_14 : decode cX12_areAlike 14 = .ok (.goto 4, 3) := by decide +kernel
theorem dX12_areAlike_17 : decode cX12_areAlike 17 = .ok (.iconst 0, 1) := by decide +kernel
theorem dX12_areAlike_18 : decode cX12_areAlike 18 = .ok (.if_icmp .ne 7, 3) := by decide +kernel
theorem dX12_areAlike_21 : decode cX12_areAlike 21 = .ok (.iconst 1, 1) := by decide +kernel
theorem dX12_areAlike_22 : decode cX12_areAlike 22 = .ok (.goto 4, 3) := by decide +kernel
theorem dX12_areAlike_25 : decode cX12_areAlike 25 = .ok (.iconst 0, 1) := by decide +kernel
theorem dX12_areAlike_26 : decode cX12_areAlike 26 = .ok (.ireturn, 1) := by decide +kernel
theorem dX12_putLayer_0 : decode cX12_putLayer 0 = .ok (.aload_n 0, 1) := by decide +kernel
theorem dX12_putLayer_1 : decode cX12_putLayer 1 = .ok (.iload_n 1, 1) := by decide +kernel
theorem dX12_putLayer_2 : decode cX12_putLayer 2 = .ok (.bipush 6, 2) := by decide +kernel
theorem dX12_putLayer_4 : decode cX12_putLayer 4 = .ok (.invokevirtual 93, 3) := by decide +kernel
theorem dX12_putLayer_7 : decode cX12_putLayer 7 = .ok (.iconst 1, 1) := by decide +kernel
theorem dX12_putLayer_8 : decode cX12_putLayer 8 = .ok (.isub, 1) := by decide +kernel
theorem dX12_putLayer_9 : decode cX12_putLayer 9 = .ok (.istore 4, 2) := by decide +kernel
theorem dX12_putLayer_11 : decode cX12_putLayer 11 = .ok (.iload_n 3, 1) := by decide +kernel
theorem dX12_putLayer_12 : decode cX12_putLayer 12 = .ok (.ifCond .eq 54, 3) := by decide +kernel
theorem dX12_putLayer_15 : decode cX12_putLayer 15 = .ok (.iload 4, 2) := by decide +kernel
theorem dX12_putLayer_17 : decode cX12_putLayer 17 = .ok (.ifCond .lt 49, 3) := by decide +kernel
theorem dX12_putLayer_20 : decode cX12_putLayer 20 = .ok (.aload_n 0, 1) := by decide +kernel
theorem dX12_putLayer_21 : decode cX12_putLayer 21 = .ok (.iload_n 1, 1) := by decide +kernel
theorem dX12_putLayer_22 : decode cX12_putLayer 22 = .ok (.iload 4, 2) := by decide +kernel
theorem dX12_putLayer_24 : decode cX12_putLayer 24 = .ok (.invokevirtual 97, 3) := by decide +kernel
theorem dX12_putLayer_27 : decode cX12_putLayer 27 = .ok (.iload_n 2, 1) := by decide +kernel
theorem dX12_putLayer_28 : decode cX12_putLayer 28 = .ok (.invokestatic 100, 3) := by decide +kernel
theorem dX12_putLayer_31 : decode cX12_putLayer 31 = .ok (.ifCond .eq 35, 3) := by decide +kernel
theorem dX12_putLayer_34 : decode cX12_putLayer 34 = .ok (.aload_n 0, 1) := by decide +kernel
theorem dX12_putLayer_35 : decode cX12_putLayer 35 = .ok (.iload_n 1, 1) := by decide +kernel
theorem dX12_putLayer_36 : decode cX12_putLayer 36 = .ok (.bipush 7, 2) := by decide +kernel
theorem dX12_putLayer_38 : decode cX12_putLayer 38 = .ok (.iload 4, 2) := by decide +kernel
theorem dX12_putLayer_40 : decode cX12_putLayer 40 = .ok (.iadd, 1) := by decide +kernel
theorem dX12_putLayer_41 : decode cX12_putLayer 41 = .ok (.aload_n 0, 1) := by decide +kernel
theorem dX12_putLayer_42 : decode cX12_putLayer 42 = .ok (.iload_n 1, 1) := by decide +kernel
theorem dX12_putLayer_43 : decode cX12_putLayer 43 = .ok (.iload 4, 2) := by decide +kernel
theorem dX12_putLayer_45 : decode cX12_putLayer 45 = .ok (.invokevirtual 97, 3) := by decide +kernel
theorem dX12_putLayer_48 : decode cX12_putLayer 48 = .ok (.iload_n 2, 1) := by decide +kernel
theorem dX12_putLayer_49 : decode cX12_putLayer 49 = .ok (.iadd, 1) := by decide +kernel
theorem dX12_putLayer_50 : decode cX12_putLayer 50 = .ok (.invokevirtual 90, 3) := by decide +kernel
theorem dX12_putLayer_53 : decode cX12_putLayer 53 = .ok (.aload_n 0, 1) := by decide +kernel
theorem dX12_putLayer_54 : decode cX12_putLayer 54 = .ok (.dup, 1) := by decide +kernel
theorem dX12_putLayer_55 : decode cX12_putLayer 55 = .ok (.getfield 104, 3) := by decide +kernel
theorem dX12_putLayer_58 : decode cX12_putLayer 58 = .ok (.iconst 1, 1) := by decide +kernel
theorem dX12_putLayer_59 : decode cX12_putLayer 59 = .ok (.iadd, 1) := by decide +kernel
theorem dX12_putLayer_60 : decode cX12_putLayer 60 = .ok (.putfield 104, 3) := by decide +kernel
theorem dX12_putLayer_63 : decode cX12_putLayer 63 = .ok (.goto 9, 3) := by decide +kernel
theorem dX12_putLayer_66 : decode cX12_putLayer 66 = .ok (.aload_n 0, 1) := by decide +kernel
theorem dX12_putLayer_67 : decode cX12_putLayer 67 = .ok (.iload_n 1, 1) := by decide +kernel
theorem dX12_putLayer_68 : decode cX12_putLayer 68 = .ok (.iload_n 2, 1) := by decide +kernel
theorem dX12_putLayer_69 : decode cX12_putLayer 69 = .ok (.invokevirtual 73, 3) := by decide +kernel
theorem dX12_putLayer_72 : decode cX12_putLayer 72 = .ok (.return_, 1) := by decide +kernel
theorem dX12_isSheet_0 : decode cX12_isSheet 0 = .ok (.iload_n 1, 1) := by decide +kernel
theorem dX12_isSheet_1 : decode cX12_isSheet 1 = .ok (.iconst 0, 1) := by decide +kernel
theorem dX12_isSheet_2 : decode cX12_isSheet 2 = .ok (.aload_n 0, 1) := by decide +kernel
theorem dX12_isSheet_3 : decode cX12_isSheet 3 = .ok (.getfield 25, 3) := by decide +kernel
theorem dX12_isSheet_6 : decode cX12_isSheet 6 = .ok (.iconst 3, 1) := by decide +kernel
theorem dX12_isSheet_7 : decode cX12_isSheet 7 = .ok (.iaload, 1) := by decide +kernel
theorem dX12_isSheet_8 : decode cX12_isSheet 8 = .ok (.iconst 1, 1) := by decide +kernel
theorem dX12_isSheet_9 : decode cX12_isSheet 9 = .ok (.isub, 1) := by decide +kernel
theorem dX12_isSheet_10 : decode cX12_isSheet 10 = .ok (.invokestatic 107, 3) := by decide +kernel
theorem dX12_isSheet_13 : decode cX12_isSheet 13 = .ok (.ireturn, 1) := by decide +kernel
theorem dX12_isLayer_0 : decode cX12_isLayer 0 = .ok (.aload_n 0, 1) := by decide +kernel
theorem dX12_isLayer_1 : decode cX12_isLayer 1 = .ok (.iload_n 1, 1) := by decide +kernel
theorem dX12_isLayer_2 : decode cX12_isLayer 2 = .ok (.invokevirtual 111, 3) := by decide +kernel
theorem dX12_isLayer_5 : decode cX12_isLayer 5 = .ok (.ifCond .eq 24, 3) := by decide +kernel
theorem dX12_isLayer_8 : decode cX12_isLayer 8 = .ok (.iload_n 2, 1) := by decide +kernel
theorem dX12_isLayer_9 : decode cX12_isLayer 9 = .ok (.iconst 0, 1) := by decide +kernel
theorem dX12_isLayer_10 : decode cX12_isLayer 10 = .ok (.aload_n 0, 1) := by decide +kernel
theorem dX12_isLayer_11 : decode cX12_isLayer 11 = .ok (.iload_n 1, 1) := by decide +kernel
theorem dX12_isLayer_12 : decode cX12_isLayer 12 = .ok (.bipush 6, 2) := by decide +kernel
theorem dX12_isLayer_14 : decode cX12_isLayer 14 = .ok (.invokevirtual 93, 3) := by decide +kernel
theorem dX12_isLayer_17 : decode cX12_isLayer 17 = .ok (.iconst 1, 1) := by decide +kernel
theorem dX12_isLayer_18 : decode cX12_isLayer 18 = .ok (.isub, 1) := by decide +kernel
theorem dX12_isLayer_19 : decode cX12_isLayer 19 = .ok (.invokestatic 107, 3) := by decide +kernel
theorem dX12_isLayer_22 : decode cX12_isLayer 22 = .ok (.ifCond .eq 7, 3) := by decide +kernel
theorem dX12_isLayer_25 : decode cX12_isLayer 25 = .ok (.iconst 1, 1) := by decide +kernel
theorem dX12_isLayer_26 : decode cX12_isLayer 26 = .ok (.goto 4, 3) := by decide +kernel
theorem dX12_isLayer_29 : decode cX12_isLayer 29 = .ok (.iconst 0, 1) := by decide +kernel
theorem dX12_isLayer_30 : decode cX12_isLayer 30 = .ok (.ireturn, 1) := by decide +kernel
theorem dX12_is_0 : decode cX12_is 0 = .ok (.aload_n 0, 1) := by decide +kernel
theorem dX12_is_1 : decode cX12_is 1 = .ok (.iload_n 1, 1) := by decide +kernel
theorem dX12_is_2 : decode cX12_is 2 = .ok (.iload_n 2, 1) := by decide +kernel
theorem dX12_is_3 : decode cX12_is 3 = .ok (.invokevirtual 93, 3) := by decide +kernel
theorem dX12_is_6 : decode cX12_is 6 = .ok (.iconst 1, 1) := by decide +kernel
theorem dX12_is_7 : decode cX12_is 7 = .ok (.if_icmp .ne 7, 3) := by decide +kernel
theorem dX12_is_10 : decode cX12_is 10 = .ok (.iconst 1, 1) := by decide +kernel
theorem dX12_is_11 : decode cX12_is 11 = .ok (.goto 4, 3) := by decide +kernel
theorem dX12_is_14 : decode cX12_is 14 = .ok (.iconst 0, 1) := by decide +kernel
theorem dX12_is_15 : decode cX12_is 15 = .ok (.ireturn, 1) := by decide +kernel
theorem dX12_copySheet_0 : decode cX12_copySheet 0 = .ok (.aload_n 0, 1) := by decide +kernel
theorem dX12_copySheet_1 : decode cX12_copySheet 1 = .ok (.getfield 25, 3) := by decide +kernel
theorem dX12_copySheet_4 : decode cX12_copySheet 4 = .ok (.iload_n 1, 1) := by decide +kernel
theorem dX12_copySheet_5 : decode cX12_copySheet 5 = .ok (.invokestatic 86, 3) := by decide +kernel
theorem dX12_copySheet_8 : decode cX12_copySheet 8 = .ok (.aload_n 0, 1) := by decide +kernel
theorem dX12_copySheet_9 : decode cX12_copySheet 9 = .ok (.getfield 25, 3) := by decide +kernel
theorem dX12_copySheet_12 : decode cX12_copySheet 12 = .ok (.iload_n 2, 1) := by decide +kernel
theorem dX12_copySheet_13 : decode cX12_copySheet 13 = .ok (.invokestatic 86, 3) := by decide +kernel
theorem dX12_copySheet_16 : decode cX12_copySheet 16 = .ok (.sipush 207, 3) := by decide +kernel
theorem dX12_copySheet_19 : decode cX12_copySheet 19 = .ok (.invokestatic 115, 3) := by decide +kernel
theorem dX12_copySheet_22 : decode cX12_copySheet 22 = .ok (.return_, 1) := by decide +kernel
theorem dX12_heightOf_0 : decode cX12_heightOf 0 = .ok (.iconst 0, 1) := by decide +kernel
theorem dX12_heightOf_1 : decode cX12_heightOf 1 = .ok (.istore_n 2, 1) := by decide +kernel
theorem dX12_heightOf_2 : decode cX12_heightOf 2 = .ok (.iconst 0, 1) := by decide +kernel
theorem dX12_heightOf_3 : decode cX12_heightOf 3 = .ok (.istore_n 3, 1) := by decide +kernel
theorem dX12_heightOf_4 : decode cX12_heightOf 4 = .ok (.iload_n 3, 1) := by decide +kernel
theorem dX12_heightOf_5 : decode cX12_heightOf 5 = .ok (.aload_n 0, 1) := by decide +kernel
theorem dX12_heightOf_6 : decode cX12_heightOf 6 = .ok (.iload_n 1, 1) := by decide +kernel
theorem dX12_heightOf_7 : decode cX12_heightOf 7 = .ok (.bipush 6, 2) := by decide +kernel
theorem dX12_heightOf_9 : decode cX12_heightOf 9 = .ok (.invokevirtual 93, 3) := by decide +kernel
theorem dX12_heightOf_12 : decode cX12_heightOf 12 = .ok (.if_icmp .ge 21, 3) := by decide +kernel
theorem dX12_heightOf_15 : decode cX12_heightOf 15 = .ok (.iload_n 2, 1) := by decide +kernel
theorem dX12_heightOf_16 : decode cX12_heightOf 16 = .ok (.aload_n 0, 1) := by decide +kernel
theorem dX12_heightOf_17 : decode cX12_heightOf 17 = .ok (.iload_n 1, 1) := by decide +kernel
theorem dX12_heightOf_18 : decode cX12_heightOf 18 = .ok (.iload_n 3, 1) := by decide +kernel
theorem dX12_heightOf_19 : decode cX12_heightOf 19 = .ok (.invokevirtual 97, 3) := by decide +kernel
theorem dX12_heightOf_22 : decode cX12_heightOf 22 = .ok (.invokestatic 121, 3) := by decide +kernel
theorem dX12_heightOf_25 : decode cX12_heightOf 25 = .ok (.iadd, 1) := by decide +kernel
theorem dX12_heightOf_26 : decode cX12_heightOf 26 = .ok (.istore_n 2, 1) := by decide +kernel
theorem dX12_heightOf_27 : decode cX12_heightOf 27 = .ok (.iinc 3 1, 3) := by decide +kernel
theorem dX12_heightOf_30 : decode cX12_heightOf 30 = .ok (.goto (-26), 3) := by decide +kernel
theorem dX12_heightOf_33 : decode cX12_heightOf 33 = .ok (.iload_n 2, 1) := by decide +kernel
theorem dX12_heightOf_34 : decode cX12_heightOf 34 = .ok (.ireturn, 1) := by decide +kernel
theorem dX12_butterOf_0 : decode cX12_butterOf 0 = .ok (.iconst 0, 1) := by decide +kernel
theorem dX12_butterOf_1 : decode cX12_butterOf 1 = .ok (.istore_n 2, 1) := by decide +kernel
theorem dX12_butterOf_2 : decode cX12_butterOf 2 = .ok (.iconst 0, 1) := by decide +kernel
theorem dX12_butterOf_3 : decode cX12_butterOf 3 = .ok (.istore_n 3, 1) := by decide +kernel
theorem dX12_butterOf_4 : decode cX12_butterOf 4 = .ok (.iload_n 3, 1) := by decide +kernel
theorem dX12_butterOf_5 : decode cX12_butterOf 5 = .ok (.aload_n 0, 1) := by decide +kernel
theorem dX12_butterOf_6 : decode cX12_butterOf 6 = .ok (.iload_n 1, 1) := by decide +kernel
theorem dX12_butterOf_7 : decode cX12_butterOf 7 = .ok (.bipush 6, 2) := by decide +kernel
theorem dX12_butterOf_9 : decode cX12_butterOf 9 = .ok (.invokevirtual 93, 3) := by decide +kernel
theorem dX12_butterOf_12 : decode cX12_butterOf 12 = .ok (.if_icmp .ge 32, 3) := by decide +kernel
theorem dX12_butterOf_15 : decode cX12_butterOf 15 = .ok (.iload_n 2, 1) := by decide +kernel
theorem dX12_butterOf_16 : decode cX12_butterOf 16 = .ok (.aload_n 0, 1) := by decide +kernel
theorem dX12_butterOf_17 : decode cX12_butterOf 17 = .ok (.iload_n 1, 1) := by decide +kernel
theorem dX12_butterOf_18 : decode cX12_butterOf 18 = .ok (.iload_n 3, 1) := by decide +kernel
theorem dX12_butterOf_19 : decode cX12_butterOf 19 = .ok (.invokevirtual 97, 3) := by decide +kernel
theorem dX12_butterOf_22 : decode cX12_butterOf 22 = .ok (.ifCond .ge 13, 3) := by decide +kernel
theorem dX12_butterOf_25 : decode cX12_butterOf 25 = .ok (.aload_n 0, 1) := by decide +kernel
theorem dX12_butterOf_26 : decode cX12_butterOf 26 = .ok (.iload_n 1, 1) := by decide +kernel
theorem dX12_butterOf_27 : decode cX12_butterOf 27 = .ok (.iload_n 3, 1) := by decide +kernel
theorem dX12_butterOf_28 : decode cX12_butterOf 28 = .ok (.invokevirtual 97, 3) := by decide +kernel
theorem dX12_butterOf_31 : decode cX12_butterOf 31 = .ok (.ineg, 1) := by decide +kernel
theorem dX12_butterOf_32 : decode cX12_butterOf 32 = .ok (.goto 4, 3) := by decide +kernel
theorem dX12_butterOf_35 : decode cX12_butterOf 35 = .ok (.iconst 0, 1) := by decide +kernel
theorem dX12_butterOf_36 : decode cX12_butterOf 36 = .ok (.iadd, 1) := by decide +kernel
theorem dX12_butterOf_37 : decode cX12_butterOf 37 = .ok (.istore_n 2, 1) := by decide +kernel
theorem dX12_butterOf_38 : decode cX12_butterOf 38 = .ok (.iinc 3 1, 3) := by decide +kernel
theorem dX12_butterOf_41 : decode cX12_butterOf 41 = .ok (.goto (-37), 3) := by decide +kernel
theorem dX12_butterOf_44 : decode cX12_butterOf 44 = .ok (.iload_n 2, 1) := by decide +kernel
theorem dX12_butterOf_45 : decode cX12_butterOf 45 = .ok (.ireturn, 1) := by decide +kernel
theorem dX12_countWith_0 : decode cX12_countWith 0 = .ok (.iconst 0, 1) := by decide +kernel
theorem dX12_countWith_1 : decode cX12_countWith 1 = .ok (.istore_n 2, 1) := by decide +kernel
theorem dX12_countWith_2 : decode cX12_countWith 2 = .ok (.iconst 0, 1) := by decide +kernel
theorem dX12_countWith_3 : decode cX12_countWith 3 = .ok (.istore_n 3, 1) := by decide +kernel
theorem dX12_countWith_4 : decode cX12_countWith 4 = .ok (.iload_n 3, 1) := by decide +kernel
theorem dX12_countWith_5 : decode cX12_countWith 5 = .ok (.aload_n 0, 1) := by decide +kernel
theorem dX12_countWith_6 : decode cX12_countWith 6 = .ok (.getfield 25, 3) := by decide +kernel
theorem dX12_countWith_9 : decode cX12_countWith 9 = .ok (.iconst 3, 1) := by decide +kernel
theorem dX12_countWith_10 : decode cX12_countWith 10 = .ok (.iaload, 1) := by decide +kernel
theorem dX12_countWith_11 : decode cX12_countWith 11 = .ok (.if_icmp .ge 26, 3) := by decide +kernel
theorem dX12_countWith_14 : decode cX12_countWith 14 = .ok (.iload_n 2, 1) := by decide +kernel
theorem dX12_countWith_15 : decode cX12_countWith 15 = .ok (.aload_n 0, 1) := by decide +kernel
theorem dX12_countWith_16 : decode cX12_countWith 16 = .ok (.iload_n 3, 1) := by decide +kernel
theorem dX12_countWith_17 : decode cX12_countWith 17 = .ok (.iload_n 1, 1) := by decide +kernel
theorem dX12_countWith_18 : decode cX12_countWith 18 = .ok (.invokevirtual 124, 3) := by decide +kernel
theorem dX12_countWith_21 : decode cX12_countWith 21 = .ok (.ifCond .eq 7, 3) := by decide +kernel
theorem dX12_countWith_24 : decode cX12_countWith 24 = .ok (.iconst 1, 1) := by decide +kernel
theorem dX12_countWith_25 : decode cX12_countWith 25 = .ok (.goto 4, 3) := by decide +kernel
theorem dX12_countWith_28 : decode cX12_countWith 28 = .ok (.iconst 0, 1) := by decide +kernel
theorem dX12_countWith_29 : decode cX12_countWith 29 = .ok (.iadd, 1) := by decide +kernel
theorem dX12_countWith_30 : decode cX12_countWith 30 = .ok (.istore_n 2, 1) := by decide +kernel
theorem dX12_countWith_31 : decode cX12_countWith 31 = .ok (.iinc 3 1, 3) := by decide +kernel
theorem dX12_countWith_34 : decode cX12_countWith 34 = .ok (.goto (-30), 3) := by decide +kernel
theorem dX12_countWith_37 : decode cX12_countWith 37 = .ok (.iload_n 2, 1) := by decide +kernel
theorem dX12_countWith_38 : decode cX12_countWith 38 = .ok (.ireturn, 1) := by decide +kernel
theorem dX12_greatest_0 : decode cX12_greatest 0 = .ok (.iconst (-1), 1) := by decide +kernel
theorem dX12_greatest_1 : decode cX12_greatest 1 = .ok (.istore_n 2, 1) := by decide +kernel
theorem dX12_greatest_2 : decode cX12_greatest 2 = .ok (.iconst 0, 1) := by decide +kernel
theorem dX12_greatest_3 : decode cX12_greatest 3 = .ok (.istore_n 3, 1) := by decide +kernel
theorem dX12_greatest_4 : decode cX12_greatest 4 = .ok (.iload_n 3, 1) := by decide +kernel
theorem dX12_greatest_5 : decode cX12_greatest 5 = .ok (.aload_n 0, 1) := by decide +kernel
theorem dX12_greatest_6 : decode cX12_greatest 6 = .ok (.getfield 25, 3) := by decide +kernel
theorem dX12_greatest_9 : decode cX12_greatest 9 = .ok (.iconst 3, 1) := by decide +kernel
theorem dX12_greatest_10 : decode cX12_greatest 10 = .ok (.iaload, 1) := by decide +kernel
theorem dX12_greatest_11 : decode cX12_greatest 11 = .ok (.if_icmp .ge 35, 3) := by decide +kernel
theorem dX12_greatest_14 : decode cX12_greatest 14 = .ok (.iload_n 2, 1) := by decide +kernel
theorem dX12_greatest_15 : decode cX12_greatest 15 = .ok (.iconst (-1), 1) := by decide +kernel
theorem dX12_greatest_16 : decode cX12_greatest 16 = .ok (.if_icmp .eq 18, 3) := by decide +kernel
theorem dX12_greatest_19 : decode cX12_greatest 19 = .ok (.aload_n 0, 1) := by decide +kernel
theorem dX12_greatest_20 : decode cX12_greatest 20 = .ok (.iload_n 3, 1) := by decide +kernel
theorem dX12_greatest_21 : decode cX12_greatest 21 = .ok (.iload_n 1, 1) := by decide +kernel
theorem dX12_greatest_22 : decode cX12_greatest 22 = .ok (.invokevirtual 93, 3) := by decide +kernel
theorem dX12_greatest_25 : decode cX12_greatest 25 = .ok (.aload_n 0, 1) := by decide +kernel
theorem dX12_greatest_26 : decode cX12_greatest 26 = .ok (.iload_n 2, 1) := by decide +kernel
theorem dX12_greatest_27 : decode cX12_greatest 27 = .ok (.iload_n 1, 1) := by decide +kernel
theorem dX12_greatest_28 : decode cX12_greatest 28 = .ok (.invokevirtual 93, 3) := by decide +kernel
theorem dX12_greatest_31 : decode cX12_greatest 31 = .ok (.if_icmp .le 7, 3) := by decide +kernel
theorem dX12_greatest_34 : decode cX12_greatest 34 = .ok (.iload_n 3, 1) := by decide +kernel
theorem dX12_greatest_35 : decode cX12_greatest 35 = .ok (.goto 4, 3) := by decide +kernel
theorem dX12_greatest_38 : decode cX12_greatest 38 = .ok (.iload_n 2, 1) := by decide +kernel
theorem dX12_greatest_39 : decode cX12_greatest 39 = .ok (.istore_n 2, 1) := by decide +kernel
theorem dX12_greatest_40 : decode cX12_greatest 40 = .ok (.iinc 3 1, 3) := by decide +kernel
theorem dX12_greatest_43 : decode cX12_greatest 43 = .ok (.goto (-39), 3) := by decide +kernel
theorem dX12_greatest_46 : decode cX12_greatest 46 = .ok (.iload_n 2, 1) := by decide +kernel
theorem dX12_greatest_47 : decode cX12_greatest 47 = .ok (.ireturn, 1) := by decide +kernel
theorem dX12_sheetCount_0 : decode cX12_sheetCount 0 = .ok (.aload_n 0, 1) := by decide +kernel
theorem dX12_sheetCount_1 : decode cX12_sheetCount 1 = .ok (.iconst 0, 1) := by decide +kernel
theorem dX12_sheetCount_2 : decode cX12_sheetCount 2 = .ok (.putfield 79, 3) := by decide +kernel
theorem dX12_sheetCount_5 : decode cX12_sheetCount 5 = .ok (.aload_n 0, 1) := by decide +kernel
theorem dX12_sheetCount_6 : decode cX12_sheetCount 6 = .ok (.getfield 25, 3) := by decide +kernel
theorem dX12_sheetCount_9 : decode cX12_sheetCount 9 = .ok (.iconst 3, 1) := by decide +kernel
theorem dX12_sheetCount_10 : decode cX12_sheetCount 10 = .ok (.iaload, 1) := by decide +kernel
theorem dX12_sheetCount_11 : decode cX12_sheetCount 11 = .ok (.ireturn, 1) := by decide +kernel
theorem dX12_roomTemperature_0 : decode cX12_roomTemperature 0 = .ok (.aload_n 0, 1) := by decide +kernel
theorem dX12_roomTemperature_1 : decode cX12_roomTemperature 1 = .ok (.iconst 0, 1) := by decide +kernel
theorem dX12_roomTemperature_2 : decode cX12_roomTemperature 2 = .ok (.putfield 79, 3) := by decide +kernel
theorem dX12_roomTemperature_5 : decode cX12_roomTemperature 5 = .ok (.aload_n 0, 1) := by decide +kernel
theorem dX12_roomTemperature_6 : decode cX12_roomTemperature 6 = .ok (.getfield 25, 3) := by decide +kernel
theorem dX12_roomTemperature_9 : decode cX12_roomTemperature 9 = .ok (.iconst 0, 1) := by decide +kernel
theorem dX12_roomTemperature_10 : decode cX12_roomTemperature 10 = .ok (.iaload, 1) := by decide +kernel
theorem dX12_roomTemperature_11 : decode cX12_roomTemperature 11 = .ok (.ireturn, 1) := by decide +kernel
theorem dX12_meltingPoint_0 : decode cX12_meltingPoint 0 = .ok (.aload_n 0, 1) := by decide +kernel
theorem dX12_meltingPoint_1 : decode cX12_meltingPoint 1 = .ok (.iconst 0, 1) := by decide +kernel
theorem dX12_meltingPoint_2 : decode cX12_meltingPoint 2 = .ok (.putfield 79, 3) := by decide +kernel
theorem dX12_meltingPoint_5 : decode cX12_meltingPoint 5 = .ok (.aload_n 0, 1) := by decide +kernel
theorem dX12_meltingPoint_6 : decode cX12_meltingPoint 6 = .ok (.getfield 25, 3) := by decide +kernel
theorem dX12_meltingPoint_9 : decode cX12_meltingPoint 9 = .ok (.iconst 1, 1) := by decide +kernel
theorem dX12_meltingPoint_10 : decode cX12_meltingPoint 10 = .ok (.iaload, 1) := by decide +kernel
theorem dX12_meltingPoint_11 : decode cX12_meltingPoint 11 = .ok (.ireturn, 1) := by decide +kernel
theorem dX12_flour_0 : decode cX12_flour 0 = .ok (.aload_n 0, 1) := by decide +kernel
theorem dX12_flour_1 : decode cX12_flour 1 = .ok (.iconst 0, 1) := by decide +kernel
theorem dX12_flour_2 : decode cX12_flour 2 = .ok (.putfield 79, 3) := by decide +kernel
theorem dX12_flour_5 : decode cX12_flour 5 = .ok (.aload_n 0, 1) := by decide +kernel
theorem dX12_flour_6 : decode cX12_flour 6 = .ok (.getfield 25, 3) := by decide +kernel
theorem dX12_flour_9 : decode cX12_flour 9 = .ok (.iconst 2, 1) := by decide +kernel
theorem dX12_flour_10 : decode cX12_flour 10 = .ok (.iaload, 1) := by decide +kernel
theorem dX12_flour_11 : decode cX12_flour 11 = .ok (.ireturn, 1) := by decide +kernel
theorem dX12_hoursPassed_0 : decode cX12_hoursPassed 0 = .ok (.aload_n 0, 1) := by decide +kernel
theorem dX12_hoursPassed_1 : decode cX12_hoursPassed 1 = .ok (.iconst 0, 1) := by decide +kernel
theorem dX12_hoursPassed_2 : decode cX12_hoursPassed 2 = .ok (.putfield 79, 3) := by decide +kernel
theorem dX12_hoursPassed_5 : decode cX12_hoursPassed 5 = .ok (.aload_n 0, 1) := by decide +kernel
theorem dX12_hoursPassed_6 : decode cX12_hoursPassed 6 = .ok (.getfield 25, 3) := by decide +kernel
theorem dX12_hoursPassed_9 : decode cX12_hoursPassed 9 = .ok (.iconst 4, 1) := by decide +kernel
theorem dX12_hoursPassed_10 : decode cX12_hoursPassed 10 = .ok (.iaload, 1) := by decide +kernel
theorem dX12_hoursPassed_11 : decode cX12_hoursPassed 11 = .ok (.ireturn, 1) := by decide +kernel
theorem dX12_escapedButter_0 : decode cX12_escapedButter 0 = .ok (.aload_n 0, 1) := by decide +kernel
theorem dX12_escapedButter_1 : decode cX12_escapedButter 1 = .ok (.iconst 0, 1) := by decide +kernel
theorem dX12_escapedButter_2 : decode cX12_escapedButter 2 = .ok (.putfield 79, 3) := by decide +kernel
theorem dX12_escapedButter_5 : decode cX12_escapedButter 5 = .ok (.aload_n 0, 1) := by decide +kernel
theorem dX12_escapedButter_6 : decode cX12_escapedButter 6 = .ok (.getfield 25, 3) := by decide +kernel
theorem dX12_escapedButter_9 : decode cX12_escapedButter 9 = .ok (.iconst 5, 1) := by decide +kernel
theorem dX12_escapedButter_10 : decode cX12_escapedButter 10 = .ok (.iaload, 1) := by decide +kernel
theorem dX12_escapedButter_11 : decode cX12_escapedButter 11 = .ok (.ireturn, 1) := by decide +kernel
theorem dX12_brokenLayers_0 : decode cX12_brokenLayers 0 = .ok (.aload_n 0, 1) := by decide +kernel
theorem dX12_brokenLayers_1 : decode cX12_brokenLayers 1 = .ok (.iconst 0, 1) := by decide +kernel
theorem dX12_brokenLayers_2 : decode cX12_brokenLayers 2 = .ok (.putfield 79, 3) := by decide +kernel
theorem dX12_brokenLayers_5 : decode cX12_brokenLayers 5 = .ok (.aload_n 0, 1) := by decide +kernel
theorem dX12_brokenLayers_6 : decode cX12_brokenLayers 6 = .ok (.getfield 25, 3) := by decide +kernel
theorem dX12_brokenLayers_9 : decode cX12_brokenLayers 9 = .ok (.bipush 6, 2) := by decide +kernel
theorem dX12_brokenLayers_11 : decode cX12_brokenLayers 11 = .ok (.iaload, 1) := by decide +kernel
theorem dX12_brokenLayers_12 : decode cX12_brokenLayers 12 = .ok (.ireturn, 1) := by decide +kernel
theorem dX12_warmestSheet_0 : decode cX12_warmestSheet 0 = .ok (.aload_n 0, 1) := by decide +kernel
theorem dX12_warmestSheet_1 : decode cX12_warmestSheet 1 = .ok (.iconst 0, 1) := by decide +kernel
theorem dX12_warmestSheet_2 : decode cX12_warmestSheet 2 = .ok (.putfield 79, 3) := by decide +kernel
theorem dX12_warmestSheet_5 : decode cX12_warmestSheet 5 = .ok (.aload_n 0, 1) := by decide +kernel
theorem dX12_warmestSheet_6 : decode cX12_warmestSheet 6 = .ok (.iconst 0, 1) := by decide +kernel
theorem dX12_warmestSheet_7 : decode cX12_warmestSheet 7 = .ok (.invokevirtual 127, 3) := by decide +kernel
theorem dX12_warmestSheet_10 : decode cX12_warmestSheet 10 = .ok (.ireturn, 1) := by decide +kernel
theorem dX12_finestSheet_0 : decode cX12_finestSheet 0 = .ok (.aload_n 0, 1) := by decide +kernel
theorem dX12_finestSheet_1 : decode cX12_finestSheet 1 = .ok (.iconst 0, 1) := by decide +kernel
theorem dX12_finestSheet_2 : decode cX12_finestSheet 2 = .ok (.putfield 79, 3) := by decide +kernel
theorem dX12_finestSheet_5 : decode cX12_finestSheet 5 = .ok (.aload_n 0, 1) := by decide +kernel
theorem dX12_finestSheet_6 : decode cX12_finestSheet 6 = .ok (.bipush 6, 2) := by decide +kernel
theorem dX12_finestSheet_8 : decode cX12_finestSheet 8 = .ok (.invokevirtual 127, 3) := by decide +kernel
theorem dX12_finestSheet_11 : decode cX12_finestSheet 11 = .ok (.ireturn, 1) := by decide +kernel
theorem dX12_told_0 : decode cX12_told 0 = .ok (.aload_n 0, 1) := by decide +kernel
theorem dX12_told_1 : decode cX12_told 1 = .ok (.aload_n 0, 1) := by decide +kernel
theorem dX12_told_2 : decode cX12_told 2 = .ok (.iload_n 1, 1) := by decide +kernel
theorem dX12_told_3 : decode cX12_told 3 = .ok (.invokevirtual 111, 3) := by decide +kernel
theorem dX12_told_6 : decode cX12_told 6 = .ok (.invokevirtual 82, 3) := by decide +kernel
theorem dX12_told_9 : decode cX12_told 9 = .ok (.ifCond .eq 7, 3) := by decide +kernel
theorem dX12_told_12 : decode cX12_told 12 = .ok (.iconst 0, 1) := by decide +kernel
theorem dX12_told_13 : decode cX12_told 13 = .ok (.goto 9, 3) := by decide +kernel
theorem dX12_told_16 : decode cX12_told 16 = .ok (.aload_n 0, 1) := by decide +kernel
theorem dX12_told_17 : decode cX12_told 17 = .ok (.iload_n 1, 1) := by decide +kernel
theorem dX12_told_18 : decode cX12_told 18 = .ok (.iload_n 2, 1) := by decide +kernel
theorem dX12_told_19 : decode cX12_told 19 = .ok (.invokevirtual 93, 3) := by decide +kernel
theorem dX12_told_22 : decode cX12_told 22 = .ok (.ireturn, 1) := by decide +kernel
theorem dX12_toldIs_0 : decode cX12_toldIs 0 = .ok (.aload_n 0, 1) := by decide +kernel
theorem dX12_toldIs_1 : decode cX12_toldIs 1 = .ok (.aload_n 0, 1) := by decide +kernel
theorem dX12_toldIs_2 : decode cX12_toldIs 2 = .ok (.iload_n 1, 1) := by decide +kernel
theorem dX12_toldIs_3 : decode cX12_toldIs 3 = .ok (.invokevirtual 111, 3) := by decide +kernel
theorem dX12_toldIs_6 : decode cX12_toldIs 6 = .ok (.invokevirtual 82, 3) := by decide +kernel
theorem dX12_toldIs_9 : decode cX12_toldIs 9 = .ok (.ifCond .ne 16, 3) := by decide +kernel
theorem dX12_toldIs_12 : decode cX12_toldIs 12 = .ok (.aload_n 0, 1) := by decide +kernel
theorem dX12_toldIs_13 : decode cX12_toldIs 13 = .ok (.iload_n 1, 1) := by decide +kernel
theorem dX12_toldIs_14 : decode cX12_toldIs 14 = .ok (.iload_n 2, 1) := by decide +kernel
theorem dX12_toldIs_15 : decode cX12_toldIs 15 = .ok (.invokevirtual 124, 3) := by decide +kernel
theorem dX12_toldIs_18 : decode cX12_toldIs 18 = .ok (.ifCond .eq 7, 3) := by decide +kernel
theorem dX12_toldIs_21 : decode cX12_toldIs 21 = .ok (.iconst 1, 1) := by decide +kernel
theorem dX12_toldIs_22 : decode cX12_toldIs 22 = .ok (.goto 4, 3) := by decide +kernel
theorem dX12_toldIs_25 : decode cX12_toldIs 25 = .ok (.iconst 0, 1) := by decide +kernel
theorem dX12_toldIs_26 : decode cX12_toldIs 26 = .ok (.ireturn, 1) := by decide +kernel
theorem dX12_layerCount_0 : decode cX12_layerCount 0 = .ok (.aload_n 0, 1) := by decide +kernel
theorem dX12_layerCount_1 : decode cX12_layerCount 1 = .ok (.iload_n 1, 1) := by decide +kernel
theorem dX12_layerCount_2 : decode cX12_layerCount 2 = .ok (.bipush 6, 2) := by decide +kernel
theorem dX12_layerCount_4 : decode cX12_layerCount 4 = .ok (.invokevirtual 130, 3) := by decide +kernel
theorem dX12_layerCount_7 : decode cX12_layerCount 7 = .ok (.ireturn, 1) := by decide +kernel
theorem dX12_butterLayerCount_0 : decode cX12_butterLayerCount 0 = .ok (.aload_n 0, 1) := by decide +kernel
theorem dX12_butterLayerCount_1 : decode cX12_butterLayerCount 1 = .ok (.aload_n 0, 1) := by decide +kernel
theorem dX12_butterLayerCount_2 : decode cX12_butterLayerCount 2 = .ok (.iload_n 1, 1) := by decide +kernel
theorem dX12_butterLayerCount_3 : decode cX12_butterLayerCount 3 = .ok (.invokevirtual 111, 3) := by decide +kernel
theorem dX12_butterLayerCount_6 : decode cX12_butterLayerCount 6 = .ok (.invokevirtual 82, 3) := by decide +kernel
theorem dX12_butterLayerCount_9 : decode cX12_butterLayerCount 9 = .ok (.ifCond .eq 5, 3) := by decide +kernel
theorem dX12_butterLayerCount_12 : decode cX12_butterLayerCount 12 = .ok (.iconst 0, 1) := by decide +kernel
theorem dX12_butterLayerCount_13 : decode cX12_butterLayerCount 13 = .ok (.ireturn, 1) := by decide +kernel
theorem dX12_butterLayerCount_14 : decode cX12_butterLayerCount 14 = .ok (.iconst 0, 1) := by decide +kernel
theorem dX12_butterLayerCount_15 : decode cX12_butterLayerCount 15 = .ok (.istore_n 2, 1) := by decide +kernel
theorem dX12_butterLayerCount_16 : decode cX12_butterLayerCount 16 = .ok (.iconst 0, 1) := by decide +kernel
theorem dX12_butterLayerCount_17 : decode cX12_butterLayerCount 17 = .ok (.istore_n 3, 1) := by decide +kernel
theorem dX12_butterLayerCount_18 : decode cX12_butterLayerCount 18 = .ok (.iload_n 3, 1) := by decide +kernel
theorem dX12_butterLayerCount_19 : decode cX12_butterLayerCount 19 = .ok (.aload_n 0, 1) := by decide +kernel
theorem dX12_butterLayerCount_20 : decode cX12_butterLayerCount 20 = .ok (.iload_n 1, 1) := by decide +kernel
theorem dX12_butterLayerCount_21 : decode cX12_butterLayerCount 21 = .ok (.bipush 6, 2) := by decide +kernel
theorem dX12_butterLayerCount_23 : decode cX12_butterLayerCount 23 = .ok (.invokevirtual 93, 3) := by decide +kernel
theorem dX12_butterLayerCount_26 : decode cX12_butterLayerCount 26 = .ok (.if_icmp .ge 26, 3) := by decide +kernel
theorem dX12_butterLayerCount_29 : decode cX12_butterLayerCount 29 = .ok (.iload_n 2, 1) := by decide +kernel
theorem dX12_butterLayerCount_30 : decode cX12_butterLayerCount 30 = .ok (.aload_n 0, 1) := by decide +kernel
theorem dX12_butterLayerCount_31 : decode cX12_butterLayerCount 31 = .ok (.iload_n 1, 1) := by decide +kernel
theorem dX12_butterLayerCount_32 : decode cX12_butterLayerCount 32 = .ok (.iload_n 3, 1) := by decide +kernel
theorem dX12_butterLayerCount_33 : decode cX12_butterLayerCount 33 = .ok (.invokevirtual 97, 3) := by decide +kernel
theorem dX12_butterLayerCount_36 : decode cX12_butterLayerCount 36 = .ok (.ifCond .ge 7, 3) := by decide +kernel
theorem dX12_butterLayerCount_39 : decode cX12_butterLayerCount 39 = .ok (.iconst 1, 1) := by decide +kernel
theorem dX12_butterLayerCount_40 : decode cX12_butterLayerCount 40 = .ok (.goto 4, 3) := by decide +kernel
theorem dX12_butterLayerCount_43 : decode cX12_butterLayerCount 43 = .ok (.iconst 0, 1) := by decide +kernel
theorem dX12_butterLayerCount_44 : decode cX12_butterLayerCount 44 = .ok (.iadd, 1) := by decide +kernel
theorem dX12_butterLayerCount_45 : decode cX12_butterLayerCount 45 = .ok (.istore_n 2, 1) := by decide +kernel
theorem dX12_butterLayerCount_46 : decode cX12_butterLayerCount 46 = .ok (.iinc 3 1, 3) := by decide +kernel
theorem dX12_butterLayerCount_49 : decode cX12_butterLayerCount 49 = .ok (.goto (-31), 3) := by decide +kernel
theorem dX12_butterLayerCount_52 : decode cX12_butterLayerCount 52 = .ok (.iload_n 2, 1) := by decide +kernel
theorem dX12_butterLayerCount_53 : decode cX12_butterLayerCount 53 = .ok (.ireturn, 1) := by decide +kernel
theorem dX12_isButter_0 : decode cX12_isButter 0 = .ok (.aload_n 0, 1) := by decide +kernel
theorem dX12_isButter_1 : decode cX12_isButter 1 = .ok (.aload_n 0, 1) := by decide +kernel
theorem dX12_isButter_2 : decode cX12_isButter 2 = .ok (.iload_n 1, 1) := by decide +kernel
theorem dX12_isButter_3 : decode cX12_isButter 3 = .ok (.iload_n 2, 1) := by decide +kernel
theorem dX12_isButter_4 : decode cX12_isButter 4 = .ok (.invokevirtual 133, 3) := by decide +kernel
theorem dX12_isButter_7 : decode cX12_isButter 7 = .ok (.invokevirtual 82, 3) := by decide +kernel
theorem dX12_isButter_10 : decode cX12_isButter 10 = .ok (.ifCond .ne 16, 3) := by decide +kernel
theorem dX12_isButter_13 : decode cX12_isButter 13 = .ok (.aload_n 0, 1) := by decide +kernel
theorem dX12_isButter_14 : decode cX12_isButter 14 = .ok (.iload_n 1, 1) := by decide +kernel
theorem dX12_isButter_15 : decode cX12_isButter 15 = .ok (.iload_n 2, 1) := by decide +kernel
theorem dX12_isButter_16 : decode cX12_isButter 16 = .ok (.invokevirtual 97, 3) := by decide +kernel
theorem dX12_isButter_19 : decode cX12_isButter 19 = .ok (.ifCond .ge 7, 3) := by decide +kernel
theorem dX12_isButter_22 : decode cX12_isButter 22 = .ok (.iconst 1, 1) := by decide +kernel
theorem dX12_isButter_23 : decode cX12_isButter 23 = .ok (.goto 4, 3) := by decide +kernel
theorem dX12_isButter_26 : decode cX12_isButter 26 = .ok (.iconst 0, 1) := by decide +kernel
theorem dX12_isButter_27 : decode cX12_isButter 27 = .ok (.ireturn, 1) := by decide +kernel
theorem dX12_thickness_0 : decode cX12_thickness 0 = .ok (.aload_n 0, 1) := by decide +kernel
theorem dX12_thickness_1 : decode cX12_thickness 1 = .ok (.aload_n 0, 1) := by decide +kernel
theorem dX12_thickness_2 : decode cX12_thickness 2 = .ok (.iload_n 1, 1) := by decide +kernel
theorem dX12_thickness_3 : decode cX12_thickness 3 = .ok (.iload_n 2, 1) := by decide +kernel
theorem dX12_thickness_4 : decode cX12_thickness 4 = .ok (.invokevirtual 133, 3) := by decide +kernel
theorem dX12_thickness_7 : decode cX12_thickness 7 = .ok (.invokevirtual 82, 3) := by decide +kernel
theorem dX12_thickness_10 : decode cX12_thickness 10 = .ok (.ifCond .eq 7, 3) := by decide +kernel
theorem dX12_thickness_13 : decode cX12_thickness 13 = .ok (.iconst 0, 1) := by decide +kernel
theorem dX12_thickness_14 : decode cX12_thickness 14 = .ok (.goto 12, 3) := by decide +kernel
theorem dX12_thickness_17 : decode cX12_thickness 17 = .ok (.aload_n 0, 1) := by decide +kernel
theorem dX12_thickness_18 : decode cX12_thickness 18 = .ok (.iload_n 1, 1) := by decide +kernel
theorem dX12_thickness_19 : decode cX12_thickness 19 = .ok (.iload_n 2, 1) := by decide +kernel
theorem dX12_thickness_20 : decode cX12_thickness 20 = .ok (.invokevirtual 97, 3) := by decide +kernel
theorem dX12_thickness_23 : decode cX12_thickness 23 = .ok (.invokestatic 121, 3) := by decide +kernel
theorem dX12_thickness_26 : decode cX12_thickness 26 = .ok (.ireturn, 1) := by decide +kernel
theorem dX12_height_0 : decode cX12_height 0 = .ok (.aload_n 0, 1) := by decide +kernel
theorem dX12_height_1 : decode cX12_height 1 = .ok (.aload_n 0, 1) := by decide +kernel
theorem dX12_height_2 : decode cX12_height 2 = .ok (.iload_n 1, 1) := by decide +kernel
theorem dX12_height_3 : decode cX12_height 3 = .ok (.invokevirtual 111, 3) := by decide +kernel
theorem dX12_height_6 : decode cX12_height 6 = .ok (.invokevirtual 82, 3) := by decide +kernel
theorem dX12_height_9 : decode cX12_height 9 = .ok (.ifCond .eq 7, 3) := by decide +kernel
theorem dX12_height_12 : decode cX12_height 12 = .ok (.iconst 0, 1) := by decide +kernel
theorem dX12_height_13 : decode cX12_height 13 = .ok (.goto 8, 3) := by decide +kernel
theorem dX12_height_16 : decode cX12_height 16 = .ok (.aload_n 0, 1) := by decide +kernel
theorem dX12_height_17 : decode cX12_height 17 = .ok (.iload_n 1, 1) := by decide +kernel
theorem dX12_height_18 : decode cX12_height 18 = .ok (.invokevirtual 136, 3) := by decide +kernel
theorem dX12_height_21 : decode cX12_height 21 = .ok (.ireturn, 1) := by decide +kernel
theorem dX12_butterHeight_0 : decode cX12_butterHeight 0 = .ok (.aload_n 0, 1) := by decide +kernel
theorem dX12_butterHeight_1 : decode cX12_butterHeight 1 = .ok (.aload_n 0, 1) := by decide +kernel
theorem dX12_butterHeight_2 : decode cX12_butterHeight 2 = .ok (.iload_n 1, 1) := by decide +kernel
theorem dX12_butterHeight_3 : decode cX12_butterHeight 3 = .ok (.invokevirtual 111, 3) := by decide +kernel
theorem dX12_butterHeight_6 : decode cX12_butterHeight 6 = .ok (.invokevirtual 82, 3) := by decide +kernel
theorem dX12_butterHeight_9 : decode cX12_butterHeight 9 = .ok (.ifCond .eq 7, 3) := by decide +kernel
theorem dX12_butterHeight_12 : decode cX12_butterHeight 12 = .ok (.iconst 0, 1) := by decide +kernel
theorem dX12_butterHeight_13 : decode cX12_butterHeight 13 = .ok (.goto 8, 3) := by decide +kernel
theorem dX12_butterHeight_16 : decode cX12_butterHeight 16 = .ok (.aload_n 0, 1) := by decide +kernel
theorem dX12_butterHeight_17 : decode cX12_butterHeight 17 = .ok (.iload_n 1, 1) := by decide +kernel
theorem dX12_butterHeight_18 : decode cX12_butterHeight 18 = .ok (.invokevirtual 139, 3) := by decide +kernel
theorem dX12_butterHeight_21 : decode cX12_butterHeight 21 = .ok (.ireturn, 1) := by decide +kernel
theorem dX12_extreme_0 : decode cX12_extreme 0 = .ok (.iconst 0, 1) := by decide +kernel
theorem dX12_extreme_1 : decode cX12_extreme 1 = .ok (.istore_n 3, 1) := by decide +kernel
theorem dX12_extreme_2 : decode cX12_extreme 2 = .ok (.iconst 1, 1) := by decide +kernel
theorem dX12_extreme_3 : decode cX12_extreme 3 = .ok (.istore 4, 2) := by decide +kernel
theorem dX12_extreme_5 : decode cX12_extreme 5 = .ok (.iload 4, 2) := by decide +kernel
theorem dX12_extreme_7 : decode cX12_extreme 7 = .ok (.aload_n 0, 1) := by decide +kernel
theorem dX12_extreme_8 : decode cX12_extreme 8 = .ok (.iload_n 1, 1) := by decide +kernel
theorem dX12_extreme_9 : decode cX12_extreme 9 = .ok (.bipush 6, 2) := by decide +kernel
theorem dX12_extreme_11 : decode cX12_extreme 11 = .ok (.invokevirtual 93, 3) := by decide +kernel
theorem dX12_extreme_14 : decode cX12_extreme 14 = .ok (.if_icmp .ge 42, 3) := by decide +kernel
theorem dX12_extreme_17 : decode cX12_extreme 17 = .ok (.iload_n 2, 1) := by decide +kernel
theorem dX12_extreme_18 : decode cX12_extreme 18 = .ok (.aload_n 0, 1) := by decide +kernel
theorem dX12_extreme_19 : decode cX12_extreme 19 = .ok (.iload_n 1, 1) := by decide +kernel
theorem dX12_extreme_20 : decode cX12_extreme 20 = .ok (.iload 4, 2) := by decide +kernel
theorem dX12_extreme_22 : decode cX12_extreme 22 = .ok (.invokevirtual 97, 3) := by decide +kernel
theorem dX12_extreme_25 : decode cX12_extreme 25 = .ok (.invokestatic 121, 3) := by decide +kernel
theorem dX12_extreme_28 : decode cX12_extreme 28 = .ok (.imul, 1) := by decide +kernel
theorem dX12_extreme_29 : decode cX12_extreme 29 = .ok (.iload_n 2, 1) := by decide +kernel
theorem dX12_extreme_30 : decode cX12_extreme 30 = .ok (.aload_n 0, 1) := by decide +kernel
theorem dX12_extreme_31 : decode cX12_extreme 31 = .ok (.iload_n 1, 1) := by decide +kernel
theorem dX12_extreme_32 : decode cX12_extreme 32 = .ok (.iload_n 3, 1) := by decide +kernel
theorem dX12_extreme_33 : decode cX12_extreme 33 = .ok (.invokevirtual 97, 3) := by decide +kernel
theorem dX12_extreme_36 : decode cX12_extreme 36 = .ok (.invokestatic 121, 3) := by decide +kernel
theorem dX12_extreme_39 : decode cX12_extreme 39 = .ok (.imul, 1) := by decide +kernel
theorem dX12_extreme_40 : decode cX12_extreme 40 = .ok (.if_icmp .ge 8, 3) := by decide +kernel
theorem dX12_extreme_43 : decode cX12_extreme 43 = .ok (.iload 4, 2) := by decide +kernel
theorem dX12_extreme_45 : decode cX12_extreme 45 = .ok (.goto 4, 3) := by decide +kernel
theorem dX12_extreme_48 : decode cX12_extreme 48 = .ok (.iload_n 3, 1) := by decide +kernel
theorem dX12_extreme_49 : decode cX12_extreme 49 = .ok (.istore_n 3, 1) := by decide +kernel
theorem dX12_extreme_50 : decode cX12_extreme 50 = .ok (.iinc 4 1, 3) := by decide +kernel
theorem dX12_extreme_53 : decode cX12_extreme 53 = .ok (.goto (-48), 3) := by decide +kernel
theorem dX12_extreme_56 : decode cX12_extreme 56 = .ok (.iload_n 3, 1) := by decide +kernel
theorem dX12_extreme_57 : decode cX12_extreme 57 = .ok (.ireturn, 1) := by decide +kernel
theorem dX12_thinnestLayer_0 : decode cX12_thinnestLayer 0 = .ok (.aload_n 0, 1) := by decide +kernel
theorem dX12_thinnestLayer_1 : decode cX12_thinnestLayer 1 = .ok (.aload_n 0, 1) := by decide +kernel
theorem dX12_thinnestLayer_2 : decode cX12_thinnestLayer 2 = .ok (.iload_n 1, 1) := by decide +kernel
theorem dX12_thinnestLayer_3 : decode cX12_thinnestLayer 3 = .ok (.invokevirtual 111, 3) := by decide +kernel
theorem dX12_thinnestLayer_6 : decode cX12_thinnestLayer 6 = .ok (.invokevirtual 82, 3) := by decide +kernel
theorem dX12_thinnestLayer_9 : decode cX12_thinnestLayer 9 = .ok (.ifCond .eq 7, 3) := by decide +kernel
theorem dX12_thinnestLayer_12 : decode cX12_thinnestLayer 12 = .ok (.iconst 0, 1) := by decide +kernel
theorem dX12_thinnestLayer_13 : decode cX12_thinnestLayer 13 = .ok (.goto 9, 3) := by decide +kernel
theorem dX12_thinnestLayer_16 : decode cX12_thinnestLayer 16 = .ok (.aload_n 0, 1) := by decide +kernel
theorem dX12_thinnestLayer_17 : decode cX12_thinnestLayer 17 = .ok (.iload_n 1, 1) := by decide +kernel
theorem dX12_thinnestLayer_18 : decode cX12_thinnestLayer 18 = .ok (.iconst 1, 1) := by decide +kernel
theorem dX12_thinnestLayer_19 : decode cX12_thinnestLayer 19 = .ok (.invokevirtual 142, 3) := by decide +kernel
theorem dX12_thinnestLayer_22 : decode cX12_thinnestLayer 22 = .ok (.ireturn, 1) := by decide +kernel
theorem dX12_thickestLayer_0 : decode cX12_thickestLayer 0 = .ok (.aload_n 0, 1) := by decide +kernel
theorem dX12_thickestLayer_1 : decode cX12_thickestLayer 1 = .ok (.aload_n 0, 1) := by decide +kernel
theorem dX12_thickestLayer_2 : decode cX12_thickestLayer 2 = .ok (.iload_n 1, 1) := by decide +kernel
theorem dX12_thickestLayer_3 : decode cX12_thickestLayer 3 = .ok (.invokevirtual 111, 3) := by decide +kernel
theorem dX12_thickestLayer_6 : decode cX12_thickestLayer 6 = .ok (.invokevirtual 82, 3) := by decide +kernel
theorem dX12_thickestLayer_9 : decode cX12_thickestLayer 9 = .ok (.ifCond .eq 7, 3) := by decide +kernel
theorem dX12_thickestLayer_12 : decode cX12_thickestLayer 12 = .ok (.iconst 0, 1) := by decide +kernel
theorem dX12_thickestLayer_13 : decode cX12_thickestLayer 13 = .ok (.goto 9, 3) := by decide +kernel
theorem dX12_thickestLayer_16 : decode cX12_thickestLayer 16 = .ok (.aload_n 0, 1) := by decide +kernel
theorem dX12_thickestLayer_17 : decode cX12_thickestLayer 17 = .ok (.iload_n 1, 1) := by decide +kernel
theorem dX12_thickestLayer_18 : decode cX12_thickestLayer 18 = .ok (.iconst (-1), 1) := by decide +kernel
theorem dX12_thickestLayer_19 : decode cX12_thickestLayer 19 = .ok (.invokevirtual 142, 3) := by decide +kernel
theorem dX12_thickestLayer_22 : decode cX12_thickestLayer 22 = .ok (.ireturn, 1) := by decide +kernel
theorem dX12_seamCount_0 : decode cX12_seamCount 0 = .ok (.aload_n 0, 1) := by decide +kernel
theorem dX12_seamCount_1 : decode cX12_seamCount 1 = .ok (.aload_n 0, 1) := by decide +kernel
theorem dX12_seamCount_2 : decode cX12_seamCount 2 = .ok (.iload_n 1, 1) := by decide +kernel
theorem dX12_seamCount_3 : decode cX12_seamCount 3 = .ok (.invokevirtual 111, 3) := by decide +kernel
theorem dX12_seamCount_6 : decode cX12_seamCount 6 = .ok (.invokevirtual 82, 3) := by decide +kernel
theorem dX12_seamCount_9 : decode cX12_seamCount 9 = .ok (.ifCond .eq 5, 3) := by decide +kernel
theorem dX12_seamCount_12 : decode cX12_seamCount 12 = .ok (.iconst 0, 1) := by decide +kernel
theorem dX12_seamCount_13 : decode cX12_seamCount 13 = .ok (.ireturn, 1) := by decide +kernel
theorem dX12_seamCount_14 : decode cX12_seamCount 14 = .ok (.iconst 0, 1) := by decide +kernel
theorem dX12_seamCount_15 : decode cX12_seamCount 15 = .ok (.istore_n 2, 1) := by decide +kernel
theorem dX12_seamCount_16 : decode cX12_seamCount 16 = .ok (.iconst 1, 1) := by decide +kernel
theorem dX12_seamCount_17 : decode cX12_seamCount 17 = .ok (.istore_n 3, 1) := by decide +kernel
theorem dX12_seamCount_18 : decode cX12_seamCount 18 = .ok (.iload_n 3, 1) := by decide +kernel
theorem dX12_seamCount_19 : decode cX12_seamCount 19 = .ok (.aload_n 0, 1) := by decide +kernel
theorem dX12_seamCount_20 : decode cX12_seamCount 20 = .ok (.iload_n 1, 1) := by decide +kernel
theorem dX12_seamCount_21 : decode cX12_seamCount 21 = .ok (.bipush 6, 2) := by decide +kernel
theorem dX12_seamCount_23 : decode cX12_seamCount 23 = .ok (.invokevirtual 93, 3) := by decide +kernel
theorem dX12_seamCount_26 : decode cX12_seamCount 26 = .ok (.if_icmp .ge 37, 3) := by decide +kernel
theorem dX12_seamCount_29 : decode cX12_seamCount 29 = .ok (.iload_n 2, 1) := by decide +kernel
theorem dX12_seamCount_30 : decode cX12_seamCount 30 = .ok (.aload_n 0, 1) := by decide +kernel
theorem dX12_seamCount_31 : decode cX12_seamCount 31 = .ok (.iload_n 1, 1) := by decide +kernel
theorem dX12_seamCount_32 : decode cX12_seamCount 32 = .ok (.iload_n 3, 1) := by decide +kernel
theorem dX12_seamCount_33 : decode cX12_seamCount 33 = .ok (.invokevirtual 97, 3) := by decide +kernel
theorem dX12_seamCount_36 : decode cX12_seamCount 36 = .ok (.aload_n 0, 1) := by decide +kernel
theorem dX12_seamCount_37 : decode cX12_seamCount 37 = .ok (.iload_n 1, 1) := by decide +kernel
theorem dX12_seamCount_38 : decode cX12_seamCount 38 = .ok (.iload_n 3, 1) := by decide +kernel
theorem dX12_seamCount_39 : decode cX12_seamCount 39 = .ok (.iconst 1, 1) := by decide +kernel
theorem dX12_seamCount_40 : decode cX12_seamCount 40 = .ok (.isub, 1) := by decide +kernel
theorem dX12_seamCount_41 : decode cX12_seamCount 41 = .ok (.invokevirtual 97, 3) := by decide +kernel
theorem dX12_seamCount_44 : decode cX12_seamCount 44 = .ok (.invokestatic 100, 3) := by decide +kernel
theorem dX12_seamCount_47 : decode cX12_seamCount 47 = .ok (.ifCond .eq 7, 3) := by decide +kernel
theorem dX12_seamCount_50 : decode cX12_seamCount 50 = .ok (.iconst 1, 1) := by decide +kernel
theorem dX12_seamCount_51 : decode cX12_seamCount 51 = .ok (.goto 4, 3) := by decide +kernel
theorem dX12_seamCount_54 : decode cX12_seamCount 54 = .ok (.iconst 0, 1) := by decide +kernel
theorem dX12_seamCount_55 : decode cX12_seamCount 55 = .ok (.iadd, 1) := by decide +kernel
theorem dX12_seamCount_56 : decode cX12_seamCount 56 = .ok (.istore_n 2, 1) := by decide +kernel
theorem dX12_seamCount_57 : decode cX12_seamCount 57 = .ok (.iinc 3 1, 3) := by decide +kernel
theorem dX12_seamCount_60 : decode cX12_seamCount 60 = .ok (.goto (-42), 3) := by decide +kernel
theorem dX12_seamCount_63 : decode cX12_seamCount 63 = .ok (.iload_n 2, 1) := by decide +kernel
theorem dX12_seamCount_64 : decode cX12_seamCount 64 = .ok (.ireturn, 1) := by decide +kernel
theorem dX12_isSymmetric_0 : decode cX12_isSymmetric 0 = .ok (.aload_n 0, 1) := by decide +kernel
theorem dX12_isSymmetric_1 : decode cX12_isSymmetric 1 = .ok (.aload_n 0, 1) := by decide +kernel
theorem dX12_isSymmetric_2 : decode cX12_isSymmetric 2 = .ok (.iload_n 1, 1) := by decide +kernel
theorem dX12_isSymmetric_3 : decode cX12_isSymmetric 3 = .ok (.invokevirtual 111, 3) := by decide +kernel
theorem dX12_isSymmetric_6 : decode cX12_isSymmetric 6 = .ok (.invokevirtual 82, 3) := by decide +kernel
theorem dX12_isSymmetric_9 : decode cX12_isSymmetric 9 = .ok (.ifCond .eq 5, 3) := by decide +kernel
theorem dX12_isSymmetric_12 : decode cX12_isSymmetric 12 = .ok (.iconst 0, 1) := by decide +kernel
theorem dX12_isSymmetric_13 : decode cX12_isSymmetric 13 = .ok (.ireturn, 1) := by decide +kernel
theorem dX12_isSymmetric_14 : decode cX12_isSymmetric 14 = .ok (.iconst 0, 1) := by decide +kernel
theorem dX12_isSymmetric_15 : decode cX12_isSymmetric 15 = .ok (.istore_n 2, 1) := by decide +kernel
theorem dX12_isSymmetric_16 : decode cX12_isSymmetric 16 = .ok (.iload_n 2, 1) := by decide +kernel
theorem dX12_isSymmetric_17 : decode cX12_isSymmetric 17 = .ok (.aload_n 0, 1) := by decide +kernel
theorem dX12_isSymmetric_18 : decode cX12_isSymmetric 18 = .ok (.iload_n 1, 1) := by decide +kernel
theorem dX12_isSymmetric_19 : decode cX12_isSymmetric 19 = .ok (.bipush 6, 2) := by decide +kernel
theorem dX12_isSymmetric_21 : decode cX12_isSymmetric 21 = .ok (.invokevirtual 93, 3) := by decide +kernel
theorem dX12_isSymmetric_24 : decode cX12_isSymmetric 24 = .ok (.if_icmp .ge 36, 3) := by decide +kernel
theorem dX12_isSymmetric_27 : decode cX12_isSymmetric 27 = .ok (.aload_n 0, 1) := by decide +kernel
theorem dX12_isSymmetric_28 : decode cX12_isSymmetric 28 = .ok (.iload_n 1, 1) := by decide +kernel
theorem dX12_isSymmetric_29 : decode cX12_isSymmetric 29 = .ok (.iload_n 2, 1) := by decide +kernel
theorem dX12_isSymmetric_30 : decode cX12_isSymmetric 30 = .ok (.invokevirtual 97, 3) := by decide +kernel
theorem dX12_isSymmetric_33 : decode cX12_isSymmetric 33 = .ok (.aload_n 0, 1) := by decide +kernel
theorem dX12_isSymmetric_34 : decode cX12_isSymmetric 34 = .ok (.iload_n 1, 1) := by decide +kernel
theorem dX12_isSymmetric_35 : decode cX12_isSymmetric 35 = .ok (.aload_n 0, 1) := by decide +kernel
theorem dX12_isSymmetric_36 : decode cX12_isSymmetric 36 = .ok (.iload_n 1, 1) := by decide +kernel
theorem dX12_isSymmetric_37 : decode cX12_isSymmetric 37 = .ok (.bipush 6, 2) := by decide +kernel
theorem dX12_isSymmetric_39 : decode cX12_isSymmetric 39 = .ok (.invokevirtual 93, 3) := by decide +kernel
theorem dX12_isSymmetric_42 : decode cX12_isSymmetric 42 = .ok (.iconst 1, 1) := by decide +kernel
theorem dX12_isSymmetric_43 : decode cX12_isSymmetric 43 = .ok (.isub, 1) := by decide +kernel
theorem dX12_isSymmetric_44 : decode cX12_isSymmetric 44 = .ok (.iload_n 2, 1) := by decide +kernel
theorem dX12_isSymmetric_45 : decode cX12_isSymmetric 45 = .ok (.isub, 1) := by decide +kernel
theorem dX12_isSymmetric_46 : decode cX12_isSymmetric 46 = .ok (.invokevirtual 97, 3) := by decide +kernel
theorem dX12_isSymmetric_49 : decode cX12_isSymmetric 49 = .ok (.if_icmp .eq 5, 3) := by decide +kernel
theorem dX12_isSymmetric_52 : decode cX12_isSymmetric 52 = .ok (.iconst 0, 1) := by decide +kernel
theorem dX12_isSymmetric_53 : decode cX12_isSymmetric 53 = .ok (.ireturn, 1) := by decide +kernel
theorem dX12_isSymmetric_54 : decode cX12_isSymmetric 54 = .ok (.iinc 2 1, 3) := by decide +kernel
theorem dX12_isSymmetric_57 : decode cX12_isSymmetric 57 = .ok (.goto (-41), 3) := by decide +kernel
theorem dX12_isSymmetric_60 : decode cX12_isSymmetric 60 = .ok (.iconst 1, 1) := by decide +kernel
theorem dX12_isSymmetric_61 : decode cX12_isSymmetric 61 = .ok (.ireturn, 1) := by decide +kernel
theorem dX12_temperature_0 : decode cX12_temperature 0 = .ok (.aload_n 0, 1) := by decide +kernel
theorem dX12_temperature_1 : decode cX12_temperature 1 = .ok (.iload_n 1, 1) := by decide +kernel
theorem dX12_temperature_2 : decode cX12_temperature 2 = .ok (.iconst 0, 1) := by decide +kernel
theorem dX12_temperature_3 : decode cX12_temperature 3 = .ok (.invokevirtual 130, 3) := by decide +kernel
theorem dX12_temperature_6 : decode cX12_temperature 6 = .ok (.ireturn, 1) := by decide +kernel
theorem dX12_isDusted_0 : decode cX12_isDusted 0 = .ok (.aload_n 0, 1) := by decide +kernel
theorem dX12_isDusted_1 : decode cX12_isDusted 1 = .ok (.iload_n 1, 1) := by decide +kernel
theorem dX12_isDusted_2 : decode cX12_isDusted 2 = .ok (.iconst 1, 1) := by decide +kernel
theorem dX12_isDusted_3 : decode cX12_isDusted 3 = .ok (.invokevirtual 145, 3) := by decide +kernel
theorem dX12_isDusted_6 : decode cX12_isDusted 6 = .ok (.ireturn, 1) := by decide +kernel
theorem dX12_isSealed_0 : decode cX12_isSealed 0 = .ok (.aload_n 0, 1) := by decide +kernel
theorem dX12_isSealed_1 : decode cX12_isSealed 1 = .ok (.iload_n 1, 1) := by decide +kernel
theorem dX12_isSealed_2 : decode cX12_isSealed 2 = .ok (.iconst 2, 1) := by decide +kernel
theorem dX12_isSealed_3 : decode cX12_isSealed 3 = .ok (.invokevirtual 145, 3) := by decide +kernel
theorem dX12_isSealed_6 : decode cX12_isSealed 6 = .ok (.ireturn, 1) := by decide +kernel
theorem dX12_isCooling_0 : decode cX12_isCooling 0 = .ok (.aload_n 0, 1) := by decide +kernel
theorem dX12_isCooling_1 : decode cX12_isCooling 1 = .ok (.iload_n 1, 1) := by decide +kernel
theorem dX12_isCooling_2 : decode cX12_isCooling 2 = .ok (.iconst 3, 1) := by decide +kernel
theorem dX12_isCooling_3 : decode cX12_isCooling 3 = .ok (.invokevirtual 145, 3) := by decide +kernel
theorem dX12_isCooling_6 : decode cX12_isCooling 6 = .ok (.ireturn, 1) := by decide +kernel
theorem dX12_foldCount_0 : decode cX12_foldCount 0 = .ok (.aload_n 0, 1) := by decide +kernel
theorem dX12_foldCount_1 : decode cX12_foldCount 1 = .ok (.iload_n 1, 1) := by decide +kernel
theorem dX12_foldCount_2 : decode cX12_foldCount 2 = .ok (.iconst 4, 1) := by decide +kernel
theorem dX12_foldCount_3 : decode cX12_foldCount 3 = .ok (.invokevirtual 130, 3) := by decide +kernel
theorem dX12_foldCount_6 : decode cX12_foldCount 6 = .ok (.ireturn, 1) := by decide +kernel
theorem dX12_expectedLayers_0 : decode cX12_expectedLayers 0 = .ok (.aload_n 0, 1) := by decide +kernel
theorem dX12_expectedLayers_1 : decode cX12_expectedLayers 1 = .ok (.iload_n 1, 1) := by decide +kernel
theorem dX12_expectedLayers_2 : decode cX12_expectedLayers 2 = .ok (.iconst 5, 1) := by decide +kernel
theorem dX12_expectedLayers_3 : decode cX12_expectedLayers 3 = .ok (.invokevirtual 130, 3) := by decide +kernel
theorem dX12_expectedLayers_6 : decode cX12_expectedLayers 6 = .ok (.ireturn, 1) := by decide +kernel
theorem dX12_butterShare_0 : decode cX12_butterShare 0 = .ok (.aload_n 0, 1) := by decide +kernel
theorem dX12_butterShare_1 : decode cX12_butterShare 1 = .ok (.aload_n 0, 1) := by decide +kernel
theorem dX12_butterShare_2 : decode cX12_butterShare 2 = .ok (.iload_n 1, 1) := by decide +kernel
theorem dX12_butterShare_3 : decode cX12_butterShare 3 = .ok (.invokevirtual 111, 3) := by decide +kernel
theorem dX12_butterShare_6 : decode cX12_butterShare 6 = .ok (.invokevirtual 82, 3) := by decide +kernel
theorem dX12_butterShare_9 : decode cX12_butterShare 9 = .ok (.ifCond .eq 7, 3) := by decide +kernel
theorem dX12_butterShare_12 : decode cX12_butterShare 12 = .ok (.fconst 0, 1) := by decide +kernel
theorem dX12_butterShare_13 : decode cX12_butterShare 13 = .ok (.goto 16, 3) := by decide +kernel
theorem dX12_butterShare_16 : decode cX12_butterShare 16 = .ok (.aload_n 0, 1) := by decide +kernel
theorem dX12_butterShare_17 : decode cX12_butterShare 17 = .ok (.iload_n 1, 1) := by decide +kernel
theorem dX12_butterShare_18 : decode cX12_butterShare 18 = .ok (.invokevirtual 139, 3) := by decide +kernel
theorem dX12_butterShare_21 : decode cX12_butterShare 21 = .ok (.i2f, 1) := by decide +kernel
theorem dX12_butterShare_22 : decode cX12_butterShare 22 = .ok (.aload_n 0, 1) := by decide +kernel
theorem dX12_butterShare_23 : decode cX12_butterShare 23 = .ok (.iload_n 1, 1) := by decide +kernel
theorem dX12_butterShare_24 : decode cX12_butterShare 24 = .ok (.invokevirtual 136, 3) := by decide +kernel
theorem dX12_butterShare_27 : decode cX12_butterShare 27 = .ok (.i2f, 1) := by decide +kernel
theorem dX12_butterShare_28 : decode cX12_butterShare 28 = .ok (.fdiv, 1) := by decide +kernel
theorem dX12_butterShare_29 : decode cX12_butterShare 29 = .ok (.freturn, 1) := by decide +kernel
theorem dX12_meanThickness_0 : decode cX12_meanThickness 0 = .ok (.aload_n 0, 1) := by decide +kernel
theorem dX12_meanThickness_1 : decode cX12_meanThickness 1 = .ok (.aload_n 0, 1) := by decide +kernel
theorem dX12_meanThickness_2 : decode cX12_meanThickness 2 = .ok (.iload_n 1, 1) := by decide +kernel
theorem dX12_meanThickness_3 : decode cX12_meanThickness 3 = .ok (.invokevirtual 111, 3) := by decide +kernel
theorem dX12_meanThickness_6 : decode cX12_meanThickness 6 = .ok (.invokevirtual 82, 3) := by decide +kernel
theorem dX12_meanThickness_9 : decode cX12_meanThickness 9 = .ok (.ifCond .eq 7, 3) := by decide +kernel
theorem dX12_meanThickness_12 : decode cX12_meanThickness 12 = .ok (.dconst 0, 1) := by decide +kernel
theorem dX12_meanThickness_13 : decode cX12_meanThickness 13 = .ok (.goto 18, 3) := by decide +kernel
theorem dX12_meanThickness_16 : decode cX12_meanThickness 16 = .ok (.aload_n 0, 1) := by decide +kernel
theorem dX12_meanThickness_17 : decode cX12_meanThickness 17 = .ok (.iload_n 1, 1) := by decide +kernel
theorem dX12_meanThickness_18 : decode cX12_meanThickness 18 = .ok (.invokevirtual 136, 3) := by decide +kernel
theorem dX12_meanThickness_21 : decode cX12_meanThickness 21 = .ok (.i2d, 1) := by decide +kernel
theorem dX12_meanThickness_22 : decode cX12_meanThickness 22 = .ok (.aload_n 0, 1) := by decide +kernel
theorem dX12_meanThickness_23 : decode cX12_meanThickness 23 = .ok (.iload_n 1, 1) := by decide +kernel
theorem dX12_meanThickness_24 : decode cX12_meanThickness 24 = .ok (.bipush 6, 2) := by decide +kernel
theorem dX12_meanThickness_26 : decode cX12_meanThickness 26 = .ok (.invokevirtual 93, 3) := by decide +kernel
theorem dX12_meanThickness_29 : decode cX12_meanThickness 29 = .ok (.i2d, 1) := by decide +kernel
theorem dX12_meanThickness_30 : decode cX12_meanThickness 30 = .ok (.ddiv, 1) := by decide +kernel
theorem dX12_meanThickness_31 : decode cX12_meanThickness 31 = .ok (.dreturn, 1) := by decide +kernel
theorem dX12_foldedLayers_0 : decode cX12_foldedLayers 0 = .ok (.iload_n 1, 1) := by decide +kernel
theorem dX12_foldedLayers_1 : decode cX12_foldedLayers 1 = .ok (.iload_n 0, 1) := by decide +kernel
theorem dX12_foldedLayers_2 : decode cX12_foldedLayers 2 = .ok (.imul, 1) := by decide +kernel
theorem dX12_foldedLayers_3 : decode cX12_foldedLayers 3 = .ok (.iload_n 2, 1) := by decide +kernel
theorem dX12_foldedLayers_4 : decode cX12_foldedLayers 4 = .ok (.ifCond .eq 7, 3) := by decide +kernel
theorem dX12_foldedLayers_7 : decode cX12_foldedLayers 7 = .ok (.iconst 0, 1) := by decide +kernel
theorem dX12_foldedLayers_8 : decode cX12_foldedLayers 8 = .ok (.goto 6, 3) := by decide +kernel
theorem dX12_foldedLayers_11 : decode cX12_foldedLayers 11 = .ok (.iload_n 1, 1) := by decide +kernel
theorem dX12_foldedLayers_12 : decode cX12_foldedLayers 12 = .ok (.iconst 1, 1) := by decide +kernel
theorem dX12_foldedLayers_13 : decode cX12_foldedLayers 13 = .ok (.isub, 1) := by decide +kernel
theorem dX12_foldedLayers_14 : decode cX12_foldedLayers 14 = .ok (.isub, 1) := by decide +kernel
theorem dX12_foldedLayers_15 : decode cX12_foldedLayers 15 = .ok (.ireturn, 1) := by decide +kernel
theorem dX12_whyNotFold_0 : decode cX12_whyNotFold 0 = .ok (.aload_n 0, 1) := by decide +kernel
theorem dX12_whyNotFold_1 : decode cX12_whyNotFold 1 = .ok (.iload_n 1, 1) := by decide +kernel
theorem dX12_whyNotFold_2 : decode cX12_whyNotFold 2 = .ok (.iconst 3, 1) := by decide +kernel
theorem dX12_whyNotFold_3 : decode cX12_whyNotFold 3 = .ok (.invokevirtual 124, 3) := by decide +kernel
theorem dX12_whyNotFold_6 : decode cX12_whyNotFold 6 = .ok (.ifCond .eq 5, 3) := by decide +kernel
theorem dX12_whyNotFold_9 : decode cX12_whyNotFold 9 = .ok (.iconst 1, 1) := by decide +kernel
theorem dX12_whyNotFold_10 : decode cX12_whyNotFold 10 = .ok (.ireturn, 1) := by decide +kernel
theorem dX12_whyNotFold_11 : decode cX12_whyNotFold 11 = .ok (.aload_n 0, 1) := by decide +kernel
theorem dX12_whyNotFold_12 : decode cX12_whyNotFold 12 = .ok (.iload_n 1, 1) := by decide +kernel
theorem dX12_whyNotFold_13 : decode cX12_whyNotFold 13 = .ok (.bipush 6, 2) := by decide +kernel
theorem dX12_whyNotFold_15 : decode cX12_whyNotFold 15 = .ok (.invokevirtual 93, 3) := by decide +kernel
theorem dX12_whyNotFold_18 : decode cX12_whyNotFold 18 = .ok (.iload_n 2, 1) := by decide +kernel
theorem dX12_whyNotFold_19 : decode cX12_whyNotFold 19 = .ok (.aload_n 0, 1) := by decide +kernel
theorem dX12_whyNotFold_20 : decode cX12_whyNotFold 20 = .ok (.iload_n 1, 1) := by decide +kernel
theorem dX12_whyNotFold_21 : decode cX12_whyNotFold 21 = .ok (.iconst 1, 1) := by decide +kernel
theorem dX12_whyNotFold_22 : decode cX12_whyNotFold 22 = .ok (.invokevirtual 124, 3) := by decide +kernel
theorem dX12_whyNotFold_25 : decode cX12_whyNotFold 25 = .ok (.invokestatic 148, 3) := by decide +kernel
theorem dX12_whyNotFold_28 : decode cX12_whyNotFold 28 = .ok (.sipush 200, 3) := by decide +kernel
theorem dX12_whyNotFold_31 : decode cX12_whyNotFold 31 = .ok (.if_icmp .le 5, 3) := by decide +kernel
theorem dX12_whyNotFold_34 : decode cX12_whyNotFold 34 = .ok (.iconst 2, 1) := by decide +kernel
theorem dX12_whyNotFold_35 : decode cX12_whyNotFold 35 = .ok (.ireturn, 1) := by decide +kernel
theorem dX12_whyNotFold_36 : decode cX12_whyNotFold 36 = .ok (.aload_n 0, 1) := by decide +kernel
theorem dX12_whyNotFold_37 : decode cX12_whyNotFold 37 = .ok (.iload_n 1, 1) := by decide +kernel
theorem dX12_whyNotFold_38 : decode cX12_whyNotFold 38 = .ok (.invokevirtual 136, 3) := by decide +kernel
theorem dX12_whyNotFold_41 : decode cX12_whyNotFold 41 = .ok (.iload_n 2, 1) := by decide +kernel
theorem dX12_whyNotFold_42 : decode cX12_whyNotFold 42 = .ok (.imul, 1) := by decide +kernel
theorem dX12_whyNotFold_43 : decode cX12_whyNotFold 43 = .ok (.sipush 4000, 3) := by decide +kernel
theorem dX12_whyNotFold_46 : decode cX12_whyNotFold 46 = .ok (.if_icmp .le 7, 3) := by decide +kernel
theorem dX12_whyNotFold_49 : decode cX12_whyNotFold 49 = .ok (.iconst 3, 1) := by decide +kernel
theorem dX12_whyNotFold_50 : decode cX12_whyNotFold 50 = .ok (.goto 4, 3) := by decide +kernel
theorem dX12_whyNotFold_53 : decode cX12_whyNotFold 53 = .ok (.iconst 0, 1) := by decide +kernel
theorem dX12_whyNotFold_54 : decode cX12_whyNotFold 54 = .ok (.ireturn, 1) := by decide +kernel
theorem dX12_areParts_0 : decode cX12_areParts 0 = .ok (.iload_n 0, 1) := by decide +kernel
theorem dX12_areParts_1 : decode cX12_areParts 1 = .ok (.iconst 2, 1) := by decide +kernel
theorem dX12_areParts_2 : decode cX12_areParts 2 = .ok (.iconst 4, 1) := by decide +kernel
theorem dX12_areParts_3 : decode cX12_areParts 3 = .ok (.invokestatic 107, 3) := by decide +kernel
theorem dX12_areParts_6 : decode cX12_areParts 6 = .ok (.ireturn, 1) := by decide +kernel
theorem dX12_lacksParts_0 : decode cX12_lacksParts 0 = .ok (.aload_n 0, 1) := by decide +kernel
theorem dX12_lacksParts_1 : decode cX12_lacksParts 1 = .ok (.aload_n 0, 1) := by decide +kernel
theorem dX12_lacksParts_2 : decode cX12_lacksParts 2 = .ok (.iload_n 1, 1) := by decide +kernel
theorem dX12_lacksParts_3 : decode cX12_lacksParts 3 = .ok (.invokevirtual 111, 3) := by decide +kernel
theorem dX12_lacksParts_6 : decode cX12_lacksParts 6 = .ok (.iload_n 2, 1) := by decide +kernel
theorem dX12_lacksParts_7 : decode cX12_lacksParts 7 = .ok (.invokestatic 152, 3) := by decide +kernel
theorem dX12_lacksParts_10 : decode cX12_lacksParts 10 = .ok (.invokevirtual 155, 3) := by decide +kernel
theorem dX12_lacksParts_13 : decode cX12_lacksParts 13 = .ok (.ireturn, 1) := by decide +kernel
theorem dX12_foldObstacle_0 : decode cX12_foldObstacle 0 = .ok (.aload_n 0, 1) := by decide +kernel
theorem dX12_foldObstacle_1 : decode cX12_foldObstacle 1 = .ok (.iload_n 1, 1) := by decide +kernel
theorem dX12_foldObstacle_2 : decode cX12_foldObstacle 2 = .ok (.iload_n 2, 1) := by decide +kernel
theorem dX12_foldObstacle_3 : decode cX12_foldObstacle 3 = .ok (.invokevirtual 159, 3) := by decide +kernel
theorem dX12_foldObstacle_6 : decode cX12_foldObstacle 6 = .ok (.ifCond .eq 7, 3) := by decide +kernel
theorem dX12_foldObstacle_9 : decode cX12_foldObstacle 9 = .ok (.iconst 0, 1) := by decide +kernel
theorem dX12_foldObstacle_10 : decode cX12_foldObstacle 10 = .ok (.goto 9, 3) := by decide +kernel
theorem dX12_foldObstacle_13 : decode cX12_foldObstacle 13 = .ok (.aload_n 0, 1) := by decide +kernel
theorem dX12_foldObstacle_14 : decode cX12_foldObstacle 14 = .ok (.iload_n 1, 1) := by decide +kernel
theorem dX12_foldObstacle_15 : decode cX12_foldObstacle 15 = .ok (.iload_n 2, 1) := by decide +kernel
theorem dX12_foldObstacle_16 : decode cX12_foldObstacle 16 = .ok (.invokevirtual 162, 3) := by decide +kernel
theorem dX12_foldObstacle_19 : decode cX12_foldObstacle 19 = .ok (.ireturn, 1) := by decide +kernel
theorem dX12_layersAfterFold_0 : decode cX12_layersAfterFold 0 = .ok (.aload_n 0, 1) := by decide +kernel
theorem dX12_layersAfterFold_1 : decode cX12_layersAfterFold 1 = .ok (.iload_n 1, 1) := by decide +kernel
theorem dX12_layersAfterFold_2 : decode cX12_layersAfterFold 2 = .ok (.iload_n 2, 1) := by decide +kernel
theorem dX12_layersAfterFold_3 : decode cX12_layersAfterFold 3 = .ok (.invokevirtual 159, 3) := by decide +kernel
theorem dX12_layersAfterFold_6 : decode cX12_layersAfterFold 6 = .ok (.ifCond .eq 5, 3) := by decide +kernel
theorem dX12_layersAfterFold_9 : decode cX12_layersAfterFold 9 = .ok (.iconst 0, 1) := by decide +kernel
theorem dX12_layersAfterFold_10 : decode cX12_layersAfterFold 10 = .ok (.ireturn, 1) := by decide +kernel
theorem dX12_layersAfterFold_11 : decode cX12_layersAfterFold 11 = .ok (.aload_n 0, 1) := by decide +kernel
theorem dX12_layersAfterFold_12 : decode cX12_layersAfterFold 12 = .ok (.iload_n 1, 1) := by decide +kernel
theorem dX12_layersAfterFold_13 : decode cX12_layersAfterFold 13 = .ok (.iload_n 2, 1) := by decide +kernel
theorem dX12_layersAfterFold_14 : decode cX12_layersAfterFold 14 = .ok (.invokevirtual 162, 3) := by decide +kernel
theorem dX12_layersAfterFold_17 : decode cX12_layersAfterFold 17 = .ok (.ifCond .ne 23, 3) := by decide +kernel
theorem dX12_layersAfterFold_20 : decode cX12_layersAfterFold 20 = .ok (.aload_n 0, 1) := by decide +kernel
theorem dX12_layersAfterFold_21 : decode cX12_layersAfterFold 21 = .ok (.iload_n 1, 1) := by decide +kernel
theorem dX12_layersAfterFold_22 : decode cX12_layersAfterFold 22 = .ok (.bipush 6, 2) := by decide +kernel
theorem dX12_layersAfterFold_24 : decode cX12_layersAfterFold 24 = .ok (.invokevirtual 93, 3) := by decide +kernel
theorem dX12_layersAfterFold_27 : decode cX12_layersAfterFold 27 = .ok (.iload_n 2, 1) := by decide +kernel
theorem dX12_layersAfterFold_28 : decode cX12_layersAfterFold 28 = .ok (.aload_n 0, 1) := by decide +kernel
theorem dX12_layersAfterFold_29 : decode cX12_layersAfterFold 29 = .ok (.iload_n 1, 1) := by decide +kernel
theorem dX12_layersAfterFold_30 : decode cX12_layersAfterFold 30 = .ok (.iconst 1, 1) := by decide +kernel
theorem dX12_layersAfterFold_31 : decode cX12_layersAfterFold 31 = .ok (.invokevirtual 124, 3) := by decide +kernel
theorem dX12_layersAfterFold_34 : decode cX12_layersAfterFold 34 = .ok (.invokestatic 148, 3) := by decide +kernel
theorem dX12_layersAfterFold_37 : decode cX12_layersAfterFold 37 = .ok (.goto 4, 3) := by decide +kernel
theorem dX12_layersAfterFold_40 : decode cX12_layersAfterFold 40 = .ok (.iconst (-1), 1) := by decide +kernel
theorem dX12_layersAfterFold_41 : decode cX12_layersAfterFold 41 = .ok (.ireturn, 1) := by decide +kernel
theorem dX12_foldsPossible_0 : decode cX12_foldsPossible 0 = .ok (.aload_n 0, 1) := by decide +kernel
theorem dX12_foldsPossible_1 : decode cX12_foldsPossible 1 = .ok (.iload_n 1, 1) := by decide +kernel
theorem dX12_foldsPossible_2 : decode cX12_foldsPossible 2 = .ok (.iload_n 2, 1) := by decide +kernel
theorem dX12_foldsPossible_3 : decode cX12_foldsPossible 3 = .ok (.invokevirtual 159, 3) := by decide +kernel
theorem dX12_foldsPossible_6 : decode cX12_foldsPossible 6 = .ok (.ifCond .ne 12, 3) := by decide +kernel
theorem dX12_foldsPossible_9 : decode cX12_foldsPossible 9 = .ok (.aload_n 0, 1) := by decide +kernel
theorem dX12_foldsPossible_10 : decode cX12_foldsPossible 10 = .ok (.iload_n 1, 1) := by decide +kernel
theorem dX12_foldsPossible_11 : decode cX12_foldsPossible 11 = .ok (.iconst 3, 1) := by decide +kernel
theorem dX12_foldsPossible_12 : decode cX12_foldsPossible 12 = .ok (.invokevirtual 124, 3) := by decide +kernel
theorem dX12_foldsPossible_15 : decode cX12_foldsPossible 15 = .ok (.ifCond .eq 5, 3) := by decide +kernel
theorem dX12_foldsPossible_18 : decode cX12_foldsPossible 18 = .ok (.iconst 0, 1) := by decide +kernel
theorem dX12_foldsPossible_19 : decode cX12_foldsPossible 19 = .ok (.ireturn, 1) := by decide +kernel
theorem dX12_foldsPossible_20 : decode cX12_foldsPossible 20 = .ok (.iconst 0, 1) := by decide +kernel
theorem dX12_foldsPossible_21 : decode cX12_foldsPossible 21 = .ok (.istore_n 3, 1) := by decide +kernel
theorem dX12_foldsPossible_22 : decode cX12_foldsPossible 22 = .ok (.aload_n 0, 1) := by decide +kernel
theorem dX12_foldsPossible_23 : decode cX12_foldsPossible 23 = .ok (.iload_n 1, 1) := by decide +kernel
theorem dX12_foldsPossible_24 : decode cX12_foldsPossible 24 = .ok (.bipush 6, 2) := by decide +kernel
theorem dX12_foldsPossible_26 : decode cX12_foldsPossible 26 = .ok (.invokevirtual 93, 3) := by decide +kernel
theorem dX12_foldsPossible_29 : decode cX12_foldsPossible 29 = .ok (.iload_n 2, 1) := by decide +kernel
theorem dX12_foldsPossible_30 : decode cX12_foldsPossible 30 = .ok (.aload_n 0, 1) := by decide +kernel
theorem dX12_foldsPossible_31 : decode cX12_foldsPossible 31 = .ok (.iload_n 1, 1) := by decide +kernel
theorem dX12_foldsPossible_32 : decode cX12_foldsPossible 32 = .ok (.iconst 1, 1) := by decide +kernel
theorem dX12_foldsPossible_33 : decode cX12_foldsPossible 33 = .ok (.invokevirtual 124, 3) := by decide +kernel
theorem dX12_foldsPossible_36 : decode cX12_foldsPossible 36 = .ok (.invokestatic 148, 3) := by decide +kernel
theorem dX12_foldsPossible_39 : decode cX12_foldsPossible 39 = .ok (.istore 4, 2) := by decide +kernel
theorem dX12_foldsPossible_41 : decode cX12_foldsPossible 41 = .ok (.aload_n 0, 1) := by decide +kernel
theorem dX12_foldsPossible_42 : decode cX12_foldsPossible 42 = .ok (.iload_n 1, 1) := by decide +kernel
theorem dX12_foldsPossible_43 : decode cX12_foldsPossible 43 = .ok (.invokevirtual 136, 3) := by decide +kernel
theorem dX12_foldsPossible_46 : decode cX12_foldsPossible 46 = .ok (.iload_n 2, 1) := by decide +kernel
theorem dX12_foldsPossible_47 : decode cX12_foldsPossible 47 = .ok (.imul, 1) := by decide +kernel
theorem dX12_foldsPossible_48 : decode cX12_foldsPossible 48 = .ok (.istore 5, 2) := by decide +kernel
theorem dX12_foldsPossible_50 : decode cX12_foldsPossible 50 = .ok (.iload 4, 2) := by decide +kernel
theorem dX12_foldsPossible_52 : decode cX12_foldsPossible 52 = .ok (.sipush 200, 3) := by decide +kernel
theorem dX12_foldsPossible_55 : decode cX12_foldsPossible 55 = .ok (.if_icmp .gt 32, 3) := by decide +kernel
theorem dX12_foldsPossible_58 : decode cX12_foldsPossible 58 = .ok (.iload 5, 2) := by decide +kernel
theorem dX12_foldsPossible_60 : decode cX12_foldsPossible 60 = .ok (.sipush 4000, 3) := by decide +kernel
theorem dX12_foldsPossible_63 : decode cX12_foldsPossible 63 = .ok (.if_icmp .gt 24, 3) := by decide +kernel
theorem dX12_foldsPossible_66 : decode cX12_foldsPossible 66 = .ok (.iinc 3 1, 3) := by decide +kernel
theorem dX12_foldsPossible_69 : decode cX12_foldsPossible 69 = .ok (.iload 4, 2) := by decide +kernel
theorem dX12_foldsPossible_71 : decode cX12_foldsPossible 71 = .ok (.iload_n 2, 1) := by decide +kernel
theorem dX12_foldsPossible_72 : decode cX12_foldsPossible 72 = .ok (.iconst 0, 1) := by decide +kernel
theorem dX12_foldsPossible_73 : decode cX12_foldsPossible 73 = .ok (.invokestatic 148, 3) := by decide +kernel
theorem dX12_foldsPossible_76 : decode cX12_foldsPossible 76 = .ok (.istore 4, 2) := by decide +kernel
theorem dX12_foldsPossible_78 : decode cX12_foldsPossible 78 = .ok (.iload 5, 2) := by decide +kernel
theorem dX12_foldsPossible_80 : decode cX12_foldsPossible 80 = .ok (.iload_n 2, 1) := by decide +kernel
theorem dX12_foldsPossible_81 : decode cX12_foldsPossible 81 = .ok (.imul, 1) := by decide +kernel
theorem dX12_foldsPossible_82 : decode cX12_foldsPossible 82 = .ok (.istore 5, 2) := by decide +kernel
theorem dX12_foldsPossible_84 : decode cX12_foldsPossible 84 = .ok (.goto (-34), 3) := by decide +kernel
theorem dX12_foldsPossible_87 : decode cX12_foldsPossible 87 = .ok (.iload_n 3, 1) := by decide +kernel
theorem dX12_foldsPossible_88 : decode cX12_foldsPossible 88 = .ok (.ireturn, 1) := by decide +kernel
theorem dX12_warm_0 : decode cX12_warm 0 = .ok (.aload_n 0, 1) := by decide +kernel
theorem dX12_warm_1 : decode cX12_warm 1 = .ok (.iload_n 1, 1) := by decide +kernel
theorem dX12_warm_2 : decode cX12_warm 2 = .ok (.iconst 0, 1) := by decide +kernel
theorem dX12_warm_3 : decode cX12_warm 3 = .ok (.bipush 40, 2) := by decide +kernel
theorem dX12_warm_5 : decode cX12_warm 5 = .ok (.aload_n 0, 1) := by decide +kernel
theorem dX12_warm_6 : decode cX12_warm 6 = .ok (.iload_n 1, 1) := by decide +kernel
theorem dX12_warm_7 : decode cX12_warm 7 = .ok (.iconst 0, 1) := by decide +kernel
theorem dX12_warm_8 : decode cX12_warm 8 = .ok (.invokevirtual 93, 3) := by decide +kernel
theorem dX12_warm_11 : decode cX12_warm 11 = .ok (.iconst 2, 1) := by decide +kernel
theorem dX12_warm_12 : decode cX12_warm 12 = .ok (.iadd, 1) := by decide +kernel
theorem dX12_warm_13 : decode cX12_warm 13 = .ok (.invokestatic 165, 3) := by decide +kernel
theorem dX12_warm_16 : decode cX12_warm 16 = .ok (.invokevirtual 90, 3) := by decide +kernel
theorem dX12_warm_19 : decode cX12_warm 19 = .ok (.return_, 1) := by decide +kernel
theorem dX12_foldUp_0 : decode cX12_foldUp 0 = .ok (.aload_n 0, 1) := by decide +kernel
theorem dX12_foldUp_1 : decode cX12_foldUp 1 = .ok (.iload_n 1, 1) := by decide +kernel
theorem dX12_foldUp_2 : decode cX12_foldUp 2 = .ok (.bipush 6, 2) := by decide +kernel
theorem dX12_foldUp_4 : decode cX12_foldUp 4 = .ok (.invokevirtual 168, 3) := by decide +kernel
theorem dX12_foldUp_7 : decode cX12_foldUp 7 = .ok (.aload_n 0, 1) := by decide +kernel
theorem dX12_foldUp_8 : decode cX12_foldUp 8 = .ok (.iload_n 1, 1) := by decide +kernel
theorem dX12_foldUp_9 : decode cX12_foldUp 9 = .ok (.iconst 1, 1) := by decide +kernel
theorem dX12_foldUp_10 : decode cX12_foldUp 10 = .ok (.invokevirtual 124, 3) := by decide +kernel
theorem dX12_foldUp_13 : decode cX12_foldUp 13 = .ok (.ifCond .ne 7, 3) := by decide +kernel
theorem dX12_foldUp_16 : decode cX12_foldUp 16 = .ok (.iconst 1, 1) := by decide +kernel
theorem dX12_foldUp_17 : decode cX12_foldUp 17 = .ok (.goto 4, 3) := by decide +kernel
theorem dX12_foldUp_20 : decode cX12_foldUp 20 = .ok (.iconst 0, 1) := by decide +kernel
theorem dX12_foldUp_21 : decode cX12_foldUp 21 = .ok (.istore_n 3, 1) := by decide +kernel
theorem dX12_foldUp_22 : decode cX12_foldUp 22 = .ok (.aload_n 0, 1) := by decide +kernel
theorem dX12_foldUp_23 : decode cX12_foldUp 23 = .ok (.bipush 6, 2) := by decide +kernel
theorem dX12_foldUp_25 : decode cX12_foldUp 25 = .ok (.bipush 6, 2) := by decide +kernel
theorem dX12_foldUp_27 : decode cX12_foldUp 27 = .ok (.invokevirtual 93, 3) := by decide +kernel
theorem dX12_foldUp_30 : decode cX12_foldUp 30 = .ok (.istore 4, 2) := by decide +kernel
theorem dX12_foldUp_32 : decode cX12_foldUp 32 = .ok (.aload_n 0, 1) := by decide +kernel
theorem dX12_foldUp_33 : decode cX12_foldUp 33 = .ok (.iconst 0, 1) := by decide +kernel
theorem dX12_foldUp_34 : decode cX12_foldUp 34 = .ok (.putfield 104, 3) := by decide +kernel
theorem dX12_foldUp_37 : decode cX12_foldUp 37 = .ok (.aload_n 0, 1) := by decide +kernel
theorem dX12_foldUp_38 : decode cX12_foldUp 38 = .ok (.iload_n 1, 1) := by decide +kernel
theorem dX12_foldUp_39 : decode cX12_foldUp 39 = .ok (.bipush 6, 2) := by decide +kernel
theorem dX12_foldUp_41 : decode cX12_foldUp 41 = .ok (.iconst 0, 1) := by decide +kernel
theorem dX12_foldUp_42 : decode cX12_foldUp 42 = .ok (.invokevirtual 90, 3) := by decide +kernel
theorem dX12_foldUp_45 : decode cX12_foldUp 45 = .ok (.iconst 0, 1) := by decide +kernel
theorem dX12_foldUp_46 : decode cX12_foldUp 46 = .ok (.istore 5, 2) := by decide +kernel
theorem dX12_foldUp_48 : decode cX12_foldUp 48 = .ok (.iload 5, 2) := by decide +kernel
theorem dX12_foldUp_50 : decode cX12_foldUp 50 = .ok (.iload_n 2, 1) := by decide +kernel
theorem dX12_foldUp_51 : decode cX12_foldUp 51 = .ok (.if_icmp .ge 69, 3) := by decide +kernel
theorem dX12_foldUp_54 : decode cX12_foldUp 54 = .ok (.iconst 0, 1) := by decide +kernel
theorem dX12_foldUp_55 : decode cX12_foldUp 55 = .ok (.istore 6, 2) := by decide +kernel
theorem dX12_foldUp_57 : decode cX12_foldUp 57 = .ok (.iload 6, 2) := by decide +kernel
theorem dX12_foldUp_59 : decode cX12_foldUp 59 = .ok (.iload 4, 2) := by decide +kernel
theorem dX12_foldUp_61 : decode cX12_foldUp 61 = .ok (.if_icmp .ge 53, 3) := by decide +kernel
theorem dX12_foldUp_64 : decode cX12_foldUp 64 = .ok (.aload_n 0, 1) := by decide +kernel
theorem dX12_foldUp_65 : decode cX12_foldUp 65 = .ok (.iload_n 1, 1) := by decide +kernel
theorem dX12_foldUp_66 : decode cX12_foldUp 66 = .ok (.aload_n 0, 1) := by decide +kernel
theorem dX12_foldUp_67 : decode cX12_foldUp 67 = .ok (.bipush 6, 2) := by decide +kernel
theorem dX12_foldUp_69 : decode cX12_foldUp 69 = .ok (.iload 5, 2) := by decide +kernel
theorem dX12_foldUp_71 : decode cX12_foldUp 71 = .ok (.iconst 2, 1) := by decide +kernel
theorem dX12_foldUp_72 : decode cX12_foldUp 72 = .ok (.irem, 1) := by decide +kernel
theorem dX12_foldUp_73 : decode cX12_foldUp 73 = .ok (.ifCond .ne 8, 3) := by decide +kernel
theorem dX12_foldUp_76 : decode cX12_foldUp 76 = .ok (.iload 6, 2) := by decide +kernel
theorem dX12_foldUp_78 : decode cX12_foldUp 78 = .ok (.goto 10, 3) := by decide +kernel
theorem dX12_foldUp_81 : decode cX12_foldUp 81 = .ok (.iload 4, 2) := by decide +kernel
theorem dX12_foldUp_83 : decode cX12_foldUp 83 = .ok (.iconst 1, 1) := by decide +kernel
theorem dX12_foldUp_84 : decode cX12_foldUp 84 = .ok (.isub, 1) := by decide +kernel
theorem dX12_foldUp_85 : decode cX12_foldUp 85 = .ok (.iload 6, 2) := by decide +kernel
theorem dX12_foldUp_87 : decode cX12_foldUp 87 = .ok (.isub, 1) := by decide +kernel
theorem dX12_foldUp_88 : decode cX12_foldUp 88 = .ok (.invokevirtual 97, 3) := by decide +kernel
theorem dX12_foldUp_91 : decode cX12_foldUp 91 = .ok (.iload_n 3, 1) := by decide +kernel
theorem dX12_foldUp_92 : decode cX12_foldUp 92 = .ok (.ifCond .eq 12, 3) := by decide +kernel
theorem dX12_foldUp_95 : decode cX12_foldUp 95 = .ok (.iload 6, 2) := by decide +kernel
theorem dX12_foldUp_97 : decode cX12_foldUp 97 = .ok (.ifCond .ne 7, 3) := by decide +kernel
theorem dX12_foldUp_100 : decode cX12_foldUp 100 = .ok (.iconst 1, 1) := by decide +kernel
theorem dX12_foldUp_101 : decode cX12_foldUp 101 = .ok (.goto 4, 3) := by decide +kernel
theorem dX12_foldUp_104 : decode cX12_foldUp 104 = .ok (.iconst 0, 1) := by decide +kernel
theorem dX12_foldUp_105 : decode cX12_foldUp 105 = .ok (.invokevirtual 171, 3) := by decide +kernel
theorem dX12_foldUp_108 : decode cX12_foldUp 108 = .ok (.iinc 6 1, 3) := by decide +kernel
theorem dX12_foldUp_111 : decode cX12_foldUp 111 = .ok (.goto (-54), 3) := by decide +kernel
theorem dX12_foldUp_114 : decode cX12_foldUp 114 = .ok (.iinc 5 1, 3) := by decide +kernel
theorem dX12_foldUp_117 : decode cX12_foldUp 117 = .ok (.goto (-69), 3) := by decide +kernel
theorem dX12_foldUp_120 : decode cX12_foldUp 120 = .ok (.aload_n 0, 1) := by decide +kernel
theorem dX12_foldUp_121 : decode cX12_foldUp 121 = .ok (.iload_n 1, 1) := by decide +kernel
theorem dX12_foldUp_122 : decode cX12_foldUp 122 = .ok (.iconst 5, 1) := by decide +kernel
theorem dX12_foldUp_123 : decode cX12_foldUp 123 = .ok (.iload_n 2, 1) := by decide +kernel
theorem dX12_foldUp_124 : decode cX12_foldUp 124 = .ok (.aload_n 0, 1) := by decide +kernel
theorem dX12_foldUp_125 : decode cX12_foldUp 125 = .ok (.iload_n 1, 1) := by decide +kernel
theorem dX12_foldUp_126 : decode cX12_foldUp 126 = .ok (.iconst 5, 1) := by decide +kernel
theorem dX12_foldUp_127 : decode cX12_foldUp 127 = .ok (.invokevirtual 93, 3) := by decide +kernel
theorem dX12_foldUp_130 : decode cX12_foldUp 130 = .ok (.imul, 1) := by decide +kernel
theorem dX12_foldUp_131 : decode cX12_foldUp 131 = .ok (.aload_n 0, 1) := by decide +kernel
theorem dX12_foldUp_132 : decode cX12_foldUp 132 = .ok (.getfield 104, 3) := by decide +kernel
theorem dX12_foldUp_135 : decode cX12_foldUp 135 = .ok (.isub, 1) := by decide +kernel
theorem dX12_foldUp_136 : decode cX12_foldUp 136 = .ok (.invokevirtual 90, 3) := by decide +kernel
theorem dX12_foldUp_139 : decode cX12_foldUp 139 = .ok (.aload_n 0, 1) := by decide +kernel
theorem dX12_foldUp_140 : decode cX12_foldUp 140 = .ok (.iload_n 1, 1) := by decide +kernel
theorem dX12_foldUp_141 : decode cX12_foldUp 141 = .ok (.iconst 1, 1) := by decide +kernel
theorem dX12_foldUp_142 : decode cX12_foldUp 142 = .ok (.iconst 0, 1) := by decide +kernel
theorem dX12_foldUp_143 : decode cX12_foldUp 143 = .ok (.invokevirtual 90, 3) := by decide +kernel
theorem dX12_foldUp_146 : decode cX12_foldUp 146 = .ok (.aload_n 0, 1) := by decide +kernel
theorem dX12_foldUp_147 : decode cX12_foldUp 147 = .ok (.iload_n 1, 1) := by decide +kernel
theorem dX12_foldUp_148 : decode cX12_foldUp 148 = .ok (.iconst 4, 1) := by decide +kernel
theorem dX12_foldUp_149 : decode cX12_foldUp 149 = .ok (.aload_n 0, 1) := by decide +kernel
theorem dX12_foldUp_150 : decode cX12_foldUp 150 = .ok (.iload_n 1, 1) := by decide +kernel
theorem dX12_foldUp_151 : decode cX12_foldUp 151 = .ok (.iconst 4, 1) := by decide +kernel
theorem dX12_foldUp_152 : decode cX12_foldUp 152 = .ok (.invokevirtual 93, 3) := by decide +kernel
theorem dX12_foldUp_155 : decode cX12_foldUp 155 = .ok (.iconst 1, 1) := by decide +kernel
theorem dX12_foldUp_156 : decode cX12_foldUp 156 = .ok (.iadd, 1) := by decide +kernel
theorem dX12_foldUp_157 : decode cX12_foldUp 157 = .ok (.invokevirtual 90, 3) := by decide +kernel
theorem dX12_foldUp_160 : decode cX12_foldUp 160 = .ok (.aload_n 0, 1) := by decide +kernel
theorem dX12_foldUp_161 : decode cX12_foldUp 161 = .ok (.iload_n 1, 1) := by decide +kernel
theorem dX12_foldUp_162 : decode cX12_foldUp 162 = .ok (.invokevirtual 175, 3) := by decide +kernel
theorem dX12_foldUp_165 : decode cX12_foldUp 165 = .ok (.return_, 1) := by decide +kernel
theorem dX12_escapes_0 : decode cX12_escapes 0 = .ok (.aload_n 0, 1) := by decide +kernel
theorem dX12_escapes_1 : decode cX12_escapes 1 = .ok (.iload_n 1, 1) := by decide +kernel
theorem dX12_escapes_2 : decode cX12_escapes 2 = .ok (.iconst 2, 1) := by decide +kernel
theorem dX12_escapes_3 : decode cX12_escapes 3 = .ok (.invokevirtual 124, 3) := by decide +kernel
theorem dX12_escapes_6 : decode cX12_escapes 6 = .ok (.ifCond .eq 7, 3) := by decide +kernel
theorem dX12_escapes_9 : decode cX12_escapes 9 = .ok (.iconst 0, 1) := by decide +kernel
theorem dX12_escapes_10 : decode cX12_escapes 10 = .ok (.goto 20, 3) := by decide +kernel
theorem dX12_escapes_13 : decode cX12_escapes 13 = .ok (.iconst 0, 1) := by decide +kernel
theorem dX12_escapes_14 : decode cX12_escapes 14 = .ok (.aload_n 0, 1) := by decide +kernel
theorem dX12_escapes_15 : decode cX12_escapes 15 = .ok (.iload_n 1, 1) := by decide +kernel
theorem dX12_escapes_16 : decode cX12_escapes 16 = .ok (.iconst 0, 1) := by decide +kernel
theorem dX12_escapes_17 : decode cX12_escapes 17 = .ok (.invokevirtual 93, 3) := by decide +kernel
theorem dX12_escapes_20 : decode cX12_escapes 20 = .ok (.aload_n 0, 1) := by decide +kernel
theorem dX12_escapes_21 : decode cX12_escapes 21 = .ok (.getfield 25, 3) := by decide +kernel
theorem dX12_escapes_24 : decode cX12_escapes 24 = .ok (.iconst 1, 1) := by decide +kernel
theorem dX12_escapes_25 : decode cX12_escapes 25 = .ok (.iaload, 1) := by decide +kernel
theorem dX12_escapes_26 : decode cX12_escapes 26 = .ok (.isub, 1) := by decide +kernel
theorem dX12_escapes_27 : decode cX12_escapes 27 = .ok (.invokestatic 179, 3) := by decide +kernel
theorem dX12_escapes_30 : decode cX12_escapes 30 = .ok (.ireturn, 1) := by decide +kernel
theorem dX12_rollOut_0 : decode cX12_rollOut 0 = .ok (.aload_n 0, 1) := by decide +kernel
theorem dX12_rollOut_1 : decode cX12_rollOut 1 = .ok (.iload_n 1, 1) := by decide +kernel
theorem dX12_rollOut_2 : decode cX12_rollOut 2 = .ok (.invokevirtual 182, 3) := by decide +kernel
theorem dX12_rollOut_5 : decode cX12_rollOut 5 = .ok (.istore_n 3, 1) := by decide +kernel
theorem dX12_rollOut_6 : decode cX12_rollOut 6 = .ok (.iconst 0, 1) := by decide +kernel
theorem dX12_rollOut_7 : decode cX12_rollOut 7 = .ok (.istore 4, 2) := by decide +kernel
theorem dX12_rollOut_9 : decode cX12_rollOut 9 = .ok (.aload_n 0, 1) := by decide +kernel
theorem dX12_rollOut_10 : decode cX12_rollOut 10 = .ok (.iconst 0, 1) := by decide +kernel
theorem dX12_rollOut_11 : decode cX12_rollOut 11 = .ok (.putfield 185, 3) := by decide +kernel
theorem dX12_rollOut_14 : decode cX12_rollOut 14 = .ok (.aload_n 0, 1) := by decide +kernel
theorem dX12_rollOut_15 : decode cX12_rollOut 15 = .ok (.iconst 0, 1) := by decide +kernel
theorem dX12_rollOut_16 : decode cX12_rollOut 16 = .ok (.putfield 188, 3) := by decide +kernel
theorem dX12_rollOut_19 : decode cX12_rollOut 19 = .ok (.aload_n 0, 1) := by decide +kernel
theorem dX12_rollOut_20 : decode cX12_rollOut 20 = .ok (.iconst 0, 1) := by decide +kernel
theorem dX12_rollOut_21 : decode cX12_rollOut 21 = .ok (.putfield 104, 3) := by decide +kernel
theorem dX12_rollOut_24 : decode cX12_rollOut 24 = .ok (.aload_n 0, 1) := by decide +kernel
theorem dX12_rollOut_25 : decode cX12_rollOut 25 = .ok (.bipush 6, 2) := by decide +kernel
theorem dX12_rollOut_27 : decode cX12_rollOut 27 = .ok (.bipush 6, 2) := by decide +kernel
theorem dX12_rollOut_29 : decode cX12_rollOut 29 = .ok (.iconst 0, 1) := by decide +kernel
theorem dX12_rollOut_30 : decode cX12_rollOut 30 = .ok (.invokevirtual 90, 3) := by decide +kernel
theorem dX12_rollOut_33 : decode cX12_rollOut 33 = .ok (.iconst 0, 1) := by decide +kernel
theorem dX12_rollOut_34 : decode cX12_rollOut 34 = .ok (.istore 5, 2) := by decide +kernel
theorem dX12_rollOut_36 : decode cX12_rollOut 36 = .ok (.iload 5, 2) := by decide +kernel
theorem dX12_rollOut_38 : decode cX12_rollOut 38 = .ok (.aload_n 0, 1) := by decide +kernel
theorem dX12_rollOut_39 : decode cX12_rollOut 39 = .ok (.iload_n 1, 1) := by decide +kernel
theorem dX12_rollOut_40 : decode cX12_rollOut 40 = .ok (.bipush 6, 2) := by decide +kernel
theorem dX12_rollOut_42 : decode cX12_rollOut 42 = .ok (.invokevirtual 93, 3) := by decide +kernel
theorem dX12_rollOut_45 : decode cX12_rollOut 45 = .ok (.if_icmp .ge 113, 3) := by decide +kernel
theorem dX12_rollOut_48 : decode cX12_rollOut 48 = .ok (.aload_n 0, 1) := by decide +kernel
theorem dX12_rollOut_49 : decode cX12_rollOut 49 = .ok (.iload_n 1, 1) := by decide +kernel
theorem dX12_rollOut_50 : decode cX12_rollOut 50 = .ok (.iload 5, 2) := by decide +kernel
theorem dX12_rollOut_52 : decode cX12_rollOut 52 = .ok (.invokevirtual 97, 3) := by decide +kernel
theorem dX12_rollOut_55 : decode cX12_rollOut 55 = .ok (.istore 6, 2) := by decide +kernel
theorem dX12_rollOut_57 : decode cX12_rollOut 57 = .ok (.iload 6, 2) := by decide +kernel
theorem dX12_rollOut_59 : decode cX12_rollOut 59 = .ok (.ifCond .ge 13, 3) := by decide +kernel
theorem dX12_rollOut_62 : decode cX12_rollOut 62 = .ok (.iload_n 3, 1) := by decide +kernel
theorem dX12_rollOut_63 : decode cX12_rollOut 63 = .ok (.iload 6, 2) := by decide +kernel
theorem dX12_rollOut_65 : decode cX12_rollOut 65 = .ok (.ineg, 1) := by decide +kernel
theorem dX12_rollOut_66 : decode cX12_rollOut 66 = .ok (.invokestatic 165, 3) := by decide +kernel
theorem dX12_rollOut_69 : decode cX12_rollOut 69 = .ok (.goto 4, 3) := by decide +kernel
theorem dX12_rollOut_72 : decode cX12_rollOut 72 = .ok (.iconst 0, 1) := by decide +kernel
theorem dX12_rollOut_73 : decode cX12_rollOut 73 = .ok (.istore 7, 2) := by decide +kernel
theorem dX12_rollOut_75 : decode cX12_rollOut 75 = .ok (.iload 6, 2) := by decide +kernel
theorem dX12_rollOut_77 : decode cX12_rollOut 77 = .ok (.invokestatic 121, 3) := by decide +kernel
theorem dX12_rollOut_80 : decode cX12_rollOut 80 = .ok (.iload 7, 2) := by decide +kernel
theorem dX12_rollOut_82 : decode cX12_rollOut 82 = .ok (.isub, 1) := by decide +kernel
theorem dX12_rollOut_83 : decode cX12_rollOut 83 = .ok (.iload_n 2, 1) := by decide +kernel
theorem dX12_rollOut_84 : decode cX12_rollOut 84 = .ok (.idiv, 1) := by decide +kernel
theorem dX12_rollOut_85 : decode cX12_rollOut 85 = .ok (.istore 8, 2) := by decide +kernel
theorem dX12_rollOut_87 : decode cX12_rollOut 87 = .ok (.aload_n 0, 1) := by decide +kernel
theorem dX12_rollOut_88 : decode cX12_rollOut 88 = .ok (.dup, 1) := by decide +kernel
theorem dX12_rollOut_89 : decode cX12_rollOut 89 = .ok (.getfield 185, 3) := by decide +kernel
theorem dX12_rollOut_92 : decode cX12_rollOut 92 = .ok (.iload 7, 2) := by decide +kernel
theorem dX12_rollOut_94 : decode cX12_rollOut 94 = .ok (.iadd, 1) := by decide +kernel
theorem dX12_rollOut_95 : decode cX12_rollOut 95 = .ok (.putfield 185, 3) := by decide +kernel
theorem dX12_rollOut_98 : decode cX12_rollOut 98 = .ok (.iload 6, 2) := by decide +kernel
theorem dX12_rollOut_100 : decode cX12_rollOut 100 = .ok (.ifCond .ge 24, 3) := by decide +kernel
theorem dX12_rollOut_103 : decode cX12_rollOut 103 = .ok (.iload 8, 2) := by decide +kernel
theorem dX12_rollOut_105 : decode cX12_rollOut 105 = .ok (.ifCond .ne 19, 3) := by decide +kernel
theorem dX12_rollOut_108 : decode cX12_rollOut 108 = .ok (.aload_n 0, 1) := by decide +kernel
theorem dX12_rollOut_109 : decode cX12_rollOut 109 = .ok (.dup, 1) := by decide +kernel
theorem dX12_rollOut_110 : decode cX12_rollOut 110 = .ok (.getfield 188, 3) := by decide +kernel
theorem dX12_rollOut_113 : decode cX12_rollOut 113 = .ok (.iconst 1, 1) := by decide +kernel
theorem dX12_rollOut_114 : decode cX12_rollOut 114 = .ok (.iadd, 1) := by decide +kernel
theorem dX12_rollOut_115 : decode cX12_rollOut 115 = .ok (.putfield 188, 3) := by decide +kernel
theorem dX12_rollOut_118 : decode cX12_rollOut 118 = .ok (.iconst 1, 1) := by decide +kernel
theorem dX12_rollOut_119 : decode cX12_rollOut 119 = .ok (.istore 4, 2) := by decide +kernel
theorem dX12_rollOut_121 : decode cX12_rollOut 121 = .ok (.goto 31, 3) := by decide +kernel
theorem dX12_rollOut_124 : decode cX12_rollOut 124 = .ok (.aload_n 0, 1) := by decide +kernel
theorem dX12_rollOut_125 : decode cX12_rollOut 125 = .ok (.bipush 6, 2) := by decide +kernel
theorem dX12_rollOut_127 : decode cX12_rollOut 127 = .ok (.iload 6, 2) := by decide +kernel
theorem dX12_rollOut_129 : decode cX12_rollOut 129 = .ok (.ifCond .ge 9, 3) := by decide +kernel
theorem dX12_rollOut_132 : decode cX12_rollOut 132 = .ok (.iload 8, 2) := by decide +kernel
theorem dX12_rollOut_134 : decode cX12_rollOut 134 = .ok (.ineg, 1) := by decide +kernel
theorem dX12_rollOut_135 : decode cX12_rollOut 135 = .ok (.goto 9, 3) := by decide +kernel
theorem dX12_rollOut_138 : decode cX12_rollOut 138 = .ok (.iconst 1, 1) := by decide +kernel
theorem dX12_rollOut_139 : decode cX12_rollOut 139 = .ok (.iload 8, 2) := by decide +kernel
theorem dX12_rollOut_141 : decode cX12_rollOut 141 = .ok (.invokestatic 179, 3) := by decide +kernel
theorem dX12_rollOut_144 : decode cX12_rollOut 144 = .ok (.iload 4, 2) := by decide +kernel
theorem dX12_rollOut_146 : decode cX12_rollOut 146 = .ok (.invokevirtual 171, 3) := by decide +kernel
theorem dX12_rollOut_149 : decode cX12_rollOut 149 = .ok (.iconst 0, 1) := by decide +kernel
theorem dX12_rollOut_150 : decode cX12_rollOut 150 = .ok (.istore 4, 2) := by decide +kernel
theorem dX12_rollOut_152 : decode cX12_rollOut 152 = .ok (.iinc 5 1, 3) := by decide +kernel
theorem dX12_rollOut_155 : decode cX12_rollOut 155 = .ok (.goto (-119), 3) := by decide +kernel
theorem dX12_rollOut_158 : decode cX12_rollOut 158 = .ok (.return_, 1) := by decide +kernel
theorem dX12_butterAtRisk_0 : decode cX12_butterAtRisk 0 = .ok (.aload_n 0, 1) := by decide +kernel
theorem dX12_butterAtRisk_1 : decode cX12_butterAtRisk 1 = .ok (.aload_n 0, 1) := by decide +kernel
theorem dX12_butterAtRisk_2 : decode cX12_butterAtRisk 2 = .ok (.iload_n 1, 1) := by decide +kernel
theorem dX12_butterAtRisk_3 : decode cX12_butterAtRisk 3 = .ok (.invokevirtual 111, 3) := by decide +kernel
theorem dX12_butterAtRisk_6 : decode cX12_butterAtRisk 6 = .ok (.invokevirtual 82, 3) := by decide +kernel
theorem dX12_butterAtRisk_9 : decode cX12_butterAtRisk 9 = .ok (.ifCond .eq 5, 3) := by decide +kernel
theorem dX12_butterAtRisk_12 : decode cX12_butterAtRisk 12 = .ok (.iconst 0, 1) := by decide +kernel
theorem dX12_butterAtRisk_13 : decode cX12_butterAtRisk 13 = .ok (.ireturn, 1) := by decide +kernel
theorem dX12_butterAtRisk_14 : decode cX12_butterAtRisk 14 = .ok (.aload_n 0, 1) := by decide +kernel
theorem dX12_butterAtRisk_15 : decode cX12_butterAtRisk 15 = .ok (.iload_n 1, 1) := by decide +kernel
theorem dX12_butterAtRisk_16 : decode cX12_butterAtRisk 16 = .ok (.iconst 2, 1) := by decide +kernel
theorem dX12_butterAtRisk_17 : decode cX12_butterAtRisk 17 = .ok (.invokevirtual 191, 3) := by decide +kernel
theorem dX12_butterAtRisk_20 : decode cX12_butterAtRisk 20 = .ok (.aload_n 0, 1) := by decide +kernel
theorem dX12_butterAtRisk_21 : decode cX12_butterAtRisk 21 = .ok (.getfield 185, 3) := by decide +kernel
theorem dX12_butterAtRisk_24 : decode cX12_butterAtRisk 24 = .ok (.ireturn, 1) := by decide +kernel
theorem dX12_layersAtRisk_0 : decode cX12_layersAtRisk 0 = .ok (.aload_n 0, 1) := by decide +kernel
theorem dX12_layersAtRisk_1 : decode cX12_layersAtRisk 1 = .ok (.iload_n 1, 1) := by decide +kernel
theorem dX12_layersAtRisk_2 : decode cX12_layersAtRisk 2 = .ok (.iload_n 2, 1) := by decide +kernel
theorem dX12_layersAtRisk_3 : decode cX12_layersAtRisk 3 = .ok (.invokevirtual 159, 3) := by decide +kernel
theorem dX12_layersAtRisk_6 : decode cX12_layersAtRisk 6 = .ok (.ifCond .eq 5, 3) := by decide +kernel
theorem dX12_layersAtRisk_9 : decode cX12_layersAtRisk 9 = .ok (.iconst 0, 1) := by decide +kernel
theorem dX12_layersAtRisk_10 : decode cX12_layersAtRisk 10 = .ok (.ireturn, 1) := by decide +kernel
theorem dX12_layersAtRisk_11 : decode cX12_layersAtRisk 11 = .ok (.aload_n 0, 1) := by decide +kernel
theorem dX12_layersAtRisk_12 : decode cX12_layersAtRisk 12 = .ok (.iload_n 1, 1) := by decide +kernel
theorem dX12_layersAtRisk_13 : decode cX12_layersAtRisk 13 = .ok (.iload_n 2, 1) := by decide +kernel
theorem dX12_layersAtRisk_14 : decode cX12_layersAtRisk 14 = .ok (.invokevirtual 191, 3) := by decide +kernel
theorem dX12_layersAtRisk_17 : decode cX12_layersAtRisk 17 = .ok (.aload_n 0, 1) := by decide +kernel
theorem dX12_layersAtRisk_18 : decode cX12_layersAtRisk 18 = .ok (.getfield 188, 3) := by decide +kernel
theorem dX12_layersAtRisk_21 : decode cX12_layersAtRisk 21 = .ok (.ireturn, 1) := by decide +kernel
theorem dX12_heightAfterRoll_0 : decode cX12_heightAfterRoll 0 = .ok (.aload_n 0, 1) := by decide +kernel
theorem dX12_heightAfterRoll_1 : decode cX12_heightAfterRoll 1 = .ok (.iload_n 1, 1) := by decide +kernel
theorem dX12_heightAfterRoll_2 : decode cX12_heightAfterRoll 2 = .ok (.iload_n 2, 1) := by decide +kernel
theorem dX12_heightAfterRoll_3 : decode cX12_heightAfterRoll 3 = .ok (.invokevirtual 159, 3) := by decide +kernel
theorem dX12_heightAfterRoll_6 : decode cX12_heightAfterRoll 6 = .ok (.ifCond .eq 5, 3) := by decide +kernel
theorem dX12_heightAfterRoll_9 : decode cX12_heightAfterRoll 9 = .ok (.iconst 0, 1) := by decide +kernel
theorem dX12_heightAfterRoll_10 : decode cX12_heightAfterRoll 10 = .ok (.ireturn, 1) := by decide +kernel
theorem dX12_heightAfterRoll_11 : decode cX12_heightAfterRoll 11 = .ok (.aload_n 0, 1) := by decide +kernel
theorem dX12_heightAfterRoll_12 : decode cX12_heightAfterRoll 12 = .ok (.iload_n 1, 1) := by decide +kernel
theorem dX12_heightAfterRoll_13 : decode cX12_heightAfterRoll 13 = .ok (.iload_n 2, 1) := by decide +kernel
theorem dX12_heightAfterRoll_14 : decode cX12_heightAfterRoll 14 = .ok (.invokevirtual 191, 3) := by decide +kernel
theorem dX12_heightAfterRoll_17 : decode cX12_heightAfterRoll 17 = .ok (.aload_n 0, 1) := by decide +kernel
theorem dX12_heightAfterRoll_18 : decode cX12_heightAfterRoll 18 = .ok (.bipush 6, 2) := by decide +kernel
theorem dX12_heightAfterRoll_20 : decode cX12_heightAfterRoll 20 = .ok (.invokevirtual 136, 3) := by decide +kernel
theorem dX12_heightAfterRoll_23 : decode cX12_heightAfterRoll 23 = .ok (.ireturn, 1) := by decide +kernel
theorem dX12_cooled_0 : decode cX12_cooled 0 = .ok (.iload_n 0, 1) := by decide +kernel
theorem dX12_cooled_1 : decode cX12_cooled 1 = .ok (.iconst 4, 1) := by decide +kernel
theorem dX12_cooled_2 : decode cX12_cooled 2 = .ok (.if_icmp .le 13, 3) := by decide +kernel
theorem dX12_cooled_5 : decode cX12_cooled 5 = .ok (.iconst 4, 1) := by decide +kernel
theorem dX12_cooled_6 : decode cX12_cooled 6 = .ok (.iload_n 0, 1) := by decide +kernel
theorem dX12_cooled_7 : decode cX12_cooled 7 = .ok (.iconst 4, 1) := by decide +kernel
theorem dX12_cooled_8 : decode cX12_cooled 8 = .ok (.isub, 1) := by decide +kernel
theorem dX12_cooled_9 : decode cX12_cooled 9 = .ok (.invokestatic 179, 3) := by decide +kernel
theorem dX12_cooled_12 : decode cX12_cooled 12 = .ok (.goto 4, 3) := by decide +kernel
theorem dX12_cooled_15 : decode cX12_cooled 15 = .ok (.iload_n 0, 1) := by decide +kernel
theorem dX12_cooled_16 : decode cX12_cooled 16 = .ok (.ireturn, 1) := by decide +kernel
theorem dX12_later_0 : decode cX12_later 0 = .ok (.iload_n 2, 1) := by decide +kernel
theorem dX12_later_1 : decode cX12_later 1 = .ok (.ifCond .eq 8, 3) := by decide +kernel
theorem dX12_later_4 : decode cX12_later 4 = .ok (.iload_n 1, 1) := by decide +kernel
theorem dX12_later_5 : decode cX12_later 5 = .ok (.invokestatic 194, 3) := by decide +kernel
theorem dX12_later_8 : decode cX12_later 8 = .ok (.ireturn, 1) := by decide +kernel
theorem dX12_later_9 : decode cX12_later 9 = .ok (.iload_n 1, 1) := by decide +kernel
theorem dX12_later_10 : decode cX12_later 10 = .ok (.aload_n 0, 1) := by decide +kernel
theorem dX12_later_11 : decode cX12_later 11 = .ok (.getfield 25, 3) := by decide +kernel
theorem dX12_later_14 : decode cX12_later 14 = .ok (.iconst 0, 1) := by decide +kernel
theorem dX12_later_15 : decode cX12_later 15 = .ok (.iaload, 1) := by decide +kernel
theorem dX12_later_16 : decode cX12_later 16 = .ok (.if_icmp .ge 9, 3) := by decide +kernel
theorem dX12_later_19 : decode cX12_later 19 = .ok (.iload_n 1, 1) := by decide +kernel
theorem dX12_later_20 : decode cX12_later 20 = .ok (.iconst 1, 1) := by decide +kernel
theorem dX12_later_21 : decode cX12_later 21 = .ok (.iadd, 1) := by decide +kernel
theorem dX12_later_22 : decode cX12_later 22 = .ok (.goto 20, 3) := by decide +kernel
theorem dX12_later_25 : decode cX12_later 25 = .ok (.iload_n 1, 1) := by decide +kernel
theorem dX12_later_26 : decode cX12_later 26 = .ok (.aload_n 0, 1) := by decide +kernel
theorem dX12_later_27 : decode cX12_later 27 = .ok (.getfield 25, 3) := by decide +kernel
theorem dX12_later_30 : decode cX12_later 30 = .ok (.iconst 0, 1) := by decide +kernel
theorem dX12_later_31 : decode cX12_later 31 = .ok (.iaload, 1) := by decide +kernel
theorem dX12_later_32 : decode cX12_later 32 = .ok (.if_icmp .le 9, 3) := by decide +kernel
theorem dX12_later_35 : decode cX12_later 35 = .ok (.iload_n 1, 1) := by decide +kernel
theorem dX12_later_36 : decode cX12_later 36 = .ok (.iconst 1, 1) := by decide +kernel
theorem dX12_later_37 : decode cX12_later 37 = .ok (.isub, 1) := by decide +kernel
theorem dX12_later_38 : decode cX12_later 38 = .ok (.goto 4, 3) := by decide +kernel
theorem dX12_later_41 : decode cX12_later 41 = .ok (.iload_n 1, 1) := by decide +kernel
theorem dX12_later_42 : decode cX12_later 42 = .ok (.ireturn, 1) := by decide +kernel
theorem dX12_temperatureAfter_0 : decode cX12_temperatureAfter 0 = .ok (.aload_n 0, 1) := by decide +kernel
theorem dX12_temperatureAfter_1 : decode cX12_temperatureAfter 1 = .ok (.aload_n 0, 1) := by decide +kernel
theorem dX12_temperatureAfter_2 : decode cX12_temperatureAfter 2 = .ok (.iload_n 1, 1) := by decide +kernel
theorem dX12_temperatureAfter_3 : decode cX12_temperatureAfter 3 = .ok (.invokevirtual 111, 3) := by decide +kernel
theorem dX12_temperatureAfter_6 : decode cX12_temperatureAfter 6 = .ok (.iload_n 2, 1) := by decide +kernel
theorem dX12_temperatureAfter_7 : decode cX12_temperatureAfter 7 = .ok (.iconst 0, 1) := by decide +kernel
theorem dX12_temperatureAfter_8 : decode cX12_temperatureAfter 8 = .ok (.bipush 24, 2) := by decide +kernel
theorem dX12_temperatureAfter_10 : decode cX12_temperatureAfter 10 = .ok (.invokestatic 107, 3) := by decide +kernel
theorem dX12_temperatureAfter_13 : decode cX12_temperatureAfter 13 = .ok (.invokevirtual 155, 3) := by decide +kernel
theorem dX12_temperatureAfter_16 : decode cX12_temperatureAfter 16 = .ok (.ifCond .eq 5, 3) := by decide +kernel
theorem dX12_temperatureAfter_19 : decode cX12_temperatureAfter 19 = .ok (.iconst 0, 1) := by decide +kernel
theorem dX12_temperatureAfter_20 : decode cX12_temperatureAfter 20 = .ok (.ireturn, 1) := by decide +kernel
theorem dX12_temperatureAfter_21 : decode cX12_temperatureAfter 21 = .ok (.aload_n 0, 1) := by decide +kernel
theorem dX12_temperatureAfter_22 : decode cX12_temperatureAfter 22 = .ok (.iload_n 1, 1) := by decide +kernel
theorem dX12_temperatureAfter_23 : decode cX12_temperatureAfter 23 = .ok (.iconst 0, 1) := by decide +kernel
theorem dX12_temperatureAfter_24 : decode cX12_temperatureAfter 24 = .ok (.invokevirtual 93, 3) := by decide +kernel
theorem dX12_temperatureAfter_27 : decode cX12_temperatureAfter 27 = .ok (.istore_n 3, 1) := by decide +kernel
theorem dX12_temperatureAfter_28 : decode cX12_temperatureAfter 28 = .ok (.iconst 0, 1) := by decide +kernel
theorem dX12_temperatureAfter_29 : decode cX12_temperatureAfter 29 = .ok (.istore 4, 2) := by decide +kernel
theorem dX12_temperatureAfter_31 : decode cX12_temperatureAfter 31 = .ok (.iload 4, 2) := by decide +kernel
theorem dX12_temperatureAfter_33 : decode cX12_temperatureAfter 33 = .ok (.iload_n 2, 1) := by decide +kernel
theorem dX12_temperatureAfter_34 : decode cX12_temperatureAfter 34 = .ok (.if_icmp .ge 21, 3) := by decide +kernel
theorem dX12_temperatureAfter_37 : decode cX12_temperatureAfter 37 = .ok (.aload_n 0, 1) := by decide +kernel
theorem dX12_temperatureAfter_38 : decode cX12_temperatureAfter 38 = .ok (.iload_n 3, 1) := by decide +kernel
theorem dX12_temperatureAfter_39 : decode cX12_temperatureAfter 39 = .ok (.aload_n 0, 1) := by decide +kernel
theorem dX12_temperatureAfter_40 : decode cX12_temperatureAfter 40 = .ok (.iload_n 1, 1) := by decide +kernel
theorem dX12_temperatureAfter_41 : decode cX12_temperatureAfter 41 = .ok (.iconst 3, 1) := by decide +kernel
theorem dX12_temperatureAfter_42 : decode cX12_temperatureAfter 42 = .ok (.invokevirtual 124, 3) := by decide +kernel
theorem dX12_temperatureAfter_45 : decode cX12_temperatureAfter 45 = .ok (.invokevirtual 197, 3) := by decide +kernel
theorem dX12_temperatureAfter_48 : decode cX12_temperatureAfter 48 = .ok (.istore_n 3, 1) := by decide +kernel
theorem dX12_temperatureAfter_49 : decode cX12_temperatureAfter 49 = .ok (.iinc 4 1, 3) := by decide +kernel
theorem dX12_temperatureAfter_52 : decode cX12_temperatureAfter 52 = .ok (.goto (-21), 3) := by decide +kernel
theorem dX12_temperatureAfter_55 : decode cX12_temperatureAfter 55 = .ok (.iload_n 3, 1) := by decide +kernel
theorem dX12_temperatureAfter_56 : decode cX12_temperatureAfter 56 = .ok (.ireturn, 1) := by decide +kernel
theorem dX12_hoursToSafety_0 : decode cX12_hoursToSafety 0 = .ok (.aload_n 0, 1) := by decide +kernel
theorem dX12_hoursToSafety_1 : decode cX12_hoursToSafety 1 = .ok (.aload_n 0, 1) := by decide +kernel
theorem dX12_hoursToSafety_2 : decode cX12_hoursToSafety 2 = .ok (.iload_n 1, 1) := by decide +kernel
theorem dX12_hoursToSafety_3 : decode cX12_hoursToSafety 3 = .ok (.invokevirtual 111, 3) := by decide +kernel
theorem dX12_hoursToSafety_6 : decode cX12_hoursToSafety 6 = .ok (.invokevirtual 82, 3) := by decide +kernel
theorem dX12_hoursToSafety_9 : decode cX12_hoursToSafety 9 = .ok (.ifCond .eq 5, 3) := by decide +kernel
theorem dX12_hoursToSafety_12 : decode cX12_hoursToSafety 12 = .ok (.iconst 0, 1) := by decide +kernel
theorem dX12_hoursToSafety_13 : decode cX12_hoursToSafety 13 = .ok (.ireturn, 1) := by decide +kernel
theorem dX12_hoursToSafety_14 : decode cX12_hoursToSafety 14 = .ok (.iconst 0, 1) := by decide +kernel
theorem dX12_hoursToSafety_15 : decode cX12_hoursToSafety 15 = .ok (.istore_n 2, 1) := by decide +kernel
theorem dX12_hoursToSafety_16 : decode cX12_hoursToSafety 16 = .ok (.aload_n 0, 1) := by decide +kernel
theorem dX12_hoursToSafety_17 : decode cX12_hoursToSafety 17 = .ok (.iload_n 1, 1) := by decide +kernel
theorem dX12_hoursToSafety_18 : decode cX12_hoursToSafety 18 = .ok (.iconst 0, 1) := by decide +kernel
theorem dX12_hoursToSafety_19 : decode cX12_hoursToSafety 19 = .ok (.invokevirtual 93, 3) := by decide +kernel
theorem dX12_hoursToSafety_22 : decode cX12_hoursToSafety 22 = .ok (.istore_n 3, 1) := by decide +kernel
theorem dX12_hoursToSafety_23 : decode cX12_hoursToSafety 23 = .ok (.iload_n 3, 1) := by decide +kernel
theorem dX12_hoursToSafety_24 : decode cX12_hoursToSafety 24 = .ok (.aload_n 0, 1) := by decide +kernel
theorem dX12_hoursToSafety_25 : decode cX12_hoursToSafety 25 = .ok (.getfield 25, 3) := by decide +kernel
theorem dX12_hoursToSafety_28 : decode cX12_hoursToSafety 28 = .ok (.iconst 1, 1) := by decide +kernel
theorem dX12_hoursToSafety_29 : decode cX12_hoursToSafety 29 = .ok (.iaload, 1) := by decide +kernel
theorem dX12_hoursToSafety_30 : decode cX12_hoursToSafety 30 = .ok (.if_icmp .le 14, 3) := by decide +kernel
theorem dX12_hoursToSafety_33 : decode cX12_hoursToSafety 33 = .ok (.iload_n 3, 1) := by decide +kernel
theorem dX12_hoursToSafety_34 : decode cX12_hoursToSafety 34 = .ok (.invokestatic 194, 3) := by decide +kernel
theorem dX12_hoursToSafety_37 : decode cX12_hoursToSafety 37 = .ok (.istore_n 3, 1) := by decide +kernel
theorem dX12_hoursToSafety_38 : decode cX12_hoursToSafety 38 = .ok (.iinc 2 1, 3) := by decide +kernel
theorem dX12_hoursToSafety_41 : decode cX12_hoursToSafety 41 = .ok (.goto (-18), 3) := by decide +kernel
theorem dX12_hoursToSafety_44 : decode cX12_hoursToSafety 44 = .ok (.iload_n 2, 1) := by decide +kernel
theorem dX12_hoursToSafety_45 : decode cX12_hoursToSafety 45 = .ok (.ireturn, 1) := by decide +kernel
theorem dX12_countWarm_0 : decode cX12_countWarm 0 = .ok (.iconst 0, 1) := by decide +kernel
theorem dX12_countWarm_1 : decode cX12_countWarm 1 = .ok (.istore_n 1, 1) := by decide +kernel
theorem dX12_countWarm_2 : decode cX12_countWarm 2 = .ok (.iconst 0, 1) := by decide +kernel
theorem dX12_countWarm_3 : decode cX12_countWarm 3 = .ok (.istore_n 2, 1) := by decide +kernel
theorem dX12_countWarm_4 : decode cX12_countWarm 4 = .ok (.iload_n 2, 1) := by decide +kernel
theorem dX12_countWarm_5 : decode cX12_countWarm 5 = .ok (.aload_n 0, 1) := by decide +kernel
theorem dX12_countWarm_6 : decode cX12_countWarm 6 = .ok (.getfield 25, 3) := by decide +kernel
theorem dX12_countWarm_9 : decode cX12_countWarm 9 = .ok (.iconst 3, 1) := by decide +kernel
theorem dX12_countWarm_10 : decode cX12_countWarm 10 = .ok (.iaload, 1) := by decide +kernel
theorem dX12_countWarm_11 : decode cX12_countWarm 11 = .ok (.if_icmp .ge 32, 3) := by decide +kernel
theorem dX12_countWarm_14 : decode cX12_countWarm 14 = .ok (.iload_n 1, 1) := by decide +kernel
theorem dX12_countWarm_15 : decode cX12_countWarm 15 = .ok (.aload_n 0, 1) := by decide +kernel
theorem dX12_countWarm_16 : decode cX12_countWarm 16 = .ok (.iload_n 2, 1) := by decide +kernel
theorem dX12_countWarm_17 : decode cX12_countWarm 17 = .ok (.iconst 0, 1) := by decide +kernel
theorem dX12_countWarm_18 : decode cX12_countWarm 18 = .ok (.invokevirtual 93, 3) := by decide +kernel
theorem dX12_countWarm_21 : decode cX12_countWarm 21 = .ok (.aload_n 0, 1) := by decide +kernel
theorem dX12_countWarm_22 : decode cX12_countWarm 22 = .ok (.getfield 25, 3) := by decide +kernel
theorem dX12_countWarm_25 : decode cX12_countWarm 25 = .ok (.iconst 1, 1) := by decide +kernel
theorem dX12_countWarm_26 : decode cX12_countWarm 26 = .ok (.iaload, 1) := by decide +kernel
theorem dX12_countWarm_27 : decode cX12_countWarm 27 = .ok (.if_icmp .le 7, 3) := by decide +kernel
theorem dX12_countWarm_30 : decode cX12_countWarm 30 = .ok (.iconst 1, 1) := by decide +kernel
theorem dX12_countWarm_31 : decode cX12_countWarm 31 = .ok (.goto 4, 3) := by decide +kernel
theorem dX12_countWarm_34 : decode cX12_countWarm 34 = .ok (.iconst 0, 1) := by decide +kernel
theorem dX12_countWarm_35 : decode cX12_countWarm 35 = .ok (.iadd, 1) := by decide +kernel
theorem dX12_countWarm_36 : decode cX12_countWarm 36 = .ok (.istore_n 1, 1) := by decide +kernel
theorem dX12_countWarm_37 : decode cX12_countWarm 37 = .ok (.iinc 2 1, 3) := by decide +kernel
theorem dX12_countWarm_40 : decode cX12_countWarm 40 = .ok (.goto (-36), 3) := by decide +kernel
theorem dX12_countWarm_43 : decode cX12_countWarm 43 = .ok (.iload_n 1, 1) := by decide +kernel
theorem dX12_countWarm_44 : decode cX12_countWarm 44 = .ok (.ireturn, 1) := by decide +kernel
theorem dX12_doFold_0 : decode cX12_doFold 0 = .ok (.aload_n 0, 1) := by decide +kernel
theorem dX12_doFold_1 : decode cX12_doFold 1 = .ok (.iload_n 1, 1) := by decide +kernel
theorem dX12_doFold_2 : decode cX12_doFold 2 = .ok (.invokevirtual 111, 3) := by decide +kernel
theorem dX12_doFold_5 : decode cX12_doFold 5 = .ok (.ifCond .ne 5, 3) := by decide +kernel
theorem dX12_doFold_8 : decode cX12_doFold 8 = .ok (.iconst 1, 1) := by decide +kernel
theorem dX12_doFold_9 : decode cX12_doFold 9 = .ok (.ireturn, 1) := by decide +kernel
theorem dX12_doFold_10 : decode cX12_doFold 10 = .ok (.aload_n 0, 1) := by decide +kernel
theorem dX12_doFold_11 : decode cX12_doFold 11 = .ok (.iload_n 1, 1) := by decide +kernel
theorem dX12_doFold_12 : decode cX12_doFold 12 = .ok (.iload_n 2, 1) := by decide +kernel
theorem dX12_doFold_13 : decode cX12_doFold 13 = .ok (.invokevirtual 162, 3) := by decide +kernel
theorem dX12_doFold_16 : decode cX12_doFold 16 = .ok (.ifCond .eq 5, 3) := by decide +kernel
theorem dX12_doFold_19 : decode cX12_doFold 19 = .ok (.iconst 3, 1) := by decide +kernel
theorem dX12_doFold_20 : decode cX12_doFold 20 = .ok (.ireturn, 1) := by decide +kernel
theorem dX12_doFold_21 : decode cX12_doFold 21 = .ok (.aload_n 0, 1) := by decide +kernel
theorem dX12_doFold_22 : decode cX12_doFold 22 = .ok (.iload_n 1, 1) := by decide +kernel
theorem dX12_doFold_23 : decode cX12_doFold 23 = .ok (.iload_n 2, 1) := by decide +kernel
theorem dX12_doFold_24 : decode cX12_doFold 24 = .ok (.invokevirtual 201, 3) := by decide +kernel
theorem dX12_doFold_27 : decode cX12_doFold 27 = .ok (.aload_n 0, 1) := by decide +kernel
theorem dX12_doFold_28 : decode cX12_doFold 28 = .ok (.aload_n 0, 1) := by decide +kernel
theorem dX12_doFold_29 : decode cX12_doFold 29 = .ok (.iload_n 1, 1) := by decide +kernel
theorem dX12_doFold_30 : decode cX12_doFold 30 = .ok (.bipush 6, 2) := by decide +kernel
theorem dX12_doFold_32 : decode cX12_doFold 32 = .ok (.invokevirtual 93, 3) := by decide +kernel
theorem dX12_doFold_35 : decode cX12_doFold 35 = .ok (.putfield 204, 3) := by decide +kernel
theorem dX12_doFold_38 : decode cX12_doFold 38 = .ok (.iconst 0, 1) := by decide +kernel
theorem dX12_doFold_39 : decode cX12_doFold 39 = .ok (.ireturn, 1) := by decide +kernel
theorem dX12_doRoll_0 : decode cX12_doRoll 0 = .ok (.aload_n 0, 1) := by decide +kernel
theorem dX12_doRoll_1 : decode cX12_doRoll 1 = .ok (.iload_n 1, 1) := by decide +kernel
theorem dX12_doRoll_2 : decode cX12_doRoll 2 = .ok (.invokevirtual 111, 3) := by decide +kernel
theorem dX12_doRoll_5 : decode cX12_doRoll 5 = .ok (.ifCond .ne 5, 3) := by decide +kernel
theorem dX12_doRoll_8 : decode cX12_doRoll 8 = .ok (.iconst 1, 1) := by decide +kernel
theorem dX12_doRoll_9 : decode cX12_doRoll 9 = .ok (.ireturn, 1) := by decide +kernel
theorem dX12_doRoll_10 : decode cX12_doRoll 10 = .ok (.aload_n 0, 1) := by decide +kernel
theorem dX12_doRoll_11 : decode cX12_doRoll 11 = .ok (.iload_n 1, 1) := by decide +kernel
theorem dX12_doRoll_12 : decode cX12_doRoll 12 = .ok (.iload_n 2, 1) := by decide +kernel
theorem dX12_doRoll_13 : decode cX12_doRoll 13 = .ok (.invokevirtual 191, 3) := by decide +kernel
theorem dX12_doRoll_16 : decode cX12_doRoll 16 = .ok (.aload_n 0, 1) := by decide +kernel
theorem dX12_doRoll_17 : decode cX12_doRoll 17 = .ok (.iload_n 1, 1) := by decide +kernel
theorem dX12_doRoll_18 : decode cX12_doRoll 18 = .ok (.iconst 3, 1) := by decide +kernel
theorem dX12_doRoll_19 : decode cX12_doRoll 19 = .ok (.invokevirtual 124, 3) := by decide +kernel
theorem dX12_doRoll_22 : decode cX12_doRoll 22 = .ok (.ifCond .ne 14, 3) := by decide +kernel
theorem dX12_doRoll_25 : decode cX12_doRoll 25 = .ok (.aload_n 0, 1) := by decide +kernel
theorem dX12_doRoll_26 : decode cX12_doRoll 26 = .ok (.bipush 6, 2) := by decide +kernel
theorem dX12_doRoll_28 : decode cX12_doRoll 28 = .ok (.bipush 6, 2) := by decide +kernel
theorem dX12_doRoll_30 : decode cX12_doRoll 30 = .ok (.invokevirtual 93, 3) := by decide +kernel
theorem dX12_doRoll_33 : decode cX12_doRoll 33 = .ok (.ifCond .ne 5, 3) := by decide +kernel
theorem dX12_doRoll_36 : decode cX12_doRoll 36 = .ok (.iconst 3, 1) := by decide +kernel
theorem dX12_doRoll_37 : decode cX12_doRoll 37 = .ok (.ireturn, 1) := by decide +kernel
theorem dX12_doRoll_38 : decode cX12_doRoll 38 = .ok (.aload_n 0, 1) := by decide +kernel
theorem dX12_doRoll_39 : decode cX12_doRoll 39 = .ok (.getfield 25, 3) := by decide +kernel
theorem dX12_doRoll_42 : decode cX12_doRoll 42 = .ok (.iconst 5, 1) := by decide +kernel
theorem dX12_doRoll_43 : decode cX12_doRoll 43 = .ok (.dup2, 1) := by decide +kernel
theorem dX12_doRoll_44 : decode cX12_doRoll 44 = .ok (.iaload, 1) := by decide +kernel
theorem dX12_doRoll_45 : decode cX12_doRoll 45 = .ok (.aload_n 0, 1) := by decide +kernel
theorem dX12_doRoll_46 : decode cX12_doRoll 46 = .ok (.getfield 185, 3) := by decide +kernel
theorem dX12_doRoll_49 : decode cX12_doRoll 49 = .ok (.iadd, 1) := by decide +kernel
theorem dX12_doRoll_50 : decode cX12_doRoll 50 = .ok (.iastore, 1) := by decide +kernel
theorem dX12_doRoll_51 : decode cX12_doRoll 51 = .ok (.aload_n 0, 1) := by decide +kernel
theorem dX12_doRoll_52 : decode cX12_doRoll 52 = .ok (.getfield 25, 3) := by decide +kernel
theorem dX12_doRoll_55 : decode cX12_doRoll 55 = .ok (.bipush 6, 2) := by decide +kernel
theorem dX12_doRoll_57 : decode cX12_doRoll 57 = .ok (.dup2, 1) := by decide +kernel
theorem dX12_doRoll_58 : decode cX12_doRoll 58 = .ok (.iaload, 1) := by decide +kernel
theorem dX12_doRoll_59 : decode cX12_doRoll 59 = .ok (.aload_n 0, 1) := by decide +kernel
theorem dX12_doRoll_60 : decode cX12_doRoll 60 = .ok (.getfield 188, 3) := by decide +kernel
theorem dX12_doRoll_63 : decode cX12_doRoll 63 = .ok (.iadd, 1) := by decide +kernel
theorem dX12_doRoll_64 : decode cX12_doRoll 64 = .ok (.iastore, 1) := by decide +kernel
theorem dX12_doRoll_65 : decode cX12_doRoll 65 = .ok (.aload_n 0, 1) := by decide +kernel
theorem dX12_doRoll_66 : decode cX12_doRoll 66 = .ok (.iload_n 1, 1) := by decide +kernel
theorem dX12_doRoll_67 : decode cX12_doRoll 67 = .ok (.iconst 5, 1) := by decide +kernel
theorem dX12_doRoll_68 : decode cX12_doRoll 68 = .ok (.aload_n 0, 1) := by decide +kernel
theorem dX12_doRoll_69 : decode cX12_doRoll 69 = .ok (.iload_n 1, 1) := by decide +kernel
theorem dX12_doRoll_70 : decode cX12_doRoll 70 = .ok (.iconst 5, 1) := by decide +kernel
theorem dX12_doRoll_71 : decode cX12_doRoll 71 = .ok (.invokevirtual 93, 3) := by decide +kernel
theorem dX12_doRoll_74 : decode cX12_doRoll 74 = .ok (.aload_n 0, 1) := by decide +kernel
theorem dX12_doRoll_75 : decode cX12_doRoll 75 = .ok (.getfield 188, 3) := by decide +kernel
theorem dX12_doRoll_78 : decode cX12_doRoll 78 = .ok (.isub, 1) := by decide +kernel
theorem dX12_doRoll_79 : decode cX12_doRoll 79 = .ok (.aload_n 0, 1) := by decide +kernel
theorem dX12_doRoll_80 : decode cX12_doRoll 80 = .ok (.getfield 104, 3) := by decide +kernel
theorem dX12_doRoll_83 : decode cX12_doRoll 83 = .ok (.isub, 1) := by decide +kernel
theorem dX12_doRoll_84 : decode cX12_doRoll 84 = .ok (.invokevirtual 90, 3) := by decide +kernel
theorem dX12_doRoll_87 : decode cX12_doRoll 87 = .ok (.aload_n 0, 1) := by decide +kernel
theorem dX12_doRoll_88 : decode cX12_doRoll 88 = .ok (.iload_n 1, 1) := by decide +kernel
theorem dX12_doRoll_89 : decode cX12_doRoll 89 = .ok (.bipush 6, 2) := by decide +kernel
theorem dX12_doRoll_91 : decode cX12_doRoll 91 = .ok (.aload_n 0, 1) := by decide +kernel
theorem dX12_doRoll_92 : decode cX12_doRoll 92 = .ok (.bipush 6, 2) := by decide +kernel
theorem dX12_doRoll_94 : decode cX12_doRoll 94 = .ok (.bipush 6, 2) := by decide +kernel
theorem dX12_doRoll_96 : decode cX12_doRoll 96 = .ok (.invokevirtual 93, 3) := by decide +kernel
theorem dX12_doRoll_99 : decode cX12_doRoll 99 = .ok (.invokevirtual 90, 3) := by decide +kernel
theorem dX12_doRoll_102 : decode cX12_doRoll 102 = .ok (.aload_n 0, 1) := by decide +kernel
theorem dX12_doRoll_103 : decode cX12_doRoll 103 = .ok (.getfield 25, 3) := by decide +kernel
theorem dX12_doRoll_106 : decode cX12_doRoll 106 = .ok (.bipush 6, 2) := by decide +kernel
theorem dX12_doRoll_108 : decode cX12_doRoll 108 = .ok (.invokestatic 86, 3) := by decide +kernel
theorem dX12_doRoll_111 : decode cX12_doRoll 111 = .ok (.bipush 7, 2) := by decide +kernel
theorem dX12_doRoll_113 : decode cX12_doRoll 113 = .ok (.iadd, 1) := by decide +kernel
theorem dX12_doRoll_114 : decode cX12_doRoll 114 = .ok (.aload_n 0, 1) := by decide +kernel
theorem dX12_doRoll_115 : decode cX12_doRoll 115 = .ok (.getfield 25, 3) := by decide +kernel
theorem dX12_doRoll_118 : decode cX12_doRoll 118 = .ok (.iload_n 1, 1) := by decide +kernel
theorem dX12_doRoll_119 : decode cX12_doRoll 119 = .ok (.invokestatic 86, 3) := by decide +kernel
theorem dX12_doRoll_122 : decode cX12_doRoll 122 = .ok (.bipush 7, 2) := by decide +kernel
theorem dX12_doRoll_124 : decode cX12_doRoll 124 = .ok (.iadd, 1) := by decide +kernel
theorem dX12_doRoll_125 : decode cX12_doRoll 125 = .ok (.sipush 200, 3) := by decide +kernel
theorem dX12_doRoll_128 : decode cX12_doRoll 128 = .ok (.invokestatic 115, 3) := by decide +kernel
theorem dX12_doRoll_131 : decode cX12_doRoll 131 = .ok (.aload_n 0, 1) := by decide +kernel
theorem dX12_doRoll_132 : decode cX12_doRoll 132 = .ok (.iload_n 1, 1) := by decide +kernel
theorem dX12_doRoll_133 : decode cX12_doRoll 133 = .ok (.iconst 2, 1) := by decide +kernel
theorem dX12_doRoll_134 : decode cX12_doRoll 134 = .ok (.iconst 0, 1) := by decide +kernel
theorem dX12_doRoll_135 : decode cX12_doRoll 135 = .ok (.invokevirtual 90, 3) := by decide +kernel
theorem dX12_doRoll_138 : decode cX12_doRoll 138 = .ok (.aload_n 0, 1) := by decide +kernel
theorem dX12_doRoll_139 : decode cX12_doRoll 139 = .ok (.iload_n 1, 1) := by decide +kernel
theorem dX12_doRoll_140 : decode cX12_doRoll 140 = .ok (.invokevirtual 175, 3) := by decide +kernel
theorem dX12_doRoll_143 : decode cX12_doRoll 143 = .ok (.aload_n 0, 1) := by decide +kernel
theorem dX12_doRoll_144 : decode cX12_doRoll 144 = .ok (.aload_n 0, 1) := by decide +kernel
theorem dX12_doRoll_145 : decode cX12_doRoll 145 = .ok (.iload_n 1, 1) := by decide +kernel
theorem dX12_doRoll_146 : decode cX12_doRoll 146 = .ok (.bipush 6, 2) := by decide +kernel
theorem dX12_doRoll_148 : decode cX12_doRoll 148 = .ok (.invokevirtual 93, 3) := by decide +kernel
theorem dX12_doRoll_151 : decode cX12_doRoll 151 = .ok (.putfield 204, 3) := by decide +kernel
theorem dX12_doRoll_154 : decode cX12_doRoll 154 = .ok (.iconst 0, 1) := by decide +kernel
theorem dX12_doRoll_155 : decode cX12_doRoll 155 = .ok (.ireturn, 1) := by decide +kernel
theorem dX12_doDust_0 : decode cX12_doDust 0 = .ok (.aload_n 0, 1) := by decide +kernel
theorem dX12_doDust_1 : decode cX12_doDust 1 = .ok (.iload_n 1, 1) := by decide +kernel
theorem dX12_doDust_2 : decode cX12_doDust 2 = .ok (.invokevirtual 111, 3) := by decide +kernel
theorem dX12_doDust_5 : decode cX12_doDust 5 = .ok (.ifCond .ne 5, 3) := by decide +kernel
theorem dX12_doDust_8 : decode cX12_doDust 8 = .ok (.iconst 1, 1) := by decide +kernel
theorem dX12_doDust_9 : decode cX12_doDust 9 = .ok (.ireturn, 1) := by decide +kernel
theorem dX12_doDust_10 : decode cX12_doDust 10 = .ok (.aload_n 0, 1) := by decide +kernel
theorem dX12_doDust_11 : decode cX12_doDust 11 = .ok (.iload_n 1, 1) := by decide +kernel
theorem dX12_doDust_12 : decode cX12_doDust 12 = .ok (.iconst 3, 1) := by decide +kernel
theorem dX12_doDust_13 : decode cX12_doDust 13 = .ok (.invokevirtual 124, 3) := by decide +kernel
theorem dX12_doDust_16 : decode cX12_doDust 16 = .ok (.ifCond .ne 21, 3) := by decide +kernel
theorem dX12_doDust_19 : decode cX12_doDust 19 = .ok (.aload_n 0, 1) := by decide +kernel
theorem dX12_doDust_20 : decode cX12_doDust 20 = .ok (.iload_n 1, 1) := by decide +kernel
theorem dX12_doDust_21 : decode cX12_doDust 21 = .ok (.iconst 1, 1) := by decide +kernel
theorem dX12_doDust_22 : decode cX12_doDust 22 = .ok (.invokevirtual 124, 3) := by decide +kernel
theorem dX12_doDust_25 : decode cX12_doDust 25 = .ok (.ifCond .ne 12, 3) := by decide +kernel
theorem dX12_doDust_28 : decode cX12_doDust 28 = .ok (.aload_n 0, 1) := by decide +kernel
theorem dX12_doDust_29 : decode cX12_doDust 29 = .ok (.getfield 25, 3) := by decide +kernel
theorem dX12_doDust_32 : decode cX12_doDust 32 = .ok (.iconst 2, 1) := by decide +kernel
theorem dX12_doDust_33 : decode cX12_doDust 33 = .ok (.iaload, 1) := by decide +kernel
theorem dX12_doDust_34 : decode cX12_doDust 34 = .ok (.ifCond .ne 5, 3) := by decide +kernel
theorem dX12_doDust_37 : decode cX12_doDust 37 = .ok (.iconst 2, 1) := by decide +kernel
theorem dX12_doDust_38 : decode cX12_doDust 38 = .ok (.ireturn, 1) := by decide +kernel
theorem dX12_doDust_39 : decode cX12_doDust 39 = .ok (.aload_n 0, 1) := by decide +kernel
theorem dX12_doDust_40 : decode cX12_doDust 40 = .ok (.iload_n 1, 1) := by decide +kernel
theorem dX12_doDust_41 : decode cX12_doDust 41 = .ok (.iconst 1, 1) := by decide +kernel
theorem dX12_doDust_42 : decode cX12_doDust 42 = .ok (.iconst 1, 1) := by decide +kernel
theorem dX12_doDust_43 : decode cX12_doDust 43 = .ok (.invokevirtual 90, 3) := by decide +kernel
theorem dX12_doDust_46 : decode cX12_doDust 46 = .ok (.aload_n 0, 1) := by decide +kernel
theorem dX12_doDust_47 : decode cX12_doDust 47 = .ok (.getfield 25, 3) := by decide +kernel
theorem dX12_doDust_50 : decode cX12_doDust 50 = .ok (.iconst 2, 1) := by decide +kernel
theorem dX12_doDust_51 : decode cX12_doDust 51 = .ok (.dup2, 1) := by decide +kernel
theorem dX12_doDust_52 : decode cX12_doDust 52 = .ok (.iaload, 1) := by decide +kernel
theorem dX12_doDust_53 : decode cX12_doDust 53 = .ok (.iconst 1, 1) := by decide +kernel
theorem dX12_doDust_54 : decode cX12_doDust 54 = .ok (.isub, 1) := by decide +kernel
theorem dX12_doDust_55 : decode cX12_doDust 55 = .ok (.iastore, 1) := by decide +kernel
theorem dX12_doDust_56 : decode cX12_doDust 56 = .ok (.aload_n 0, 1) := by decide +kernel
theorem dX12_doDust_57 : decode cX12_doDust 57 = .ok (.aload_n 0, 1) := by decide +kernel
theorem dX12_doDust_58 : decode cX12_doDust 58 = .ok (.getfield 25, 3) := by decide +kernel
theorem dX12_doDust_61 : decode cX12_doDust 61 = .ok (.iconst 2, 1) := by decide +kernel
theorem dX12_doDust_62 : decode cX12_doDust 62 = .ok (.iaload, 1) := by decide +kernel
theorem dX12_doDust_63 : decode cX12_doDust 63 = .ok (.putfield 204, 3) := by decide +kernel
theorem dX12_doDust_66 : decode cX12_doDust 66 = .ok (.iconst 0, 1) := by decide +kernel
theorem dX12_doDust_67 : decode cX12_doDust 67 = .ok (.ireturn, 1) := by decide +kernel
theorem dX12_doSeal_0 : decode cX12_doSeal 0 = .ok (.aload_n 0, 1) := by decide +kernel
theorem dX12_doSeal_1 : decode cX12_doSeal 1 = .ok (.iload_n 1, 1) := by decide +kernel
theorem dX12_doSeal_2 : decode cX12_doSeal 2 = .ok (.invokevirtual 111, 3) := by decide +kernel
theorem dX12_doSeal_5 : decode cX12_doSeal 5 = .ok (.ifCond .ne 5, 3) := by decide +kernel
theorem dX12_doSeal_8 : decode cX12_doSeal 8 = .ok (.iconst 1, 1) := by decide +kernel
theorem dX12_doSeal_9 : decode cX12_doSeal 9 = .ok (.ireturn, 1) := by decide +kernel
theorem dX12_doSeal_10 : decode cX12_doSeal 10 = .ok (.aload_n 0, 1) := by decide +kernel
theorem dX12_doSeal_11 : decode cX12_doSeal 11 = .ok (.iload_n 1, 1) := by decide +kernel
theorem dX12_doSeal_12 : decode cX12_doSeal 12 = .ok (.iconst 3, 1) := by decide +kernel
theorem dX12_doSeal_13 : decode cX12_doSeal 13 = .ok (.invokevirtual 124, 3) := by decide +kernel
theorem dX12_doSeal_16 : decode cX12_doSeal 16 = .ok (.ifCond .ne 12, 3) := by decide +kernel
theorem dX12_doSeal_19 : decode cX12_doSeal 19 = .ok (.aload_n 0, 1) := by decide +kernel
theorem dX12_doSeal_20 : decode cX12_doSeal 20 = .ok (.iload_n 1, 1) := by decide +kernel
theorem dX12_doSeal_21 : decode cX12_doSeal 21 = .ok (.iconst 2, 1) := by decide +kernel
theorem dX12_doSeal_22 : decode cX12_doSeal 22 = .ok (.invokevirtual 124, 3) := by decide +kernel
theorem dX12_doSeal_25 : decode cX12_doSeal 25 = .ok (.ifCond .eq 5, 3) := by decide +kernel
theorem dX12_doSeal_28 : decode cX12_doSeal 28 = .ok (.iconst 2, 1) := by decide +kernel
theorem dX12_doSeal_29 : decode cX12_doSeal 29 = .ok (.ireturn, 1) := by decide +kernel
theorem dX12_doSeal_30 : decode cX12_doSeal 30 = .ok (.aload_n 0, 1) := by decide +kernel
theorem dX12_doSeal_31 : decode cX12_doSeal 31 = .ok (.iload_n 1, 1) := by decide +kernel
theorem dX12_doSeal_32 : decode cX12_doSeal 32 = .ok (.iconst 2, 1) := by decide +kernel
theorem dX12_doSeal_33 : decode cX12_doSeal 33 = .ok (.iconst 1, 1) := by decide +kernel
theorem dX12_doSeal_34 : decode cX12_doSeal 34 = .ok (.invokevirtual 90, 3) := by decide +kernel
theorem dX12_doSeal_37 : decode cX12_doSeal 37 = .ok (.aload_n 0, 1) := by decide +kernel
theorem dX12_doSeal_38 : decode cX12_doSeal 38 = .ok (.aload_n 0, 1) := by decide +kernel
theorem dX12_doSeal_39 : decode cX12_doSeal 39 = .ok (.iconst 2, 1) := by decide +kernel
theorem dX12_doSeal_40 : decode cX12_doSeal 40 = .ok (.invokevirtual 207, 3) := by decide +kernel
theorem dX12_doSeal_43 : decode cX12_doSeal 43 = .ok (.putfield 204, 3) := by decide +kernel
theorem dX12_doSeal_46 : decode cX12_doSeal 46 = .ok (.iconst 0, 1) := by decide +kernel
theorem dX12_doSeal_47 : decode cX12_doSeal 47 = .ok (.ireturn, 1) := by decide +kernel
theorem dX12_doCool_0 : decode cX12_doCool 0 = .ok (.aload_n 0, 1) := by decide +kernel
theorem dX12_doCool_1 : decode cX12_doCool 1 = .ok (.iload_n 1, 1) := by decide +kernel
theorem dX12_doCool_2 : decode cX12_doCool 2 = .ok (.invokevirtual 111, 3) := by decide +kernel
theorem dX12_doCool_5 : decode cX12_doCool 5 = .ok (.ifCond .ne 5, 3) := by decide +kernel
theorem dX12_doCool_8 : decode cX12_doCool 8 = .ok (.iconst 1, 1) := by decide +kernel
theorem dX12_doCool_9 : decode cX12_doCool 9 = .ok (.ireturn, 1) := by decide +kernel
theorem dX12_doCool_10 : decode cX12_doCool 10 = .ok (.aload_n 0, 1) := by decide +kernel
theorem dX12_doCool_11 : decode cX12_doCool 11 = .ok (.iload_n 1, 1) := by decide +kernel
theorem dX12_doCool_12 : decode cX12_doCool 12 = .ok (.iconst 3, 1) := by decide +kernel
theorem dX12_doCool_13 : decode cX12_doCool 13 = .ok (.invokevirtual 124, 3) := by decide +kernel
theorem dX12_doCool_16 : decode cX12_doCool 16 = .ok (.ifCond .ne 12, 3) := by decide +kernel
theorem dX12_doCool_19 : decode cX12_doCool 19 = .ok (.aload_n 0, 1) := by decide +kernel
theorem dX12_doCool_20 : decode cX12_doCool 20 = .ok (.iconst 3, 1) := by decide +kernel
theorem dX12_doCool_21 : decode cX12_doCool 21 = .ok (.invokevirtual 207, 3) := by decide +kernel
theorem dX12_doCool_24 : decode cX12_doCool 24 = .ok (.iconst 3, 1) := by decide +kernel
theorem dX12_doCool_25 : decode cX12_doCool 25 = .ok (.if_icmp .ne 5, 3) := by decide +kernel
theorem dX12_doCool_28 : decode cX12_doCool 28 = .ok (.iconst 2, 1) := by decide +kernel
theorem dX12_doCool_29 : decode cX12_doCool 29 = .ok (.ireturn, 1) := by decide +kernel
theorem dX12_doCool_30 : decode cX12_doCool 30 = .ok (.aload_n 0, 1) := by decide +kernel
theorem dX12_doCool_31 : decode cX12_doCool 31 = .ok (.iload_n 1, 1) := by decide +kernel
theorem dX12_doCool_32 : decode cX12_doCool 32 = .ok (.iconst 3, 1) := by decide +kernel
theorem dX12_doCool_33 : decode cX12_doCool 33 = .ok (.iconst 1, 1) := by decide +kernel
theorem dX12_doCool_34 : decode cX12_doCool 34 = .ok (.invokevirtual 90, 3) := by decide +kernel
theorem dX12_doCool_37 : decode cX12_doCool 37 = .ok (.aload_n 0, 1) := by decide +kernel
theorem dX12_doCool_38 : decode cX12_doCool 38 = .ok (.aload_n 0, 1) := by decide +kernel
theorem dX12_doCool_39 : decode cX12_doCool 39 = .ok (.iconst 3, 1) := by decide +kernel
theorem dX12_doCool_40 : decode cX12_doCool 40 = .ok (.invokevirtual 207, 3) := by decide +kernel
theorem dX12_doCool_43 : decode cX12_doCool 43 = .ok (.putfield 204, 3) := by decide +kernel
theorem dX12_doCool_46 : decode cX12_doCool 46 = .ok (.iconst 0, 1) := by decide +kernel
theorem dX12_doCool_47 : decode cX12_doCool 47 = .ok (.ireturn, 1) := by decide +kernel
theorem dX12_doTakeOut_0 : decode cX12_doTakeOut 0 = .ok (.aload_n 0, 1) := by decide +kernel
theorem dX12_doTakeOut_1 : decode cX12_doTakeOut 1 = .ok (.iload_n 1, 1) := by decide +kernel
theorem dX12_doTakeOut_2 : decode cX12_doTakeOut 2 = .ok (.invokevirtual 111, 3) := by decide +kernel
theorem dX12_doTakeOut_5 : decode cX12_doTakeOut 5 = .ok (.ifCond .ne 5, 3) := by decide +kernel
theorem dX12_doTakeOut_8 : decode cX12_doTakeOut 8 = .ok (.iconst 1, 1) := by decide +kernel
theorem dX12_doTakeOut_9 : decode cX12_doTakeOut 9 = .ok (.ireturn, 1) := by decide +kernel
theorem dX12_doTakeOut_10 : decode cX12_doTakeOut 10 = .ok (.aload_n 0, 1) := by decide +kernel
theorem dX12_doTakeOut_11 : decode cX12_doTakeOut 11 = .ok (.iload_n 1, 1) := by decide +kernel
theorem dX12_doTakeOut_12 : decode cX12_doTakeOut 12 = .ok (.iconst 3, 1) := by decide +kernel
theorem dX12_doTakeOut_13 : decode cX12_doTakeOut 13 = .ok (.invokevirtual 124, 3) := by decide +kernel
theorem dX12_doTakeOut_16 : decode cX12_doTakeOut 16 = .ok (.ifCond .ne 5, 3) := by decide +kernel
theorem dX12_doTakeOut_19 : decode cX12_doTakeOut 19 = .ok (.iconst 2, 1) := by decide +kernel
theorem dX12_doTakeOut_20 : decode cX12_doTakeOut 20 = .ok (.ireturn, 1) := by decide +kernel
theorem dX12_doTakeOut_21 : decode cX12_doTakeOut 21 = .ok (.aload_n 0, 1) := by decide +kernel
theorem dX12_doTakeOut_22 : decode cX12_doTakeOut 22 = .ok (.iload_n 1, 1) := by decide +kernel
theorem dX12_doTakeOut_23 : decode cX12_doTakeOut 23 = .ok (.iconst 3, 1) := by decide +kernel
theorem dX12_doTakeOut_24 : decode cX12_doTakeOut 24 = .ok (.iconst 0, 1) := by decide +kernel
theorem dX12_doTakeOut_25 : decode cX12_doTakeOut 25 = .ok (.invokevirtual 90, 3) := by decide +kernel
theorem dX12_doTakeOut_28 : decode cX12_doTakeOut 28 = .ok (.aload_n 0, 1) := by decide +kernel
theorem dX12_doTakeOut_29 : decode cX12_doTakeOut 29 = .ok (.aload_n 0, 1) := by decide +kernel
theorem dX12_doTakeOut_30 : decode cX12_doTakeOut 30 = .ok (.iload_n 1, 1) := by decide +kernel
theorem dX12_doTakeOut_31 : decode cX12_doTakeOut 31 = .ok (.iconst 0, 1) := by decide +kernel
theorem dX12_doTakeOut_32 : decode cX12_doTakeOut 32 = .ok (.invokevirtual 93, 3) := by decide +kernel
theorem dX12_doTakeOut_35 : decode cX12_doTakeOut 35 = .ok (.putfield 204, 3) := by decide +kernel
theorem dX12_doTakeOut_38 : decode cX12_doTakeOut 38 = .ok (.iconst 0, 1) := by decide +kernel
theorem dX12_doTakeOut_39 : decode cX12_doTakeOut 39 = .ok (.ireturn, 1) := by decide +kernel
theorem dX12_doHours_0 : decode cX12_doHours 0 = .ok (.aload_n 0, 1) := by decide +kernel
theorem dX12_doHours_1 : decode cX12_doHours 1 = .ok (.getfield 25, 3) := by decide +kernel
theorem dX12_doHours_4 : decode cX12_doHours 4 = .ok (.iconst 4, 1) := by decide +kernel
theorem dX12_doHours_5 : decode cX12_doHours 5 = .ok (.iaload, 1) := by decide +kernel
theorem dX12_doHours_6 : decode cX12_doHours 6 = .ok (.iload_n 1, 1) := by decide +kernel
theorem dX12_doHours_7 : decode cX12_doHours 7 = .ok (.iadd, 1) := by decide +kernel
theorem dX12_doHours_8 : decode cX12_doHours 8 = .ok (.sipush 9999, 3) := by decide +kernel
theorem dX12_doHours_11 : decode cX12_doHours 11 = .ok (.if_icmp .le 5, 3) := by decide +kernel
theorem dX12_doHours_14 : decode cX12_doHours 14 = .ok (.iconst 2, 1) := by decide +kernel
theorem dX12_doHours_15 : decode cX12_doHours 15 = .ok (.ireturn, 1) := by decide +kernel
theorem dX12_doHours_16 : decode cX12_doHours 16 = .ok (.aload_n 0, 1) := by decide +kernel
theorem dX12_doHours_17 : decode cX12_doHours 17 = .ok (.getfield 25, 3) := by decide +kernel
theorem dX12_doHours_20 : decode cX12_doHours 20 = .ok (.iconst 4, 1) := by decide +kernel
theorem dX12_doHours_21 : decode cX12_doHours 21 = .ok (.dup2, 1) := by decide +kernel
theorem dX12_doHours_22 : decode cX12_doHours 22 = .ok (.iaload, 1) := by decide +kernel
theorem dX12_doHours_23 : decode cX12_doHours 23 = .ok (.iload_n 1, 1) := by decide +kernel
theorem dX12_doHours_24 : decode cX12_doHours 24 = .ok (.iadd, 1) := by decide +kernel
theorem dX12_doHours_25 : decode cX12_doHours 25 = .ok (.iastore, 1) := by decide +kernel
theorem dX12_doHours_26 : decode cX12_doHours 26 = .ok (.iconst 0, 1) := by decide +kernel
theorem dX12_doHours_27 : decode cX12_doHours 27 = .ok (.istore_n 2, 1) := by decide +kernel
theorem dX12_doHours_28 : decode cX12_doHours 28 = .ok (.iload_n 2, 1) := by decide +kernel
theorem dX12_doHours_29 : decode cX12_doHours 29 = .ok (.iload_n 1, 1) := by decide +kernel
theorem dX12_doHours_30 : decode cX12_doHours 30 = .ok (.if_icmp .ge 49, 3) := by decide +kernel
theorem dX12_doHours_33 : decode cX12_doHours 33 = .ok (.iconst 0, 1) := by decide +kernel
theorem dX12_doHours_34 : decode cX12_doHours 34 = .ok (.istore_n 3, 1) := by decide +kernel
theorem dX12_doHours_35 : decode cX12_doHours 35 = .ok (.iload_n 3, 1) := by decide +kernel
theorem dX12_doHours_36 : decode cX12_doHours 36 = .ok (.aload_n 0, 1) := by decide +kernel
theorem dX12_doHours_37 : decode cX12_doHours 37 = .ok (.getfield 25, 3) := by decide +kernel
theorem dX12_doHours_40 : decode cX12_doHours 40 = .ok (.iconst 3, 1) := by decide +kernel
theorem dX12_doHours_41 : decode cX12_doHours 41 = .ok (.iaload, 1) := by decide +kernel
theorem dX12_doHours_42 : decode cX12_doHours 42 = .ok (.if_icmp .ge 31, 3) := by decide +kernel
theorem dX12_doHours_45 : decode cX12_doHours 45 = .ok (.aload_n 0, 1) := by decide +kernel
theorem dX12_doHours_46 : decode cX12_doHours 46 = .ok (.iload_n 3, 1) := by decide +kernel
theorem dX12_doHours_47 : decode cX12_doHours 47 = .ok (.iconst 0, 1) := by decide +kernel
theorem dX12_doHours_48 : decode cX12_doHours 48 = .ok (.aload_n 0, 1) := by decide +kernel
theorem dX12_doHours_49 : decode cX12_doHours 49 = .ok (.aload_n 0, 1) := by decide +kernel
theorem dX12_doHours_50 : decode cX12_doHours 50 = .ok (.iload_n 3, 1) := by decide +kernel
theorem dX12_doHours_51 : decode cX12_doHours 51 = .ok (.iconst 0, 1) := by decide +kernel
theorem dX12_doHours_52 : decode cX12_doHours 52 = .ok (.invokevirtual 93, 3) := by decide +kernel
theorem dX12_doHours_55 : decode cX12_doHours 55 = .ok (.aload_n 0, 1) := by decide +kernel
theorem dX12_doHours_56 : decode cX12_doHours 56 = .ok (.iload_n 3, 1) := by decide +kernel
theorem dX12_doHours_57 : decode cX12_doHours 57 = .ok (.iconst 3, 1) := by decide +kernel
theorem dX12_doHours_58 : decode cX12_doHours 58 = .ok (.invokevirtual 124, 3) := by decide +kernel
theorem dX12_doHours_61 : decode cX12_doHours 61 = .ok (.invokevirtual 197, 3) := by decide +kernel
theorem dX12_doHours_64 : decode cX12_doHours 64 = .ok (.invokevirtual 90, 3) := by decide +kernel
theorem dX12_doHours_67 : decode cX12_doHours 67 = .ok (.iinc 3 1, 3) := by decide +kernel
theorem dX12_doHours_70 : decode cX12_doHours 70 = .ok (.goto (-35), 3) := by decide +kernel
theorem dX12_doHours_73 : decode cX12_doHours 73 = .ok (.iinc 2 1, 3) := by decide +kernel
theorem dX12_doHours_76 : decode cX12_doHours 76 = .ok (.goto (-48), 3) := by decide +kernel
theorem dX12_doHours_79 : decode cX12_doHours 79 = .ok (.aload_n 0, 1) := by decide +kernel
theorem dX12_doHours_80 : decode cX12_doHours 80 = .ok (.aload_n 0, 1) := by decide +kernel
theorem dX12_doHours_81 : decode cX12_doHours 81 = .ok (.invokevirtual 210, 3) := by decide +kernel
theorem dX12_doHours_84 : decode cX12_doHours 84 = .ok (.putfield 204, 3) := by decide +kernel
theorem dX12_doHours_87 : decode cX12_doHours 87 = .ok (.iconst 0, 1) := by decide +kernel
theorem dX12_doHours_88 : decode cX12_doHours 88 = .ok (.ireturn, 1) := by decide +kernel
theorem dX12_doCut_0 : decode cX12_doCut 0 = .ok (.aload_n 0, 1) := by decide +kernel
theorem dX12_doCut_1 : decode cX12_doCut 1 = .ok (.iload_n 1, 1) := by decide +kernel
theorem dX12_doCut_2 : decode cX12_doCut 2 = .ok (.invokevirtual 111, 3) := by decide +kernel
theorem dX12_doCut_5 : decode cX12_doCut 5 = .ok (.ifCond .ne 5, 3) := by decide +kernel
theorem dX12_doCut_8 : decode cX12_doCut 8 = .ok (.iconst 1, 1) := by decide +kernel
theorem dX12_doCut_9 : decode cX12_doCut 9 = .ok (.ireturn, 1) := by decide +kernel
theorem dX12_doCut_10 : decode cX12_doCut 10 = .ok (.aload_n 0, 1) := by decide +kernel
theorem dX12_doCut_11 : decode cX12_doCut 11 = .ok (.iload_n 1, 1) := by decide +kernel
theorem dX12_doCut_12 : decode cX12_doCut 12 = .ok (.iconst 3, 1) := by decide +kernel
theorem dX12_doCut_13 : decode cX12_doCut 13 = .ok (.invokevirtual 124, 3) := by decide +kernel
theorem dX12_doCut_16 : decode cX12_doCut 16 = .ok (.ifCond .ne 14, 3) := by decide +kernel
theorem dX12_doCut_19 : decode cX12_doCut 19 = .ok (.aload_n 0, 1) := by decide +kernel
theorem dX12_doCut_20 : decode cX12_doCut 20 = .ok (.getfield 25, 3) := by decide +kernel
theorem dX12_doCut_23 : decode cX12_doCut 23 = .ok (.iconst 3, 1) := by decide +kernel
theorem dX12_doCut_24 : decode cX12_doCut 24 = .ok (.iaload, 1) := by decide +kernel
theorem dX12_doCut_25 : decode cX12_doCut 25 = .ok (.bipush 6, 2) := by decide +kernel
theorem dX12_doCut_27 : decode cX12_doCut 27 = .ok (.if_icmp .ne 5, 3) := by decide +kernel
theorem dX12_doCut_30 : decode cX12_doCut 30 = .ok (.iconst 2, 1) := by decide +kernel
theorem dX12_doCut_31 : decode cX12_doCut 31 = .ok (.ireturn, 1) := by decide +kernel
theorem dX12_doCut_32 : decode cX12_doCut 32 = .ok (.aload_n 0, 1) := by decide +kernel
theorem dX12_doCut_33 : decode cX12_doCut 33 = .ok (.iload_n 1, 1) := by decide +kernel
theorem dX12_doCut_34 : decode cX12_doCut 34 = .ok (.iconst 2, 1) := by decide +kernel
theorem dX12_doCut_35 : decode cX12_doCut 35 = .ok (.iconst 0, 1) := by decide +kernel
theorem dX12_doCut_36 : decode cX12_doCut 36 = .ok (.invokevirtual 90, 3) := by decide +kernel
theorem dX12_doCut_39 : decode cX12_doCut 39 = .ok (.aload_n 0, 1) := by decide +kernel
theorem dX12_doCut_40 : decode cX12_doCut 40 = .ok (.iload_n 1, 1) := by decide +kernel
theorem dX12_doCut_41 : decode cX12_doCut 41 = .ok (.aload_n 0, 1) := by decide +kernel
theorem dX12_doCut_42 : decode cX12_doCut 42 = .ok (.getfield 25, 3) := by decide +kernel
theorem dX12_doCut_45 : decode cX12_doCut 45 = .ok (.iconst 3, 1) := by decide +kernel
theorem dX12_doCut_46 : decode cX12_doCut 46 = .ok (.iaload, 1) := by decide +kernel
theorem dX12_doCut_47 : decode cX12_doCut 47 = .ok (.invokevirtual 168, 3) := by decide +kernel
theorem dX12_doCut_50 : decode cX12_doCut 50 = .ok (.aload_n 0, 1) := by decide +kernel
theorem dX12_doCut_51 : decode cX12_doCut 51 = .ok (.getfield 25, 3) := by decide +kernel
theorem dX12_doCut_54 : decode cX12_doCut 54 = .ok (.iconst 3, 1) := by decide +kernel
theorem dX12_doCut_55 : decode cX12_doCut 55 = .ok (.dup2, 1) := by decide +kernel
theorem dX12_doCut_56 : decode cX12_doCut 56 = .ok (.iaload, 1) := by decide +kernel
theorem dX12_doCut_57 : decode cX12_doCut 57 = .ok (.iconst 1, 1) := by decide +kernel
theorem dX12_doCut_58 : decode cX12_doCut 58 = .ok (.iadd, 1) := by decide +kernel
theorem dX12_doCut_59 : decode cX12_doCut 59 = .ok (.iastore, 1) := by decide +kernel
theorem dX12_doCut_60 : decode cX12_doCut 60 = .ok (.aload_n 0, 1) := by decide +kernel
theorem dX12_doCut_61 : decode cX12_doCut 61 = .ok (.aload_n 0, 1) := by decide +kernel
theorem dX12_doCut_62 : decode cX12_doCut 62 = .ok (.getfield 25, 3) := by decide +kernel
theorem dX12_doCut_65 : decode cX12_doCut 65 = .ok (.iconst 3, 1) := by decide +kernel
theorem dX12_doCut_66 : decode cX12_doCut 66 = .ok (.iaload, 1) := by decide +kernel
theorem dX12_doCut_67 : decode cX12_doCut 67 = .ok (.iconst 1, 1) := by decide +kernel
theorem dX12_doCut_68 : decode cX12_doCut 68 = .ok (.isub, 1) := by decide +kernel
theorem dX12_doCut_69 : decode cX12_doCut 69 = .ok (.putfield 204, 3) := by decide +kernel
theorem dX12_doCut_72 : decode cX12_doCut 72 = .ok (.iconst 0, 1) := by decide +kernel
theorem dX12_doCut_73 : decode cX12_doCut 73 = .ok (.ireturn, 1) := by decide +kernel
theorem dX12_wouldJoin_0 : decode cX12_wouldJoin 0 = .ok (.aload_n 0, 1) := by decide +kernel
theorem dX12_wouldJoin_1 : decode cX12_wouldJoin 1 = .ok (.iload_n 1, 1) := by decide +kernel
theorem dX12_wouldJoin_2 : decode cX12_wouldJoin 2 = .ok (.iconst 1, 1) := by decide +kernel
theorem dX12_wouldJoin_3 : decode cX12_wouldJoin 3 = .ok (.invokevirtual 124, 3) := by decide +kernel
theorem dX12_wouldJoin_6 : decode cX12_wouldJoin 6 = .ok (.ifCond .ne 33, 3) := by decide +kernel
theorem dX12_wouldJoin_9 : decode cX12_wouldJoin 9 = .ok (.aload_n 0, 1) := by decide +kernel
theorem dX12_wouldJoin_10 : decode cX12_wouldJoin 10 = .ok (.iload_n 1, 1) := by decide +kernel
theorem dX12_wouldJoin_11 : decode cX12_wouldJoin 11 = .ok (.aload_n 0, 1) := by decide +kernel
theorem dX12_wouldJoin_12 : decode cX12_wouldJoin 12 = .ok (.iload_n 1, 1) := by decide +kernel
theorem dX12_wouldJoin_13 : decode cX12_wouldJoin 13 = .ok (.bipush 6, 2) := by decide +kernel
theorem dX12_wouldJoin_15 : decode cX12_wouldJoin 15 = .ok (.invokevirtual 93, 3) := by decide +kernel
theorem dX12_wouldJoin_18 : decode cX12_wouldJoin 18 = .ok (.iconst 1, 1) := by decide +kernel
theorem dX12_wouldJoin_19 : decode cX12_wouldJoin 19 = .ok (.isub, 1) := by decide +kernel
theorem dX12_wouldJoin_20 : decode cX12_wouldJoin 20 = .ok (.invokevirtual 97, 3) := by decide +kernel
theorem dX12_wouldJoin_23 : decode cX12_wouldJoin 23 = .ok (.aload_n 0, 1) := by decide +kernel
theorem dX12_wouldJoin_24 : decode cX12_wouldJoin 24 = .ok (.iload_n 2, 1) := by decide +kernel
theorem dX12_wouldJoin_25 : decode cX12_wouldJoin 25 = .ok (.iconst 0, 1) := by decide +kernel
theorem dX12_wouldJoin_26 : decode cX12_wouldJoin 26 = .ok (.invokevirtual 97, 3) := by decide +kernel
theorem dX12_wouldJoin_29 : decode cX12_wouldJoin 29 = .ok (.invokestatic 100, 3) := by decide +kernel
theorem dX12_wouldJoin_32 : decode cX12_wouldJoin 32 = .ok (.ifCond .eq 7, 3) := by decide +kernel
theorem dX12_wouldJoin_35 : decode cX12_wouldJoin 35 = .ok (.iconst 1, 1) := by decide +kernel
theorem dX12_wouldJoin_36 : decode cX12_wouldJoin 36 = .ok (.goto 4, 3) := by decide +kernel
theorem dX12_wouldJoin_39 : decode cX12_wouldJoin 39 = .ok (.iconst 0, 1) := by decide +kernel
theorem dX12_wouldJoin_40 : decode cX12_wouldJoin 40 = .ok (.ireturn, 1) := by decide +kernel
theorem dX12_areTooMuch_0 : decode cX12_areTooMuch 0 = .ok (.aload_n 0, 1) := by decide +kernel
theorem dX12_areTooMuch_1 : decode cX12_areTooMuch 1 = .ok (.iload_n 1, 1) := by decide +kernel
theorem dX12_areTooMuch_2 : decode cX12_areTooMuch 2 = .ok (.bipush 6, 2) := by decide +kernel
theorem dX12_areTooMuch_4 : decode cX12_areTooMuch 4 = .ok (.invokevirtual 93, 3) := by decide +kernel
theorem dX12_areTooMuch_7 : decode cX12_areTooMuch 7 = .ok (.aload_n 0, 1) := by decide +kernel
theorem dX12_areTooMuch_8 : decode cX12_areTooMuch 8 = .ok (.iload_n 2, 1) := by decide +kernel
theorem dX12_areTooMuch_9 : decode cX12_areTooMuch 9 = .ok (.bipush 6, 2) := by decide +kernel
theorem dX12_areTooMuch_11 : decode cX12_areTooMuch 11 = .ok (.invokevirtual 93, 3) := by decide +kernel
theorem dX12_areTooMuch_14 : decode cX12_areTooMuch 14 = .ok (.iadd, 1) := by decide +kernel
theorem dX12_areTooMuch_15 : decode cX12_areTooMuch 15 = .ok (.aload_n 0, 1) := by decide +kernel
theorem dX12_areTooMuch_16 : decode cX12_areTooMuch 16 = .ok (.iload_n 1, 1) := by decide +kernel
theorem dX12_areTooMuch_17 : decode cX12_areTooMuch 17 = .ok (.iload_n 2, 1) := by decide +kernel
theorem dX12_areTooMuch_18 : decode cX12_areTooMuch 18 = .ok (.invokevirtual 214, 3) := by decide +kernel
theorem dX12_areTooMuch_21 : decode cX12_areTooMuch 21 = .ok (.ifCond .eq 7, 3) := by decide +kernel
theorem dX12_areTooMuch_24 : decode cX12_areTooMuch 24 = .ok (.iconst 1, 1) := by decide +kernel
theorem dX12_areTooMuch_25 : decode cX12_areTooMuch 25 = .ok (.goto 4, 3) := by decide +kernel
theorem dX12_areTooMuch_28 : decode cX12_areTooMuch 28 = .ok (.iconst 0, 1) := by decide +kernel
theorem dX12_areTooMuch_29 : decode cX12_areTooMuch 29 = .ok (.isub, 1) := by decide +kernel
theorem dX12_areTooMuch_30 : decode cX12_areTooMuch 30 = .ok (.istore_n 3, 1) := by decide +kernel
theorem dX12_areTooMuch_31 : decode cX12_areTooMuch 31 = .ok (.iload_n 3, 1) := by decide +kernel
theorem dX12_areTooMuch_32 : decode cX12_areTooMuch 32 = .ok (.sipush 200, 3) := by decide +kernel
theorem dX12_areTooMuch_35 : decode cX12_areTooMuch 35 = .ok (.if_icmp .gt 20, 3) := by decide +kernel
theorem dX12_areTooMuch_38 : decode cX12_areTooMuch 38 = .ok (.aload_n 0, 1) := by decide +kernel
theorem dX12_areTooMuch_39 : decode cX12_areTooMuch 39 = .ok (.iload_n 1, 1) := by decide +kernel
theorem dX12_areTooMuch_40 : decode cX12_areTooMuch 40 = .ok (.invokevirtual 136, 3) := by decide +kernel
theorem dX12_areTooMuch_43 : decode cX12_areTooMuch 43 = .ok (.aload_n 0, 1) := by decide +kernel
theorem dX12_areTooMuch_44 : decode cX12_areTooMuch 44 = .ok (.iload_n 2, 1) := by decide +kernel
theorem dX12_areTooMuch_45 : decode cX12_areTooMuch 45 = .ok (.invokevirtual 136, 3) := by decide +kernel
theorem dX12_areTooMuch_48 : decode cX12_areTooMuch 48 = .ok (.iadd, 1) := by decide +kernel
theorem dX12_areTooMuch_49 : decode cX12_areTooMuch 49 = .ok (.sipush 4000, 3) := by decide +kernel
theorem dX12_areTooMuch_52 : decode cX12_areTooMuch 52 = .ok (.if_icmp .le 7, 3) := by decide +kernel
theorem dX12_areTooMuch_55 : decode cX12_areTooMuch 55 = .ok (.iconst 1, 1) := by decide +kernel
theorem dX12_areTooMuch_56 : decode cX12_areTooMuch 56 = .ok (.goto 4, 3) := by decide +kernel
theorem dX12_areTooMuch_59 : decode cX12_areTooMuch 59 = .ok (.iconst 0, 1) := by decide +kernel
theorem dX12_areTooMuch_60 : decode cX12_areTooMuch 60 = .ok (.ireturn, 1) := by decide +kernel
theorem dX12_doStack_0 : decode cX12_doStack 0 = .ok (.aload_n 0, 1) := by decide +kernel
theorem dX12_doStack_1 : decode cX12_doStack 1 = .ok (.iload_n 1, 1) := by decide +kernel
theorem dX12_doStack_2 : decode cX12_doStack 2 = .ok (.invokevirtual 111, 3) := by decide +kernel
theorem dX12_doStack_5 : decode cX12_doStack 5 = .ok (.ifCond .eq 11, 3) := by decide +kernel
theorem dX12_doStack_8 : decode cX12_doStack 8 = .ok (.aload_n 0, 1) := by decide +kernel
theorem dX12_doStack_9 : decode cX12_doStack 9 = .ok (.iload_n 2, 1) := by decide +kernel
theorem dX12_doStack_10 : decode cX12_doStack 10 = .ok (.invokevirtual 111, 3) := by decide +kernel
theorem dX12_doStack_13 : decode cX12_doStack 13 = .ok (.ifCond .ne 5, 3) := by decide +kernel
theorem dX12_doStack_16 : decode cX12_doStack 16 = .ok (.iconst 1, 1) := by decide +kernel
theorem dX12_doStack_17 : decode cX12_doStack 17 = .ok (.ireturn, 1) := by decide +kernel
theorem dX12_doStack_18 : decode cX12_doStack 18 = .ok (.iload_n 1, 1) := by decide +kernel
theorem dX12_doStack_19 : decode cX12_doStack 19 = .ok (.iload_n 2, 1) := by decide +kernel
theorem dX12_doStack_20 : decode cX12_doStack 20 = .ok (.if_icmp .ne 5, 3) := by decide +kernel
theorem dX12_doStack_23 : decode cX12_doStack 23 = .ok (.iconst 2, 1) := by decide +kernel
theorem dX12_doStack_24 : decode cX12_doStack 24 = .ok (.ireturn, 1) := by decide +kernel
theorem dX12_doStack_25 : decode cX12_doStack 25 = .ok (.aload_n 0, 1) := by decide +kernel
theorem dX12_doStack_26 : decode cX12_doStack 26 = .ok (.iload_n 1, 1) := by decide +kernel
theorem dX12_doStack_27 : decode cX12_doStack 27 = .ok (.iconst 3, 1) := by decide +kernel
theorem dX12_doStack_28 : decode cX12_doStack 28 = .ok (.invokevirtual 124, 3) := by decide +kernel
theorem dX12_doStack_31 : decode cX12_doStack 31 = .ok (.ifCond .ne 21, 3) := by decide +kernel
theorem dX12_doStack_34 : decode cX12_doStack 34 = .ok (.aload_n 0, 1) := by decide +kernel
theorem dX12_doStack_35 : decode cX12_doStack 35 = .ok (.iload_n 2, 1) := by decide +kernel
theorem dX12_doStack_36 : decode cX12_doStack 36 = .ok (.iconst 3, 1) := by decide +kernel
theorem dX12_doStack_37 : decode cX12_doStack 37 = .ok (.invokevirtual 124, 3) := by decide +kernel
theorem dX12_doStack_40 : decode cX12_doStack 40 = .ok (.ifCond .ne 12, 3) := by decide +kernel
theorem dX12_doStack_43 : decode cX12_doStack 43 = .ok (.aload_n 0, 1) := by decide +kernel
theorem dX12_doStack_44 : decode cX12_doStack 44 = .ok (.iload_n 1, 1) := by decide +kernel
theorem dX12_doStack_45 : decode cX12_doStack 45 = .ok (.iload_n 2, 1) := by decide +kernel
theorem dX12_doStack_46 : decode cX12_doStack 46 = .ok (.invokevirtual 217, 3) := by decide +kernel
theorem dX12_doStack_49 : decode cX12_doStack 49 = .ok (.ifCond .eq 5, 3) := by decide +kernel
theorem dX12_doStack_52 : decode cX12_doStack 52 = .ok (.iconst 3, 1) := by decide +kernel
theorem dX12_doStack_53 : decode cX12_doStack 53 = .ok (.ireturn, 1) := by decide +kernel
theorem dX12_doStack_54 : decode cX12_doStack 54 = .ok (.aload_n 0, 1) := by decide +kernel
theorem dX12_doStack_55 : decode cX12_doStack 55 = .ok (.iload_n 1, 1) := by decide +kernel
theorem dX12_doStack_56 : decode cX12_doStack 56 = .ok (.iconst 1, 1) := by decide +kernel
theorem dX12_doStack_57 : decode cX12_doStack 57 = .ok (.invokevirtual 124, 3) := by decide +kernel
theorem dX12_doStack_60 : decode cX12_doStack 60 = .ok (.ifCond .ne 7, 3) := by decide +kernel
theorem dX12_doStack_63 : decode cX12_doStack 63 = .ok (.iconst 1, 1) := by decide +kernel
theorem dX12_doStack_64 : decode cX12_doStack 64 = .ok (.goto 4, 3) := by decide +kernel
theorem dX12_doStack_67 : decode cX12_doStack 67 = .ok (.iconst 0, 1) := by decide +kernel
theorem dX12_doStack_68 : decode cX12_doStack 68 = .ok (.istore_n 3, 1) := by decide +kernel
theorem dX12_doStack_69 : decode cX12_doStack 69 = .ok (.aload_n 0, 1) := by decide +kernel
theorem dX12_doStack_70 : decode cX12_doStack 70 = .ok (.iconst 0, 1) := by decide +kernel
theorem dX12_doStack_71 : decode cX12_doStack 71 = .ok (.putfield 104, 3) := by decide +kernel
theorem dX12_doStack_74 : decode cX12_doStack 74 = .ok (.iconst 0, 1) := by decide +kernel
theorem dX12_doStack_75 : decode cX12_doStack 75 = .ok (.istore 4, 2) := by decide +kernel
theorem dX12_doStack_77 : decode cX12_doStack 77 = .ok (.iload 4, 2) := by decide +kernel
theorem dX12_doStack_79 : decode cX12_doStack 79 = .ok (.aload_n 0, 1) := by decide +kernel
theorem dX12_doStack_80 : decode cX12_doStack 80 = .ok (.iload_n 2, 1) := by decide +kernel
theorem dX12_doStack_81 : decode cX12_doStack 81 = .ok (.bipush 6, 2) := by decide +kernel
theorem dX12_doStack_83 : decode cX12_doStack 83 = .ok (.invokevirtual 93, 3) := by decide +kernel
theorem dX12_doStack_86 : decode cX12_doStack 86 = .ok (.if_icmp .ge 35, 3) := by decide +kernel
theorem dX12_doStack_89 : decode cX12_doStack 89 = .ok (.aload_n 0, 1) := by decide +kernel
theorem dX12_doStack_90 : decode cX12_doStack 90 = .ok (.iload_n 1, 1) := by decide +kernel
theorem dX12_doStack_91 : decode cX12_doStack 91 = .ok (.aload_n 0, 1) := by decide +kernel
theorem dX12_doStack_92 : decode cX12_doStack 92 = .ok (.iload_n 2, 1) := by decide +kernel
theorem dX12_doStack_93 : decode cX12_doStack 93 = .ok (.iload 4, 2) := by decide +kernel
theorem dX12_doStack_95 : decode cX12_doStack 95 = .ok (.invokevirtual 97, 3) := by decide +kernel
theorem dX12_doStack_98 : decode cX12_doStack 98 = .ok (.iload_n 3, 1) := by decide +kernel
theorem dX12_doStack_99 : decode cX12_doStack 99 = .ok (.ifCond .eq 12, 3) := by decide +kernel
theorem dX12_doStack_102 : decode cX12_doStack 102 = .ok (.iload 4, 2) := by decide +kernel
theorem dX12_doStack_104 : decode cX12_doStack 104 = .ok (.ifCond .ne 7, 3) := by decide +kernel
theorem dX12_doStack_107 : decode cX12_doStack 107 = .ok (.iconst 1, 1) := by decide +kernel
theorem dX12_doStack_108 : decode cX12_doStack 108 = .ok (.goto 4, 3) := by decide +kernel
theorem dX12_doStack_111 : decode cX12_doStack 111 = .ok (.iconst 0, 1) := by decide +kernel
theorem dX12_doStack_112 : decode cX12_doStack 112 = .ok (.invokevirtual 171, 3) := by decide +kernel
theorem dX12_doStack_115 : decode cX12_doStack 115 = .ok (.iinc 4 1, 3) := by decide +kernel
theorem dX12_doStack_118 : decode cX12_doStack 118 = .ok (.goto (-41), 3) := by decide +kernel
theorem dX12_doStack_121 : decode cX12_doStack 121 = .ok (.aload_n 0, 1) := by decide +kernel
theorem dX12_doStack_122 : decode cX12_doStack 122 = .ok (.iload_n 1, 1) := by decide +kernel
theorem dX12_doStack_123 : decode cX12_doStack 123 = .ok (.iconst 5, 1) := by decide +kernel
theorem dX12_doStack_124 : decode cX12_doStack 124 = .ok (.aload_n 0, 1) := by decide +kernel
theorem dX12_doStack_125 : decode cX12_doStack 125 = .ok (.iload_n 1, 1) := by decide +kernel
theorem dX12_doStack_126 : decode cX12_doStack 126 = .ok (.iconst 5, 1) := by decide +kernel
theorem dX12_doStack_127 : decode cX12_doStack 127 = .ok (.invokevirtual 93, 3) := by decide +kernel
theorem dX12_doStack_130 : decode cX12_doStack 130 = .ok (.aload_n 0, 1) := by decide +kernel
theorem dX12_doStack_131 : decode cX12_doStack 131 = .ok (.iload_n 2, 1) := by decide +kernel
theorem dX12_doStack_132 : decode cX12_doStack 132 = .ok (.iconst 5, 1) := by decide +kernel
theorem dX12_doStack_133 : decode cX12_doStack 133 = .ok (.invokevirtual 93, 3) := by decide +kernel
theorem dX12_doStack_136 : decode cX12_doStack 136 = .ok (.iadd, 1) := by decide +kernel
theorem dX12_doStack_137 : decode cX12_doStack 137 = .ok (.aload_n 0, 1) := by decide +kernel
theorem dX12_doStack_138 : decode cX12_doStack 138 = .ok (.getfield 104, 3) := by decide +kernel
theorem dX12_doStack_141 : decode cX12_doStack 141 = .ok (.isub, 1) := by decide +kernel
theorem dX12_doStack_142 : decode cX12_doStack 142 = .ok (.invokevirtual 90, 3) := by decide +kernel
theorem dX12_doStack_145 : decode cX12_doStack 145 = .ok (.aload_n 0, 1) := by decide +kernel
theorem dX12_doStack_146 : decode cX12_doStack 146 = .ok (.iload_n 1, 1) := by decide +kernel
theorem dX12_doStack_147 : decode cX12_doStack 147 = .ok (.iconst 1, 1) := by decide +kernel
theorem dX12_doStack_148 : decode cX12_doStack 148 = .ok (.aload_n 0, 1) := by decide +kernel
theorem dX12_doStack_149 : decode cX12_doStack 149 = .ok (.iload_n 2, 1) := by decide +kernel
theorem dX12_doStack_150 : decode cX12_doStack 150 = .ok (.iconst 1, 1) := by decide +kernel
theorem dX12_doStack_151 : decode cX12_doStack 151 = .ok (.invokevirtual 93, 3) := by decide +kernel
theorem dX12_doStack_154 : decode cX12_doStack 154 = .ok (.invokevirtual 90, 3) := by decide +kernel
theorem dX12_doStack_157 : decode cX12_doStack 157 = .ok (.aload_n 0, 1) := by decide +kernel
theorem dX12_doStack_158 : decode cX12_doStack 158 = .ok (.iload_n 1, 1) := by decide +kernel
theorem dX12_doStack_159 : decode cX12_doStack 159 = .ok (.iconst 2, 1) := by decide +kernel
theorem dX12_doStack_160 : decode cX12_doStack 160 = .ok (.iconst 0, 1) := by decide +kernel
theorem dX12_doStack_161 : decode cX12_doStack 161 = .ok (.invokevirtual 90, 3) := by decide +kernel
theorem dX12_doStack_164 : decode cX12_doStack 164 = .ok (.aload_n 0, 1) := by decide +kernel
theorem dX12_doStack_165 : decode cX12_doStack 165 = .ok (.iload_n 1, 1) := by decide +kernel
theorem dX12_doStack_166 : decode cX12_doStack 166 = .ok (.iconst 0, 1) := by decide +kernel
theorem dX12_doStack_167 : decode cX12_doStack 167 = .ok (.aload_n 0, 1) := by decide +kernel
theorem dX12_doStack_168 : decode cX12_doStack 168 = .ok (.iload_n 1, 1) := by decide +kernel
theorem dX12_doStack_169 : decode cX12_doStack 169 = .ok (.iconst 0, 1) := by decide +kernel
theorem dX12_doStack_170 : decode cX12_doStack 170 = .ok (.invokevirtual 93, 3) := by decide +kernel
theorem dX12_doStack_173 : decode cX12_doStack 173 = .ok (.aload_n 0, 1) := by decide +kernel
theorem dX12_doStack_174 : decode cX12_doStack 174 = .ok (.iload_n 2, 1) := by decide +kernel
theorem dX12_doStack_175 : decode cX12_doStack 175 = .ok (.iconst 0, 1) := by decide +kernel
theorem dX12_doStack_176 : decode cX12_doStack 176 = .ok (.invokevirtual 93, 3) := by decide +kernel
theorem dX12_doStack_179 : decode cX12_doStack 179 = .ok (.invokestatic 179, 3) := by decide +kernel
theorem dX12_doStack_182 : decode cX12_doStack 182 = .ok (.invokevirtual 90, 3) := by decide +kernel
theorem dX12_doStack_185 : decode cX12_doStack 185 = .ok (.aload_n 0, 1) := by decide +kernel
theorem dX12_doStack_186 : decode cX12_doStack 186 = .ok (.iload_n 1, 1) := by decide +kernel
theorem dX12_doStack_187 : decode cX12_doStack 187 = .ok (.iconst 4, 1) := by decide +kernel
theorem dX12_doStack_188 : decode cX12_doStack 188 = .ok (.aload_n 0, 1) := by decide +kernel
theorem dX12_doStack_189 : decode cX12_doStack 189 = .ok (.iload_n 1, 1) := by decide +kernel
theorem dX12_doStack_190 : decode cX12_doStack 190 = .ok (.iconst 4, 1) := by decide +kernel
theorem dX12_doStack_191 : decode cX12_doStack 191 = .ok (.invokevirtual 93, 3) := by decide +kernel
theorem dX12_doStack_194 : decode cX12_doStack 194 = .ok (.aload_n 0, 1) := by decide +kernel
theorem dX12_doStack_195 : decode cX12_doStack 195 = .ok (.iload_n 2, 1) := by decide +kernel
theorem dX12_doStack_196 : decode cX12_doStack 196 = .ok (.iconst 4, 1) := by decide +kernel
theorem dX12_doStack_197 : decode cX12_doStack 197 = .ok (.invokevirtual 93, 3) := by decide +kernel
theorem dX12_doStack_200 : decode cX12_doStack 200 = .ok (.invokestatic 179, 3) := by decide +kernel
theorem dX12_doStack_203 : decode cX12_doStack 203 = .ok (.invokevirtual 90, 3) := by decide +kernel
theorem dX12_doStack_206 : decode cX12_doStack 206 = .ok (.aload_n 0, 1) := by decide +kernel
theorem dX12_doStack_207 : decode cX12_doStack 207 = .ok (.aload_n 0, 1) := by decide +kernel
theorem dX12_doStack_208 : decode cX12_doStack 208 = .ok (.iload_n 1, 1) := by decide +kernel
theorem dX12_doStack_209 : decode cX12_doStack 209 = .ok (.bipush 6, 2) := by decide +kernel
theorem dX12_doStack_211 : decode cX12_doStack 211 = .ok (.invokevirtual 93, 3) := by decide +kernel
theorem dX12_doStack_214 : decode cX12_doStack 214 = .ok (.putfield 204, 3) := by decide +kernel
theorem dX12_doStack_217 : decode cX12_doStack 217 = .ok (.iload_n 2, 1) := by decide +kernel
theorem dX12_doStack_218 : decode cX12_doStack 218 = .ok (.iconst 1, 1) := by decide +kernel
theorem dX12_doStack_219 : decode cX12_doStack 219 = .ok (.iadd, 1) := by decide +kernel
theorem dX12_doStack_220 : decode cX12_doStack 220 = .ok (.istore 4, 2) := by decide +kernel
theorem dX12_doStack_222 : decode cX12_doStack 222 = .ok (.iload 4, 2) := by decide +kernel
theorem dX12_doStack_224 : decode cX12_doStack 224 = .ok (.aload_n 0, 1) := by decide +kernel
theorem dX12_doStack_225 : decode cX12_doStack 225 = .ok (.getfield 25, 3) := by decide +kernel
theorem dX12_doStack_228 : decode cX12_doStack 228 = .ok (.iconst 3, 1) := by decide +kernel
theorem dX12_doStack_229 : decode cX12_doStack 229 = .ok (.iaload, 1) := by decide +kernel
theorem dX12_doStack_230 : decode cX12_doStack 230 = .ok (.if_icmp .ge 19, 3) := by decide +kernel
theorem dX12_doStack_233 : decode cX12_doStack 233 = .ok (.aload_n 0, 1) := by decide +kernel
theorem dX12_doStack_234 : decode cX12_doStack 234 = .ok (.iload 4, 2) := by decide +kernel
theorem dX12_doStack_236 : decode cX12_doStack 236 = .ok (.iload 4, 2) := by decide +kernel
theorem dX12_doStack_238 : decode cX12_doStack 238 = .ok (.iconst 1, 1) := by decide +kernel
theorem dX12_doStack_239 : decode cX12_doStack 239 = .ok (.isub, 1) := by decide +kernel
theorem dX12_doStack_240 : decode cX12_doStack 240 = .ok (.invokevirtual 168, 3) := by decide +kernel
theorem dX12_doStack_243 : decode cX12_doStack 243 = .ok (.iinc 4 1, 3) := by decide +kernel
theorem dX12_doStack_246 : decode cX12_doStack 246 = .ok (.goto (-24), 3) := by decide +kernel
theorem dX12_doStack_249 : decode cX12_doStack 249 = .ok (.aload_n 0, 1) := by decide +kernel
theorem dX12_doStack_250 : decode cX12_doStack 250 = .ok (.getfield 25, 3) := by decide +kernel
theorem dX12_doStack_253 : decode cX12_doStack 253 = .ok (.iconst 3, 1) := by decide +kernel
theorem dX12_doStack_254 : decode cX12_doStack 254 = .ok (.dup2, 1) := by decide +kernel
theorem dX12_doStack_255 : decode cX12_doStack 255 = .ok (.iaload, 1) := by decide +kernel
theorem dX12_doStack_256 : decode cX12_doStack 256 = .ok (.iconst 1, 1) := by decide +kernel
theorem dX12_doStack_257 : decode cX12_doStack 257 = .ok (.isub, 1) := by decide +kernel
theorem dX12_doStack_258 : decode cX12_doStack 258 = .ok (.iastore, 1) := by decide +kernel
theorem dX12_doStack_259 : decode cX12_doStack 259 = .ok (.iconst 0, 1) := by decide +kernel
theorem dX12_doStack_260 : decode cX12_doStack 260 = .ok (.ireturn, 1) := by decide +kernel
theorem dX12_doButter_0 : decode cX12_doButter 0 = .ok (.aload_n 0, 1) := by decide +kernel
theorem dX12_doButter_1 : decode cX12_doButter 1 = .ok (.iload_n 1, 1) := by decide +kernel
theorem dX12_doButter_2 : decode cX12_doButter 2 = .ok (.iconst 3, 1) := by decide +kernel
theorem dX12_doButter_3 : decode cX12_doButter 3 = .ok (.invokevirtual 124, 3) := by decide +kernel
theorem dX12_doButter_6 : decode cX12_doButter 6 = .ok (.ifCond .ne 29, 3) := by decide +kernel
theorem dX12_doButter_9 : decode cX12_doButter 9 = .ok (.aload_n 0, 1) := by decide +kernel
theorem dX12_doButter_10 : decode cX12_doButter 10 = .ok (.iload_n 1, 1) := by decide +kernel
theorem dX12_doButter_11 : decode cX12_doButter 11 = .ok (.bipush 6, 2) := by decide +kernel
theorem dX12_doButter_13 : decode cX12_doButter 13 = .ok (.invokevirtual 93, 3) := by decide +kernel
theorem dX12_doButter_16 : decode cX12_doButter 16 = .ok (.sipush 200, 3) := by decide +kernel
theorem dX12_doButter_19 : decode cX12_doButter 19 = .ok (.if_icmp .eq 16, 3) := by decide +kernel
theorem dX12_doButter_22 : decode cX12_doButter 22 = .ok (.aload_n 0, 1) := by decide +kernel
theorem dX12_doButter_23 : decode cX12_doButter 23 = .ok (.iload_n 1, 1) := by decide +kernel
theorem dX12_doButter_24 : decode cX12_doButter 24 = .ok (.invokevirtual 136, 3) := by decide +kernel
theorem dX12_doButter_27 : decode cX12_doButter 27 = .ok (.iload_n 2, 1) := by decide +kernel
theorem dX12_doButter_28 : decode cX12_doButter 28 = .ok (.iadd, 1) := by decide +kernel
theorem dX12_doButter_29 : decode cX12_doButter 29 = .ok (.sipush 4000, 3) := by decide +kernel
theorem dX12_doButter_32 : decode cX12_doButter 32 = .ok (.if_icmp .le 5, 3) := by decide +kernel
theorem dX12_doButter_35 : decode cX12_doButter 35 = .ok (.iconst 3, 1) := by decide +kernel
theorem dX12_doButter_36 : decode cX12_doButter 36 = .ok (.ireturn, 1) := by decide +kernel
theorem dX12_doButter_37 : decode cX12_doButter 37 = .ok (.aload_n 0, 1) := by decide +kernel
theorem dX12_doButter_38 : decode cX12_doButter 38 = .ok (.iconst 0, 1) := by decide +kernel
theorem dX12_doButter_39 : decode cX12_doButter 39 = .ok (.putfield 104, 3) := by decide +kernel
theorem dX12_doButter_42 : decode cX12_doButter 42 = .ok (.aload_n 0, 1) := by decide +kernel
theorem dX12_doButter_43 : decode cX12_doButter 43 = .ok (.iload_n 1, 1) := by decide +kernel
theorem dX12_doButter_44 : decode cX12_doButter 44 = .ok (.iload_n 2, 1) := by decide +kernel
theorem dX12_doButter_45 : decode cX12_doButter 45 = .ok (.ineg, 1) := by decide +kernel
theorem dX12_doButter_46 : decode cX12_doButter 46 = .ok (.aload_n 0, 1) := by decide +kernel
theorem dX12_doButter_47 : decode cX12_doButter 47 = .ok (.iload_n 1, 1) := by decide +kernel
theorem dX12_doButter_48 : decode cX12_doButter 48 = .ok (.iconst 1, 1) := by decide +kernel
theorem dX12_doButter_49 : decode cX12_doButter 49 = .ok (.invokevirtual 124, 3) := by decide +kernel
theorem dX12_doButter_52 : decode cX12_doButter 52 = .ok (.ifCond .ne 7, 3) := by decide +kernel
theorem dX12_doButter_55 : decode cX12_doButter 55 = .ok (.iconst 1, 1) := by decide +kernel
theorem dX12_doButter_56 : decode cX12_doButter 56 = .ok (.goto 4, 3) := by decide +kernel
theorem dX12_doButter_59 : decode cX12_doButter 59 = .ok (.iconst 0, 1) := by decide +kernel
theorem dX12_doButter_60 : decode cX12_doButter 60 = .ok (.invokevirtual 171, 3) := by decide +kernel
theorem dX12_doButter_63 : decode cX12_doButter 63 = .ok (.aload_n 0, 1) := by decide +kernel
theorem dX12_doButter_64 : decode cX12_doButter 64 = .ok (.iload_n 1, 1) := by decide +kernel
theorem dX12_doButter_65 : decode cX12_doButter 65 = .ok (.iconst 5, 1) := by decide +kernel
theorem dX12_doButter_66 : decode cX12_doButter 66 = .ok (.aload_n 0, 1) := by decide +kernel
theorem dX12_doButter_67 : decode cX12_doButter 67 = .ok (.iload_n 1, 1) := by decide +kernel
theorem dX12_doButter_68 : decode cX12_doButter 68 = .ok (.iconst 5, 1) := by decide +kernel
theorem dX12_doButter_69 : decode cX12_doButter 69 = .ok (.invokevirtual 93, 3) := by decide +kernel
theorem dX12_doButter_72 : decode cX12_doButter 72 = .ok (.iconst 1, 1) := by decide +kernel
theorem dX12_doButter_73 : decode cX12_doButter 73 = .ok (.iadd, 1) := by decide +kernel
theorem dX12_doButter_74 : decode cX12_doButter 74 = .ok (.aload_n 0, 1) := by decide +kernel
theorem dX12_doButter_75 : decode cX12_doButter 75 = .ok (.getfield 104, 3) := by decide +kernel
theorem dX12_doButter_78 : decode cX12_doButter 78 = .ok (.isub, 1) := by decide +kernel
theorem dX12_doButter_79 : decode cX12_doButter 79 = .ok (.invokevirtual 90, 3) := by decide +kernel
theorem dX12_doButter_82 : decode cX12_doButter 82 = .ok (.aload_n 0, 1) := by decide +kernel
theorem dX12_doButter_83 : decode cX12_doButter 83 = .ok (.iload_n 1, 1) := by decide +kernel
theorem dX12_doButter_84 : decode cX12_doButter 84 = .ok (.iconst 2, 1) := by decide +kernel
theorem dX12_doButter_85 : decode cX12_doButter 85 = .ok (.iconst 0, 1) := by decide +kernel
theorem dX12_doButter_86 : decode cX12_doButter 86 = .ok (.invokevirtual 90, 3) := by decide +kernel
theorem dX12_doButter_89 : decode cX12_doButter 89 = .ok (.aload_n 0, 1) := by decide +kernel
theorem dX12_doButter_90 : decode cX12_doButter 90 = .ok (.aload_n 0, 1) := by decide +kernel
theorem dX12_doButter_91 : decode cX12_doButter 91 = .ok (.iload_n 1, 1) := by decide +kernel
theorem dX12_doButter_92 : decode cX12_doButter 92 = .ok (.bipush 6, 2) := by decide +kernel
theorem dX12_doButter_94 : decode cX12_doButter 94 = .ok (.invokevirtual 93, 3) := by decide +kernel
theorem dX12_doButter_97 : decode cX12_doButter 97 = .ok (.putfield 204, 3) := by decide +kernel
theorem dX12_doButter_100 : decode cX12_doButter 100 = .ok (.iconst 0, 1) := by decide +kernel
theorem dX12_doButter_101 : decode cX12_doButter 101 = .ok (.ireturn, 1) := by decide +kernel
theorem dX12_copy_0 : decode cX12_copy 0 = .ok (.aload_n 0, 1) := by decide +kernel
theorem dX12_copy_1 : decode cX12_copy 1 = .ok (.sipush 1456, 3) := by decide +kernel
theorem dX12_copy_4 : decode cX12_copy 4 = .ok (.iload_n 1, 1) := by decide +kernel
theorem dX12_copy_5 : decode cX12_copy 5 = .ok (.imul, 1) := by decide +kernel
theorem dX12_copy_6 : decode cX12_copy 6 = .ok (.aload_n 2, 1) := by decide +kernel
theorem dX12_copy_7 : decode cX12_copy 7 = .ok (.sipush 1456, 3) := by decide +kernel
theorem dX12_copy_10 : decode cX12_copy 10 = .ok (.iload_n 3, 1) := by decide +kernel
theorem dX12_copy_11 : decode cX12_copy 11 = .ok (.imul, 1) := by decide +kernel
theorem dX12_copy_12 : decode cX12_copy 12 = .ok (.sipush 1456, 3) := by decide +kernel
theorem dX12_copy_15 : decode cX12_copy 15 = .ok (.invokestatic 115, 3) := by decide +kernel
theorem dX12_copy_18 : decode cX12_copy 18 = .ok (.return_, 1) := by decide +kernel
theorem dX12_keep_0 : decode cX12_keep 0 = .ok (.aload_n 0, 1) := by decide +kernel
theorem dX12_keep_1 : decode cX12_keep 1 = .ok (.getfield 9, 3) := by decide +kernel
theorem dX12_keep_4 : decode cX12_keep 4 = .ok (.iconst 0, 1) := by decide +kernel
theorem dX12_keep_5 : decode cX12_keep 5 = .ok (.aload_n 0, 1) := by decide +kernel
theorem dX12_keep_6 : decode cX12_keep 6 = .ok (.getfield 16, 3) := by decide +kernel
theorem dX12_keep_9 : decode cX12_keep 9 = .ok (.iconst 0, 1) := by decide +kernel
theorem dX12_keep_10 : decode cX12_keep 10 = .ok (.invokestatic 220, 3) := by decide +kernel
theorem dX12_keep_13 : decode cX12_keep 13 = .ok (.return_, 1) := by decide +kernel
theorem dX12_record_0 : decode cX12_record 0 = .ok (.aload_n 0, 1) := by decide +kernel
theorem dX12_record_1 : decode cX12_record 1 = .ok (.getfield 224, 3) := by decide +kernel
theorem dX12_record_4 : decode cX12_record 4 = .ok (.bipush 8, 2) := by decide +kernel
theorem dX12_record_6 : decode cX12_record 6 = .ok (.if_icmp .ne 42, 3) := by decide +kernel
theorem dX12_record_9 : decode cX12_record 9 = .ok (.iconst 1, 1) := by decide +kernel
theorem dX12_record_10 : decode cX12_record 10 = .ok (.istore_n 1, 1) := by decide +kernel
theorem dX12_record_11 : decode cX12_record 11 = .ok (.iload_n 1, 1) := by decide +kernel
theorem dX12_record_12 : decode cX12_record 12 = .ok (.bipush 8, 2) := by decide +kernel
theorem dX12_record_14 : decode cX12_record 14 = .ok (.if_icmp .ge 24, 3) := by decide +kernel
theorem dX12_record_17 : decode cX12_record 17 = .ok (.aload_n 0, 1) := by decide +kernel
theorem dX12_record_18 : decode cX12_record 18 = .ok (.getfield 22, 3) := by decide +kernel
theorem dX12_record_21 : decode cX12_record 21 = .ok (.iload_n 1, 1) := by decide +kernel
theorem dX12_record_22 : decode cX12_record 22 = .ok (.aload_n 0, 1) := by decide +kernel
theorem dX12_record_23 : decode cX12_record 23 = .ok (.getfield 22, 3) := by decide +kernel
theorem dX12_record_26 : decode cX12_record 26 = .ok (.iload_n 1, 1) := by decide +kernel
theorem dX12_record_27 : decode cX12_record 27 = .ok (.iconst 1, 1) := by decide +kernel
theorem dX12_record_28 : decode cX12_record 28 = .ok (.isub, 1) := by decide +kernel
theorem dX12_record_29 : decode cX12_record 29 = .ok (.invokestatic 220, 3) := by decide +kernel
theorem dX12_record_32 : decode cX12_record 32 = .ok (.iinc 1 1, 3) := by decide +kernel
theorem dX12_record_35 : decode cX12_record 35 = .ok (.goto (-24), 3) := by decide +kernel
theorem dX12_record_38 : decode cX12_record 38 = .ok (.aload_n 0, 1) := by decide +kernel
theorem dX12_record_39 : decode cX12_record 39 = .ok (.dup, 1) := by decide +kernel
theorem dX12_record_40 : decode cX12_record 40 = .ok (.getfield 224, 3) := by decide +kernel
theorem dX12_record_43 : decode cX12_record 43 = .ok (.iconst 1, 1) := by decide +kernel
theorem dX12_record_44 : decode cX12_record 44 = .ok (.isub, 1) := by decide +kernel
theorem dX12_record_45 : decode cX12_record 45 = .ok (.putfield 224, 3) := by decide +kernel
theorem dX12_record_48 : decode cX12_record 48 = .ok (.aload_n 0, 1) := by decide +kernel
theorem dX12_record_49 : decode cX12_record 49 = .ok (.getfield 16, 3) := by decide +kernel
theorem dX12_record_52 : decode cX12_record 52 = .ok (.iconst 0, 1) := by decide +kernel
theorem dX12_record_53 : decode cX12_record 53 = .ok (.aload_n 0, 1) := by decide +kernel
theorem dX12_record_54 : decode cX12_record 54 = .ok (.getfield 22, 3) := by decide +kernel
theorem dX12_record_57 : decode cX12_record 57 = .ok (.aload_n 0, 1) := by decide +kernel
theorem dX12_record_58 : decode cX12_record 58 = .ok (.getfield 224, 3) := by decide +kernel
theorem dX12_record_61 : decode cX12_record 61 = .ok (.invokestatic 220, 3) := by decide +kernel
theorem dX12_record_64 : decode cX12_record 64 = .ok (.aload_n 0, 1) := by decide +kernel
theorem dX12_record_65 : decode cX12_record 65 = .ok (.dup, 1) := by decide +kernel
theorem dX12_record_66 : decode cX12_record 66 = .ok (.getfield 224, 3) := by decide +kernel
theorem dX12_record_69 : decode cX12_record 69 = .ok (.iconst 1, 1) := by decide +kernel
theorem dX12_record_70 : decode cX12_record 70 = .ok (.iadd, 1) := by decide +kernel
theorem dX12_record_71 : decode cX12_record 71 = .ok (.putfield 224, 3) := by decide +kernel
theorem dX12_record_74 : decode cX12_record 74 = .ok (.return_, 1) := by decide +kernel
theorem dX12_ends_0 : decode cX12_ends 0 = .ok (.aload_n 0, 1) := by decide +kernel
theorem dX12_ends_1 : decode cX12_ends 1 = .ok (.iload_n 1, 1) := by decide +kernel
theorem dX12_ends_2 : decode cX12_ends 2 = .ok (.putfield 79, 3) := by decide +kernel
theorem dX12_ends_5 : decode cX12_ends 5 = .ok (.iload_n 1, 1) := by decide +kernel
theorem dX12_ends_6 : decode cX12_ends 6 = .ok (.ifCond .eq 5, 3) := by decide +kernel
theorem dX12_ends_9 : decode cX12_ends 9 = .ok (.iconst 0, 1) := by decide +kernel
theorem dX12_ends_10 : decode cX12_ends 10 = .ok (.ireturn, 1) := by decide +kernel
theorem dX12_ends_11 : decode cX12_ends 11 = .ok (.aload_n 0, 1) := by decide +kernel
theorem dX12_ends_12 : decode cX12_ends 12 = .ok (.invokevirtual 227, 3) := by decide +kernel
theorem dX12_ends_15 : decode cX12_ends 15 = .ok (.aload_n 0, 1) := by decide +kernel
theorem dX12_ends_16 : decode cX12_ends 16 = .ok (.getfield 204, 3) := by decide +kernel
theorem dX12_ends_19 : decode cX12_ends 19 = .ok (.ireturn, 1) := by decide +kernel
theorem dX12_fold_0 : decode cX12_fold 0 = .ok (.aload_n 0, 1) := by decide +kernel
theorem dX12_fold_1 : decode cX12_fold 1 = .ok (.iload_n 1, 1) := by decide +kernel
theorem dX12_fold_2 : decode cX12_fold 2 = .ok (.iload_n 2, 1) := by decide +kernel
theorem dX12_fold_3 : decode cX12_fold 3 = .ok (.invokevirtual 159, 3) := by decide +kernel
theorem dX12_fold_6 : decode cX12_fold 6 = .ok (.ifCond .eq 5, 3) := by decide +kernel
theorem dX12_fold_9 : decode cX12_fold 9 = .ok (.iconst 0, 1) := by decide +kernel
theorem dX12_fold_10 : decode cX12_fold 10 = .ok (.ireturn, 1) := by decide +kernel
theorem dX12_fold_11 : decode cX12_fold 11 = .ok (.aload_n 0, 1) := by decide +kernel
theorem dX12_fold_12 : decode cX12_fold 12 = .ok (.invokevirtual 230, 3) := by decide +kernel
theorem dX12_fold_15 : decode cX12_fold 15 = .ok (.aload_n 0, 1) := by decide +kernel
theorem dX12_fold_16 : decode cX12_fold 16 = .ok (.aload_n 0, 1) := by decide +kernel
theorem dX12_fold_17 : decode cX12_fold 17 = .ok (.iload_n 1, 1) := by decide +kernel
theorem dX12_fold_18 : decode cX12_fold 18 = .ok (.iload_n 2, 1) := by decide +kernel
theorem dX12_fold_19 : decode cX12_fold 19 = .ok (.invokevirtual 233, 3) := by decide +kernel
theorem dX12_fold_22 : decode cX12_fold 22 = .ok (.invokevirtual 236, 3) := by decide +kernel
theorem dX12_fold_25 : decode cX12_fold 25 = .ok (.ireturn, 1) := by decide +kernel
theorem dX12_roll_0 : decode cX12_roll 0 = .ok (.aload_n 0, 1) := by decide +kernel
theorem dX12_roll_1 : decode cX12_roll 1 = .ok (.iload_n 1, 1) := by decide +kernel
theorem dX12_roll_2 : decode cX12_roll 2 = .ok (.iload_n 2, 1) := by decide +kernel
theorem dX12_roll_3 : decode cX12_roll 3 = .ok (.invokevirtual 159, 3) := by decide +kernel
theorem dX12_roll_6 : decode cX12_roll 6 = .ok (.ifCond .eq 5, 3) := by decide +kernel
theorem dX12_roll_9 : decode cX12_roll 9 = .ok (.iconst 0, 1) := by decide +kernel
theorem dX12_roll_10 : decode cX12_roll 10 = .ok (.ireturn, 1) := by decide +kernel
theorem dX12_roll_11 : decode cX12_roll 11 = .ok (.aload_n 0, 1) := by decide +kernel
theorem dX12_roll_12 : decode cX12_roll 12 = .ok (.invokevirtual 230, 3) := by decide +kernel
theorem dX12_roll_15 : decode cX12_roll 15 = .ok (.aload_n 0, 1) := by decide +kernel
theorem dX12_roll_16 : decode cX12_roll 16 = .ok (.aload_n 0, 1) := by decide +kernel
theorem dX12_roll_17 : decode cX12_roll 17 = .ok (.iload_n 1, 1) := by decide +kernel
theorem dX12_roll_18 : decode cX12_roll 18 = .ok (.iload_n 2, 1) := by decide +kernel
theorem dX12_roll_19 : decode cX12_roll 19 = .ok (.invokevirtual 239, 3) := by decide +kernel
theorem dX12_roll_22 : decode cX12_roll 22 = .ok (.invokevirtual 236, 3) := by decide +kernel
theorem dX12_roll_25 : decode cX12_roll 25 = .ok (.ireturn, 1) := by decide +kernel
theorem dX12_dust_0 : decode cX12_dust 0 = .ok (.aload_n 0, 1) := by decide +kernel
theorem dX12_dust_1 : decode cX12_dust 1 = .ok (.invokevirtual 230, 3) := by decide +kernel
theorem dX12_dust_4 : decode cX12_dust 4 = .ok (.aload_n 0, 1) := by decide +kernel
theorem dX12_dust_5 : decode cX12_dust 5 = .ok (.aload_n 0, 1) := by decide +kernel
theorem dX12_dust_6 : decode cX12_dust 6 = .ok (.iload_n 1, 1) := by decide +kernel
theorem dX12_dust_7 : decode cX12_dust 7 = .ok (.invokevirtual 242, 3) := by decide +kernel
theorem dX12_dust_10 : decode cX12_dust 10 = .ok (.invokevirtual 236, 3) := by decide +kernel
theorem dX12_dust_13 : decode cX12_dust 13 = .ok (.ireturn, 1) := by decide +kernel
theorem dX12_seal_0 : decode cX12_seal 0 = .ok (.aload_n 0, 1) := by decide +kernel
theorem dX12_seal_1 : decode cX12_seal 1 = .ok (.invokevirtual 230, 3) := by decide +kernel
theorem dX12_seal_4 : decode cX12_seal 4 = .ok (.aload_n 0, 1) := by decide +kernel
theorem dX12_seal_5 : decode cX12_seal 5 = .ok (.aload_n 0, 1) := by decide +kernel
theorem dX12_seal_6 : decode cX12_seal 6 = .ok (.iload_n 1, 1) := by decide +kernel
theorem dX12_seal_7 : decode cX12_seal 7 = .ok (.invokevirtual 245, 3) := by decide +kernel
theorem dX12_seal_10 : decode cX12_seal 10 = .ok (.invokevirtual 236, 3) := by decide +kernel
theorem dX12_seal_13 : decode cX12_seal 13 = .ok (.ireturn, 1) := by decide +kernel
theorem dX12_cool_0 : decode cX12_cool 0 = .ok (.aload_n 0, 1) := by decide +kernel
theorem dX12_cool_1 : decode cX12_cool 1 = .ok (.invokevirtual 230, 3) := by decide +kernel
theorem dX12_cool_4 : decode cX12_cool 4 = .ok (.aload_n 0, 1) := by decide +kernel
theorem dX12_cool_5 : decode cX12_cool 5 = .ok (.aload_n 0, 1) := by decide +kernel
theorem dX12_cool_6 : decode cX12_cool 6 = .ok (.iload_n 1, 1) := by decide +kernel
theorem dX12_cool_7 : decode cX12_cool 7 = .ok (.invokevirtual 248, 3) := by decide +kernel
theorem dX12_cool_10 : decode cX12_cool 10 = .ok (.invokevirtual 236, 3) := by decide +kernel
theorem dX12_cool_13 : decode cX12_cool 13 = .ok (.ireturn, 1) := by decide +kernel
theorem dX12_takeOut_0 : decode cX12_takeOut 0 = .ok (.aload_n 0, 1) := by decide +kernel
theorem dX12_takeOut_1 : decode cX12_takeOut 1 = .ok (.invokevirtual 230, 3) := by decide +kernel
theorem dX12_takeOut_4 : decode cX12_takeOut 4 = .ok (.aload_n 0, 1) := by decide +kernel
theorem dX12_takeOut_5 : decode cX12_takeOut 5 = .ok (.aload_n 0, 1) := by decide +kernel
theorem dX12_takeOut_6 : decode cX12_takeOut 6 = .ok (.iload_n 1, 1) := by decide +kernel
theorem dX12_takeOut_7 : decode cX12_takeOut 7 = .ok (.invokevirtual 251, 3) := by decide +kernel
theorem dX12_takeOut_10 : decode cX12_takeOut 10 = .ok (.invokevirtual 236, 3) := by decide +kernel
theorem dX12_takeOut_13 : decode cX12_takeOut 13 = .ok (.ireturn, 1) := by decide +kernel
theorem dX12_passHours_0 : decode cX12_passHours 0 = .ok (.aload_n 0, 1) := by decide +kernel
theorem dX12_passHours_1 : decode cX12_passHours 1 = .ok (.iload_n 1, 1) := by decide +kernel
theorem dX12_passHours_2 : decode cX12_passHours 2 = .ok (.iconst 1, 1) := by decide +kernel
theorem dX12_passHours_3 : decode cX12_passHours 3 = .ok (.bipush 24, 2) := by decide +kernel
theorem dX12_passHours_5 : decode cX12_passHours 5 = .ok (.invokestatic 107, 3) := by decide +kernel
theorem dX12_passHours_8 : decode cX12_passHours 8 = .ok (.invokevirtual 82, 3) := by decide +kernel
theorem dX12_passHours_11 : decode cX12_passHours 11 = .ok (.ifCond .eq 5, 3) := by decide +kernel
theorem dX12_passHours_14 : decode cX12_passHours 14 = .ok (.iconst 0, 1) := by decide +kernel
theorem dX12_passHours_15 : decode cX12_passHours 15 = .ok (.ireturn, 1) := by decide +kernel
theorem dX12_passHours_16 : decode cX12_passHours 16 = .ok (.aload_n 0, 1) := by decide +kernel
theorem dX12_passHours_17 : decode cX12_passHours 17 = .ok (.invokevirtual 230, 3) := by decide +kernel
theorem dX12_passHours_20 : decode cX12_passHours 20 = .ok (.aload_n 0, 1) := by decide +kernel
theorem dX12_passHours_21 : decode cX12_passHours 21 = .ok (.aload_n 0, 1) := by decide +kernel
theorem dX12_passHours_22 : decode cX12_passHours 22 = .ok (.iload_n 1, 1) := by decide +kernel
theorem dX12_passHours_23 : decode cX12_passHours 23 = .ok (.invokevirtual 254, 3) := by decide +kernel
theorem dX12_passHours_26 : decode cX12_passHours 26 = .ok (.invokevirtual 236, 3) := by decide +kernel
theorem dX12_passHours_29 : decode cX12_passHours 29 = .ok (.ireturn, 1) := by decide +kernel
theorem dX12_cut_0 : decode cX12_cut 0 = .ok (.aload_n 0, 1) := by decide +kernel
theorem dX12_cut_1 : decode cX12_cut 1 = .ok (.invokevirtual 230, 3) := by decide +kernel
theorem dX12_cut_4 : decode cX12_cut 4 = .ok (.aload_n 0, 1) := by decide +kernel
theorem dX12_cut_5 : decode cX12_cut 5 = .ok (.aload_n 0, 1) := by decide +kernel
theorem dX12_cut_6 : decode cX12_cut 6 = .ok (.iload_n 1, 1) := by decide +kernel
theorem dX12_cut_7 : decode cX12_cut 7 = .ok (.invokevirtual 257, 3) := by decide +kernel
theorem dX12_cut_10 : decode cX12_cut 10 = .ok (.invokevirtual 236, 3) := by decide +kernel
theorem dX12_cut_13 : decode cX12_cut 13 = .ok (.ireturn, 1) := by decide +kernel
theorem dX12_stack_0 : decode cX12_stack 0 = .ok (.aload_n 0, 1) := by decide +kernel
theorem dX12_stack_1 : decode cX12_stack 1 = .ok (.invokevirtual 230, 3) := by decide +kernel
theorem dX12_stack_4 : decode cX12_stack 4 = .ok (.aload_n 0, 1) := by decide +kernel
theorem dX12_stack_5 : decode cX12_stack 5 = .ok (.aload_n 0, 1) := by decide +kernel
theorem dX12_stack_6 : decode cX12_stack 6 = .ok (.iload_n 1, 1) := by decide +kernel
theorem dX12_stack_7 : decode cX12_stack 7 = .ok (.iload_n 2, 1) := by decide +kernel
theorem dX12_stack_8 : decode cX12_stack 8 = .ok (.invokevirtual 260, 3) := by decide +kernel
theorem dX12_stack_11 : decode cX12_stack 11 = .ok (.invokevirtual 236, 3) := by decide +kernel
theorem dX12_stack_14 : decode cX12_stack 14 = .ok (.ireturn, 1) := by decide +kernel
theorem dX12_addButter_0 : decode cX12_addButter 0 = .ok (.aload_n 0, 1) := by decide +kernel
theorem dX12_addButter_1 : decode cX12_addButter 1 = .ok (.aload_n 0, 1) := by decide +kernel
theorem dX12_addButter_2 : decode cX12_addButter 2 = .ok (.iload_n 1, 1) := by decide +kernel
theorem dX12_addButter_3 : decode cX12_addButter 3 = .ok (.invokevirtual 111, 3) := by decide +kernel
theorem dX12_addButter_6 : decode cX12_addButter 6 = .ok (.iload_n 2, 1) := by decide +kernel
theorem dX12_addButter_7 : decode cX12_addButter 7 = .ok (.iconst 1, 1) := by decide +kernel
theorem dX12_addButter_8 : decode cX12_addButter 8 = .ok (.sipush 400, 3) := by decide +kernel
theorem dX12_addButter_11 : decode cX12_addButter 11 = .ok (.invokestatic 107, 3) := by decide +kernel
theorem dX12_addButter_14 : decode cX12_addButter 14 = .ok (.invokevirtual 155, 3) := by decide +kernel
theorem dX12_addButter_17 : decode cX12_addButter 17 = .ok (.ifCond .eq 5, 3) := by decide +kernel
theorem dX12_addButter_20 : decode cX12_addButter 20 = .ok (.iconst 0, 1) := by decide +kernel
theorem dX12_addButter_21 : decode cX12_addButter 21 = .ok (.ireturn, 1) := by decide +kernel
theorem dX12_addButter_22 : decode cX12_addButter 22 = .ok (.aload_n 0, 1) := by decide +kernel
theorem dX12_addButter_23 : decode cX12_addButter 23 = .ok (.invokevirtual 230, 3) := by decide +kernel
theorem dX12_addButter_26 : decode cX12_addButter 26 = .ok (.aload_n 0, 1) := by decide +kernel
theorem dX12_addButter_27 : decode cX12_addButter 27 = .ok (.aload_n 0, 1) := by decide +kernel
theorem dX12_addButter_28 : decode cX12_addButter 28 = .ok (.iload_n 1, 1) := by decide +kernel
theorem dX12_addButter_29 : decode cX12_addButter 29 = .ok (.iload_n 2, 1) := by decide +kernel
theorem dX12_addButter_30 : decode cX12_addButter 30 = .ok (.invokevirtual 263, 3) := by decide +kernel
theorem dX12_addButter_33 : decode cX12_addButter 33 = .ok (.invokevirtual 236, 3) := by decide +kernel
theorem dX12_addButter_36 : decode cX12_addButter 36 = .ok (.ireturn, 1) := by decide +kernel
theorem dX12_buyFlour_0 : decode cX12_buyFlour 0 = .ok (.aload_n 0, 1) := by decide +kernel
theorem dX12_buyFlour_1 : decode cX12_buyFlour 1 = .ok (.iload_n 1, 1) := by decide +kernel
theorem dX12_buyFlour_2 : decode cX12_buyFlour 2 = .ok (.iconst 1, 1) := by decide +kernel
theorem dX12_buyFlour_3 : decode cX12_buyFlour 3 = .ok (.bipush 50, 2) := by decide +kernel
theorem dX12_buyFlour_5 : decode cX12_buyFlour 5 = .ok (.invokestatic 107, 3) := by decide +kernel
theorem dX12_buyFlour_8 : decode cX12_buyFlour 8 = .ok (.aload_n 0, 1) := by decide +kernel
theorem dX12_buyFlour_9 : decode cX12_buyFlour 9 = .ok (.getfield 25, 3) := by decide +kernel
theorem dX12_buyFlour_12 : decode cX12_buyFlour 12 = .ok (.iconst 2, 1) := by decide +kernel
theorem dX12_buyFlour_13 : decode cX12_buyFlour 13 = .ok (.iaload, 1) := by decide +kernel
theorem dX12_buyFlour_14 : decode cX12_buyFlour 14 = .ok (.iload_n 1, 1) := by decide +kernel
theorem dX12_buyFlour_15 : decode cX12_buyFlour 15 = .ok (.iadd, 1) := by decide +kernel
theorem dX12_buyFlour_16 : decode cX12_buyFlour 16 = .ok (.sipush 999, 3) := by decide +kernel
theorem dX12_buyFlour_19 : decode cX12_buyFlour 19 = .ok (.if_icmp .gt 7, 3) := by decide +kernel
theorem dX12_buyFlour_22 : decode cX12_buyFlour 22 = .ok (.iconst 1, 1) := by decide +kernel
theorem dX12_buyFlour_23 : decode cX12_buyFlour 23 = .ok (.goto 4, 3) := by decide +kernel
theorem dX12_buyFlour_26 : decode cX12_buyFlour 26 = .ok (.iconst 0, 1) := by decide +kernel
theorem dX12_buyFlour_27 : decode cX12_buyFlour 27 = .ok (.invokevirtual 155, 3) := by decide +kernel
theorem dX12_buyFlour_30 : decode cX12_buyFlour 30 = .ok (.ifCond .eq 5, 3) := by decide +kernel
theorem dX12_buyFlour_33 : decode cX12_buyFlour 33 = .ok (.iconst 0, 1) := by decide +kernel
theorem dX12_buyFlour_34 : decode cX12_buyFlour 34 = .ok (.ireturn, 1) := by decide +kernel
theorem dX12_buyFlour_35 : decode cX12_buyFlour 35 = .ok (.aload_n 0, 1) := by decide +kernel
theorem dX12_buyFlour_36 : decode cX12_buyFlour 36 = .ok (.invokevirtual 230, 3) := by decide +kernel
theorem dX12_buyFlour_39 : decode cX12_buyFlour 39 = .ok (.aload_n 0, 1) := by decide +kernel
theorem dX12_buyFlour_40 : decode cX12_buyFlour 40 = .ok (.getfield 25, 3) := by decide +kernel
theorem dX12_buyFlour_43 : decode cX12_buyFlour 43 = .ok (.iconst 2, 1) := by decide +kernel
theorem dX12_buyFlour_44 : decode cX12_buyFlour 44 = .ok (.dup2, 1) := by decide +kernel
theorem dX12_buyFlour_45 : decode cX12_buyFlour 45 = .ok (.iaload, 1) := by decide +kernel
theorem dX12_buyFlour_46 : decode cX12_buyFlour 46 = .ok (.iload_n 1, 1) := by decide +kernel
theorem dX12_buyFlour_47 : decode cX12_buyFlour 47 = .ok (.iadd, 1) := by decide +kernel
theorem dX12_buyFlour_48 : decode cX12_buyFlour 48 = .ok (.iastore, 1) := by decide +kernel
theorem dX12_buyFlour_49 : decode cX12_buyFlour 49 = .ok (.aload_n 0, 1) := by decide +kernel
theorem dX12_buyFlour_50 : decode cX12_buyFlour 50 = .ok (.aload_n 0, 1) := by decide +kernel
theorem dX12_buyFlour_51 : decode cX12_buyFlour 51 = .ok (.getfield 25, 3) := by decide +kernel
theorem dX12_buyFlour_54 : decode cX12_buyFlour 54 = .ok (.iconst 2, 1) := by decide +kernel
theorem dX12_buyFlour_55 : decode cX12_buyFlour 55 = .ok (.iaload, 1) := by decide +kernel
theorem dX12_buyFlour_56 : decode cX12_buyFlour 56 = .ok (.putfield 204, 3) := by decide +kernel
theorem dX12_buyFlour_59 : decode cX12_buyFlour 59 = .ok (.aload_n 0, 1) := by decide +kernel
theorem dX12_buyFlour_60 : decode cX12_buyFlour 60 = .ok (.iconst 0, 1) := by decide +kernel
theorem dX12_buyFlour_61 : decode cX12_buyFlour 61 = .ok (.invokevirtual 236, 3) := by decide +kernel
theorem dX12_buyFlour_64 : decode cX12_buyFlour 64 = .ok (.ireturn, 1) := by decide +kernel
theorem dX12_write_0 : decode cX12_write 0 = .ok (.aload_n 0, 1) := by decide +kernel
theorem dX12_write_1 : decode cX12_write 1 = .ok (.getfield 28, 3) := by decide +kernel
theorem dX12_write_4 : decode cX12_write 4 = .ok (.aload_n 0, 1) := by decide +kernel
theorem dX12_write_5 : decode cX12_write 5 = .ok (.getfield 266, 3) := by decide +kernel
theorem dX12_write_8 : decode cX12_write 8 = .ok (.iload_n 1, 1) := by decide +kernel
theorem dX12_write_9 : decode cX12_write 9 = .ok (.iastore, 1) := by decide +kernel
theorem dX12_write_10 : decode cX12_write 10 = .ok (.aload_n 0, 1) := by decide +kernel
theorem dX12_write_11 : decode cX12_write 11 = .ok (.dup, 1) := by decide +kernel
theorem dX12_write_12 : decode cX12_write 12 = .ok (.getfield 266, 3) := by decide +kernel
theorem dX12_write_15 : decode cX12_write 15 = .ok (.iconst 1, 1) := by decide +kernel
theorem dX12_write_16 : decode cX12_write 16 = .ok (.iadd, 1) := by decide +kernel
theorem dX12_write_17 : decode cX12_write 17 = .ok (.putfield 266, 3) := by decide +kernel
theorem dX12_write_20 : decode cX12_write 20 = .ok (.return_, 1) := by decide +kernel
theorem dX12_writeNumber_0 : decode cX12_writeNumber 0 = .ok (.iconst 1, 1) := by decide +kernel
theorem dX12_writeNumber_1 : decode cX12_writeNumber 1 = .ok (.istore_n 2, 1) := by decide +kernel
theorem dX12_writeNumber_2 : decode cX12_writeNumber 2 = .ok (.iload_n 1, 1) := by decide +kernel
theorem dX12_writeNumber_3 : decode cX12_writeNumber 3 = .ok (.iload_n 2, 1) := by decide +kernel
theorem dX12_writeNumber_4 : decode cX12_writeNumber 4 = .ok (.idiv, 1) := by decide +kernel
theorem dX12_writeNumber_5 : decode cX12_writeNumber 5 = .ok (.bipush 9, 2) := by decide +kernel
theorem dX12_writeNumber_7 : decode cX12_writeNumber 7 = .ok (.if_icmp .le 11, 3) := by decide +kernel
theorem dX12_writeNumber_10 : decode cX12_writeNumber 10 = .ok (.iload_n 2, 1) := by decide +kernel
theorem dX12_writeNumber_11 : decode cX12_writeNumber 11 = .ok (.bipush 10, 2) := by decide +kernel
theorem dX12_writeNumber_13 : decode cX12_writeNumber 13 = .ok (.imul, 1) := by decide +kernel
theorem dX12_writeNumber_14 : decode cX12_writeNumber 14 = .ok (.istore_n 2, 1) := by decide +kernel
theorem dX12_writeNumber_15 : decode cX12_writeNumber 15 = .ok (.goto (-13), 3) := by decide +kernel
theorem dX12_writeNumber_18 : decode cX12_writeNumber 18 = .ok (.iload_n 2, 1) := by decide +kernel
theorem dX12_writeNumber_19 : decode cX12_writeNumber 19 = .ok (.istore_n 3, 1) := by decide +kernel
theorem dX12_writeNumber_20 : decode cX12_writeNumber 20 = .ok (.iload_n 3, 1) := by decide +kernel
theorem dX12_writeNumber_21 : decode cX12_writeNumber 21 = .ok (.ifCond .le 24, 3) := by decide +kernel
theorem dX12_writeNumber_24 : decode cX12_writeNumber 24 = .ok (.aload_n 0, 1) := by decide +kernel
theorem dX12_writeNumber_25 : decode cX12_writeNumber 25 = .ok (.bipush 48, 2) := by decide +kernel
theorem dX12_writeNumber_27 : decode cX12_writeNumber 27 = .ok (.iload_n 1, 1) := by decide +kernel
theorem dX12_writeNumber_28 : decode cX12_writeNumber 28 = .ok (.iload_n 3, 1) := by decide +kernel
theorem dX12_writeNumber_29 : decode cX12_writeNumber 29 = .ok (.idiv, 1) := by decide +kernel
theorem dX12_writeNumber_30 : decode cX12_writeNumber 30 = .ok (.bipush 10, 2) := by decide +kernel
theorem dX12_writeNumber_32 : decode cX12_writeNumber 32 = .ok (.irem, 1) := by decide +kernel
theorem dX12_writeNumber_33 : decode cX12_writeNumber 33 = .ok (.iadd, 1) := by decide +kernel
theorem dX12_writeNumber_34 : decode cX12_writeNumber 34 = .ok (.invokevirtual 269, 3) := by decide +kernel
theorem dX12_writeNumber_37 : decode cX12_writeNumber 37 = .ok (.iload_n 3, 1) := by decide +kernel
theorem dX12_writeNumber_38 : decode cX12_writeNumber 38 = .ok (.bipush 10, 2) := by decide +kernel
theorem dX12_writeNumber_40 : decode cX12_writeNumber 40 = .ok (.idiv, 1) := by decide +kernel
theorem dX12_writeNumber_41 : decode cX12_writeNumber 41 = .ok (.istore_n 3, 1) := by decide +kernel
theorem dX12_writeNumber_42 : decode cX12_writeNumber 42 = .ok (.goto (-22), 3) := by decide +kernel
theorem dX12_writeNumber_45 : decode cX12_writeNumber 45 = .ok (.return_, 1) := by decide +kernel
theorem dX12_writeSheet_0 : decode cX12_writeSheet 0 = .ok (.aload_n 0, 1) := by decide +kernel
theorem dX12_writeSheet_1 : decode cX12_writeSheet 1 = .ok (.aload_n 0, 1) := by decide +kernel
theorem dX12_writeSheet_2 : decode cX12_writeSheet 2 = .ok (.iload_n 1, 1) := by decide +kernel
theorem dX12_writeSheet_3 : decode cX12_writeSheet 3 = .ok (.invokevirtual 111, 3) := by decide +kernel
theorem dX12_writeSheet_6 : decode cX12_writeSheet 6 = .ok (.invokevirtual 82, 3) := by decide +kernel
theorem dX12_writeSheet_9 : decode cX12_writeSheet 9 = .ok (.ifCond .eq 5, 3) := by decide +kernel
theorem dX12_writeSheet_12 : decode cX12_writeSheet 12 = .ok (.iconst 0, 1) := by decide +kernel
theorem dX12_writeSheet_13 : decode cX12_writeSheet 13 = .ok (.ireturn, 1) := by decide +kernel
theorem dX12_writeSheet_14 : decode cX12_writeSheet 14 = .ok (.aload_n 0, 1) := by decide +kernel
theorem dX12_writeSheet_15 : decode cX12_writeSheet 15 = .ok (.iconst 0, 1) := by decide +kernel
theorem dX12_writeSheet_16 : decode cX12_writeSheet 16 = .ok (.putfield 266, 3) := by decide +kernel
theorem dX12_writeSheet_19 : decode cX12_writeSheet 19 = .ok (.aload_n 0, 1) := by decide +kernel
theorem dX12_writeSheet_20 : decode cX12_writeSheet 20 = .ok (.iload_n 1, 1) := by decide +kernel
theorem dX12_writeSheet_21 : decode cX12_writeSheet 21 = .ok (.bipush 6, 2) := by decide +kernel
theorem dX12_writeSheet_23 : decode cX12_writeSheet 23 = .ok (.invokevirtual 93, 3) := by decide +kernel
theorem dX12_writeSheet_26 : decode cX12_writeSheet 26 = .ok (.iconst 1, 1) := by decide +kernel
theorem dX12_writeSheet_27 : decode cX12_writeSheet 27 = .ok (.isub, 1) := by decide +kernel
theorem dX12_writeSheet_28 : decode cX12_writeSheet 28 = .ok (.istore_n 2, 1) := by decide +kernel
theorem dX12_writeSheet_29 : decode cX12_writeSheet 29 = .ok (.iload_n 2, 1) := by decide +kernel
theorem dX12_writeSheet_30 : decode cX12_writeSheet 30 = .ok (.ifCond .lt 52, 3) := by decide +kernel
theorem dX12_writeSheet_33 : decode cX12_writeSheet 33 = .ok (.aload_n 0, 1) := by decide +kernel
theorem dX12_writeSheet_34 : decode cX12_writeSheet 34 = .ok (.aload_n 0, 1) := by decide +kernel
theorem dX12_writeSheet_35 : decode cX12_writeSheet 35 = .ok (.iload_n 1, 1) := by decide +kernel
theorem dX12_writeSheet_36 : decode cX12_writeSheet 36 = .ok (.iload_n 2, 1) := by decide +kernel
theorem dX12_writeSheet_37 : decode cX12_writeSheet 37 = .ok (.invokevirtual 97, 3) := by decide +kernel
theorem dX12_writeSheet_40 : decode cX12_writeSheet 40 = .ok (.ifCond .ge 8, 3) := by decide +kernel
theorem dX12_writeSheet_43 : decode cX12_writeSheet 43 = .ok (.bipush 66, 2) := by decide +kernel
theorem dX12_writeSheet_45 : decode cX12_writeSheet 45 = .ok (.goto 5, 3) := by decide +kernel
theorem dX12_writeSheet_48 : decode cX12_writeSheet 48 = .ok (.bipush 68, 2) := by decide +kernel
theorem dX12_writeSheet_50 : decode cX12_writeSheet 50 = .ok (.invokevirtual 269, 3) := by decide +kernel
theorem dX12_writeSheet_53 : decode cX12_writeSheet 53 = .ok (.aload_n 0, 1) := by decide +kernel
theorem dX12_writeSheet_54 : decode cX12_writeSheet 54 = .ok (.aload_n 0, 1) := by decide +kernel
theorem dX12_writeSheet_55 : decode cX12_writeSheet 55 = .ok (.iload_n 1, 1) := by decide +kernel
theorem dX12_writeSheet_56 : decode cX12_writeSheet 56 = .ok (.iload_n 2, 1) := by decide +kernel
theorem dX12_writeSheet_57 : decode cX12_writeSheet 57 = .ok (.invokevirtual 97, 3) := by decide +kernel
theorem dX12_writeSheet_60 : decode cX12_writeSheet 60 = .ok (.invokestatic 121, 3) := by decide +kernel
theorem dX12_writeSheet_63 : decode cX12_writeSheet 63 = .ok (.invokevirtual 272, 3) := by decide +kernel
theorem dX12_writeSheet_66 : decode cX12_writeSheet 66 = .ok (.iload_n 2, 1) := by decide +kernel
theorem dX12_writeSheet_67 : decode cX12_writeSheet 67 = .ok (.ifCond .le 9, 3) := by decide +kernel
theorem dX12_writeSheet_70 : decode cX12_writeSheet 70 = .ok (.aload_n 0, 1) := by decide +kernel
theorem dX12_writeSheet_71 : decode cX12_writeSheet 71 = .ok (.bipush 32, 2) := by decide +kernel
theorem dX12_writeSheet_73 : decode cX12_writeSheet 73 = .ok (.invokevirtual 269, 3) := by decide +kernel
theorem dX12_writeSheet_76 : decode cX12_writeSheet 76 = .ok (.iinc 2 (-1), 3) := by decide +kernel
theorem dX12_writeSheet_79 : decode cX12_writeSheet 79 = .ok (.goto (-50), 3) := by decide +kernel
theorem dX12_writeSheet_82 : decode cX12_writeSheet 82 = .ok (.aload_n 0, 1) := by decide +kernel
theorem dX12_writeSheet_83 : decode cX12_writeSheet 83 = .ok (.getfield 266, 3) := by decide +kernel
theorem dX12_writeSheet_86 : decode cX12_writeSheet 86 = .ok (.ireturn, 1) := by decide +kernel
theorem dX12_outputByte_0 : decode cX12_outputByte 0 = .ok (.aload_n 0, 1) := by decide +kernel
theorem dX12_outputByte_1 : decode cX12_outputByte 1 = .ok (.iload_n 1, 1) := by decide +kernel
theorem dX12_outputByte_2 : decode cX12_outputByte 2 = .ok (.iconst 0, 1) := by decide +kernel
theorem dX12_outputByte_3 : decode cX12_outputByte 3 = .ok (.aload_n 0, 1) := by decide +kernel
theorem dX12_outputByte_4 : decode cX12_outputByte 4 = .ok (.getfield 266, 3) := by decide +kernel
theorem dX12_outputByte_7 : decode cX12_outputByte 7 = .ok (.iconst 1, 1) := by decide +kernel
theorem dX12_outputByte_8 : decode cX12_outputByte 8 = .ok (.isub, 1) := by decide +kernel
theorem dX12_outputByte_9 : decode cX12_outputByte 9 = .ok (.invokestatic 107, 3) := by decide +kernel
theorem dX12_outputByte_12 : decode cX12_outputByte 12 = .ok (.invokevirtual 82, 3) := by decide +kernel
theorem dX12_outputByte_15 : decode cX12_outputByte 15 = .ok (.ifCond .eq 7, 3) := by decide +kernel
theorem dX12_outputByte_18 : decode cX12_outputByte 18 = .ok (.iconst 0, 1) := by decide +kernel
theorem dX12_outputByte_19 : decode cX12_outputByte 19 = .ok (.goto 9, 3) := by decide +kernel
theorem dX12_outputByte_22 : decode cX12_outputByte 22 = .ok (.aload_n 0, 1) := by decide +kernel
theorem dX12_outputByte_23 : decode cX12_outputByte 23 = .ok (.getfield 28, 3) := by decide +kernel
theorem dX12_outputByte_26 : decode cX12_outputByte 26 = .ok (.iload_n 1, 1) := by decide +kernel
theorem dX12_outputByte_27 : decode cX12_outputByte 27 = .ok (.iaload, 1) := by decide +kernel
theorem dX12_outputByte_28 : decode cX12_outputByte 28 = .ok (.ireturn, 1) := by decide +kernel
theorem dX12_undoableCount_0 : decode cX12_undoableCount 0 = .ok (.aload_n 0, 1) := by decide +kernel
theorem dX12_undoableCount_1 : decode cX12_undoableCount 1 = .ok (.iconst 0, 1) := by decide +kernel
theorem dX12_undoableCount_2 : decode cX12_undoableCount 2 = .ok (.putfield 79, 3) := by decide +kernel
theorem dX12_undoableCount_5 : decode cX12_undoableCount 5 = .ok (.aload_n 0, 1) := by decide +kernel
theorem dX12_undoableCount_6 : decode cX12_undoableCount 6 = .ok (.getfield 224, 3) := by decide +kernel
theorem dX12_undoableCount_9 : decode cX12_undoableCount 9 = .ok (.ireturn, 1) := by decide +kernel
theorem dX12_undo_0 : decode cX12_undo 0 = .ok (.aload_n 0, 1) := by decide +kernel
theorem dX12_undo_1 : decode cX12_undo 1 = .ok (.aload_n 0, 1) := by decide +kernel
theorem dX12_undo_2 : decode cX12_undo 2 = .ok (.getfield 224, 3) := by decide +kernel
theorem dX12_undo_5 : decode cX12_undo 5 = .ok (.ifCond .le 7, 3) := by decide +kernel
theorem dX12_undo_8 : decode cX12_undo 8 = .ok (.iconst 1, 1) := by decide +kernel
theorem dX12_undo_9 : decode cX12_undo 9 = .ok (.goto 4, 3) := by decide +kernel
theorem dX12_undo_12 : decode cX12_undo 12 = .ok (.iconst 0, 1) := by decide +kernel
theorem dX12_undo_13 : decode cX12_undo 13 = .ok (.invokevirtual 82, 3) := by decide +kernel
theorem dX12_undo_16 : decode cX12_undo 16 = .ok (.ifCond .eq 5, 3) := by decide +kernel
theorem dX12_undo_19 : decode cX12_undo 19 = .ok (.iconst 0, 1) := by decide +kernel
theorem dX12_undo_20 : decode cX12_undo 20 = .ok (.ireturn, 1) := by decide +kernel
theorem dX12_undo_21 : decode cX12_undo 21 = .ok (.aload_n 0, 1) := by decide +kernel
theorem dX12_undo_22 : decode cX12_undo 22 = .ok (.dup, 1) := by decide +kernel
theorem dX12_undo_23 : decode cX12_undo 23 = .ok (.getfield 224, 3) := by decide +kernel
theorem dX12_undo_26 : decode cX12_undo 26 = .ok (.iconst 1, 1) := by decide +kernel
theorem dX12_undo_27 : decode cX12_undo 27 = .ok (.isub, 1) := by decide +kernel
theorem dX12_undo_28 : decode cX12_undo 28 = .ok (.putfield 224, 3) := by decide +kernel
theorem dX12_undo_31 : decode cX12_undo 31 = .ok (.aload_n 0, 1) := by decide +kernel
theorem dX12_undo_32 : decode cX12_undo 32 = .ok (.getfield 22, 3) := by decide +kernel
theorem dX12_undo_35 : decode cX12_undo 35 = .ok (.aload_n 0, 1) := by decide +kernel
theorem dX12_undo_36 : decode cX12_undo 36 = .ok (.getfield 224, 3) := by decide +kernel
theorem dX12_undo_39 : decode cX12_undo 39 = .ok (.aload_n 0, 1) := by decide +kernel
theorem dX12_undo_40 : decode cX12_undo 40 = .ok (.getfield 9, 3) := by decide +kernel
theorem dX12_undo_43 : decode cX12_undo 43 = .ok (.iconst 0, 1) := by decide +kernel
theorem dX12_undo_44 : decode cX12_undo 44 = .ok (.invokestatic 220, 3) := by decide +kernel
theorem dX12_undo_47 : decode cX12_undo 47 = .ok (.aload_n 0, 1) := by decide +kernel
theorem dX12_undo_48 : decode cX12_undo 48 = .ok (.getfield 224, 3) := by decide +kernel
theorem dX12_undo_51 : decode cX12_undo 51 = .ok (.ireturn, 1) := by decide +kernel
theorem dX12_saveSnapshot_0 : decode cX12_saveSnapshot 0 = .ok (.aload_n 0, 1) := by decide +kernel
theorem dX12_saveSnapshot_1 : decode cX12_saveSnapshot 1 = .ok (.iconst 0, 1) := by decide +kernel
theorem dX12_saveSnapshot_2 : decode cX12_saveSnapshot 2 = .ok (.putfield 79, 3) := by decide +kernel
theorem dX12_saveSnapshot_5 : decode cX12_saveSnapshot 5 = .ok (.aload_n 0, 1) := by decide +kernel
theorem dX12_saveSnapshot_6 : decode cX12_saveSnapshot 6 = .ok (.getfield 9, 3) := by decide +kernel
theorem dX12_saveSnapshot_9 : decode cX12_saveSnapshot 9 = .ok (.iconst 0, 1) := by decide +kernel
theorem dX12_saveSnapshot_10 : decode cX12_saveSnapshot 10 = .ok (.aload_n 0, 1) := by decide +kernel
theorem dX12_saveSnapshot_11 : decode cX12_saveSnapshot 11 = .ok (.getfield 19, 3) := by decide +kernel
theorem dX12_saveSnapshot_14 : decode cX12_saveSnapshot 14 = .ok (.iconst 0, 1) := by decide +kernel
theorem dX12_saveSnapshot_15 : decode cX12_saveSnapshot 15 = .ok (.invokestatic 220, 3) := by decide +kernel
theorem dX12_saveSnapshot_18 : decode cX12_saveSnapshot 18 = .ok (.aload_n 0, 1) := by decide +kernel
theorem dX12_saveSnapshot_19 : decode cX12_saveSnapshot 19 = .ok (.iconst 1, 1) := by decide +kernel
theorem dX12_saveSnapshot_20 : decode cX12_saveSnapshot 20 = .ok (.putfield 275, 3) := by decide +kernel
theorem dX12_saveSnapshot_23 : decode cX12_saveSnapshot 23 = .ok (.return_, 1) := by decide +kernel
theorem dX12_restoreSnapshot_0 : decode cX12_restoreSnapshot 0 = .ok (.aload_n 0, 1) := by decide +kernel
theorem dX12_restoreSnapshot_1 : decode cX12_restoreSnapshot 1 = .ok (.aload_n 0, 1) := by decide +kernel
theorem dX12_restoreSnapshot_2 : decode cX12_restoreSnapshot 2 = .ok (.getfield 275, 3) := by decide +kernel
theorem dX12_restoreSnapshot_5 : decode cX12_restoreSnapshot 5 = .ok (.invokevirtual 82, 3) := by decide +kernel
theorem dX12_restoreSnapshot_8 : decode cX12_restoreSnapshot 8 = .ok (.ifCond .eq 5, 3) := by decide +kernel
theorem dX12_restoreSnapshot_11 : decode cX12_restoreSnapshot 11 = .ok (.iconst 0, 1) := by decide +kernel
theorem dX12_restoreSnapshot_12 : decode cX12_restoreSnapshot 12 = .ok (.ireturn, 1) := by decide +kernel
theorem dX12_restoreSnapshot_13 : decode cX12_restoreSnapshot 13 = .ok (.aload_n 0, 1) := by decide +kernel
theorem dX12_restoreSnapshot_14 : decode cX12_restoreSnapshot 14 = .ok (.getfield 19, 3) := by decide +kernel
theorem dX12_restoreSnapshot_17 : decode cX12_restoreSnapshot 17 = .ok (.iconst 0, 1) := by decide +kernel
theorem dX12_restoreSnapshot_18 : decode cX12_restoreSnapshot 18 = .ok (.aload_n 0, 1) := by decide +kernel
theorem dX12_restoreSnapshot_19 : decode cX12_restoreSnapshot 19 = .ok (.getfield 9, 3) := by decide +kernel
theorem dX12_restoreSnapshot_22 : decode cX12_restoreSnapshot 22 = .ok (.iconst 0, 1) := by decide +kernel
theorem dX12_restoreSnapshot_23 : decode cX12_restoreSnapshot 23 = .ok (.invokestatic 220, 3) := by decide +kernel
theorem dX12_restoreSnapshot_26 : decode cX12_restoreSnapshot 26 = .ok (.aload_n 0, 1) := by decide +kernel
theorem dX12_restoreSnapshot_27 : decode cX12_restoreSnapshot 27 = .ok (.iconst 0, 1) := by decide +kernel
theorem dX12_restoreSnapshot_28 : decode cX12_restoreSnapshot 28 = .ok (.putfield 224, 3) := by decide +kernel
theorem dX12_restoreSnapshot_31 : decode cX12_restoreSnapshot 31 = .ok (.aload_n 0, 1) := by decide +kernel
theorem dX12_restoreSnapshot_32 : decode cX12_restoreSnapshot 32 = .ok (.getfield 25, 3) := by decide +kernel
theorem dX12_restoreSnapshot_35 : decode cX12_restoreSnapshot 35 = .ok (.iconst 3, 1) := by decide +kernel
theorem dX12_restoreSnapshot_36 : decode cX12_restoreSnapshot 36 = .ok (.iaload, 1) := by decide +kernel
theorem dX12_restoreSnapshot_37 : decode cX12_restoreSnapshot 37 = .ok (.ireturn, 1) := by decide +kernel
theorem dX12_appendText_0 : decode cX12_appendText 0 = .ok (.aload_n 0, 1) := by decide +kernel
theorem dX12_appendText_1 : decode cX12_appendText 1 = .ok (.iconst 0, 1) := by decide +kernel
theorem dX12_appendText_2 : decode cX12_appendText 2 = .ok (.putfield 79, 3) := by decide +kernel
theorem dX12_appendText_5 : decode cX12_appendText 5 = .ok (.aload_n 0, 1) := by decide +kernel
theorem dX12_appendText_6 : decode cX12_appendText 6 = .ok (.getfield 279, 3) := by decide +kernel
theorem dX12_appendText_9 : decode cX12_appendText 9 = .ok (.bipush 20, 2) := by decide +kernel
theorem dX12_appendText_11 : decode cX12_appendText 11 = .ok (.iadd, 1) := by decide +kernel
theorem dX12_appendText_12 : decode cX12_appendText 12 = .ok (.sipush 500, 3) := by decide +kernel
theorem dX12_appendText_15 : decode cX12_appendText 15 = .ok (.if_icmp .le 5, 3) := by decide +kernel
theorem dX12_appendText_18 : decode cX12_appendText 18 = .ok (.iconst (-1), 1) := by decide +kernel
theorem dX12_appendText_19 : decode cX12_appendText 19 = .ok (.ireturn, 1) := by decide +kernel
theorem dX12_appendText_20 : decode cX12_appendText 20 = .ok (.iconst 0, 1) := by decide +kernel
theorem dX12_appendText_21 : decode cX12_appendText 21 = .ok (.istore 6, 2) := by decide +kernel
theorem dX12_appendText_23 : decode cX12_appendText 23 = .ok (.iload 6, 2) := by decide +kernel
theorem dX12_appendText_25 : decode cX12_appendText 25 = .ok (.bipush 20, 2) := by decide +kernel
theorem dX12_appendText_27 : decode cX12_appendText 27 = .ok (.if_icmp .ge 93, 3) := by decide +kernel
theorem dX12_appendText_30 : decode cX12_appendText 30 = .ok (.iload 6, 2) := by decide +kernel
theorem dX12_appendText_32 : decode cX12_appendText 32 = .ok (.iconst 4, 1) := by decide +kernel
theorem dX12_appendText_33 : decode cX12_appendText 33 = .ok (.if_icmp .ge 7, 3) := by decide +kernel
theorem dX12_appendText_36 : decode cX12_appendText 36 = .ok (.iload_n 1, 1) := by decide +kernel
theorem dX12_appendText_37 : decode cX12_appendText 37 = .ok (.goto 39, 3) := by decide +kernel
theorem dX12_appendText_40 : decode cX12_appendText 40 = .ok (.iload 6, 2) := by decide +kernel
theorem dX12_appendText_42 : decode cX12_appendText 42 = .ok (.bipush 8, 2) := by decide +kernel
theorem dX12_appendText_44 : decode cX12_appendText 44 = .ok (.if_icmp .ge 7, 3) := by decide +kernel
theorem dX12_appendText_47 : decode cX12_appendText 47 = .ok (.iload_n 2, 1) := by decide +kernel
theorem dX12_appendText_48 : decode cX12_appendText 48 = .ok (.goto 28, 3) := by decide +kernel
theorem dX12_appendText_51 : decode cX12_appendText 51 = .ok (.iload 6, 2) := by decide +kernel
theorem dX12_appendText_53 : decode cX12_appendText 53 = .ok (.bipush 12, 2) := by decide +kernel
theorem dX12_appendText_55 : decode cX12_appendText 55 = .ok (.if_icmp .ge 7, 3) := by decide +kernel
theorem dX12_appendText_58 : decode cX12_appendText 58 = .ok (.iload_n 3, 1) := by decide +kernel
theorem dX12_appendText_59 : decode cX12_appendText 59 = .ok (.goto 17, 3) := by decide +kernel
theorem dX12_appendText_62 : decode cX12_appendText 62 = .ok (.iload 6, 2) := by decide +kernel
theorem dX12_appendText_64 : decode cX12_appendText 64 = .ok (.bipush 16, 2) := by decide +kernel
theorem dX12_appendText_66 : decode cX12_appendText 66 = .ok (.if_icmp .ge 8, 3) := by decide +kernel
theorem dX12_appendText_69 : decode cX12_appendText 69 = .ok (.iload 4, 2) := by decide +kernel
theorem dX12_appendText_71 : decode cX12_appendText 71 = .ok (.goto 5, 3) := by decide +kernel
theorem dX12_appendText_74 : decode cX12_appendText 74 = .ok (.iload 5, 2) := by decide +kernel
theorem dX12_appendText_76 : decode cX12_appendText 76 = .ok (.istore 7, 2) := by decide +kernel
theorem dX12_appendText_78 : decode cX12_appendText 78 = .ok (.aload_n 0, 1) := by decide +kernel
theorem dX12_appendText_79 : decode cX12_appendText 79 = .ok (.getfield 31, 3) := by decide +kernel
theorem dX12_appendText_82 : decode cX12_appendText 82 = .ok (.aload_n 0, 1) := by decide +kernel
theorem dX12_appendText_83 : decode cX12_appendText 83 = .ok (.getfield 279, 3) := by decide +kernel
theorem dX12_appendText_86 : decode cX12_appendText 86 = .ok (.iload 7, 2) := by decide +kernel
theorem dX12_appendText_88 : decode cX12_appendText 88 = .ok (.bipush 24, 2) := by decide +kernel
theorem dX12_appendText_90 : decode cX12_appendText 90 = .ok (.bipush 8, 2) := by decide +kernel
theorem dX12_appendText_92 : decode cX12_appendText 92 = .ok (.iload 6, 2) := by decide +kernel
theorem dX12_appendText_94 : decode cX12_appendText 94 = .ok (.iconst 4, 1) := by decide +kernel
theorem dX12_appendText_95 : decode cX12_appendText 95 = .ok (.irem, 1) := by decide +kernel
theorem dX12_appendText_96 : decode cX12_appendText 96 = .ok (.imul, 1) := by decide +kernel
theorem dX12_appendText_97 : decode cX12_appendText 97 = .ok (.isub, 1) := by decide +kernel
theorem dX12_appendText_98 : decode cX12_appendText 98 = .ok (.ishr, 1) := by decide +kernel
theorem dX12_appendText_99 : decode cX12_appendText 99 = .ok (.sipush 255, 3) := by decide +kernel
theorem dX12_appendText_102 : decode cX12_appendText 102 = .ok (.iand, 1) := by decide +kernel
theorem dX12_appendText_103 : decode cX12_appendText 103 = .ok (.iastore, 1) := by decide +kernel
theorem dX12_appendText_104 : decode cX12_appendText 104 = .ok (.aload_n 0, 1) := by decide +kernel
theorem dX12_appendText_105 : decode cX12_appendText 105 = .ok (.dup, 1) := by decide +kernel
theorem dX12_appendText_106 : decode cX12_appendText 106 = .ok (.getfield 279, 3) := by decide +kernel
theorem dX12_appendText_109 : decode cX12_appendText 109 = .ok (.iconst 1, 1) := by decide +kernel
theorem dX12_appendText_110 : decode cX12_appendText 110 = .ok (.iadd, 1) := by decide +kernel
theorem dX12_appendText_111 : decode cX12_appendText 111 = .ok (.putfield 279, 3) := by decide +kernel
theorem dX12_appendText_114 : decode cX12_appendText 114 = .ok (.iinc 6 1, 3) := by decide +kernel
theorem dX12_appendText_117 : decode cX12_appendText 117 = .ok (.goto (-94), 3) := by decide +kernel
theorem dX12_appendText_120 : decode cX12_appendText 120 = .ok (.aload_n 0, 1) := by decide +kernel
theorem dX12_appendText_121 : decode cX12_appendText 121 = .ok (.getfield 279, 3) := by decide +kernel
theorem dX12_appendText_124 : decode cX12_appendText 124 = .ok (.ireturn, 1) := by decide +kernel
theorem dX12_errorOffset_0 : decode cX12_errorOffset 0 = .ok (.aload_n 0, 1) := by decide +kernel
theorem dX12_errorOffset_1 : decode cX12_errorOffset 1 = .ok (.iconst 0, 1) := by decide +kernel
theorem dX12_errorOffset_2 : decode cX12_errorOffset 2 = .ok (.putfield 79, 3) := by decide +kernel
theorem dX12_errorOffset_5 : decode cX12_errorOffset 5 = .ok (.aload_n 0, 1) := by decide +kernel
theorem dX12_errorOffset_6 : decode cX12_errorOffset 6 = .ok (.getfield 34, 3) := by decide +kernel
theorem dX12_errorOffset_9 : decode cX12_errorOffset 9 = .ok (.ireturn, 1) := by decide +kernel
theorem dX12_byteAt_0 : decode cX12_byteAt 0 = .ok (.iload_n 1, 1) := by decide +kernel
theorem dX12_byteAt_1 : decode cX12_byteAt 1 = .ok (.aload_n 0, 1) := by decide +kernel
theorem dX12_byteAt_2 : decode cX12_byteAt 2 = .ok (.getfield 282, 3) := by decide +kernel
theorem dX12_byteAt_5 : decode cX12_byteAt 5 = .ok (.if_icmp .ge 12, 3) := by decide +kernel
theorem dX12_byteAt_8 : decode cX12_byteAt 8 = .ok (.aload_n 0, 1) := by decide +kernel
theorem dX12_byteAt_9 : decode cX12_byteAt 9 = .ok (.getfield 31, 3) := by decide +kernel
theorem dX12_byteAt_12 : decode cX12_byteAt 12 = .ok (.iload_n 1, 1) := by decide +kernel
theorem dX12_byteAt_13 : decode cX12_byteAt 13 = .ok (.iaload, 1) := by decide +kernel
theorem dX12_byteAt_14 : decode cX12_byteAt 14 = .ok (.goto 4, 3) := by decide +kernel
theorem dX12_byteAt_17 : decode cX12_byteAt 17 = .ok (.iconst (-1), 1) := by decide +kernel
theorem dX12_byteAt_18 : decode cX12_byteAt 18 = .ok (.ireturn, 1) := by decide +kernel
theorem dX12_isLetter_0 : decode cX12_isLetter 0 = .ok (.aload_n 0, 1) := by decide +kernel
theorem dX12_isLetter_1 : decode cX12_isLetter 1 = .ok (.iload_n 1, 1) := by decide +kernel
theorem dX12_isLetter_2 : decode cX12_isLetter 2 = .ok (.invokevirtual 285, 3) := by decide +kernel
theorem dX12_isLetter_5 : decode cX12_isLetter 5 = .ok (.bipush 97, 2) := by decide +kernel
theorem dX12_isLetter_7 : decode cX12_isLetter 7 = .ok (.if_icmp .lt 17, 3) := by decide +kernel
theorem dX12_isLetter_10 : decode cX12_isLetter 10 = .ok (.aload_n 0, 1) := by decide +kernel
theorem dX12_isLetter_11 : decode cX12_isLetter 11 = .ok (.iload_n 1, 1) := by decide +kernel
theorem dX12_isLetter_12 : decode cX12_isLetter 12 = .ok (.invokevirtual 285, 3) := by decide +kernel
theorem dX12_isLetter_15 : decode cX12_isLetter 15 = .ok (.bipush 122, 2) := by decide +kernel
theorem dX12_isLetter_17 : decode cX12_isLetter 17 = .ok (.if_icmp .gt 7, 3) := by decide +kernel
theorem dX12_isLetter_20 : decode cX12_isLetter 20 = .ok (.iconst 1, 1) := by decide +kernel
theorem dX12_isLetter_21 : decode cX12_isLetter 21 = .ok (.goto 4, 3) := by decide +kernel
theorem dX12_isLetter_24 : decode cX12_isLetter 24 = .ok (.iconst 0, 1) := by decide +kernel
theorem dX12_isLetter_25 : decode cX12_isLetter 25 = .ok (.ireturn, 1) := by decide +kernel
theorem dX12_isDigit_0 : decode cX12_isDigit 0 = .ok (.aload_n 0, 1) := by decide +kernel
theorem dX12_isDigit_1 : decode cX12_isDigit 1 = .ok (.iload_n 1, 1) := by decide +kernel
theorem dX12_isDigit_2 : decode cX12_isDigit 2 = .ok (.invokevirtual 285, 3) := by decide +kernel
theorem dX12_isDigit_5 : decode cX12_isDigit 5 = .ok (.bipush 48, 2) := by decide +kernel
theorem dX12_isDigit_7 : decode cX12_isDigit 7 = .ok (.if_icmp .lt 17, 3) := by decide +kernel
theorem dX12_isDigit_10 : decode cX12_isDigit 10 = .ok (.aload_n 0, 1) := by decide +kernel
theorem dX12_isDigit_11 : decode cX12_isDigit 11 = .ok (.iload_n 1, 1) := by decide +kernel
theorem dX12_isDigit_12 : decode cX12_isDigit 12 = .ok (.invokevirtual 285, 3) := by decide +kernel
theorem dX12_isDigit_15 : decode cX12_isDigit 15 = .ok (.bipush 57, 2) := by decide +kernel
theorem dX12_isDigit_17 : decode cX12_isDigit 17 = .ok (.if_icmp .gt 7, 3) := by decide +kernel
theorem dX12_isDigit_20 : decode cX12_isDigit 20 = .ok (.iconst 1, 1) := by decide +kernel
theorem dX12_isDigit_21 : decode cX12_isDigit 21 = .ok (.goto 4, 3) := by decide +kernel
theorem dX12_isDigit_24 : decode cX12_isDigit 24 = .ok (.iconst 0, 1) := by decide +kernel
theorem dX12_isDigit_25 : decode cX12_isDigit 25 = .ok (.ireturn, 1) := by decide +kernel
theorem dX12_scan_0 : decode cX12_scan 0 = .ok (.aload_n 0, 1) := by decide +kernel
theorem dX12_scan_1 : decode cX12_scan 1 = .ok (.aload_n 0, 1) := by decide +kernel
theorem dX12_scan_2 : decode cX12_scan 2 = .ok (.getfield 288, 3) := by decide +kernel
theorem dX12_scan_5 : decode cX12_scan 5 = .ok (.invokevirtual 285, 3) := by decide +kernel
theorem dX12_scan_8 : decode cX12_scan 8 = .ok (.bipush 32, 2) := by decide +kernel
theorem dX12_scan_10 : decode cX12_scan 10 = .ok (.if_icmp .eq 16, 3) := by decide +kernel
theorem dX12_scan_13 : decode cX12_scan 13 = .ok (.aload_n 0, 1) := by decide +kernel
theorem dX12_scan_14 : decode cX12_scan 14 = .ok (.aload_n 0, 1) := by decide +kernel
theorem dX12_scan_15 : decode cX12_scan 15 = .ok (.getfield 288, 3) := by decide +kernel
theorem dX12_scan_18 : decode cX12_scan 18 = .ok (.invokevirtual 285, 3) := by decide +kernel
theorem dX12_scan_21 : decode cX12_scan 21 = .ok (.bipush 10, 2) := by decide +kernel
theorem dX12_scan_23 : decode cX12_scan 23 = .ok (.if_icmp .ne 16, 3) := by decide +kernel
theorem dX12_scan_26 : decode cX12_scan 26 = .ok (.aload_n 0, 1) := by decide +kernel
theorem dX12_scan_27 : decode cX12_scan 27 = .ok (.dup, 1) := by decide +kernel
theorem dX12_scan_28 : decode cX12_scan 28 = .ok (.getfield 288, 3) := by decide +kernel
theorem dX12_scan_31 : decode cX12_scan 31 = .ok (.iconst 1, 1) := by decide +kernel
theorem dX12_scan_32 : decode cX12_scan 32 = .ok (.iadd, 1) := by decide +kernel
theorem dX12_scan_33 : decode cX12_scan 33 = .ok (.putfield 288, 3) := by decide +kernel
theorem dX12_scan_36 : decode cX12_scan 36 = .ok (.goto (-36), 3) := by decide +kernel
theorem dX12_scan_39 : decode cX12_scan 39 = .ok (.aload_n 0, 1) := by decide +kernel
theorem dX12_scan_40 : decode cX12_scan 40 = .ok (.aload_n 0, 1) := by decide +kernel
theorem dX12_scan_41 : decode cX12_scan 41 = .ok (.getfield 288, 3) := by decide +kernel
theorem dX12_scan_44 : decode cX12_scan 44 = .ok (.putfield 291, 3) := by decide +kernel
theorem dX12_scan_47 : decode cX12_scan 47 = .ok (.aload_n 0, 1) := by decide +kernel
theorem dX12_scan_48 : decode cX12_scan 48 = .ok (.getfield 288, 3) := by decide +kernel
theorem dX12_scan_51 : decode cX12_scan 51 = .ok (.aload_n 0, 1) := by decide +kernel
theorem dX12_scan_52 : decode cX12_scan 52 = .ok (.getfield 282, 3) := by decide +kernel
theorem dX12_scan_55 : decode cX12_scan 55 = .ok (.if_icmp .lt 11, 3) := by decide +kernel
theorem dX12_scan_58 : decode cX12_scan 58 = .ok (.aload_n 0, 1) := by decide +kernel
theorem dX12_scan_59 : decode cX12_scan 59 = .ok (.iconst 0, 1) := by decide +kernel
theorem dX12_scan_60 : decode cX12_scan 60 = .ok (.putfield 294, 3) := by decide +kernel
theorem dX12_scan_63 : decode cX12_scan 63 = .ok (.goto 104, 3) := by decide +kernel
theorem dX12_scan_66 : decode cX12_scan 66 = .ok (.aload_n 0, 1) := by decide +kernel
theorem dX12_scan_67 : decode cX12_scan 67 = .ok (.aload_n 0, 1) := by decide +kernel
theorem dX12_scan_68 : decode cX12_scan 68 = .ok (.getfield 288, 3) := by decide +kernel
theorem dX12_scan_71 : decode cX12_scan 71 = .ok (.invokevirtual 297, 3) := by decide +kernel
theorem dX12_scan_74 : decode cX12_scan 74 = .ok (.ifCond .eq 35, 3) := by decide +kernel
theorem dX12_scan_77 : decode cX12_scan 77 = .ok (.aload_n 0, 1) := by decide +kernel
theorem dX12_scan_78 : decode cX12_scan 78 = .ok (.aload_n 0, 1) := by decide +kernel
theorem dX12_scan_79 : decode cX12_scan 79 = .ok (.getfield 288, 3) := by decide +kernel
theorem dX12_scan_82 : decode cX12_scan 82 = .ok (.invokevirtual 297, 3) := by decide +kernel
theorem dX12_scan_85 : decode cX12_scan 85 = .ok (.ifCond .eq 16, 3) := by decide +kernel
theorem dX12_scan_88 : decode cX12_scan 88 = .ok (.aload_n 0, 1) := by decide +kernel
theorem dX12_scan_89 : decode cX12_scan 89 = .ok (.dup, 1) := by decide +kernel
theorem dX12_scan_90 : decode cX12_scan 90 = .ok (.getfield 288, 3) := by decide +kernel
theorem dX12_scan_93 : decode cX12_scan 93 = .ok (.iconst 1, 1) := by decide +kernel
theorem dX12_scan_94 : decode cX12_scan 94 = .ok (.iadd, 1) := by decide +kernel
theorem dX12_scan_95 : decode cX12_scan 95 = .ok (.putfield 288, 3) := by decide +kernel
theorem dX12_scan_98 : decode cX12_scan 98 = .ok (.goto (-21), 3) := by decide +kernel
theorem dX12_scan_101 : decode cX12_scan 101 = .ok (.aload_n 0, 1) := by decide +kernel
theorem dX12_scan_102 : decode cX12_scan 102 = .ok (.iconst 1, 1) := by decide +kernel
theorem dX12_scan_103 : decode cX12_scan 103 = .ok (.putfield 294, 3) := by decide +kernel
theorem dX12_scan_106 : decode cX12_scan 106 = .ok (.goto 61, 3) := by decide +kernel
theorem dX12_scan_109 : decode cX12_scan 109 = .ok (.aload_n 0, 1) := by decide +kernel
theorem dX12_scan_110 : decode cX12_scan 110 = .ok (.aload_n 0, 1) := by decide +kernel
theorem dX12_scan_111 : decode cX12_scan 111 = .ok (.getfield 288, 3) := by decide +kernel
theorem dX12_scan_114 : decode cX12_scan 114 = .ok (.invokevirtual 300, 3) := by decide +kernel
theorem dX12_scan_117 : decode cX12_scan 117 = .ok (.ifCond .eq 35, 3) := by decide +kernel
theorem dX12_scan_120 : decode cX12_scan 120 = .ok (.aload_n 0, 1) := by decide +kernel
theorem dX12_scan_121 : decode cX12_scan 121 = .ok (.aload_n 0, 1) := by decide +kernel
theorem dX12_scan_122 : decode cX12_scan 122 = .ok (.getfield 288, 3) := by decide +kernel
theorem dX12_scan_125 : decode cX12_scan 125 = .ok (.invokevirtual 300, 3) := by decide +kernel
theorem dX12_scan_128 : decode cX12_scan 128 = .ok (.ifCond .eq 16, 3) := by decide +kernel
theorem dX12_scan_131 : decode cX12_scan 131 = .ok (.aload_n 0, 1) := by decide +kernel
theorem dX12_scan_132 : decode cX12_scan 132 = .ok (.dup, 1) := by decide +kernel
theorem dX12_scan_133 : decode cX12_scan 133 = .ok (.getfield 288, 3) := by decide +kernel
theorem dX12_scan_136 : decode cX12_scan 136 = .ok (.iconst 1, 1) := by decide +kernel
theorem dX12_scan_137 : decode cX12_scan 137 = .ok (.iadd, 1) := by decide +kernel
theorem dX12_scan_138 : decode cX12_scan 138 = .ok (.putfield 288, 3) := by decide +kernel
theorem dX12_scan_141 : decode cX12_scan 141 = .ok (.goto (-21), 3) := by decide +kernel
theorem dX12_scan_144 : decode cX12_scan 144 = .ok (.aload_n 0, 1) := by decide +kernel
theorem dX12_scan_145 : decode cX12_scan 145 = .ok (.iconst 2, 1) := by decide +kernel
theorem dX12_scan_146 : decode cX12_scan 146 = .ok (.putfield 294, 3) := by decide +kernel
theorem dX12_scan_149 : decode cX12_scan 149 = .ok (.goto 18, 3) := by decide +kernel
theorem dX12_scan_152 : decode cX12_scan 152 = .ok (.aload_n 0, 1) := by decide +kernel
theorem dX12_scan_153 : decode cX12_scan 153 = .ok (.dup, 1) := by decide +kernel
theorem dX12_scan_154 : decode cX12_scan 154 = .ok (.getfield 288, 3) := by decide +kernel
theorem dX12_scan_157 : decode cX12_scan 157 = .ok (.iconst 1, 1) := by decide +kernel
theorem dX12_scan_158 : decode cX12_scan 158 = .ok (.iadd, 1) := by decide +kernel
theorem dX12_scan_159 : decode cX12_scan 159 = .ok (.putfield 288, 3) := by decide +kernel
theorem dX12_scan_162 : decode cX12_scan 162 = .ok (.aload_n 0, 1) := by decide +kernel
theorem dX12_scan_163 : decode cX12_scan 163 = .ok (.iconst 3, 1) := by decide +kernel
theorem dX12_scan_164 : decode cX12_scan 164 = .ok (.putfield 294, 3) := by decide +kernel
theorem dX12_scan_167 : decode cX12_scan 167 = .ok (.return_, 1) := by decide +kernel
theorem dX12_startText_0 : decode cX12_startText 0 = .ok (.aload_n 0, 1) := by decide +kernel
theorem dX12_startText_1 : decode cX12_startText 1 = .ok (.iload_n 1, 1) := by decide +kernel
theorem dX12_startText_2 : decode cX12_startText 2 = .ok (.putfield 282, 3) := by decide +kernel
theorem dX12_startText_5 : decode cX12_startText 5 = .ok (.aload_n 0, 1) := by decide +kernel
theorem dX12_startText_6 : decode cX12_startText 6 = .ok (.iconst 0, 1) := by decide +kernel
theorem dX12_startText_7 : decode cX12_startText 7 = .ok (.putfield 288, 3) := by decide +kernel
theorem dX12_startText_10 : decode cX12_startText 10 = .ok (.aload_n 0, 1) := by decide +kernel
theorem dX12_startText_11 : decode cX12_startText 11 = .ok (.iconst 0, 1) := by decide +kernel
theorem dX12_startText_12 : decode cX12_startText 12 = .ok (.putfield 303, 3) := by decide +kernel
theorem dX12_startText_15 : decode cX12_startText 15 = .ok (.aload_n 0, 1) := by decide +kernel
theorem dX12_startText_16 : decode cX12_startText 16 = .ok (.iconst 0, 1) := by decide +kernel
theorem dX12_startText_17 : decode cX12_startText 17 = .ok (.putfield 306, 3) := by decide +kernel
theorem dX12_startText_20 : decode cX12_startText 20 = .ok (.aload_n 0, 1) := by decide +kernel
theorem dX12_startText_21 : decode cX12_startText 21 = .ok (.invokevirtual 309, 3) := by decide +kernel
theorem dX12_startText_24 : decode cX12_startText 24 = .ok (.return_, 1) := by decide +kernel
theorem dX12_finish_0 : decode cX12_finish 0 = .ok (.aload_n 0, 1) := by decide +kernel
theorem dX12_finish_1 : decode cX12_finish 1 = .ok (.iconst 0, 1) := by decide +kernel
theorem dX12_finish_2 : decode cX12_finish 2 = .ok (.putfield 279, 3) := by decide +kernel
theorem dX12_finish_5 : decode cX12_finish 5 = .ok (.aload_n 0, 1) := by decide +kernel
theorem dX12_finish_6 : decode cX12_finish 6 = .ok (.aload_n 0, 1) := by decide +kernel
theorem dX12_finish_7 : decode cX12_finish 7 = .ok (.getfield 303, 3) := by decide +kernel
theorem dX12_finish_10 : decode cX12_finish 10 = .ok (.ifCond .ne 7, 3) := by decide +kernel
theorem dX12_finish_13 : decode cX12_finish 13 = .ok (.iconst (-1), 1) := by decide +kernel
theorem dX12_finish_14 : decode cX12_finish 14 = .ok (.goto 7, 3) := by decide +kernel
theorem dX12_finish_17 : decode cX12_finish 17 = .ok (.aload_n 0, 1) := by decide +kernel
theorem dX12_finish_18 : decode cX12_finish 18 = .ok (.getfield 312, 3) := by decide +kernel
theorem dX12_finish_21 : decode cX12_finish 21 = .ok (.putfield 34, 3) := by decide +kernel
theorem dX12_finish_24 : decode cX12_finish 24 = .ok (.aload_n 0, 1) := by decide +kernel
theorem dX12_finish_25 : decode cX12_finish 25 = .ok (.getfield 303, 3) := by decide +kernel
theorem dX12_finish_28 : decode cX12_finish 28 = .ok (.ireturn, 1) := by decide +kernel
theorem dX12_check_0 : decode cX12_check 0 = .ok (.iload_n 1, 1) := by decide +kernel
theorem dX12_check_1 : decode cX12_check 1 = .ok (.ifCond .ne 23, 3) := by decide +kernel
theorem dX12_check_4 : decode cX12_check 4 = .ok (.aload_n 0, 1) := by decide +kernel
theorem dX12_check_5 : decode cX12_check 5 = .ok (.getfield 303, 3) := by decide +kernel
theorem dX12_check_8 : decode cX12_check 8 = .ok (.ifCond .ne 16, 3) := by decide +kernel
theorem dX12_check_11 : decode cX12_check 11 = .ok (.aload_n 0, 1) := by decide +kernel
theorem dX12_check_12 : decode cX12_check 12 = .ok (.iload_n 2, 1) := by decide +kernel
theorem dX12_check_13 : decode cX12_check 13 = .ok (.putfield 303, 3) := by decide +kernel
theorem dX12_check_16 : decode cX12_check 16 = .ok (.aload_n 0, 1) := by decide +kernel
theorem dX12_check_17 : decode cX12_check 17 = .ok (.aload_n 0, 1) := by decide +kernel
theorem dX12_check_18 : decode cX12_check 18 = .ok (.getfield 291, 3) := by decide +kernel
theorem dX12_check_21 : decode cX12_check 21 = .ok (.putfield 312, 3) := by decide +kernel
theorem dX12_check_24 : decode cX12_check 24 = .ok (.return_, 1) := by decide +kernel
theorem dX12_advance_0 : decode cX12_advance 0 = .ok (.aload_n 0, 1) := by decide +kernel
theorem dX12_advance_1 : decode cX12_advance 1 = .ok (.getfield 303, 3) := by decide +kernel
theorem dX12_advance_4 : decode cX12_advance 4 = .ok (.ifCond .ne 7, 3) := by decide +kernel
theorem dX12_advance_7 : decode cX12_advance 7 = .ok (.aload_n 0, 1) := by decide +kernel
theorem dX12_advance_8 : decode cX12_advance 8 = .ok (.invokevirtual 309, 3) := by decide +kernel
theorem dX12_advance_11 : decode cX12_advance 11 = .ok (.return_, 1) := by decide +kernel
theorem dX12_isSymbol_0 : decode cX12_isSymbol 0 = .ok (.aload_n 0, 1) := by decide +kernel
theorem dX12_isSymbol_1 : decode cX12_isSymbol 1 = .ok (.getfield 303, 3) := by decide +kernel
theorem dX12_isSymbol_4 : decode cX12_isSymbol 4 = .ok (.ifCond .ne 28, 3) := by decide +kernel
theorem dX12_isSymbol_7 : decode cX12_isSymbol 7 = .ok (.aload_n 0, 1) := by decide +kernel
theorem dX12_isSymbol_8 : decode cX12_isSymbol 8 = .ok (.getfield 294, 3) := by decide +kernel
theorem dX12_isSymbol_11 : decode cX12_isSymbol 11 = .ok (.iconst 3, 1) := by decide +kernel
theorem dX12_isSymbol_12 : decode cX12_isSymbol 12 = .ok (.if_icmp .ne 20, 3) := by decide +kernel
theorem dX12_isSymbol_15 : decode cX12_isSymbol 15 = .ok (.aload_n 0, 1) := by decide +kernel
theorem dX12_isSymbol_16 : decode cX12_isSymbol 16 = .ok (.getfield 31, 3) := by decide +kernel
theorem dX12_isSymbol_19 : decode cX12_isSymbol 19 = .ok (.aload_n 0, 1) := by decide +kernel
theorem dX12_isSymbol_20 : decode cX12_isSymbol 20 = .ok (.getfield 291, 3) := by decide +kernel
theorem dX12_isSymbol_23 : decode cX12_isSymbol 23 = .ok (.iaload, 1) := by decide +kernel
theorem dX12_isSymbol_24 : decode cX12_isSymbol 24 = .ok (.iload_n 1, 1) := by decide +kernel
theorem dX12_isSymbol_25 : decode cX12_isSymbol 25 = .ok (.if_icmp .ne 7, 3) := by decide +kernel
theorem dX12_isSymbol_28 : decode cX12_isSymbol 28 = .ok (.iconst 1, 1) := by decide +kernel
theorem dX12_isSymbol_29 : decode cX12_isSymbol 29 = .ok (.goto 4, 3) := by decide +kernel
theorem dX12_isSymbol_32 : decode cX12_isSymbol 32 = .ok (.iconst 0, 1) := by decide +kernel
theorem dX12_isSymbol_33 : decode cX12_isSymbol 33 = .ok (.ireturn, 1) := by decide +kernel
theorem dX12_isWord_0 : decode cX12_isWord 0 = .ok (.aload_n 0, 1) := by decide +kernel
theorem dX12_isWord_1 : decode cX12_isWord 1 = .ok (.getfield 303, 3) := by decide +kernel
theorem dX12_isWord_4 : decode cX12_isWord 4 = .ok (.ifCond .ne 31, 3) := by decide +kernel
theorem dX12_isWord_7 : decode cX12_isWord 7 = .ok (.aload_n 0, 1) := by decide +kernel
theorem dX12_isWord_8 : decode cX12_isWord 8 = .ok (.getfield 294, 3) := by decide +kernel
theorem dX12_isWord_11 : decode cX12_isWord 11 = .ok (.iconst 1, 1) := by decide +kernel
theorem dX12_isWord_12 : decode cX12_isWord 12 = .ok (.if_icmp .ne 23, 3) := by decide +kernel
theorem dX12_isWord_15 : decode cX12_isWord 15 = .ok (.aload_n 1, 1) := by decide +kernel
theorem dX12_isWord_16 : decode cX12_isWord 16 = .ok (.invokevirtual 315, 3) := by decide +kernel
theorem dX12_isWord_19 : decode cX12_isWord 19 = .ok (.aload_n 0, 1) := by decide +kernel
theorem dX12_isWord_20 : decode cX12_isWord 20 = .ok (.getfield 288, 3) := by decide +kernel
theorem dX12_isWord_23 : decode cX12_isWord 23 = .ok (.aload_n 0, 1) := by decide +kernel
theorem dX12_isWord_24 : decode cX12_isWord 24 = .ok (.getfield 291, 3) := by decide +kernel
theorem dX12_isWord_27 : decode cX12_isWord 27 = .ok (.isub, 1) := by decide +kernel
theorem dX12_isWord_28 : decode cX12_isWord 28 = .ok (.if_icmp .ne 7, 3) := by decide +kernel
theorem dX12_isWord_31 : decode cX12_isWord 31 = .ok (.iconst 1, 1) := by decide +kernel
theorem dX12_isWord_32 : decode cX12_isWord 32 = .ok (.goto 4, 3) := by decide +kernel
theorem dX12_isWord_35 : decode cX12_isWord 35 = .ok (.iconst 0, 1) := by decide +kernel
theorem dX12_isWord_36 : decode cX12_isWord 36 = .ok (.istore_n 2, 1) := by decide +kernel
theorem dX12_isWord_37 : decode cX12_isWord 37 = .ok (.iconst 0, 1) := by decide +kernel
theorem dX12_isWord_38 : decode cX12_isWord 38 = .ok (.istore_n 3, 1) := by decide +kernel
theorem dX12_isWord_39 : decode cX12_isWord 39 = .ok (.iload_n 2, 1) := by decide +kernel
theorem dX12_isWord_40 : decode cX12_isWord 40 = .ok (.ifCond .eq 42, 3) := by decide +kernel
theorem dX12_isWord_43 : decode cX12_isWord 43 = .ok (.iload_n 3, 1) := by decide +kernel
theorem dX12_isWord_44 : decode cX12_isWord 44 = .ok (.aload_n 1, 1) := by decide +kernel
theorem dX12_isWord_45 : decode cX12_isWord 45 = .ok (.invokevirtual 315, 3) := by decide +kernel
theorem dX12_isWord_48 : decode cX12_isWord 48 = .ok (.if_icmp .ge 34, 3) := by decide +kernel
theorem dX12_isWord_51 : decode cX12_isWord 51 = .ok (.aload_n 1, 1) := by decide +kernel
theorem dX12_isWord_52 : decode cX12_isWord 52 = .ok (.iload_n 3, 1) := by decide +kernel
theorem dX12_isWord_53 : decode cX12_isWord 53 = .ok (.invokevirtual 318, 3) := by decide +kernel
theorem dX12_isWord_56 : decode cX12_isWord 56 = .ok (.aload_n 0, 1) := by decide +kernel
theorem dX12_isWord_57 : decode cX12_isWord 57 = .ok (.getfield 31, 3) := by decide +kernel
theorem dX12_isWord_60 : decode cX12_isWord 60 = .ok (.aload_n 0, 1) := by decide +kernel
theorem dX12_isWord_61 : decode cX12_isWord 61 = .ok (.getfield 291, 3) := by decide +kernel
theorem dX12_isWord_64 : decode cX12_isWord 64 = .ok (.iload_n 3, 1) := by decide +kernel
theorem dX12_isWord_65 : decode cX12_isWord 65 = .ok (.iadd, 1) := by decide +kernel
theorem dX12_isWord_66 : decode cX12_isWord 66 = .ok (.iaload, 1) := by decide +kernel
theorem dX12_isWord_67 : decode cX12_isWord 67 = .ok (.if_icmp .ne 7, 3) := by decide +kernel
theorem dX12_isWord_70 : decode cX12_isWord 70 = .ok (.iconst 1, 1) := by decide +kernel
theorem dX12_isWord_71 : decode cX12_isWord 71 = .ok (.goto 4, 3) := by decide +kernel
theorem dX12_isWord_74 : decode cX12_isWord 74 = .ok (.iconst 0, 1) := by decide +kernel
theorem dX12_isWord_75 : decode cX12_isWord 75 = .ok (.istore_n 2, 1) := by decide +kernel
theorem dX12_isWord_76 : decode cX12_isWord 76 = .ok (.iinc 3 1, 3) := by decide +kernel
theorem dX12_isWord_79 : decode cX12_isWord 79 = .ok (.goto (-40), 3) := by decide +kernel
theorem dX12_isWord_82 : decode cX12_isWord 82 = .ok (.iload_n 2, 1) := by decide +kernel
theorem dX12_isWord_83 : decode cX12_isWord 83 = .ok (.ireturn, 1) := by decide +kernel
theorem dX12_expect_0 : decode cX12_expect 0 = .ok (.aload_n 0, 1) := by decide +kernel
theorem dX12_expect_1 : decode cX12_expect 1 = .ok (.aload_n 0, 1) := by decide +kernel
theorem dX12_expect_2 : decode cX12_expect 2 = .ok (.iload_n 1, 1) := by decide +kernel
theorem dX12_expect_3 : decode cX12_expect 3 = .ok (.invokevirtual 326, 3) := by decide +kernel
theorem dX12_expect_6 : decode cX12_expect 6 = .ok (.iconst 1, 1) := by decide +kernel
theorem dX12_expect_7 : decode cX12_expect 7 = .ok (.invokevirtual 329, 3) := by decide +kernel
theorem dX12_expect_10 : decode cX12_expect 10 = .ok (.aload_n 0, 1) := by decide +kernel
theorem dX12_expect_11 : decode cX12_expect 11 = .ok (.invokevirtual 333, 3) := by decide +kernel
theorem dX12_expect_14 : decode cX12_expect 14 = .ok (.return_, 1) := by decide +kernel
theorem dX12_value_0 : decode cX12_value 0 = .ok (.iconst 0, 1) := by decide +kernel
theorem dX12_value_1 : decode cX12_value 1 = .ok (.istore_n 1, 1) := by decide +kernel
theorem dX12_value_2 : decode cX12_value 2 = .ok (.aload_n 0, 1) := by decide +kernel
theorem dX12_value_3 : decode cX12_value 3 = .ok (.getfield 291, 3) := by decide +kernel
theorem dX12_value_6 : decode cX12_value 6 = .ok (.istore_n 2, 1) := by decide +kernel
theorem dX12_value_7 : decode cX12_value 7 = .ok (.iload_n 2, 1) := by decide +kernel
theorem dX12_value_8 : decode cX12_value 8 = .ok (.aload_n 0, 1) := by decide +kernel
theorem dX12_value_9 : decode cX12_value 9 = .ok (.getfield 288, 3) := by decide +kernel
theorem dX12_value_12 : decode cX12_value 12 = .ok (.if_icmp .ge 43, 3) := by decide +kernel
theorem dX12_value_15 : decode cX12_value 15 = .ok (.aload_n 0, 1) := by decide +kernel
theorem dX12_value_16 : decode cX12_value 16 = .ok (.getfield 294, 3) := by decide +kernel
theorem dX12_value_19 : decode cX12_value 19 = .ok (.iconst 2, 1) := by decide +kernel
theorem dX12_value_20 : decode cX12_value 20 = .ok (.if_icmp .ne 35, 3) := by decide +kernel
theorem dX12_value_23 : decode cX12_value 23 = .ok (.iload_n 1, 1) := by decide +kernel
theorem dX12_value_24 : decode cX12_value 24 = .ok (.ldc_w 336, 3) := by decide +kernel
theorem dX12_value_27 : decode cX12_value 27 = .ok (.if_icmp .le 7, 3) := by decide +kernel
theorem dX12_value_30 : decode cX12_value 30 = .ok (.iload_n 1, 1) := by decide +kernel
theorem dX12_value_31 : decode cX12_value 31 = .ok (.goto 17, 3) := by decide +kernel
theorem dX12_value_34 : decode cX12_value 34 = .ok (.bipush 10, 2) := by decide +kernel
theorem dX12_value_36 : decode cX12_value 36 = .ok (.iload_n 1, 1) := by decide +kernel
theorem dX12_value_37 : decode cX12_value 37 = .ok (.imul, 1) := by decide +kernel
theorem dX12_value_38 : decode cX12_value 38 = .ok (.aload_n 0, 1) := by decide +kernel
theorem dX12_value_39 : decode cX12_value 39 = .ok (.getfield 31, 3) := by decide +kernel
theorem dX12_value_42 : decode cX12_value 42 = .ok (.iload_n 2, 1) := by decide +kernel
theorem dX12_value_43 : decode cX12_value 43 = .ok (.iaload, 1) := by decide +kernel
theorem dX12_value_44 : decode cX12_value 44 = .ok (.iadd, 1) := by decide +kernel
theorem dX12_value_45 : decode cX12_value 45 = .ok (.bipush 48, 2) := by decide +kernel
theorem dX12_value_47 : decode cX12_value 47 = .ok (.isub, 1) := by decide +kernel
theorem dX12_value_48 : decode cX12_value 48 = .ok (.istore_n 1, 1) := by decide +kernel
theorem dX12_value_49 : decode cX12_value 49 = .ok (.iinc 2 1, 3) := by decide +kernel
theorem dX12_value_52 : decode cX12_value 52 = .ok (.goto (-45), 3) := by decide +kernel
theorem dX12_value_55 : decode cX12_value 55 = .ok (.iload_n 1, 1) := by decide +kernel
theorem dX12_value_56 : decode cX12_value 56 = .ok (.ireturn, 1) := by decide +kernel
theorem dX12_look_0 : decode cX12_look 0 = .ok (.aload_n 0, 1) := by decide +kernel
theorem dX12_look_1 : decode cX12_look 1 = .ok (.aload_n 0, 1) := by decide +kernel
theorem dX12_look_2 : decode cX12_look 2 = .ok (.getfield 294, 3) := by decide +kernel
theorem dX12_look_5 : decode cX12_look 5 = .ok (.iconst 2, 1) := by decide +kernel
theorem dX12_look_6 : decode cX12_look 6 = .ok (.if_icmp .ne 7, 3) := by decide +kernel
theorem dX12_look_9 : decode cX12_look 9 = .ok (.iconst 1, 1) := by decide +kernel
theorem dX12_look_10 : decode cX12_look 10 = .ok (.goto 4, 3) := by decide +kernel
theorem dX12_look_13 : decode cX12_look 13 = .ok (.iconst 0, 1) := by decide +kernel
theorem dX12_look_14 : decode cX12_look 14 = .ok (.iconst 1, 1) := by decide +kernel
theorem dX12_look_15 : decode cX12_look 15 = .ok (.invokevirtual 329, 3) := by decide +kernel
theorem dX12_look_18 : decode cX12_look 18 = .ok (.aload_n 0, 1) := by decide +kernel
theorem dX12_look_19 : decode cX12_look 19 = .ok (.invokevirtual 337, 3) := by decide +kernel
theorem dX12_look_22 : decode cX12_look 22 = .ok (.istore_n 3, 1) := by decide +kernel
theorem dX12_look_23 : decode cX12_look 23 = .ok (.aload_n 0, 1) := by decide +kernel
theorem dX12_look_24 : decode cX12_look 24 = .ok (.iload_n 3, 1) := by decide +kernel
theorem dX12_look_25 : decode cX12_look 25 = .ok (.iload_n 1, 1) := by decide +kernel
theorem dX12_look_26 : decode cX12_look 26 = .ok (.iload_n 2, 1) := by decide +kernel
theorem dX12_look_27 : decode cX12_look 27 = .ok (.invokestatic 107, 3) := by decide +kernel
theorem dX12_look_30 : decode cX12_look 30 = .ok (.iconst 2, 1) := by decide +kernel
theorem dX12_look_31 : decode cX12_look 31 = .ok (.invokevirtual 329, 3) := by decide +kernel
theorem dX12_look_34 : decode cX12_look 34 = .ok (.aload_n 0, 1) := by decide +kernel
theorem dX12_look_35 : decode cX12_look 35 = .ok (.getfield 303, 3) := by decide +kernel
theorem dX12_look_38 : decode cX12_look 38 = .ok (.ifCond .ne 7, 3) := by decide +kernel
theorem dX12_look_41 : decode cX12_look 41 = .ok (.iload_n 3, 1) := by decide +kernel
theorem dX12_look_42 : decode cX12_look 42 = .ok (.goto 4, 3) := by decide +kernel
theorem dX12_look_45 : decode cX12_look 45 = .ok (.iload_n 1, 1) := by decide +kernel
theorem dX12_look_46 : decode cX12_look 46 = .ok (.ireturn, 1) := by decide +kernel
theorem dX12_readNumber_0 : decode cX12_readNumber 0 = .ok (.aload_n 0, 1) := by decide +kernel
theorem dX12_readNumber_1 : decode cX12_readNumber 1 = .ok (.iload_n 1, 1) := by decide +kernel
theorem dX12_readNumber_2 : decode cX12_readNumber 2 = .ok (.iload_n 2, 1) := by decide +kernel
theorem dX12_readNumber_3 : decode cX12_readNumber 3 = .ok (.invokevirtual 340, 3) := by decide +kernel
theorem dX12_readNumber_6 : decode cX12_readNumber 6 = .ok (.istore_n 3, 1) := by decide +kernel
theorem dX12_readNumber_7 : decode cX12_readNumber 7 = .ok (.aload_n 0, 1) := by decide +kernel
theorem dX12_readNumber_8 : decode cX12_readNumber 8 = .ok (.invokevirtual 333, 3) := by decide +kernel
theorem dX12_readNumber_11 : decode cX12_readNumber 11 = .ok (.iload_n 3, 1) := by decide +kernel
theorem dX12_readNumber_12 : decode cX12_readNumber 12 = .ok (.ireturn, 1) := by decide +kernel
theorem dX12_errorCode_0 : decode cX12_errorCode 0 = .ok (.aload_n 0, 1) := by decide +kernel
theorem dX12_errorCode_1 : decode cX12_errorCode 1 = .ok (.iconst 0, 1) := by decide +kernel
theorem dX12_errorCode_2 : decode cX12_errorCode 2 = .ok (.putfield 79, 3) := by decide +kernel
theorem dX12_errorCode_5 : decode cX12_errorCode 5 = .ok (.aload_n 0, 1) := by decide +kernel
theorem dX12_errorCode_6 : decode cX12_errorCode 6 = .ok (.getfield 343, 3) := by decide +kernel
theorem dX12_errorCode_9 : decode cX12_errorCode 9 = .ok (.ireturn, 1) := by decide +kernel
theorem dX12_isFaulty_0 : decode cX12_isFaulty 0 = .ok (.aload_n 0, 1) := by decide +kernel
theorem dX12_isFaulty_1 : decode cX12_isFaulty 1 = .ok (.aload_n 0, 1) := by decide +kernel
theorem dX12_isFaulty_2 : decode cX12_isFaulty 2 = .ok (.invokevirtual 346, 3) := by decide +kernel
theorem dX12_isFaulty_5 : decode cX12_isFaulty 5 = .ok (.putfield 343, 3) := by decide +kernel
theorem dX12_isFaulty_8 : decode cX12_isFaulty 8 = .ok (.aload_n 0, 1) := by decide +kernel
theorem dX12_isFaulty_9 : decode cX12_isFaulty 9 = .ok (.getfield 343, 3) := by decide +kernel
theorem dX12_isFaulty_12 : decode cX12_isFaulty 12 = .ok (.ifCond .eq 7, 3) := by decide +kernel
theorem dX12_isFaulty_15 : decode cX12_isFaulty 15 = .ok (.iconst 1, 1) := by decide +kernel
theorem dX12_isFaulty_16 : decode cX12_isFaulty 16 = .ok (.goto 4, 3) := by decide +kernel
theorem dX12_isFaulty_19 : decode cX12_isFaulty 19 = .ok (.iconst 0, 1) := by decide +kernel
theorem dX12_isFaulty_20 : decode cX12_isFaulty 20 = .ok (.ireturn, 1) := by decide +kernel
theorem dX12_isLength_0 : decode cX12_isLength 0 = .ok (.iload_n 1, 1) := by decide +kernel
theorem dX12_isLength_1 : decode cX12_isLength 1 = .ok (.iconst 0, 1) := by decide +kernel
theorem dX12_isLength_2 : decode cX12_isLength 2 = .ok (.aload_n 0, 1) := by decide +kernel
theorem dX12_isLength_3 : decode cX12_isLength 3 = .ok (.getfield 279, 3) := by decide +kernel
theorem dX12_isLength_6 : decode cX12_isLength 6 = .ok (.invokestatic 107, 3) := by decide +kernel
theorem dX12_isLength_9 : decode cX12_isLength 9 = .ok (.ireturn, 1) := by decide +kernel
theorem dX12_isLayerHere_0 : decode cX12_isLayerHere 0 = .ok (.aload_n 0, 1) := by decide +kernel
theorem dX12_isLayerHere_1 : decode cX12_isLayerHere 1 = .ok (.ldc_w 349, 3) := by decide +kernel
theorem dX12_isLayerHere_4 : decode cX12_isLayerHere 4 = .ok (.invokevirtual 322, 3) := by decide +kernel
theorem dX12_isLayerHere_7 : decode cX12_isLayerHere 7 = .ok (.ifCond .ne 13, 3) := by decide +kernel
theorem dX12_isLayerHere_10 : decode cX12_isLayerHere 10 = .ok (.aload_n 0, 1) := by decide +kernel
theorem dX12_isLayerHere_11 : decode cX12_isLayerHere 11 = .ok (.ldc_w 351, 3) := by decide +kernel
theorem dX12_isLayerHere_14 : decode cX12_isLayerHere 14 = .ok (.invokevirtual 322, 3) := by decide +kernel
theorem dX12_isLayerHere_17 : decode cX12_isLayerHere 17 = .ok (.ifCond .eq 7, 3) := by decide +kernel
theorem dX12_isLayerHere_20 : decode cX12_isLayerHere 20 = .ok (.iconst 1, 1) := by decide +kernel
theorem dX12_isLayerHere_21 : decode cX12_isLayerHere 21 = .ok (.goto 4, 3) := by decide +kernel
theorem dX12_isLayerHere_24 : decode cX12_isLayerHere 24 = .ok (.iconst 0, 1) := by decide +kernel
theorem dX12_isLayerHere_25 : decode cX12_isLayerHere 25 = .ok (.ireturn, 1) := by decide +kernel
theorem dX12_readLayer_0 : decode cX12_readLayer 0 = .ok (.aload_n 0, 1) := by decide +kernel
theorem dX12_readLayer_1 : decode cX12_readLayer 1 = .ok (.aload_n 0, 1) := by decide +kernel
theorem dX12_readLayer_2 : decode cX12_readLayer 2 = .ok (.invokevirtual 353, 3) := by decide +kernel
theorem dX12_readLayer_5 : decode cX12_readLayer 5 = .ok (.iconst 1, 1) := by decide +kernel
theorem dX12_readLayer_6 : decode cX12_readLayer 6 = .ok (.invokevirtual 329, 3) := by decide +kernel
theorem dX12_readLayer_9 : decode cX12_readLayer 9 = .ok (.aload_n 0, 1) := by decide +kernel
theorem dX12_readLayer_10 : decode cX12_readLayer 10 = .ok (.aload_n 0, 1) := by decide +kernel
theorem dX12_readLayer_11 : decode cX12_readLayer 11 = .ok (.getfield 303, 3) := by decide +kernel
theorem dX12_readLayer_14 : decode cX12_readLayer 14 = .ok (.ifCond .ne 15, 3) := by decide +kernel
theorem dX12_readLayer_17 : decode cX12_readLayer 17 = .ok (.aload_n 0, 1) := by decide +kernel
theorem dX12_readLayer_18 : decode cX12_readLayer 18 = .ok (.iload_n 1, 1) := by decide +kernel
theorem dX12_readLayer_19 : decode cX12_readLayer 19 = .ok (.bipush 6, 2) := by decide +kernel
theorem dX12_readLayer_21 : decode cX12_readLayer 21 = .ok (.invokevirtual 93, 3) := by decide +kernel
theorem dX12_readLayer_24 : decode cX12_readLayer 24 = .ok (.bipush 9, 2) := by decide +kernel
theorem dX12_readLayer_26 : decode cX12_readLayer 26 = .ok (.if_icmp .ge 7, 3) := by decide +kernel
theorem dX12_readLayer_29 : decode cX12_readLayer 29 = .ok (.iconst 1, 1) := by decide +kernel
theorem dX12_readLayer_30 : decode cX12_readLayer 30 = .ok (.goto 4, 3) := by decide +kernel
theorem dX12_readLayer_33 : decode cX12_readLayer 33 = .ok (.iconst 0, 1) := by decide +kernel
theorem dX12_readLayer_34 : decode cX12_readLayer 34 = .ok (.iconst 3, 1) := by decide +kernel
theorem dX12_readLayer_35 : decode cX12_readLayer 35 = .ok (.invokevirtual 329, 3) := by decide +kernel
theorem dX12_readLayer_38 : decode cX12_readLayer 38 = .ok (.aload_n 0, 1) := by decide +kernel
theorem dX12_readLayer_39 : decode cX12_readLayer 39 = .ok (.ldc_w 351, 3) := by decide +kernel
theorem dX12_readLayer_42 : decode cX12_readLayer 42 = .ok (.invokevirtual 322, 3) := by decide +kernel
theorem dX12_readLayer_45 : decode cX12_readLayer 45 = .ok (.istore_n 2, 1) := by decide +kernel
theorem dX12_readLayer_46 : decode cX12_readLayer 46 = .ok (.aload_n 0, 1) := by decide +kernel
theorem dX12_readLayer_47 : decode cX12_readLayer 47 = .ok (.invokevirtual 333, 3) := by decide +kernel
theorem dX12_readLayer_50 : decode cX12_readLayer 50 = .ok (.aload_n 0, 1) := by decide +kernel
theorem dX12_readLayer_51 : decode cX12_readLayer 51 = .ok (.iconst 1, 1) := by decide +kernel
theorem dX12_readLayer_52 : decode cX12_readLayer 52 = .ok (.sipush 400, 3) := by decide +kernel
theorem dX12_readLayer_55 : decode cX12_readLayer 55 = .ok (.invokevirtual 357, 3) := by decide +kernel
theorem dX12_readLayer_58 : decode cX12_readLayer 58 = .ok (.istore_n 3, 1) := by decide +kernel
theorem dX12_readLayer_59 : decode cX12_readLayer 59 = .ok (.aload_n 0, 1) := by decide +kernel
theorem dX12_readLayer_60 : decode cX12_readLayer 60 = .ok (.getfield 303, 3) := by decide +kernel
theorem dX12_readLayer_63 : decode cX12_readLayer 63 = .ok (.ifCond .ne 18, 3) := by decide +kernel
theorem dX12_readLayer_66 : decode cX12_readLayer 66 = .ok (.aload_n 0, 1) := by decide +kernel
theorem dX12_readLayer_67 : decode cX12_readLayer 67 = .ok (.iload_n 1, 1) := by decide +kernel
theorem dX12_readLayer_68 : decode cX12_readLayer 68 = .ok (.iload_n 2, 1) := by decide +kernel
theorem dX12_readLayer_69 : decode cX12_readLayer 69 = .ok (.ifCond .eq 8, 3) := by decide +kernel
theorem dX12_readLayer_72 : decode cX12_readLayer 72 = .ok (.iload_n 3, 1) := by decide +kernel
theorem dX12_readLayer_73 : decode cX12_readLayer 73 = .ok (.ineg, 1) := by decide +kernel
theorem dX12_readLayer_74 : decode cX12_readLayer 74 = .ok (.goto 4, 3) := by decide +kernel
theorem dX12_readLayer_77 : decode cX12_readLayer 77 = .ok (.iload_n 3, 1) := by decide +kernel
theorem dX12_readLayer_78 : decode cX12_readLayer 78 = .ok (.invokevirtual 73, 3) := by decide +kernel
theorem dX12_readLayer_81 : decode cX12_readLayer 81 = .ok (.return_, 1) := by decide +kernel
theorem dX12_readSheet_0 : decode cX12_readSheet 0 = .ok (.aload_n 0, 1) := by decide +kernel
theorem dX12_readSheet_1 : decode cX12_readSheet 1 = .ok (.aload_n 0, 1) := by decide +kernel
theorem dX12_readSheet_2 : decode cX12_readSheet 2 = .ok (.ldc_w 360, 3) := by decide +kernel
theorem dX12_readSheet_5 : decode cX12_readSheet 5 = .ok (.invokevirtual 322, 3) := by decide +kernel
theorem dX12_readSheet_8 : decode cX12_readSheet 8 = .ok (.iconst 1, 1) := by decide +kernel
theorem dX12_readSheet_9 : decode cX12_readSheet 9 = .ok (.invokevirtual 329, 3) := by decide +kernel
theorem dX12_readSheet_12 : decode cX12_readSheet 12 = .ok (.aload_n 0, 1) := by decide +kernel
theorem dX12_readSheet_13 : decode cX12_readSheet 13 = .ok (.aload_n 0, 1) := by decide +kernel
theorem dX12_readSheet_14 : decode cX12_readSheet 14 = .ok (.getfield 303, 3) := by decide +kernel
theorem dX12_readSheet_17 : decode cX12_readSheet 17 = .ok (.ifCond .ne 14, 3) := by decide +kernel
theorem dX12_readSheet_20 : decode cX12_readSheet 20 = .ok (.aload_n 0, 1) := by decide +kernel
theorem dX12_readSheet_21 : decode cX12_readSheet 21 = .ok (.getfield 25, 3) := by decide +kernel
theorem dX12_readSheet_24 : decode cX12_readSheet 24 = .ok (.iconst 3, 1) := by decide +kernel
theorem dX12_readSheet_25 : decode cX12_readSheet 25 = .ok (.iaload, 1) := by decide +kernel
theorem dX12_readSheet_26 : decode cX12_readSheet 26 = .ok (.bipush 6, 2) := by decide +kernel
theorem dX12_readSheet_28 : decode cX12_readSheet 28 = .ok (.if_icmp .ge 7, 3) := by decide +kernel
theorem dX12_readSheet_31 : decode cX12_readSheet 31 = .ok (.iconst 1, 1) := by decide +kernel
theorem dX12_readSheet_32 : decode cX12_readSheet 32 = .ok (.goto 4, 3) := by decide +kernel
theorem dX12_readSheet_35 : decode cX12_readSheet 35 = .ok (.iconst 0, 1) := by decide +kernel
theorem dX12_readSheet_36 : decode cX12_readSheet 36 = .ok (.iconst 3, 1) := by decide +kernel
theorem dX12_readSheet_37 : decode cX12_readSheet 37 = .ok (.invokevirtual 329, 3) := by decide +kernel
theorem dX12_readSheet_40 : decode cX12_readSheet 40 = .ok (.aload_n 0, 1) := by decide +kernel
theorem dX12_readSheet_41 : decode cX12_readSheet 41 = .ok (.invokevirtual 333, 3) := by decide +kernel
theorem dX12_readSheet_44 : decode cX12_readSheet 44 = .ok (.aload_n 0, 1) := by decide +kernel
theorem dX12_readSheet_45 : decode cX12_readSheet 45 = .ok (.iconst 0, 1) := by decide +kernel
theorem dX12_readSheet_46 : decode cX12_readSheet 46 = .ok (.bipush 40, 2) := by decide +kernel
theorem dX12_readSheet_48 : decode cX12_readSheet 48 = .ok (.invokevirtual 357, 3) := by decide +kernel
theorem dX12_readSheet_51 : decode cX12_readSheet 51 = .ok (.istore_n 1, 1) := by decide +kernel
theorem dX12_readSheet_52 : decode cX12_readSheet 52 = .ok (.aload_n 0, 1) := by decide +kernel
theorem dX12_readSheet_53 : decode cX12_readSheet 53 = .ok (.getfield 303, 3) := by decide +kernel
theorem dX12_readSheet_56 : decode cX12_readSheet 56 = .ok (.ifCond .ne 44, 3) := by decide +kernel
theorem dX12_readSheet_59 : decode cX12_readSheet 59 = .ok (.aload_n 0, 1) := by decide +kernel
theorem dX12_readSheet_60 : decode cX12_readSheet 60 = .ok (.aload_n 0, 1) := by decide +kernel
theorem dX12_readSheet_61 : decode cX12_readSheet 61 = .ok (.getfield 25, 3) := by decide +kernel
theorem dX12_readSheet_64 : decode cX12_readSheet 64 = .ok (.iconst 3, 1) := by decide +kernel
theorem dX12_readSheet_65 : decode cX12_readSheet 65 = .ok (.iaload, 1) := by decide +kernel
theorem dX12_readSheet_66 : decode cX12_readSheet 66 = .ok (.iload_n 1, 1) := by decide +kernel
theorem dX12_readSheet_67 : decode cX12_readSheet 67 = .ok (.invokevirtual 69, 3) := by decide +kernel
theorem dX12_readSheet_70 : decode cX12_readSheet 70 = .ok (.aload_n 0, 1) := by decide +kernel
theorem dX12_readSheet_71 : decode cX12_readSheet 71 = .ok (.aload_n 0, 1) := by decide +kernel
theorem dX12_readSheet_72 : decode cX12_readSheet 72 = .ok (.getfield 25, 3) := by decide +kernel
theorem dX12_readSheet_75 : decode cX12_readSheet 75 = .ok (.iconst 3, 1) := by decide +kernel
theorem dX12_readSheet_76 : decode cX12_readSheet 76 = .ok (.iaload, 1) := by decide +kernel
theorem dX12_readSheet_77 : decode cX12_readSheet 77 = .ok (.invokevirtual 362, 3) := by decide +kernel
theorem dX12_readSheet_80 : decode cX12_readSheet 80 = .ok (.aload_n 0, 1) := by decide +kernel
theorem dX12_readSheet_81 : decode cX12_readSheet 81 = .ok (.invokevirtual 353, 3) := by decide +kernel
theorem dX12_readSheet_84 : decode cX12_readSheet 84 = .ok (.ifCond .eq 16, 3) := by decide +kernel
theorem dX12_readSheet_87 : decode cX12_readSheet 87 = .ok (.aload_n 0, 1) := by decide +kernel
theorem dX12_readSheet_88 : decode cX12_readSheet 88 = .ok (.aload_n 0, 1) := by decide +kernel
theorem dX12_readSheet_89 : decode cX12_readSheet 89 = .ok (.getfield 25, 3) := by decide +kernel
theorem dX12_readSheet_92 : decode cX12_readSheet 92 = .ok (.iconst 3, 1) := by decide +kernel
theorem dX12_readSheet_93 : decode cX12_readSheet 93 = .ok (.iaload, 1) := by decide +kernel
theorem dX12_readSheet_94 : decode cX12_readSheet 94 = .ok (.invokevirtual 362, 3) := by decide +kernel
theorem dX12_readSheet_97 : decode cX12_readSheet 97 = .ok (.goto (-17), 3) := by decide +kernel
theorem dX12_readSheet_100 : decode cX12_readSheet 100 = .ok (.aload_n 0, 1) := by decide +kernel
theorem dX12_readSheet_101 : decode cX12_readSheet 101 = .ok (.bipush 59, 2) := by decide +kernel
theorem dX12_readSheet_103 : decode cX12_readSheet 103 = .ok (.invokevirtual 365, 3) := by decide +kernel
theorem dX12_readSheet_106 : decode cX12_readSheet 106 = .ok (.aload_n 0, 1) := by decide +kernel
theorem dX12_readSheet_107 : decode cX12_readSheet 107 = .ok (.getfield 25, 3) := by decide +kernel
theorem dX12_readSheet_110 : decode cX12_readSheet 110 = .ok (.iconst 3, 1) := by decide +kernel
theorem dX12_readSheet_111 : decode cX12_readSheet 111 = .ok (.dup2, 1) := by decide +kernel
theorem dX12_readSheet_112 : decode cX12_readSheet 112 = .ok (.iaload, 1) := by decide +kernel
theorem dX12_readSheet_113 : decode cX12_readSheet 113 = .ok (.aload_n 0, 1) := by decide +kernel
theorem dX12_readSheet_114 : decode cX12_readSheet 114 = .ok (.getfield 303, 3) := by decide +kernel
theorem dX12_readSheet_117 : decode cX12_readSheet 117 = .ok (.ifCond .ne 7, 3) := by decide +kernel
theorem dX12_readSheet_120 : decode cX12_readSheet 120 = .ok (.iconst 1, 1) := by decide +kernel
theorem dX12_readSheet_121 : decode cX12_readSheet 121 = .ok (.goto 4, 3) := by decide +kernel
theorem dX12_readSheet_124 : decode cX12_readSheet 124 = .ok (.iconst 0, 1) := by decide +kernel
theorem dX12_readSheet_125 : decode cX12_readSheet 125 = .ok (.iadd, 1) := by decide +kernel
theorem dX12_readSheet_126 : decode cX12_readSheet 126 = .ok (.iastore, 1) := by decide +kernel
theorem dX12_readSheet_127 : decode cX12_readSheet 127 = .ok (.return_, 1) := by decide +kernel
theorem dX12_readBench_0 : decode cX12_readBench 0 = .ok (.aload_n 0, 1) := by decide +kernel
theorem dX12_readBench_1 : decode cX12_readBench 1 = .ok (.aload_n 0, 1) := by decide +kernel
theorem dX12_readBench_2 : decode cX12_readBench 2 = .ok (.ldc_w 368, 3) := by decide +kernel
theorem dX12_readBench_5 : decode cX12_readBench 5 = .ok (.invokevirtual 322, 3) := by decide +kernel
theorem dX12_readBench_8 : decode cX12_readBench 8 = .ok (.iconst 1, 1) := by decide +kernel
theorem dX12_readBench_9 : decode cX12_readBench 9 = .ok (.invokevirtual 329, 3) := by decide +kernel
theorem dX12_readBench_12 : decode cX12_readBench 12 = .ok (.aload_n 0, 1) := by decide +kernel
theorem dX12_readBench_13 : decode cX12_readBench 13 = .ok (.invokevirtual 333, 3) := by decide +kernel
theorem dX12_readBench_16 : decode cX12_readBench 16 = .ok (.aload_n 0, 1) := by decide +kernel
theorem dX12_readBench_17 : decode cX12_readBench 17 = .ok (.iconst 0, 1) := by decide +kernel
theorem dX12_readBench_18 : decode cX12_readBench 18 = .ok (.bipush 40, 2) := by decide +kernel
theorem dX12_readBench_20 : decode cX12_readBench 20 = .ok (.invokevirtual 357, 3) := by decide +kernel
theorem dX12_readBench_23 : decode cX12_readBench 23 = .ok (.istore_n 1, 1) := by decide +kernel
theorem dX12_readBench_24 : decode cX12_readBench 24 = .ok (.aload_n 0, 1) := by decide +kernel
theorem dX12_readBench_25 : decode cX12_readBench 25 = .ok (.iconst 5, 1) := by decide +kernel
theorem dX12_readBench_26 : decode cX12_readBench 26 = .ok (.bipush 35, 2) := by decide +kernel
theorem dX12_readBench_28 : decode cX12_readBench 28 = .ok (.invokevirtual 357, 3) := by decide +kernel
theorem dX12_readBench_31 : decode cX12_readBench 31 = .ok (.istore_n 2, 1) := by decide +kernel
theorem dX12_readBench_32 : decode cX12_readBench 32 = .ok (.aload_n 0, 1) := by decide +kernel
theorem dX12_readBench_33 : decode cX12_readBench 33 = .ok (.iconst 0, 1) := by decide +kernel
theorem dX12_readBench_34 : decode cX12_readBench 34 = .ok (.bipush 50, 2) := by decide +kernel
theorem dX12_readBench_36 : decode cX12_readBench 36 = .ok (.invokevirtual 357, 3) := by decide +kernel
theorem dX12_readBench_39 : decode cX12_readBench 39 = .ok (.istore_n 3, 1) := by decide +kernel
theorem dX12_readBench_40 : decode cX12_readBench 40 = .ok (.aload_n 0, 1) := by decide +kernel
theorem dX12_readBench_41 : decode cX12_readBench 41 = .ok (.bipush 59, 2) := by decide +kernel
theorem dX12_readBench_43 : decode cX12_readBench 43 = .ok (.invokevirtual 365, 3) := by decide +kernel
theorem dX12_readBench_46 : decode cX12_readBench 46 = .ok (.aload_n 0, 1) := by decide +kernel
theorem dX12_readBench_47 : decode cX12_readBench 47 = .ok (.iload_n 1, 1) := by decide +kernel
theorem dX12_readBench_48 : decode cX12_readBench 48 = .ok (.iload_n 2, 1) := by decide +kernel
theorem dX12_readBench_49 : decode cX12_readBench 49 = .ok (.iload_n 3, 1) := by decide +kernel
theorem dX12_readBench_50 : decode cX12_readBench 50 = .ok (.invokevirtual 65, 3) := by decide +kernel
theorem dX12_readBench_53 : decode cX12_readBench 53 = .ok (.aload_n 0, 1) := by decide +kernel
theorem dX12_readBench_54 : decode cX12_readBench 54 = .ok (.getfield 303, 3) := by decide +kernel
theorem dX12_readBench_57 : decode cX12_readBench 57 = .ok (.ifCond .ne 17, 3) := by decide +kernel
theorem dX12_readBench_60 : decode cX12_readBench 60 = .ok (.aload_n 0, 1) := by decide +kernel
theorem dX12_readBench_61 : decode cX12_readBench 61 = .ok (.getfield 294, 3) := by decide +kernel
theorem dX12_readBench_64 : decode cX12_readBench 64 = .ok (.ifCond .eq 10, 3) := by decide +kernel
theorem dX12_readBench_67 : decode cX12_readBench 67 = .ok (.aload_n 0, 1) := by decide +kernel
theorem dX12_readBench_68 : decode cX12_readBench 68 = .ok (.invokevirtual 370, 3) := by decide +kernel
theorem dX12_readBench_71 : decode cX12_readBench 71 = .ok (.goto (-18), 3) := by decide +kernel
theorem dX12_readBench_74 : decode cX12_readBench 74 = .ok (.aload_n 0, 1) := by decide +kernel
theorem dX12_readBench_75 : decode cX12_readBench 75 = .ok (.invokevirtual 76, 3) := by decide +kernel
theorem dX12_readBench_78 : decode cX12_readBench 78 = .ok (.return_, 1) := by decide +kernel
theorem dX12_loadBench_0 : decode cX12_loadBench 0 = .ok (.aload_n 0, 1) := by decide +kernel
theorem dX12_loadBench_1 : decode cX12_loadBench 1 = .ok (.aload_n 0, 1) := by decide +kernel
theorem dX12_loadBench_2 : decode cX12_loadBench 2 = .ok (.iload_n 1, 1) := by decide +kernel
theorem dX12_loadBench_3 : decode cX12_loadBench 3 = .ok (.invokevirtual 373, 3) := by decide +kernel
theorem dX12_loadBench_6 : decode cX12_loadBench 6 = .ok (.invokevirtual 82, 3) := by decide +kernel
theorem dX12_loadBench_9 : decode cX12_loadBench 9 = .ok (.ifCond .eq 5, 3) := by decide +kernel
theorem dX12_loadBench_12 : decode cX12_loadBench 12 = .ok (.iconst 0, 1) := by decide +kernel
theorem dX12_loadBench_13 : decode cX12_loadBench 13 = .ok (.ireturn, 1) := by decide +kernel
theorem dX12_loadBench_14 : decode cX12_loadBench 14 = .ok (.aload_n 0, 1) := by decide +kernel
theorem dX12_loadBench_15 : decode cX12_loadBench 15 = .ok (.iload_n 1, 1) := by decide +kernel
theorem dX12_loadBench_16 : decode cX12_loadBench 16 = .ok (.invokevirtual 376, 3) := by decide +kernel
theorem dX12_loadBench_19 : decode cX12_loadBench 19 = .ok (.aload_n 0, 1) := by decide +kernel
theorem dX12_loadBench_20 : decode cX12_loadBench 20 = .ok (.aload_n 0, 1) := by decide +kernel
theorem dX12_loadBench_21 : decode cX12_loadBench 21 = .ok (.getfield 13, 3) := by decide +kernel
theorem dX12_loadBench_24 : decode cX12_loadBench 24 = .ok (.putfield 25, 3) := by decide +kernel
theorem dX12_loadBench_27 : decode cX12_loadBench 27 = .ok (.aload_n 0, 1) := by decide +kernel
theorem dX12_loadBench_28 : decode cX12_loadBench 28 = .ok (.invokevirtual 379, 3) := by decide +kernel
theorem dX12_loadBench_31 : decode cX12_loadBench 31 = .ok (.aload_n 0, 1) := by decide +kernel
theorem dX12_loadBench_32 : decode cX12_loadBench 32 = .ok (.aload_n 0, 1) := by decide +kernel
theorem dX12_loadBench_33 : decode cX12_loadBench 33 = .ok (.getfield 9, 3) := by decide +kernel
theorem dX12_loadBench_36 : decode cX12_loadBench 36 = .ok (.putfield 25, 3) := by decide +kernel
theorem dX12_loadBench_39 : decode cX12_loadBench 39 = .ok (.aload_n 0, 1) := by decide +kernel
theorem dX12_loadBench_40 : decode cX12_loadBench 40 = .ok (.invokevirtual 382, 3) := by decide +kernel
theorem dX12_loadBench_43 : decode cX12_loadBench 43 = .ok (.ifCond .eq 5, 3) := by decide +kernel
theorem dX12_loadBench_46 : decode cX12_loadBench 46 = .ok (.iconst (-1), 1) := by decide +kernel
theorem dX12_loadBench_47 : decode cX12_loadBench 47 = .ok (.ireturn, 1) := by decide +kernel
theorem dX12_loadBench_48 : decode cX12_loadBench 48 = .ok (.aload_n 0, 1) := by decide +kernel
theorem dX12_loadBench_49 : decode cX12_loadBench 49 = .ok (.getfield 13, 3) := by decide +kernel
theorem dX12_loadBench_52 : decode cX12_loadBench 52 = .ok (.iconst 0, 1) := by decide +kernel
theorem dX12_loadBench_53 : decode cX12_loadBench 53 = .ok (.aload_n 0, 1) := by decide +kernel
theorem dX12_loadBench_54 : decode cX12_loadBench 54 = .ok (.getfield 9, 3) := by decide +kernel
theorem dX12_loadBench_57 : decode cX12_loadBench 57 = .ok (.iconst 0, 1) := by decide +kernel
theorem dX12_loadBench_58 : decode cX12_loadBench 58 = .ok (.invokestatic 220, 3) := by decide +kernel
theorem dX12_loadBench_61 : decode cX12_loadBench 61 = .ok (.aload_n 0, 1) := by decide +kernel
theorem dX12_loadBench_62 : decode cX12_loadBench 62 = .ok (.iconst 0, 1) := by decide +kernel
theorem dX12_loadBench_63 : decode cX12_loadBench 63 = .ok (.putfield 224, 3) := by decide +kernel
theorem dX12_loadBench_66 : decode cX12_loadBench 66 = .ok (.aload_n 0, 1) := by decide +kernel
theorem dX12_loadBench_67 : decode cX12_loadBench 67 = .ok (.iconst 0, 1) := by decide +kernel
theorem dX12_loadBench_68 : decode cX12_loadBench 68 = .ok (.putfield 275, 3) := by decide +kernel
theorem dX12_loadBench_71 : decode cX12_loadBench 71 = .ok (.aload_n 0, 1) := by decide +kernel
theorem dX12_loadBench_72 : decode cX12_loadBench 72 = .ok (.getfield 25, 3) := by decide +kernel
theorem dX12_loadBench_75 : decode cX12_loadBench 75 = .ok (.iconst 3, 1) := by decide +kernel
theorem dX12_loadBench_76 : decode cX12_loadBench 76 = .ok (.iaload, 1) := by decide +kernel
theorem dX12_loadBench_77 : decode cX12_loadBench 77 = .ok (.ireturn, 1) := by decide +kernel
theorem dX12_orderHere_0 : decode cX12_orderHere 0 = .ok (.iconst 0, 1) := by decide +kernel
theorem dX12_orderHere_1 : decode cX12_orderHere 1 = .ok (.istore_n 1, 1) := by decide +kernel
theorem dX12_orderHere_2 : decode cX12_orderHere 2 = .ok (.iload_n 1, 1) := by decide +kernel
theorem dX12_orderHere_3 : decode cX12_orderHere 3 = .ok (.aload_n 0, 1) := by decide +kernel
theorem dX12_orderHere_4 : decode cX12_orderHere 4 = .ok (.getfield 61, 3) := by decide +kernel
theorem dX12_orderHere_7 : decode cX12_orderHere 7 = .ok (.arraylength, 1) := by decide +kernel
theorem dX12_orderHere_8 : decode cX12_orderHere 8 = .ok (.if_icmp .ge 24, 3) := by decide +kernel
theorem dX12_orderHere_11 : decode cX12_orderHere 11 = .ok (.aload_n 0, 1) := by decide +kernel
theorem dX12_orderHere_12 : decode cX12_orderHere 12 = .ok (.aload_n 0, 1) := by decide +kernel
theorem dX12_orderHere_13 : decode cX12_orderHere 13 = .ok (.getfield 61, 3) := by decide +kernel
theorem dX12_orderHere_16 : decode cX12_orderHere 16 = .ok (.iload_n 1, 1) := by decide +kernel
theorem dX12_orderHere_17 : decode cX12_orderHere 17 = .ok (.aaload, 1) := by decide +kernel
theorem dX12_orderHere_18 : decode cX12_orderHere 18 = .ok (.invokevirtual 322, 3) := by decide +kernel
theorem dX12_orderHere_21 : decode cX12_orderHere 21 = .ok (.ifCond .eq 5, 3) := by decide +kernel
theorem dX12_orderHere_24 : decode cX12_orderHere 24 = .ok (.iload_n 1, 1) := by decide +kernel
theorem dX12_orderHere_25 : decode cX12_orderHere 25 = .ok (.ireturn, 1) := by decide +kernel
theorem dX12_orderHere_26 : decode cX12_orderHere 26 = .ok (.iinc 1 1, 3) := by decide +kernel
theorem dX12_orderHere_29 : decode cX12_orderHere 29 = .ok (.goto (-27), 3) := by decide +kernel
theorem dX12_orderHere_32 : decode cX12_orderHere 32 = .ok (.iconst (-1), 1) := by decide +kernel
theorem dX12_orderHere_33 : decode cX12_orderHere 33 = .ok (.ireturn, 1) := by decide +kernel
theorem dX12_readSecond_0 : decode cX12_readSecond 0 = .ok (.iload_n 1, 1) := by decide +kernel
theorem dX12_readSecond_1 : decode cX12_readSecond 1 = .ok (.lookupswitch 49 #[(0, 35), (1, 35), (8, 42)], 35) := by decide +kernel
theorem dX12_readSecond_36 : decode cX12_readSecond 36 = .ok (.aload_n 0, 1) := by decide +kernel
theorem dX12_readSecond_37 : decode cX12_readSecond 37 = .ok (.iconst 2, 1) := by decide +kernel
theorem dX12_readSecond_38 : decode cX12_readSecond 38 = .ok (.iconst 4, 1) := by decide +kernel
theorem dX12_readSecond_39 : decode cX12_readSecond 39 = .ok (.invokevirtual 357, 3) := by decide +kernel
theorem dX12_readSecond_42 : decode cX12_readSecond 42 = .ok (.ireturn, 1) := by decide +kernel
theorem dX12_readSecond_43 : decode cX12_readSecond 43 = .ok (.aload_n 0, 1) := by decide +kernel
theorem dX12_readSecond_44 : decode cX12_readSecond 44 = .ok (.iconst 0, 1) := by decide +kernel
theorem dX12_readSecond_45 : decode cX12_readSecond 45 = .ok (.iconst 5, 1) := by decide +kernel
theorem dX12_readSecond_46 : decode cX12_readSecond 46 = .ok (.invokevirtual 357, 3) := by decide +kernel
theorem dX12_readSecond_49 : decode cX12_readSecond 49 = .ok (.ireturn, 1) := by decide +kernel
theorem dX12_readSecond_50 : decode cX12_readSecond 50 = .ok (.iconst 0, 1) := by decide +kernel
theorem dX12_readSecond_51 : decode cX12_readSecond 51 = .ok (.ireturn, 1) := by decide +kernel
theorem dX12_readOrder_0 : decode cX12_readOrder 0 = .ok (.aload_n 0, 1) := by decide +kernel
theorem dX12_readOrder_1 : decode cX12_readOrder 1 = .ok (.invokevirtual 385, 3) := by decide +kernel
theorem dX12_readOrder_4 : decode cX12_readOrder 4 = .ok (.istore_n 1, 1) := by decide +kernel
theorem dX12_readOrder_5 : decode cX12_readOrder 5 = .ok (.aload_n 0, 1) := by decide +kernel
theorem dX12_readOrder_6 : decode cX12_readOrder 6 = .ok (.iload_n 1, 1) := by decide +kernel
theorem dX12_readOrder_7 : decode cX12_readOrder 7 = .ok (.iconst (-1), 1) := by decide +kernel
theorem dX12_readOrder_8 : decode cX12_readOrder 8 = .ok (.if_icmp .eq 7, 3) := by decide +kernel
theorem dX12_readOrder_11 : decode cX12_readOrder 11 = .ok (.iconst 1, 1) := by decide +kernel
theorem dX12_readOrder_12 : decode cX12_readOrder 12 = .ok (.goto 4, 3) := by decide +kernel
theorem dX12_readOrder_15 : decode cX12_readOrder 15 = .ok (.iconst 0, 1) := by decide +kernel
theorem dX12_readOrder_16 : decode cX12_readOrder 16 = .ok (.iconst 1, 1) := by decide +kernel
theorem dX12_readOrder_17 : decode cX12_readOrder 17 = .ok (.invokevirtual 329, 3) := by decide +kernel
theorem dX12_readOrder_20 : decode cX12_readOrder 20 = .ok (.aload_n 0, 1) := by decide +kernel
theorem dX12_readOrder_21 : decode cX12_readOrder 21 = .ok (.aload_n 0, 1) := by decide +kernel
theorem dX12_readOrder_22 : decode cX12_readOrder 22 = .ok (.getfield 303, 3) := by decide +kernel
theorem dX12_readOrder_25 : decode cX12_readOrder 25 = .ok (.ifCond .ne 12, 3) := by decide +kernel
theorem dX12_readOrder_28 : decode cX12_readOrder 28 = .ok (.aload_n 0, 1) := by decide +kernel
theorem dX12_readOrder_29 : decode cX12_readOrder 29 = .ok (.getfield 388, 3) := by decide +kernel
theorem dX12_readOrder_32 : decode cX12_readOrder 32 = .ok (.bipush 20, 2) := by decide +kernel
theorem dX12_readOrder_34 : decode cX12_readOrder 34 = .ok (.if_icmp .ge 7, 3) := by decide +kernel
theorem dX12_readOrder_37 : decode cX12_readOrder 37 = .ok (.iconst 1, 1) := by decide +kernel
theorem dX12_readOrder_38 : decode cX12_readOrder 38 = .ok (.goto 4, 3) := by decide +kernel
theorem dX12_readOrder_41 : decode cX12_readOrder 41 = .ok (.iconst 0, 1) := by decide +kernel
theorem dX12_readOrder_42 : decode cX12_readOrder 42 = .ok (.iconst 3, 1) := by decide +kernel
theorem dX12_readOrder_43 : decode cX12_readOrder 43 = .ok (.invokevirtual 329, 3) := by decide +kernel
theorem dX12_readOrder_46 : decode cX12_readOrder 46 = .ok (.aload_n 0, 1) := by decide +kernel
theorem dX12_readOrder_47 : decode cX12_readOrder 47 = .ok (.invokevirtual 333, 3) := by decide +kernel
theorem dX12_readOrder_50 : decode cX12_readOrder 50 = .ok (.aload_n 0, 1) := by decide +kernel
theorem dX12_readOrder_51 : decode cX12_readOrder 51 = .ok (.getfield 303, 3) := by decide +kernel
theorem dX12_readOrder_54 : decode cX12_readOrder 54 = .ok (.ifCond .eq 4, 3) := by decide +kernel
theorem dX12_readOrder_57 : decode cX12_readOrder 57 = .ok (.return_, 1) := by decide +kernel
theorem dX12_readOrder_58 : decode cX12_readOrder 58 = .ok (.iconst 3, 1) := by decide +kernel
theorem dX12_readOrder_59 : decode cX12_readOrder 59 = .ok (.aload_n 0, 1) := by decide +kernel
theorem dX12_readOrder_60 : decode cX12_readOrder 60 = .ok (.getfield 388, 3) := by decide +kernel
theorem dX12_readOrder_63 : decode cX12_readOrder 63 = .ok (.imul, 1) := by decide +kernel
theorem dX12_readOrder_64 : decode cX12_readOrder 64 = .ok (.istore_n 2, 1) := by decide +kernel
theorem dX12_readOrder_65 : decode cX12_readOrder 65 = .ok (.aload_n 0, 1) := by decide +kernel
theorem dX12_readOrder_66 : decode cX12_readOrder 66 = .ok (.getfield 38, 3) := by decide +kernel
theorem dX12_readOrder_69 : decode cX12_readOrder 69 = .ok (.iload_n 2, 1) := by decide +kernel
theorem dX12_readOrder_70 : decode cX12_readOrder 70 = .ok (.iload_n 1, 1) := by decide +kernel
theorem dX12_readOrder_71 : decode cX12_readOrder 71 = .ok (.iastore, 1) := by decide +kernel
theorem dX12_readOrder_72 : decode cX12_readOrder 72 = .ok (.aload_n 0, 1) := by decide +kernel
theorem dX12_readOrder_73 : decode cX12_readOrder 73 = .ok (.getfield 38, 3) := by decide +kernel
theorem dX12_readOrder_76 : decode cX12_readOrder 76 = .ok (.iload_n 2, 1) := by decide +kernel
theorem dX12_readOrder_77 : decode cX12_readOrder 77 = .ok (.iconst 1, 1) := by decide +kernel
theorem dX12_readOrder_78 : decode cX12_readOrder 78 = .ok (.iadd, 1) := by decide +kernel
theorem dX12_readOrder_79 : decode cX12_readOrder 79 = .ok (.iload_n 1, 1) := by decide +kernel
theorem dX12_readOrder_80 : decode cX12_readOrder 80 = .ok (.bipush 6, 2) := by decide +kernel
theorem dX12_readOrder_82 : decode cX12_readOrder 82 = .ok (.if_icmp .ne 13, 3) := by decide +kernel
theorem dX12_readOrder_85 : decode cX12_readOrder 85 = .ok (.aload_n 0, 1) := by decide +kernel
theorem dX12_readOrder_86 : decode cX12_readOrder 86 = .ok (.iconst 1, 1) := by decide +kernel
theorem dX12_readOrder_87 : decode cX12_readOrder 87 = .ok (.bipush 24, 2) := by decide +kernel
theorem dX12_readOrder_89 : decode cX12_readOrder 89 = .ok (.invokevirtual 357, 3) := by decide +kernel
theorem dX12_readOrder_92 : decode cX12_readOrder 92 = .ok (.goto 9, 3) := by decide +kernel
theorem dX12_readOrder_95 : decode cX12_readOrder 95 = .ok (.aload_n 0, 1) := by decide +kernel
theorem dX12_readOrder_96 : decode cX12_readOrder 96 = .ok (.iconst 0, 1) := by decide +kernel
theorem dX12_readOrder_97 : decode cX12_readOrder 97 = .ok (.iconst 5, 1) := by decide +kernel
theorem dX12_readOrder_98 : decode cX12_readOrder 98 = .ok (.invokevirtual 357, 3) := by decide +kernel
theorem dX12_readOrder_101 : decode cX12_readOrder 101 = .ok (.iastore, 1) := by decide +kernel
theorem dX12_readOrder_102 : decode cX12_readOrder 102 = .ok (.aload_n 0, 1) := by decide +kernel
theorem dX12_readOrder_103 : decode cX12_readOrder 103 = .ok (.getfield 38, 3) := by decide +kernel
theorem dX12_readOrder_106 : decode cX12_readOrder 106 = .ok (.iload_n 2, 1) := by decide +kernel
theorem dX12_readOrder_107 : decode cX12_readOrder 107 = .ok (.iconst 2, 1) := by decide +kernel
theorem dX12_readOrder_108 : decode cX12_readOrder 108 = .ok (.iadd, 1) := by decide +kernel
theorem dX12_readOrder_109 : decode cX12_readOrder 109 = .ok (.aload_n 0, 1) := by decide +kernel
theorem dX12_readOrder_110 : decode cX12_readOrder 110 = .ok (.iload_n 1, 1) := by decide +kernel
theorem dX12_readOrder_111 : decode cX12_readOrder 111 = .ok (.invokevirtual 391, 3) := by decide +kernel
theorem dX12_readOrder_114 : decode cX12_readOrder 114 = .ok (.iastore, 1) := by decide +kernel
theorem dX12_readOrder_115 : decode cX12_readOrder 115 = .ok (.aload_n 0, 1) := by decide +kernel
theorem dX12_readOrder_116 : decode cX12_readOrder 116 = .ok (.bipush 59, 2) := by decide +kernel
theorem dX12_readOrder_118 : decode cX12_readOrder 118 = .ok (.invokevirtual 365, 3) := by decide +kernel
theorem dX12_readOrder_121 : decode cX12_readOrder 121 = .ok (.aload_n 0, 1) := by decide +kernel
theorem dX12_readOrder_122 : decode cX12_readOrder 122 = .ok (.dup, 1) := by decide +kernel
theorem dX12_readOrder_123 : decode cX12_readOrder 123 = .ok (.getfield 388, 3) := by decide +kernel
theorem dX12_readOrder_126 : decode cX12_readOrder 126 = .ok (.iconst 1, 1) := by decide +kernel
theorem dX12_readOrder_127 : decode cX12_readOrder 127 = .ok (.iadd, 1) := by decide +kernel
theorem dX12_readOrder_128 : decode cX12_readOrder 128 = .ok (.putfield 388, 3) := by decide +kernel
theorem dX12_readOrder_131 : decode cX12_readOrder 131 = .ok (.return_, 1) := by decide +kernel
theorem dX12_does_0 : decode cX12_does 0 = .ok (.aload_n 0, 1) := by decide +kernel
theorem dX12_does_1 : decode cX12_does 1 = .ok (.getfield 38, 3) := by decide +kernel
theorem dX12_does_4 : decode cX12_does 4 = .ok (.iload_n 1, 1) := by decide +kernel
theorem dX12_does_5 : decode cX12_does 5 = .ok (.iconst 1, 1) := by decide +kernel
theorem dX12_does_6 : decode cX12_does 6 = .ok (.iadd, 1) := by decide +kernel
theorem dX12_does_7 : decode cX12_does 7 = .ok (.iaload, 1) := by decide +kernel
theorem dX12_does_8 : decode cX12_does 8 = .ok (.istore_n 2, 1) := by decide +kernel
theorem dX12_does_9 : decode cX12_does 9 = .ok (.aload_n 0, 1) := by decide +kernel
theorem dX12_does_10 : decode cX12_does 10 = .ok (.getfield 38, 3) := by decide +kernel
theorem dX12_does_13 : decode cX12_does 13 = .ok (.iload_n 1, 1) := by decide +kernel
theorem dX12_does_14 : decode cX12_does 14 = .ok (.iconst 2, 1) := by decide +kernel
theorem dX12_does_15 : decode cX12_does 15 = .ok (.iadd, 1) := by decide +kernel
theorem dX12_does_16 : decode cX12_does 16 = .ok (.iaload, 1) := by decide +kernel
theorem dX12_does_17 : decode cX12_does 17 = .ok (.istore_n 3, 1) := by decide +kernel
theorem dX12_does_18 : decode cX12_does 18 = .ok (.aload_n 0, 1) := by decide +kernel
theorem dX12_does_19 : decode cX12_does 19 = .ok (.getfield 38, 3) := by decide +kernel
theorem dX12_does_22 : decode cX12_does 22 = .ok (.iload_n 1, 1) := by decide +kernel
theorem dX12_does_23 : decode cX12_does 23 = .ok (.iaload, 1) := by decide +kernel
theorem dX12_does_24 : decode cX12_does 24 = .ok (.tableswitch 98 0 7 #[48, 55, 62, 68, 74, 80, 86, 92], 48) := by decide +kernel
theorem dX12_does_72 : decode cX12_does 72 = .ok (.aload_n 0, 1) := by decide +kernel
theorem dX12_does_73 : decode cX12_does 73 = .ok (.iload_n 2, 1) := by decide +kernel
theorem dX12_does_74 : decode cX12_does 74 = .ok (.iload_n 3, 1) := by decide +kernel
theorem dX12_does_75 : decode cX12_does 75 = .ok (.invokevirtual 233, 3) := by decide +kernel
theorem dX12_does_78 : decode cX12_does 78 = .ok (.ireturn, 1) := by decide +kernel
theorem dX12_does_79 : decode cX12_does 79 = .ok (.aload_n 0, 1) := by decide +kernel
theorem dX12_does_80 : decode cX12_does 80 = .ok (.iload_n 2, 1) := by decide +kernel
theorem dX12_does_81 : decode cX12_does 81 = .ok (.iload_n 3, 1) := by decide +kernel
theorem dX12_does_82 : decode cX12_does 82 = .ok (.invokevirtual 239, 3) := by decide +kernel
theorem dX12_does_85 : decode cX12_does 85 = .ok (.ireturn, 1) := by decide +kernel
theorem dX12_does_86 : decode cX12_does 86 = .ok (.aload_n 0, 1) := by decide +kernel
theorem dX12_does_87 : decode cX12_does 87 = .ok (.iload_n 2, 1) := by decide +kernel
theorem dX12_does_88 : decode cX12_does 88 = .ok (.invokevirtual 242, 3) := by decide +kernel
theorem dX12_does_91 : decode cX12_does 91 = .ok (.ireturn, 1) := by decide +kernel
theorem dX12_does_92 : decode cX12_does 92 = .ok (.aload_n 0, 1) := by decide +kernel
theorem dX12_does_93 : decode cX12_does 93 = .ok (.iload_n 2, 1) := by decide +kernel
theorem dX12_does_94 : decode cX12_does 94 = .ok (.invokevirtual 245, 3) := by decide +kernel
theorem dX12_does_97 : decode cX12_does 97 = .ok (.ireturn, 1) := by decide +kernel
theorem dX12_does_98 : decode cX12_does 98 = .ok (.aload_n 0, 1) := by decide +kernel
theorem dX12_does_99 : decode cX12_does 99 = .ok (.iload_n 2, 1) := by decide +kernel
theorem dX12_does_100 : decode cX12_does 100 = .ok (.invokevirtual 248, 3) := by decide +kernel
theorem dX12_does_103 : decode cX12_does 103 = .ok (.ireturn, 1) := by decide +kernel
theorem dX12_does_104 : decode cX12_does 104 = .ok (.aload_n 0, 1) := by decide +kernel
theorem dX12_does_105 : decode cX12_does 105 = .ok (.iload_n 2, 1) := by decide +kernel
theorem dX12_does_106 : decode cX12_does 106 = .ok (.invokevirtual 251, 3) := by decide +kernel
theorem dX12_does_109 : decode cX12_does 109 = .ok (.ireturn, 1) := by decide +kernel
theorem dX12_does_110 : decode cX12_does 110 = .ok (.aload_n 0, 1) := by decide +kernel
theorem dX12_does_111 : decode cX12_does 111 = .ok (.iload_n 2, 1) := by decide +kernel
theorem dX12_does_112 : decode cX12_does 112 = .ok (.invokevirtual 254, 3) := by decide +kernel
theorem dX12_does_115 : decode cX12_does 115 = .ok (.ireturn, 1) := by decide +kernel
theorem dX12_does_116 : decode cX12_does 116 = .ok (.aload_n 0, 1) := by decide +kernel
theorem dX12_does_117 : decode cX12_does 117 = .ok (.iload_n 2, 1) := by decide +kernel
theorem dX12_does_118 : decode cX12_does 118 = .ok (.invokevirtual 257, 3) := by decide +kernel
theorem dX12_does_121 : decode cX12_does 121 = .ok (.ireturn, 1) := by decide +kernel
theorem dX12_does_122 : decode cX12_does 122 = .ok (.aload_n 0, 1) := by decide +kernel
theorem dX12_does_123 : decode cX12_does 123 = .ok (.iload_n 2, 1) := by decide +kernel
theorem dX12_does_124 : decode cX12_does 124 = .ok (.iload_n 3, 1) := by decide +kernel
theorem dX12_does_125 : decode cX12_does 125 = .ok (.invokevirtual 260, 3) := by decide +kernel
theorem dX12_does_128 : decode cX12_does 128 = .ok (.ireturn, 1) := by decide +kernel
theorem dX12_runScript_0 : decode cX12_runScript 0 = .ok (.aload_n 0, 1) := by decide +kernel
theorem dX12_runScript_1 : decode cX12_runScript 1 = .ok (.aload_n 0, 1) := by decide +kernel
theorem dX12_runScript_2 : decode cX12_runScript 2 = .ok (.iload_n 1, 1) := by decide +kernel
theorem dX12_runScript_3 : decode cX12_runScript 3 = .ok (.invokevirtual 373, 3) := by decide +kernel
theorem dX12_runScript_6 : decode cX12_runScript 6 = .ok (.invokevirtual 82, 3) := by decide +kernel
theorem dX12_runScript_9 : decode cX12_runScript 9 = .ok (.ifCond .eq 5, 3) := by decide +kernel
theorem dX12_runScript_12 : decode cX12_runScript 12 = .ok (.iconst 0, 1) := by decide +kernel
theorem dX12_runScript_13 : decode cX12_runScript 13 = .ok (.ireturn, 1) := by decide +kernel
theorem dX12_runScript_14 : decode cX12_runScript 14 = .ok (.aload_n 0, 1) := by decide +kernel
theorem dX12_runScript_15 : decode cX12_runScript 15 = .ok (.iconst 0, 1) := by decide +kernel
theorem dX12_runScript_16 : decode cX12_runScript 16 = .ok (.putfield 388, 3) := by decide +kernel
theorem dX12_runScript_19 : decode cX12_runScript 19 = .ok (.aload_n 0, 1) := by decide +kernel
theorem dX12_runScript_20 : decode cX12_runScript 20 = .ok (.iload_n 1, 1) := by decide +kernel
theorem dX12_runScript_21 : decode cX12_runScript 21 = .ok (.invokevirtual 376, 3) := by decide +kernel
theorem dX12_runScript_24 : decode cX12_runScript 24 = .ok (.aload_n 0, 1) := by decide +kernel
theorem dX12_runScript_25 : decode cX12_runScript 25 = .ok (.getfield 303, 3) := by decide +kernel
theorem dX12_runScript_28 : decode cX12_runScript 28 = .ok (.ifCond .ne 17, 3) := by decide +kernel
theorem dX12_runScript_31 : decode cX12_runScript 31 = .ok (.aload_n 0, 1) := by decide +kernel
theorem dX12_runScript_32 : decode cX12_runScript 32 = .ok (.getfield 294, 3) := by decide +kernel
theorem dX12_runScript_35 : decode cX12_runScript 35 = .ok (.ifCond .eq 10, 3) := by decide +kernel
theorem dX12_runScript_38 : decode cX12_runScript 38 = .ok (.aload_n 0, 1) := by decide +kernel
theorem dX12_runScript_39 : decode cX12_runScript 39 = .ok (.invokevirtual 394, 3) := by decide +kernel
theorem dX12_runScript_42 : decode cX12_runScript 42 = .ok (.goto (-18), 3) := by decide +kernel
theorem dX12_runScript_45 : decode cX12_runScript 45 = .ok (.aload_n 0, 1) := by decide +kernel
theorem dX12_runScript_46 : decode cX12_runScript 46 = .ok (.invokevirtual 382, 3) := by decide +kernel
theorem dX12_runScript_49 : decode cX12_runScript 49 = .ok (.ifCond .eq 5, 3) := by decide +kernel
theorem dX12_runScript_52 : decode cX12_runScript 52 = .ok (.iconst (-1), 1) := by decide +kernel
theorem dX12_runScript_53 : decode cX12_runScript 53 = .ok (.ireturn, 1) := by decide +kernel
theorem dX12_runScript_54 : decode cX12_runScript 54 = .ok (.aload_n 0, 1) := by decide +kernel
theorem dX12_runScript_55 : decode cX12_runScript 55 = .ok (.invokevirtual 230, 3) := by decide +kernel
theorem dX12_runScript_58 : decode cX12_runScript 58 = .ok (.aload_n 0, 1) := by decide +kernel
theorem dX12_runScript_59 : decode cX12_runScript 59 = .ok (.invokevirtual 227, 3) := by decide +kernel
theorem dX12_runScript_62 : decode cX12_runScript 62 = .ok (.iconst 0, 1) := by decide +kernel
theorem dX12_runScript_63 : decode cX12_runScript 63 = .ok (.istore_n 2, 1) := by decide +kernel
theorem dX12_runScript_64 : decode cX12_runScript 64 = .ok (.iload_n 2, 1) := by decide +kernel
theorem dX12_runScript_65 : decode cX12_runScript 65 = .ok (.aload_n 0, 1) := by decide +kernel
theorem dX12_runScript_66 : decode cX12_runScript 66 = .ok (.getfield 388, 3) := by decide +kernel
theorem dX12_runScript_69 : decode cX12_runScript 69 = .ok (.if_icmp .ge 19, 3) := by decide +kernel
theorem dX12_runScript_72 : decode cX12_runScript 72 = .ok (.aload_n 0, 1) := by decide +kernel
theorem dX12_runScript_73 : decode cX12_runScript 73 = .ok (.iconst 3, 1) := by decide +kernel
theorem dX12_runScript_74 : decode cX12_runScript 74 = .ok (.iload_n 2, 1) := by decide +kernel
theorem dX12_runScript_75 : decode cX12_runScript 75 = .ok (.imul, 1) := by decide +kernel
theorem dX12_runScript_76 : decode cX12_runScript 76 = .ok (.invokevirtual 397, 3) := by decide +kernel
theorem dX12_runScript_79 : decode cX12_runScript 79 = .ok (.ifCond .ne 9, 3) := by decide +kernel
theorem dX12_runScript_82 : decode cX12_runScript 82 = .ok (.iinc 2 1, 3) := by decide +kernel
theorem dX12_runScript_85 : decode cX12_runScript 85 = .ok (.goto (-21), 3) := by decide +kernel
theorem dX12_runScript_88 : decode cX12_runScript 88 = .ok (.iload_n 2, 1) := by decide +kernel
theorem dX12_runScript_89 : decode cX12_runScript 89 = .ok (.ireturn, 1) := by decide +kernel
