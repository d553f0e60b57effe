theorem dL_most_0 : decode cL_most 0 = .ok (.iload_n 0, 1) := by decide +kernel
theorem dL_most_1 : decode cL_most 1 = .ok (.ldc 7, 2) := by decide +kernel
theorem dL_most_3 : decode cL_most 3 = .ok (.iand, 1) := by decide +kernel
theorem dL_most_4 : decode cL_most 4 = .ok (.iload_n 1, 1) := by decide +kernel
theorem dL_most_5 : decode cL_most 5 = .ok (.irem, 1) := by decide +kernel
theorem dL_most_6 : decode cL_most 6 = .ok (.ireturn, 1) := by decide +kernel
theorem dL_cell_0 : decode cL_cell 0 = .ok (.iload_n 1, 1) := by decide +kernel
theorem dL_cell_1 : decode cL_cell 1 = .ok (.aload_n 0, 1) := by decide +kernel
theorem dL_cell_2 : decode cL_cell 2 = .ok (.arraylength, 1) := by decide +kernel
theorem dL_cell_3 : decode cL_cell 3 = .ok (.if_icmp .ge 9, 3) := by decide +kernel
theorem dL_cell_6 : decode cL_cell 6 = .ok (.aload_n 0, 1) := by decide +kernel
theorem dL_cell_7 : decode cL_cell 7 = .ok (.iload_n 1, 1) := by decide +kernel
theorem dL_cell_8 : decode cL_cell 8 = .ok (.iaload, 1) := by decide +kernel
theorem dL_cell_9 : decode cL_cell 9 = .ok (.goto 7, 3) := by decide +kernel
theorem dL_cell_12 : decode cL_cell 12 = .ok (.bipush 37, 2) := by decide +kernel
theorem dL_cell_14 : decode cL_cell 14 = .ok (.iload_n 1, 1) := by decide +kernel
theorem dL_cell_15 : decode cL_cell 15 = .ok (.imul, 1) := by decide +kernel
theorem dL_cell_16 : decode cL_cell 16 = .ok (.ireturn, 1) := by decide +kernel
theorem dL_add_0 : decode cL_add 0 = .ok (.aload_n 1, 1) := by decide +kernel
theorem dL_add_1 : decode cL_add 1 = .ok (.aload_n 1, 1) := by decide +kernel
theorem dL_add_2 : decode cL_add 2 = .ok (.iconst 5, 1) := by decide +kernel
theorem dL_add_3 : decode cL_add 3 = .ok (.iaload, 1) := by decide +kernel
theorem dL_add_4 : decode cL_add 4 = .ok (.bipush 20, 2) := by decide +kernel
theorem dL_add_6 : decode cL_add 6 = .ok (.irem, 1) := by decide +kernel
theorem dL_add_7 : decode cL_add 7 = .ok (.iconst 4, 1) := by decide +kernel
theorem dL_add_8 : decode cL_add 8 = .ok (.idiv, 1) := by decide +kernel
theorem dL_add_9 : decode cL_add 9 = .ok (.dup2, 1) := by decide +kernel
theorem dL_add_10 : decode cL_add 10 = .ok (.iaload, 1) := by decide +kernel
theorem dL_add_11 : decode cL_add 11 = .ok (.iload_n 2, 1) := by decide +kernel
theorem dL_add_12 : decode cL_add 12 = .ok (.bipush 24, 2) := by decide +kernel
theorem dL_add_14 : decode cL_add 14 = .ok (.bipush 8, 2) := by decide +kernel
theorem dL_add_16 : decode cL_add 16 = .ok (.aload_n 1, 1) := by decide +kernel
theorem dL_add_17 : decode cL_add 17 = .ok (.iconst 5, 1) := by decide +kernel
theorem dL_add_18 : decode cL_add 18 = .ok (.iaload, 1) := by decide +kernel
theorem dL_add_19 : decode cL_add 19 = .ok (.iconst 4, 1) := by decide +kernel
theorem dL_add_20 : decode cL_add 20 = .ok (.irem, 1) := by decide +kernel
theorem dL_add_21 : decode cL_add 21 = .ok (.imul, 1) := by decide +kernel
theorem dL_add_22 : decode cL_add 22 = .ok (.isub, 1) := by decide +kernel
theorem dL_add_23 : decode cL_add 23 = .ok (.ishl, 1) := by decide +kernel
theorem dL_add_24 : decode cL_add 24 = .ok (.ior, 1) := by decide +kernel
theorem dL_add_25 : decode cL_add 25 = .ok (.iastore, 1) := by decide +kernel
theorem dL_add_26 : decode cL_add 26 = .ok (.aload_n 1, 1) := by decide +kernel
theorem dL_add_27 : decode cL_add 27 = .ok (.iconst 5, 1) := by decide +kernel
theorem dL_add_28 : decode cL_add 28 = .ok (.dup2, 1) := by decide +kernel
theorem dL_add_29 : decode cL_add 29 = .ok (.iaload, 1) := by decide +kernel
theorem dL_add_30 : decode cL_add 30 = .ok (.iconst 1, 1) := by decide +kernel
theorem dL_add_31 : decode cL_add 31 = .ok (.iadd, 1) := by decide +kernel
theorem dL_add_32 : decode cL_add 32 = .ok (.iastore, 1) := by decide +kernel
theorem dL_add_33 : decode cL_add 33 = .ok (.aload_n 1, 1) := by decide +kernel
theorem dL_add_34 : decode cL_add 34 = .ok (.iconst 5, 1) := by decide +kernel
theorem dL_add_35 : decode cL_add 35 = .ok (.iaload, 1) := by decide +kernel
theorem dL_add_36 : decode cL_add 36 = .ok (.bipush 20, 2) := by decide +kernel
theorem dL_add_38 : decode cL_add 38 = .ok (.irem, 1) := by decide +kernel
theorem dL_add_39 : decode cL_add 39 = .ok (.ifCond .eq 4, 3) := by decide +kernel
theorem dL_add_42 : decode cL_add 42 = .ok (.return_, 1) := by decide +kernel
theorem dL_add_43 : decode cL_add 43 = .ok (.aload_n 0, 1) := by decide +kernel
theorem dL_add_44 : decode cL_add 44 = .ok (.aload_n 1, 1) := by decide +kernel
theorem dL_add_45 : decode cL_add 45 = .ok (.iconst 0, 1) := by decide +kernel
theorem dL_add_46 : decode cL_add 46 = .ok (.iaload, 1) := by decide +kernel
theorem dL_add_47 : decode cL_add 47 = .ok (.aload_n 1, 1) := by decide +kernel
theorem dL_add_48 : decode cL_add 48 = .ok (.iconst 1, 1) := by decide +kernel
theorem dL_add_49 : decode cL_add 49 = .ok (.iaload, 1) := by decide +kernel
theorem dL_add_50 : decode cL_add 50 = .ok (.aload_n 1, 1) := by decide +kernel
theorem dL_add_51 : decode cL_add 51 = .ok (.iconst 2, 1) := by decide +kernel
theorem dL_add_52 : decode cL_add 52 = .ok (.iaload, 1) := by decide +kernel
theorem dL_add_53 : decode cL_add 53 = .ok (.aload_n 1, 1) := by decide +kernel
theorem dL_add_54 : decode cL_add 54 = .ok (.iconst 3, 1) := by decide +kernel
theorem dL_add_55 : decode cL_add 55 = .ok (.iaload, 1) := by decide +kernel
theorem dL_add_56 : decode cL_add 56 = .ok (.aload_n 1, 1) := by decide +kernel
theorem dL_add_57 : decode cL_add 57 = .ok (.iconst 4, 1) := by decide +kernel
theorem dL_add_58 : decode cL_add 58 = .ok (.iaload, 1) := by decide +kernel
theorem dL_add_59 : decode cL_add 59 = .ok (.invokevirtual 8, 3) := by decide +kernel
theorem dL_add_62 : decode cL_add 62 = .ok (.pop, 1) := by decide +kernel
theorem dL_add_63 : decode cL_add 63 = .ok (.iconst 0, 1) := by decide +kernel
theorem dL_add_64 : decode cL_add 64 = .ok (.istore_n 3, 1) := by decide +kernel
theorem dL_add_65 : decode cL_add 65 = .ok (.iload_n 3, 1) := by decide +kernel
theorem dL_add_66 : decode cL_add 66 = .ok (.iconst 5, 1) := by decide +kernel
theorem dL_add_67 : decode cL_add 67 = .ok (.if_icmp .ge 13, 3) := by decide +kernel
theorem dL_add_70 : decode cL_add 70 = .ok (.aload_n 1, 1) := by decide +kernel
theorem dL_add_71 : decode cL_add 71 = .ok (.iload_n 3, 1) := by decide +kernel
theorem dL_add_72 : decode cL_add 72 = .ok (.iconst 0, 1) := by decide +kernel
theorem dL_add_73 : decode cL_add 73 = .ok (.iastore, 1) := by decide +kernel
theorem dL_add_74 : decode cL_add 74 = .ok (.iinc 3 1, 3) := by decide +kernel
theorem dL_add_77 : decode cL_add 77 = .ok (.goto (-12), 3) := by decide +kernel
theorem dL_add_80 : decode cL_add 80 = .ok (.return_, 1) := by decide +kernel
theorem dL_say_0 : decode cL_say 0 = .ok (.iconst 0, 1) := by decide +kernel
theorem dL_say_1 : decode cL_say 1 = .ok (.istore_n 3, 1) := by decide +kernel
theorem dL_say_2 : decode cL_say 2 = .ok (.iload_n 3, 1) := by decide +kernel
theorem dL_say_3 : decode cL_say 3 = .ok (.aload_n 2, 1) := by decide +kernel
theorem dL_say_4 : decode cL_say 4 = .ok (.invokevirtual 14, 3) := by decide +kernel
theorem dL_say_7 : decode cL_say 7 = .ok (.if_icmp .ge 19, 3) := by decide +kernel
theorem dL_say_10 : decode cL_say 10 = .ok (.aload_n 0, 1) := by decide +kernel
theorem dL_say_11 : decode cL_say 11 = .ok (.aload_n 1, 1) := by decide +kernel
theorem dL_say_12 : decode cL_say 12 = .ok (.aload_n 2, 1) := by decide +kernel
theorem dL_say_13 : decode cL_say 13 = .ok (.iload_n 3, 1) := by decide +kernel
theorem dL_say_14 : decode cL_say 14 = .ok (.invokevirtual 20, 3) := by decide +kernel
theorem dL_say_17 : decode cL_say 17 = .ok (.invokestatic 24, 3) := by decide +kernel
theorem dL_say_20 : decode cL_say 20 = .ok (.iinc 3 1, 3) := by decide +kernel
theorem dL_say_23 : decode cL_say 23 = .ok (.goto (-21), 3) := by decide +kernel
theorem dL_say_26 : decode cL_say 26 = .ok (.return_, 1) := by decide +kernel
