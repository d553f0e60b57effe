theorem dX11_isFactor_0 : decode cX11_isFactor 0 = .ok (.iload_n 0, 1) := by decide +kernel
theorem dX11_isFactor_1 : decode cX11_isFactor 1 = .ok (.iconst 2, 1) := by decide +kernel
theorem dX11_isFactor_2 : decode cX11_isFactor 2 = .ok (.if_icmp .lt 12, 3) := by decide +kernel
theorem dX11_isFactor_5 : decode cX11_isFactor 5 = .ok (.iload_n 0, 1) := by decide +kernel
theorem dX11_isFactor_6 : decode cX11_isFactor 6 = .ok (.iconst 4, 1) := by decide +kernel
theorem dX11_isFactor_7 : decode cX11_isFactor 7 = .ok (.if_icmp .gt 7, 3) := by decide +kernel
theorem dX11_isFactor_10 : decode cX11_isFactor 10 = .ok (.iconst 1, 1) := by decide +kernel
theorem dX11_isFactor_11 : decode cX11_isFactor 11 = .ok (.goto 4, 3) := by decide +kernel
theorem dX11_isFactor_14 : decode cX11_isFactor 14 = .ok (.iconst 0, 1) := by decide +kernel
theorem dX11_isFactor_15 : decode cX11_isFactor 15 = .ok (.ireturn, 1) := by decide +kernel
theorem dX11_layersFolded_0 : decode cX11_layersFolded 0 = .ok (.iload_n 1, 1) := by decide +kernel
theorem dX11_layersFolded_1 : decode cX11_layersFolded 1 = .ok (.iconst 1, 1) := by decide +kernel
theorem dX11_layersFolded_2 : decode cX11_layersFolded 2 = .ok (.isub, 1) := by decide +kernel
theorem dX11_layersFolded_3 : decode cX11_layersFolded 3 = .ok (.istore_n 3, 1) := by decide +kernel
theorem dX11_layersFolded_4 : decode cX11_layersFolded 4 = .ok (.iload_n 0, 1) := by decide +kernel
theorem dX11_layersFolded_5 : decode cX11_layersFolded 5 = .ok (.iload_n 1, 1) := by decide +kernel
theorem dX11_layersFolded_6 : decode cX11_layersFolded 6 = .ok (.imul, 1) := by decide +kernel
theorem dX11_layersFolded_7 : decode cX11_layersFolded 7 = .ok (.iload_n 2, 1) := by decide +kernel
theorem dX11_layersFolded_8 : decode cX11_layersFolded 8 = .ok (.ifCond .eq 7, 3) := by decide +kernel
theorem dX11_layersFolded_11 : decode cX11_layersFolded 11 = .ok (.iconst 0, 1) := by decide +kernel
theorem dX11_layersFolded_12 : decode cX11_layersFolded 12 = .ok (.goto 4, 3) := by decide +kernel
theorem dX11_layersFolded_15 : decode cX11_layersFolded 15 = .ok (.iload_n 3, 1) := by decide +kernel
theorem dX11_layersFolded_16 : decode cX11_layersFolded 16 = .ok (.isub, 1) := by decide +kernel
theorem dX11_layersFolded_17 : decode cX11_layersFolded 17 = .ok (.ireturn, 1) := by decide +kernel
theorem dX11_warmedByWork_0 : decode cX11_warmedByWork 0 = .ok (.bipush 40, 2) := by decide +kernel
theorem dX11_warmedByWork_2 : decode cX11_warmedByWork 2 = .ok (.iload_n 0, 1) := by decide +kernel
theorem dX11_warmedByWork_3 : decode cX11_warmedByWork 3 = .ok (.iconst 2, 1) := by decide +kernel
theorem dX11_warmedByWork_4 : decode cX11_warmedByWork 4 = .ok (.iadd, 1) := by decide +kernel
theorem dX11_warmedByWork_5 : decode cX11_warmedByWork 5 = .ok (.invokestatic 359, 3) := by decide +kernel
theorem dX11_warmedByWork_8 : decode cX11_warmedByWork 8 = .ok (.ireturn, 1) := by decide +kernel
theorem dX11_cooledByFridge_0 : decode cX11_cooledByFridge 0 = .ok (.iload_n 0, 1) := by decide +kernel
theorem dX11_cooledByFridge_1 : decode cX11_cooledByFridge 1 = .ok (.iconst 4, 1) := by decide +kernel
theorem dX11_cooledByFridge_2 : decode cX11_cooledByFridge 2 = .ok (.if_icmp .gt 5, 3) := by decide +kernel
theorem dX11_cooledByFridge_5 : decode cX11_cooledByFridge 5 = .ok (.iload_n 0, 1) := by decide +kernel
theorem dX11_cooledByFridge_6 : decode cX11_cooledByFridge 6 = .ok (.ireturn, 1) := by decide +kernel
theorem dX11_cooledByFridge_7 : decode cX11_cooledByFridge 7 = .ok (.iconst 4, 1) := by decide +kernel
theorem dX11_cooledByFridge_8 : decode cX11_cooledByFridge 8 = .ok (.iload_n 0, 1) := by decide +kernel
theorem dX11_cooledByFridge_9 : decode cX11_cooledByFridge 9 = .ok (.iconst 4, 1) := by decide +kernel
theorem dX11_cooledByFridge_10 : decode cX11_cooledByFridge 10 = .ok (.isub, 1) := by decide +kernel
theorem dX11_cooledByFridge_11 : decode cX11_cooledByFridge 11 = .ok (.invokestatic 364, 3) := by decide +kernel
theorem dX11_cooledByFridge_14 : decode cX11_cooledByFridge 14 = .ok (.ireturn, 1) := by decide +kernel
theorem dX11_drawnToRoom_0 : decode cX11_drawnToRoom 0 = .ok (.iload_n 0, 1) := by decide +kernel
theorem dX11_drawnToRoom_1 : decode cX11_drawnToRoom 1 = .ok (.iload_n 1, 1) := by decide +kernel
theorem dX11_drawnToRoom_2 : decode cX11_drawnToRoom 2 = .ok (.if_icmp .ne 5, 3) := by decide +kernel
theorem dX11_drawnToRoom_5 : decode cX11_drawnToRoom 5 = .ok (.iload_n 0, 1) := by decide +kernel
theorem dX11_drawnToRoom_6 : decode cX11_drawnToRoom 6 = .ok (.ireturn, 1) := by decide +kernel
theorem dX11_drawnToRoom_7 : decode cX11_drawnToRoom 7 = .ok (.iload_n 0, 1) := by decide +kernel
theorem dX11_drawnToRoom_8 : decode cX11_drawnToRoom 8 = .ok (.iload_n 1, 1) := by decide +kernel
theorem dX11_drawnToRoom_9 : decode cX11_drawnToRoom 9 = .ok (.if_icmp .ge 9, 3) := by decide +kernel
theorem dX11_drawnToRoom_12 : decode cX11_drawnToRoom 12 = .ok (.iload_n 0, 1) := by decide +kernel
theorem dX11_drawnToRoom_13 : decode cX11_drawnToRoom 13 = .ok (.iconst 1, 1) := by decide +kernel
theorem dX11_drawnToRoom_14 : decode cX11_drawnToRoom 14 = .ok (.iadd, 1) := by decide +kernel
theorem dX11_drawnToRoom_15 : decode cX11_drawnToRoom 15 = .ok (.goto 6, 3) := by decide +kernel
theorem dX11_drawnToRoom_18 : decode cX11_drawnToRoom 18 = .ok (.iload_n 0, 1) := by decide +kernel
theorem dX11_drawnToRoom_19 : decode cX11_drawnToRoom 19 = .ok (.iconst 1, 1) := by decide +kernel
theorem dX11_drawnToRoom_20 : decode cX11_drawnToRoom 20 = .ok (.isub, 1) := by decide +kernel
theorem dX11_drawnToRoom_21 : decode cX11_drawnToRoom 21 = .ok (.ireturn, 1) := by decide +kernel
theorem dX11_init_0 : decode cX11_init 0 = .ok (.aload_n 0, 1) := by decide +kernel
theorem dX11_init_1 : decode cX11_init 1 = .ok (.invokespecial 1, 3) := by decide +kernel
theorem dX11_init_4 : decode cX11_init 4 = .ok (.aload_n 0, 1) := by decide +kernel
theorem dX11_init_5 : decode cX11_init 5 = .ok (.sipush 500, 3) := by decide +kernel
theorem dX11_init_8 : decode cX11_init 8 = .ok (.newarray .int, 2) := by decide +kernel
theorem dX11_init_10 : decode cX11_init 10 = .ok (.putfield 9, 3) := by decide +kernel
theorem dX11_init_13 : decode cX11_init 13 = .ok (.aload_n 0, 1) := by decide +kernel
theorem dX11_init_14 : decode cX11_init 14 = .ok (.new 13, 3) := by decide +kernel
theorem dX11_init_17 : decode cX11_init 17 = .ok (.dup, 1) := by decide +kernel
theorem dX11_init_18 : decode cX11_init 18 = .ok (.invokespecial 15, 3) := by decide +kernel
theorem dX11_init_21 : decode cX11_init 21 = .ok (.putfield 16, 3) := by decide +kernel
theorem dX11_init_24 : decode cX11_init 24 = .ok (.aload_n 0, 1) := by decide +kernel
theorem dX11_init_25 : decode cX11_init 25 = .ok (.new 20, 3) := by decide +kernel
theorem dX11_init_28 : decode cX11_init 28 = .ok (.dup, 1) := by decide +kernel
theorem dX11_init_29 : decode cX11_init 29 = .ok (.invokespecial 22, 3) := by decide +kernel
theorem dX11_init_32 : decode cX11_init 32 = .ok (.putfield 23, 3) := by decide +kernel
theorem dX11_init_35 : decode cX11_init 35 = .ok (.aload_n 0, 1) := by decide +kernel
theorem dX11_init_36 : decode cX11_init 36 = .ok (.invokestatic 27, 3) := by decide +kernel
theorem dX11_init_39 : decode cX11_init 39 = .ok (.putfield 33, 3) := by decide +kernel
theorem dX11_init_42 : decode cX11_init 42 = .ok (.aload_n 0, 1) := by decide +kernel
theorem dX11_init_43 : decode cX11_init 43 = .ok (.new 28, 3) := by decide +kernel
theorem dX11_init_46 : decode cX11_init 46 = .ok (.dup, 1) := by decide +kernel
theorem dX11_init_47 : decode cX11_init 47 = .ok (.invokespecial 37, 3) := by decide +kernel
theorem dX11_init_50 : decode cX11_init 50 = .ok (.putfield 38, 3) := by decide +kernel
theorem dX11_init_53 : decode cX11_init 53 = .ok (.aload_n 0, 1) := by decide +kernel
theorem dX11_init_54 : decode cX11_init 54 = .ok (.new 28, 3) := by decide +kernel
theorem dX11_init_57 : decode cX11_init 57 = .ok (.dup, 1) := by decide +kernel
theorem dX11_init_58 : decode cX11_init 58 = .ok (.invokespecial 37, 3) := by decide +kernel
theorem dX11_init_61 : decode cX11_init 61 = .ok (.putfield 41, 3) := by decide +kernel
theorem dX11_init_64 : decode cX11_init 64 = .ok (.aload_n 0, 1) := by decide +kernel
theorem dX11_init_65 : decode cX11_init 65 = .ok (.new 44, 3) := by decide +kernel
theorem dX11_init_68 : decode cX11_init 68 = .ok (.dup, 1) := by decide +kernel
theorem dX11_init_69 : decode cX11_init 69 = .ok (.invokespecial 46, 3) := by decide +kernel
theorem dX11_init_72 : decode cX11_init 72 = .ok (.putfield 47, 3) := by decide +kernel
theorem dX11_init_75 : decode cX11_init 75 = .ok (.aload_n 0, 1) := by decide +kernel
theorem dX11_init_76 : decode cX11_init 76 = .ok (.new 51, 3) := by decide +kernel
theorem dX11_init_79 : decode cX11_init 79 = .ok (.dup, 1) := by decide +kernel
theorem dX11_init_80 : decode cX11_init 80 = .ok (.invokespecial 53, 3) := by decide +kernel
theorem dX11_init_83 : decode cX11_init 83 = .ok (.putfield 54, 3) := by decide +kernel
theorem dX11_init_86 : decode cX11_init 86 = .ok (.return_, 1) := by decide +kernel
theorem dX11_appendWord_0 : decode cX11_appendWord 0 = .ok (.bipush 24, 2) := by decide +kernel
theorem dX11_appendWord_2 : decode cX11_appendWord 2 = .ok (.istore_n 2, 1) := by decide +kernel
theorem dX11_appendWord_3 : decode cX11_appendWord 3 = .ok (.iload_n 2, 1) := by decide +kernel
theorem dX11_appendWord_4 : decode cX11_appendWord 4 = .ok (.ifCond .lt 45, 3) := by decide +kernel
theorem dX11_appendWord_7 : decode cX11_appendWord 7 = .ok (.aload_n 0, 1) := by decide +kernel
theorem dX11_appendWord_8 : decode cX11_appendWord 8 = .ok (.getfield 58, 3) := by decide +kernel
theorem dX11_appendWord_11 : decode cX11_appendWord 11 = .ok (.sipush 500, 3) := by decide +kernel
theorem dX11_appendWord_14 : decode cX11_appendWord 14 = .ok (.if_icmp .ge 35, 3) := by decide +kernel
theorem dX11_appendWord_17 : decode cX11_appendWord 17 = .ok (.aload_n 0, 1) := by decide +kernel
theorem dX11_appendWord_18 : decode cX11_appendWord 18 = .ok (.getfield 9, 3) := by decide +kernel
theorem dX11_appendWord_21 : decode cX11_appendWord 21 = .ok (.aload_n 0, 1) := by decide +kernel
theorem dX11_appendWord_22 : decode cX11_appendWord 22 = .ok (.getfield 58, 3) := by decide +kernel
theorem dX11_appendWord_25 : decode cX11_appendWord 25 = .ok (.iload_n 1, 1) := by decide +kernel
theorem dX11_appendWord_26 : decode cX11_appendWord 26 = .ok (.iload_n 2, 1) := by decide +kernel
theorem dX11_appendWord_27 : decode cX11_appendWord 27 = .ok (.iushr, 1) := by decide +kernel
theorem dX11_appendWord_28 : decode cX11_appendWord 28 = .ok (.sipush 255, 3) := by decide +kernel
theorem dX11_appendWord_31 : decode cX11_appendWord 31 = .ok (.iand, 1) := by decide +kernel
theorem dX11_appendWord_32 : decode cX11_appendWord 32 = .ok (.iastore, 1) := by decide +kernel
theorem dX11_appendWord_33 : decode cX11_appendWord 33 = .ok (.aload_n 0, 1) := by decide +kernel
theorem dX11_appendWord_34 : decode cX11_appendWord 34 = .ok (.dup, 1) := by decide +kernel
theorem dX11_appendWord_35 : decode cX11_appendWord 35 = .ok (.getfield 58, 3) := by decide +kernel
theorem dX11_appendWord_38 : decode cX11_appendWord 38 = .ok (.iconst 1, 1) := by decide +kernel
theorem dX11_appendWord_39 : decode cX11_appendWord 39 = .ok (.iadd, 1) := by decide +kernel
theorem dX11_appendWord_40 : decode cX11_appendWord 40 = .ok (.putfield 58, 3) := by decide +kernel
theorem dX11_appendWord_43 : decode cX11_appendWord 43 = .ok (.iinc 2 (-8), 3) := by decide +kernel
theorem dX11_appendWord_46 : decode cX11_appendWord 46 = .ok (.goto (-43), 3) := by decide +kernel
theorem dX11_appendWord_49 : decode cX11_appendWord 49 = .ok (.return_, 1) := by decide +kernel
theorem dX11_appendText_0 : decode cX11_appendText 0 = .ok (.aload_n 0, 1) := by decide +kernel
theorem dX11_appendText_1 : decode cX11_appendText 1 = .ok (.getfield 58, 3) := by decide +kernel
theorem dX11_appendText_4 : decode cX11_appendText 4 = .ok (.bipush 20, 2) := by decide +kernel
theorem dX11_appendText_6 : decode cX11_appendText 6 = .ok (.iadd, 1) := by decide +kernel
theorem dX11_appendText_7 : decode cX11_appendText 7 = .ok (.sipush 500, 3) := by decide +kernel
theorem dX11_appendText_10 : decode cX11_appendText 10 = .ok (.if_icmp .le 5, 3) := by decide +kernel
theorem dX11_appendText_13 : decode cX11_appendText 13 = .ok (.iconst (-1), 1) := by decide +kernel
theorem dX11_appendText_14 : decode cX11_appendText 14 = .ok (.ireturn, 1) := by decide +kernel
theorem dX11_appendText_15 : decode cX11_appendText 15 = .ok (.aload_n 0, 1) := by decide +kernel
theorem dX11_appendText_16 : decode cX11_appendText 16 = .ok (.iload_n 1, 1) := by decide +kernel
theorem dX11_appendText_17 : decode cX11_appendText 17 = .ok (.invokevirtual 62, 3) := by decide +kernel
theorem dX11_appendText_20 : decode cX11_appendText 20 = .ok (.aload_n 0, 1) := by decide +kernel
theorem dX11_appendText_21 : decode cX11_appendText 21 = .ok (.iload_n 2, 1) := by decide +kernel
theorem dX11_appendText_22 : decode cX11_appendText 22 = .ok (.invokevirtual 62, 3) := by decide +kernel
theorem dX11_appendText_25 : decode cX11_appendText 25 = .ok (.aload_n 0, 1) := by decide +kernel
theorem dX11_appendText_26 : decode cX11_appendText 26 = .ok (.iload_n 3, 1) := by decide +kernel
theorem dX11_appendText_27 : decode cX11_appendText 27 = .ok (.invokevirtual 62, 3) := by decide +kernel
theorem dX11_appendText_30 : decode cX11_appendText 30 = .ok (.aload_n 0, 1) := by decide +kernel
theorem dX11_appendText_31 : decode cX11_appendText 31 = .ok (.iload 4, 2) := by decide +kernel
theorem dX11_appendText_33 : decode cX11_appendText 33 = .ok (.invokevirtual 62, 3) := by decide +kernel
theorem dX11_appendText_36 : decode cX11_appendText 36 = .ok (.aload_n 0, 1) := by decide +kernel
theorem dX11_appendText_37 : decode cX11_appendText 37 = .ok (.iload 5, 2) := by decide +kernel
theorem dX11_appendText_39 : decode cX11_appendText 39 = .ok (.invokevirtual 62, 3) := by decide +kernel
theorem dX11_appendText_42 : decode cX11_appendText 42 = .ok (.aload_n 0, 1) := by decide +kernel
theorem dX11_appendText_43 : decode cX11_appendText 43 = .ok (.getfield 58, 3) := by decide +kernel
theorem dX11_appendText_46 : decode cX11_appendText 46 = .ok (.ireturn, 1) := by decide +kernel
theorem dX11_requireLength_0 : decode cX11_requireLength 0 = .ok (.iload_n 1, 1) := by decide +kernel
theorem dX11_requireLength_1 : decode cX11_requireLength 1 = .ok (.ifCond .lt 11, 3) := by decide +kernel
theorem dX11_requireLength_4 : decode cX11_requireLength 4 = .ok (.iload_n 1, 1) := by decide +kernel
theorem dX11_requireLength_5 : decode cX11_requireLength 5 = .ok (.aload_n 0, 1) := by decide +kernel
theorem dX11_requireLength_6 : decode cX11_requireLength 6 = .ok (.getfield 58, 3) := by decide +kernel
theorem dX11_requireLength_9 : decode cX11_requireLength 9 = .ok (.if_icmp .le 14, 3) := by decide +kernel
theorem dX11_requireLength_12 : decode cX11_requireLength 12 = .ok (.new 202, 3) := by decide +kernel
theorem dX11_requireLength_15 : decode cX11_requireLength 15 = .ok (.dup, 1) := by decide +kernel
theorem dX11_requireLength_16 : decode cX11_requireLength 16 = .ok (.ldc_w 324, 3) := by decide +kernel
theorem dX11_requireLength_19 : decode cX11_requireLength 19 = .ok (.invokespecial 206, 3) := by decide +kernel
theorem dX11_requireLength_22 : decode cX11_requireLength 22 = .ok (.athrow, 1) := by decide +kernel
theorem dX11_requireLength_23 : decode cX11_requireLength 23 = .ok (.return_, 1) := by decide +kernel
theorem dX11_loadBench_0 : decode cX11_loadBench 0 = .ok (.aload_n 0, 1) := by decide +kernel
theorem dX11_loadBench_1 : decode cX11_loadBench 1 = .ok (.iload_n 1, 1) := by decide +kernel
theorem dX11_loadBench_2 : decode cX11_loadBench 2 = .ok (.invokevirtual 66, 3) := by decide +kernel
theorem dX11_loadBench_5 : decode cX11_loadBench 5 = .ok (.aload_n 0, 1) := by decide +kernel
theorem dX11_loadBench_6 : decode cX11_loadBench 6 = .ok (.getfield 16, 3) := by decide +kernel
theorem dX11_loadBench_9 : decode cX11_loadBench 9 = .ok (.aload_n 0, 1) := by decide +kernel
theorem dX11_loadBench_10 : decode cX11_loadBench 10 = .ok (.getfield 9, 3) := by decide +kernel
theorem dX11_loadBench_13 : decode cX11_loadBench 13 = .ok (.iload_n 1, 1) := by decide +kernel
theorem dX11_loadBench_14 : decode cX11_loadBench 14 = .ok (.aload_n 0, 1) := by decide +kernel
theorem dX11_loadBench_15 : decode cX11_loadBench 15 = .ok (.getfield 38, 3) := by decide +kernel
theorem dX11_loadBench_18 : decode cX11_loadBench 18 = .ok (.invokevirtual 69, 3) := by decide +kernel
theorem dX11_loadBench_21 : decode cX11_loadBench 21 = .ok (.istore_n 2, 1) := by decide +kernel
theorem dX11_loadBench_22 : decode cX11_loadBench 22 = .ok (.aload_n 0, 1) := by decide +kernel
theorem dX11_loadBench_23 : decode cX11_loadBench 23 = .ok (.iconst 0, 1) := by decide +kernel
theorem dX11_loadBench_24 : decode cX11_loadBench 24 = .ok (.putfield 58, 3) := by decide +kernel
theorem dX11_loadBench_27 : decode cX11_loadBench 27 = .ok (.iload_n 2, 1) := by decide +kernel
theorem dX11_loadBench_28 : decode cX11_loadBench 28 = .ok (.ifCond .ne 5, 3) := by decide +kernel
theorem dX11_loadBench_31 : decode cX11_loadBench 31 = .ok (.iconst (-1), 1) := by decide +kernel
theorem dX11_loadBench_32 : decode cX11_loadBench 32 = .ok (.ireturn, 1) := by decide +kernel
theorem dX11_loadBench_33 : decode cX11_loadBench 33 = .ok (.aload_n 0, 1) := by decide +kernel
theorem dX11_loadBench_34 : decode cX11_loadBench 34 = .ok (.getfield 33, 3) := by decide +kernel
theorem dX11_loadBench_37 : decode cX11_loadBench 37 = .ok (.aload_n 0, 1) := by decide +kernel
theorem dX11_loadBench_38 : decode cX11_loadBench 38 = .ok (.getfield 38, 3) := by decide +kernel
theorem dX11_loadBench_41 : decode cX11_loadBench 41 = .ok (.invokevirtual 73, 3) := by decide +kernel
theorem dX11_loadBench_44 : decode cX11_loadBench 44 = .ok (.aload_n 0, 1) := by decide +kernel
theorem dX11_loadBench_45 : decode cX11_loadBench 45 = .ok (.getfield 47, 3) := by decide +kernel
theorem dX11_loadBench_48 : decode cX11_loadBench 48 = .ok (.invokevirtual 77, 3) := by decide +kernel
theorem dX11_loadBench_51 : decode cX11_loadBench 51 = .ok (.aload_n 0, 1) := by decide +kernel
theorem dX11_loadBench_52 : decode cX11_loadBench 52 = .ok (.iconst 0, 1) := by decide +kernel
theorem dX11_loadBench_53 : decode cX11_loadBench 53 = .ok (.putfield 80, 3) := by decide +kernel
theorem dX11_loadBench_56 : decode cX11_loadBench 56 = .ok (.aload_n 0, 1) := by decide +kernel
theorem dX11_loadBench_57 : decode cX11_loadBench 57 = .ok (.getfield 33, 3) := by decide +kernel
theorem dX11_loadBench_60 : decode cX11_loadBench 60 = .ok (.getfield 84, 3) := by decide +kernel
theorem dX11_loadBench_63 : decode cX11_loadBench 63 = .ok (.ireturn, 1) := by decide +kernel
theorem dX11_sheetCount_0 : decode cX11_sheetCount 0 = .ok (.aload_n 0, 1) := by decide +kernel
theorem dX11_sheetCount_1 : decode cX11_sheetCount 1 = .ok (.getfield 33, 3) := by decide +kernel
theorem dX11_sheetCount_4 : decode cX11_sheetCount 4 = .ok (.getfield 84, 3) := by decide +kernel
theorem dX11_sheetCount_7 : decode cX11_sheetCount 7 = .ok (.ireturn, 1) := by decide +kernel
theorem dX11_meltingPoint_0 : decode cX11_meltingPoint 0 = .ok (.aload_n 0, 1) := by decide +kernel
theorem dX11_meltingPoint_1 : decode cX11_meltingPoint 1 = .ok (.getfield 33, 3) := by decide +kernel
theorem dX11_meltingPoint_4 : decode cX11_meltingPoint 4 = .ok (.getfield 96, 3) := by decide +kernel
theorem dX11_meltingPoint_7 : decode cX11_meltingPoint 7 = .ok (.ireturn, 1) := by decide +kernel
theorem dX11_flour_0 : decode cX11_flour 0 = .ok (.aload_n 0, 1) := by decide +kernel
theorem dX11_flour_1 : decode cX11_flour 1 = .ok (.getfield 33, 3) := by decide +kernel
theorem dX11_flour_4 : decode cX11_flour 4 = .ok (.getfield 99, 3) := by decide +kernel
theorem dX11_flour_7 : decode cX11_flour 7 = .ok (.ireturn, 1) := by decide +kernel
theorem dX11_hoursPassed_0 : decode cX11_hoursPassed 0 = .ok (.aload_n 0, 1) := by decide +kernel
theorem dX11_hoursPassed_1 : decode cX11_hoursPassed 1 = .ok (.getfield 33, 3) := by decide +kernel
theorem dX11_hoursPassed_4 : decode cX11_hoursPassed 4 = .ok (.getfield 102, 3) := by decide +kernel
theorem dX11_hoursPassed_7 : decode cX11_hoursPassed 7 = .ok (.ireturn, 1) := by decide +kernel
theorem dX11_escapedButter_0 : decode cX11_escapedButter 0 = .ok (.aload_n 0, 1) := by decide +kernel
theorem dX11_escapedButter_1 : decode cX11_escapedButter 1 = .ok (.getfield 33, 3) := by decide +kernel
theorem dX11_escapedButter_4 : decode cX11_escapedButter 4 = .ok (.getfield 105, 3) := by decide +kernel
theorem dX11_escapedButter_7 : decode cX11_escapedButter 7 = .ok (.ireturn, 1) := by decide +kernel
theorem dX11_brokenLayers_0 : decode cX11_brokenLayers 0 = .ok (.aload_n 0, 1) := by decide +kernel
theorem dX11_brokenLayers_1 : decode cX11_brokenLayers 1 = .ok (.getfield 33, 3) := by decide +kernel
theorem dX11_brokenLayers_4 : decode cX11_brokenLayers 4 = .ok (.getfield 108, 3) := by decide +kernel
theorem dX11_brokenLayers_7 : decode cX11_brokenLayers 7 = .ok (.ireturn, 1) := by decide +kernel
theorem dX11_warmestSheet_0 : decode cX11_warmestSheet 0 = .ok (.aload_n 0, 1) := by decide +kernel
theorem dX11_warmestSheet_1 : decode cX11_warmestSheet 1 = .ok (.getfield 33, 3) := by decide +kernel
theorem dX11_warmestSheet_4 : decode cX11_warmestSheet 4 = .ok (.invokevirtual 111, 3) := by decide +kernel
theorem dX11_warmestSheet_7 : decode cX11_warmestSheet 7 = .ok (.ireturn, 1) := by decide +kernel
theorem dX11_finestSheet_0 : decode cX11_finestSheet 0 = .ok (.aload_n 0, 1) := by decide +kernel
theorem dX11_finestSheet_1 : decode cX11_finestSheet 1 = .ok (.getfield 33, 3) := by decide +kernel
theorem dX11_finestSheet_4 : decode cX11_finestSheet 4 = .ok (.invokevirtual 115, 3) := by decide +kernel
theorem dX11_finestSheet_7 : decode cX11_finestSheet 7 = .ok (.ireturn, 1) := by decide +kernel
theorem dX11_sheetAt_0 : decode cX11_sheetAt 0 = .ok (.aload_n 0, 1) := by decide +kernel
theorem dX11_sheetAt_1 : decode cX11_sheetAt 1 = .ok (.getfield 33, 3) := by decide +kernel
theorem dX11_sheetAt_4 : decode cX11_sheetAt 4 = .ok (.iload_n 1, 1) := by decide +kernel
theorem dX11_sheetAt_5 : decode cX11_sheetAt 5 = .ok (.invokevirtual 326, 3) := by decide +kernel
theorem dX11_sheetAt_8 : decode cX11_sheetAt 8 = .ok (.ifCond .ne 14, 3) := by decide +kernel
theorem dX11_sheetAt_11 : decode cX11_sheetAt 11 = .ok (.new 305, 3) := by decide +kernel
theorem dX11_sheetAt_14 : decode cX11_sheetAt 14 = .ok (.dup, 1) := by decide +kernel
theorem dX11_sheetAt_15 : decode cX11_sheetAt 15 = .ok (.ldc_w 330, 3) := by decide +kernel
theorem dX11_sheetAt_18 : decode cX11_sheetAt 18 = .ok (.invokespecial 309, 3) := by decide +kernel
theorem dX11_sheetAt_21 : decode cX11_sheetAt 21 = .ok (.athrow, 1) := by decide +kernel
theorem dX11_sheetAt_22 : decode cX11_sheetAt 22 = .ok (.aload_n 0, 1) := by decide +kernel
theorem dX11_sheetAt_23 : decode cX11_sheetAt 23 = .ok (.getfield 33, 3) := by decide +kernel
theorem dX11_sheetAt_26 : decode cX11_sheetAt 26 = .ok (.getfield 332, 3) := by decide +kernel
theorem dX11_sheetAt_29 : decode cX11_sheetAt 29 = .ok (.iload_n 1, 1) := by decide +kernel
theorem dX11_sheetAt_30 : decode cX11_sheetAt 30 = .ok (.aaload, 1) := by decide +kernel
theorem dX11_sheetAt_31 : decode cX11_sheetAt 31 = .ok (.areturn, 1) := by decide +kernel
theorem dX11_layerCount_0 : decode cX11_layerCount 0 = .ok (.aload_n 0, 1) := by decide +kernel
theorem dX11_layerCount_1 : decode cX11_layerCount 1 = .ok (.iload_n 1, 1) := by decide +kernel
theorem dX11_layerCount_2 : decode cX11_layerCount 2 = .ok (.invokevirtual 118, 3) := by decide +kernel
theorem dX11_layerCount_5 : decode cX11_layerCount 5 = .ok (.getfield 122, 3) := by decide +kernel
theorem dX11_layerCount_8 : decode cX11_layerCount 8 = .ok (.ireturn, 1) := by decide +kernel
theorem dX11_butterLayerCount_0 : decode cX11_butterLayerCount 0 = .ok (.aload_n 0, 1) := by decide +kernel
theorem dX11_butterLayerCount_1 : decode cX11_butterLayerCount 1 = .ok (.iload_n 1, 1) := by decide +kernel
theorem dX11_butterLayerCount_2 : decode cX11_butterLayerCount 2 = .ok (.invokevirtual 118, 3) := by decide +kernel
theorem dX11_butterLayerCount_5 : decode cX11_butterLayerCount 5 = .ok (.invokevirtual 127, 3) := by decide +kernel
theorem dX11_butterLayerCount_8 : decode cX11_butterLayerCount 8 = .ok (.ireturn, 1) := by decide +kernel
theorem dX11_requireLayer_0 : decode cX11_requireLayer 0 = .ok (.iload_n 1, 1) := by decide +kernel
theorem dX11_requireLayer_1 : decode cX11_requireLayer 1 = .ok (.ifCond .lt 11, 3) := by decide +kernel
theorem dX11_requireLayer_4 : decode cX11_requireLayer 4 = .ok (.iload_n 1, 1) := by decide +kernel
theorem dX11_requireLayer_5 : decode cX11_requireLayer 5 = .ok (.aload_n 0, 1) := by decide +kernel
theorem dX11_requireLayer_6 : decode cX11_requireLayer 6 = .ok (.getfield 122, 3) := by decide +kernel
theorem dX11_requireLayer_9 : decode cX11_requireLayer 9 = .ok (.if_icmp .lt 14, 3) := by decide +kernel
theorem dX11_requireLayer_12 : decode cX11_requireLayer 12 = .ok (.new 305, 3) := by decide +kernel
theorem dX11_requireLayer_15 : decode cX11_requireLayer 15 = .ok (.dup, 1) := by decide +kernel
theorem dX11_requireLayer_16 : decode cX11_requireLayer 16 = .ok (.ldc_w 336, 3) := by decide +kernel
theorem dX11_requireLayer_19 : decode cX11_requireLayer 19 = .ok (.invokespecial 309, 3) := by decide +kernel
theorem dX11_requireLayer_22 : decode cX11_requireLayer 22 = .ok (.athrow, 1) := by decide +kernel
theorem dX11_requireLayer_23 : decode cX11_requireLayer 23 = .ok (.return_, 1) := by decide +kernel
theorem dX11_isButter_0 : decode cX11_isButter 0 = .ok (.aload_n 0, 1) := by decide +kernel
theorem dX11_isButter_1 : decode cX11_isButter 1 = .ok (.iload_n 1, 1) := by decide +kernel
theorem dX11_isButter_2 : decode cX11_isButter 2 = .ok (.invokevirtual 118, 3) := by decide +kernel
theorem dX11_isButter_5 : decode cX11_isButter 5 = .ok (.astore_n 3, 1) := by decide +kernel
theorem dX11_isButter_6 : decode cX11_isButter 6 = .ok (.aload_n 3, 1) := by decide +kernel
theorem dX11_isButter_7 : decode cX11_isButter 7 = .ok (.iload_n 2, 1) := by decide +kernel
theorem dX11_isButter_8 : decode cX11_isButter 8 = .ok (.invokestatic 130, 3) := by decide +kernel
theorem dX11_isButter_11 : decode cX11_isButter 11 = .ok (.aload_n 3, 1) := by decide +kernel
theorem dX11_isButter_12 : decode cX11_isButter 12 = .ok (.getfield 134, 3) := by decide +kernel
theorem dX11_isButter_15 : decode cX11_isButter 15 = .ok (.iload_n 2, 1) := by decide +kernel
theorem dX11_isButter_16 : decode cX11_isButter 16 = .ok (.baload, 1) := by decide +kernel
theorem dX11_isButter_17 : decode cX11_isButter 17 = .ok (.ireturn, 1) := by decide +kernel
theorem dX11_thickness_0 : decode cX11_thickness 0 = .ok (.aload_n 0, 1) := by decide +kernel
theorem dX11_thickness_1 : decode cX11_thickness 1 = .ok (.iload_n 1, 1) := by decide +kernel
theorem dX11_thickness_2 : decode cX11_thickness 2 = .ok (.invokevirtual 118, 3) := by decide +kernel
theorem dX11_thickness_5 : decode cX11_thickness 5 = .ok (.astore_n 3, 1) := by decide +kernel
theorem dX11_thickness_6 : decode cX11_thickness 6 = .ok (.aload_n 3, 1) := by decide +kernel
theorem dX11_thickness_7 : decode cX11_thickness 7 = .ok (.iload_n 2, 1) := by decide +kernel
theorem dX11_thickness_8 : decode cX11_thickness 8 = .ok (.invokestatic 130, 3) := by decide +kernel
theorem dX11_thickness_11 : decode cX11_thickness 11 = .ok (.aload_n 3, 1) := by decide +kernel
theorem dX11_thickness_12 : decode cX11_thickness 12 = .ok (.getfield 138, 3) := by decide +kernel
theorem dX11_thickness_15 : decode cX11_thickness 15 = .ok (.iload_n 2, 1) := by decide +kernel
theorem dX11_thickness_16 : decode cX11_thickness 16 = .ok (.iaload, 1) := by decide +kernel
theorem dX11_thickness_17 : decode cX11_thickness 17 = .ok (.ireturn, 1) := by decide +kernel
theorem dX11_height_0 : decode cX11_height 0 = .ok (.aload_n 0, 1) := by decide +kernel
theorem dX11_height_1 : decode cX11_height 1 = .ok (.iload_n 1, 1) := by decide +kernel
theorem dX11_height_2 : decode cX11_height 2 = .ok (.invokevirtual 118, 3) := by decide +kernel
theorem dX11_height_5 : decode cX11_height 5 = .ok (.invokevirtual 141, 3) := by decide +kernel
theorem dX11_height_8 : decode cX11_height 8 = .ok (.ireturn, 1) := by decide +kernel
theorem dX11_butterHeight_0 : decode cX11_butterHeight 0 = .ok (.aload_n 0, 1) := by decide +kernel
theorem dX11_butterHeight_1 : decode cX11_butterHeight 1 = .ok (.iload_n 1, 1) := by decide +kernel
theorem dX11_butterHeight_2 : decode cX11_butterHeight 2 = .ok (.invokevirtual 118, 3) := by decide +kernel
theorem dX11_butterHeight_5 : decode cX11_butterHeight 5 = .ok (.invokevirtual 144, 3) := by decide +kernel
theorem dX11_butterHeight_8 : decode cX11_butterHeight 8 = .ok (.ireturn, 1) := by decide +kernel
theorem dX11_thinnestLayer_0 : decode cX11_thinnestLayer 0 = .ok (.aload_n 0, 1) := by decide +kernel
theorem dX11_thinnestLayer_1 : decode cX11_thinnestLayer 1 = .ok (.iload_n 1, 1) := by decide +kernel
theorem dX11_thinnestLayer_2 : decode cX11_thinnestLayer 2 = .ok (.invokevirtual 118, 3) := by decide +kernel
theorem dX11_thinnestLayer_5 : decode cX11_thinnestLayer 5 = .ok (.invokevirtual 147, 3) := by decide +kernel
theorem dX11_thinnestLayer_8 : decode cX11_thinnestLayer 8 = .ok (.ireturn, 1) := by decide +kernel
theorem dX11_thickestLayer_0 : decode cX11_thickestLayer 0 = .ok (.aload_n 0, 1) := by decide +kernel
theorem dX11_thickestLayer_1 : decode cX11_thickestLayer 1 = .ok (.iload_n 1, 1) := by decide +kernel
theorem dX11_thickestLayer_2 : decode cX11_thickestLayer 2 = .ok (.invokevirtual 118, 3) := by decide +kernel
theorem dX11_thickestLayer_5 : decode cX11_thickestLayer 5 = .ok (.invokevirtual 150, 3) := by decide +kernel
theorem dX11_thickestLayer_8 : decode cX11_thickestLayer 8 = .ok (.ireturn, 1) := by decide +kernel
theorem dX11_seamCount_0 : decode cX11_seamCount 0 = .ok (.aload_n 0, 1) := by decide +kernel
theorem dX11_seamCount_1 : decode cX11_seamCount 1 = .ok (.iload_n 1, 1) := by decide +kernel
theorem dX11_seamCount_2 : decode cX11_seamCount 2 = .ok (.invokevirtual 118, 3) := by decide +kernel
theorem dX11_seamCount_5 : decode cX11_seamCount 5 = .ok (.invokevirtual 153, 3) := by decide +kernel
theorem dX11_seamCount_8 : decode cX11_seamCount 8 = .ok (.ireturn, 1) := by decide +kernel
theorem dX11_isSymmetric_0 : decode cX11_isSymmetric 0 = .ok (.aload_n 0, 1) := by decide +kernel
theorem dX11_isSymmetric_1 : decode cX11_isSymmetric 1 = .ok (.iload_n 1, 1) := by decide +kernel
theorem dX11_isSymmetric_2 : decode cX11_isSymmetric 2 = .ok (.invokevirtual 118, 3) := by decide +kernel
theorem dX11_isSymmetric_5 : decode cX11_isSymmetric 5 = .ok (.invokevirtual 156, 3) := by decide +kernel
theorem dX11_isSymmetric_8 : decode cX11_isSymmetric 8 = .ok (.ireturn, 1) := by decide +kernel
theorem dX11_temperature_0 : decode cX11_temperature 0 = .ok (.aload_n 0, 1) := by decide +kernel
theorem dX11_temperature_1 : decode cX11_temperature 1 = .ok (.iload_n 1, 1) := by decide +kernel
theorem dX11_temperature_2 : decode cX11_temperature 2 = .ok (.invokevirtual 118, 3) := by decide +kernel
theorem dX11_temperature_5 : decode cX11_temperature 5 = .ok (.getfield 160, 3) := by decide +kernel
theorem dX11_temperature_8 : decode cX11_temperature 8 = .ok (.ireturn, 1) := by decide +kernel
theorem dX11_isDusted_0 : decode cX11_isDusted 0 = .ok (.aload_n 0, 1) := by decide +kernel
theorem dX11_isDusted_1 : decode cX11_isDusted 1 = .ok (.iload_n 1, 1) := by decide +kernel
theorem dX11_isDusted_2 : decode cX11_isDusted 2 = .ok (.invokevirtual 118, 3) := by decide +kernel
theorem dX11_isDusted_5 : decode cX11_isDusted 5 = .ok (.getfield 163, 3) := by decide +kernel
theorem dX11_isDusted_8 : decode cX11_isDusted 8 = .ok (.ireturn, 1) := by decide +kernel
theorem dX11_isSealed_0 : decode cX11_isSealed 0 = .ok (.aload_n 0, 1) := by decide +kernel
theorem dX11_isSealed_1 : decode cX11_isSealed 1 = .ok (.iload_n 1, 1) := by decide +kernel
theorem dX11_isSealed_2 : decode cX11_isSealed 2 = .ok (.invokevirtual 118, 3) := by decide +kernel
theorem dX11_isSealed_5 : decode cX11_isSealed 5 = .ok (.getfield 166, 3) := by decide +kernel
theorem dX11_isSealed_8 : decode cX11_isSealed 8 = .ok (.ireturn, 1) := by decide +kernel
theorem dX11_isCooling_0 : decode cX11_isCooling 0 = .ok (.aload_n 0, 1) := by decide +kernel
theorem dX11_isCooling_1 : decode cX11_isCooling 1 = .ok (.iload_n 1, 1) := by decide +kernel
theorem dX11_isCooling_2 : decode cX11_isCooling 2 = .ok (.invokevirtual 118, 3) := by decide +kernel
theorem dX11_isCooling_5 : decode cX11_isCooling 5 = .ok (.getfield 169, 3) := by decide +kernel
theorem dX11_isCooling_8 : decode cX11_isCooling 8 = .ok (.ireturn, 1) := by decide +kernel
theorem dX11_foldCount_0 : decode cX11_foldCount 0 = .ok (.aload_n 0, 1) := by decide +kernel
theorem dX11_foldCount_1 : decode cX11_foldCount 1 = .ok (.iload_n 1, 1) := by decide +kernel
theorem dX11_foldCount_2 : decode cX11_foldCount 2 = .ok (.invokevirtual 118, 3) := by decide +kernel
theorem dX11_foldCount_5 : decode cX11_foldCount 5 = .ok (.getfield 172, 3) := by decide +kernel
theorem dX11_foldCount_8 : decode cX11_foldCount 8 = .ok (.ireturn, 1) := by decide +kernel
theorem dX11_expectedLayers_0 : decode cX11_expectedLayers 0 = .ok (.aload_n 0, 1) := by decide +kernel
theorem dX11_expectedLayers_1 : decode cX11_expectedLayers 1 = .ok (.iload_n 1, 1) := by decide +kernel
theorem dX11_expectedLayers_2 : decode cX11_expectedLayers 2 = .ok (.invokevirtual 118, 3) := by decide +kernel
theorem dX11_expectedLayers_5 : decode cX11_expectedLayers 5 = .ok (.getfield 175, 3) := by decide +kernel
theorem dX11_expectedLayers_8 : decode cX11_expectedLayers 8 = .ok (.ireturn, 1) := by decide +kernel
theorem dX11_butterShare_0 : decode cX11_butterShare 0 = .ok (.aload_n 0, 1) := by decide +kernel
theorem dX11_butterShare_1 : decode cX11_butterShare 1 = .ok (.iload_n 1, 1) := by decide +kernel
theorem dX11_butterShare_2 : decode cX11_butterShare 2 = .ok (.invokevirtual 118, 3) := by decide +kernel
theorem dX11_butterShare_5 : decode cX11_butterShare 5 = .ok (.astore_n 2, 1) := by decide +kernel
theorem dX11_butterShare_6 : decode cX11_butterShare 6 = .ok (.aload_n 2, 1) := by decide +kernel
theorem dX11_butterShare_7 : decode cX11_butterShare 7 = .ok (.invokevirtual 141, 3) := by decide +kernel
theorem dX11_butterShare_10 : decode cX11_butterShare 10 = .ok (.istore_n 3, 1) := by decide +kernel
theorem dX11_butterShare_11 : decode cX11_butterShare 11 = .ok (.iload_n 3, 1) := by decide +kernel
theorem dX11_butterShare_12 : decode cX11_butterShare 12 = .ok (.ifCond .ne 5, 3) := by decide +kernel
theorem dX11_butterShare_15 : decode cX11_butterShare 15 = .ok (.fconst 0, 1) := by decide +kernel
theorem dX11_butterShare_16 : decode cX11_butterShare 16 = .ok (.freturn, 1) := by decide +kernel
theorem dX11_butterShare_17 : decode cX11_butterShare 17 = .ok (.aload_n 2, 1) := by decide +kernel
theorem dX11_butterShare_18 : decode cX11_butterShare 18 = .ok (.invokevirtual 144, 3) := by decide +kernel
theorem dX11_butterShare_21 : decode cX11_butterShare 21 = .ok (.i2f, 1) := by decide +kernel
theorem dX11_butterShare_22 : decode cX11_butterShare 22 = .ok (.iload_n 3, 1) := by decide +kernel
theorem dX11_butterShare_23 : decode cX11_butterShare 23 = .ok (.i2f, 1) := by decide +kernel
theorem dX11_butterShare_24 : decode cX11_butterShare 24 = .ok (.fdiv, 1) := by decide +kernel
theorem dX11_butterShare_25 : decode cX11_butterShare 25 = .ok (.freturn, 1) := by decide +kernel
theorem dX11_requireFactor_0 : decode cX11_requireFactor 0 = .ok (.iload_n 0, 1) := by decide +kernel
theorem dX11_requireFactor_1 : decode cX11_requireFactor 1 = .ok (.invokestatic 338, 3) := by decide +kernel
theorem dX11_requireFactor_4 : decode cX11_requireFactor 4 = .ok (.ifCond .ne 14, 3) := by decide +kernel
theorem dX11_requireFactor_7 : decode cX11_requireFactor 7 = .ok (.new 202, 3) := by decide +kernel
theorem dX11_requireFactor_10 : decode cX11_requireFactor 10 = .ok (.dup, 1) := by decide +kernel
theorem dX11_requireFactor_11 : decode cX11_requireFactor 11 = .ok (.ldc_w 341, 3) := by decide +kernel
theorem dX11_requireFactor_14 : decode cX11_requireFactor 14 = .ok (.invokespecial 206, 3) := by decide +kernel
theorem dX11_requireFactor_17 : decode cX11_requireFactor 17 = .ok (.athrow, 1) := by decide +kernel
theorem dX11_requireFactor_18 : decode cX11_requireFactor 18 = .ok (.return_, 1) := by decide +kernel
theorem dX11_foldObstacle_0 : decode cX11_foldObstacle 0 = .ok (.aload_n 0, 1) := by decide +kernel
theorem dX11_foldObstacle_1 : decode cX11_foldObstacle 1 = .ok (.iload_n 1, 1) := by decide +kernel
theorem dX11_foldObstacle_2 : decode cX11_foldObstacle 2 = .ok (.invokevirtual 118, 3) := by decide +kernel
theorem dX11_foldObstacle_5 : decode cX11_foldObstacle 5 = .ok (.astore_n 3, 1) := by decide +kernel
theorem dX11_foldObstacle_6 : decode cX11_foldObstacle 6 = .ok (.iload_n 2, 1) := by decide +kernel
theorem dX11_foldObstacle_7 : decode cX11_foldObstacle 7 = .ok (.invokestatic 178, 3) := by decide +kernel
theorem dX11_foldObstacle_10 : decode cX11_foldObstacle 10 = .ok (.aload_n 3, 1) := by decide +kernel
theorem dX11_foldObstacle_11 : decode cX11_foldObstacle 11 = .ok (.iload_n 2, 1) := by decide +kernel
theorem dX11_foldObstacle_12 : decode cX11_foldObstacle 12 = .ok (.invokevirtual 181, 3) := by decide +kernel
theorem dX11_foldObstacle_15 : decode cX11_foldObstacle 15 = .ok (.ireturn, 1) := by decide +kernel
theorem dX11_layersAfterFold_0 : decode cX11_layersAfterFold 0 = .ok (.aload_n 0, 1) := by decide +kernel
theorem dX11_layersAfterFold_1 : decode cX11_layersAfterFold 1 = .ok (.iload_n 1, 1) := by decide +kernel
theorem dX11_layersAfterFold_2 : decode cX11_layersAfterFold 2 = .ok (.invokevirtual 118, 3) := by decide +kernel
theorem dX11_layersAfterFold_5 : decode cX11_layersAfterFold 5 = .ok (.astore_n 3, 1) := by decide +kernel
theorem dX11_layersAfterFold_6 : decode cX11_layersAfterFold 6 = .ok (.iload_n 2, 1) := by decide +kernel
theorem dX11_layersAfterFold_7 : decode cX11_layersAfterFold 7 = .ok (.invokestatic 178, 3) := by decide +kernel
theorem dX11_layersAfterFold_10 : decode cX11_layersAfterFold 10 = .ok (.aload_n 3, 1) := by decide +kernel
theorem dX11_layersAfterFold_11 : decode cX11_layersAfterFold 11 = .ok (.iload_n 2, 1) := by decide +kernel
theorem dX11_layersAfterFold_12 : decode cX11_layersAfterFold 12 = .ok (.invokevirtual 181, 3) := by decide +kernel
theorem dX11_layersAfterFold_15 : decode cX11_layersAfterFold 15 = .ok (.ifCond .eq 5, 3) := by decide +kernel
theorem dX11_layersAfterFold_18 : decode cX11_layersAfterFold 18 = .ok (.iconst (-1), 1) := by decide +kernel
theorem dX11_layersAfterFold_19 : decode cX11_layersAfterFold 19 = .ok (.ireturn, 1) := by decide +kernel
theorem dX11_layersAfterFold_20 : decode cX11_layersAfterFold 20 = .ok (.aload_n 3, 1) := by decide +kernel
theorem dX11_layersAfterFold_21 : decode cX11_layersAfterFold 21 = .ok (.getfield 122, 3) := by decide +kernel
theorem dX11_layersAfterFold_24 : decode cX11_layersAfterFold 24 = .ok (.iload_n 2, 1) := by decide +kernel
theorem dX11_layersAfterFold_25 : decode cX11_layersAfterFold 25 = .ok (.aload_n 3, 1) := by decide +kernel
theorem dX11_layersAfterFold_26 : decode cX11_layersAfterFold 26 = .ok (.getfield 163, 3) := by decide +kernel
theorem dX11_layersAfterFold_29 : decode cX11_layersAfterFold 29 = .ok (.invokestatic 185, 3) := by decide +kernel
theorem dX11_layersAfterFold_32 : decode cX11_layersAfterFold 32 = .ok (.ireturn, 1) := by decide +kernel
theorem dX11_foldsPossible_0 : decode cX11_foldsPossible 0 = .ok (.aload_n 0, 1) := by decide +kernel
theorem dX11_foldsPossible_1 : decode cX11_foldsPossible 1 = .ok (.iload_n 1, 1) := by decide +kernel
theorem dX11_foldsPossible_2 : decode cX11_foldsPossible 2 = .ok (.invokevirtual 118, 3) := by decide +kernel
theorem dX11_foldsPossible_5 : decode cX11_foldsPossible 5 = .ok (.astore_n 3, 1) := by decide +kernel
theorem dX11_foldsPossible_6 : decode cX11_foldsPossible 6 = .ok (.iload_n 2, 1) := by decide +kernel
theorem dX11_foldsPossible_7 : decode cX11_foldsPossible 7 = .ok (.invokestatic 178, 3) := by decide +kernel
theorem dX11_foldsPossible_10 : decode cX11_foldsPossible 10 = .ok (.aload_n 3, 1) := by decide +kernel
theorem dX11_foldsPossible_11 : decode cX11_foldsPossible 11 = .ok (.iload_n 2, 1) := by decide +kernel
theorem dX11_foldsPossible_12 : decode cX11_foldsPossible 12 = .ok (.invokevirtual 189, 3) := by decide +kernel
theorem dX11_foldsPossible_15 : decode cX11_foldsPossible 15 = .ok (.ireturn, 1) := by decide +kernel
theorem dX11_butterAtRisk_0 : decode cX11_butterAtRisk 0 = .ok (.aload_n 0, 1) := by decide +kernel
theorem dX11_butterAtRisk_1 : decode cX11_butterAtRisk 1 = .ok (.iload_n 1, 1) := by decide +kernel
theorem dX11_butterAtRisk_2 : decode cX11_butterAtRisk 2 = .ok (.invokevirtual 118, 3) := by decide +kernel
theorem dX11_butterAtRisk_5 : decode cX11_butterAtRisk 5 = .ok (.aload_n 0, 1) := by decide +kernel
theorem dX11_butterAtRisk_6 : decode cX11_butterAtRisk 6 = .ok (.getfield 33, 3) := by decide +kernel
theorem dX11_butterAtRisk_9 : decode cX11_butterAtRisk 9 = .ok (.getfield 96, 3) := by decide +kernel
theorem dX11_butterAtRisk_12 : decode cX11_butterAtRisk 12 = .ok (.invokevirtual 192, 3) := by decide +kernel
theorem dX11_butterAtRisk_15 : decode cX11_butterAtRisk 15 = .ok (.ireturn, 1) := by decide +kernel
theorem dX11_layersAtRisk_0 : decode cX11_layersAtRisk 0 = .ok (.aload_n 0, 1) := by decide +kernel
theorem dX11_layersAtRisk_1 : decode cX11_layersAtRisk 1 = .ok (.iload_n 1, 1) := by decide +kernel
theorem dX11_layersAtRisk_2 : decode cX11_layersAtRisk 2 = .ok (.invokevirtual 118, 3) := by decide +kernel
theorem dX11_layersAtRisk_5 : decode cX11_layersAtRisk 5 = .ok (.astore_n 3, 1) := by decide +kernel
theorem dX11_layersAtRisk_6 : decode cX11_layersAtRisk 6 = .ok (.iload_n 2, 1) := by decide +kernel
theorem dX11_layersAtRisk_7 : decode cX11_layersAtRisk 7 = .ok (.invokestatic 178, 3) := by decide +kernel
theorem dX11_layersAtRisk_10 : decode cX11_layersAtRisk 10 = .ok (.aload_n 3, 1) := by decide +kernel
theorem dX11_layersAtRisk_11 : decode cX11_layersAtRisk 11 = .ok (.iload_n 2, 1) := by decide +kernel
theorem dX11_layersAtRisk_12 : decode cX11_layersAtRisk 12 = .ok (.aload_n 0, 1) := by decide +kernel
theorem dX11_layersAtRisk_13 : decode cX11_layersAtRisk 13 = .ok (.getfield 33, 3) := by decide +kernel
theorem dX11_layersAtRisk_16 : decode cX11_layersAtRisk 16 = .ok (.getfield 96, 3) := by decide +kernel
theorem dX11_layersAtRisk_19 : decode cX11_layersAtRisk 19 = .ok (.invokevirtual 195, 3) := by decide +kernel
theorem dX11_layersAtRisk_22 : decode cX11_layersAtRisk 22 = .ok (.ireturn, 1) := by decide +kernel
theorem dX11_heightAfterRoll_0 : decode cX11_heightAfterRoll 0 = .ok (.aload_n 0, 1) := by decide +kernel
theorem dX11_heightAfterRoll_1 : decode cX11_heightAfterRoll 1 = .ok (.iload_n 1, 1) := by decide +kernel
theorem dX11_heightAfterRoll_2 : decode cX11_heightAfterRoll 2 = .ok (.invokevirtual 118, 3) := by decide +kernel
theorem dX11_heightAfterRoll_5 : decode cX11_heightAfterRoll 5 = .ok (.astore_n 3, 1) := by decide +kernel
theorem dX11_heightAfterRoll_6 : decode cX11_heightAfterRoll 6 = .ok (.iload_n 2, 1) := by decide +kernel
theorem dX11_heightAfterRoll_7 : decode cX11_heightAfterRoll 7 = .ok (.invokestatic 178, 3) := by decide +kernel
theorem dX11_heightAfterRoll_10 : decode cX11_heightAfterRoll 10 = .ok (.aload_n 3, 1) := by decide +kernel
theorem dX11_heightAfterRoll_11 : decode cX11_heightAfterRoll 11 = .ok (.iload_n 2, 1) := by decide +kernel
theorem dX11_heightAfterRoll_12 : decode cX11_heightAfterRoll 12 = .ok (.aload_n 0, 1) := by decide +kernel
theorem dX11_heightAfterRoll_13 : decode cX11_heightAfterRoll 13 = .ok (.getfield 33, 3) := by decide +kernel
theorem dX11_heightAfterRoll_16 : decode cX11_heightAfterRoll 16 = .ok (.getfield 96, 3) := by decide +kernel
theorem dX11_heightAfterRoll_19 : decode cX11_heightAfterRoll 19 = .ok (.invokevirtual 199, 3) := by decide +kernel
theorem dX11_heightAfterRoll_22 : decode cX11_heightAfterRoll 22 = .ok (.ireturn, 1) := by decide +kernel
theorem dX11_temperatureAfter_0 : decode cX11_temperatureAfter 0 = .ok (.aload_n 0, 1) := by decide +kernel
theorem dX11_temperatureAfter_1 : decode cX11_temperatureAfter 1 = .ok (.iload_n 1, 1) := by decide +kernel
theorem dX11_temperatureAfter_2 : decode cX11_temperatureAfter 2 = .ok (.invokevirtual 118, 3) := by decide +kernel
theorem dX11_temperatureAfter_5 : decode cX11_temperatureAfter 5 = .ok (.astore_n 3, 1) := by decide +kernel
theorem dX11_temperatureAfter_6 : decode cX11_temperatureAfter 6 = .ok (.iload_n 2, 1) := by decide +kernel
theorem dX11_temperatureAfter_7 : decode cX11_temperatureAfter 7 = .ok (.ifCond .lt 9, 3) := by decide +kernel
theorem dX11_temperatureAfter_10 : decode cX11_temperatureAfter 10 = .ok (.iload_n 2, 1) := by decide +kernel
theorem dX11_temperatureAfter_11 : decode cX11_temperatureAfter 11 = .ok (.bipush 24, 2) := by decide +kernel
theorem dX11_temperatureAfter_13 : decode cX11_temperatureAfter 13 = .ok (.if_icmp .le 13, 3) := by decide +kernel
theorem dX11_temperatureAfter_16 : decode cX11_temperatureAfter 16 = .ok (.new 202, 3) := by decide +kernel
theorem dX11_temperatureAfter_19 : decode cX11_temperatureAfter 19 = .ok (.dup, 1) := by decide +kernel
theorem dX11_temperatureAfter_20 : decode cX11_temperatureAfter 20 = .ok (.ldc 204, 2) := by decide +kernel
theorem dX11_temperatureAfter_22 : decode cX11_temperatureAfter 22 = .ok (.invokespecial 206, 3) := by decide +kernel
theorem dX11_temperatureAfter_25 : decode cX11_temperatureAfter 25 = .ok (.athrow, 1) := by decide +kernel
theorem dX11_temperatureAfter_26 : decode cX11_temperatureAfter 26 = .ok (.aload_n 3, 1) := by decide +kernel
theorem dX11_temperatureAfter_27 : decode cX11_temperatureAfter 27 = .ok (.iload_n 2, 1) := by decide +kernel
theorem dX11_temperatureAfter_28 : decode cX11_temperatureAfter 28 = .ok (.aload_n 0, 1) := by decide +kernel
theorem dX11_temperatureAfter_29 : decode cX11_temperatureAfter 29 = .ok (.getfield 33, 3) := by decide +kernel
theorem dX11_temperatureAfter_32 : decode cX11_temperatureAfter 32 = .ok (.getfield 93, 3) := by decide +kernel
theorem dX11_temperatureAfter_35 : decode cX11_temperatureAfter 35 = .ok (.invokevirtual 209, 3) := by decide +kernel
theorem dX11_temperatureAfter_38 : decode cX11_temperatureAfter 38 = .ok (.ireturn, 1) := by decide +kernel
theorem dX11_hoursToSafety_0 : decode cX11_hoursToSafety 0 = .ok (.aload_n 0, 1) := by decide +kernel
theorem dX11_hoursToSafety_1 : decode cX11_hoursToSafety 1 = .ok (.iload_n 1, 1) := by decide +kernel
theorem dX11_hoursToSafety_2 : decode cX11_hoursToSafety 2 = .ok (.invokevirtual 118, 3) := by decide +kernel
theorem dX11_hoursToSafety_5 : decode cX11_hoursToSafety 5 = .ok (.aload_n 0, 1) := by decide +kernel
theorem dX11_hoursToSafety_6 : decode cX11_hoursToSafety 6 = .ok (.getfield 33, 3) := by decide +kernel
theorem dX11_hoursToSafety_9 : decode cX11_hoursToSafety 9 = .ok (.getfield 96, 3) := by decide +kernel
theorem dX11_hoursToSafety_12 : decode cX11_hoursToSafety 12 = .ok (.invokevirtual 212, 3) := by decide +kernel
theorem dX11_hoursToSafety_15 : decode cX11_hoursToSafety 15 = .ok (.ireturn, 1) := by decide +kernel
theorem dX11_throwIfRefused_0 : decode cX11_throwIfRefused 0 = .ok (.aload_n 0, 1) := by decide +kernel
theorem dX11_throwIfRefused_1 : decode cX11_throwIfRefused 1 = .ok (.getstatic 343, 3) := by decide +kernel
theorem dX11_throwIfRefused_4 : decode cX11_throwIfRefused 4 = .ok (.if_acmp .ne 14, 3) := by decide +kernel
theorem dX11_throwIfRefused_7 : decode cX11_throwIfRefused 7 = .ok (.new 305, 3) := by decide +kernel
theorem dX11_throwIfRefused_10 : decode cX11_throwIfRefused 10 = .ok (.dup, 1) := by decide +kernel
theorem dX11_throwIfRefused_11 : decode cX11_throwIfRefused 11 = .ok (.ldc_w 330, 3) := by decide +kernel
theorem dX11_throwIfRefused_14 : decode cX11_throwIfRefused 14 = .ok (.invokespecial 309, 3) := by decide +kernel
theorem dX11_throwIfRefused_17 : decode cX11_throwIfRefused 17 = .ok (.athrow, 1) := by decide +kernel
theorem dX11_throwIfRefused_18 : decode cX11_throwIfRefused 18 = .ok (.aload_n 0, 1) := by decide +kernel
theorem dX11_throwIfRefused_19 : decode cX11_throwIfRefused 19 = .ok (.getstatic 349, 3) := by decide +kernel
theorem dX11_throwIfRefused_22 : decode cX11_throwIfRefused 22 = .ok (.if_acmp .ne 14, 3) := by decide +kernel
theorem dX11_throwIfRefused_25 : decode cX11_throwIfRefused 25 = .ok (.new 202, 3) := by decide +kernel
theorem dX11_throwIfRefused_28 : decode cX11_throwIfRefused 28 = .ok (.dup, 1) := by decide +kernel
theorem dX11_throwIfRefused_29 : decode cX11_throwIfRefused 29 = .ok (.ldc_w 352, 3) := by decide +kernel
theorem dX11_throwIfRefused_32 : decode cX11_throwIfRefused 32 = .ok (.invokespecial 206, 3) := by decide +kernel
theorem dX11_throwIfRefused_35 : decode cX11_throwIfRefused 35 = .ok (.athrow, 1) := by decide +kernel
theorem dX11_throwIfRefused_36 : decode cX11_throwIfRefused 36 = .ok (.aload_n 0, 1) := by decide +kernel
theorem dX11_throwIfRefused_37 : decode cX11_throwIfRefused 37 = .ok (.getstatic 354, 3) := by decide +kernel
theorem dX11_throwIfRefused_40 : decode cX11_throwIfRefused 40 = .ok (.if_acmp .ne 14, 3) := by decide +kernel
theorem dX11_throwIfRefused_43 : decode cX11_throwIfRefused 43 = .ok (.new 314, 3) := by decide +kernel
theorem dX11_throwIfRefused_46 : decode cX11_throwIfRefused 46 = .ok (.dup, 1) := by decide +kernel
theorem dX11_throwIfRefused_47 : decode cX11_throwIfRefused 47 = .ok (.ldc_w 357, 3) := by decide +kernel
theorem dX11_throwIfRefused_50 : decode cX11_throwIfRefused 50 = .ok (.invokespecial 318, 3) := by decide +kernel
theorem dX11_throwIfRefused_53 : decode cX11_throwIfRefused 53 = .ok (.athrow, 1) := by decide +kernel
theorem dX11_throwIfRefused_54 : decode cX11_throwIfRefused 54 = .ok (.return_, 1) := by decide +kernel
theorem dX11_fold_0 : decode cX11_fold 0 = .ok (.aload_n 0, 1) := by decide +kernel
theorem dX11_fold_1 : decode cX11_fold 1 = .ok (.getfield 33, 3) := by decide +kernel
theorem dX11_fold_4 : decode cX11_fold 4 = .ok (.iload_n 1, 1) := by decide +kernel
theorem dX11_fold_5 : decode cX11_fold 5 = .ok (.iload_n 2, 1) := by decide +kernel
theorem dX11_fold_6 : decode cX11_fold 6 = .ok (.invokevirtual 215, 3) := by decide +kernel
theorem dX11_fold_9 : decode cX11_fold 9 = .ok (.invokestatic 219, 3) := by decide +kernel
theorem dX11_fold_12 : decode cX11_fold 12 = .ok (.aload_n 0, 1) := by decide +kernel
theorem dX11_fold_13 : decode cX11_fold 13 = .ok (.getfield 47, 3) := by decide +kernel
theorem dX11_fold_16 : decode cX11_fold 16 = .ok (.aload_n 0, 1) := by decide +kernel
theorem dX11_fold_17 : decode cX11_fold 17 = .ok (.getfield 33, 3) := by decide +kernel
theorem dX11_fold_20 : decode cX11_fold 20 = .ok (.invokevirtual 223, 3) := by decide +kernel
theorem dX11_fold_23 : decode cX11_fold 23 = .ok (.aload_n 0, 1) := by decide +kernel
theorem dX11_fold_24 : decode cX11_fold 24 = .ok (.getfield 33, 3) := by decide +kernel
theorem dX11_fold_27 : decode cX11_fold 27 = .ok (.iload_n 1, 1) := by decide +kernel
theorem dX11_fold_28 : decode cX11_fold 28 = .ok (.iload_n 2, 1) := by decide +kernel
theorem dX11_fold_29 : decode cX11_fold 29 = .ok (.invokevirtual 226, 3) := by decide +kernel
theorem dX11_fold_32 : decode cX11_fold 32 = .ok (.ireturn, 1) := by decide +kernel
theorem dX11_roll_0 : decode cX11_roll 0 = .ok (.aload_n 0, 1) := by decide +kernel
theorem dX11_roll_1 : decode cX11_roll 1 = .ok (.getfield 33, 3) := by decide +kernel
theorem dX11_roll_4 : decode cX11_roll 4 = .ok (.iload_n 1, 1) := by decide +kernel
theorem dX11_roll_5 : decode cX11_roll 5 = .ok (.iload_n 2, 1) := by decide +kernel
theorem dX11_roll_6 : decode cX11_roll 6 = .ok (.invokevirtual 229, 3) := by decide +kernel
theorem dX11_roll_9 : decode cX11_roll 9 = .ok (.invokestatic 219, 3) := by decide +kernel
theorem dX11_roll_12 : decode cX11_roll 12 = .ok (.aload_n 0, 1) := by decide +kernel
theorem dX11_roll_13 : decode cX11_roll 13 = .ok (.getfield 47, 3) := by decide +kernel
theorem dX11_roll_16 : decode cX11_roll 16 = .ok (.aload_n 0, 1) := by decide +kernel
theorem dX11_roll_17 : decode cX11_roll 17 = .ok (.getfield 33, 3) := by decide +kernel
theorem dX11_roll_20 : decode cX11_roll 20 = .ok (.invokevirtual 223, 3) := by decide +kernel
theorem dX11_roll_23 : decode cX11_roll 23 = .ok (.aload_n 0, 1) := by decide +kernel
theorem dX11_roll_24 : decode cX11_roll 24 = .ok (.getfield 33, 3) := by decide +kernel
theorem dX11_roll_27 : decode cX11_roll 27 = .ok (.iload_n 1, 1) := by decide +kernel
theorem dX11_roll_28 : decode cX11_roll 28 = .ok (.iload_n 2, 1) := by decide +kernel
theorem dX11_roll_29 : decode cX11_roll 29 = .ok (.invokevirtual 232, 3) := by decide +kernel
theorem dX11_roll_32 : decode cX11_roll 32 = .ok (.ireturn, 1) := by decide +kernel
theorem dX11_dust_0 : decode cX11_dust 0 = .ok (.aload_n 0, 1) := by decide +kernel
theorem dX11_dust_1 : decode cX11_dust 1 = .ok (.getfield 33, 3) := by decide +kernel
theorem dX11_dust_4 : decode cX11_dust 4 = .ok (.iload_n 1, 1) := by decide +kernel
theorem dX11_dust_5 : decode cX11_dust 5 = .ok (.invokevirtual 235, 3) := by decide +kernel
theorem dX11_dust_8 : decode cX11_dust 8 = .ok (.invokestatic 219, 3) := by decide +kernel
theorem dX11_dust_11 : decode cX11_dust 11 = .ok (.aload_n 0, 1) := by decide +kernel
theorem dX11_dust_12 : decode cX11_dust 12 = .ok (.getfield 47, 3) := by decide +kernel
theorem dX11_dust_15 : decode cX11_dust 15 = .ok (.aload_n 0, 1) := by decide +kernel
theorem dX11_dust_16 : decode cX11_dust 16 = .ok (.getfield 33, 3) := by decide +kernel
theorem dX11_dust_19 : decode cX11_dust 19 = .ok (.invokevirtual 223, 3) := by decide +kernel
theorem dX11_dust_22 : decode cX11_dust 22 = .ok (.aload_n 0, 1) := by decide +kernel
theorem dX11_dust_23 : decode cX11_dust 23 = .ok (.getfield 33, 3) := by decide +kernel
theorem dX11_dust_26 : decode cX11_dust 26 = .ok (.iload_n 1, 1) := by decide +kernel
theorem dX11_dust_27 : decode cX11_dust 27 = .ok (.invokevirtual 239, 3) := by decide +kernel
theorem dX11_dust_30 : decode cX11_dust 30 = .ok (.ireturn, 1) := by decide +kernel
theorem dX11_seal_0 : decode cX11_seal 0 = .ok (.aload_n 0, 1) := by decide +kernel
theorem dX11_seal_1 : decode cX11_seal 1 = .ok (.getfield 33, 3) := by decide +kernel
theorem dX11_seal_4 : decode cX11_seal 4 = .ok (.iload_n 1, 1) := by decide +kernel
theorem dX11_seal_5 : decode cX11_seal 5 = .ok (.invokevirtual 242, 3) := by decide +kernel
theorem dX11_seal_8 : decode cX11_seal 8 = .ok (.invokestatic 219, 3) := by decide +kernel
theorem dX11_seal_11 : decode cX11_seal 11 = .ok (.aload_n 0, 1) := by decide +kernel
theorem dX11_seal_12 : decode cX11_seal 12 = .ok (.getfield 47, 3) := by decide +kernel
theorem dX11_seal_15 : decode cX11_seal 15 = .ok (.aload_n 0, 1) := by decide +kernel
theorem dX11_seal_16 : decode cX11_seal 16 = .ok (.getfield 33, 3) := by decide +kernel
theorem dX11_seal_19 : decode cX11_seal 19 = .ok (.invokevirtual 223, 3) := by decide +kernel
theorem dX11_seal_22 : decode cX11_seal 22 = .ok (.aload_n 0, 1) := by decide +kernel
theorem dX11_seal_23 : decode cX11_seal 23 = .ok (.getfield 33, 3) := by decide +kernel
theorem dX11_seal_26 : decode cX11_seal 26 = .ok (.iload_n 1, 1) := by decide +kernel
theorem dX11_seal_27 : decode cX11_seal 27 = .ok (.invokevirtual 245, 3) := by decide +kernel
theorem dX11_seal_30 : decode cX11_seal 30 = .ok (.ireturn, 1) := by decide +kernel
theorem dX11_cool_0 : decode cX11_cool 0 = .ok (.aload_n 0, 1) := by decide +kernel
theorem dX11_cool_1 : decode cX11_cool 1 = .ok (.getfield 33, 3) := by decide +kernel
theorem dX11_cool_4 : decode cX11_cool 4 = .ok (.iload_n 1, 1) := by decide +kernel
theorem dX11_cool_5 : decode cX11_cool 5 = .ok (.invokevirtual 248, 3) := by decide +kernel
theorem dX11_cool_8 : decode cX11_cool 8 = .ok (.invokestatic 219, 3) := by decide +kernel
theorem dX11_cool_11 : decode cX11_cool 11 = .ok (.aload_n 0, 1) := by decide +kernel
theorem dX11_cool_12 : decode cX11_cool 12 = .ok (.getfield 47, 3) := by decide +kernel
theorem dX11_cool_15 : decode cX11_cool 15 = .ok (.aload_n 0, 1) := by decide +kernel
theorem dX11_cool_16 : decode cX11_cool 16 = .ok (.getfield 33, 3) := by decide +kernel
theorem dX11_cool_19 : decode cX11_cool 19 = .ok (.invokevirtual 223, 3) := by decide +kernel
theorem dX11_cool_22 : decode cX11_cool 22 = .ok (.aload_n 0, 1) := by decide +kernel
theorem dX11_cool_23 : decode cX11_cool 23 = .ok (.getfield 33, 3) := by decide +kernel
theorem dX11_cool_26 : decode cX11_cool 26 = .ok (.iload_n 1, 1) := by decide +kernel
theorem dX11_cool_27 : decode cX11_cool 27 = .ok (.invokevirtual 251, 3) := by decide +kernel
theorem dX11_cool_30 : decode cX11_cool 30 = .ok (.ireturn, 1) := by decide +kernel
theorem dX11_takeOut_0 : decode cX11_takeOut 0 = .ok (.aload_n 0, 1) := by decide +kernel
theorem dX11_takeOut_1 : decode cX11_takeOut 1 = .ok (.getfield 33, 3) := by decide +kernel
theorem dX11_takeOut_4 : decode cX11_takeOut 4 = .ok (.iload_n 1, 1) := by decide +kernel
theorem dX11_takeOut_5 : decode cX11_takeOut 5 = .ok (.invokevirtual 254, 3) := by decide +kernel
theorem dX11_takeOut_8 : decode cX11_takeOut 8 = .ok (.invokestatic 219, 3) := by decide +kernel
theorem dX11_takeOut_11 : decode cX11_takeOut 11 = .ok (.aload_n 0, 1) := by decide +kernel
theorem dX11_takeOut_12 : decode cX11_takeOut 12 = .ok (.getfield 47, 3) := by decide +kernel
theorem dX11_takeOut_15 : decode cX11_takeOut 15 = .ok (.aload_n 0, 1) := by decide +kernel
theorem dX11_takeOut_16 : decode cX11_takeOut 16 = .ok (.getfield 33, 3) := by decide +kernel
theorem dX11_takeOut_19 : decode cX11_takeOut 19 = .ok (.invokevirtual 223, 3) := by decide +kernel
theorem dX11_takeOut_22 : decode cX11_takeOut 22 = .ok (.aload_n 0, 1) := by decide +kernel
theorem dX11_takeOut_23 : decode cX11_takeOut 23 = .ok (.getfield 33, 3) := by decide +kernel
theorem dX11_takeOut_26 : decode cX11_takeOut 26 = .ok (.iload_n 1, 1) := by decide +kernel
theorem dX11_takeOut_27 : decode cX11_takeOut 27 = .ok (.invokevirtual 257, 3) := by decide +kernel
theorem dX11_takeOut_30 : decode cX11_takeOut 30 = .ok (.ireturn, 1) := by decide +kernel
theorem dX11_passHours_0 : decode cX11_passHours 0 = .ok (.aload_n 0, 1) := by decide +kernel
theorem dX11_passHours_1 : decode cX11_passHours 1 = .ok (.getfield 33, 3) := by decide +kernel
theorem dX11_passHours_4 : decode cX11_passHours 4 = .ok (.iload_n 1, 1) := by decide +kernel
theorem dX11_passHours_5 : decode cX11_passHours 5 = .ok (.invokevirtual 260, 3) := by decide +kernel
theorem dX11_passHours_8 : decode cX11_passHours 8 = .ok (.invokestatic 219, 3) := by decide +kernel
theorem dX11_passHours_11 : decode cX11_passHours 11 = .ok (.aload_n 0, 1) := by decide +kernel
theorem dX11_passHours_12 : decode cX11_passHours 12 = .ok (.getfield 47, 3) := by decide +kernel
theorem dX11_passHours_15 : decode cX11_passHours 15 = .ok (.aload_n 0, 1) := by decide +kernel
theorem dX11_passHours_16 : decode cX11_passHours 16 = .ok (.getfield 33, 3) := by decide +kernel
theorem dX11_passHours_19 : decode cX11_passHours 19 = .ok (.invokevirtual 223, 3) := by decide +kernel
theorem dX11_passHours_22 : decode cX11_passHours 22 = .ok (.aload_n 0, 1) := by decide +kernel
theorem dX11_passHours_23 : decode cX11_passHours 23 = .ok (.getfield 33, 3) := by decide +kernel
theorem dX11_passHours_26 : decode cX11_passHours 26 = .ok (.iload_n 1, 1) := by decide +kernel
theorem dX11_passHours_27 : decode cX11_passHours 27 = .ok (.invokevirtual 263, 3) := by decide +kernel
theorem dX11_passHours_30 : decode cX11_passHours 30 = .ok (.ireturn, 1) := by decide +kernel
theorem dX11_cut_0 : decode cX11_cut 0 = .ok (.aload_n 0, 1) := by decide +kernel
theorem dX11_cut_1 : decode cX11_cut 1 = .ok (.getfield 33, 3) := by decide +kernel
theorem dX11_cut_4 : decode cX11_cut 4 = .ok (.iload_n 1, 1) := by decide +kernel
theorem dX11_cut_5 : decode cX11_cut 5 = .ok (.invokevirtual 266, 3) := by decide +kernel
theorem dX11_cut_8 : decode cX11_cut 8 = .ok (.invokestatic 219, 3) := by decide +kernel
theorem dX11_cut_11 : decode cX11_cut 11 = .ok (.aload_n 0, 1) := by decide +kernel
theorem dX11_cut_12 : decode cX11_cut 12 = .ok (.getfield 47, 3) := by decide +kernel
theorem dX11_cut_15 : decode cX11_cut 15 = .ok (.aload_n 0, 1) := by decide +kernel
theorem dX11_cut_16 : decode cX11_cut 16 = .ok (.getfield 33, 3) := by decide +kernel
theorem dX11_cut_19 : decode cX11_cut 19 = .ok (.invokevirtual 223, 3) := by decide +kernel
theorem dX11_cut_22 : decode cX11_cut 22 = .ok (.aload_n 0, 1) := by decide +kernel
theorem dX11_cut_23 : decode cX11_cut 23 = .ok (.getfield 33, 3) := by decide +kernel
theorem dX11_cut_26 : decode cX11_cut 26 = .ok (.iload_n 1, 1) := by decide +kernel
theorem dX11_cut_27 : decode cX11_cut 27 = .ok (.invokevirtual 269, 3) := by decide +kernel
theorem dX11_cut_30 : decode cX11_cut 30 = .ok (.ireturn, 1) := by decide +kernel
theorem dX11_stack_0 : decode cX11_stack 0 = .ok (.aload_n 0, 1) := by decide +kernel
theorem dX11_stack_1 : decode cX11_stack 1 = .ok (.getfield 33, 3) := by decide +kernel
theorem dX11_stack_4 : decode cX11_stack 4 = .ok (.iload_n 1, 1) := by decide +kernel
theorem dX11_stack_5 : decode cX11_stack 5 = .ok (.iload_n 2, 1) := by decide +kernel
theorem dX11_stack_6 : decode cX11_stack 6 = .ok (.invokevirtual 272, 3) := by decide +kernel
theorem dX11_stack_9 : decode cX11_stack 9 = .ok (.invokestatic 219, 3) := by decide +kernel
theorem dX11_stack_12 : decode cX11_stack 12 = .ok (.aload_n 0, 1) := by decide +kernel
theorem dX11_stack_13 : decode cX11_stack 13 = .ok (.getfield 47, 3) := by decide +kernel
theorem dX11_stack_16 : decode cX11_stack 16 = .ok (.aload_n 0, 1) := by decide +kernel
theorem dX11_stack_17 : decode cX11_stack 17 = .ok (.getfield 33, 3) := by decide +kernel
theorem dX11_stack_20 : decode cX11_stack 20 = .ok (.invokevirtual 223, 3) := by decide +kernel
theorem dX11_stack_23 : decode cX11_stack 23 = .ok (.aload_n 0, 1) := by decide +kernel
theorem dX11_stack_24 : decode cX11_stack 24 = .ok (.getfield 33, 3) := by decide +kernel
theorem dX11_stack_27 : decode cX11_stack 27 = .ok (.iload_n 1, 1) := by decide +kernel
theorem dX11_stack_28 : decode cX11_stack 28 = .ok (.iload_n 2, 1) := by decide +kernel
theorem dX11_stack_29 : decode cX11_stack 29 = .ok (.invokevirtual 275, 3) := by decide +kernel
theorem dX11_stack_32 : decode cX11_stack 32 = .ok (.ireturn, 1) := by decide +kernel
theorem dX11_addButter_0 : decode cX11_addButter 0 = .ok (.aload_n 0, 1) := by decide +kernel
theorem dX11_addButter_1 : decode cX11_addButter 1 = .ok (.getfield 33, 3) := by decide +kernel
theorem dX11_addButter_4 : decode cX11_addButter 4 = .ok (.iload_n 1, 1) := by decide +kernel
theorem dX11_addButter_5 : decode cX11_addButter 5 = .ok (.iload_n 2, 1) := by decide +kernel
theorem dX11_addButter_6 : decode cX11_addButter 6 = .ok (.invokevirtual 278, 3) := by decide +kernel
theorem dX11_addButter_9 : decode cX11_addButter 9 = .ok (.invokestatic 219, 3) := by decide +kernel
theorem dX11_addButter_12 : decode cX11_addButter 12 = .ok (.aload_n 0, 1) := by decide +kernel
theorem dX11_addButter_13 : decode cX11_addButter 13 = .ok (.getfield 47, 3) := by decide +kernel
theorem dX11_addButter_16 : decode cX11_addButter 16 = .ok (.aload_n 0, 1) := by decide +kernel
theorem dX11_addButter_17 : decode cX11_addButter 17 = .ok (.getfield 33, 3) := by decide +kernel
theorem dX11_addButter_20 : decode cX11_addButter 20 = .ok (.invokevirtual 223, 3) := by decide +kernel
theorem dX11_addButter_23 : decode cX11_addButter 23 = .ok (.aload_n 0, 1) := by decide +kernel
theorem dX11_addButter_24 : decode cX11_addButter 24 = .ok (.getfield 33, 3) := by decide +kernel
theorem dX11_addButter_27 : decode cX11_addButter 27 = .ok (.iload_n 1, 1) := by decide +kernel
theorem dX11_addButter_28 : decode cX11_addButter 28 = .ok (.iload_n 2, 1) := by decide +kernel
theorem dX11_addButter_29 : decode cX11_addButter 29 = .ok (.invokevirtual 281, 3) := by decide +kernel
theorem dX11_addButter_32 : decode cX11_addButter 32 = .ok (.ireturn, 1) := by decide +kernel
theorem dX11_buyFlour_0 : decode cX11_buyFlour 0 = .ok (.aload_n 0, 1) := by decide +kernel
theorem dX11_buyFlour_1 : decode cX11_buyFlour 1 = .ok (.getfield 33, 3) := by decide +kernel
theorem dX11_buyFlour_4 : decode cX11_buyFlour 4 = .ok (.iload_n 1, 1) := by decide +kernel
theorem dX11_buyFlour_5 : decode cX11_buyFlour 5 = .ok (.invokevirtual 284, 3) := by decide +kernel
theorem dX11_buyFlour_8 : decode cX11_buyFlour 8 = .ok (.invokestatic 219, 3) := by decide +kernel
theorem dX11_buyFlour_11 : decode cX11_buyFlour 11 = .ok (.aload_n 0, 1) := by decide +kernel
theorem dX11_buyFlour_12 : decode cX11_buyFlour 12 = .ok (.getfield 47, 3) := by decide +kernel
theorem dX11_buyFlour_15 : decode cX11_buyFlour 15 = .ok (.aload_n 0, 1) := by decide +kernel
theorem dX11_buyFlour_16 : decode cX11_buyFlour 16 = .ok (.getfield 33, 3) := by decide +kernel
theorem dX11_buyFlour_19 : decode cX11_buyFlour 19 = .ok (.invokevirtual 223, 3) := by decide +kernel
theorem dX11_buyFlour_22 : decode cX11_buyFlour 22 = .ok (.aload_n 0, 1) := by decide +kernel
theorem dX11_buyFlour_23 : decode cX11_buyFlour 23 = .ok (.getfield 33, 3) := by decide +kernel
theorem dX11_buyFlour_26 : decode cX11_buyFlour 26 = .ok (.iload_n 1, 1) := by decide +kernel
theorem dX11_buyFlour_27 : decode cX11_buyFlour 27 = .ok (.invokevirtual 287, 3) := by decide +kernel
theorem dX11_buyFlour_30 : decode cX11_buyFlour 30 = .ok (.ireturn, 1) := by decide +kernel
theorem dX11_undoableCount_0 : decode cX11_undoableCount 0 = .ok (.aload_n 0, 1) := by decide +kernel
theorem dX11_undoableCount_1 : decode cX11_undoableCount 1 = .ok (.getfield 47, 3) := by decide +kernel
theorem dX11_undoableCount_4 : decode cX11_undoableCount 4 = .ok (.getfield 313, 3) := by decide +kernel
theorem dX11_undoableCount_7 : decode cX11_undoableCount 7 = .ok (.ireturn, 1) := by decide +kernel
theorem dX11_undo_0 : decode cX11_undo 0 = .ok (.aload_n 0, 1) := by decide +kernel
theorem dX11_undo_1 : decode cX11_undo 1 = .ok (.getfield 47, 3) := by decide +kernel
theorem dX11_undo_4 : decode cX11_undo 4 = .ok (.getfield 313, 3) := by decide +kernel
theorem dX11_undo_7 : decode cX11_undo 7 = .ok (.ifCond .ne 14, 3) := by decide +kernel
theorem dX11_undo_10 : decode cX11_undo 10 = .ok (.new 314, 3) := by decide +kernel
theorem dX11_undo_13 : decode cX11_undo 13 = .ok (.dup, 1) := by decide +kernel
theorem dX11_undo_14 : decode cX11_undo 14 = .ok (.ldc_w 316, 3) := by decide +kernel
theorem dX11_undo_17 : decode cX11_undo 17 = .ok (.invokespecial 318, 3) := by decide +kernel
theorem dX11_undo_20 : decode cX11_undo 20 = .ok (.athrow, 1) := by decide +kernel
theorem dX11_undo_21 : decode cX11_undo 21 = .ok (.aload_n 0, 1) := by decide +kernel
theorem dX11_undo_22 : decode cX11_undo 22 = .ok (.getfield 47, 3) := by decide +kernel
theorem dX11_undo_25 : decode cX11_undo 25 = .ok (.aload_n 0, 1) := by decide +kernel
theorem dX11_undo_26 : decode cX11_undo 26 = .ok (.getfield 33, 3) := by decide +kernel
theorem dX11_undo_29 : decode cX11_undo 29 = .ok (.invokevirtual 319, 3) := by decide +kernel
theorem dX11_undo_32 : decode cX11_undo 32 = .ok (.aload_n 0, 1) := by decide +kernel
theorem dX11_undo_33 : decode cX11_undo 33 = .ok (.getfield 47, 3) := by decide +kernel
theorem dX11_undo_36 : decode cX11_undo 36 = .ok (.getfield 313, 3) := by decide +kernel
theorem dX11_undo_39 : decode cX11_undo 39 = .ok (.ireturn, 1) := by decide +kernel
theorem dX11_saveSnapshot_0 : decode cX11_saveSnapshot 0 = .ok (.aload_n 0, 1) := by decide +kernel
theorem dX11_saveSnapshot_1 : decode cX11_saveSnapshot 1 = .ok (.getfield 41, 3) := by decide +kernel
theorem dX11_saveSnapshot_4 : decode cX11_saveSnapshot 4 = .ok (.aload_n 0, 1) := by decide +kernel
theorem dX11_saveSnapshot_5 : decode cX11_saveSnapshot 5 = .ok (.getfield 33, 3) := by decide +kernel
theorem dX11_saveSnapshot_8 : decode cX11_saveSnapshot 8 = .ok (.invokevirtual 73, 3) := by decide +kernel
theorem dX11_saveSnapshot_11 : decode cX11_saveSnapshot 11 = .ok (.aload_n 0, 1) := by decide +kernel
theorem dX11_saveSnapshot_12 : decode cX11_saveSnapshot 12 = .ok (.iconst 1, 1) := by decide +kernel
theorem dX11_saveSnapshot_13 : decode cX11_saveSnapshot 13 = .ok (.putfield 80, 3) := by decide +kernel
theorem dX11_saveSnapshot_16 : decode cX11_saveSnapshot 16 = .ok (.return_, 1) := by decide +kernel
theorem dX11_restoreSnapshot_0 : decode cX11_restoreSnapshot 0 = .ok (.aload_n 0, 1) := by decide +kernel
theorem dX11_restoreSnapshot_1 : decode cX11_restoreSnapshot 1 = .ok (.getfield 80, 3) := by decide +kernel
theorem dX11_restoreSnapshot_4 : decode cX11_restoreSnapshot 4 = .ok (.ifCond .ne 14, 3) := by decide +kernel
theorem dX11_restoreSnapshot_7 : decode cX11_restoreSnapshot 7 = .ok (.new 314, 3) := by decide +kernel
theorem dX11_restoreSnapshot_10 : decode cX11_restoreSnapshot 10 = .ok (.dup, 1) := by decide +kernel
theorem dX11_restoreSnapshot_11 : decode cX11_restoreSnapshot 11 = .ok (.ldc_w 322, 3) := by decide +kernel
theorem dX11_restoreSnapshot_14 : decode cX11_restoreSnapshot 14 = .ok (.invokespecial 318, 3) := by decide +kernel
theorem dX11_restoreSnapshot_17 : decode cX11_restoreSnapshot 17 = .ok (.athrow, 1) := by decide +kernel
theorem dX11_restoreSnapshot_18 : decode cX11_restoreSnapshot 18 = .ok (.aload_n 0, 1) := by decide +kernel
theorem dX11_restoreSnapshot_19 : decode cX11_restoreSnapshot 19 = .ok (.getfield 33, 3) := by decide +kernel
theorem dX11_restoreSnapshot_22 : decode cX11_restoreSnapshot 22 = .ok (.aload_n 0, 1) := by decide +kernel
theorem dX11_restoreSnapshot_23 : decode cX11_restoreSnapshot 23 = .ok (.getfield 41, 3) := by decide +kernel
theorem dX11_restoreSnapshot_26 : decode cX11_restoreSnapshot 26 = .ok (.invokevirtual 73, 3) := by decide +kernel
theorem dX11_restoreSnapshot_29 : decode cX11_restoreSnapshot 29 = .ok (.aload_n 0, 1) := by decide +kernel
theorem dX11_restoreSnapshot_30 : decode cX11_restoreSnapshot 30 = .ok (.getfield 47, 3) := by decide +kernel
theorem dX11_restoreSnapshot_33 : decode cX11_restoreSnapshot 33 = .ok (.invokevirtual 77, 3) := by decide +kernel
theorem dX11_restoreSnapshot_36 : decode cX11_restoreSnapshot 36 = .ok (.aload_n 0, 1) := by decide +kernel
theorem dX11_restoreSnapshot_37 : decode cX11_restoreSnapshot 37 = .ok (.getfield 33, 3) := by decide +kernel
theorem dX11_restoreSnapshot_40 : decode cX11_restoreSnapshot 40 = .ok (.getfield 84, 3) := by decide +kernel
theorem dX11_restoreSnapshot_43 : decode cX11_restoreSnapshot 43 = .ok (.ireturn, 1) := by decide +kernel
