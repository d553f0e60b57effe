theorem dX8_init_0 : decode cX8_init 0 = .ok (.aload_n 0, 1) := by decide +kernel
theorem dX8_init_1 : decode cX8_init 1 = .ok (.invokespecial 3, 3) := by decide +kernel
theorem dX8_init_4 : decode cX8_init 4 = .ok (.aload_n 0, 1) := by decide +kernel
theorem dX8_init_5 : decode cX8_init 5 = .ok (.sipush 200, 3) := by decide +kernel
theorem dX8_init_8 : decode cX8_init 8 = .ok (.newarray .int, 2) := by decide +kernel
theorem dX8_init_10 : decode cX8_init 10 = .ok (.putfield 9, 3) := by decide +kernel
theorem dX8_init_13 : decode cX8_init 13 = .ok (.aload_n 0, 1) := by decide +kernel
theorem dX8_init_14 : decode cX8_init 14 = .ok (.sipush 200, 3) := by decide +kernel
theorem dX8_init_17 : decode cX8_init 17 = .ok (.newarray .boolean, 2) := by decide +kernel
theorem dX8_init_19 : decode cX8_init 19 = .ok (.putfield 15, 3) := by decide +kernel
theorem dX8_init_22 : decode cX8_init 22 = .ok (.return_, 1) := by decide +kernel
theorem dX8_begin_0 : decode cX8_begin 0 = .ok (.aload_n 0, 1) := by decide +kernel
theorem dX8_begin_1 : decode cX8_begin 1 = .ok (.iconst 0, 1) := by decide +kernel
theorem dX8_begin_2 : decode cX8_begin 2 = .ok (.putfield 19, 3) := by decide +kernel
theorem dX8_begin_5 : decode cX8_begin 5 = .ok (.aload_n 0, 1) := by decide +kernel
theorem dX8_begin_6 : decode cX8_begin 6 = .ok (.iconst 0, 1) := by decide +kernel
theorem dX8_begin_7 : decode cX8_begin 7 = .ok (.putfield 23, 3) := by decide +kernel
theorem dX8_begin_10 : decode cX8_begin 10 = .ok (.aload_n 0, 1) := by decide +kernel
theorem dX8_begin_11 : decode cX8_begin 11 = .ok (.iconst 0, 1) := by decide +kernel
theorem dX8_begin_12 : decode cX8_begin 12 = .ok (.putfield 26, 3) := by decide +kernel
theorem dX8_begin_15 : decode cX8_begin 15 = .ok (.aload_n 0, 1) := by decide +kernel
theorem dX8_begin_16 : decode cX8_begin 16 = .ok (.iload_n 1, 1) := by decide +kernel
theorem dX8_begin_17 : decode cX8_begin 17 = .ok (.putfield 29, 3) := by decide +kernel
theorem dX8_begin_20 : decode cX8_begin 20 = .ok (.aload_n 0, 1) := by decide +kernel
theorem dX8_begin_21 : decode cX8_begin 21 = .ok (.iconst 0, 1) := by decide +kernel
theorem dX8_begin_22 : decode cX8_begin 22 = .ok (.putfield 32, 3) := by decide +kernel
theorem dX8_begin_25 : decode cX8_begin 25 = .ok (.aload_n 0, 1) := by decide +kernel
theorem dX8_begin_26 : decode cX8_begin 26 = .ok (.iconst 0, 1) := by decide +kernel
theorem dX8_begin_27 : decode cX8_begin 27 = .ok (.putfield 36, 3) := by decide +kernel
theorem dX8_begin_30 : decode cX8_begin 30 = .ok (.aload_n 0, 1) := by decide +kernel
theorem dX8_begin_31 : decode cX8_begin 31 = .ok (.iconst 0, 1) := by decide +kernel
theorem dX8_begin_32 : decode cX8_begin 32 = .ok (.putfield 39, 3) := by decide +kernel
theorem dX8_begin_35 : decode cX8_begin 35 = .ok (.return_, 1) := by decide +kernel
theorem dX8_wouldJoin_0 : decode cX8_wouldJoin 0 = .ok (.aload_n 0, 1) := by decide +kernel
theorem dX8_wouldJoin_1 : decode cX8_wouldJoin 1 = .ok (.getfield 19, 3) := by decide +kernel
theorem dX8_wouldJoin_4 : decode cX8_wouldJoin 4 = .ok (.ifCond .le 22, 3) := by decide +kernel
theorem dX8_wouldJoin_7 : decode cX8_wouldJoin 7 = .ok (.aload_n 0, 1) := by decide +kernel
theorem dX8_wouldJoin_8 : decode cX8_wouldJoin 8 = .ok (.getfield 15, 3) := by decide +kernel
theorem dX8_wouldJoin_11 : decode cX8_wouldJoin 11 = .ok (.aload_n 0, 1) := by decide +kernel
theorem dX8_wouldJoin_12 : decode cX8_wouldJoin 12 = .ok (.getfield 19, 3) := by decide +kernel
theorem dX8_wouldJoin_15 : decode cX8_wouldJoin 15 = .ok (.iconst 1, 1) := by decide +kernel
theorem dX8_wouldJoin_16 : decode cX8_wouldJoin 16 = .ok (.isub, 1) := by decide +kernel
theorem dX8_wouldJoin_17 : decode cX8_wouldJoin 17 = .ok (.baload, 1) := by decide +kernel
theorem dX8_wouldJoin_18 : decode cX8_wouldJoin 18 = .ok (.iload_n 1, 1) := by decide +kernel
theorem dX8_wouldJoin_19 : decode cX8_wouldJoin 19 = .ok (.if_icmp .ne 7, 3) := by decide +kernel
theorem dX8_wouldJoin_22 : decode cX8_wouldJoin 22 = .ok (.iconst 1, 1) := by decide +kernel
theorem dX8_wouldJoin_23 : decode cX8_wouldJoin 23 = .ok (.goto 4, 3) := by decide +kernel
theorem dX8_wouldJoin_26 : decode cX8_wouldJoin 26 = .ok (.iconst 0, 1) := by decide +kernel
theorem dX8_wouldJoin_27 : decode cX8_wouldJoin 27 = .ok (.ireturn, 1) := by decide +kernel
theorem dX8_putLayer_0 : decode cX8_putLayer 0 = .ok (.iload_n 3, 1) := by decide +kernel
theorem dX8_putLayer_1 : decode cX8_putLayer 1 = .ok (.ifCond .ne 28, 3) := by decide +kernel
theorem dX8_putLayer_4 : decode cX8_putLayer 4 = .ok (.aload_n 0, 1) := by decide +kernel
theorem dX8_putLayer_5 : decode cX8_putLayer 5 = .ok (.iload_n 1, 1) := by decide +kernel
theorem dX8_putLayer_6 : decode cX8_putLayer 6 = .ok (.invokevirtual 46, 3) := by decide +kernel
theorem dX8_putLayer_9 : decode cX8_putLayer 9 = .ok (.ifCond .eq 20, 3) := by decide +kernel
theorem dX8_putLayer_12 : decode cX8_putLayer 12 = .ok (.aload_n 0, 1) := by decide +kernel
theorem dX8_putLayer_13 : decode cX8_putLayer 13 = .ok (.getfield 9, 3) := by decide +kernel
theorem dX8_putLayer_16 : decode cX8_putLayer 16 = .ok (.aload_n 0, 1) := by decide +kernel
theorem dX8_putLayer_17 : decode cX8_putLayer 17 = .ok (.getfield 19, 3) := by decide +kernel
theorem dX8_putLayer_20 : decode cX8_putLayer 20 = .ok (.iconst 1, 1) := by decide +kernel
theorem dX8_putLayer_21 : decode cX8_putLayer 21 = .ok (.isub, 1) := by decide +kernel
theorem dX8_putLayer_22 : decode cX8_putLayer 22 = .ok (.dup2, 1) := by decide +kernel
theorem dX8_putLayer_23 : decode cX8_putLayer 23 = .ok (.iaload, 1) := by decide +kernel
theorem dX8_putLayer_24 : decode cX8_putLayer 24 = .ok (.iload_n 2, 1) := by decide +kernel
theorem dX8_putLayer_25 : decode cX8_putLayer 25 = .ok (.iadd, 1) := by decide +kernel
theorem dX8_putLayer_26 : decode cX8_putLayer 26 = .ok (.iastore, 1) := by decide +kernel
theorem dX8_putLayer_27 : decode cX8_putLayer 27 = .ok (.iconst 1, 1) := by decide +kernel
theorem dX8_putLayer_28 : decode cX8_putLayer 28 = .ok (.ireturn, 1) := by decide +kernel
theorem dX8_putLayer_29 : decode cX8_putLayer 29 = .ok (.aload_n 0, 1) := by decide +kernel
theorem dX8_putLayer_30 : decode cX8_putLayer 30 = .ok (.getfield 19, 3) := by decide +kernel
theorem dX8_putLayer_33 : decode cX8_putLayer 33 = .ok (.sipush 200, 3) := by decide +kernel
theorem dX8_putLayer_36 : decode cX8_putLayer 36 = .ok (.if_icmp .ge 33, 3) := by decide +kernel
theorem dX8_putLayer_39 : decode cX8_putLayer 39 = .ok (.aload_n 0, 1) := by decide +kernel
theorem dX8_putLayer_40 : decode cX8_putLayer 40 = .ok (.getfield 9, 3) := by decide +kernel
theorem dX8_putLayer_43 : decode cX8_putLayer 43 = .ok (.aload_n 0, 1) := by decide +kernel
theorem dX8_putLayer_44 : decode cX8_putLayer 44 = .ok (.getfield 19, 3) := by decide +kernel
theorem dX8_putLayer_47 : decode cX8_putLayer 47 = .ok (.iload_n 2, 1) := by decide +kernel
theorem dX8_putLayer_48 : decode cX8_putLayer 48 = .ok (.iastore, 1) := by decide +kernel
theorem dX8_putLayer_49 : decode cX8_putLayer 49 = .ok (.aload_n 0, 1) := by decide +kernel
theorem dX8_putLayer_50 : decode cX8_putLayer 50 = .ok (.getfield 15, 3) := by decide +kernel
theorem dX8_putLayer_53 : decode cX8_putLayer 53 = .ok (.aload_n 0, 1) := by decide +kernel
theorem dX8_putLayer_54 : decode cX8_putLayer 54 = .ok (.getfield 19, 3) := by decide +kernel
theorem dX8_putLayer_57 : decode cX8_putLayer 57 = .ok (.iload_n 1, 1) := by decide +kernel
theorem dX8_putLayer_58 : decode cX8_putLayer 58 = .ok (.bastore, 1) := by decide +kernel
theorem dX8_putLayer_59 : decode cX8_putLayer 59 = .ok (.aload_n 0, 1) := by decide +kernel
theorem dX8_putLayer_60 : decode cX8_putLayer 60 = .ok (.dup, 1) := by decide +kernel
theorem dX8_putLayer_61 : decode cX8_putLayer 61 = .ok (.getfield 19, 3) := by decide +kernel
theorem dX8_putLayer_64 : decode cX8_putLayer 64 = .ok (.iconst 1, 1) := by decide +kernel
theorem dX8_putLayer_65 : decode cX8_putLayer 65 = .ok (.iadd, 1) := by decide +kernel
theorem dX8_putLayer_66 : decode cX8_putLayer 66 = .ok (.putfield 19, 3) := by decide +kernel
theorem dX8_putLayer_69 : decode cX8_putLayer 69 = .ok (.iconst 0, 1) := by decide +kernel
theorem dX8_putLayer_70 : decode cX8_putLayer 70 = .ok (.ireturn, 1) := by decide +kernel
theorem dX8_load_0 : decode cX8_load 0 = .ok (.aload_n 0, 1) := by decide +kernel
theorem dX8_load_1 : decode cX8_load 1 = .ok (.iload_n 1, 1) := by decide +kernel
theorem dX8_load_2 : decode cX8_load 2 = .ok (.iload_n 2, 1) := by decide +kernel
theorem dX8_load_3 : decode cX8_load 3 = .ok (.iconst 1, 1) := by decide +kernel
theorem dX8_load_4 : decode cX8_load 4 = .ok (.invokevirtual 42, 3) := by decide +kernel
theorem dX8_load_7 : decode cX8_load 7 = .ok (.pop, 1) := by decide +kernel
theorem dX8_load_8 : decode cX8_load 8 = .ok (.aload_n 0, 1) := by decide +kernel
theorem dX8_load_9 : decode cX8_load 9 = .ok (.dup, 1) := by decide +kernel
theorem dX8_load_10 : decode cX8_load 10 = .ok (.getfield 23, 3) := by decide +kernel
theorem dX8_load_13 : decode cX8_load 13 = .ok (.iconst 1, 1) := by decide +kernel
theorem dX8_load_14 : decode cX8_load 14 = .ok (.iadd, 1) := by decide +kernel
theorem dX8_load_15 : decode cX8_load 15 = .ok (.putfield 23, 3) := by decide +kernel
theorem dX8_load_18 : decode cX8_load 18 = .ok (.return_, 1) := by decide +kernel
theorem dX8_copyFrom_0 : decode cX8_copyFrom 0 = .ok (.aload_n 0, 1) := by decide +kernel
theorem dX8_copyFrom_1 : decode cX8_copyFrom 1 = .ok (.aload_n 1, 1) := by decide +kernel
theorem dX8_copyFrom_2 : decode cX8_copyFrom 2 = .ok (.getfield 19, 3) := by decide +kernel
theorem dX8_copyFrom_5 : decode cX8_copyFrom 5 = .ok (.putfield 19, 3) := by decide +kernel
theorem dX8_copyFrom_8 : decode cX8_copyFrom 8 = .ok (.iconst 0, 1) := by decide +kernel
theorem dX8_copyFrom_9 : decode cX8_copyFrom 9 = .ok (.istore_n 2, 1) := by decide +kernel
theorem dX8_copyFrom_10 : decode cX8_copyFrom 10 = .ok (.iload_n 2, 1) := by decide +kernel
theorem dX8_copyFrom_11 : decode cX8_copyFrom 11 = .ok (.aload_n 0, 1) := by decide +kernel
theorem dX8_copyFrom_12 : decode cX8_copyFrom 12 = .ok (.getfield 19, 3) := by decide +kernel
theorem dX8_copyFrom_15 : decode cX8_copyFrom 15 = .ok (.if_icmp .ge 33, 3) := by decide +kernel
theorem dX8_copyFrom_18 : decode cX8_copyFrom 18 = .ok (.aload_n 0, 1) := by decide +kernel
theorem dX8_copyFrom_19 : decode cX8_copyFrom 19 = .ok (.getfield 9, 3) := by decide +kernel
theorem dX8_copyFrom_22 : decode cX8_copyFrom 22 = .ok (.iload_n 2, 1) := by decide +kernel
theorem dX8_copyFrom_23 : decode cX8_copyFrom 23 = .ok (.aload_n 1, 1) := by decide +kernel
theorem dX8_copyFrom_24 : decode cX8_copyFrom 24 = .ok (.getfield 9, 3) := by decide +kernel
theorem dX8_copyFrom_27 : decode cX8_copyFrom 27 = .ok (.iload_n 2, 1) := by decide +kernel
theorem dX8_copyFrom_28 : decode cX8_copyFrom 28 = .ok (.iaload, 1) := by decide +kernel
theorem dX8_copyFrom_29 : decode cX8_copyFrom 29 = .ok (.iastore, 1) := by decide +kernel
theorem dX8_copyFrom_30 : decode cX8_copyFrom 30 = .ok (.aload_n 0, 1) := by decide +kernel
theorem dX8_copyFrom_31 : decode cX8_copyFrom 31 = .ok (.getfield 15, 3) := by decide +kernel
theorem dX8_copyFrom_34 : decode cX8_copyFrom 34 = .ok (.iload_n 2, 1) := by decide +kernel
theorem dX8_copyFrom_35 : decode cX8_copyFrom 35 = .ok (.aload_n 1, 1) := by decide +kernel
theorem dX8_copyFrom_36 : decode cX8_copyFrom 36 = .ok (.getfield 15, 3) := by decide +kernel
theorem dX8_copyFrom_39 : decode cX8_copyFrom 39 = .ok (.iload_n 2, 1) := by decide +kernel
theorem dX8_copyFrom_40 : decode cX8_copyFrom 40 = .ok (.baload, 1) := by decide +kernel
theorem dX8_copyFrom_41 : decode cX8_copyFrom 41 = .ok (.bastore, 1) := by decide +kernel
theorem dX8_copyFrom_42 : decode cX8_copyFrom 42 = .ok (.iinc 2 1, 3) := by decide +kernel
theorem dX8_copyFrom_45 : decode cX8_copyFrom 45 = .ok (.goto (-35), 3) := by decide +kernel
theorem dX8_copyFrom_48 : decode cX8_copyFrom 48 = .ok (.aload_n 0, 1) := by decide +kernel
theorem dX8_copyFrom_49 : decode cX8_copyFrom 49 = .ok (.aload_n 1, 1) := by decide +kernel
theorem dX8_copyFrom_50 : decode cX8_copyFrom 50 = .ok (.getfield 23, 3) := by decide +kernel
theorem dX8_copyFrom_53 : decode cX8_copyFrom 53 = .ok (.putfield 23, 3) := by decide +kernel
theorem dX8_copyFrom_56 : decode cX8_copyFrom 56 = .ok (.aload_n 0, 1) := by decide +kernel
theorem dX8_copyFrom_57 : decode cX8_copyFrom 57 = .ok (.aload_n 1, 1) := by decide +kernel
theorem dX8_copyFrom_58 : decode cX8_copyFrom 58 = .ok (.getfield 26, 3) := by decide +kernel
theorem dX8_copyFrom_61 : decode cX8_copyFrom 61 = .ok (.putfield 26, 3) := by decide +kernel
theorem dX8_copyFrom_64 : decode cX8_copyFrom 64 = .ok (.aload_n 0, 1) := by decide +kernel
theorem dX8_copyFrom_65 : decode cX8_copyFrom 65 = .ok (.aload_n 1, 1) := by decide +kernel
theorem dX8_copyFrom_66 : decode cX8_copyFrom 66 = .ok (.getfield 29, 3) := by decide +kernel
theorem dX8_copyFrom_69 : decode cX8_copyFrom 69 = .ok (.putfield 29, 3) := by decide +kernel
theorem dX8_copyFrom_72 : decode cX8_copyFrom 72 = .ok (.aload_n 0, 1) := by decide +kernel
theorem dX8_copyFrom_73 : decode cX8_copyFrom 73 = .ok (.aload_n 1, 1) := by decide +kernel
theorem dX8_copyFrom_74 : decode cX8_copyFrom 74 = .ok (.getfield 32, 3) := by decide +kernel
theorem dX8_copyFrom_77 : decode cX8_copyFrom 77 = .ok (.putfield 32, 3) := by decide +kernel
theorem dX8_copyFrom_80 : decode cX8_copyFrom 80 = .ok (.aload_n 0, 1) := by decide +kernel
theorem dX8_copyFrom_81 : decode cX8_copyFrom 81 = .ok (.aload_n 1, 1) := by decide +kernel
theorem dX8_copyFrom_82 : decode cX8_copyFrom 82 = .ok (.getfield 36, 3) := by decide +kernel
theorem dX8_copyFrom_85 : decode cX8_copyFrom 85 = .ok (.putfield 36, 3) := by decide +kernel
theorem dX8_copyFrom_88 : decode cX8_copyFrom 88 = .ok (.aload_n 0, 1) := by decide +kernel
theorem dX8_copyFrom_89 : decode cX8_copyFrom 89 = .ok (.aload_n 1, 1) := by decide +kernel
theorem dX8_copyFrom_90 : decode cX8_copyFrom 90 = .ok (.getfield 39, 3) := by decide +kernel
theorem dX8_copyFrom_93 : decode cX8_copyFrom 93 = .ok (.putfield 39, 3) := by decide +kernel
theorem dX8_copyFrom_96 : decode cX8_copyFrom 96 = .ok (.return_, 1) := by decide +kernel
theorem dX8_totalHeight_0 : decode cX8_totalHeight 0 = .ok (.iconst 0, 1) := by decide +kernel
theorem dX8_totalHeight_1 : decode cX8_totalHeight 1 = .ok (.istore_n 1, 1) := by decide +kernel
theorem dX8_totalHeight_2 : decode cX8_totalHeight 2 = .ok (.iconst 0, 1) := by decide +kernel
theorem dX8_totalHeight_3 : decode cX8_totalHeight 3 = .ok (.istore_n 2, 1) := by decide +kernel
theorem dX8_totalHeight_4 : decode cX8_totalHeight 4 = .ok (.iload_n 2, 1) := by decide +kernel
theorem dX8_totalHeight_5 : decode cX8_totalHeight 5 = .ok (.aload_n 0, 1) := by decide +kernel
theorem dX8_totalHeight_6 : decode cX8_totalHeight 6 = .ok (.getfield 19, 3) := by decide +kernel
theorem dX8_totalHeight_9 : decode cX8_totalHeight 9 = .ok (.if_icmp .ge 18, 3) := by decide +kernel
theorem dX8_totalHeight_12 : decode cX8_totalHeight 12 = .ok (.iload_n 1, 1) := by decide +kernel
theorem dX8_totalHeight_13 : decode cX8_totalHeight 13 = .ok (.aload_n 0, 1) := by decide +kernel
theorem dX8_totalHeight_14 : decode cX8_totalHeight 14 = .ok (.getfield 9, 3) := by decide +kernel
theorem dX8_totalHeight_17 : decode cX8_totalHeight 17 = .ok (.iload_n 2, 1) := by decide +kernel
theorem dX8_totalHeight_18 : decode cX8_totalHeight 18 = .ok (.iaload, 1) := by decide +kernel
theorem dX8_totalHeight_19 : decode cX8_totalHeight 19 = .ok (.iadd, 1) := by decide +kernel
theorem dX8_totalHeight_20 : decode cX8_totalHeight 20 = .ok (.istore_n 1, 1) := by decide +kernel
theorem dX8_totalHeight_21 : decode cX8_totalHeight 21 = .ok (.iinc 2 1, 3) := by decide +kernel
theorem dX8_totalHeight_24 : decode cX8_totalHeight 24 = .ok (.goto (-20), 3) := by decide +kernel
theorem dX8_totalHeight_27 : decode cX8_totalHeight 27 = .ok (.iload_n 1, 1) := by decide +kernel
theorem dX8_totalHeight_28 : decode cX8_totalHeight 28 = .ok (.ireturn, 1) := by decide +kernel
theorem dX8_findFoldObstacle_0 : decode cX8_findFoldObstacle 0 = .ok (.aload_n 0, 1) := by decide +kernel
theorem dX8_findFoldObstacle_1 : decode cX8_findFoldObstacle 1 = .ok (.getfield 39, 3) := by decide +kernel
theorem dX8_findFoldObstacle_4 : decode cX8_findFoldObstacle 4 = .ok (.ifCond .eq 5, 3) := by decide +kernel
theorem dX8_findFoldObstacle_7 : decode cX8_findFoldObstacle 7 = .ok (.iconst 1, 1) := by decide +kernel
theorem dX8_findFoldObstacle_8 : decode cX8_findFoldObstacle 8 = .ok (.ireturn, 1) := by decide +kernel
theorem dX8_findFoldObstacle_9 : decode cX8_findFoldObstacle 9 = .ok (.aload_n 0, 1) := by decide +kernel
theorem dX8_findFoldObstacle_10 : decode cX8_findFoldObstacle 10 = .ok (.getfield 19, 3) := by decide +kernel
theorem dX8_findFoldObstacle_13 : decode cX8_findFoldObstacle 13 = .ok (.iload_n 1, 1) := by decide +kernel
theorem dX8_findFoldObstacle_14 : decode cX8_findFoldObstacle 14 = .ok (.aload_n 0, 1) := by decide +kernel
theorem dX8_findFoldObstacle_15 : decode cX8_findFoldObstacle 15 = .ok (.getfield 32, 3) := by decide +kernel
theorem dX8_findFoldObstacle_18 : decode cX8_findFoldObstacle 18 = .ok (.invokestatic 50, 3) := by decide +kernel
theorem dX8_findFoldObstacle_21 : decode cX8_findFoldObstacle 21 = .ok (.sipush 200, 3) := by decide +kernel
theorem dX8_findFoldObstacle_24 : decode cX8_findFoldObstacle 24 = .ok (.if_icmp .le 5, 3) := by decide +kernel
theorem dX8_findFoldObstacle_27 : decode cX8_findFoldObstacle 27 = .ok (.iconst 2, 1) := by decide +kernel
theorem dX8_findFoldObstacle_28 : decode cX8_findFoldObstacle 28 = .ok (.ireturn, 1) := by decide +kernel
theorem dX8_findFoldObstacle_29 : decode cX8_findFoldObstacle 29 = .ok (.aload_n 0, 1) := by decide +kernel
theorem dX8_findFoldObstacle_30 : decode cX8_findFoldObstacle 30 = .ok (.invokevirtual 54, 3) := by decide +kernel
theorem dX8_findFoldObstacle_33 : decode cX8_findFoldObstacle 33 = .ok (.iload_n 1, 1) := by decide +kernel
theorem dX8_findFoldObstacle_34 : decode cX8_findFoldObstacle 34 = .ok (.imul, 1) := by decide +kernel
theorem dX8_findFoldObstacle_35 : decode cX8_findFoldObstacle 35 = .ok (.sipush 4000, 3) := by decide +kernel
theorem dX8_findFoldObstacle_38 : decode cX8_findFoldObstacle 38 = .ok (.if_icmp .le 7, 3) := by decide +kernel
theorem dX8_findFoldObstacle_41 : decode cX8_findFoldObstacle 41 = .ok (.iconst 3, 1) := by decide +kernel
theorem dX8_findFoldObstacle_42 : decode cX8_findFoldObstacle 42 = .ok (.goto 4, 3) := by decide +kernel
theorem dX8_findFoldObstacle_45 : decode cX8_findFoldObstacle 45 = .ok (.iconst 0, 1) := by decide +kernel
theorem dX8_findFoldObstacle_46 : decode cX8_findFoldObstacle 46 = .ok (.ireturn, 1) := by decide +kernel
theorem dX8_foldUp_0 : decode cX8_foldUp 0 = .ok (.aload_n 0, 1) := by decide +kernel
theorem dX8_foldUp_1 : decode cX8_foldUp 1 = .ok (.getfield 19, 3) := by decide +kernel
theorem dX8_foldUp_4 : decode cX8_foldUp 4 = .ok (.istore_n 2, 1) := by decide +kernel
theorem dX8_foldUp_5 : decode cX8_foldUp 5 = .ok (.iload_n 2, 1) := by decide +kernel
theorem dX8_foldUp_6 : decode cX8_foldUp 6 = .ok (.ifCond .le 14, 3) := by decide +kernel
theorem dX8_foldUp_9 : decode cX8_foldUp 9 = .ok (.aload_n 0, 1) := by decide +kernel
theorem dX8_foldUp_10 : decode cX8_foldUp 10 = .ok (.getfield 9, 3) := by decide +kernel
theorem dX8_foldUp_13 : decode cX8_foldUp 13 = .ok (.iload_n 2, 1) := by decide +kernel
theorem dX8_foldUp_14 : decode cX8_foldUp 14 = .ok (.iconst 1, 1) := by decide +kernel
theorem dX8_foldUp_15 : decode cX8_foldUp 15 = .ok (.isub, 1) := by decide +kernel
theorem dX8_foldUp_16 : decode cX8_foldUp 16 = .ok (.iaload, 1) := by decide +kernel
theorem dX8_foldUp_17 : decode cX8_foldUp 17 = .ok (.goto 4, 3) := by decide +kernel
theorem dX8_foldUp_20 : decode cX8_foldUp 20 = .ok (.iconst 0, 1) := by decide +kernel
theorem dX8_foldUp_21 : decode cX8_foldUp 21 = .ok (.istore_n 3, 1) := by decide +kernel
theorem dX8_foldUp_22 : decode cX8_foldUp 22 = .ok (.iconst 0, 1) := by decide +kernel
theorem dX8_foldUp_23 : decode cX8_foldUp 23 = .ok (.istore 4, 2) := by decide +kernel
theorem dX8_foldUp_25 : decode cX8_foldUp 25 = .ok (.iconst 1, 1) := by decide +kernel
theorem dX8_foldUp_26 : decode cX8_foldUp 26 = .ok (.istore 5, 2) := by decide +kernel
theorem dX8_foldUp_28 : decode cX8_foldUp 28 = .ok (.iload 5, 2) := by decide +kernel
theorem dX8_foldUp_30 : decode cX8_foldUp 30 = .ok (.iload_n 1, 1) := by decide +kernel
theorem dX8_foldUp_31 : decode cX8_foldUp 31 = .ok (.if_icmp .ge 114, 3) := by decide +kernel
theorem dX8_foldUp_34 : decode cX8_foldUp 34 = .ok (.iload 5, 2) := by decide +kernel
theorem dX8_foldUp_36 : decode cX8_foldUp 36 = .ok (.iconst 2, 1) := by decide +kernel
theorem dX8_foldUp_37 : decode cX8_foldUp 37 = .ok (.irem, 1) := by decide +kernel
theorem dX8_foldUp_38 : decode cX8_foldUp 38 = .ok (.iconst 1, 1) := by decide +kernel
theorem dX8_foldUp_39 : decode cX8_foldUp 39 = .ok (.if_icmp .ne 7, 3) := by decide +kernel
theorem dX8_foldUp_42 : decode cX8_foldUp 42 = .ok (.iconst 1, 1) := by decide +kernel
theorem dX8_foldUp_43 : decode cX8_foldUp 43 = .ok (.goto 4, 3) := by decide +kernel
theorem dX8_foldUp_46 : decode cX8_foldUp 46 = .ok (.iconst 0, 1) := by decide +kernel
theorem dX8_foldUp_47 : decode cX8_foldUp 47 = .ok (.istore 6, 2) := by decide +kernel
theorem dX8_foldUp_49 : decode cX8_foldUp 49 = .ok (.iconst 0, 1) := by decide +kernel
theorem dX8_foldUp_50 : decode cX8_foldUp 50 = .ok (.istore 7, 2) := by decide +kernel
theorem dX8_foldUp_52 : decode cX8_foldUp 52 = .ok (.iload 7, 2) := by decide +kernel
theorem dX8_foldUp_54 : decode cX8_foldUp 54 = .ok (.iload_n 2, 1) := by decide +kernel
theorem dX8_foldUp_55 : decode cX8_foldUp 55 = .ok (.if_icmp .ge 84, 3) := by decide +kernel
theorem dX8_foldUp_58 : decode cX8_foldUp 58 = .ok (.iload 6, 2) := by decide +kernel
theorem dX8_foldUp_60 : decode cX8_foldUp 60 = .ok (.ifCond .eq 12, 3) := by decide +kernel
theorem dX8_foldUp_63 : decode cX8_foldUp 63 = .ok (.iload_n 2, 1) := by decide +kernel
theorem dX8_foldUp_64 : decode cX8_foldUp 64 = .ok (.iconst 1, 1) := by decide +kernel
theorem dX8_foldUp_65 : decode cX8_foldUp 65 = .ok (.isub, 1) := by decide +kernel
theorem dX8_foldUp_66 : decode cX8_foldUp 66 = .ok (.iload 7, 2) := by decide +kernel
theorem dX8_foldUp_68 : decode cX8_foldUp 68 = .ok (.isub, 1) := by decide +kernel
theorem dX8_foldUp_69 : decode cX8_foldUp 69 = .ok (.goto 5, 3) := by decide +kernel
theorem dX8_foldUp_72 : decode cX8_foldUp 72 = .ok (.iload 7, 2) := by decide +kernel
theorem dX8_foldUp_74 : decode cX8_foldUp 74 = .ok (.istore 8, 2) := by decide +kernel
theorem dX8_foldUp_76 : decode cX8_foldUp 76 = .ok (.iload 8, 2) := by decide +kernel
theorem dX8_foldUp_78 : decode cX8_foldUp 78 = .ok (.iload_n 2, 1) := by decide +kernel
theorem dX8_foldUp_79 : decode cX8_foldUp 79 = .ok (.iconst 1, 1) := by decide +kernel
theorem dX8_foldUp_80 : decode cX8_foldUp 80 = .ok (.isub, 1) := by decide +kernel
theorem dX8_foldUp_81 : decode cX8_foldUp 81 = .ok (.if_icmp .ne 7, 3) := by decide +kernel
theorem dX8_foldUp_84 : decode cX8_foldUp 84 = .ok (.iload_n 3, 1) := by decide +kernel
theorem dX8_foldUp_85 : decode cX8_foldUp 85 = .ok (.goto 10, 3) := by decide +kernel
theorem dX8_foldUp_88 : decode cX8_foldUp 88 = .ok (.aload_n 0, 1) := by decide +kernel
theorem dX8_foldUp_89 : decode cX8_foldUp 89 = .ok (.getfield 9, 3) := by decide +kernel
theorem dX8_foldUp_92 : decode cX8_foldUp 92 = .ok (.iload 8, 2) := by decide +kernel
theorem dX8_foldUp_94 : decode cX8_foldUp 94 = .ok (.iaload, 1) := by decide +kernel
theorem dX8_foldUp_95 : decode cX8_foldUp 95 = .ok (.istore 9, 2) := by decide +kernel
theorem dX8_foldUp_97 : decode cX8_foldUp 97 = .ok (.aload_n 0, 1) := by decide +kernel
theorem dX8_foldUp_98 : decode cX8_foldUp 98 = .ok (.aload_n 0, 1) := by decide +kernel
theorem dX8_foldUp_99 : decode cX8_foldUp 99 = .ok (.getfield 15, 3) := by decide +kernel
theorem dX8_foldUp_102 : decode cX8_foldUp 102 = .ok (.iload 8, 2) := by decide +kernel
theorem dX8_foldUp_104 : decode cX8_foldUp 104 = .ok (.baload, 1) := by decide +kernel
theorem dX8_foldUp_105 : decode cX8_foldUp 105 = .ok (.iload 9, 2) := by decide +kernel
theorem dX8_foldUp_107 : decode cX8_foldUp 107 = .ok (.iload 7, 2) := by decide +kernel
theorem dX8_foldUp_109 : decode cX8_foldUp 109 = .ok (.ifCond .gt 10, 3) := by decide +kernel
theorem dX8_foldUp_112 : decode cX8_foldUp 112 = .ok (.aload_n 0, 1) := by decide +kernel
theorem dX8_foldUp_113 : decode cX8_foldUp 113 = .ok (.getfield 32, 3) := by decide +kernel
theorem dX8_foldUp_116 : decode cX8_foldUp 116 = .ok (.ifCond .eq 7, 3) := by decide +kernel
theorem dX8_foldUp_119 : decode cX8_foldUp 119 = .ok (.iconst 1, 1) := by decide +kernel
theorem dX8_foldUp_120 : decode cX8_foldUp 120 = .ok (.goto 4, 3) := by decide +kernel
theorem dX8_foldUp_123 : decode cX8_foldUp 123 = .ok (.iconst 0, 1) := by decide +kernel
theorem dX8_foldUp_124 : decode cX8_foldUp 124 = .ok (.invokevirtual 42, 3) := by decide +kernel
theorem dX8_foldUp_127 : decode cX8_foldUp 127 = .ok (.ifCond .eq 6, 3) := by decide +kernel
theorem dX8_foldUp_130 : decode cX8_foldUp 130 = .ok (.iinc 4 1, 3) := by decide +kernel
theorem dX8_foldUp_133 : decode cX8_foldUp 133 = .ok (.iinc 7 1, 3) := by decide +kernel
theorem dX8_foldUp_136 : decode cX8_foldUp 136 = .ok (.goto (-84), 3) := by decide +kernel
theorem dX8_foldUp_139 : decode cX8_foldUp 139 = .ok (.iinc 5 1, 3) := by decide +kernel
theorem dX8_foldUp_142 : decode cX8_foldUp 142 = .ok (.goto (-114), 3) := by decide +kernel
theorem dX8_foldUp_145 : decode cX8_foldUp 145 = .ok (.aload_n 0, 1) := by decide +kernel
theorem dX8_foldUp_146 : decode cX8_foldUp 146 = .ok (.aload_n 0, 1) := by decide +kernel
theorem dX8_foldUp_147 : decode cX8_foldUp 147 = .ok (.getfield 23, 3) := by decide +kernel
theorem dX8_foldUp_150 : decode cX8_foldUp 150 = .ok (.iload_n 1, 1) := by decide +kernel
theorem dX8_foldUp_151 : decode cX8_foldUp 151 = .ok (.imul, 1) := by decide +kernel
theorem dX8_foldUp_152 : decode cX8_foldUp 152 = .ok (.iload 4, 2) := by decide +kernel
theorem dX8_foldUp_154 : decode cX8_foldUp 154 = .ok (.isub, 1) := by decide +kernel
theorem dX8_foldUp_155 : decode cX8_foldUp 155 = .ok (.putfield 23, 3) := by decide +kernel
theorem dX8_foldUp_158 : decode cX8_foldUp 158 = .ok (.aload_n 0, 1) := by decide +kernel
theorem dX8_foldUp_159 : decode cX8_foldUp 159 = .ok (.dup, 1) := by decide +kernel
theorem dX8_foldUp_160 : decode cX8_foldUp 160 = .ok (.getfield 26, 3) := by decide +kernel
theorem dX8_foldUp_163 : decode cX8_foldUp 163 = .ok (.iconst 1, 1) := by decide +kernel
theorem dX8_foldUp_164 : decode cX8_foldUp 164 = .ok (.iadd, 1) := by decide +kernel
theorem dX8_foldUp_165 : decode cX8_foldUp 165 = .ok (.putfield 26, 3) := by decide +kernel
theorem dX8_foldUp_168 : decode cX8_foldUp 168 = .ok (.aload_n 0, 1) := by decide +kernel
theorem dX8_foldUp_169 : decode cX8_foldUp 169 = .ok (.iconst 0, 1) := by decide +kernel
theorem dX8_foldUp_170 : decode cX8_foldUp 170 = .ok (.putfield 32, 3) := by decide +kernel
theorem dX8_foldUp_173 : decode cX8_foldUp 173 = .ok (.aload_n 0, 1) := by decide +kernel
theorem dX8_foldUp_174 : decode cX8_foldUp 174 = .ok (.aload_n 0, 1) := by decide +kernel
theorem dX8_foldUp_175 : decode cX8_foldUp 175 = .ok (.getfield 29, 3) := by decide +kernel
theorem dX8_foldUp_178 : decode cX8_foldUp 178 = .ok (.invokestatic 58, 3) := by decide +kernel
theorem dX8_foldUp_181 : decode cX8_foldUp 181 = .ok (.putfield 29, 3) := by decide +kernel
theorem dX8_foldUp_184 : decode cX8_foldUp 184 = .ok (.return_, 1) := by decide +kernel
theorem dX8_lossPerLayer_0 : decode cX8_lossPerLayer 0 = .ok (.aload_n 0, 1) := by decide +kernel
theorem dX8_lossPerLayer_1 : decode cX8_lossPerLayer 1 = .ok (.getfield 36, 3) := by decide +kernel
theorem dX8_lossPerLayer_4 : decode cX8_lossPerLayer 4 = .ok (.ifCond .eq 7, 3) := by decide +kernel
theorem dX8_lossPerLayer_7 : decode cX8_lossPerLayer 7 = .ok (.iconst 0, 1) := by decide +kernel
theorem dX8_lossPerLayer_8 : decode cX8_lossPerLayer 8 = .ok (.goto 13, 3) := by decide +kernel
theorem dX8_lossPerLayer_11 : decode cX8_lossPerLayer 11 = .ok (.iconst 0, 1) := by decide +kernel
theorem dX8_lossPerLayer_12 : decode cX8_lossPerLayer 12 = .ok (.aload_n 0, 1) := by decide +kernel
theorem dX8_lossPerLayer_13 : decode cX8_lossPerLayer 13 = .ok (.getfield 29, 3) := by decide +kernel
theorem dX8_lossPerLayer_16 : decode cX8_lossPerLayer 16 = .ok (.iload_n 1, 1) := by decide +kernel
theorem dX8_lossPerLayer_17 : decode cX8_lossPerLayer 17 = .ok (.isub, 1) := by decide +kernel
theorem dX8_lossPerLayer_18 : decode cX8_lossPerLayer 18 = .ok (.invokestatic 62, 3) := by decide +kernel
theorem dX8_lossPerLayer_21 : decode cX8_lossPerLayer 21 = .ok (.ireturn, 1) := by decide +kernel
theorem dX8_thicknessRolled_0 : decode cX8_thicknessRolled 0 = .ok (.iload_n 2, 1) := by decide +kernel
theorem dX8_thicknessRolled_1 : decode cX8_thicknessRolled 1 = .ok (.iconst 2, 1) := by decide +kernel
theorem dX8_thicknessRolled_2 : decode cX8_thicknessRolled 2 = .ok (.if_icmp .ge 10, 3) := by decide +kernel
theorem dX8_thicknessRolled_5 : decode cX8_thicknessRolled 5 = .ok (.aload_n 0, 1) := by decide +kernel
theorem dX8_thicknessRolled_6 : decode cX8_thicknessRolled 6 = .ok (.getfield 9, 3) := by decide +kernel
theorem dX8_thicknessRolled_9 : decode cX8_thicknessRolled 9 = .ok (.iload_n 1, 1) := by decide +kernel
theorem dX8_thicknessRolled_10 : decode cX8_thicknessRolled 10 = .ok (.iaload, 1) := by decide +kernel
theorem dX8_thicknessRolled_11 : decode cX8_thicknessRolled 11 = .ok (.ireturn, 1) := by decide +kernel
theorem dX8_thicknessRolled_12 : decode cX8_thicknessRolled 12 = .ok (.aload_n 0, 1) := by decide +kernel
theorem dX8_thicknessRolled_13 : decode cX8_thicknessRolled 13 = .ok (.getfield 15, 3) := by decide +kernel
theorem dX8_thicknessRolled_16 : decode cX8_thicknessRolled 16 = .ok (.iload_n 1, 1) := by decide +kernel
theorem dX8_thicknessRolled_17 : decode cX8_thicknessRolled 17 = .ok (.baload, 1) := by decide +kernel
theorem dX8_thicknessRolled_18 : decode cX8_thicknessRolled 18 = .ok (.ifCond .eq 18, 3) := by decide +kernel
theorem dX8_thicknessRolled_21 : decode cX8_thicknessRolled 21 = .ok (.iconst 0, 1) := by decide +kernel
theorem dX8_thicknessRolled_22 : decode cX8_thicknessRolled 22 = .ok (.aload_n 0, 1) := by decide +kernel
theorem dX8_thicknessRolled_23 : decode cX8_thicknessRolled 23 = .ok (.getfield 9, 3) := by decide +kernel
theorem dX8_thicknessRolled_26 : decode cX8_thicknessRolled 26 = .ok (.iload_n 1, 1) := by decide +kernel
theorem dX8_thicknessRolled_27 : decode cX8_thicknessRolled 27 = .ok (.iaload, 1) := by decide +kernel
theorem dX8_thicknessRolled_28 : decode cX8_thicknessRolled 28 = .ok (.iload_n 3, 1) := by decide +kernel
theorem dX8_thicknessRolled_29 : decode cX8_thicknessRolled 29 = .ok (.isub, 1) := by decide +kernel
theorem dX8_thicknessRolled_30 : decode cX8_thicknessRolled 30 = .ok (.invokestatic 62, 3) := by decide +kernel
theorem dX8_thicknessRolled_33 : decode cX8_thicknessRolled 33 = .ok (.iload_n 2, 1) := by decide +kernel
theorem dX8_thicknessRolled_34 : decode cX8_thicknessRolled 34 = .ok (.idiv, 1) := by decide +kernel
theorem dX8_thicknessRolled_35 : decode cX8_thicknessRolled 35 = .ok (.ireturn, 1) := by decide +kernel
theorem dX8_thicknessRolled_36 : decode cX8_thicknessRolled 36 = .ok (.iconst 1, 1) := by decide +kernel
theorem dX8_thicknessRolled_37 : decode cX8_thicknessRolled 37 = .ok (.aload_n 0, 1) := by decide +kernel
theorem dX8_thicknessRolled_38 : decode cX8_thicknessRolled 38 = .ok (.getfield 9, 3) := by decide +kernel
theorem dX8_thicknessRolled_41 : decode cX8_thicknessRolled 41 = .ok (.iload_n 1, 1) := by decide +kernel
theorem dX8_thicknessRolled_42 : decode cX8_thicknessRolled 42 = .ok (.iaload, 1) := by decide +kernel
theorem dX8_thicknessRolled_43 : decode cX8_thicknessRolled 43 = .ok (.iload_n 2, 1) := by decide +kernel
theorem dX8_thicknessRolled_44 : decode cX8_thicknessRolled 44 = .ok (.idiv, 1) := by decide +kernel
theorem dX8_thicknessRolled_45 : decode cX8_thicknessRolled 45 = .ok (.invokestatic 62, 3) := by decide +kernel
theorem dX8_thicknessRolled_48 : decode cX8_thicknessRolled 48 = .ok (.ireturn, 1) := by decide +kernel
theorem dX8_sumRolled_0 : decode cX8_sumRolled 0 = .ok (.aload_n 0, 1) := by decide +kernel
theorem dX8_sumRolled_1 : decode cX8_sumRolled 1 = .ok (.iload_n 2, 1) := by decide +kernel
theorem dX8_sumRolled_2 : decode cX8_sumRolled 2 = .ok (.invokevirtual 68, 3) := by decide +kernel
theorem dX8_sumRolled_5 : decode cX8_sumRolled 5 = .ok (.istore_n 3, 1) := by decide +kernel
theorem dX8_sumRolled_6 : decode cX8_sumRolled 6 = .ok (.iconst 0, 1) := by decide +kernel
theorem dX8_sumRolled_7 : decode cX8_sumRolled 7 = .ok (.istore 4, 2) := by decide +kernel
theorem dX8_sumRolled_9 : decode cX8_sumRolled 9 = .ok (.iconst 0, 1) := by decide +kernel
theorem dX8_sumRolled_10 : decode cX8_sumRolled 10 = .ok (.istore 5, 2) := by decide +kernel
theorem dX8_sumRolled_12 : decode cX8_sumRolled 12 = .ok (.iload 5, 2) := by decide +kernel
theorem dX8_sumRolled_14 : decode cX8_sumRolled 14 = .ok (.aload_n 0, 1) := by decide +kernel
theorem dX8_sumRolled_15 : decode cX8_sumRolled 15 = .ok (.getfield 19, 3) := by decide +kernel
theorem dX8_sumRolled_18 : decode cX8_sumRolled 18 = .ok (.if_icmp .ge 22, 3) := by decide +kernel
theorem dX8_sumRolled_21 : decode cX8_sumRolled 21 = .ok (.iload 4, 2) := by decide +kernel
theorem dX8_sumRolled_23 : decode cX8_sumRolled 23 = .ok (.aload_n 0, 1) := by decide +kernel
theorem dX8_sumRolled_24 : decode cX8_sumRolled 24 = .ok (.iload 5, 2) := by decide +kernel
theorem dX8_sumRolled_26 : decode cX8_sumRolled 26 = .ok (.iload_n 1, 1) := by decide +kernel
theorem dX8_sumRolled_27 : decode cX8_sumRolled 27 = .ok (.iload_n 3, 1) := by decide +kernel
theorem dX8_sumRolled_28 : decode cX8_sumRolled 28 = .ok (.invokevirtual 74, 3) := by decide +kernel
theorem dX8_sumRolled_31 : decode cX8_sumRolled 31 = .ok (.iadd, 1) := by decide +kernel
theorem dX8_sumRolled_32 : decode cX8_sumRolled 32 = .ok (.istore 4, 2) := by decide +kernel
theorem dX8_sumRolled_34 : decode cX8_sumRolled 34 = .ok (.iinc 5 1, 3) := by decide +kernel
theorem dX8_sumRolled_37 : decode cX8_sumRolled 37 = .ok (.goto (-25), 3) := by decide +kernel
theorem dX8_sumRolled_40 : decode cX8_sumRolled 40 = .ok (.iload 4, 2) := by decide +kernel
theorem dX8_sumRolled_42 : decode cX8_sumRolled 42 = .ok (.ireturn, 1) := by decide +kernel
theorem dX8_sumEscaping_0 : decode cX8_sumEscaping 0 = .ok (.aload_n 0, 1) := by decide +kernel
theorem dX8_sumEscaping_1 : decode cX8_sumEscaping 1 = .ok (.iload_n 1, 1) := by decide +kernel
theorem dX8_sumEscaping_2 : decode cX8_sumEscaping 2 = .ok (.invokevirtual 68, 3) := by decide +kernel
theorem dX8_sumEscaping_5 : decode cX8_sumEscaping 5 = .ok (.istore_n 2, 1) := by decide +kernel
theorem dX8_sumEscaping_6 : decode cX8_sumEscaping 6 = .ok (.iconst 0, 1) := by decide +kernel
theorem dX8_sumEscaping_7 : decode cX8_sumEscaping 7 = .ok (.istore_n 3, 1) := by decide +kernel
theorem dX8_sumEscaping_8 : decode cX8_sumEscaping 8 = .ok (.iconst 0, 1) := by decide +kernel
theorem dX8_sumEscaping_9 : decode cX8_sumEscaping 9 = .ok (.istore 4, 2) := by decide +kernel
theorem dX8_sumEscaping_11 : decode cX8_sumEscaping 11 = .ok (.iload 4, 2) := by decide +kernel
theorem dX8_sumEscaping_13 : decode cX8_sumEscaping 13 = .ok (.aload_n 0, 1) := by decide +kernel
theorem dX8_sumEscaping_14 : decode cX8_sumEscaping 14 = .ok (.getfield 19, 3) := by decide +kernel
theorem dX8_sumEscaping_17 : decode cX8_sumEscaping 17 = .ok (.if_icmp .ge 33, 3) := by decide +kernel
theorem dX8_sumEscaping_20 : decode cX8_sumEscaping 20 = .ok (.aload_n 0, 1) := by decide +kernel
theorem dX8_sumEscaping_21 : decode cX8_sumEscaping 21 = .ok (.getfield 15, 3) := by decide +kernel
theorem dX8_sumEscaping_24 : decode cX8_sumEscaping 24 = .ok (.iload 4, 2) := by decide +kernel
theorem dX8_sumEscaping_26 : decode cX8_sumEscaping 26 = .ok (.baload, 1) := by decide +kernel
theorem dX8_sumEscaping_27 : decode cX8_sumEscaping 27 = .ok (.ifCond .eq 17, 3) := by decide +kernel
theorem dX8_sumEscaping_30 : decode cX8_sumEscaping 30 = .ok (.iload_n 3, 1) := by decide +kernel
theorem dX8_sumEscaping_31 : decode cX8_sumEscaping 31 = .ok (.iload_n 2, 1) := by decide +kernel
theorem dX8_sumEscaping_32 : decode cX8_sumEscaping 32 = .ok (.aload_n 0, 1) := by decide +kernel
theorem dX8_sumEscaping_33 : decode cX8_sumEscaping 33 = .ok (.getfield 9, 3) := by decide +kernel
theorem dX8_sumEscaping_36 : decode cX8_sumEscaping 36 = .ok (.iload 4, 2) := by decide +kernel
theorem dX8_sumEscaping_38 : decode cX8_sumEscaping 38 = .ok (.iaload, 1) := by decide +kernel
theorem dX8_sumEscaping_39 : decode cX8_sumEscaping 39 = .ok (.invokestatic 71, 3) := by decide +kernel
theorem dX8_sumEscaping_42 : decode cX8_sumEscaping 42 = .ok (.iadd, 1) := by decide +kernel
theorem dX8_sumEscaping_43 : decode cX8_sumEscaping 43 = .ok (.istore_n 3, 1) := by decide +kernel
theorem dX8_sumEscaping_44 : decode cX8_sumEscaping 44 = .ok (.iinc 4 1, 3) := by decide +kernel
theorem dX8_sumEscaping_47 : decode cX8_sumEscaping 47 = .ok (.goto (-36), 3) := by decide +kernel
theorem dX8_sumEscaping_50 : decode cX8_sumEscaping 50 = .ok (.iload_n 3, 1) := by decide +kernel
theorem dX8_sumEscaping_51 : decode cX8_sumEscaping 51 = .ok (.ireturn, 1) := by decide +kernel
theorem dX8_rollOut_0 : decode cX8_rollOut 0 = .ok (.aload_n 0, 1) := by decide +kernel
theorem dX8_rollOut_1 : decode cX8_rollOut 1 = .ok (.iload_n 2, 1) := by decide +kernel
theorem dX8_rollOut_2 : decode cX8_rollOut 2 = .ok (.invokevirtual 68, 3) := by decide +kernel
theorem dX8_rollOut_5 : decode cX8_rollOut 5 = .ok (.istore_n 3, 1) := by decide +kernel
theorem dX8_rollOut_6 : decode cX8_rollOut 6 = .ok (.aload_n 0, 1) := by decide +kernel
theorem dX8_rollOut_7 : decode cX8_rollOut 7 = .ok (.getfield 19, 3) := by decide +kernel
theorem dX8_rollOut_10 : decode cX8_rollOut 10 = .ok (.istore 4, 2) := by decide +kernel
theorem dX8_rollOut_12 : decode cX8_rollOut 12 = .ok (.iconst 0, 1) := by decide +kernel
theorem dX8_rollOut_13 : decode cX8_rollOut 13 = .ok (.istore 5, 2) := by decide +kernel
theorem dX8_rollOut_15 : decode cX8_rollOut 15 = .ok (.iconst 0, 1) := by decide +kernel
theorem dX8_rollOut_16 : decode cX8_rollOut 16 = .ok (.istore 6, 2) := by decide +kernel
theorem dX8_rollOut_18 : decode cX8_rollOut 18 = .ok (.iconst 0, 1) := by decide +kernel
theorem dX8_rollOut_19 : decode cX8_rollOut 19 = .ok (.istore 7, 2) := by decide +kernel
theorem dX8_rollOut_21 : decode cX8_rollOut 21 = .ok (.aload_n 0, 1) := by decide +kernel
theorem dX8_rollOut_22 : decode cX8_rollOut 22 = .ok (.iconst 0, 1) := by decide +kernel
theorem dX8_rollOut_23 : decode cX8_rollOut 23 = .ok (.putfield 19, 3) := by decide +kernel
theorem dX8_rollOut_26 : decode cX8_rollOut 26 = .ok (.iconst 0, 1) := by decide +kernel
theorem dX8_rollOut_27 : decode cX8_rollOut 27 = .ok (.istore 8, 2) := by decide +kernel
theorem dX8_rollOut_29 : decode cX8_rollOut 29 = .ok (.iload 8, 2) := by decide +kernel
theorem dX8_rollOut_31 : decode cX8_rollOut 31 = .ok (.iload 4, 2) := by decide +kernel
theorem dX8_rollOut_33 : decode cX8_rollOut 33 = .ok (.if_icmp .ge 65, 3) := by decide +kernel
theorem dX8_rollOut_36 : decode cX8_rollOut 36 = .ok (.aload_n 0, 1) := by decide +kernel
theorem dX8_rollOut_37 : decode cX8_rollOut 37 = .ok (.iload 8, 2) := by decide +kernel
theorem dX8_rollOut_39 : decode cX8_rollOut 39 = .ok (.iload_n 1, 1) := by decide +kernel
theorem dX8_rollOut_40 : decode cX8_rollOut 40 = .ok (.iload_n 3, 1) := by decide +kernel
theorem dX8_rollOut_41 : decode cX8_rollOut 41 = .ok (.invokevirtual 74, 3) := by decide +kernel
theorem dX8_rollOut_44 : decode cX8_rollOut 44 = .ok (.istore 9, 2) := by decide +kernel
theorem dX8_rollOut_46 : decode cX8_rollOut 46 = .ok (.iload 9, 2) := by decide +kernel
theorem dX8_rollOut_48 : decode cX8_rollOut 48 = .ok (.ifCond .ne 12, 3) := by decide +kernel
theorem dX8_rollOut_51 : decode cX8_rollOut 51 = .ok (.iinc 5 1, 3) := by decide +kernel
theorem dX8_rollOut_54 : decode cX8_rollOut 54 = .ok (.iconst 1, 1) := by decide +kernel
theorem dX8_rollOut_55 : decode cX8_rollOut 55 = .ok (.istore 7, 2) := by decide +kernel
theorem dX8_rollOut_57 : decode cX8_rollOut 57 = .ok (.goto 35, 3) := by decide +kernel
theorem dX8_rollOut_60 : decode cX8_rollOut 60 = .ok (.aload_n 0, 1) := by decide +kernel
theorem dX8_rollOut_61 : decode cX8_rollOut 61 = .ok (.aload_n 0, 1) := by decide +kernel
theorem dX8_rollOut_62 : decode cX8_rollOut 62 = .ok (.getfield 15, 3) := by decide +kernel
theorem dX8_rollOut_65 : decode cX8_rollOut 65 = .ok (.iload 8, 2) := by decide +kernel
theorem dX8_rollOut_67 : decode cX8_rollOut 67 = .ok (.baload, 1) := by decide +kernel
theorem dX8_rollOut_68 : decode cX8_rollOut 68 = .ok (.iload 9, 2) := by decide +kernel
theorem dX8_rollOut_70 : decode cX8_rollOut 70 = .ok (.iload 7, 2) := by decide +kernel
theorem dX8_rollOut_72 : decode cX8_rollOut 72 = .ok (.ifCond .ne 7, 3) := by decide +kernel
theorem dX8_rollOut_75 : decode cX8_rollOut 75 = .ok (.iconst 1, 1) := by decide +kernel
theorem dX8_rollOut_76 : decode cX8_rollOut 76 = .ok (.goto 4, 3) := by decide +kernel
theorem dX8_rollOut_79 : decode cX8_rollOut 79 = .ok (.iconst 0, 1) := by decide +kernel
theorem dX8_rollOut_80 : decode cX8_rollOut 80 = .ok (.invokevirtual 42, 3) := by decide +kernel
theorem dX8_rollOut_83 : decode cX8_rollOut 83 = .ok (.ifCond .eq 6, 3) := by decide +kernel
theorem dX8_rollOut_86 : decode cX8_rollOut 86 = .ok (.iinc 6 1, 3) := by decide +kernel
theorem dX8_rollOut_89 : decode cX8_rollOut 89 = .ok (.iconst 0, 1) := by decide +kernel
theorem dX8_rollOut_90 : decode cX8_rollOut 90 = .ok (.istore 7, 2) := by decide +kernel
theorem dX8_rollOut_92 : decode cX8_rollOut 92 = .ok (.iinc 8 1, 3) := by decide +kernel
theorem dX8_rollOut_95 : decode cX8_rollOut 95 = .ok (.goto (-66), 3) := by decide +kernel
theorem dX8_rollOut_98 : decode cX8_rollOut 98 = .ok (.aload_n 0, 1) := by decide +kernel
theorem dX8_rollOut_99 : decode cX8_rollOut 99 = .ok (.dup, 1) := by decide +kernel
theorem dX8_rollOut_100 : decode cX8_rollOut 100 = .ok (.getfield 23, 3) := by decide +kernel
theorem dX8_rollOut_103 : decode cX8_rollOut 103 = .ok (.iload 5, 2) := by decide +kernel
theorem dX8_rollOut_105 : decode cX8_rollOut 105 = .ok (.iload 6, 2) := by decide +kernel
theorem dX8_rollOut_107 : decode cX8_rollOut 107 = .ok (.iadd, 1) := by decide +kernel
theorem dX8_rollOut_108 : decode cX8_rollOut 108 = .ok (.isub, 1) := by decide +kernel
theorem dX8_rollOut_109 : decode cX8_rollOut 109 = .ok (.putfield 23, 3) := by decide +kernel
theorem dX8_rollOut_112 : decode cX8_rollOut 112 = .ok (.aload_n 0, 1) := by decide +kernel
theorem dX8_rollOut_113 : decode cX8_rollOut 113 = .ok (.iconst 0, 1) := by decide +kernel
theorem dX8_rollOut_114 : decode cX8_rollOut 114 = .ok (.putfield 36, 3) := by decide +kernel
theorem dX8_rollOut_117 : decode cX8_rollOut 117 = .ok (.aload_n 0, 1) := by decide +kernel
theorem dX8_rollOut_118 : decode cX8_rollOut 118 = .ok (.aload_n 0, 1) := by decide +kernel
theorem dX8_rollOut_119 : decode cX8_rollOut 119 = .ok (.getfield 29, 3) := by decide +kernel
theorem dX8_rollOut_122 : decode cX8_rollOut 122 = .ok (.invokestatic 58, 3) := by decide +kernel
theorem dX8_rollOut_125 : decode cX8_rollOut 125 = .ok (.putfield 29, 3) := by decide +kernel
theorem dX8_rollOut_128 : decode cX8_rollOut 128 = .ok (.iload 5, 2) := by decide +kernel
theorem dX8_rollOut_130 : decode cX8_rollOut 130 = .ok (.ireturn, 1) := by decide +kernel
theorem dX8_warmthAfter_0 : decode cX8_warmthAfter 0 = .ok (.aload_n 0, 1) := by decide +kernel
theorem dX8_warmthAfter_1 : decode cX8_warmthAfter 1 = .ok (.getfield 29, 3) := by decide +kernel
theorem dX8_warmthAfter_4 : decode cX8_warmthAfter 4 = .ok (.istore_n 3, 1) := by decide +kernel
theorem dX8_warmthAfter_5 : decode cX8_warmthAfter 5 = .ok (.iconst 0, 1) := by decide +kernel
theorem dX8_warmthAfter_6 : decode cX8_warmthAfter 6 = .ok (.istore 4, 2) := by decide +kernel
theorem dX8_warmthAfter_8 : decode cX8_warmthAfter 8 = .ok (.iload 4, 2) := by decide +kernel
theorem dX8_warmthAfter_10 : decode cX8_warmthAfter 10 = .ok (.iload_n 1, 1) := by decide +kernel
theorem dX8_warmthAfter_11 : decode cX8_warmthAfter 11 = .ok (.if_icmp .ge 29, 3) := by decide +kernel
theorem dX8_warmthAfter_14 : decode cX8_warmthAfter 14 = .ok (.aload_n 0, 1) := by decide +kernel
theorem dX8_warmthAfter_15 : decode cX8_warmthAfter 15 = .ok (.getfield 39, 3) := by decide +kernel
theorem dX8_warmthAfter_18 : decode cX8_warmthAfter 18 = .ok (.ifCond .eq 10, 3) := by decide +kernel
theorem dX8_warmthAfter_21 : decode cX8_warmthAfter 21 = .ok (.iload_n 3, 1) := by decide +kernel
theorem dX8_warmthAfter_22 : decode cX8_warmthAfter 22 = .ok (.invokestatic 78, 3) := by decide +kernel
theorem dX8_warmthAfter_25 : decode cX8_warmthAfter 25 = .ok (.goto 8, 3) := by decide +kernel
theorem dX8_warmthAfter_28 : decode cX8_warmthAfter 28 = .ok (.iload_n 3, 1) := by decide +kernel
theorem dX8_warmthAfter_29 : decode cX8_warmthAfter 29 = .ok (.iload_n 2, 1) := by decide +kernel
theorem dX8_warmthAfter_30 : decode cX8_warmthAfter 30 = .ok (.invokestatic 81, 3) := by decide +kernel
theorem dX8_warmthAfter_33 : decode cX8_warmthAfter 33 = .ok (.istore_n 3, 1) := by decide +kernel
theorem dX8_warmthAfter_34 : decode cX8_warmthAfter 34 = .ok (.iinc 4 1, 3) := by decide +kernel
theorem dX8_warmthAfter_37 : decode cX8_warmthAfter 37 = .ok (.goto (-29), 3) := by decide +kernel
theorem dX8_warmthAfter_40 : decode cX8_warmthAfter 40 = .ok (.iload_n 3, 1) := by decide +kernel
theorem dX8_warmthAfter_41 : decode cX8_warmthAfter 41 = .ok (.ireturn, 1) := by decide +kernel
theorem dX8_joinsWith_0 : decode cX8_joinsWith 0 = .ok (.aload_n 0, 1) := by decide +kernel
theorem dX8_joinsWith_1 : decode cX8_joinsWith 1 = .ok (.getfield 32, 3) := by decide +kernel
theorem dX8_joinsWith_4 : decode cX8_joinsWith 4 = .ok (.ifCond .ne 27, 3) := by decide +kernel
theorem dX8_joinsWith_7 : decode cX8_joinsWith 7 = .ok (.aload_n 1, 1) := by decide +kernel
theorem dX8_joinsWith_8 : decode cX8_joinsWith 8 = .ok (.getfield 19, 3) := by decide +kernel
theorem dX8_joinsWith_11 : decode cX8_joinsWith 11 = .ok (.ifCond .le 20, 3) := by decide +kernel
theorem dX8_joinsWith_14 : decode cX8_joinsWith 14 = .ok (.aload_n 0, 1) := by decide +kernel
theorem dX8_joinsWith_15 : decode cX8_joinsWith 15 = .ok (.aload_n 1, 1) := by decide +kernel
theorem dX8_joinsWith_16 : decode cX8_joinsWith 16 = .ok (.getfield 15, 3) := by decide +kernel
theorem dX8_joinsWith_19 : decode cX8_joinsWith 19 = .ok (.iconst 0, 1) := by decide +kernel
theorem dX8_joinsWith_20 : decode cX8_joinsWith 20 = .ok (.baload, 1) := by decide +kernel
theorem dX8_joinsWith_21 : decode cX8_joinsWith 21 = .ok (.invokevirtual 46, 3) := by decide +kernel
theorem dX8_joinsWith_24 : decode cX8_joinsWith 24 = .ok (.ifCond .eq 7, 3) := by decide +kernel
theorem dX8_joinsWith_27 : decode cX8_joinsWith 27 = .ok (.iconst 1, 1) := by decide +kernel
theorem dX8_joinsWith_28 : decode cX8_joinsWith 28 = .ok (.goto 4, 3) := by decide +kernel
theorem dX8_joinsWith_31 : decode cX8_joinsWith 31 = .ok (.iconst 0, 1) := by decide +kernel
theorem dX8_joinsWith_32 : decode cX8_joinsWith 32 = .ok (.ireturn, 1) := by decide +kernel
theorem dX8_layersWith_0 : decode cX8_layersWith 0 = .ok (.aload_n 0, 1) := by decide +kernel
theorem dX8_layersWith_1 : decode cX8_layersWith 1 = .ok (.getfield 19, 3) := by decide +kernel
theorem dX8_layersWith_4 : decode cX8_layersWith 4 = .ok (.aload_n 1, 1) := by decide +kernel
theorem dX8_layersWith_5 : decode cX8_layersWith 5 = .ok (.getfield 19, 3) := by decide +kernel
theorem dX8_layersWith_8 : decode cX8_layersWith 8 = .ok (.iadd, 1) := by decide +kernel
theorem dX8_layersWith_9 : decode cX8_layersWith 9 = .ok (.aload_n 0, 1) := by decide +kernel
theorem dX8_layersWith_10 : decode cX8_layersWith 10 = .ok (.aload_n 1, 1) := by decide +kernel
theorem dX8_layersWith_11 : decode cX8_layersWith 11 = .ok (.invokevirtual 84, 3) := by decide +kernel
theorem dX8_layersWith_14 : decode cX8_layersWith 14 = .ok (.ifCond .eq 7, 3) := by decide +kernel
theorem dX8_layersWith_17 : decode cX8_layersWith 17 = .ok (.iconst 1, 1) := by decide +kernel
theorem dX8_layersWith_18 : decode cX8_layersWith 18 = .ok (.goto 4, 3) := by decide +kernel
theorem dX8_layersWith_21 : decode cX8_layersWith 21 = .ok (.iconst 0, 1) := by decide +kernel
theorem dX8_layersWith_22 : decode cX8_layersWith 22 = .ok (.isub, 1) := by decide +kernel
theorem dX8_layersWith_23 : decode cX8_layersWith 23 = .ok (.ireturn, 1) := by decide +kernel
theorem dX8_carry_0 : decode cX8_carry 0 = .ok (.iconst 0, 1) := by decide +kernel
theorem dX8_carry_1 : decode cX8_carry 1 = .ok (.istore_n 2, 1) := by decide +kernel
theorem dX8_carry_2 : decode cX8_carry 2 = .ok (.iconst 0, 1) := by decide +kernel
theorem dX8_carry_3 : decode cX8_carry 3 = .ok (.istore_n 3, 1) := by decide +kernel
theorem dX8_carry_4 : decode cX8_carry 4 = .ok (.iload_n 3, 1) := by decide +kernel
theorem dX8_carry_5 : decode cX8_carry 5 = .ok (.aload_n 1, 1) := by decide +kernel
theorem dX8_carry_6 : decode cX8_carry 6 = .ok (.getfield 19, 3) := by decide +kernel
theorem dX8_carry_9 : decode cX8_carry 9 = .ok (.if_icmp .ge 47, 3) := by decide +kernel
theorem dX8_carry_12 : decode cX8_carry 12 = .ok (.aload_n 0, 1) := by decide +kernel
theorem dX8_carry_13 : decode cX8_carry 13 = .ok (.aload_n 1, 1) := by decide +kernel
theorem dX8_carry_14 : decode cX8_carry 14 = .ok (.getfield 15, 3) := by decide +kernel
theorem dX8_carry_17 : decode cX8_carry 17 = .ok (.iload_n 3, 1) := by decide +kernel
theorem dX8_carry_18 : decode cX8_carry 18 = .ok (.baload, 1) := by decide +kernel
theorem dX8_carry_19 : decode cX8_carry 19 = .ok (.aload_n 1, 1) := by decide +kernel
theorem dX8_carry_20 : decode cX8_carry 20 = .ok (.getfield 9, 3) := by decide +kernel
theorem dX8_carry_23 : decode cX8_carry 23 = .ok (.iload_n 3, 1) := by decide +kernel
theorem dX8_carry_24 : decode cX8_carry 24 = .ok (.iaload, 1) := by decide +kernel
theorem dX8_carry_25 : decode cX8_carry 25 = .ok (.iload_n 3, 1) := by decide +kernel
theorem dX8_carry_26 : decode cX8_carry 26 = .ok (.ifCond .gt 10, 3) := by decide +kernel
theorem dX8_carry_29 : decode cX8_carry 29 = .ok (.aload_n 0, 1) := by decide +kernel
theorem dX8_carry_30 : decode cX8_carry 30 = .ok (.getfield 32, 3) := by decide +kernel
theorem dX8_carry_33 : decode cX8_carry 33 = .ok (.ifCond .eq 7, 3) := by decide +kernel
theorem dX8_carry_36 : decode cX8_carry 36 = .ok (.iconst 1, 1) := by decide +kernel
theorem dX8_carry_37 : decode cX8_carry 37 = .ok (.goto 4, 3) := by decide +kernel
theorem dX8_carry_40 : decode cX8_carry 40 = .ok (.iconst 0, 1) := by decide +kernel
theorem dX8_carry_41 : decode cX8_carry 41 = .ok (.invokevirtual 42, 3) := by decide +kernel
theorem dX8_carry_44 : decode cX8_carry 44 = .ok (.ifCond .eq 6, 3) := by decide +kernel
theorem dX8_carry_47 : decode cX8_carry 47 = .ok (.iinc 2 1, 3) := by decide +kernel
theorem dX8_carry_50 : decode cX8_carry 50 = .ok (.iinc 3 1, 3) := by decide +kernel
theorem dX8_carry_53 : decode cX8_carry 53 = .ok (.goto (-49), 3) := by decide +kernel
theorem dX8_carry_56 : decode cX8_carry 56 = .ok (.aload_n 0, 1) := by decide +kernel
theorem dX8_carry_57 : decode cX8_carry 57 = .ok (.dup, 1) := by decide +kernel
theorem dX8_carry_58 : decode cX8_carry 58 = .ok (.getfield 23, 3) := by decide +kernel
theorem dX8_carry_61 : decode cX8_carry 61 = .ok (.aload_n 1, 1) := by decide +kernel
theorem dX8_carry_62 : decode cX8_carry 62 = .ok (.getfield 23, 3) := by decide +kernel
theorem dX8_carry_65 : decode cX8_carry 65 = .ok (.iload_n 2, 1) := by decide +kernel
theorem dX8_carry_66 : decode cX8_carry 66 = .ok (.isub, 1) := by decide +kernel
theorem dX8_carry_67 : decode cX8_carry 67 = .ok (.iadd, 1) := by decide +kernel
theorem dX8_carry_68 : decode cX8_carry 68 = .ok (.putfield 23, 3) := by decide +kernel
theorem dX8_carry_71 : decode cX8_carry 71 = .ok (.aload_n 0, 1) := by decide +kernel
theorem dX8_carry_72 : decode cX8_carry 72 = .ok (.aload_n 0, 1) := by decide +kernel
theorem dX8_carry_73 : decode cX8_carry 73 = .ok (.getfield 26, 3) := by decide +kernel
theorem dX8_carry_76 : decode cX8_carry 76 = .ok (.aload_n 1, 1) := by decide +kernel
theorem dX8_carry_77 : decode cX8_carry 77 = .ok (.getfield 26, 3) := by decide +kernel
theorem dX8_carry_80 : decode cX8_carry 80 = .ok (.invokestatic 62, 3) := by decide +kernel
theorem dX8_carry_83 : decode cX8_carry 83 = .ok (.putfield 26, 3) := by decide +kernel
theorem dX8_carry_86 : decode cX8_carry 86 = .ok (.aload_n 0, 1) := by decide +kernel
theorem dX8_carry_87 : decode cX8_carry 87 = .ok (.aload_n 0, 1) := by decide +kernel
theorem dX8_carry_88 : decode cX8_carry 88 = .ok (.getfield 29, 3) := by decide +kernel
theorem dX8_carry_91 : decode cX8_carry 91 = .ok (.aload_n 1, 1) := by decide +kernel
theorem dX8_carry_92 : decode cX8_carry 92 = .ok (.getfield 29, 3) := by decide +kernel
theorem dX8_carry_95 : decode cX8_carry 95 = .ok (.invokestatic 62, 3) := by decide +kernel
theorem dX8_carry_98 : decode cX8_carry 98 = .ok (.putfield 29, 3) := by decide +kernel
theorem dX8_carry_101 : decode cX8_carry 101 = .ok (.aload_n 0, 1) := by decide +kernel
theorem dX8_carry_102 : decode cX8_carry 102 = .ok (.aload_n 1, 1) := by decide +kernel
theorem dX8_carry_103 : decode cX8_carry 103 = .ok (.getfield 32, 3) := by decide +kernel
theorem dX8_carry_106 : decode cX8_carry 106 = .ok (.putfield 32, 3) := by decide +kernel
theorem dX8_carry_109 : decode cX8_carry 109 = .ok (.aload_n 0, 1) := by decide +kernel
theorem dX8_carry_110 : decode cX8_carry 110 = .ok (.iconst 0, 1) := by decide +kernel
theorem dX8_carry_111 : decode cX8_carry 111 = .ok (.putfield 36, 3) := by decide +kernel
theorem dX8_carry_114 : decode cX8_carry 114 = .ok (.return_, 1) := by decide +kernel
theorem dX8_butterTop_0 : decode cX8_butterTop 0 = .ok (.aload_n 0, 1) := by decide +kernel
theorem dX8_butterTop_1 : decode cX8_butterTop 1 = .ok (.iconst 1, 1) := by decide +kernel
theorem dX8_butterTop_2 : decode cX8_butterTop 2 = .ok (.iload_n 1, 1) := by decide +kernel
theorem dX8_butterTop_3 : decode cX8_butterTop 3 = .ok (.aload_n 0, 1) := by decide +kernel
theorem dX8_butterTop_4 : decode cX8_butterTop 4 = .ok (.getfield 32, 3) := by decide +kernel
theorem dX8_butterTop_7 : decode cX8_butterTop 7 = .ok (.invokevirtual 42, 3) := by decide +kernel
theorem dX8_butterTop_10 : decode cX8_butterTop 10 = .ok (.istore_n 2, 1) := by decide +kernel
theorem dX8_butterTop_11 : decode cX8_butterTop 11 = .ok (.aload_n 0, 1) := by decide +kernel
theorem dX8_butterTop_12 : decode cX8_butterTop 12 = .ok (.dup, 1) := by decide +kernel
theorem dX8_butterTop_13 : decode cX8_butterTop 13 = .ok (.getfield 23, 3) := by decide +kernel
theorem dX8_butterTop_16 : decode cX8_butterTop 16 = .ok (.iload_n 2, 1) := by decide +kernel
theorem dX8_butterTop_17 : decode cX8_butterTop 17 = .ok (.ifCond .eq 7, 3) := by decide +kernel
theorem dX8_butterTop_20 : decode cX8_butterTop 20 = .ok (.iconst 0, 1) := by decide +kernel
theorem dX8_butterTop_21 : decode cX8_butterTop 21 = .ok (.goto 4, 3) := by decide +kernel
theorem dX8_butterTop_24 : decode cX8_butterTop 24 = .ok (.iconst 1, 1) := by decide +kernel
theorem dX8_butterTop_25 : decode cX8_butterTop 25 = .ok (.iadd, 1) := by decide +kernel
theorem dX8_butterTop_26 : decode cX8_butterTop 26 = .ok (.putfield 23, 3) := by decide +kernel
theorem dX8_butterTop_29 : decode cX8_butterTop 29 = .ok (.aload_n 0, 1) := by decide +kernel
theorem dX8_butterTop_30 : decode cX8_butterTop 30 = .ok (.iconst 0, 1) := by decide +kernel
theorem dX8_butterTop_31 : decode cX8_butterTop 31 = .ok (.putfield 36, 3) := by decide +kernel
theorem dX8_butterTop_34 : decode cX8_butterTop 34 = .ok (.return_, 1) := by decide +kernel
theorem dX8_countButterLayers_0 : decode cX8_countButterLayers 0 = .ok (.iconst 0, 1) := by decide +kernel
theorem dX8_countButterLayers_1 : decode cX8_countButterLayers 1 = .ok (.istore_n 1, 1) := by decide +kernel
theorem dX8_countButterLayers_2 : decode cX8_countButterLayers 2 = .ok (.iconst 0, 1) := by decide +kernel
theorem dX8_countButterLayers_3 : decode cX8_countButterLayers 3 = .ok (.istore_n 2, 1) := by decide +kernel
theorem dX8_countButterLayers_4 : decode cX8_countButterLayers 4 = .ok (.iload_n 2, 1) := by decide +kernel
theorem dX8_countButterLayers_5 : decode cX8_countButterLayers 5 = .ok (.aload_n 0, 1) := by decide +kernel
theorem dX8_countButterLayers_6 : decode cX8_countButterLayers 6 = .ok (.getfield 19, 3) := by decide +kernel
theorem dX8_countButterLayers_9 : decode cX8_countButterLayers 9 = .ok (.if_icmp .ge 21, 3) := by decide +kernel
theorem dX8_countButterLayers_12 : decode cX8_countButterLayers 12 = .ok (.aload_n 0, 1) := by decide +kernel
theorem dX8_countButterLayers_13 : decode cX8_countButterLayers 13 = .ok (.getfield 15, 3) := by decide +kernel
theorem dX8_countButterLayers_16 : decode cX8_countButterLayers 16 = .ok (.iload_n 2, 1) := by decide +kernel
theorem dX8_countButterLayers_17 : decode cX8_countButterLayers 17 = .ok (.baload, 1) := by decide +kernel
theorem dX8_countButterLayers_18 : decode cX8_countButterLayers 18 = .ok (.ifCond .eq 6, 3) := by decide +kernel
theorem dX8_countButterLayers_21 : decode cX8_countButterLayers 21 = .ok (.iinc 1 1, 3) := by decide +kernel
theorem dX8_countButterLayers_24 : decode cX8_countButterLayers 24 = .ok (.iinc 2 1, 3) := by decide +kernel
theorem dX8_countButterLayers_27 : decode cX8_countButterLayers 27 = .ok (.goto (-23), 3) := by decide +kernel
theorem dX8_countButterLayers_30 : decode cX8_countButterLayers 30 = .ok (.iload_n 1, 1) := by decide +kernel
theorem dX8_countButterLayers_31 : decode cX8_countButterLayers 31 = .ok (.ireturn, 1) := by decide +kernel
theorem dX8_totalButter_0 : decode cX8_totalButter 0 = .ok (.iconst 0, 1) := by decide +kernel
theorem dX8_totalButter_1 : decode cX8_totalButter 1 = .ok (.istore_n 1, 1) := by decide +kernel
theorem dX8_totalButter_2 : decode cX8_totalButter 2 = .ok (.iconst 0, 1) := by decide +kernel
theorem dX8_totalButter_3 : decode cX8_totalButter 3 = .ok (.istore_n 2, 1) := by decide +kernel
theorem dX8_totalButter_4 : decode cX8_totalButter 4 = .ok (.iload_n 2, 1) := by decide +kernel
theorem dX8_totalButter_5 : decode cX8_totalButter 5 = .ok (.aload_n 0, 1) := by decide +kernel
theorem dX8_totalButter_6 : decode cX8_totalButter 6 = .ok (.getfield 19, 3) := by decide +kernel
theorem dX8_totalButter_9 : decode cX8_totalButter 9 = .ok (.if_icmp .ge 27, 3) := by decide +kernel
theorem dX8_totalButter_12 : decode cX8_totalButter 12 = .ok (.aload_n 0, 1) := by decide +kernel
theorem dX8_totalButter_13 : decode cX8_totalButter 13 = .ok (.getfield 15, 3) := by decide +kernel
theorem dX8_totalButter_16 : decode cX8_totalButter 16 = .ok (.iload_n 2, 1) := by decide +kernel
theorem dX8_totalButter_17 : decode cX8_totalButter 17 = .ok (.baload, 1) := by decide +kernel
theorem dX8_totalButter_18 : decode cX8_totalButter 18 = .ok (.ifCond .eq 12, 3) := by decide +kernel
theorem dX8_totalButter_21 : decode cX8_totalButter 21 = .ok (.iload_n 1, 1) := by decide +kernel
theorem dX8_totalButter_22 : decode cX8_totalButter 22 = .ok (.aload_n 0, 1) := by decide +kernel
theorem dX8_totalButter_23 : decode cX8_totalButter 23 = .ok (.getfield 9, 3) := by decide +kernel
theorem dX8_totalButter_26 : decode cX8_totalButter 26 = .ok (.iload_n 2, 1) := by decide +kernel
theorem dX8_totalButter_27 : decode cX8_totalButter 27 = .ok (.iaload, 1) := by decide +kernel
theorem dX8_totalButter_28 : decode cX8_totalButter 28 = .ok (.iadd, 1) := by decide +kernel
theorem dX8_totalButter_29 : decode cX8_totalButter 29 = .ok (.istore_n 1, 1) := by decide +kernel
theorem dX8_totalButter_30 : decode cX8_totalButter 30 = .ok (.iinc 2 1, 3) := by decide +kernel
theorem dX8_totalButter_33 : decode cX8_totalButter 33 = .ok (.goto (-29), 3) := by decide +kernel
theorem dX8_totalButter_36 : decode cX8_totalButter 36 = .ok (.iload_n 1, 1) := by decide +kernel
theorem dX8_totalButter_37 : decode cX8_totalButter 37 = .ok (.ireturn, 1) := by decide +kernel
theorem dX8_findThinnest_0 : decode cX8_findThinnest 0 = .ok (.iconst 0, 1) := by decide +kernel
theorem dX8_findThinnest_1 : decode cX8_findThinnest 1 = .ok (.istore_n 1, 1) := by decide +kernel
theorem dX8_findThinnest_2 : decode cX8_findThinnest 2 = .ok (.iconst 1, 1) := by decide +kernel
theorem dX8_findThinnest_3 : decode cX8_findThinnest 3 = .ok (.istore_n 2, 1) := by decide +kernel
theorem dX8_findThinnest_4 : decode cX8_findThinnest 4 = .ok (.iload_n 2, 1) := by decide +kernel
theorem dX8_findThinnest_5 : decode cX8_findThinnest 5 = .ok (.aload_n 0, 1) := by decide +kernel
theorem dX8_findThinnest_6 : decode cX8_findThinnest 6 = .ok (.getfield 19, 3) := by decide +kernel
theorem dX8_findThinnest_9 : decode cX8_findThinnest 9 = .ok (.if_icmp .ge 26, 3) := by decide +kernel
theorem dX8_findThinnest_12 : decode cX8_findThinnest 12 = .ok (.aload_n 0, 1) := by decide +kernel
theorem dX8_findThinnest_13 : decode cX8_findThinnest 13 = .ok (.getfield 9, 3) := by decide +kernel
theorem dX8_findThinnest_16 : decode cX8_findThinnest 16 = .ok (.iload_n 2, 1) := by decide +kernel
theorem dX8_findThinnest_17 : decode cX8_findThinnest 17 = .ok (.iaload, 1) := by decide +kernel
theorem dX8_findThinnest_18 : decode cX8_findThinnest 18 = .ok (.aload_n 0, 1) := by decide +kernel
theorem dX8_findThinnest_19 : decode cX8_findThinnest 19 = .ok (.getfield 9, 3) := by decide +kernel
theorem dX8_findThinnest_22 : decode cX8_findThinnest 22 = .ok (.iload_n 1, 1) := by decide +kernel
theorem dX8_findThinnest_23 : decode cX8_findThinnest 23 = .ok (.iaload, 1) := by decide +kernel
theorem dX8_findThinnest_24 : decode cX8_findThinnest 24 = .ok (.if_icmp .ge 5, 3) := by decide +kernel
theorem dX8_findThinnest_27 : decode cX8_findThinnest 27 = .ok (.iload_n 2, 1) := by decide +kernel
theorem dX8_findThinnest_28 : decode cX8_findThinnest 28 = .ok (.istore_n 1, 1) := by decide +kernel
theorem dX8_findThinnest_29 : decode cX8_findThinnest 29 = .ok (.iinc 2 1, 3) := by decide +kernel
theorem dX8_findThinnest_32 : decode cX8_findThinnest 32 = .ok (.goto (-28), 3) := by decide +kernel
theorem dX8_findThinnest_35 : decode cX8_findThinnest 35 = .ok (.iload_n 1, 1) := by decide +kernel
theorem dX8_findThinnest_36 : decode cX8_findThinnest 36 = .ok (.ireturn, 1) := by decide +kernel
theorem dX8_findThickest_0 : decode cX8_findThickest 0 = .ok (.iconst 0, 1) := by decide +kernel
theorem dX8_findThickest_1 : decode cX8_findThickest 1 = .ok (.istore_n 1, 1) := by decide +kernel
theorem dX8_findThickest_2 : decode cX8_findThickest 2 = .ok (.iconst 1, 1) := by decide +kernel
theorem dX8_findThickest_3 : decode cX8_findThickest 3 = .ok (.istore_n 2, 1) := by decide +kernel
theorem dX8_findThickest_4 : decode cX8_findThickest 4 = .ok (.iload_n 2, 1) := by decide +kernel
theorem dX8_findThickest_5 : decode cX8_findThickest 5 = .ok (.aload_n 0, 1) := by decide +kernel
theorem dX8_findThickest_6 : decode cX8_findThickest 6 = .ok (.getfield 19, 3) := by decide +kernel
theorem dX8_findThickest_9 : decode cX8_findThickest 9 = .ok (.if_icmp .ge 26, 3) := by decide +kernel
theorem dX8_findThickest_12 : decode cX8_findThickest 12 = .ok (.aload_n 0, 1) := by decide +kernel
theorem dX8_findThickest_13 : decode cX8_findThickest 13 = .ok (.getfield 9, 3) := by decide +kernel
theorem dX8_findThickest_16 : decode cX8_findThickest 16 = .ok (.iload_n 2, 1) := by decide +kernel
theorem dX8_findThickest_17 : decode cX8_findThickest 17 = .ok (.iaload, 1) := by decide +kernel
theorem dX8_findThickest_18 : decode cX8_findThickest 18 = .ok (.aload_n 0, 1) := by decide +kernel
theorem dX8_findThickest_19 : decode cX8_findThickest 19 = .ok (.getfield 9, 3) := by decide +kernel
theorem dX8_findThickest_22 : decode cX8_findThickest 22 = .ok (.iload_n 1, 1) := by decide +kernel
theorem dX8_findThickest_23 : decode cX8_findThickest 23 = .ok (.iaload, 1) := by decide +kernel
theorem dX8_findThickest_24 : decode cX8_findThickest 24 = .ok (.if_icmp .le 5, 3) := by decide +kernel
theorem dX8_findThickest_27 : decode cX8_findThickest 27 = .ok (.iload_n 2, 1) := by decide +kernel
theorem dX8_findThickest_28 : decode cX8_findThickest 28 = .ok (.istore_n 1, 1) := by decide +kernel
theorem dX8_findThickest_29 : decode cX8_findThickest 29 = .ok (.iinc 2 1, 3) := by decide +kernel
theorem dX8_findThickest_32 : decode cX8_findThickest 32 = .ok (.goto (-28), 3) := by decide +kernel
theorem dX8_findThickest_35 : decode cX8_findThickest 35 = .ok (.iload_n 1, 1) := by decide +kernel
theorem dX8_findThickest_36 : decode cX8_findThickest 36 = .ok (.ireturn, 1) := by decide +kernel
theorem dX8_countSeams_0 : decode cX8_countSeams 0 = .ok (.iconst 0, 1) := by decide +kernel
theorem dX8_countSeams_1 : decode cX8_countSeams 1 = .ok (.istore_n 1, 1) := by decide +kernel
theorem dX8_countSeams_2 : decode cX8_countSeams 2 = .ok (.iconst 1, 1) := by decide +kernel
theorem dX8_countSeams_3 : decode cX8_countSeams 3 = .ok (.istore_n 2, 1) := by decide +kernel
theorem dX8_countSeams_4 : decode cX8_countSeams 4 = .ok (.iload_n 2, 1) := by decide +kernel
theorem dX8_countSeams_5 : decode cX8_countSeams 5 = .ok (.aload_n 0, 1) := by decide +kernel
theorem dX8_countSeams_6 : decode cX8_countSeams 6 = .ok (.getfield 19, 3) := by decide +kernel
theorem dX8_countSeams_9 : decode cX8_countSeams 9 = .ok (.if_icmp .ge 29, 3) := by decide +kernel
theorem dX8_countSeams_12 : decode cX8_countSeams 12 = .ok (.aload_n 0, 1) := by decide +kernel
theorem dX8_countSeams_13 : decode cX8_countSeams 13 = .ok (.getfield 15, 3) := by decide +kernel
theorem dX8_countSeams_16 : decode cX8_countSeams 16 = .ok (.iload_n 2, 1) := by decide +kernel
theorem dX8_countSeams_17 : decode cX8_countSeams 17 = .ok (.baload, 1) := by decide +kernel
theorem dX8_countSeams_18 : decode cX8_countSeams 18 = .ok (.aload_n 0, 1) := by decide +kernel
theorem dX8_countSeams_19 : decode cX8_countSeams 19 = .ok (.getfield 15, 3) := by decide +kernel
theorem dX8_countSeams_22 : decode cX8_countSeams 22 = .ok (.iload_n 2, 1) := by decide +kernel
theorem dX8_countSeams_23 : decode cX8_countSeams 23 = .ok (.iconst 1, 1) := by decide +kernel
theorem dX8_countSeams_24 : decode cX8_countSeams 24 = .ok (.isub, 1) := by decide +kernel
theorem dX8_countSeams_25 : decode cX8_countSeams 25 = .ok (.baload, 1) := by decide +kernel
theorem dX8_countSeams_26 : decode cX8_countSeams 26 = .ok (.if_icmp .ne 6, 3) := by decide +kernel
theorem dX8_countSeams_29 : decode cX8_countSeams 29 = .ok (.iinc 1 1, 3) := by decide +kernel
theorem dX8_countSeams_32 : decode cX8_countSeams 32 = .ok (.iinc 2 1, 3) := by decide +kernel
theorem dX8_countSeams_35 : decode cX8_countSeams 35 = .ok (.goto (-31), 3) := by decide +kernel
theorem dX8_countSeams_38 : decode cX8_countSeams 38 = .ok (.iload_n 1, 1) := by decide +kernel
theorem dX8_countSeams_39 : decode cX8_countSeams 39 = .ok (.ireturn, 1) := by decide +kernel
theorem dX8_sameFromBothSides_0 : decode cX8_sameFromBothSides 0 = .ok (.aload_n 0, 1) := by decide +kernel
theorem dX8_sameFromBothSides_1 : decode cX8_sameFromBothSides 1 = .ok (.getfield 19, 3) := by decide +kernel
theorem dX8_sameFromBothSides_4 : decode cX8_sameFromBothSides 4 = .ok (.iconst 1, 1) := by decide +kernel
theorem dX8_sameFromBothSides_5 : decode cX8_sameFromBothSides 5 = .ok (.isub, 1) := by decide +kernel
theorem dX8_sameFromBothSides_6 : decode cX8_sameFromBothSides 6 = .ok (.istore_n 1, 1) := by decide +kernel
theorem dX8_sameFromBothSides_7 : decode cX8_sameFromBothSides 7 = .ok (.iconst 0, 1) := by decide +kernel
theorem dX8_sameFromBothSides_8 : decode cX8_sameFromBothSides 8 = .ok (.istore_n 2, 1) := by decide +kernel
theorem dX8_sameFromBothSides_9 : decode cX8_sameFromBothSides 9 = .ok (.iload_n 2, 1) := by decide +kernel
theorem dX8_sameFromBothSides_10 : decode cX8_sameFromBothSides 10 = .ok (.iload_n 1, 1) := by decide +kernel
theorem dX8_sameFromBothSides_11 : decode cX8_sameFromBothSides 11 = .ok (.if_icmp .ge 44, 3) := by decide +kernel
theorem dX8_sameFromBothSides_14 : decode cX8_sameFromBothSides 14 = .ok (.aload_n 0, 1) := by decide +kernel
theorem dX8_sameFromBothSides_15 : decode cX8_sameFromBothSides 15 = .ok (.getfield 15, 3) := by decide +kernel
theorem dX8_sameFromBothSides_18 : decode cX8_sameFromBothSides 18 = .ok (.iload_n 2, 1) := by decide +kernel
theorem dX8_sameFromBothSides_19 : decode cX8_sameFromBothSides 19 = .ok (.baload, 1) := by decide +kernel
theorem dX8_sameFromBothSides_20 : decode cX8_sameFromBothSides 20 = .ok (.aload_n 0, 1) := by decide +kernel
theorem dX8_sameFromBothSides_21 : decode cX8_sameFromBothSides 21 = .ok (.getfield 15, 3) := by decide +kernel
theorem dX8_sameFromBothSides_24 : decode cX8_sameFromBothSides 24 = .ok (.iload_n 1, 1) := by decide +kernel
theorem dX8_sameFromBothSides_25 : decode cX8_sameFromBothSides 25 = .ok (.baload, 1) := by decide +kernel
theorem dX8_sameFromBothSides_26 : decode cX8_sameFromBothSides 26 = .ok (.if_icmp .ne 18, 3) := by decide +kernel
theorem dX8_sameFromBothSides_29 : decode cX8_sameFromBothSides 29 = .ok (.aload_n 0, 1) := by decide +kernel
theorem dX8_sameFromBothSides_30 : decode cX8_sameFromBothSides 30 = .ok (.getfield 9, 3) := by decide +kernel
theorem dX8_sameFromBothSides_33 : decode cX8_sameFromBothSides 33 = .ok (.iload_n 2, 1) := by decide +kernel
theorem dX8_sameFromBothSides_34 : decode cX8_sameFromBothSides 34 = .ok (.iaload, 1) := by decide +kernel
theorem dX8_sameFromBothSides_35 : decode cX8_sameFromBothSides 35 = .ok (.aload_n 0, 1) := by decide +kernel
theorem dX8_sameFromBothSides_36 : decode cX8_sameFromBothSides 36 = .ok (.getfield 9, 3) := by decide +kernel
theorem dX8_sameFromBothSides_39 : decode cX8_sameFromBothSides 39 = .ok (.iload_n 1, 1) := by decide +kernel
theorem dX8_sameFromBothSides_40 : decode cX8_sameFromBothSides 40 = .ok (.iaload, 1) := by decide +kernel
theorem dX8_sameFromBothSides_41 : decode cX8_sameFromBothSides 41 = .ok (.if_icmp .eq 5, 3) := by decide +kernel
theorem dX8_sameFromBothSides_44 : decode cX8_sameFromBothSides 44 = .ok (.iconst 0, 1) := by decide +kernel
theorem dX8_sameFromBothSides_45 : decode cX8_sameFromBothSides 45 = .ok (.ireturn, 1) := by decide +kernel
theorem dX8_sameFromBothSides_46 : decode cX8_sameFromBothSides 46 = .ok (.iinc 1 (-1), 3) := by decide +kernel
theorem dX8_sameFromBothSides_49 : decode cX8_sameFromBothSides 49 = .ok (.iinc 2 1, 3) := by decide +kernel
theorem dX8_sameFromBothSides_52 : decode cX8_sameFromBothSides 52 = .ok (.goto (-43), 3) := by decide +kernel
theorem dX8_sameFromBothSides_55 : decode cX8_sameFromBothSides 55 = .ok (.iconst 1, 1) := by decide +kernel
theorem dX8_sameFromBothSides_56 : decode cX8_sameFromBothSides 56 = .ok (.ireturn, 1) := by decide +kernel
theorem dX8_countPossibleFolds_0 : decode cX8_countPossibleFolds 0 = .ok (.aload_n 0, 1) := by decide +kernel
theorem dX8_countPossibleFolds_1 : decode cX8_countPossibleFolds 1 = .ok (.getfield 39, 3) := by decide +kernel
theorem dX8_countPossibleFolds_4 : decode cX8_countPossibleFolds 4 = .ok (.ifCond .eq 5, 3) := by decide +kernel
theorem dX8_countPossibleFolds_7 : decode cX8_countPossibleFolds 7 = .ok (.iconst 0, 1) := by decide +kernel
theorem dX8_countPossibleFolds_8 : decode cX8_countPossibleFolds 8 = .ok (.ireturn, 1) := by decide +kernel
theorem dX8_countPossibleFolds_9 : decode cX8_countPossibleFolds 9 = .ok (.aload_n 0, 1) := by decide +kernel
theorem dX8_countPossibleFolds_10 : decode cX8_countPossibleFolds 10 = .ok (.getfield 19, 3) := by decide +kernel
theorem dX8_countPossibleFolds_13 : decode cX8_countPossibleFolds 13 = .ok (.iload_n 1, 1) := by decide +kernel
theorem dX8_countPossibleFolds_14 : decode cX8_countPossibleFolds 14 = .ok (.aload_n 0, 1) := by decide +kernel
theorem dX8_countPossibleFolds_15 : decode cX8_countPossibleFolds 15 = .ok (.getfield 32, 3) := by decide +kernel
theorem dX8_countPossibleFolds_18 : decode cX8_countPossibleFolds 18 = .ok (.invokestatic 50, 3) := by decide +kernel
theorem dX8_countPossibleFolds_21 : decode cX8_countPossibleFolds 21 = .ok (.istore_n 2, 1) := by decide +kernel
theorem dX8_countPossibleFolds_22 : decode cX8_countPossibleFolds 22 = .ok (.aload_n 0, 1) := by decide +kernel
theorem dX8_countPossibleFolds_23 : decode cX8_countPossibleFolds 23 = .ok (.invokevirtual 54, 3) := by decide +kernel
theorem dX8_countPossibleFolds_26 : decode cX8_countPossibleFolds 26 = .ok (.iload_n 1, 1) := by decide +kernel
theorem dX8_countPossibleFolds_27 : decode cX8_countPossibleFolds 27 = .ok (.imul, 1) := by decide +kernel
theorem dX8_countPossibleFolds_28 : decode cX8_countPossibleFolds 28 = .ok (.istore_n 3, 1) := by decide +kernel
theorem dX8_countPossibleFolds_29 : decode cX8_countPossibleFolds 29 = .ok (.iconst 0, 1) := by decide +kernel
theorem dX8_countPossibleFolds_30 : decode cX8_countPossibleFolds 30 = .ok (.istore 4, 2) := by decide +kernel
theorem dX8_countPossibleFolds_32 : decode cX8_countPossibleFolds 32 = .ok (.iload_n 2, 1) := by decide +kernel
theorem dX8_countPossibleFolds_33 : decode cX8_countPossibleFolds 33 = .ok (.sipush 200, 3) := by decide +kernel
theorem dX8_countPossibleFolds_36 : decode cX8_countPossibleFolds 36 = .ok (.if_icmp .gt 35, 3) := by decide +kernel
theorem dX8_countPossibleFolds_39 : decode cX8_countPossibleFolds 39 = .ok (.iload_n 3, 1) := by decide +kernel
theorem dX8_countPossibleFolds_40 : decode cX8_countPossibleFolds 40 = .ok (.sipush 4000, 3) := by decide +kernel
theorem dX8_countPossibleFolds_43 : decode cX8_countPossibleFolds 43 = .ok (.if_icmp .gt 28, 3) := by decide +kernel
theorem dX8_countPossibleFolds_46 : decode cX8_countPossibleFolds 46 = .ok (.iload 4, 2) := by decide +kernel
theorem dX8_countPossibleFolds_48 : decode cX8_countPossibleFolds 48 = .ok (.sipush 4000, 3) := by decide +kernel
theorem dX8_countPossibleFolds_51 : decode cX8_countPossibleFolds 51 = .ok (.if_icmp .ge 20, 3) := by decide +kernel
theorem dX8_countPossibleFolds_54 : decode cX8_countPossibleFolds 54 = .ok (.iinc 4 1, 3) := by decide +kernel
theorem dX8_countPossibleFolds_57 : decode cX8_countPossibleFolds 57 = .ok (.iload_n 2, 1) := by decide +kernel
theorem dX8_countPossibleFolds_58 : decode cX8_countPossibleFolds 58 = .ok (.iload_n 1, 1) := by decide +kernel
theorem dX8_countPossibleFolds_59 : decode cX8_countPossibleFolds 59 = .ok (.iconst 0, 1) := by decide +kernel
theorem dX8_countPossibleFolds_60 : decode cX8_countPossibleFolds 60 = .ok (.invokestatic 50, 3) := by decide +kernel
theorem dX8_countPossibleFolds_63 : decode cX8_countPossibleFolds 63 = .ok (.istore_n 2, 1) := by decide +kernel
theorem dX8_countPossibleFolds_64 : decode cX8_countPossibleFolds 64 = .ok (.iload_n 3, 1) := by decide +kernel
theorem dX8_countPossibleFolds_65 : decode cX8_countPossibleFolds 65 = .ok (.iload_n 1, 1) := by decide +kernel
theorem dX8_countPossibleFolds_66 : decode cX8_countPossibleFolds 66 = .ok (.imul, 1) := by decide +kernel
theorem dX8_countPossibleFolds_67 : decode cX8_countPossibleFolds 67 = .ok (.istore_n 3, 1) := by decide +kernel
theorem dX8_countPossibleFolds_68 : decode cX8_countPossibleFolds 68 = .ok (.goto (-36), 3) := by decide +kernel
theorem dX8_countPossibleFolds_71 : decode cX8_countPossibleFolds 71 = .ok (.iload 4, 2) := by decide +kernel
theorem dX8_countPossibleFolds_73 : decode cX8_countPossibleFolds 73 = .ok (.ireturn, 1) := by decide +kernel
theorem dX8_countBreaking_0 : decode cX8_countBreaking 0 = .ok (.aload_n 0, 1) := by decide +kernel
theorem dX8_countBreaking_1 : decode cX8_countBreaking 1 = .ok (.iload_n 2, 1) := by decide +kernel
theorem dX8_countBreaking_2 : decode cX8_countBreaking 2 = .ok (.invokevirtual 68, 3) := by decide +kernel
theorem dX8_countBreaking_5 : decode cX8_countBreaking 5 = .ok (.istore_n 3, 1) := by decide +kernel
theorem dX8_countBreaking_6 : decode cX8_countBreaking 6 = .ok (.iconst 0, 1) := by decide +kernel
theorem dX8_countBreaking_7 : decode cX8_countBreaking 7 = .ok (.istore 4, 2) := by decide +kernel
theorem dX8_countBreaking_9 : decode cX8_countBreaking 9 = .ok (.iconst 0, 1) := by decide +kernel
theorem dX8_countBreaking_10 : decode cX8_countBreaking 10 = .ok (.istore 5, 2) := by decide +kernel
theorem dX8_countBreaking_12 : decode cX8_countBreaking 12 = .ok (.iload 5, 2) := by decide +kernel
theorem dX8_countBreaking_14 : decode cX8_countBreaking 14 = .ok (.aload_n 0, 1) := by decide +kernel
theorem dX8_countBreaking_15 : decode cX8_countBreaking 15 = .ok (.getfield 19, 3) := by decide +kernel
theorem dX8_countBreaking_18 : decode cX8_countBreaking 18 = .ok (.if_icmp .ge 23, 3) := by decide +kernel
theorem dX8_countBreaking_21 : decode cX8_countBreaking 21 = .ok (.aload_n 0, 1) := by decide +kernel
theorem dX8_countBreaking_22 : decode cX8_countBreaking 22 = .ok (.iload 5, 2) := by decide +kernel
theorem dX8_countBreaking_24 : decode cX8_countBreaking 24 = .ok (.iload_n 1, 1) := by decide +kernel
theorem dX8_countBreaking_25 : decode cX8_countBreaking 25 = .ok (.iload_n 3, 1) := by decide +kernel
theorem dX8_countBreaking_26 : decode cX8_countBreaking 26 = .ok (.invokevirtual 74, 3) := by decide +kernel
theorem dX8_countBreaking_29 : decode cX8_countBreaking 29 = .ok (.ifCond .ne 6, 3) := by decide +kernel
theorem dX8_countBreaking_32 : decode cX8_countBreaking 32 = .ok (.iinc 4 1, 3) := by decide +kernel
theorem dX8_countBreaking_35 : decode cX8_countBreaking 35 = .ok (.iinc 5 1, 3) := by decide +kernel
theorem dX8_countBreaking_38 : decode cX8_countBreaking 38 = .ok (.goto (-26), 3) := by decide +kernel
theorem dX8_countBreaking_41 : decode cX8_countBreaking 41 = .ok (.iload 4, 2) := by decide +kernel
theorem dX8_countBreaking_43 : decode cX8_countBreaking 43 = .ok (.ireturn, 1) := by decide +kernel
theorem dX8_countHoursToSafety_0 : decode cX8_countHoursToSafety 0 = .ok (.aload_n 0, 1) := by decide +kernel
theorem dX8_countHoursToSafety_1 : decode cX8_countHoursToSafety 1 = .ok (.getfield 29, 3) := by decide +kernel
theorem dX8_countHoursToSafety_4 : decode cX8_countHoursToSafety 4 = .ok (.istore_n 2, 1) := by decide +kernel
theorem dX8_countHoursToSafety_5 : decode cX8_countHoursToSafety 5 = .ok (.iconst 0, 1) := by decide +kernel
theorem dX8_countHoursToSafety_6 : decode cX8_countHoursToSafety 6 = .ok (.istore_n 3, 1) := by decide +kernel
theorem dX8_countHoursToSafety_7 : decode cX8_countHoursToSafety 7 = .ok (.iload_n 2, 1) := by decide +kernel
theorem dX8_countHoursToSafety_8 : decode cX8_countHoursToSafety 8 = .ok (.iload_n 1, 1) := by decide +kernel
theorem dX8_countHoursToSafety_9 : decode cX8_countHoursToSafety 9 = .ok (.if_icmp .le 20, 3) := by decide +kernel
theorem dX8_countHoursToSafety_12 : decode cX8_countHoursToSafety 12 = .ok (.iload_n 3, 1) := by decide +kernel
theorem dX8_countHoursToSafety_13 : decode cX8_countHoursToSafety 13 = .ok (.bipush 40, 2) := by decide +kernel
theorem dX8_countHoursToSafety_15 : decode cX8_countHoursToSafety 15 = .ok (.if_icmp .ge 14, 3) := by decide +kernel
theorem dX8_countHoursToSafety_18 : decode cX8_countHoursToSafety 18 = .ok (.iload_n 2, 1) := by decide +kernel
theorem dX8_countHoursToSafety_19 : decode cX8_countHoursToSafety 19 = .ok (.invokestatic 78, 3) := by decide +kernel
theorem dX8_countHoursToSafety_22 : decode cX8_countHoursToSafety 22 = .ok (.istore_n 2, 1) := by decide +kernel
theorem dX8_countHoursToSafety_23 : decode cX8_countHoursToSafety 23 = .ok (.iinc 3 1, 3) := by decide +kernel
theorem dX8_countHoursToSafety_26 : decode cX8_countHoursToSafety 26 = .ok (.goto (-19), 3) := by decide +kernel
theorem dX8_countHoursToSafety_29 : decode cX8_countHoursToSafety 29 = .ok (.iload_n 3, 1) := by decide +kernel
theorem dX8_countHoursToSafety_30 : decode cX8_countHoursToSafety 30 = .ok (.ireturn, 1) := by decide +kernel
