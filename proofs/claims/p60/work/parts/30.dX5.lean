theorem dX5_init_0 : decode cX5_init 0 = .ok (.aload_n 0, 1) := by decide +kernel
theorem dX5_init_1 : decode cX5_init 1 = .ok (.invokespecial 3, 3) := by decide +kernel
theorem dX5_init_4 : decode cX5_init 4 = .ok (.aload_n 0, 1) := by decide +kernel
theorem dX5_init_5 : decode cX5_init 5 = .ok (.new 9, 3) := by decide +kernel
theorem dX5_init_8 : decode cX5_init 8 = .ok (.dup, 1) := by decide +kernel
theorem dX5_init_9 : decode cX5_init 9 = .ok (.invokespecial 11, 3) := by decide +kernel
theorem dX5_init_12 : decode cX5_init 12 = .ok (.putfield 12, 3) := by decide +kernel
theorem dX5_init_15 : decode cX5_init 15 = .ok (.aload_n 0, 1) := by decide +kernel
theorem dX5_init_16 : decode cX5_init 16 = .ok (.iconst (-1), 1) := by decide +kernel
theorem dX5_init_17 : decode cX5_init 17 = .ok (.putfield 18, 3) := by decide +kernel
theorem dX5_init_20 : decode cX5_init 20 = .ok (.return_, 1) := by decide +kernel
theorem dX5_begin_0 : decode cX5_begin 0 = .ok (.aload_n 0, 1) := by decide +kernel
theorem dX5_begin_1 : decode cX5_begin 1 = .ok (.iconst 0, 1) := by decide +kernel
theorem dX5_begin_2 : decode cX5_begin 2 = .ok (.putfield 22, 3) := by decide +kernel
theorem dX5_begin_5 : decode cX5_begin 5 = .ok (.aload_n 0, 1) := by decide +kernel
theorem dX5_begin_6 : decode cX5_begin 6 = .ok (.iconst (-1), 1) := by decide +kernel
theorem dX5_begin_7 : decode cX5_begin 7 = .ok (.putfield 18, 3) := by decide +kernel
theorem dX5_begin_10 : decode cX5_begin 10 = .ok (.aload_n 0, 1) := by decide +kernel
theorem dX5_begin_11 : decode cX5_begin 11 = .ok (.getfield 12, 3) := by decide +kernel
theorem dX5_begin_14 : decode cX5_begin 14 = .ok (.aload_n 1, 1) := by decide +kernel
theorem dX5_begin_15 : decode cX5_begin 15 = .ok (.iload_n 2, 1) := by decide +kernel
theorem dX5_begin_16 : decode cX5_begin 16 = .ok (.invokevirtual 25, 3) := by decide +kernel
theorem dX5_begin_19 : decode cX5_begin 19 = .ok (.return_, 1) := by decide +kernel
theorem dX5_fail_0 : decode cX5_fail 0 = .ok (.aload_n 0, 1) := by decide +kernel
theorem dX5_fail_1 : decode cX5_fail 1 = .ok (.iload_n 1, 1) := by decide +kernel
theorem dX5_fail_2 : decode cX5_fail 2 = .ok (.putfield 22, 3) := by decide +kernel
theorem dX5_fail_5 : decode cX5_fail 5 = .ok (.aload_n 0, 1) := by decide +kernel
theorem dX5_fail_6 : decode cX5_fail 6 = .ok (.aload_n 0, 1) := by decide +kernel
theorem dX5_fail_7 : decode cX5_fail 7 = .ok (.getfield 12, 3) := by decide +kernel
theorem dX5_fail_10 : decode cX5_fail 10 = .ok (.getfield 29, 3) := by decide +kernel
theorem dX5_fail_13 : decode cX5_fail 13 = .ok (.putfield 18, 3) := by decide +kernel
theorem dX5_fail_16 : decode cX5_fail 16 = .ok (.iconst 0, 1) := by decide +kernel
theorem dX5_fail_17 : decode cX5_fail 17 = .ok (.ireturn, 1) := by decide +kernel
theorem dX5_takeWord_0 : decode cX5_takeWord 0 = .ok (.aload_n 0, 1) := by decide +kernel
theorem dX5_takeWord_1 : decode cX5_takeWord 1 = .ok (.getfield 12, 3) := by decide +kernel
theorem dX5_takeWord_4 : decode cX5_takeWord 4 = .ok (.aload_n 1, 1) := by decide +kernel
theorem dX5_takeWord_5 : decode cX5_takeWord 5 = .ok (.invokevirtual 32, 3) := by decide +kernel
theorem dX5_takeWord_8 : decode cX5_takeWord 8 = .ok (.ifCond .ne 9, 3) := by decide +kernel
theorem dX5_takeWord_11 : decode cX5_takeWord 11 = .ok (.aload_n 0, 1) := by decide +kernel
theorem dX5_takeWord_12 : decode cX5_takeWord 12 = .ok (.iconst 1, 1) := by decide +kernel
theorem dX5_takeWord_13 : decode cX5_takeWord 13 = .ok (.invokevirtual 36, 3) := by decide +kernel
theorem dX5_takeWord_16 : decode cX5_takeWord 16 = .ok (.ireturn, 1) := by decide +kernel
theorem dX5_takeWord_17 : decode cX5_takeWord 17 = .ok (.aload_n 0, 1) := by decide +kernel
theorem dX5_takeWord_18 : decode cX5_takeWord 18 = .ok (.getfield 12, 3) := by decide +kernel
theorem dX5_takeWord_21 : decode cX5_takeWord 21 = .ok (.invokevirtual 40, 3) := by decide +kernel
theorem dX5_takeWord_24 : decode cX5_takeWord 24 = .ok (.iconst 1, 1) := by decide +kernel
theorem dX5_takeWord_25 : decode cX5_takeWord 25 = .ok (.ireturn, 1) := by decide +kernel
theorem dX5_takeSemicolon_0 : decode cX5_takeSemicolon 0 = .ok (.aload_n 0, 1) := by decide +kernel
theorem dX5_takeSemicolon_1 : decode cX5_takeSemicolon 1 = .ok (.getfield 12, 3) := by decide +kernel
theorem dX5_takeSemicolon_4 : decode cX5_takeSemicolon 4 = .ok (.getfield 43, 3) := by decide +kernel
theorem dX5_takeSemicolon_7 : decode cX5_takeSemicolon 7 = .ok (.getstatic 47, 3) := by decide +kernel
theorem dX5_takeSemicolon_10 : decode cX5_takeSemicolon 10 = .ok (.if_acmp .eq 9, 3) := by decide +kernel
theorem dX5_takeSemicolon_13 : decode cX5_takeSemicolon 13 = .ok (.aload_n 0, 1) := by decide +kernel
theorem dX5_takeSemicolon_14 : decode cX5_takeSemicolon 14 = .ok (.iconst 1, 1) := by decide +kernel
theorem dX5_takeSemicolon_15 : decode cX5_takeSemicolon 15 = .ok (.invokevirtual 36, 3) := by decide +kernel
theorem dX5_takeSemicolon_18 : decode cX5_takeSemicolon 18 = .ok (.ireturn, 1) := by decide +kernel
theorem dX5_takeSemicolon_19 : decode cX5_takeSemicolon 19 = .ok (.aload_n 0, 1) := by decide +kernel
theorem dX5_takeSemicolon_20 : decode cX5_takeSemicolon 20 = .ok (.getfield 12, 3) := by decide +kernel
theorem dX5_takeSemicolon_23 : decode cX5_takeSemicolon 23 = .ok (.invokevirtual 40, 3) := by decide +kernel
theorem dX5_takeSemicolon_26 : decode cX5_takeSemicolon 26 = .ok (.iconst 1, 1) := by decide +kernel
theorem dX5_takeSemicolon_27 : decode cX5_takeSemicolon 27 = .ok (.ireturn, 1) := by decide +kernel
theorem dX5_takeNumber_0 : decode cX5_takeNumber 0 = .ok (.aload_n 0, 1) := by decide +kernel
theorem dX5_takeNumber_1 : decode cX5_takeNumber 1 = .ok (.getfield 12, 3) := by decide +kernel
theorem dX5_takeNumber_4 : decode cX5_takeNumber 4 = .ok (.getfield 43, 3) := by decide +kernel
theorem dX5_takeNumber_7 : decode cX5_takeNumber 7 = .ok (.getstatic 52, 3) := by decide +kernel
theorem dX5_takeNumber_10 : decode cX5_takeNumber 10 = .ok (.if_acmp .eq 9, 3) := by decide +kernel
theorem dX5_takeNumber_13 : decode cX5_takeNumber 13 = .ok (.aload_n 0, 1) := by decide +kernel
theorem dX5_takeNumber_14 : decode cX5_takeNumber 14 = .ok (.iconst 1, 1) := by decide +kernel
theorem dX5_takeNumber_15 : decode cX5_takeNumber 15 = .ok (.invokevirtual 36, 3) := by decide +kernel
theorem dX5_takeNumber_18 : decode cX5_takeNumber 18 = .ok (.ireturn, 1) := by decide +kernel
theorem dX5_takeNumber_19 : decode cX5_takeNumber 19 = .ok (.aload_n 0, 1) := by decide +kernel
theorem dX5_takeNumber_20 : decode cX5_takeNumber 20 = .ok (.getfield 12, 3) := by decide +kernel
theorem dX5_takeNumber_23 : decode cX5_takeNumber 23 = .ok (.getfield 55, 3) := by decide +kernel
theorem dX5_takeNumber_26 : decode cX5_takeNumber 26 = .ok (.iload_n 1, 1) := by decide +kernel
theorem dX5_takeNumber_27 : decode cX5_takeNumber 27 = .ok (.if_icmp .lt 14, 3) := by decide +kernel
theorem dX5_takeNumber_30 : decode cX5_takeNumber 30 = .ok (.aload_n 0, 1) := by decide +kernel
theorem dX5_takeNumber_31 : decode cX5_takeNumber 31 = .ok (.getfield 12, 3) := by decide +kernel
theorem dX5_takeNumber_34 : decode cX5_takeNumber 34 = .ok (.getfield 55, 3) := by decide +kernel
theorem dX5_takeNumber_37 : decode cX5_takeNumber 37 = .ok (.iload_n 2, 1) := by decide +kernel
theorem dX5_takeNumber_38 : decode cX5_takeNumber 38 = .ok (.if_icmp .le 9, 3) := by decide +kernel
theorem dX5_takeNumber_41 : decode cX5_takeNumber 41 = .ok (.aload_n 0, 1) := by decide +kernel
theorem dX5_takeNumber_42 : decode cX5_takeNumber 42 = .ok (.iconst 2, 1) := by decide +kernel
theorem dX5_takeNumber_43 : decode cX5_takeNumber 43 = .ok (.invokevirtual 36, 3) := by decide +kernel
theorem dX5_takeNumber_46 : decode cX5_takeNumber 46 = .ok (.ireturn, 1) := by decide +kernel
theorem dX5_takeNumber_47 : decode cX5_takeNumber 47 = .ok (.aload_n 0, 1) := by decide +kernel
theorem dX5_takeNumber_48 : decode cX5_takeNumber 48 = .ok (.aload_n 0, 1) := by decide +kernel
theorem dX5_takeNumber_49 : decode cX5_takeNumber 49 = .ok (.getfield 12, 3) := by decide +kernel
theorem dX5_takeNumber_52 : decode cX5_takeNumber 52 = .ok (.getfield 55, 3) := by decide +kernel
theorem dX5_takeNumber_55 : decode cX5_takeNumber 55 = .ok (.putfield 58, 3) := by decide +kernel
theorem dX5_takeNumber_58 : decode cX5_takeNumber 58 = .ok (.aload_n 0, 1) := by decide +kernel
theorem dX5_takeNumber_59 : decode cX5_takeNumber 59 = .ok (.getfield 12, 3) := by decide +kernel
theorem dX5_takeNumber_62 : decode cX5_takeNumber 62 = .ok (.invokevirtual 40, 3) := by decide +kernel
theorem dX5_takeNumber_65 : decode cX5_takeNumber 65 = .ok (.iconst 1, 1) := by decide +kernel
theorem dX5_takeNumber_66 : decode cX5_takeNumber 66 = .ok (.ireturn, 1) := by decide +kernel
theorem dX5_readHeader_0 : decode cX5_readHeader 0 = .ok (.aload_n 0, 1) := by decide +kernel
theorem dX5_readHeader_1 : decode cX5_readHeader 1 = .ok (.ldc 74, 2) := by decide +kernel
theorem dX5_readHeader_3 : decode cX5_readHeader 3 = .ok (.invokevirtual 76, 3) := by decide +kernel
theorem dX5_readHeader_6 : decode cX5_readHeader 6 = .ok (.ifCond .eq 13, 3) := by decide +kernel
theorem dX5_readHeader_9 : decode cX5_readHeader 9 = .ok (.aload_n 0, 1) := by decide +kernel
theorem dX5_readHeader_10 : decode cX5_readHeader 10 = .ok (.iconst 0, 1) := by decide +kernel
theorem dX5_readHeader_11 : decode cX5_readHeader 11 = .ok (.bipush 40, 2) := by decide +kernel
theorem dX5_readHeader_13 : decode cX5_readHeader 13 = .ok (.invokevirtual 79, 3) := by decide +kernel
theorem dX5_readHeader_16 : decode cX5_readHeader 16 = .ok (.ifCond .ne 5, 3) := by decide +kernel
theorem dX5_readHeader_19 : decode cX5_readHeader 19 = .ok (.iconst 0, 1) := by decide +kernel
theorem dX5_readHeader_20 : decode cX5_readHeader 20 = .ok (.ireturn, 1) := by decide +kernel
theorem dX5_readHeader_21 : decode cX5_readHeader 21 = .ok (.aload_n 0, 1) := by decide +kernel
theorem dX5_readHeader_22 : decode cX5_readHeader 22 = .ok (.getfield 58, 3) := by decide +kernel
theorem dX5_readHeader_25 : decode cX5_readHeader 25 = .ok (.istore_n 2, 1) := by decide +kernel
theorem dX5_readHeader_26 : decode cX5_readHeader 26 = .ok (.aload_n 0, 1) := by decide +kernel
theorem dX5_readHeader_27 : decode cX5_readHeader 27 = .ok (.iconst 5, 1) := by decide +kernel
theorem dX5_readHeader_28 : decode cX5_readHeader 28 = .ok (.bipush 35, 2) := by decide +kernel
theorem dX5_readHeader_30 : decode cX5_readHeader 30 = .ok (.invokevirtual 79, 3) := by decide +kernel
theorem dX5_readHeader_33 : decode cX5_readHeader 33 = .ok (.ifCond .ne 5, 3) := by decide +kernel
theorem dX5_readHeader_36 : decode cX5_readHeader 36 = .ok (.iconst 0, 1) := by decide +kernel
theorem dX5_readHeader_37 : decode cX5_readHeader 37 = .ok (.ireturn, 1) := by decide +kernel
theorem dX5_readHeader_38 : decode cX5_readHeader 38 = .ok (.aload_n 0, 1) := by decide +kernel
theorem dX5_readHeader_39 : decode cX5_readHeader 39 = .ok (.getfield 58, 3) := by decide +kernel
theorem dX5_readHeader_42 : decode cX5_readHeader 42 = .ok (.istore_n 3, 1) := by decide +kernel
theorem dX5_readHeader_43 : decode cX5_readHeader 43 = .ok (.aload_n 0, 1) := by decide +kernel
theorem dX5_readHeader_44 : decode cX5_readHeader 44 = .ok (.iconst 0, 1) := by decide +kernel
theorem dX5_readHeader_45 : decode cX5_readHeader 45 = .ok (.bipush 50, 2) := by decide +kernel
theorem dX5_readHeader_47 : decode cX5_readHeader 47 = .ok (.invokevirtual 79, 3) := by decide +kernel
theorem dX5_readHeader_50 : decode cX5_readHeader 50 = .ok (.ifCond .ne 5, 3) := by decide +kernel
theorem dX5_readHeader_53 : decode cX5_readHeader 53 = .ok (.iconst 0, 1) := by decide +kernel
theorem dX5_readHeader_54 : decode cX5_readHeader 54 = .ok (.ireturn, 1) := by decide +kernel
theorem dX5_readHeader_55 : decode cX5_readHeader 55 = .ok (.aload_n 1, 1) := by decide +kernel
theorem dX5_readHeader_56 : decode cX5_readHeader 56 = .ok (.iload_n 2, 1) := by decide +kernel
theorem dX5_readHeader_57 : decode cX5_readHeader 57 = .ok (.iload_n 3, 1) := by decide +kernel
theorem dX5_readHeader_58 : decode cX5_readHeader 58 = .ok (.aload_n 0, 1) := by decide +kernel
theorem dX5_readHeader_59 : decode cX5_readHeader 59 = .ok (.getfield 58, 3) := by decide +kernel
theorem dX5_readHeader_62 : decode cX5_readHeader 62 = .ok (.invokevirtual 83, 3) := by decide +kernel
theorem dX5_readHeader_65 : decode cX5_readHeader 65 = .ok (.aload_n 0, 1) := by decide +kernel
theorem dX5_readHeader_66 : decode cX5_readHeader 66 = .ok (.invokevirtual 88, 3) := by decide +kernel
theorem dX5_readHeader_69 : decode cX5_readHeader 69 = .ok (.ireturn, 1) := by decide +kernel
theorem dX5_isLayerWord_0 : decode cX5_isLayerWord 0 = .ok (.aload_n 0, 1) := by decide +kernel
theorem dX5_isLayerWord_1 : decode cX5_isLayerWord 1 = .ok (.getfield 12, 3) := by decide +kernel
theorem dX5_isLayerWord_4 : decode cX5_isLayerWord 4 = .ok (.ldc 102, 2) := by decide +kernel
theorem dX5_isLayerWord_6 : decode cX5_isLayerWord 6 = .ok (.invokevirtual 32, 3) := by decide +kernel
theorem dX5_isLayerWord_9 : decode cX5_isLayerWord 9 = .ok (.ifCond .ne 15, 3) := by decide +kernel
theorem dX5_isLayerWord_12 : decode cX5_isLayerWord 12 = .ok (.aload_n 0, 1) := by decide +kernel
theorem dX5_isLayerWord_13 : decode cX5_isLayerWord 13 = .ok (.getfield 12, 3) := by decide +kernel
theorem dX5_isLayerWord_16 : decode cX5_isLayerWord 16 = .ok (.ldc 104, 2) := by decide +kernel
theorem dX5_isLayerWord_18 : decode cX5_isLayerWord 18 = .ok (.invokevirtual 32, 3) := by decide +kernel
theorem dX5_isLayerWord_21 : decode cX5_isLayerWord 21 = .ok (.ifCond .eq 7, 3) := by decide +kernel
theorem dX5_isLayerWord_24 : decode cX5_isLayerWord 24 = .ok (.iconst 1, 1) := by decide +kernel
theorem dX5_isLayerWord_25 : decode cX5_isLayerWord 25 = .ok (.goto 4, 3) := by decide +kernel
theorem dX5_isLayerWord_28 : decode cX5_isLayerWord 28 = .ok (.iconst 0, 1) := by decide +kernel
theorem dX5_isLayerWord_29 : decode cX5_isLayerWord 29 = .ok (.ireturn, 1) := by decide +kernel
theorem dX5_readLayer_0 : decode cX5_readLayer 0 = .ok (.aload_n 0, 1) := by decide +kernel
theorem dX5_readLayer_1 : decode cX5_readLayer 1 = .ok (.invokevirtual 99, 3) := by decide +kernel
theorem dX5_readLayer_4 : decode cX5_readLayer 4 = .ok (.ifCond .ne 9, 3) := by decide +kernel
theorem dX5_readLayer_7 : decode cX5_readLayer 7 = .ok (.aload_n 0, 1) := by decide +kernel
theorem dX5_readLayer_8 : decode cX5_readLayer 8 = .ok (.iconst 1, 1) := by decide +kernel
theorem dX5_readLayer_9 : decode cX5_readLayer 9 = .ok (.invokevirtual 36, 3) := by decide +kernel
theorem dX5_readLayer_12 : decode cX5_readLayer 12 = .ok (.ireturn, 1) := by decide +kernel
theorem dX5_readLayer_13 : decode cX5_readLayer 13 = .ok (.aload_n 0, 1) := by decide +kernel
theorem dX5_readLayer_14 : decode cX5_readLayer 14 = .ok (.getfield 12, 3) := by decide +kernel
theorem dX5_readLayer_17 : decode cX5_readLayer 17 = .ok (.ldc 104, 2) := by decide +kernel
theorem dX5_readLayer_19 : decode cX5_readLayer 19 = .ok (.invokevirtual 32, 3) := by decide +kernel
theorem dX5_readLayer_22 : decode cX5_readLayer 22 = .ok (.istore_n 2, 1) := by decide +kernel
theorem dX5_readLayer_23 : decode cX5_readLayer 23 = .ok (.aload_n 0, 1) := by decide +kernel
theorem dX5_readLayer_24 : decode cX5_readLayer 24 = .ok (.getfield 12, 3) := by decide +kernel
theorem dX5_readLayer_27 : decode cX5_readLayer 27 = .ok (.invokevirtual 40, 3) := by decide +kernel
theorem dX5_readLayer_30 : decode cX5_readLayer 30 = .ok (.aload_n 0, 1) := by decide +kernel
theorem dX5_readLayer_31 : decode cX5_readLayer 31 = .ok (.iconst 1, 1) := by decide +kernel
theorem dX5_readLayer_32 : decode cX5_readLayer 32 = .ok (.sipush 400, 3) := by decide +kernel
theorem dX5_readLayer_35 : decode cX5_readLayer 35 = .ok (.invokevirtual 79, 3) := by decide +kernel
theorem dX5_readLayer_38 : decode cX5_readLayer 38 = .ok (.ifCond .ne 5, 3) := by decide +kernel
theorem dX5_readLayer_41 : decode cX5_readLayer 41 = .ok (.iconst 0, 1) := by decide +kernel
theorem dX5_readLayer_42 : decode cX5_readLayer 42 = .ok (.ireturn, 1) := by decide +kernel
theorem dX5_readLayer_43 : decode cX5_readLayer 43 = .ok (.aload_n 1, 1) := by decide +kernel
theorem dX5_readLayer_44 : decode cX5_readLayer 44 = .ok (.iload_n 2, 1) := by decide +kernel
theorem dX5_readLayer_45 : decode cX5_readLayer 45 = .ok (.aload_n 0, 1) := by decide +kernel
theorem dX5_readLayer_46 : decode cX5_readLayer 46 = .ok (.getfield 58, 3) := by decide +kernel
theorem dX5_readLayer_49 : decode cX5_readLayer 49 = .ok (.invokevirtual 106, 3) := by decide +kernel
theorem dX5_readLayer_52 : decode cX5_readLayer 52 = .ok (.iconst 1, 1) := by decide +kernel
theorem dX5_readLayer_53 : decode cX5_readLayer 53 = .ok (.ireturn, 1) := by decide +kernel
theorem dX5_readSheet_0 : decode cX5_readSheet 0 = .ok (.aload_n 0, 1) := by decide +kernel
theorem dX5_readSheet_1 : decode cX5_readSheet 1 = .ok (.ldc 72, 2) := by decide +kernel
theorem dX5_readSheet_3 : decode cX5_readSheet 3 = .ok (.invokevirtual 76, 3) := by decide +kernel
theorem dX5_readSheet_6 : decode cX5_readSheet 6 = .ok (.ifCond .eq 13, 3) := by decide +kernel
theorem dX5_readSheet_9 : decode cX5_readSheet 9 = .ok (.aload_n 0, 1) := by decide +kernel
theorem dX5_readSheet_10 : decode cX5_readSheet 10 = .ok (.iconst 0, 1) := by decide +kernel
theorem dX5_readSheet_11 : decode cX5_readSheet 11 = .ok (.bipush 40, 2) := by decide +kernel
theorem dX5_readSheet_13 : decode cX5_readSheet 13 = .ok (.invokevirtual 79, 3) := by decide +kernel
theorem dX5_readSheet_16 : decode cX5_readSheet 16 = .ok (.ifCond .ne 5, 3) := by decide +kernel
theorem dX5_readSheet_19 : decode cX5_readSheet 19 = .ok (.iconst 0, 1) := by decide +kernel
theorem dX5_readSheet_20 : decode cX5_readSheet 20 = .ok (.ireturn, 1) := by decide +kernel
theorem dX5_readSheet_21 : decode cX5_readSheet 21 = .ok (.aload_n 1, 1) := by decide +kernel
theorem dX5_readSheet_22 : decode cX5_readSheet 22 = .ok (.aload_n 0, 1) := by decide +kernel
theorem dX5_readSheet_23 : decode cX5_readSheet 23 = .ok (.getfield 58, 3) := by decide +kernel
theorem dX5_readSheet_26 : decode cX5_readSheet 26 = .ok (.invokevirtual 92, 3) := by decide +kernel
theorem dX5_readSheet_29 : decode cX5_readSheet 29 = .ok (.aload_n 0, 1) := by decide +kernel
theorem dX5_readSheet_30 : decode cX5_readSheet 30 = .ok (.aload_n 1, 1) := by decide +kernel
theorem dX5_readSheet_31 : decode cX5_readSheet 31 = .ok (.invokevirtual 96, 3) := by decide +kernel
theorem dX5_readSheet_34 : decode cX5_readSheet 34 = .ok (.ifCond .ne 5, 3) := by decide +kernel
theorem dX5_readSheet_37 : decode cX5_readSheet 37 = .ok (.iconst 0, 1) := by decide +kernel
theorem dX5_readSheet_38 : decode cX5_readSheet 38 = .ok (.ireturn, 1) := by decide +kernel
theorem dX5_readSheet_39 : decode cX5_readSheet 39 = .ok (.iconst 1, 1) := by decide +kernel
theorem dX5_readSheet_40 : decode cX5_readSheet 40 = .ok (.istore_n 2, 1) := by decide +kernel
theorem dX5_readSheet_41 : decode cX5_readSheet 41 = .ok (.iload_n 2, 1) := by decide +kernel
theorem dX5_readSheet_42 : decode cX5_readSheet 42 = .ok (.bipush 9, 2) := by decide +kernel
theorem dX5_readSheet_44 : decode cX5_readSheet 44 = .ok (.if_icmp .ge 32, 3) := by decide +kernel
theorem dX5_readSheet_47 : decode cX5_readSheet 47 = .ok (.aload_n 0, 1) := by decide +kernel
theorem dX5_readSheet_48 : decode cX5_readSheet 48 = .ok (.getfield 12, 3) := by decide +kernel
theorem dX5_readSheet_51 : decode cX5_readSheet 51 = .ok (.getfield 43, 3) := by decide +kernel
theorem dX5_readSheet_54 : decode cX5_readSheet 54 = .ok (.getstatic 47, 3) := by decide +kernel
theorem dX5_readSheet_57 : decode cX5_readSheet 57 = .ok (.if_acmp .eq 19, 3) := by decide +kernel
theorem dX5_readSheet_60 : decode cX5_readSheet 60 = .ok (.aload_n 0, 1) := by decide +kernel
theorem dX5_readSheet_61 : decode cX5_readSheet 61 = .ok (.aload_n 1, 1) := by decide +kernel
theorem dX5_readSheet_62 : decode cX5_readSheet 62 = .ok (.invokevirtual 96, 3) := by decide +kernel
theorem dX5_readSheet_65 : decode cX5_readSheet 65 = .ok (.ifCond .ne 5, 3) := by decide +kernel
theorem dX5_readSheet_68 : decode cX5_readSheet 68 = .ok (.iconst 0, 1) := by decide +kernel
theorem dX5_readSheet_69 : decode cX5_readSheet 69 = .ok (.ireturn, 1) := by decide +kernel
theorem dX5_readSheet_70 : decode cX5_readSheet 70 = .ok (.iinc 2 1, 3) := by decide +kernel
theorem dX5_readSheet_73 : decode cX5_readSheet 73 = .ok (.goto (-32), 3) := by decide +kernel
theorem dX5_readSheet_76 : decode cX5_readSheet 76 = .ok (.aload_n 0, 1) := by decide +kernel
theorem dX5_readSheet_77 : decode cX5_readSheet 77 = .ok (.invokevirtual 99, 3) := by decide +kernel
theorem dX5_readSheet_80 : decode cX5_readSheet 80 = .ok (.ifCond .eq 9, 3) := by decide +kernel
theorem dX5_readSheet_83 : decode cX5_readSheet 83 = .ok (.aload_n 0, 1) := by decide +kernel
theorem dX5_readSheet_84 : decode cX5_readSheet 84 = .ok (.iconst 3, 1) := by decide +kernel
theorem dX5_readSheet_85 : decode cX5_readSheet 85 = .ok (.invokevirtual 36, 3) := by decide +kernel
theorem dX5_readSheet_88 : decode cX5_readSheet 88 = .ok (.ireturn, 1) := by decide +kernel
theorem dX5_readSheet_89 : decode cX5_readSheet 89 = .ok (.aload_n 0, 1) := by decide +kernel
theorem dX5_readSheet_90 : decode cX5_readSheet 90 = .ok (.invokevirtual 88, 3) := by decide +kernel
theorem dX5_readSheet_93 : decode cX5_readSheet 93 = .ok (.ireturn, 1) := by decide +kernel
theorem dX5_readBench_0 : decode cX5_readBench 0 = .ok (.aload_n 0, 1) := by decide +kernel
theorem dX5_readBench_1 : decode cX5_readBench 1 = .ok (.aload_n 1, 1) := by decide +kernel
theorem dX5_readBench_2 : decode cX5_readBench 2 = .ok (.iload_n 2, 1) := by decide +kernel
theorem dX5_readBench_3 : decode cX5_readBench 3 = .ok (.invokevirtual 61, 3) := by decide +kernel
theorem dX5_readBench_6 : decode cX5_readBench 6 = .ok (.aload_n 0, 1) := by decide +kernel
theorem dX5_readBench_7 : decode cX5_readBench 7 = .ok (.aload_n 3, 1) := by decide +kernel
theorem dX5_readBench_8 : decode cX5_readBench 8 = .ok (.invokevirtual 62, 3) := by decide +kernel
theorem dX5_readBench_11 : decode cX5_readBench 11 = .ok (.ifCond .ne 5, 3) := by decide +kernel
theorem dX5_readBench_14 : decode cX5_readBench 14 = .ok (.iconst 0, 1) := by decide +kernel
theorem dX5_readBench_15 : decode cX5_readBench 15 = .ok (.ireturn, 1) := by decide +kernel
theorem dX5_readBench_16 : decode cX5_readBench 16 = .ok (.iconst 0, 1) := by decide +kernel
theorem dX5_readBench_17 : decode cX5_readBench 17 = .ok (.istore 4, 2) := by decide +kernel
theorem dX5_readBench_19 : decode cX5_readBench 19 = .ok (.iload 4, 2) := by decide +kernel
theorem dX5_readBench_21 : decode cX5_readBench 21 = .ok (.bipush 6, 2) := by decide +kernel
theorem dX5_readBench_23 : decode cX5_readBench 23 = .ok (.if_icmp .ge 32, 3) := by decide +kernel
theorem dX5_readBench_26 : decode cX5_readBench 26 = .ok (.aload_n 0, 1) := by decide +kernel
theorem dX5_readBench_27 : decode cX5_readBench 27 = .ok (.getfield 12, 3) := by decide +kernel
theorem dX5_readBench_30 : decode cX5_readBench 30 = .ok (.getfield 43, 3) := by decide +kernel
theorem dX5_readBench_33 : decode cX5_readBench 33 = .ok (.getstatic 66, 3) := by decide +kernel
theorem dX5_readBench_36 : decode cX5_readBench 36 = .ok (.if_acmp .eq 19, 3) := by decide +kernel
theorem dX5_readBench_39 : decode cX5_readBench 39 = .ok (.aload_n 0, 1) := by decide +kernel
theorem dX5_readBench_40 : decode cX5_readBench 40 = .ok (.aload_n 3, 1) := by decide +kernel
theorem dX5_readBench_41 : decode cX5_readBench 41 = .ok (.invokevirtual 69, 3) := by decide +kernel
theorem dX5_readBench_44 : decode cX5_readBench 44 = .ok (.ifCond .ne 5, 3) := by decide +kernel
theorem dX5_readBench_47 : decode cX5_readBench 47 = .ok (.iconst 0, 1) := by decide +kernel
theorem dX5_readBench_48 : decode cX5_readBench 48 = .ok (.ireturn, 1) := by decide +kernel
theorem dX5_readBench_49 : decode cX5_readBench 49 = .ok (.iinc 4 1, 3) := by decide +kernel
theorem dX5_readBench_52 : decode cX5_readBench 52 = .ok (.goto (-33), 3) := by decide +kernel
theorem dX5_readBench_55 : decode cX5_readBench 55 = .ok (.aload_n 0, 1) := by decide +kernel
theorem dX5_readBench_56 : decode cX5_readBench 56 = .ok (.getfield 12, 3) := by decide +kernel
theorem dX5_readBench_59 : decode cX5_readBench 59 = .ok (.getfield 43, 3) := by decide +kernel
theorem dX5_readBench_62 : decode cX5_readBench 62 = .ok (.getstatic 66, 3) := by decide +kernel
theorem dX5_readBench_65 : decode cX5_readBench 65 = .ok (.if_acmp .ne 5, 3) := by decide +kernel
theorem dX5_readBench_68 : decode cX5_readBench 68 = .ok (.iconst 1, 1) := by decide +kernel
theorem dX5_readBench_69 : decode cX5_readBench 69 = .ok (.ireturn, 1) := by decide +kernel
theorem dX5_readBench_70 : decode cX5_readBench 70 = .ok (.aload_n 0, 1) := by decide +kernel
theorem dX5_readBench_71 : decode cX5_readBench 71 = .ok (.aload_n 0, 1) := by decide +kernel
theorem dX5_readBench_72 : decode cX5_readBench 72 = .ok (.getfield 12, 3) := by decide +kernel
theorem dX5_readBench_75 : decode cX5_readBench 75 = .ok (.ldc 72, 2) := by decide +kernel
theorem dX5_readBench_77 : decode cX5_readBench 77 = .ok (.invokevirtual 32, 3) := by decide +kernel
theorem dX5_readBench_80 : decode cX5_readBench 80 = .ok (.ifCond .eq 7, 3) := by decide +kernel
theorem dX5_readBench_83 : decode cX5_readBench 83 = .ok (.iconst 3, 1) := by decide +kernel
theorem dX5_readBench_84 : decode cX5_readBench 84 = .ok (.goto 4, 3) := by decide +kernel
theorem dX5_readBench_87 : decode cX5_readBench 87 = .ok (.iconst 1, 1) := by decide +kernel
theorem dX5_readBench_88 : decode cX5_readBench 88 = .ok (.invokevirtual 36, 3) := by decide +kernel
theorem dX5_readBench_91 : decode cX5_readBench 91 = .ok (.ireturn, 1) := by decide +kernel
