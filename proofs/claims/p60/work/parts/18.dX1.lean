theorem dX1_init_0 : decode cX1_init 0 = .ok (.aload_n 0, 1) := by decide +kernel
theorem dX1_init_1 : decode cX1_init 1 = .ok (.invokespecial 3, 3) := by decide +kernel
theorem dX1_init_4 : decode cX1_init 4 = .ok (.aload_n 0, 1) := by decide +kernel
theorem dX1_init_5 : decode cX1_init 5 = .ok (.bipush 6, 2) := by decide +kernel
theorem dX1_init_7 : decode cX1_init 7 = .ok (.anewarray 9, 3) := by decide +kernel
theorem dX1_init_10 : decode cX1_init 10 = .ok (.putfield 11, 3) := by decide +kernel
theorem dX1_init_13 : decode cX1_init 13 = .ok (.iconst 0, 1) := by decide +kernel
theorem dX1_init_14 : decode cX1_init 14 = .ok (.istore_n 1, 1) := by decide +kernel
theorem dX1_init_15 : decode cX1_init 15 = .ok (.iload_n 1, 1) := by decide +kernel
theorem dX1_init_16 : decode cX1_init 16 = .ok (.bipush 6, 2) := by decide +kernel
theorem dX1_init_18 : decode cX1_init 18 = .ok (.if_icmp .ge 22, 3) := by decide +kernel
theorem dX1_init_21 : decode cX1_init 21 = .ok (.aload_n 0, 1) := by decide +kernel
theorem dX1_init_22 : decode cX1_init 22 = .ok (.getfield 11, 3) := by decide +kernel
theorem dX1_init_25 : decode cX1_init 25 = .ok (.iload_n 1, 1) := by decide +kernel
theorem dX1_init_26 : decode cX1_init 26 = .ok (.new 9, 3) := by decide +kernel
theorem dX1_init_29 : decode cX1_init 29 = .ok (.dup, 1) := by decide +kernel
theorem dX1_init_30 : decode cX1_init 30 = .ok (.invokespecial 17, 3) := by decide +kernel
theorem dX1_init_33 : decode cX1_init 33 = .ok (.aastore, 1) := by decide +kernel
theorem dX1_init_34 : decode cX1_init 34 = .ok (.iinc 1 1, 3) := by decide +kernel
theorem dX1_init_37 : decode cX1_init 37 = .ok (.goto (-22), 3) := by decide +kernel
theorem dX1_init_40 : decode cX1_init 40 = .ok (.return_, 1) := by decide +kernel
theorem dX1_begin_0 : decode cX1_begin 0 = .ok (.aload_n 0, 1) := by decide +kernel
theorem dX1_begin_1 : decode cX1_begin 1 = .ok (.iconst 0, 1) := by decide +kernel
theorem dX1_begin_2 : decode cX1_begin 2 = .ok (.putfield 31, 3) := by decide +kernel
theorem dX1_begin_5 : decode cX1_begin 5 = .ok (.aload_n 0, 1) := by decide +kernel
theorem dX1_begin_6 : decode cX1_begin 6 = .ok (.iload_n 1, 1) := by decide +kernel
theorem dX1_begin_7 : decode cX1_begin 7 = .ok (.putfield 35, 3) := by decide +kernel
theorem dX1_begin_10 : decode cX1_begin 10 = .ok (.aload_n 0, 1) := by decide +kernel
theorem dX1_begin_11 : decode cX1_begin 11 = .ok (.iload_n 2, 1) := by decide +kernel
theorem dX1_begin_12 : decode cX1_begin 12 = .ok (.putfield 38, 3) := by decide +kernel
theorem dX1_begin_15 : decode cX1_begin 15 = .ok (.aload_n 0, 1) := by decide +kernel
theorem dX1_begin_16 : decode cX1_begin 16 = .ok (.iload_n 3, 1) := by decide +kernel
theorem dX1_begin_17 : decode cX1_begin 17 = .ok (.putfield 41, 3) := by decide +kernel
theorem dX1_begin_20 : decode cX1_begin 20 = .ok (.aload_n 0, 1) := by decide +kernel
theorem dX1_begin_21 : decode cX1_begin 21 = .ok (.iconst 0, 1) := by decide +kernel
theorem dX1_begin_22 : decode cX1_begin 22 = .ok (.putfield 44, 3) := by decide +kernel
theorem dX1_begin_25 : decode cX1_begin 25 = .ok (.aload_n 0, 1) := by decide +kernel
theorem dX1_begin_26 : decode cX1_begin 26 = .ok (.iconst 0, 1) := by decide +kernel
theorem dX1_begin_27 : decode cX1_begin 27 = .ok (.putfield 47, 3) := by decide +kernel
theorem dX1_begin_30 : decode cX1_begin 30 = .ok (.aload_n 0, 1) := by decide +kernel
theorem dX1_begin_31 : decode cX1_begin 31 = .ok (.iconst 0, 1) := by decide +kernel
theorem dX1_begin_32 : decode cX1_begin 32 = .ok (.putfield 50, 3) := by decide +kernel
theorem dX1_begin_35 : decode cX1_begin 35 = .ok (.return_, 1) := by decide +kernel
theorem dX1_addSheet_0 : decode cX1_addSheet 0 = .ok (.aload_n 0, 1) := by decide +kernel
theorem dX1_addSheet_1 : decode cX1_addSheet 1 = .ok (.getfield 31, 3) := by decide +kernel
theorem dX1_addSheet_4 : decode cX1_addSheet 4 = .ok (.bipush 6, 2) := by decide +kernel
theorem dX1_addSheet_6 : decode cX1_addSheet 6 = .ok (.if_icmp .ge 26, 3) := by decide +kernel
theorem dX1_addSheet_9 : decode cX1_addSheet 9 = .ok (.aload_n 0, 1) := by decide +kernel
theorem dX1_addSheet_10 : decode cX1_addSheet 10 = .ok (.getfield 11, 3) := by decide +kernel
theorem dX1_addSheet_13 : decode cX1_addSheet 13 = .ok (.aload_n 0, 1) := by decide +kernel
theorem dX1_addSheet_14 : decode cX1_addSheet 14 = .ok (.getfield 31, 3) := by decide +kernel
theorem dX1_addSheet_17 : decode cX1_addSheet 17 = .ok (.aaload, 1) := by decide +kernel
theorem dX1_addSheet_18 : decode cX1_addSheet 18 = .ok (.iload_n 1, 1) := by decide +kernel
theorem dX1_addSheet_19 : decode cX1_addSheet 19 = .ok (.invokevirtual 53, 3) := by decide +kernel
theorem dX1_addSheet_22 : decode cX1_addSheet 22 = .ok (.aload_n 0, 1) := by decide +kernel
theorem dX1_addSheet_23 : decode cX1_addSheet 23 = .ok (.dup, 1) := by decide +kernel
theorem dX1_addSheet_24 : decode cX1_addSheet 24 = .ok (.getfield 31, 3) := by decide +kernel
theorem dX1_addSheet_27 : decode cX1_addSheet 27 = .ok (.iconst 1, 1) := by decide +kernel
theorem dX1_addSheet_28 : decode cX1_addSheet 28 = .ok (.iadd, 1) := by decide +kernel
theorem dX1_addSheet_29 : decode cX1_addSheet 29 = .ok (.putfield 31, 3) := by decide +kernel
theorem dX1_addSheet_32 : decode cX1_addSheet 32 = .ok (.return_, 1) := by decide +kernel
theorem dX1_addLayer_0 : decode cX1_addLayer 0 = .ok (.aload_n 0, 1) := by decide +kernel
theorem dX1_addLayer_1 : decode cX1_addLayer 1 = .ok (.getfield 31, 3) := by decide +kernel
theorem dX1_addLayer_4 : decode cX1_addLayer 4 = .ok (.ifCond .le 19, 3) := by decide +kernel
theorem dX1_addLayer_7 : decode cX1_addLayer 7 = .ok (.aload_n 0, 1) := by decide +kernel
theorem dX1_addLayer_8 : decode cX1_addLayer 8 = .ok (.getfield 11, 3) := by decide +kernel
theorem dX1_addLayer_11 : decode cX1_addLayer 11 = .ok (.aload_n 0, 1) := by decide +kernel
theorem dX1_addLayer_12 : decode cX1_addLayer 12 = .ok (.getfield 31, 3) := by decide +kernel
theorem dX1_addLayer_15 : decode cX1_addLayer 15 = .ok (.iconst 1, 1) := by decide +kernel
theorem dX1_addLayer_16 : decode cX1_addLayer 16 = .ok (.isub, 1) := by decide +kernel
theorem dX1_addLayer_17 : decode cX1_addLayer 17 = .ok (.aaload, 1) := by decide +kernel
theorem dX1_addLayer_18 : decode cX1_addLayer 18 = .ok (.iload_n 1, 1) := by decide +kernel
theorem dX1_addLayer_19 : decode cX1_addLayer 19 = .ok (.iload_n 2, 1) := by decide +kernel
theorem dX1_addLayer_20 : decode cX1_addLayer 20 = .ok (.invokevirtual 55, 3) := by decide +kernel
theorem dX1_addLayer_23 : decode cX1_addLayer 23 = .ok (.return_, 1) := by decide +kernel
theorem dX1_first_0 : decode cX1_first 0 = .ok (.new 12, 3) := by decide +kernel
theorem dX1_first_3 : decode cX1_first 3 = .ok (.dup, 1) := by decide +kernel
theorem dX1_first_4 : decode cX1_first 4 = .ok (.invokespecial 18, 3) := by decide +kernel
theorem dX1_first_7 : decode cX1_first 7 = .ok (.astore_n 0, 1) := by decide +kernel
theorem dX1_first_8 : decode cX1_first 8 = .ok (.aload_n 0, 1) := by decide +kernel
theorem dX1_first_9 : decode cX1_first 9 = .ok (.bipush 22, 2) := by decide +kernel
theorem dX1_first_11 : decode cX1_first 11 = .ok (.bipush 18, 2) := by decide +kernel
theorem dX1_first_13 : decode cX1_first 13 = .ok (.iconst 5, 1) := by decide +kernel
theorem dX1_first_14 : decode cX1_first 14 = .ok (.invokevirtual 19, 3) := by decide +kernel
theorem dX1_first_17 : decode cX1_first 17 = .ok (.aload_n 0, 1) := by decide +kernel
theorem dX1_first_18 : decode cX1_first 18 = .ok (.bipush 10, 2) := by decide +kernel
theorem dX1_first_20 : decode cX1_first 20 = .ok (.invokevirtual 23, 3) := by decide +kernel
theorem dX1_first_23 : decode cX1_first 23 = .ok (.aload_n 0, 1) := by decide +kernel
theorem dX1_first_24 : decode cX1_first 24 = .ok (.iconst 0, 1) := by decide +kernel
theorem dX1_first_25 : decode cX1_first 25 = .ok (.bipush 60, 2) := by decide +kernel
theorem dX1_first_27 : decode cX1_first 27 = .ok (.invokevirtual 27, 3) := by decide +kernel
theorem dX1_first_30 : decode cX1_first 30 = .ok (.aload_n 0, 1) := by decide +kernel
theorem dX1_first_31 : decode cX1_first 31 = .ok (.iconst 1, 1) := by decide +kernel
theorem dX1_first_32 : decode cX1_first 32 = .ok (.bipush 40, 2) := by decide +kernel
theorem dX1_first_34 : decode cX1_first 34 = .ok (.invokevirtual 27, 3) := by decide +kernel
theorem dX1_first_37 : decode cX1_first 37 = .ok (.aload_n 0, 1) := by decide +kernel
theorem dX1_first_38 : decode cX1_first 38 = .ok (.iconst 0, 1) := by decide +kernel
theorem dX1_first_39 : decode cX1_first 39 = .ok (.bipush 60, 2) := by decide +kernel
theorem dX1_first_41 : decode cX1_first 41 = .ok (.invokevirtual 27, 3) := by decide +kernel
theorem dX1_first_44 : decode cX1_first 44 = .ok (.aload_n 0, 1) := by decide +kernel
theorem dX1_first_45 : decode cX1_first 45 = .ok (.bipush 20, 2) := by decide +kernel
theorem dX1_first_47 : decode cX1_first 47 = .ok (.invokevirtual 23, 3) := by decide +kernel
theorem dX1_first_50 : decode cX1_first 50 = .ok (.aload_n 0, 1) := by decide +kernel
theorem dX1_first_51 : decode cX1_first 51 = .ok (.iconst 0, 1) := by decide +kernel
theorem dX1_first_52 : decode cX1_first 52 = .ok (.bipush 30, 2) := by decide +kernel
theorem dX1_first_54 : decode cX1_first 54 = .ok (.invokevirtual 27, 3) := by decide +kernel
theorem dX1_first_57 : decode cX1_first 57 = .ok (.aload_n 0, 1) := by decide +kernel
theorem dX1_first_58 : decode cX1_first 58 = .ok (.iconst 1, 1) := by decide +kernel
theorem dX1_first_59 : decode cX1_first 59 = .ok (.bipush 9, 2) := by decide +kernel
theorem dX1_first_61 : decode cX1_first 61 = .ok (.invokevirtual 27, 3) := by decide +kernel
theorem dX1_first_64 : decode cX1_first 64 = .ok (.aload_n 0, 1) := by decide +kernel
theorem dX1_first_65 : decode cX1_first 65 = .ok (.iconst 0, 1) := by decide +kernel
theorem dX1_first_66 : decode cX1_first 66 = .ok (.bipush 25, 2) := by decide +kernel
theorem dX1_first_68 : decode cX1_first 68 = .ok (.invokevirtual 27, 3) := by decide +kernel
theorem dX1_first_71 : decode cX1_first 71 = .ok (.aload_n 0, 1) := by decide +kernel
theorem dX1_first_72 : decode cX1_first 72 = .ok (.iconst 1, 1) := by decide +kernel
theorem dX1_first_73 : decode cX1_first 73 = .ok (.iconst 3, 1) := by decide +kernel
theorem dX1_first_74 : decode cX1_first 74 = .ok (.invokevirtual 27, 3) := by decide +kernel
theorem dX1_first_77 : decode cX1_first 77 = .ok (.aload_n 0, 1) := by decide +kernel
theorem dX1_first_78 : decode cX1_first 78 = .ok (.iconst 0, 1) := by decide +kernel
theorem dX1_first_79 : decode cX1_first 79 = .ok (.bipush 30, 2) := by decide +kernel
theorem dX1_first_81 : decode cX1_first 81 = .ok (.invokevirtual 27, 3) := by decide +kernel
theorem dX1_first_84 : decode cX1_first 84 = .ok (.aload_n 0, 1) := by decide +kernel
theorem dX1_first_85 : decode cX1_first 85 = .ok (.areturn, 1) := by decide +kernel
theorem dX1_copyFrom_0 : decode cX1_copyFrom 0 = .ok (.aload_n 0, 1) := by decide +kernel
theorem dX1_copyFrom_1 : decode cX1_copyFrom 1 = .ok (.aload_n 1, 1) := by decide +kernel
theorem dX1_copyFrom_2 : decode cX1_copyFrom 2 = .ok (.getfield 31, 3) := by decide +kernel
theorem dX1_copyFrom_5 : decode cX1_copyFrom 5 = .ok (.putfield 31, 3) := by decide +kernel
theorem dX1_copyFrom_8 : decode cX1_copyFrom 8 = .ok (.iconst 0, 1) := by decide +kernel
theorem dX1_copyFrom_9 : decode cX1_copyFrom 9 = .ok (.istore_n 2, 1) := by decide +kernel
theorem dX1_copyFrom_10 : decode cX1_copyFrom 10 = .ok (.iload_n 2, 1) := by decide +kernel
theorem dX1_copyFrom_11 : decode cX1_copyFrom 11 = .ok (.aload_n 0, 1) := by decide +kernel
theorem dX1_copyFrom_12 : decode cX1_copyFrom 12 = .ok (.getfield 31, 3) := by decide +kernel
theorem dX1_copyFrom_15 : decode cX1_copyFrom 15 = .ok (.if_icmp .ge 24, 3) := by decide +kernel
theorem dX1_copyFrom_18 : decode cX1_copyFrom 18 = .ok (.aload_n 0, 1) := by decide +kernel
theorem dX1_copyFrom_19 : decode cX1_copyFrom 19 = .ok (.getfield 11, 3) := by decide +kernel
theorem dX1_copyFrom_22 : decode cX1_copyFrom 22 = .ok (.iload_n 2, 1) := by decide +kernel
theorem dX1_copyFrom_23 : decode cX1_copyFrom 23 = .ok (.aaload, 1) := by decide +kernel
theorem dX1_copyFrom_24 : decode cX1_copyFrom 24 = .ok (.aload_n 1, 1) := by decide +kernel
theorem dX1_copyFrom_25 : decode cX1_copyFrom 25 = .ok (.getfield 11, 3) := by decide +kernel
theorem dX1_copyFrom_28 : decode cX1_copyFrom 28 = .ok (.iload_n 2, 1) := by decide +kernel
theorem dX1_copyFrom_29 : decode cX1_copyFrom 29 = .ok (.aaload, 1) := by decide +kernel
theorem dX1_copyFrom_30 : decode cX1_copyFrom 30 = .ok (.invokevirtual 58, 3) := by decide +kernel
theorem dX1_copyFrom_33 : decode cX1_copyFrom 33 = .ok (.iinc 2 1, 3) := by decide +kernel
theorem dX1_copyFrom_36 : decode cX1_copyFrom 36 = .ok (.goto (-26), 3) := by decide +kernel
theorem dX1_copyFrom_39 : decode cX1_copyFrom 39 = .ok (.aload_n 0, 1) := by decide +kernel
theorem dX1_copyFrom_40 : decode cX1_copyFrom 40 = .ok (.aload_n 1, 1) := by decide +kernel
theorem dX1_copyFrom_41 : decode cX1_copyFrom 41 = .ok (.getfield 35, 3) := by decide +kernel
theorem dX1_copyFrom_44 : decode cX1_copyFrom 44 = .ok (.putfield 35, 3) := by decide +kernel
theorem dX1_copyFrom_47 : decode cX1_copyFrom 47 = .ok (.aload_n 0, 1) := by decide +kernel
theorem dX1_copyFrom_48 : decode cX1_copyFrom 48 = .ok (.aload_n 1, 1) := by decide +kernel
theorem dX1_copyFrom_49 : decode cX1_copyFrom 49 = .ok (.getfield 38, 3) := by decide +kernel
theorem dX1_copyFrom_52 : decode cX1_copyFrom 52 = .ok (.putfield 38, 3) := by decide +kernel
theorem dX1_copyFrom_55 : decode cX1_copyFrom 55 = .ok (.aload_n 0, 1) := by decide +kernel
theorem dX1_copyFrom_56 : decode cX1_copyFrom 56 = .ok (.aload_n 1, 1) := by decide +kernel
theorem dX1_copyFrom_57 : decode cX1_copyFrom 57 = .ok (.getfield 41, 3) := by decide +kernel
theorem dX1_copyFrom_60 : decode cX1_copyFrom 60 = .ok (.putfield 41, 3) := by decide +kernel
theorem dX1_copyFrom_63 : decode cX1_copyFrom 63 = .ok (.aload_n 0, 1) := by decide +kernel
theorem dX1_copyFrom_64 : decode cX1_copyFrom 64 = .ok (.aload_n 1, 1) := by decide +kernel
theorem dX1_copyFrom_65 : decode cX1_copyFrom 65 = .ok (.getfield 44, 3) := by decide +kernel
theorem dX1_copyFrom_68 : decode cX1_copyFrom 68 = .ok (.putfield 44, 3) := by decide +kernel
theorem dX1_copyFrom_71 : decode cX1_copyFrom 71 = .ok (.aload_n 0, 1) := by decide +kernel
theorem dX1_copyFrom_72 : decode cX1_copyFrom 72 = .ok (.aload_n 1, 1) := by decide +kernel
theorem dX1_copyFrom_73 : decode cX1_copyFrom 73 = .ok (.getfield 47, 3) := by decide +kernel
theorem dX1_copyFrom_76 : decode cX1_copyFrom 76 = .ok (.putfield 47, 3) := by decide +kernel
theorem dX1_copyFrom_79 : decode cX1_copyFrom 79 = .ok (.aload_n 0, 1) := by decide +kernel
theorem dX1_copyFrom_80 : decode cX1_copyFrom 80 = .ok (.aload_n 1, 1) := by decide +kernel
theorem dX1_copyFrom_81 : decode cX1_copyFrom 81 = .ok (.getfield 50, 3) := by decide +kernel
theorem dX1_copyFrom_84 : decode cX1_copyFrom 84 = .ok (.putfield 50, 3) := by decide +kernel
theorem dX1_copyFrom_87 : decode cX1_copyFrom 87 = .ok (.return_, 1) := by decide +kernel
theorem dX1_hasSheet_0 : decode cX1_hasSheet 0 = .ok (.iload_n 1, 1) := by decide +kernel
theorem dX1_hasSheet_1 : decode cX1_hasSheet 1 = .ok (.ifCond .lt 15, 3) := by decide +kernel
theorem dX1_hasSheet_4 : decode cX1_hasSheet 4 = .ok (.iload_n 1, 1) := by decide +kernel
theorem dX1_hasSheet_5 : decode cX1_hasSheet 5 = .ok (.aload_n 0, 1) := by decide +kernel
theorem dX1_hasSheet_6 : decode cX1_hasSheet 6 = .ok (.getfield 31, 3) := by decide +kernel
theorem dX1_hasSheet_9 : decode cX1_hasSheet 9 = .ok (.if_icmp .ge 7, 3) := by decide +kernel
theorem dX1_hasSheet_12 : decode cX1_hasSheet 12 = .ok (.iconst 1, 1) := by decide +kernel
theorem dX1_hasSheet_13 : decode cX1_hasSheet 13 = .ok (.goto 4, 3) := by decide +kernel
theorem dX1_hasSheet_16 : decode cX1_hasSheet 16 = .ok (.iconst 0, 1) := by decide +kernel
theorem dX1_hasSheet_17 : decode cX1_hasSheet 17 = .ok (.ireturn, 1) := by decide +kernel
theorem dX1_findWarmest_0 : decode cX1_findWarmest 0 = .ok (.iconst (-1), 1) := by decide +kernel
theorem dX1_findWarmest_1 : decode cX1_findWarmest 1 = .ok (.istore_n 1, 1) := by decide +kernel
theorem dX1_findWarmest_2 : decode cX1_findWarmest 2 = .ok (.iconst 0, 1) := by decide +kernel
theorem dX1_findWarmest_3 : decode cX1_findWarmest 3 = .ok (.istore_n 2, 1) := by decide +kernel
theorem dX1_findWarmest_4 : decode cX1_findWarmest 4 = .ok (.iload_n 2, 1) := by decide +kernel
theorem dX1_findWarmest_5 : decode cX1_findWarmest 5 = .ok (.aload_n 0, 1) := by decide +kernel
theorem dX1_findWarmest_6 : decode cX1_findWarmest 6 = .ok (.getfield 31, 3) := by decide +kernel
theorem dX1_findWarmest_9 : decode cX1_findWarmest 9 = .ok (.if_icmp .ge 36, 3) := by decide +kernel
theorem dX1_findWarmest_12 : decode cX1_findWarmest 12 = .ok (.iload_n 1, 1) := by decide +kernel
theorem dX1_findWarmest_13 : decode cX1_findWarmest 13 = .ok (.ifCond .lt 24, 3) := by decide +kernel
theorem dX1_findWarmest_16 : decode cX1_findWarmest 16 = .ok (.aload_n 0, 1) := by decide +kernel
theorem dX1_findWarmest_17 : decode cX1_findWarmest 17 = .ok (.getfield 11, 3) := by decide +kernel
theorem dX1_findWarmest_20 : decode cX1_findWarmest 20 = .ok (.iload_n 2, 1) := by decide +kernel
theorem dX1_findWarmest_21 : decode cX1_findWarmest 21 = .ok (.aaload, 1) := by decide +kernel
theorem dX1_findWarmest_22 : decode cX1_findWarmest 22 = .ok (.getfield 62, 3) := by decide +kernel
theorem dX1_findWarmest_25 : decode cX1_findWarmest 25 = .ok (.aload_n 0, 1) := by decide +kernel
theorem dX1_findWarmest_26 : decode cX1_findWarmest 26 = .ok (.getfield 11, 3) := by decide +kernel
theorem dX1_findWarmest_29 : decode cX1_findWarmest 29 = .ok (.iload_n 1, 1) := by decide +kernel
theorem dX1_findWarmest_30 : decode cX1_findWarmest 30 = .ok (.aaload, 1) := by decide +kernel
theorem dX1_findWarmest_31 : decode cX1_findWarmest 31 = .ok (.getfield 62, 3) := by decide +kernel
theorem dX1_findWarmest_34 : decode cX1_findWarmest 34 = .ok (.if_icmp .le 5, 3) := by decide +kernel
theorem dX1_findWarmest_37 : decode cX1_findWarmest 37 = .ok (.iload_n 2, 1) := by decide +kernel
theorem dX1_findWarmest_38 : decode cX1_findWarmest 38 = .ok (.istore_n 1, 1) := by decide +kernel
theorem dX1_findWarmest_39 : decode cX1_findWarmest 39 = .ok (.iinc 2 1, 3) := by decide +kernel
theorem dX1_findWarmest_42 : decode cX1_findWarmest 42 = .ok (.goto (-38), 3) := by decide +kernel
theorem dX1_findWarmest_45 : decode cX1_findWarmest 45 = .ok (.iload_n 1, 1) := by decide +kernel
theorem dX1_findWarmest_46 : decode cX1_findWarmest 46 = .ok (.ireturn, 1) := by decide +kernel
theorem dX1_findFinest_0 : decode cX1_findFinest 0 = .ok (.iconst (-1), 1) := by decide +kernel
theorem dX1_findFinest_1 : decode cX1_findFinest 1 = .ok (.istore_n 1, 1) := by decide +kernel
theorem dX1_findFinest_2 : decode cX1_findFinest 2 = .ok (.iconst 0, 1) := by decide +kernel
theorem dX1_findFinest_3 : decode cX1_findFinest 3 = .ok (.istore_n 2, 1) := by decide +kernel
theorem dX1_findFinest_4 : decode cX1_findFinest 4 = .ok (.iload_n 2, 1) := by decide +kernel
theorem dX1_findFinest_5 : decode cX1_findFinest 5 = .ok (.aload_n 0, 1) := by decide +kernel
theorem dX1_findFinest_6 : decode cX1_findFinest 6 = .ok (.getfield 31, 3) := by decide +kernel
theorem dX1_findFinest_9 : decode cX1_findFinest 9 = .ok (.if_icmp .ge 36, 3) := by decide +kernel
theorem dX1_findFinest_12 : decode cX1_findFinest 12 = .ok (.iload_n 1, 1) := by decide +kernel
theorem dX1_findFinest_13 : decode cX1_findFinest 13 = .ok (.ifCond .lt 24, 3) := by decide +kernel
theorem dX1_findFinest_16 : decode cX1_findFinest 16 = .ok (.aload_n 0, 1) := by decide +kernel
theorem dX1_findFinest_17 : decode cX1_findFinest 17 = .ok (.getfield 11, 3) := by decide +kernel
theorem dX1_findFinest_20 : decode cX1_findFinest 20 = .ok (.iload_n 2, 1) := by decide +kernel
theorem dX1_findFinest_21 : decode cX1_findFinest 21 = .ok (.aaload, 1) := by decide +kernel
theorem dX1_findFinest_22 : decode cX1_findFinest 22 = .ok (.getfield 65, 3) := by decide +kernel
theorem dX1_findFinest_25 : decode cX1_findFinest 25 = .ok (.aload_n 0, 1) := by decide +kernel
theorem dX1_findFinest_26 : decode cX1_findFinest 26 = .ok (.getfield 11, 3) := by decide +kernel
theorem dX1_findFinest_29 : decode cX1_findFinest 29 = .ok (.iload_n 1, 1) := by decide +kernel
theorem dX1_findFinest_30 : decode cX1_findFinest 30 = .ok (.aaload, 1) := by decide +kernel
theorem dX1_findFinest_31 : decode cX1_findFinest 31 = .ok (.getfield 65, 3) := by decide +kernel
theorem dX1_findFinest_34 : decode cX1_findFinest 34 = .ok (.if_icmp .le 5, 3) := by decide +kernel
theorem dX1_findFinest_37 : decode cX1_findFinest 37 = .ok (.iload_n 2, 1) := by decide +kernel
theorem dX1_findFinest_38 : decode cX1_findFinest 38 = .ok (.istore_n 1, 1) := by decide +kernel
theorem dX1_findFinest_39 : decode cX1_findFinest 39 = .ok (.iinc 2 1, 3) := by decide +kernel
theorem dX1_findFinest_42 : decode cX1_findFinest 42 = .ok (.goto (-38), 3) := by decide +kernel
theorem dX1_findFinest_45 : decode cX1_findFinest 45 = .ok (.iload_n 1, 1) := by decide +kernel
theorem dX1_findFinest_46 : decode cX1_findFinest 46 = .ok (.ireturn, 1) := by decide +kernel
theorem dX1_countSealed_0 : decode cX1_countSealed 0 = .ok (.iconst 0, 1) := by decide +kernel
theorem dX1_countSealed_1 : decode cX1_countSealed 1 = .ok (.istore_n 1, 1) := by decide +kernel
theorem dX1_countSealed_2 : decode cX1_countSealed 2 = .ok (.iconst 0, 1) := by decide +kernel
theorem dX1_countSealed_3 : decode cX1_countSealed 3 = .ok (.istore_n 2, 1) := by decide +kernel
theorem dX1_countSealed_4 : decode cX1_countSealed 4 = .ok (.iload_n 2, 1) := by decide +kernel
theorem dX1_countSealed_5 : decode cX1_countSealed 5 = .ok (.aload_n 0, 1) := by decide +kernel
theorem dX1_countSealed_6 : decode cX1_countSealed 6 = .ok (.getfield 31, 3) := by decide +kernel
theorem dX1_countSealed_9 : decode cX1_countSealed 9 = .ok (.if_icmp .ge 24, 3) := by decide +kernel
theorem dX1_countSealed_12 : decode cX1_countSealed 12 = .ok (.aload_n 0, 1) := by decide +kernel
theorem dX1_countSealed_13 : decode cX1_countSealed 13 = .ok (.getfield 11, 3) := by decide +kernel
theorem dX1_countSealed_16 : decode cX1_countSealed 16 = .ok (.iload_n 2, 1) := by decide +kernel
theorem dX1_countSealed_17 : decode cX1_countSealed 17 = .ok (.aaload, 1) := by decide +kernel
theorem dX1_countSealed_18 : decode cX1_countSealed 18 = .ok (.getfield 68, 3) := by decide +kernel
theorem dX1_countSealed_21 : decode cX1_countSealed 21 = .ok (.ifCond .eq 6, 3) := by decide +kernel
theorem dX1_countSealed_24 : decode cX1_countSealed 24 = .ok (.iinc 1 1, 3) := by decide +kernel
theorem dX1_countSealed_27 : decode cX1_countSealed 27 = .ok (.iinc 2 1, 3) := by decide +kernel
theorem dX1_countSealed_30 : decode cX1_countSealed 30 = .ok (.goto (-26), 3) := by decide +kernel
theorem dX1_countSealed_33 : decode cX1_countSealed 33 = .ok (.iload_n 1, 1) := by decide +kernel
theorem dX1_countSealed_34 : decode cX1_countSealed 34 = .ok (.ireturn, 1) := by decide +kernel
theorem dX1_countCooling_0 : decode cX1_countCooling 0 = .ok (.iconst 0, 1) := by decide +kernel
theorem dX1_countCooling_1 : decode cX1_countCooling 1 = .ok (.istore_n 1, 1) := by decide +kernel
theorem dX1_countCooling_2 : decode cX1_countCooling 2 = .ok (.iconst 0, 1) := by decide +kernel
theorem dX1_countCooling_3 : decode cX1_countCooling 3 = .ok (.istore_n 2, 1) := by decide +kernel
theorem dX1_countCooling_4 : decode cX1_countCooling 4 = .ok (.iload_n 2, 1) := by decide +kernel
theorem dX1_countCooling_5 : decode cX1_countCooling 5 = .ok (.aload_n 0, 1) := by decide +kernel
theorem dX1_countCooling_6 : decode cX1_countCooling 6 = .ok (.getfield 31, 3) := by decide +kernel
theorem dX1_countCooling_9 : decode cX1_countCooling 9 = .ok (.if_icmp .ge 24, 3) := by decide +kernel
theorem dX1_countCooling_12 : decode cX1_countCooling 12 = .ok (.aload_n 0, 1) := by decide +kernel
theorem dX1_countCooling_13 : decode cX1_countCooling 13 = .ok (.getfield 11, 3) := by decide +kernel
theorem dX1_countCooling_16 : decode cX1_countCooling 16 = .ok (.iload_n 2, 1) := by decide +kernel
theorem dX1_countCooling_17 : decode cX1_countCooling 17 = .ok (.aaload, 1) := by decide +kernel
theorem dX1_countCooling_18 : decode cX1_countCooling 18 = .ok (.getfield 72, 3) := by decide +kernel
theorem dX1_countCooling_21 : decode cX1_countCooling 21 = .ok (.ifCond .eq 6, 3) := by decide +kernel
theorem dX1_countCooling_24 : decode cX1_countCooling 24 = .ok (.iinc 1 1, 3) := by decide +kernel
theorem dX1_countCooling_27 : decode cX1_countCooling 27 = .ok (.iinc 2 1, 3) := by decide +kernel
theorem dX1_countCooling_30 : decode cX1_countCooling 30 = .ok (.goto (-26), 3) := by decide +kernel
theorem dX1_countCooling_33 : decode cX1_countCooling 33 = .ok (.iload_n 1, 1) := by decide +kernel
theorem dX1_countCooling_34 : decode cX1_countCooling 34 = .ok (.ireturn, 1) := by decide +kernel
theorem dX1_countUnsafe_0 : decode cX1_countUnsafe 0 = .ok (.iconst 0, 1) := by decide +kernel
theorem dX1_countUnsafe_1 : decode cX1_countUnsafe 1 = .ok (.istore_n 1, 1) := by decide +kernel
theorem dX1_countUnsafe_2 : decode cX1_countUnsafe 2 = .ok (.iconst 0, 1) := by decide +kernel
theorem dX1_countUnsafe_3 : decode cX1_countUnsafe 3 = .ok (.istore_n 2, 1) := by decide +kernel
theorem dX1_countUnsafe_4 : decode cX1_countUnsafe 4 = .ok (.iload_n 2, 1) := by decide +kernel
theorem dX1_countUnsafe_5 : decode cX1_countUnsafe 5 = .ok (.aload_n 0, 1) := by decide +kernel
theorem dX1_countUnsafe_6 : decode cX1_countUnsafe 6 = .ok (.getfield 31, 3) := by decide +kernel
theorem dX1_countUnsafe_9 : decode cX1_countUnsafe 9 = .ok (.if_icmp .ge 28, 3) := by decide +kernel
theorem dX1_countUnsafe_12 : decode cX1_countUnsafe 12 = .ok (.aload_n 0, 1) := by decide +kernel
theorem dX1_countUnsafe_13 : decode cX1_countUnsafe 13 = .ok (.getfield 11, 3) := by decide +kernel
theorem dX1_countUnsafe_16 : decode cX1_countUnsafe 16 = .ok (.iload_n 2, 1) := by decide +kernel
theorem dX1_countUnsafe_17 : decode cX1_countUnsafe 17 = .ok (.aaload, 1) := by decide +kernel
theorem dX1_countUnsafe_18 : decode cX1_countUnsafe 18 = .ok (.getfield 62, 3) := by decide +kernel
theorem dX1_countUnsafe_21 : decode cX1_countUnsafe 21 = .ok (.aload_n 0, 1) := by decide +kernel
theorem dX1_countUnsafe_22 : decode cX1_countUnsafe 22 = .ok (.getfield 38, 3) := by decide +kernel
theorem dX1_countUnsafe_25 : decode cX1_countUnsafe 25 = .ok (.if_icmp .le 6, 3) := by decide +kernel
theorem dX1_countUnsafe_28 : decode cX1_countUnsafe 28 = .ok (.iinc 1 1, 3) := by decide +kernel
theorem dX1_countUnsafe_31 : decode cX1_countUnsafe 31 = .ok (.iinc 2 1, 3) := by decide +kernel
theorem dX1_countUnsafe_34 : decode cX1_countUnsafe 34 = .ok (.goto (-30), 3) := by decide +kernel
theorem dX1_countUnsafe_37 : decode cX1_countUnsafe 37 = .ok (.iload_n 1, 1) := by decide +kernel
theorem dX1_countUnsafe_38 : decode cX1_countUnsafe 38 = .ok (.ireturn, 1) := by decide +kernel
theorem dX1_stateRefusal_0 : decode cX1_stateRefusal 0 = .ok (.iload_n 0, 1) := by decide +kernel
theorem dX1_stateRefusal_1 : decode cX1_stateRefusal 1 = .ok (.ifCond .eq 9, 3) := by decide +kernel
theorem dX1_stateRefusal_4 : decode cX1_stateRefusal 4 = .ok (.getstatic 75, 3) := by decide +kernel
theorem dX1_stateRefusal_7 : decode cX1_stateRefusal 7 = .ok (.goto 6, 3) := by decide +kernel
theorem dX1_stateRefusal_10 : decode cX1_stateRefusal 10 = .ok (.getstatic 81, 3) := by decide +kernel
theorem dX1_stateRefusal_13 : decode cX1_stateRefusal 13 = .ok (.areturn, 1) := by decide +kernel
theorem dX1_refusalOfFold_0 : decode cX1_refusalOfFold 0 = .ok (.aload_n 0, 1) := by decide +kernel
theorem dX1_refusalOfFold_1 : decode cX1_refusalOfFold 1 = .ok (.iload_n 1, 1) := by decide +kernel
theorem dX1_refusalOfFold_2 : decode cX1_refusalOfFold 2 = .ok (.invokevirtual 84, 3) := by decide +kernel
theorem dX1_refusalOfFold_5 : decode cX1_refusalOfFold 5 = .ok (.ifCond .ne 7, 3) := by decide +kernel
theorem dX1_refusalOfFold_8 : decode cX1_refusalOfFold 8 = .ok (.getstatic 88, 3) := by decide +kernel
theorem dX1_refusalOfFold_11 : decode cX1_refusalOfFold 11 = .ok (.areturn, 1) := by decide +kernel
theorem dX1_refusalOfFold_12 : decode cX1_refusalOfFold 12 = .ok (.iload_n 2, 1) := by decide +kernel
theorem dX1_refusalOfFold_13 : decode cX1_refusalOfFold 13 = .ok (.invokestatic 91, 3) := by decide +kernel
theorem dX1_refusalOfFold_16 : decode cX1_refusalOfFold 16 = .ok (.ifCond .ne 7, 3) := by decide +kernel
theorem dX1_refusalOfFold_19 : decode cX1_refusalOfFold 19 = .ok (.getstatic 94, 3) := by decide +kernel
theorem dX1_refusalOfFold_22 : decode cX1_refusalOfFold 22 = .ok (.areturn, 1) := by decide +kernel
theorem dX1_refusalOfFold_23 : decode cX1_refusalOfFold 23 = .ok (.aload_n 0, 1) := by decide +kernel
theorem dX1_refusalOfFold_24 : decode cX1_refusalOfFold 24 = .ok (.getfield 11, 3) := by decide +kernel
theorem dX1_refusalOfFold_27 : decode cX1_refusalOfFold 27 = .ok (.iload_n 1, 1) := by decide +kernel
theorem dX1_refusalOfFold_28 : decode cX1_refusalOfFold 28 = .ok (.aaload, 1) := by decide +kernel
theorem dX1_refusalOfFold_29 : decode cX1_refusalOfFold 29 = .ok (.iload_n 2, 1) := by decide +kernel
theorem dX1_refusalOfFold_30 : decode cX1_refusalOfFold 30 = .ok (.invokevirtual 97, 3) := by decide +kernel
theorem dX1_refusalOfFold_33 : decode cX1_refusalOfFold 33 = .ok (.ifCond .eq 7, 3) := by decide +kernel
theorem dX1_refusalOfFold_36 : decode cX1_refusalOfFold 36 = .ok (.iconst 1, 1) := by decide +kernel
theorem dX1_refusalOfFold_37 : decode cX1_refusalOfFold 37 = .ok (.goto 4, 3) := by decide +kernel
theorem dX1_refusalOfFold_40 : decode cX1_refusalOfFold 40 = .ok (.iconst 0, 1) := by decide +kernel
theorem dX1_refusalOfFold_41 : decode cX1_refusalOfFold 41 = .ok (.invokestatic 101, 3) := by decide +kernel
theorem dX1_refusalOfFold_44 : decode cX1_refusalOfFold 44 = .ok (.areturn, 1) := by decide +kernel
theorem dX1_applyFold_0 : decode cX1_applyFold 0 = .ok (.aload_n 0, 1) := by decide +kernel
theorem dX1_applyFold_1 : decode cX1_applyFold 1 = .ok (.getfield 11, 3) := by decide +kernel
theorem dX1_applyFold_4 : decode cX1_applyFold 4 = .ok (.iload_n 1, 1) := by decide +kernel
theorem dX1_applyFold_5 : decode cX1_applyFold 5 = .ok (.aaload, 1) := by decide +kernel
theorem dX1_applyFold_6 : decode cX1_applyFold 6 = .ok (.iload_n 2, 1) := by decide +kernel
theorem dX1_applyFold_7 : decode cX1_applyFold 7 = .ok (.invokevirtual 105, 3) := by decide +kernel
theorem dX1_applyFold_10 : decode cX1_applyFold 10 = .ok (.aload_n 0, 1) := by decide +kernel
theorem dX1_applyFold_11 : decode cX1_applyFold 11 = .ok (.getfield 11, 3) := by decide +kernel
theorem dX1_applyFold_14 : decode cX1_applyFold 14 = .ok (.iload_n 1, 1) := by decide +kernel
theorem dX1_applyFold_15 : decode cX1_applyFold 15 = .ok (.aaload, 1) := by decide +kernel
theorem dX1_applyFold_16 : decode cX1_applyFold 16 = .ok (.getfield 65, 3) := by decide +kernel
theorem dX1_applyFold_19 : decode cX1_applyFold 19 = .ok (.ireturn, 1) := by decide +kernel
theorem dX1_refusalOfRoll_0 : decode cX1_refusalOfRoll 0 = .ok (.aload_n 0, 1) := by decide +kernel
theorem dX1_refusalOfRoll_1 : decode cX1_refusalOfRoll 1 = .ok (.iload_n 1, 1) := by decide +kernel
theorem dX1_refusalOfRoll_2 : decode cX1_refusalOfRoll 2 = .ok (.invokevirtual 84, 3) := by decide +kernel
theorem dX1_refusalOfRoll_5 : decode cX1_refusalOfRoll 5 = .ok (.ifCond .ne 7, 3) := by decide +kernel
theorem dX1_refusalOfRoll_8 : decode cX1_refusalOfRoll 8 = .ok (.getstatic 88, 3) := by decide +kernel
theorem dX1_refusalOfRoll_11 : decode cX1_refusalOfRoll 11 = .ok (.areturn, 1) := by decide +kernel
theorem dX1_refusalOfRoll_12 : decode cX1_refusalOfRoll 12 = .ok (.iload_n 2, 1) := by decide +kernel
theorem dX1_refusalOfRoll_13 : decode cX1_refusalOfRoll 13 = .ok (.invokestatic 91, 3) := by decide +kernel
theorem dX1_refusalOfRoll_16 : decode cX1_refusalOfRoll 16 = .ok (.ifCond .ne 7, 3) := by decide +kernel
theorem dX1_refusalOfRoll_19 : decode cX1_refusalOfRoll 19 = .ok (.getstatic 94, 3) := by decide +kernel
theorem dX1_refusalOfRoll_22 : decode cX1_refusalOfRoll 22 = .ok (.areturn, 1) := by decide +kernel
theorem dX1_refusalOfRoll_23 : decode cX1_refusalOfRoll 23 = .ok (.aload_n 0, 1) := by decide +kernel
theorem dX1_refusalOfRoll_24 : decode cX1_refusalOfRoll 24 = .ok (.getfield 11, 3) := by decide +kernel
theorem dX1_refusalOfRoll_27 : decode cX1_refusalOfRoll 27 = .ok (.iload_n 1, 1) := by decide +kernel
theorem dX1_refusalOfRoll_28 : decode cX1_refusalOfRoll 28 = .ok (.aaload, 1) := by decide +kernel
theorem dX1_refusalOfRoll_29 : decode cX1_refusalOfRoll 29 = .ok (.getfield 72, 3) := by decide +kernel
theorem dX1_refusalOfRoll_32 : decode cX1_refusalOfRoll 32 = .ok (.ifCond .ne 20, 3) := by decide +kernel
theorem dX1_refusalOfRoll_35 : decode cX1_refusalOfRoll 35 = .ok (.aload_n 0, 1) := by decide +kernel
theorem dX1_refusalOfRoll_36 : decode cX1_refusalOfRoll 36 = .ok (.getfield 11, 3) := by decide +kernel
theorem dX1_refusalOfRoll_39 : decode cX1_refusalOfRoll 39 = .ok (.iload_n 1, 1) := by decide +kernel
theorem dX1_refusalOfRoll_40 : decode cX1_refusalOfRoll 40 = .ok (.aaload, 1) := by decide +kernel
theorem dX1_refusalOfRoll_41 : decode cX1_refusalOfRoll 41 = .ok (.iload_n 2, 1) := by decide +kernel
theorem dX1_refusalOfRoll_42 : decode cX1_refusalOfRoll 42 = .ok (.aload_n 0, 1) := by decide +kernel
theorem dX1_refusalOfRoll_43 : decode cX1_refusalOfRoll 43 = .ok (.getfield 38, 3) := by decide +kernel
theorem dX1_refusalOfRoll_46 : decode cX1_refusalOfRoll 46 = .ok (.invokevirtual 108, 3) := by decide +kernel
theorem dX1_refusalOfRoll_49 : decode cX1_refusalOfRoll 49 = .ok (.ifCond .ne 7, 3) := by decide +kernel
theorem dX1_refusalOfRoll_52 : decode cX1_refusalOfRoll 52 = .ok (.iconst 1, 1) := by decide +kernel
theorem dX1_refusalOfRoll_53 : decode cX1_refusalOfRoll 53 = .ok (.goto 4, 3) := by decide +kernel
theorem dX1_refusalOfRoll_56 : decode cX1_refusalOfRoll 56 = .ok (.iconst 0, 1) := by decide +kernel
theorem dX1_refusalOfRoll_57 : decode cX1_refusalOfRoll 57 = .ok (.invokestatic 101, 3) := by decide +kernel
theorem dX1_refusalOfRoll_60 : decode cX1_refusalOfRoll 60 = .ok (.areturn, 1) := by decide +kernel
theorem dX1_applyRoll_0 : decode cX1_applyRoll 0 = .ok (.aload_n 0, 1) := by decide +kernel
theorem dX1_applyRoll_1 : decode cX1_applyRoll 1 = .ok (.dup, 1) := by decide +kernel
theorem dX1_applyRoll_2 : decode cX1_applyRoll 2 = .ok (.getfield 47, 3) := by decide +kernel
theorem dX1_applyRoll_5 : decode cX1_applyRoll 5 = .ok (.aload_n 0, 1) := by decide +kernel
theorem dX1_applyRoll_6 : decode cX1_applyRoll 6 = .ok (.getfield 11, 3) := by decide +kernel
theorem dX1_applyRoll_9 : decode cX1_applyRoll 9 = .ok (.iload_n 1, 1) := by decide +kernel
theorem dX1_applyRoll_10 : decode cX1_applyRoll 10 = .ok (.aaload, 1) := by decide +kernel
theorem dX1_applyRoll_11 : decode cX1_applyRoll 11 = .ok (.aload_n 0, 1) := by decide +kernel
theorem dX1_applyRoll_12 : decode cX1_applyRoll 12 = .ok (.getfield 38, 3) := by decide +kernel
theorem dX1_applyRoll_15 : decode cX1_applyRoll 15 = .ok (.invokevirtual 112, 3) := by decide +kernel
theorem dX1_applyRoll_18 : decode cX1_applyRoll 18 = .ok (.iadd, 1) := by decide +kernel
theorem dX1_applyRoll_19 : decode cX1_applyRoll 19 = .ok (.putfield 47, 3) := by decide +kernel
theorem dX1_applyRoll_22 : decode cX1_applyRoll 22 = .ok (.aload_n 0, 1) := by decide +kernel
theorem dX1_applyRoll_23 : decode cX1_applyRoll 23 = .ok (.dup, 1) := by decide +kernel
theorem dX1_applyRoll_24 : decode cX1_applyRoll 24 = .ok (.getfield 50, 3) := by decide +kernel
theorem dX1_applyRoll_27 : decode cX1_applyRoll 27 = .ok (.aload_n 0, 1) := by decide +kernel
theorem dX1_applyRoll_28 : decode cX1_applyRoll 28 = .ok (.getfield 11, 3) := by decide +kernel
theorem dX1_applyRoll_31 : decode cX1_applyRoll 31 = .ok (.iload_n 1, 1) := by decide +kernel
theorem dX1_applyRoll_32 : decode cX1_applyRoll 32 = .ok (.aaload, 1) := by decide +kernel
theorem dX1_applyRoll_33 : decode cX1_applyRoll 33 = .ok (.iload_n 2, 1) := by decide +kernel
theorem dX1_applyRoll_34 : decode cX1_applyRoll 34 = .ok (.aload_n 0, 1) := by decide +kernel
theorem dX1_applyRoll_35 : decode cX1_applyRoll 35 = .ok (.getfield 38, 3) := by decide +kernel
theorem dX1_applyRoll_38 : decode cX1_applyRoll 38 = .ok (.invokevirtual 115, 3) := by decide +kernel
theorem dX1_applyRoll_41 : decode cX1_applyRoll 41 = .ok (.iadd, 1) := by decide +kernel
theorem dX1_applyRoll_42 : decode cX1_applyRoll 42 = .ok (.putfield 50, 3) := by decide +kernel
theorem dX1_applyRoll_45 : decode cX1_applyRoll 45 = .ok (.aload_n 0, 1) := by decide +kernel
theorem dX1_applyRoll_46 : decode cX1_applyRoll 46 = .ok (.getfield 11, 3) := by decide +kernel
theorem dX1_applyRoll_49 : decode cX1_applyRoll 49 = .ok (.iload_n 1, 1) := by decide +kernel
theorem dX1_applyRoll_50 : decode cX1_applyRoll 50 = .ok (.aaload, 1) := by decide +kernel
theorem dX1_applyRoll_51 : decode cX1_applyRoll 51 = .ok (.getfield 65, 3) := by decide +kernel
theorem dX1_applyRoll_54 : decode cX1_applyRoll 54 = .ok (.ireturn, 1) := by decide +kernel
theorem dX1_refusalOfDust_0 : decode cX1_refusalOfDust 0 = .ok (.aload_n 0, 1) := by decide +kernel
theorem dX1_refusalOfDust_1 : decode cX1_refusalOfDust 1 = .ok (.iload_n 1, 1) := by decide +kernel
theorem dX1_refusalOfDust_2 : decode cX1_refusalOfDust 2 = .ok (.invokevirtual 84, 3) := by decide +kernel
theorem dX1_refusalOfDust_5 : decode cX1_refusalOfDust 5 = .ok (.ifCond .ne 7, 3) := by decide +kernel
theorem dX1_refusalOfDust_8 : decode cX1_refusalOfDust 8 = .ok (.getstatic 88, 3) := by decide +kernel
theorem dX1_refusalOfDust_11 : decode cX1_refusalOfDust 11 = .ok (.areturn, 1) := by decide +kernel
theorem dX1_refusalOfDust_12 : decode cX1_refusalOfDust 12 = .ok (.aload_n 0, 1) := by decide +kernel
theorem dX1_refusalOfDust_13 : decode cX1_refusalOfDust 13 = .ok (.getfield 11, 3) := by decide +kernel
theorem dX1_refusalOfDust_16 : decode cX1_refusalOfDust 16 = .ok (.iload_n 1, 1) := by decide +kernel
theorem dX1_refusalOfDust_17 : decode cX1_refusalOfDust 17 = .ok (.aaload, 1) := by decide +kernel
theorem dX1_refusalOfDust_18 : decode cX1_refusalOfDust 18 = .ok (.getfield 72, 3) := by decide +kernel
theorem dX1_refusalOfDust_21 : decode cX1_refusalOfDust 21 = .ok (.ifCond .ne 23, 3) := by decide +kernel
theorem dX1_refusalOfDust_24 : decode cX1_refusalOfDust 24 = .ok (.aload_n 0, 1) := by decide +kernel
theorem dX1_refusalOfDust_25 : decode cX1_refusalOfDust 25 = .ok (.getfield 11, 3) := by decide +kernel
theorem dX1_refusalOfDust_28 : decode cX1_refusalOfDust 28 = .ok (.iload_n 1, 1) := by decide +kernel
theorem dX1_refusalOfDust_29 : decode cX1_refusalOfDust 29 = .ok (.aaload, 1) := by decide +kernel
theorem dX1_refusalOfDust_30 : decode cX1_refusalOfDust 30 = .ok (.getfield 118, 3) := by decide +kernel
theorem dX1_refusalOfDust_33 : decode cX1_refusalOfDust 33 = .ok (.ifCond .ne 11, 3) := by decide +kernel
theorem dX1_refusalOfDust_36 : decode cX1_refusalOfDust 36 = .ok (.aload_n 0, 1) := by decide +kernel
theorem dX1_refusalOfDust_37 : decode cX1_refusalOfDust 37 = .ok (.getfield 41, 3) := by decide +kernel
theorem dX1_refusalOfDust_40 : decode cX1_refusalOfDust 40 = .ok (.iconst 1, 1) := by decide +kernel
theorem dX1_refusalOfDust_41 : decode cX1_refusalOfDust 41 = .ok (.if_icmp .ge 7, 3) := by decide +kernel
theorem dX1_refusalOfDust_44 : decode cX1_refusalOfDust 44 = .ok (.iconst 1, 1) := by decide +kernel
theorem dX1_refusalOfDust_45 : decode cX1_refusalOfDust 45 = .ok (.goto 4, 3) := by decide +kernel
theorem dX1_refusalOfDust_48 : decode cX1_refusalOfDust 48 = .ok (.iconst 0, 1) := by decide +kernel
theorem dX1_refusalOfDust_49 : decode cX1_refusalOfDust 49 = .ok (.invokestatic 101, 3) := by decide +kernel
theorem dX1_refusalOfDust_52 : decode cX1_refusalOfDust 52 = .ok (.areturn, 1) := by decide +kernel
theorem dX1_applyDust_0 : decode cX1_applyDust 0 = .ok (.aload_n 0, 1) := by decide +kernel
theorem dX1_applyDust_1 : decode cX1_applyDust 1 = .ok (.getfield 11, 3) := by decide +kernel
theorem dX1_applyDust_4 : decode cX1_applyDust 4 = .ok (.iload_n 1, 1) := by decide +kernel
theorem dX1_applyDust_5 : decode cX1_applyDust 5 = .ok (.aaload, 1) := by decide +kernel
theorem dX1_applyDust_6 : decode cX1_applyDust 6 = .ok (.iconst 1, 1) := by decide +kernel
theorem dX1_applyDust_7 : decode cX1_applyDust 7 = .ok (.putfield 118, 3) := by decide +kernel
theorem dX1_applyDust_10 : decode cX1_applyDust 10 = .ok (.aload_n 0, 1) := by decide +kernel
theorem dX1_applyDust_11 : decode cX1_applyDust 11 = .ok (.dup, 1) := by decide +kernel
theorem dX1_applyDust_12 : decode cX1_applyDust 12 = .ok (.getfield 41, 3) := by decide +kernel
theorem dX1_applyDust_15 : decode cX1_applyDust 15 = .ok (.iconst 1, 1) := by decide +kernel
theorem dX1_applyDust_16 : decode cX1_applyDust 16 = .ok (.isub, 1) := by decide +kernel
theorem dX1_applyDust_17 : decode cX1_applyDust 17 = .ok (.putfield 41, 3) := by decide +kernel
theorem dX1_applyDust_20 : decode cX1_applyDust 20 = .ok (.aload_n 0, 1) := by decide +kernel
theorem dX1_applyDust_21 : decode cX1_applyDust 21 = .ok (.getfield 41, 3) := by decide +kernel
theorem dX1_applyDust_24 : decode cX1_applyDust 24 = .ok (.ireturn, 1) := by decide +kernel
theorem dX1_refusalOfSeal_0 : decode cX1_refusalOfSeal 0 = .ok (.aload_n 0, 1) := by decide +kernel
theorem dX1_refusalOfSeal_1 : decode cX1_refusalOfSeal 1 = .ok (.iload_n 1, 1) := by decide +kernel
theorem dX1_refusalOfSeal_2 : decode cX1_refusalOfSeal 2 = .ok (.invokevirtual 84, 3) := by decide +kernel
theorem dX1_refusalOfSeal_5 : decode cX1_refusalOfSeal 5 = .ok (.ifCond .ne 7, 3) := by decide +kernel
theorem dX1_refusalOfSeal_8 : decode cX1_refusalOfSeal 8 = .ok (.getstatic 88, 3) := by decide +kernel
theorem dX1_refusalOfSeal_11 : decode cX1_refusalOfSeal 11 = .ok (.areturn, 1) := by decide +kernel
theorem dX1_refusalOfSeal_12 : decode cX1_refusalOfSeal 12 = .ok (.aload_n 0, 1) := by decide +kernel
theorem dX1_refusalOfSeal_13 : decode cX1_refusalOfSeal 13 = .ok (.getfield 11, 3) := by decide +kernel
theorem dX1_refusalOfSeal_16 : decode cX1_refusalOfSeal 16 = .ok (.iload_n 1, 1) := by decide +kernel
theorem dX1_refusalOfSeal_17 : decode cX1_refusalOfSeal 17 = .ok (.aaload, 1) := by decide +kernel
theorem dX1_refusalOfSeal_18 : decode cX1_refusalOfSeal 18 = .ok (.getfield 72, 3) := by decide +kernel
theorem dX1_refusalOfSeal_21 : decode cX1_refusalOfSeal 21 = .ok (.ifCond .ne 15, 3) := by decide +kernel
theorem dX1_refusalOfSeal_24 : decode cX1_refusalOfSeal 24 = .ok (.aload_n 0, 1) := by decide +kernel
theorem dX1_refusalOfSeal_25 : decode cX1_refusalOfSeal 25 = .ok (.getfield 11, 3) := by decide +kernel
theorem dX1_refusalOfSeal_28 : decode cX1_refusalOfSeal 28 = .ok (.iload_n 1, 1) := by decide +kernel
theorem dX1_refusalOfSeal_29 : decode cX1_refusalOfSeal 29 = .ok (.aaload, 1) := by decide +kernel
theorem dX1_refusalOfSeal_30 : decode cX1_refusalOfSeal 30 = .ok (.getfield 68, 3) := by decide +kernel
theorem dX1_refusalOfSeal_33 : decode cX1_refusalOfSeal 33 = .ok (.ifCond .eq 7, 3) := by decide +kernel
theorem dX1_refusalOfSeal_36 : decode cX1_refusalOfSeal 36 = .ok (.iconst 1, 1) := by decide +kernel
theorem dX1_refusalOfSeal_37 : decode cX1_refusalOfSeal 37 = .ok (.goto 4, 3) := by decide +kernel
theorem dX1_refusalOfSeal_40 : decode cX1_refusalOfSeal 40 = .ok (.iconst 0, 1) := by decide +kernel
theorem dX1_refusalOfSeal_41 : decode cX1_refusalOfSeal 41 = .ok (.invokestatic 101, 3) := by decide +kernel
theorem dX1_refusalOfSeal_44 : decode cX1_refusalOfSeal 44 = .ok (.areturn, 1) := by decide +kernel
theorem dX1_applySeal_0 : decode cX1_applySeal 0 = .ok (.aload_n 0, 1) := by decide +kernel
theorem dX1_applySeal_1 : decode cX1_applySeal 1 = .ok (.getfield 11, 3) := by decide +kernel
theorem dX1_applySeal_4 : decode cX1_applySeal 4 = .ok (.iload_n 1, 1) := by decide +kernel
theorem dX1_applySeal_5 : decode cX1_applySeal 5 = .ok (.aaload, 1) := by decide +kernel
theorem dX1_applySeal_6 : decode cX1_applySeal 6 = .ok (.iconst 1, 1) := by decide +kernel
theorem dX1_applySeal_7 : decode cX1_applySeal 7 = .ok (.putfield 68, 3) := by decide +kernel
theorem dX1_applySeal_10 : decode cX1_applySeal 10 = .ok (.aload_n 0, 1) := by decide +kernel
theorem dX1_applySeal_11 : decode cX1_applySeal 11 = .ok (.invokevirtual 121, 3) := by decide +kernel
theorem dX1_applySeal_14 : decode cX1_applySeal 14 = .ok (.ireturn, 1) := by decide +kernel
theorem dX1_refusalOfCool_0 : decode cX1_refusalOfCool 0 = .ok (.aload_n 0, 1) := by decide +kernel
theorem dX1_refusalOfCool_1 : decode cX1_refusalOfCool 1 = .ok (.iload_n 1, 1) := by decide +kernel
theorem dX1_refusalOfCool_2 : decode cX1_refusalOfCool 2 = .ok (.invokevirtual 84, 3) := by decide +kernel
theorem dX1_refusalOfCool_5 : decode cX1_refusalOfCool 5 = .ok (.ifCond .ne 7, 3) := by decide +kernel
theorem dX1_refusalOfCool_8 : decode cX1_refusalOfCool 8 = .ok (.getstatic 88, 3) := by decide +kernel
theorem dX1_refusalOfCool_11 : decode cX1_refusalOfCool 11 = .ok (.areturn, 1) := by decide +kernel
theorem dX1_refusalOfCool_12 : decode cX1_refusalOfCool 12 = .ok (.aload_n 0, 1) := by decide +kernel
theorem dX1_refusalOfCool_13 : decode cX1_refusalOfCool 13 = .ok (.getfield 11, 3) := by decide +kernel
theorem dX1_refusalOfCool_16 : decode cX1_refusalOfCool 16 = .ok (.iload_n 1, 1) := by decide +kernel
theorem dX1_refusalOfCool_17 : decode cX1_refusalOfCool 17 = .ok (.aaload, 1) := by decide +kernel
theorem dX1_refusalOfCool_18 : decode cX1_refusalOfCool 18 = .ok (.getfield 72, 3) := by decide +kernel
theorem dX1_refusalOfCool_21 : decode cX1_refusalOfCool 21 = .ok (.ifCond .ne 11, 3) := by decide +kernel
theorem dX1_refusalOfCool_24 : decode cX1_refusalOfCool 24 = .ok (.aload_n 0, 1) := by decide +kernel
theorem dX1_refusalOfCool_25 : decode cX1_refusalOfCool 25 = .ok (.invokevirtual 125, 3) := by decide +kernel
theorem dX1_refusalOfCool_28 : decode cX1_refusalOfCool 28 = .ok (.iconst 3, 1) := by decide +kernel
theorem dX1_refusalOfCool_29 : decode cX1_refusalOfCool 29 = .ok (.if_icmp .lt 7, 3) := by decide +kernel
theorem dX1_refusalOfCool_32 : decode cX1_refusalOfCool 32 = .ok (.iconst 1, 1) := by decide +kernel
theorem dX1_refusalOfCool_33 : decode cX1_refusalOfCool 33 = .ok (.goto 4, 3) := by decide +kernel
theorem dX1_refusalOfCool_36 : decode cX1_refusalOfCool 36 = .ok (.iconst 0, 1) := by decide +kernel
theorem dX1_refusalOfCool_37 : decode cX1_refusalOfCool 37 = .ok (.invokestatic 101, 3) := by decide +kernel
theorem dX1_refusalOfCool_40 : decode cX1_refusalOfCool 40 = .ok (.areturn, 1) := by decide +kernel
theorem dX1_applyCool_0 : decode cX1_applyCool 0 = .ok (.aload_n 0, 1) := by decide +kernel
theorem dX1_applyCool_1 : decode cX1_applyCool 1 = .ok (.getfield 11, 3) := by decide +kernel
theorem dX1_applyCool_4 : decode cX1_applyCool 4 = .ok (.iload_n 1, 1) := by decide +kernel
theorem dX1_applyCool_5 : decode cX1_applyCool 5 = .ok (.aaload, 1) := by decide +kernel
theorem dX1_applyCool_6 : decode cX1_applyCool 6 = .ok (.iconst 1, 1) := by decide +kernel
theorem dX1_applyCool_7 : decode cX1_applyCool 7 = .ok (.putfield 72, 3) := by decide +kernel
theorem dX1_applyCool_10 : decode cX1_applyCool 10 = .ok (.aload_n 0, 1) := by decide +kernel
theorem dX1_applyCool_11 : decode cX1_applyCool 11 = .ok (.invokevirtual 125, 3) := by decide +kernel
theorem dX1_applyCool_14 : decode cX1_applyCool 14 = .ok (.ireturn, 1) := by decide +kernel
theorem dX1_refusalOfTakeOut_0 : decode cX1_refusalOfTakeOut 0 = .ok (.aload_n 0, 1) := by decide +kernel
theorem dX1_refusalOfTakeOut_1 : decode cX1_refusalOfTakeOut 1 = .ok (.iload_n 1, 1) := by decide +kernel
theorem dX1_refusalOfTakeOut_2 : decode cX1_refusalOfTakeOut 2 = .ok (.invokevirtual 84, 3) := by decide +kernel
theorem dX1_refusalOfTakeOut_5 : decode cX1_refusalOfTakeOut 5 = .ok (.ifCond .ne 7, 3) := by decide +kernel
theorem dX1_refusalOfTakeOut_8 : decode cX1_refusalOfTakeOut 8 = .ok (.getstatic 88, 3) := by decide +kernel
theorem dX1_refusalOfTakeOut_11 : decode cX1_refusalOfTakeOut 11 = .ok (.areturn, 1) := by decide +kernel
theorem dX1_refusalOfTakeOut_12 : decode cX1_refusalOfTakeOut 12 = .ok (.aload_n 0, 1) := by decide +kernel
theorem dX1_refusalOfTakeOut_13 : decode cX1_refusalOfTakeOut 13 = .ok (.getfield 11, 3) := by decide +kernel
theorem dX1_refusalOfTakeOut_16 : decode cX1_refusalOfTakeOut 16 = .ok (.iload_n 1, 1) := by decide +kernel
theorem dX1_refusalOfTakeOut_17 : decode cX1_refusalOfTakeOut 17 = .ok (.aaload, 1) := by decide +kernel
theorem dX1_refusalOfTakeOut_18 : decode cX1_refusalOfTakeOut 18 = .ok (.getfield 72, 3) := by decide +kernel
theorem dX1_refusalOfTakeOut_21 : decode cX1_refusalOfTakeOut 21 = .ok (.ifCond .ne 7, 3) := by decide +kernel
theorem dX1_refusalOfTakeOut_24 : decode cX1_refusalOfTakeOut 24 = .ok (.iconst 1, 1) := by decide +kernel
theorem dX1_refusalOfTakeOut_25 : decode cX1_refusalOfTakeOut 25 = .ok (.goto 4, 3) := by decide +kernel
theorem dX1_refusalOfTakeOut_28 : decode cX1_refusalOfTakeOut 28 = .ok (.iconst 0, 1) := by decide +kernel
theorem dX1_refusalOfTakeOut_29 : decode cX1_refusalOfTakeOut 29 = .ok (.invokestatic 101, 3) := by decide +kernel
theorem dX1_refusalOfTakeOut_32 : decode cX1_refusalOfTakeOut 32 = .ok (.areturn, 1) := by decide +kernel
theorem dX1_applyTakeOut_0 : decode cX1_applyTakeOut 0 = .ok (.aload_n 0, 1) := by decide +kernel
theorem dX1_applyTakeOut_1 : decode cX1_applyTakeOut 1 = .ok (.getfield 11, 3) := by decide +kernel
theorem dX1_applyTakeOut_4 : decode cX1_applyTakeOut 4 = .ok (.iload_n 1, 1) := by decide +kernel
theorem dX1_applyTakeOut_5 : decode cX1_applyTakeOut 5 = .ok (.aaload, 1) := by decide +kernel
theorem dX1_applyTakeOut_6 : decode cX1_applyTakeOut 6 = .ok (.iconst 0, 1) := by decide +kernel
theorem dX1_applyTakeOut_7 : decode cX1_applyTakeOut 7 = .ok (.putfield 72, 3) := by decide +kernel
theorem dX1_applyTakeOut_10 : decode cX1_applyTakeOut 10 = .ok (.aload_n 0, 1) := by decide +kernel
theorem dX1_applyTakeOut_11 : decode cX1_applyTakeOut 11 = .ok (.getfield 11, 3) := by decide +kernel
theorem dX1_applyTakeOut_14 : decode cX1_applyTakeOut 14 = .ok (.iload_n 1, 1) := by decide +kernel
theorem dX1_applyTakeOut_15 : decode cX1_applyTakeOut 15 = .ok (.aaload, 1) := by decide +kernel
theorem dX1_applyTakeOut_16 : decode cX1_applyTakeOut 16 = .ok (.getfield 62, 3) := by decide +kernel
theorem dX1_applyTakeOut_19 : decode cX1_applyTakeOut 19 = .ok (.ireturn, 1) := by decide +kernel
theorem dX1_refusalOfHours_0 : decode cX1_refusalOfHours 0 = .ok (.iload_n 1, 1) := by decide +kernel
theorem dX1_refusalOfHours_1 : decode cX1_refusalOfHours 1 = .ok (.iconst 1, 1) := by decide +kernel
theorem dX1_refusalOfHours_2 : decode cX1_refusalOfHours 2 = .ok (.if_icmp .lt 9, 3) := by decide +kernel
theorem dX1_refusalOfHours_5 : decode cX1_refusalOfHours 5 = .ok (.iload_n 1, 1) := by decide +kernel
theorem dX1_refusalOfHours_6 : decode cX1_refusalOfHours 6 = .ok (.bipush 24, 2) := by decide +kernel
theorem dX1_refusalOfHours_8 : decode cX1_refusalOfHours 8 = .ok (.if_icmp .le 7, 3) := by decide +kernel
theorem dX1_refusalOfHours_11 : decode cX1_refusalOfHours 11 = .ok (.getstatic 94, 3) := by decide +kernel
theorem dX1_refusalOfHours_14 : decode cX1_refusalOfHours 14 = .ok (.areturn, 1) := by decide +kernel
theorem dX1_refusalOfHours_15 : decode cX1_refusalOfHours 15 = .ok (.aload_n 0, 1) := by decide +kernel
theorem dX1_refusalOfHours_16 : decode cX1_refusalOfHours 16 = .ok (.getfield 44, 3) := by decide +kernel
theorem dX1_refusalOfHours_19 : decode cX1_refusalOfHours 19 = .ok (.iload_n 1, 1) := by decide +kernel
theorem dX1_refusalOfHours_20 : decode cX1_refusalOfHours 20 = .ok (.iadd, 1) := by decide +kernel
theorem dX1_refusalOfHours_21 : decode cX1_refusalOfHours 21 = .ok (.sipush 9999, 3) := by decide +kernel
theorem dX1_refusalOfHours_24 : decode cX1_refusalOfHours 24 = .ok (.if_icmp .le 7, 3) := by decide +kernel
theorem dX1_refusalOfHours_27 : decode cX1_refusalOfHours 27 = .ok (.iconst 1, 1) := by decide +kernel
theorem dX1_refusalOfHours_28 : decode cX1_refusalOfHours 28 = .ok (.goto 4, 3) := by decide +kernel
theorem dX1_refusalOfHours_31 : decode cX1_refusalOfHours 31 = .ok (.iconst 0, 1) := by decide +kernel
theorem dX1_refusalOfHours_32 : decode cX1_refusalOfHours 32 = .ok (.invokestatic 101, 3) := by decide +kernel
theorem dX1_refusalOfHours_35 : decode cX1_refusalOfHours 35 = .ok (.areturn, 1) := by decide +kernel
theorem dX1_applyHours_0 : decode cX1_applyHours 0 = .ok (.iconst 0, 1) := by decide +kernel
theorem dX1_applyHours_1 : decode cX1_applyHours 1 = .ok (.istore_n 2, 1) := by decide +kernel
theorem dX1_applyHours_2 : decode cX1_applyHours 2 = .ok (.iload_n 2, 1) := by decide +kernel
theorem dX1_applyHours_3 : decode cX1_applyHours 3 = .ok (.aload_n 0, 1) := by decide +kernel
theorem dX1_applyHours_4 : decode cX1_applyHours 4 = .ok (.getfield 31, 3) := by decide +kernel
theorem dX1_applyHours_7 : decode cX1_applyHours 7 = .ok (.if_icmp .ge 32, 3) := by decide +kernel
theorem dX1_applyHours_10 : decode cX1_applyHours 10 = .ok (.aload_n 0, 1) := by decide +kernel
theorem dX1_applyHours_11 : decode cX1_applyHours 11 = .ok (.getfield 11, 3) := by decide +kernel
theorem dX1_applyHours_14 : decode cX1_applyHours 14 = .ok (.iload_n 2, 1) := by decide +kernel
theorem dX1_applyHours_15 : decode cX1_applyHours 15 = .ok (.aaload, 1) := by decide +kernel
theorem dX1_applyHours_16 : decode cX1_applyHours 16 = .ok (.aload_n 0, 1) := by decide +kernel
theorem dX1_applyHours_17 : decode cX1_applyHours 17 = .ok (.getfield 11, 3) := by decide +kernel
theorem dX1_applyHours_20 : decode cX1_applyHours 20 = .ok (.iload_n 2, 1) := by decide +kernel
theorem dX1_applyHours_21 : decode cX1_applyHours 21 = .ok (.aaload, 1) := by decide +kernel
theorem dX1_applyHours_22 : decode cX1_applyHours 22 = .ok (.iload_n 1, 1) := by decide +kernel
theorem dX1_applyHours_23 : decode cX1_applyHours 23 = .ok (.aload_n 0, 1) := by decide +kernel
theorem dX1_applyHours_24 : decode cX1_applyHours 24 = .ok (.getfield 35, 3) := by decide +kernel
theorem dX1_applyHours_27 : decode cX1_applyHours 27 = .ok (.invokevirtual 128, 3) := by decide +kernel
theorem dX1_applyHours_30 : decode cX1_applyHours 30 = .ok (.putfield 62, 3) := by decide +kernel
theorem dX1_applyHours_33 : decode cX1_applyHours 33 = .ok (.iinc 2 1, 3) := by decide +kernel
theorem dX1_applyHours_36 : decode cX1_applyHours 36 = .ok (.goto (-34), 3) := by decide +kernel
theorem dX1_applyHours_39 : decode cX1_applyHours 39 = .ok (.aload_n 0, 1) := by decide +kernel
theorem dX1_applyHours_40 : decode cX1_applyHours 40 = .ok (.dup, 1) := by decide +kernel
theorem dX1_applyHours_41 : decode cX1_applyHours 41 = .ok (.getfield 44, 3) := by decide +kernel
theorem dX1_applyHours_44 : decode cX1_applyHours 44 = .ok (.iload_n 1, 1) := by decide +kernel
theorem dX1_applyHours_45 : decode cX1_applyHours 45 = .ok (.iadd, 1) := by decide +kernel
theorem dX1_applyHours_46 : decode cX1_applyHours 46 = .ok (.putfield 44, 3) := by decide +kernel
theorem dX1_applyHours_49 : decode cX1_applyHours 49 = .ok (.aload_n 0, 1) := by decide +kernel
theorem dX1_applyHours_50 : decode cX1_applyHours 50 = .ok (.invokevirtual 131, 3) := by decide +kernel
theorem dX1_applyHours_53 : decode cX1_applyHours 53 = .ok (.ireturn, 1) := by decide +kernel
theorem dX1_refusalOfCut_0 : decode cX1_refusalOfCut 0 = .ok (.aload_n 0, 1) := by decide +kernel
theorem dX1_refusalOfCut_1 : decode cX1_refusalOfCut 1 = .ok (.iload_n 1, 1) := by decide +kernel
theorem dX1_refusalOfCut_2 : decode cX1_refusalOfCut 2 = .ok (.invokevirtual 84, 3) := by decide +kernel
theorem dX1_refusalOfCut_5 : decode cX1_refusalOfCut 5 = .ok (.ifCond .ne 7, 3) := by decide +kernel
theorem dX1_refusalOfCut_8 : decode cX1_refusalOfCut 8 = .ok (.getstatic 88, 3) := by decide +kernel
theorem dX1_refusalOfCut_11 : decode cX1_refusalOfCut 11 = .ok (.areturn, 1) := by decide +kernel
theorem dX1_refusalOfCut_12 : decode cX1_refusalOfCut 12 = .ok (.aload_n 0, 1) := by decide +kernel
theorem dX1_refusalOfCut_13 : decode cX1_refusalOfCut 13 = .ok (.getfield 11, 3) := by decide +kernel
theorem dX1_refusalOfCut_16 : decode cX1_refusalOfCut 16 = .ok (.iload_n 1, 1) := by decide +kernel
theorem dX1_refusalOfCut_17 : decode cX1_refusalOfCut 17 = .ok (.aaload, 1) := by decide +kernel
theorem dX1_refusalOfCut_18 : decode cX1_refusalOfCut 18 = .ok (.getfield 72, 3) := by decide +kernel
theorem dX1_refusalOfCut_21 : decode cX1_refusalOfCut 21 = .ok (.ifCond .ne 12, 3) := by decide +kernel
theorem dX1_refusalOfCut_24 : decode cX1_refusalOfCut 24 = .ok (.aload_n 0, 1) := by decide +kernel
theorem dX1_refusalOfCut_25 : decode cX1_refusalOfCut 25 = .ok (.getfield 31, 3) := by decide +kernel
theorem dX1_refusalOfCut_28 : decode cX1_refusalOfCut 28 = .ok (.bipush 6, 2) := by decide +kernel
theorem dX1_refusalOfCut_30 : decode cX1_refusalOfCut 30 = .ok (.if_icmp .lt 7, 3) := by decide +kernel
theorem dX1_refusalOfCut_33 : decode cX1_refusalOfCut 33 = .ok (.iconst 1, 1) := by decide +kernel
theorem dX1_refusalOfCut_34 : decode cX1_refusalOfCut 34 = .ok (.goto 4, 3) := by decide +kernel
theorem dX1_refusalOfCut_37 : decode cX1_refusalOfCut 37 = .ok (.iconst 0, 1) := by decide +kernel
theorem dX1_refusalOfCut_38 : decode cX1_refusalOfCut 38 = .ok (.invokestatic 101, 3) := by decide +kernel
theorem dX1_refusalOfCut_41 : decode cX1_refusalOfCut 41 = .ok (.areturn, 1) := by decide +kernel
theorem dX1_applyCut_0 : decode cX1_applyCut 0 = .ok (.aload_n 0, 1) := by decide +kernel
theorem dX1_applyCut_1 : decode cX1_applyCut 1 = .ok (.getfield 11, 3) := by decide +kernel
theorem dX1_applyCut_4 : decode cX1_applyCut 4 = .ok (.iload_n 1, 1) := by decide +kernel
theorem dX1_applyCut_5 : decode cX1_applyCut 5 = .ok (.aaload, 1) := by decide +kernel
theorem dX1_applyCut_6 : decode cX1_applyCut 6 = .ok (.astore_n 2, 1) := by decide +kernel
theorem dX1_applyCut_7 : decode cX1_applyCut 7 = .ok (.aload_n 2, 1) := by decide +kernel
theorem dX1_applyCut_8 : decode cX1_applyCut 8 = .ok (.iconst 0, 1) := by decide +kernel
theorem dX1_applyCut_9 : decode cX1_applyCut 9 = .ok (.putfield 68, 3) := by decide +kernel
theorem dX1_applyCut_12 : decode cX1_applyCut 12 = .ok (.aload_n 0, 1) := by decide +kernel
theorem dX1_applyCut_13 : decode cX1_applyCut 13 = .ok (.getfield 31, 3) := by decide +kernel
theorem dX1_applyCut_16 : decode cX1_applyCut 16 = .ok (.bipush 6, 2) := by decide +kernel
theorem dX1_applyCut_18 : decode cX1_applyCut 18 = .ok (.if_icmp .ge 26, 3) := by decide +kernel
theorem dX1_applyCut_21 : decode cX1_applyCut 21 = .ok (.aload_n 0, 1) := by decide +kernel
theorem dX1_applyCut_22 : decode cX1_applyCut 22 = .ok (.getfield 11, 3) := by decide +kernel
theorem dX1_applyCut_25 : decode cX1_applyCut 25 = .ok (.aload_n 0, 1) := by decide +kernel
theorem dX1_applyCut_26 : decode cX1_applyCut 26 = .ok (.getfield 31, 3) := by decide +kernel
theorem dX1_applyCut_29 : decode cX1_applyCut 29 = .ok (.aaload, 1) := by decide +kernel
theorem dX1_applyCut_30 : decode cX1_applyCut 30 = .ok (.aload_n 2, 1) := by decide +kernel
theorem dX1_applyCut_31 : decode cX1_applyCut 31 = .ok (.invokevirtual 58, 3) := by decide +kernel
theorem dX1_applyCut_34 : decode cX1_applyCut 34 = .ok (.aload_n 0, 1) := by decide +kernel
theorem dX1_applyCut_35 : decode cX1_applyCut 35 = .ok (.dup, 1) := by decide +kernel
theorem dX1_applyCut_36 : decode cX1_applyCut 36 = .ok (.getfield 31, 3) := by decide +kernel
theorem dX1_applyCut_39 : decode cX1_applyCut 39 = .ok (.iconst 1, 1) := by decide +kernel
theorem dX1_applyCut_40 : decode cX1_applyCut 40 = .ok (.iadd, 1) := by decide +kernel
theorem dX1_applyCut_41 : decode cX1_applyCut 41 = .ok (.putfield 31, 3) := by decide +kernel
theorem dX1_applyCut_44 : decode cX1_applyCut 44 = .ok (.aload_n 0, 1) := by decide +kernel
theorem dX1_applyCut_45 : decode cX1_applyCut 45 = .ok (.getfield 31, 3) := by decide +kernel
theorem dX1_applyCut_48 : decode cX1_applyCut 48 = .ok (.iconst 1, 1) := by decide +kernel
theorem dX1_applyCut_49 : decode cX1_applyCut 49 = .ok (.isub, 1) := by decide +kernel
theorem dX1_applyCut_50 : decode cX1_applyCut 50 = .ok (.ireturn, 1) := by decide +kernel
theorem dX1_refusalOfStack_0 : decode cX1_refusalOfStack 0 = .ok (.aload_n 0, 1) := by decide +kernel
theorem dX1_refusalOfStack_1 : decode cX1_refusalOfStack 1 = .ok (.iload_n 1, 1) := by decide +kernel
theorem dX1_refusalOfStack_2 : decode cX1_refusalOfStack 2 = .ok (.invokevirtual 84, 3) := by decide +kernel
theorem dX1_refusalOfStack_5 : decode cX1_refusalOfStack 5 = .ok (.ifCond .eq 11, 3) := by decide +kernel
theorem dX1_refusalOfStack_8 : decode cX1_refusalOfStack 8 = .ok (.aload_n 0, 1) := by decide +kernel
theorem dX1_refusalOfStack_9 : decode cX1_refusalOfStack 9 = .ok (.iload_n 2, 1) := by decide +kernel
theorem dX1_refusalOfStack_10 : decode cX1_refusalOfStack 10 = .ok (.invokevirtual 84, 3) := by decide +kernel
theorem dX1_refusalOfStack_13 : decode cX1_refusalOfStack 13 = .ok (.ifCond .ne 7, 3) := by decide +kernel
theorem dX1_refusalOfStack_16 : decode cX1_refusalOfStack 16 = .ok (.getstatic 88, 3) := by decide +kernel
theorem dX1_refusalOfStack_19 : decode cX1_refusalOfStack 19 = .ok (.areturn, 1) := by decide +kernel
theorem dX1_refusalOfStack_20 : decode cX1_refusalOfStack 20 = .ok (.iload_n 1, 1) := by decide +kernel
theorem dX1_refusalOfStack_21 : decode cX1_refusalOfStack 21 = .ok (.iload_n 2, 1) := by decide +kernel
theorem dX1_refusalOfStack_22 : decode cX1_refusalOfStack 22 = .ok (.if_icmp .ne 7, 3) := by decide +kernel
theorem dX1_refusalOfStack_25 : decode cX1_refusalOfStack 25 = .ok (.getstatic 94, 3) := by decide +kernel
theorem dX1_refusalOfStack_28 : decode cX1_refusalOfStack 28 = .ok (.areturn, 1) := by decide +kernel
theorem dX1_refusalOfStack_29 : decode cX1_refusalOfStack 29 = .ok (.aload_n 0, 1) := by decide +kernel
theorem dX1_refusalOfStack_30 : decode cX1_refusalOfStack 30 = .ok (.getfield 11, 3) := by decide +kernel
theorem dX1_refusalOfStack_33 : decode cX1_refusalOfStack 33 = .ok (.iload_n 1, 1) := by decide +kernel
theorem dX1_refusalOfStack_34 : decode cX1_refusalOfStack 34 = .ok (.aaload, 1) := by decide +kernel
theorem dX1_refusalOfStack_35 : decode cX1_refusalOfStack 35 = .ok (.astore_n 3, 1) := by decide +kernel
theorem dX1_refusalOfStack_36 : decode cX1_refusalOfStack 36 = .ok (.aload_n 0, 1) := by decide +kernel
theorem dX1_refusalOfStack_37 : decode cX1_refusalOfStack 37 = .ok (.getfield 11, 3) := by decide +kernel
theorem dX1_refusalOfStack_40 : decode cX1_refusalOfStack 40 = .ok (.iload_n 2, 1) := by decide +kernel
theorem dX1_refusalOfStack_41 : decode cX1_refusalOfStack 41 = .ok (.aaload, 1) := by decide +kernel
theorem dX1_refusalOfStack_42 : decode cX1_refusalOfStack 42 = .ok (.astore 4, 2) := by decide +kernel
theorem dX1_refusalOfStack_44 : decode cX1_refusalOfStack 44 = .ok (.aload_n 3, 1) := by decide +kernel
theorem dX1_refusalOfStack_45 : decode cX1_refusalOfStack 45 = .ok (.aload 4, 2) := by decide +kernel
theorem dX1_refusalOfStack_47 : decode cX1_refusalOfStack 47 = .ok (.invokevirtual 134, 3) := by decide +kernel
theorem dX1_refusalOfStack_50 : decode cX1_refusalOfStack 50 = .ok (.sipush 200, 3) := by decide +kernel
theorem dX1_refusalOfStack_53 : decode cX1_refusalOfStack 53 = .ok (.if_icmp .le 7, 3) := by decide +kernel
theorem dX1_refusalOfStack_56 : decode cX1_refusalOfStack 56 = .ok (.iconst 1, 1) := by decide +kernel
theorem dX1_refusalOfStack_57 : decode cX1_refusalOfStack 57 = .ok (.goto 4, 3) := by decide +kernel
theorem dX1_refusalOfStack_60 : decode cX1_refusalOfStack 60 = .ok (.iconst 0, 1) := by decide +kernel
theorem dX1_refusalOfStack_61 : decode cX1_refusalOfStack 61 = .ok (.istore 5, 2) := by decide +kernel
theorem dX1_refusalOfStack_63 : decode cX1_refusalOfStack 63 = .ok (.aload_n 3, 1) := by decide +kernel
theorem dX1_refusalOfStack_64 : decode cX1_refusalOfStack 64 = .ok (.invokevirtual 138, 3) := by decide +kernel
theorem dX1_refusalOfStack_67 : decode cX1_refusalOfStack 67 = .ok (.aload 4, 2) := by decide +kernel
theorem dX1_refusalOfStack_69 : decode cX1_refusalOfStack 69 = .ok (.invokevirtual 138, 3) := by decide +kernel
theorem dX1_refusalOfStack_72 : decode cX1_refusalOfStack 72 = .ok (.iadd, 1) := by decide +kernel
theorem dX1_refusalOfStack_73 : decode cX1_refusalOfStack 73 = .ok (.sipush 4000, 3) := by decide +kernel
theorem dX1_refusalOfStack_76 : decode cX1_refusalOfStack 76 = .ok (.if_icmp .le 7, 3) := by decide +kernel
theorem dX1_refusalOfStack_79 : decode cX1_refusalOfStack 79 = .ok (.iconst 1, 1) := by decide +kernel
theorem dX1_refusalOfStack_80 : decode cX1_refusalOfStack 80 = .ok (.goto 4, 3) := by decide +kernel
theorem dX1_refusalOfStack_83 : decode cX1_refusalOfStack 83 = .ok (.iconst 0, 1) := by decide +kernel
theorem dX1_refusalOfStack_84 : decode cX1_refusalOfStack 84 = .ok (.istore 6, 2) := by decide +kernel
theorem dX1_refusalOfStack_86 : decode cX1_refusalOfStack 86 = .ok (.aload_n 3, 1) := by decide +kernel
theorem dX1_refusalOfStack_87 : decode cX1_refusalOfStack 87 = .ok (.getfield 72, 3) := by decide +kernel
theorem dX1_refusalOfStack_90 : decode cX1_refusalOfStack 90 = .ok (.ifCond .ne 21, 3) := by decide +kernel
theorem dX1_refusalOfStack_93 : decode cX1_refusalOfStack 93 = .ok (.aload 4, 2) := by decide +kernel
theorem dX1_refusalOfStack_95 : decode cX1_refusalOfStack 95 = .ok (.getfield 72, 3) := by decide +kernel
theorem dX1_refusalOfStack_98 : decode cX1_refusalOfStack 98 = .ok (.ifCond .ne 13, 3) := by decide +kernel
theorem dX1_refusalOfStack_101 : decode cX1_refusalOfStack 101 = .ok (.iload 5, 2) := by decide +kernel
theorem dX1_refusalOfStack_103 : decode cX1_refusalOfStack 103 = .ok (.ifCond .ne 8, 3) := by decide +kernel
theorem dX1_refusalOfStack_106 : decode cX1_refusalOfStack 106 = .ok (.iload 6, 2) := by decide +kernel
theorem dX1_refusalOfStack_108 : decode cX1_refusalOfStack 108 = .ok (.ifCond .eq 7, 3) := by decide +kernel
theorem dX1_refusalOfStack_111 : decode cX1_refusalOfStack 111 = .ok (.iconst 1, 1) := by decide +kernel
theorem dX1_refusalOfStack_112 : decode cX1_refusalOfStack 112 = .ok (.goto 4, 3) := by decide +kernel
theorem dX1_refusalOfStack_115 : decode cX1_refusalOfStack 115 = .ok (.iconst 0, 1) := by decide +kernel
theorem dX1_refusalOfStack_116 : decode cX1_refusalOfStack 116 = .ok (.invokestatic 101, 3) := by decide +kernel
theorem dX1_refusalOfStack_119 : decode cX1_refusalOfStack 119 = .ok (.areturn, 1) := by decide +kernel
theorem dX1_removeSheet_0 : decode cX1_removeSheet 0 = .ok (.aload_n 0, 1) := by decide +kernel
theorem dX1_removeSheet_1 : decode cX1_removeSheet 1 = .ok (.getfield 11, 3) := by decide +kernel
theorem dX1_removeSheet_4 : decode cX1_removeSheet 4 = .ok (.iload_n 1, 1) := by decide +kernel
theorem dX1_removeSheet_5 : decode cX1_removeSheet 5 = .ok (.aaload, 1) := by decide +kernel
theorem dX1_removeSheet_6 : decode cX1_removeSheet 6 = .ok (.astore_n 2, 1) := by decide +kernel
theorem dX1_removeSheet_7 : decode cX1_removeSheet 7 = .ok (.iload_n 1, 1) := by decide +kernel
theorem dX1_removeSheet_8 : decode cX1_removeSheet 8 = .ok (.iconst 1, 1) := by decide +kernel
theorem dX1_removeSheet_9 : decode cX1_removeSheet 9 = .ok (.iadd, 1) := by decide +kernel
theorem dX1_removeSheet_10 : decode cX1_removeSheet 10 = .ok (.istore_n 3, 1) := by decide +kernel
theorem dX1_removeSheet_11 : decode cX1_removeSheet 11 = .ok (.iload_n 3, 1) := by decide +kernel
theorem dX1_removeSheet_12 : decode cX1_removeSheet 12 = .ok (.aload_n 0, 1) := by decide +kernel
theorem dX1_removeSheet_13 : decode cX1_removeSheet 13 = .ok (.getfield 31, 3) := by decide +kernel
theorem dX1_removeSheet_16 : decode cX1_removeSheet 16 = .ok (.if_icmp .ge 23, 3) := by decide +kernel
theorem dX1_removeSheet_19 : decode cX1_removeSheet 19 = .ok (.aload_n 0, 1) := by decide +kernel
theorem dX1_removeSheet_20 : decode cX1_removeSheet 20 = .ok (.getfield 11, 3) := by decide +kernel
theorem dX1_removeSheet_23 : decode cX1_removeSheet 23 = .ok (.iload_n 3, 1) := by decide +kernel
theorem dX1_removeSheet_24 : decode cX1_removeSheet 24 = .ok (.iconst 1, 1) := by decide +kernel
theorem dX1_removeSheet_25 : decode cX1_removeSheet 25 = .ok (.isub, 1) := by decide +kernel
theorem dX1_removeSheet_26 : decode cX1_removeSheet 26 = .ok (.aload_n 0, 1) := by decide +kernel
theorem dX1_removeSheet_27 : decode cX1_removeSheet 27 = .ok (.getfield 11, 3) := by decide +kernel
theorem dX1_removeSheet_30 : decode cX1_removeSheet 30 = .ok (.iload_n 3, 1) := by decide +kernel
theorem dX1_removeSheet_31 : decode cX1_removeSheet 31 = .ok (.aaload, 1) := by decide +kernel
theorem dX1_removeSheet_32 : decode cX1_removeSheet 32 = .ok (.aastore, 1) := by decide +kernel
theorem dX1_removeSheet_33 : decode cX1_removeSheet 33 = .ok (.iinc 3 1, 3) := by decide +kernel
theorem dX1_removeSheet_36 : decode cX1_removeSheet 36 = .ok (.goto (-25), 3) := by decide +kernel
theorem dX1_removeSheet_39 : decode cX1_removeSheet 39 = .ok (.aload_n 0, 1) := by decide +kernel
theorem dX1_removeSheet_40 : decode cX1_removeSheet 40 = .ok (.dup, 1) := by decide +kernel
theorem dX1_removeSheet_41 : decode cX1_removeSheet 41 = .ok (.getfield 31, 3) := by decide +kernel
theorem dX1_removeSheet_44 : decode cX1_removeSheet 44 = .ok (.iconst 1, 1) := by decide +kernel
theorem dX1_removeSheet_45 : decode cX1_removeSheet 45 = .ok (.isub, 1) := by decide +kernel
theorem dX1_removeSheet_46 : decode cX1_removeSheet 46 = .ok (.putfield 31, 3) := by decide +kernel
theorem dX1_removeSheet_49 : decode cX1_removeSheet 49 = .ok (.aload_n 0, 1) := by decide +kernel
theorem dX1_removeSheet_50 : decode cX1_removeSheet 50 = .ok (.getfield 11, 3) := by decide +kernel
theorem dX1_removeSheet_53 : decode cX1_removeSheet 53 = .ok (.aload_n 0, 1) := by decide +kernel
theorem dX1_removeSheet_54 : decode cX1_removeSheet 54 = .ok (.getfield 31, 3) := by decide +kernel
theorem dX1_removeSheet_57 : decode cX1_removeSheet 57 = .ok (.aload_n 2, 1) := by decide +kernel
theorem dX1_removeSheet_58 : decode cX1_removeSheet 58 = .ok (.aastore, 1) := by decide +kernel
theorem dX1_removeSheet_59 : decode cX1_removeSheet 59 = .ok (.return_, 1) := by decide +kernel
theorem dX1_applyStack_0 : decode cX1_applyStack 0 = .ok (.aload_n 0, 1) := by decide +kernel
theorem dX1_applyStack_1 : decode cX1_applyStack 1 = .ok (.getfield 11, 3) := by decide +kernel
theorem dX1_applyStack_4 : decode cX1_applyStack 4 = .ok (.iload_n 1, 1) := by decide +kernel
theorem dX1_applyStack_5 : decode cX1_applyStack 5 = .ok (.aaload, 1) := by decide +kernel
theorem dX1_applyStack_6 : decode cX1_applyStack 6 = .ok (.astore_n 3, 1) := by decide +kernel
theorem dX1_applyStack_7 : decode cX1_applyStack 7 = .ok (.aload_n 3, 1) := by decide +kernel
theorem dX1_applyStack_8 : decode cX1_applyStack 8 = .ok (.aload_n 0, 1) := by decide +kernel
theorem dX1_applyStack_9 : decode cX1_applyStack 9 = .ok (.getfield 11, 3) := by decide +kernel
theorem dX1_applyStack_12 : decode cX1_applyStack 12 = .ok (.iload_n 2, 1) := by decide +kernel
theorem dX1_applyStack_13 : decode cX1_applyStack 13 = .ok (.aaload, 1) := by decide +kernel
theorem dX1_applyStack_14 : decode cX1_applyStack 14 = .ok (.invokevirtual 141, 3) := by decide +kernel
theorem dX1_applyStack_17 : decode cX1_applyStack 17 = .ok (.aload_n 0, 1) := by decide +kernel
theorem dX1_applyStack_18 : decode cX1_applyStack 18 = .ok (.iload_n 2, 1) := by decide +kernel
theorem dX1_applyStack_19 : decode cX1_applyStack 19 = .ok (.invokevirtual 144, 3) := by decide +kernel
theorem dX1_applyStack_22 : decode cX1_applyStack 22 = .ok (.aload_n 3, 1) := by decide +kernel
theorem dX1_applyStack_23 : decode cX1_applyStack 23 = .ok (.getfield 65, 3) := by decide +kernel
theorem dX1_applyStack_26 : decode cX1_applyStack 26 = .ok (.ireturn, 1) := by decide +kernel
theorem dX1_refusalOfButter_0 : decode cX1_refusalOfButter 0 = .ok (.aload_n 0, 1) := by decide +kernel
theorem dX1_refusalOfButter_1 : decode cX1_refusalOfButter 1 = .ok (.iload_n 1, 1) := by decide +kernel
theorem dX1_refusalOfButter_2 : decode cX1_refusalOfButter 2 = .ok (.invokevirtual 84, 3) := by decide +kernel
theorem dX1_refusalOfButter_5 : decode cX1_refusalOfButter 5 = .ok (.ifCond .ne 7, 3) := by decide +kernel
theorem dX1_refusalOfButter_8 : decode cX1_refusalOfButter 8 = .ok (.getstatic 88, 3) := by decide +kernel
theorem dX1_refusalOfButter_11 : decode cX1_refusalOfButter 11 = .ok (.areturn, 1) := by decide +kernel
theorem dX1_refusalOfButter_12 : decode cX1_refusalOfButter 12 = .ok (.iload_n 2, 1) := by decide +kernel
theorem dX1_refusalOfButter_13 : decode cX1_refusalOfButter 13 = .ok (.iconst 1, 1) := by decide +kernel
theorem dX1_refusalOfButter_14 : decode cX1_refusalOfButter 14 = .ok (.if_icmp .lt 10, 3) := by decide +kernel
theorem dX1_refusalOfButter_17 : decode cX1_refusalOfButter 17 = .ok (.iload_n 2, 1) := by decide +kernel
theorem dX1_refusalOfButter_18 : decode cX1_refusalOfButter 18 = .ok (.sipush 400, 3) := by decide +kernel
theorem dX1_refusalOfButter_21 : decode cX1_refusalOfButter 21 = .ok (.if_icmp .le 7, 3) := by decide +kernel
theorem dX1_refusalOfButter_24 : decode cX1_refusalOfButter 24 = .ok (.getstatic 94, 3) := by decide +kernel
theorem dX1_refusalOfButter_27 : decode cX1_refusalOfButter 27 = .ok (.areturn, 1) := by decide +kernel
theorem dX1_refusalOfButter_28 : decode cX1_refusalOfButter 28 = .ok (.aload_n 0, 1) := by decide +kernel
theorem dX1_refusalOfButter_29 : decode cX1_refusalOfButter 29 = .ok (.getfield 11, 3) := by decide +kernel
theorem dX1_refusalOfButter_32 : decode cX1_refusalOfButter 32 = .ok (.iload_n 1, 1) := by decide +kernel
theorem dX1_refusalOfButter_33 : decode cX1_refusalOfButter 33 = .ok (.aaload, 1) := by decide +kernel
theorem dX1_refusalOfButter_34 : decode cX1_refusalOfButter 34 = .ok (.astore_n 3, 1) := by decide +kernel
theorem dX1_refusalOfButter_35 : decode cX1_refusalOfButter 35 = .ok (.aload_n 3, 1) := by decide +kernel
theorem dX1_refusalOfButter_36 : decode cX1_refusalOfButter 36 = .ok (.getfield 65, 3) := by decide +kernel
theorem dX1_refusalOfButter_39 : decode cX1_refusalOfButter 39 = .ok (.sipush 200, 3) := by decide +kernel
theorem dX1_refusalOfButter_42 : decode cX1_refusalOfButter 42 = .ok (.if_icmp .lt 7, 3) := by decide +kernel
theorem dX1_refusalOfButter_45 : decode cX1_refusalOfButter 45 = .ok (.iconst 1, 1) := by decide +kernel
theorem dX1_refusalOfButter_46 : decode cX1_refusalOfButter 46 = .ok (.goto 4, 3) := by decide +kernel
theorem dX1_refusalOfButter_49 : decode cX1_refusalOfButter 49 = .ok (.iconst 0, 1) := by decide +kernel
theorem dX1_refusalOfButter_50 : decode cX1_refusalOfButter 50 = .ok (.istore 4, 2) := by decide +kernel
theorem dX1_refusalOfButter_52 : decode cX1_refusalOfButter 52 = .ok (.aload_n 3, 1) := by decide +kernel
theorem dX1_refusalOfButter_53 : decode cX1_refusalOfButter 53 = .ok (.getfield 72, 3) := by decide +kernel
theorem dX1_refusalOfButter_56 : decode cX1_refusalOfButter 56 = .ok (.ifCond .ne 20, 3) := by decide +kernel
theorem dX1_refusalOfButter_59 : decode cX1_refusalOfButter 59 = .ok (.iload 4, 2) := by decide +kernel
theorem dX1_refusalOfButter_61 : decode cX1_refusalOfButter 61 = .ok (.ifCond .ne 15, 3) := by decide +kernel
theorem dX1_refusalOfButter_64 : decode cX1_refusalOfButter 64 = .ok (.aload_n 3, 1) := by decide +kernel
theorem dX1_refusalOfButter_65 : decode cX1_refusalOfButter 65 = .ok (.invokevirtual 138, 3) := by decide +kernel
theorem dX1_refusalOfButter_68 : decode cX1_refusalOfButter 68 = .ok (.iload_n 2, 1) := by decide +kernel
theorem dX1_refusalOfButter_69 : decode cX1_refusalOfButter 69 = .ok (.iadd, 1) := by decide +kernel
theorem dX1_refusalOfButter_70 : decode cX1_refusalOfButter 70 = .ok (.sipush 4000, 3) := by decide +kernel
theorem dX1_refusalOfButter_73 : decode cX1_refusalOfButter 73 = .ok (.if_icmp .le 7, 3) := by decide +kernel
theorem dX1_refusalOfButter_76 : decode cX1_refusalOfButter 76 = .ok (.iconst 1, 1) := by decide +kernel
theorem dX1_refusalOfButter_77 : decode cX1_refusalOfButter 77 = .ok (.goto 4, 3) := by decide +kernel
theorem dX1_refusalOfButter_80 : decode cX1_refusalOfButter 80 = .ok (.iconst 0, 1) := by decide +kernel
theorem dX1_refusalOfButter_81 : decode cX1_refusalOfButter 81 = .ok (.invokestatic 101, 3) := by decide +kernel
theorem dX1_refusalOfButter_84 : decode cX1_refusalOfButter 84 = .ok (.areturn, 1) := by decide +kernel
theorem dX1_applyButter_0 : decode cX1_applyButter 0 = .ok (.aload_n 0, 1) := by decide +kernel
theorem dX1_applyButter_1 : decode cX1_applyButter 1 = .ok (.getfield 11, 3) := by decide +kernel
theorem dX1_applyButter_4 : decode cX1_applyButter 4 = .ok (.iload_n 1, 1) := by decide +kernel
theorem dX1_applyButter_5 : decode cX1_applyButter 5 = .ok (.aaload, 1) := by decide +kernel
theorem dX1_applyButter_6 : decode cX1_applyButter 6 = .ok (.iload_n 2, 1) := by decide +kernel
theorem dX1_applyButter_7 : decode cX1_applyButter 7 = .ok (.invokevirtual 147, 3) := by decide +kernel
theorem dX1_applyButter_10 : decode cX1_applyButter 10 = .ok (.aload_n 0, 1) := by decide +kernel
theorem dX1_applyButter_11 : decode cX1_applyButter 11 = .ok (.getfield 11, 3) := by decide +kernel
theorem dX1_applyButter_14 : decode cX1_applyButter 14 = .ok (.iload_n 1, 1) := by decide +kernel
theorem dX1_applyButter_15 : decode cX1_applyButter 15 = .ok (.aaload, 1) := by decide +kernel
theorem dX1_applyButter_16 : decode cX1_applyButter 16 = .ok (.getfield 65, 3) := by decide +kernel
theorem dX1_applyButter_19 : decode cX1_applyButter 19 = .ok (.ireturn, 1) := by decide +kernel
theorem dX1_refusalOfFlour_0 : decode cX1_refusalOfFlour 0 = .ok (.iload_n 1, 1) := by decide +kernel
theorem dX1_refusalOfFlour_1 : decode cX1_refusalOfFlour 1 = .ok (.iconst 1, 1) := by decide +kernel
theorem dX1_refusalOfFlour_2 : decode cX1_refusalOfFlour 2 = .ok (.if_icmp .lt 9, 3) := by decide +kernel
theorem dX1_refusalOfFlour_5 : decode cX1_refusalOfFlour 5 = .ok (.iload_n 1, 1) := by decide +kernel
theorem dX1_refusalOfFlour_6 : decode cX1_refusalOfFlour 6 = .ok (.bipush 50, 2) := by decide +kernel
theorem dX1_refusalOfFlour_8 : decode cX1_refusalOfFlour 8 = .ok (.if_icmp .le 7, 3) := by decide +kernel
theorem dX1_refusalOfFlour_11 : decode cX1_refusalOfFlour 11 = .ok (.getstatic 94, 3) := by decide +kernel
theorem dX1_refusalOfFlour_14 : decode cX1_refusalOfFlour 14 = .ok (.areturn, 1) := by decide +kernel
theorem dX1_refusalOfFlour_15 : decode cX1_refusalOfFlour 15 = .ok (.aload_n 0, 1) := by decide +kernel
theorem dX1_refusalOfFlour_16 : decode cX1_refusalOfFlour 16 = .ok (.getfield 41, 3) := by decide +kernel
theorem dX1_refusalOfFlour_19 : decode cX1_refusalOfFlour 19 = .ok (.iload_n 1, 1) := by decide +kernel
theorem dX1_refusalOfFlour_20 : decode cX1_refusalOfFlour 20 = .ok (.iadd, 1) := by decide +kernel
theorem dX1_refusalOfFlour_21 : decode cX1_refusalOfFlour 21 = .ok (.sipush 999, 3) := by decide +kernel
theorem dX1_refusalOfFlour_24 : decode cX1_refusalOfFlour 24 = .ok (.if_icmp .le 7, 3) := by decide +kernel
theorem dX1_refusalOfFlour_27 : decode cX1_refusalOfFlour 27 = .ok (.iconst 1, 1) := by decide +kernel
theorem dX1_refusalOfFlour_28 : decode cX1_refusalOfFlour 28 = .ok (.goto 4, 3) := by decide +kernel
theorem dX1_refusalOfFlour_31 : decode cX1_refusalOfFlour 31 = .ok (.iconst 0, 1) := by decide +kernel
theorem dX1_refusalOfFlour_32 : decode cX1_refusalOfFlour 32 = .ok (.invokestatic 101, 3) := by decide +kernel
theorem dX1_refusalOfFlour_35 : decode cX1_refusalOfFlour 35 = .ok (.areturn, 1) := by decide +kernel
theorem dX1_applyFlour_0 : decode cX1_applyFlour 0 = .ok (.aload_n 0, 1) := by decide +kernel
theorem dX1_applyFlour_1 : decode cX1_applyFlour 1 = .ok (.dup, 1) := by decide +kernel
theorem dX1_applyFlour_2 : decode cX1_applyFlour 2 = .ok (.getfield 41, 3) := by decide +kernel
theorem dX1_applyFlour_5 : decode cX1_applyFlour 5 = .ok (.iload_n 1, 1) := by decide +kernel
theorem dX1_applyFlour_6 : decode cX1_applyFlour 6 = .ok (.iadd, 1) := by decide +kernel
theorem dX1_applyFlour_7 : decode cX1_applyFlour 7 = .ok (.putfield 41, 3) := by decide +kernel
theorem dX1_applyFlour_10 : decode cX1_applyFlour 10 = .ok (.aload_n 0, 1) := by decide +kernel
theorem dX1_applyFlour_11 : decode cX1_applyFlour 11 = .ok (.getfield 41, 3) := by decide +kernel
theorem dX1_applyFlour_14 : decode cX1_applyFlour 14 = .ok (.ireturn, 1) := by decide +kernel
