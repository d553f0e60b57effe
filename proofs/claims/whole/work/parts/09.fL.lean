/-! ===== decode rows: the private methods of the law ===== -/
theorem dL_addButter_0 : decode cL_addButter 0 = .ok (.aload_n 3, 1) := by decide +kernel
theorem dL_addButter_1 : decode cL_addButter 1 = .ok (.iconst 0, 1) := by decide +kernel
theorem dL_addButter_2 : decode cL_addButter 2 = .ok (.aload_n 0, 1) := by decide +kernel
theorem dL_addButter_3 : decode cL_addButter 3 = .ok (.iload_n 1, 1) := by decide +kernel
theorem dL_addButter_4 : decode cL_addButter 4 = .ok (.iload_n 2, 1) := by decide +kernel
theorem dL_addButter_5 : decode cL_addButter 5 = .ok (.invokevirtual 129, 3) := by decide +kernel
theorem dL_addButter_8 : decode cL_addButter 8 = .ok (.i2l, 1) := by decide +kernel
theorem dL_addButter_9 : decode cL_addButter 9 = .ok (.lastore, 1) := by decide +kernel
theorem dL_addButter_10 : decode cL_addButter 10 = .ok (.goto 15, 3) := by decide +kernel
theorem dL_addButter_13 : decode cL_addButter 13 = .ok (.astore 4, 2) := by decide +kernel
theorem dL_addButter_15 : decode cL_addButter 15 = .ok (.iconst 1, 1) := by decide +kernel
theorem dL_addButter_16 : decode cL_addButter 16 = .ok (.ireturn, 1) := by decide +kernel
theorem dL_addButter_17 : decode cL_addButter 17 = .ok (.astore 4, 2) := by decide +kernel
theorem dL_addButter_19 : decode cL_addButter 19 = .ok (.iconst 2, 1) := by decide +kernel
theorem dL_addButter_20 : decode cL_addButter 20 = .ok (.ireturn, 1) := by decide +kernel
theorem dL_addButter_21 : decode cL_addButter 21 = .ok (.astore 4, 2) := by decide +kernel
theorem dL_addButter_23 : decode cL_addButter 23 = .ok (.iconst 3, 1) := by decide +kernel
theorem dL_addButter_24 : decode cL_addButter 24 = .ok (.ireturn, 1) := by decide +kernel
theorem dL_addButter_25 : decode cL_addButter 25 = .ok (.iconst 0, 1) := by decide +kernel
theorem dL_addButter_26 : decode cL_addButter 26 = .ok (.ireturn, 1) := by decide +kernel
theorem dL_butterAtRisk_0 : decode cL_butterAtRisk 0 = .ok (.aload_n 2, 1) := by decide +kernel
theorem dL_butterAtRisk_1 : decode cL_butterAtRisk 1 = .ok (.iconst 0, 1) := by decide +kernel
theorem dL_butterAtRisk_2 : decode cL_butterAtRisk 2 = .ok (.aload_n 0, 1) := by decide +kernel
theorem dL_butterAtRisk_3 : decode cL_butterAtRisk 3 = .ok (.iload_n 1, 1) := by decide +kernel
theorem dL_butterAtRisk_4 : decode cL_butterAtRisk 4 = .ok (.invokevirtual 85, 3) := by decide +kernel
theorem dL_butterAtRisk_7 : decode cL_butterAtRisk 7 = .ok (.i2l, 1) := by decide +kernel
theorem dL_butterAtRisk_8 : decode cL_butterAtRisk 8 = .ok (.lastore, 1) := by decide +kernel
theorem dL_butterAtRisk_9 : decode cL_butterAtRisk 9 = .ok (.goto 6, 3) := by decide +kernel
theorem dL_butterAtRisk_12 : decode cL_butterAtRisk 12 = .ok (.astore_n 3, 1) := by decide +kernel
theorem dL_butterAtRisk_13 : decode cL_butterAtRisk 13 = .ok (.iconst 1, 1) := by decide +kernel
theorem dL_butterAtRisk_14 : decode cL_butterAtRisk 14 = .ok (.ireturn, 1) := by decide +kernel
theorem dL_butterAtRisk_15 : decode cL_butterAtRisk 15 = .ok (.iconst 0, 1) := by decide +kernel
theorem dL_butterAtRisk_16 : decode cL_butterAtRisk 16 = .ok (.ireturn, 1) := by decide +kernel
theorem dL_butterHeight_0 : decode cL_butterHeight 0 = .ok (.aload_n 2, 1) := by decide +kernel
theorem dL_butterHeight_1 : decode cL_butterHeight 1 = .ok (.iconst 0, 1) := by decide +kernel
theorem dL_butterHeight_2 : decode cL_butterHeight 2 = .ok (.aload_n 0, 1) := by decide +kernel
theorem dL_butterHeight_3 : decode cL_butterHeight 3 = .ok (.iload_n 1, 1) := by decide +kernel
theorem dL_butterHeight_4 : decode cL_butterHeight 4 = .ok (.invokevirtual 34, 3) := by decide +kernel
theorem dL_butterHeight_7 : decode cL_butterHeight 7 = .ok (.i2l, 1) := by decide +kernel
theorem dL_butterHeight_8 : decode cL_butterHeight 8 = .ok (.lastore, 1) := by decide +kernel
theorem dL_butterHeight_9 : decode cL_butterHeight 9 = .ok (.goto 6, 3) := by decide +kernel
theorem dL_butterHeight_12 : decode cL_butterHeight 12 = .ok (.astore_n 3, 1) := by decide +kernel
theorem dL_butterHeight_13 : decode cL_butterHeight 13 = .ok (.iconst 1, 1) := by decide +kernel
theorem dL_butterHeight_14 : decode cL_butterHeight 14 = .ok (.ireturn, 1) := by decide +kernel
theorem dL_butterHeight_15 : decode cL_butterHeight 15 = .ok (.iconst 0, 1) := by decide +kernel
theorem dL_butterHeight_16 : decode cL_butterHeight 16 = .ok (.ireturn, 1) := by decide +kernel
theorem dL_butterLayerCount_0 : decode cL_butterLayerCount 0 = .ok (.aload_n 2, 1) := by decide +kernel
theorem dL_butterLayerCount_1 : decode cL_butterLayerCount 1 = .ok (.iconst 0, 1) := by decide +kernel
theorem dL_butterLayerCount_2 : decode cL_butterLayerCount 2 = .ok (.aload_n 0, 1) := by decide +kernel
theorem dL_butterLayerCount_3 : decode cL_butterLayerCount 3 = .ok (.iload_n 1, 1) := by decide +kernel
theorem dL_butterLayerCount_4 : decode cL_butterLayerCount 4 = .ok (.invokevirtual 20, 3) := by decide +kernel
theorem dL_butterLayerCount_7 : decode cL_butterLayerCount 7 = .ok (.i2l, 1) := by decide +kernel
theorem dL_butterLayerCount_8 : decode cL_butterLayerCount 8 = .ok (.lastore, 1) := by decide +kernel
theorem dL_butterLayerCount_9 : decode cL_butterLayerCount 9 = .ok (.goto 6, 3) := by decide +kernel
theorem dL_butterLayerCount_12 : decode cL_butterLayerCount 12 = .ok (.astore_n 3, 1) := by decide +kernel
theorem dL_butterLayerCount_13 : decode cL_butterLayerCount 13 = .ok (.iconst 1, 1) := by decide +kernel
theorem dL_butterLayerCount_14 : decode cL_butterLayerCount 14 = .ok (.ireturn, 1) := by decide +kernel
theorem dL_butterLayerCount_15 : decode cL_butterLayerCount 15 = .ok (.iconst 0, 1) := by decide +kernel
theorem dL_butterLayerCount_16 : decode cL_butterLayerCount 16 = .ok (.ireturn, 1) := by decide +kernel
theorem dL_butterShare_0 : decode cL_butterShare 0 = .ok (.aload_n 2, 1) := by decide +kernel
theorem dL_butterShare_1 : decode cL_butterShare 1 = .ok (.iconst 0, 1) := by decide +kernel
theorem dL_butterShare_2 : decode cL_butterShare 2 = .ok (.aload_n 0, 1) := by decide +kernel
theorem dL_butterShare_3 : decode cL_butterShare 3 = .ok (.iload_n 1, 1) := by decide +kernel
theorem dL_butterShare_4 : decode cL_butterShare 4 = .ok (.invokevirtual 68, 3) := by decide +kernel
theorem dL_butterShare_7 : decode cL_butterShare 7 = .ok (.f2d, 1) := by decide +kernel
theorem dL_butterShare_8 : decode cL_butterShare 8 = .ok (.dastore, 1) := by decide +kernel
theorem dL_butterShare_9 : decode cL_butterShare 9 = .ok (.goto 6, 3) := by decide +kernel
theorem dL_butterShare_12 : decode cL_butterShare 12 = .ok (.astore_n 3, 1) := by decide +kernel
theorem dL_butterShare_13 : decode cL_butterShare 13 = .ok (.iconst 1, 1) := by decide +kernel
theorem dL_butterShare_14 : decode cL_butterShare 14 = .ok (.ireturn, 1) := by decide +kernel
theorem dL_butterShare_15 : decode cL_butterShare 15 = .ok (.iconst 0, 1) := by decide +kernel
theorem dL_butterShare_16 : decode cL_butterShare 16 = .ok (.ireturn, 1) := by decide +kernel
theorem dL_buyFlour_0 : decode cL_buyFlour 0 = .ok (.aload_n 2, 1) := by decide +kernel
theorem dL_buyFlour_1 : decode cL_buyFlour 1 = .ok (.iconst 0, 1) := by decide +kernel
theorem dL_buyFlour_2 : decode cL_buyFlour 2 = .ok (.aload_n 0, 1) := by decide +kernel
theorem dL_buyFlour_3 : decode cL_buyFlour 3 = .ok (.iload_n 1, 1) := by decide +kernel
theorem dL_buyFlour_4 : decode cL_buyFlour 4 = .ok (.invokevirtual 132, 3) := by decide +kernel
theorem dL_buyFlour_7 : decode cL_buyFlour 7 = .ok (.i2l, 1) := by decide +kernel
theorem dL_buyFlour_8 : decode cL_buyFlour 8 = .ok (.lastore, 1) := by decide +kernel
theorem dL_buyFlour_9 : decode cL_buyFlour 9 = .ok (.goto 9, 3) := by decide +kernel
theorem dL_buyFlour_12 : decode cL_buyFlour 12 = .ok (.astore_n 3, 1) := by decide +kernel
theorem dL_buyFlour_13 : decode cL_buyFlour 13 = .ok (.iconst 1, 1) := by decide +kernel
theorem dL_buyFlour_14 : decode cL_buyFlour 14 = .ok (.ireturn, 1) := by decide +kernel
theorem dL_buyFlour_15 : decode cL_buyFlour 15 = .ok (.astore_n 3, 1) := by decide +kernel
theorem dL_buyFlour_16 : decode cL_buyFlour 16 = .ok (.iconst 2, 1) := by decide +kernel
theorem dL_buyFlour_17 : decode cL_buyFlour 17 = .ok (.ireturn, 1) := by decide +kernel
theorem dL_buyFlour_18 : decode cL_buyFlour 18 = .ok (.iconst 0, 1) := by decide +kernel
theorem dL_buyFlour_19 : decode cL_buyFlour 19 = .ok (.ireturn, 1) := by decide +kernel
theorem dL_cool_0 : decode cL_cool 0 = .ok (.aload_n 2, 1) := by decide +kernel
theorem dL_cool_1 : decode cL_cool 1 = .ok (.iconst 0, 1) := by decide +kernel
theorem dL_cool_2 : decode cL_cool 2 = .ok (.aload_n 0, 1) := by decide +kernel
theorem dL_cool_3 : decode cL_cool 3 = .ok (.iload_n 1, 1) := by decide +kernel
theorem dL_cool_4 : decode cL_cool 4 = .ok (.invokevirtual 114, 3) := by decide +kernel
theorem dL_cool_7 : decode cL_cool 7 = .ok (.i2l, 1) := by decide +kernel
theorem dL_cool_8 : decode cL_cool 8 = .ok (.lastore, 1) := by decide +kernel
theorem dL_cool_9 : decode cL_cool 9 = .ok (.goto 9, 3) := by decide +kernel
theorem dL_cool_12 : decode cL_cool 12 = .ok (.astore_n 3, 1) := by decide +kernel
theorem dL_cool_13 : decode cL_cool 13 = .ok (.iconst 1, 1) := by decide +kernel
theorem dL_cool_14 : decode cL_cool 14 = .ok (.ireturn, 1) := by decide +kernel
theorem dL_cool_15 : decode cL_cool 15 = .ok (.astore_n 3, 1) := by decide +kernel
theorem dL_cool_16 : decode cL_cool 16 = .ok (.iconst 2, 1) := by decide +kernel
theorem dL_cool_17 : decode cL_cool 17 = .ok (.ireturn, 1) := by decide +kernel
theorem dL_cool_18 : decode cL_cool 18 = .ok (.iconst 0, 1) := by decide +kernel
theorem dL_cool_19 : decode cL_cool 19 = .ok (.ireturn, 1) := by decide +kernel
theorem dL_cut_0 : decode cL_cut 0 = .ok (.aload_n 2, 1) := by decide +kernel
theorem dL_cut_1 : decode cL_cut 1 = .ok (.iconst 0, 1) := by decide +kernel
theorem dL_cut_2 : decode cL_cut 2 = .ok (.aload_n 0, 1) := by decide +kernel
theorem dL_cut_3 : decode cL_cut 3 = .ok (.iload_n 1, 1) := by decide +kernel
theorem dL_cut_4 : decode cL_cut 4 = .ok (.invokevirtual 123, 3) := by decide +kernel
theorem dL_cut_7 : decode cL_cut 7 = .ok (.i2l, 1) := by decide +kernel
theorem dL_cut_8 : decode cL_cut 8 = .ok (.lastore, 1) := by decide +kernel
theorem dL_cut_9 : decode cL_cut 9 = .ok (.goto 9, 3) := by decide +kernel
theorem dL_cut_12 : decode cL_cut 12 = .ok (.astore_n 3, 1) := by decide +kernel
theorem dL_cut_13 : decode cL_cut 13 = .ok (.iconst 1, 1) := by decide +kernel
theorem dL_cut_14 : decode cL_cut 14 = .ok (.ireturn, 1) := by decide +kernel
theorem dL_cut_15 : decode cL_cut 15 = .ok (.astore_n 3, 1) := by decide +kernel
theorem dL_cut_16 : decode cL_cut 16 = .ok (.iconst 2, 1) := by decide +kernel
theorem dL_cut_17 : decode cL_cut 17 = .ok (.ireturn, 1) := by decide +kernel
theorem dL_cut_18 : decode cL_cut 18 = .ok (.iconst 0, 1) := by decide +kernel
theorem dL_cut_19 : decode cL_cut 19 = .ok (.ireturn, 1) := by decide +kernel
theorem dL_dust_0 : decode cL_dust 0 = .ok (.aload_n 2, 1) := by decide +kernel
theorem dL_dust_1 : decode cL_dust 1 = .ok (.iconst 0, 1) := by decide +kernel
theorem dL_dust_2 : decode cL_dust 2 = .ok (.aload_n 0, 1) := by decide +kernel
theorem dL_dust_3 : decode cL_dust 3 = .ok (.iload_n 1, 1) := by decide +kernel
theorem dL_dust_4 : decode cL_dust 4 = .ok (.invokevirtual 108, 3) := by decide +kernel
theorem dL_dust_7 : decode cL_dust 7 = .ok (.i2l, 1) := by decide +kernel
theorem dL_dust_8 : decode cL_dust 8 = .ok (.lastore, 1) := by decide +kernel
theorem dL_dust_9 : decode cL_dust 9 = .ok (.goto 9, 3) := by decide +kernel
theorem dL_dust_12 : decode cL_dust 12 = .ok (.astore_n 3, 1) := by decide +kernel
theorem dL_dust_13 : decode cL_dust 13 = .ok (.iconst 1, 1) := by decide +kernel
theorem dL_dust_14 : decode cL_dust 14 = .ok (.ireturn, 1) := by decide +kernel
theorem dL_dust_15 : decode cL_dust 15 = .ok (.astore_n 3, 1) := by decide +kernel
theorem dL_dust_16 : decode cL_dust 16 = .ok (.iconst 2, 1) := by decide +kernel
theorem dL_dust_17 : decode cL_dust 17 = .ok (.ireturn, 1) := by decide +kernel
theorem dL_dust_18 : decode cL_dust 18 = .ok (.iconst 0, 1) := by decide +kernel
theorem dL_dust_19 : decode cL_dust 19 = .ok (.ireturn, 1) := by decide +kernel
theorem dL_expectedLayers_0 : decode cL_expectedLayers 0 = .ok (.aload_n 2, 1) := by decide +kernel
theorem dL_expectedLayers_1 : decode cL_expectedLayers 1 = .ok (.iconst 0, 1) := by decide +kernel
theorem dL_expectedLayers_2 : decode cL_expectedLayers 2 = .ok (.aload_n 0, 1) := by decide +kernel
theorem dL_expectedLayers_3 : decode cL_expectedLayers 3 = .ok (.iload_n 1, 1) := by decide +kernel
theorem dL_expectedLayers_4 : decode cL_expectedLayers 4 = .ok (.invokevirtual 65, 3) := by decide +kernel
theorem dL_expectedLayers_7 : decode cL_expectedLayers 7 = .ok (.i2l, 1) := by decide +kernel
theorem dL_expectedLayers_8 : decode cL_expectedLayers 8 = .ok (.lastore, 1) := by decide +kernel
theorem dL_expectedLayers_9 : decode cL_expectedLayers 9 = .ok (.goto 6, 3) := by decide +kernel
theorem dL_expectedLayers_12 : decode cL_expectedLayers 12 = .ok (.astore_n 3, 1) := by decide +kernel
theorem dL_expectedLayers_13 : decode cL_expectedLayers 13 = .ok (.iconst 1, 1) := by decide +kernel
theorem dL_expectedLayers_14 : decode cL_expectedLayers 14 = .ok (.ireturn, 1) := by decide +kernel
theorem dL_expectedLayers_15 : decode cL_expectedLayers 15 = .ok (.iconst 0, 1) := by decide +kernel
theorem dL_expectedLayers_16 : decode cL_expectedLayers 16 = .ok (.ireturn, 1) := by decide +kernel
theorem dL_fold_0 : decode cL_fold 0 = .ok (.aload_n 3, 1) := by decide +kernel
theorem dL_fold_1 : decode cL_fold 1 = .ok (.iconst 0, 1) := by decide +kernel
theorem dL_fold_2 : decode cL_fold 2 = .ok (.aload_n 0, 1) := by decide +kernel
theorem dL_fold_3 : decode cL_fold 3 = .ok (.iload_n 1, 1) := by decide +kernel
theorem dL_fold_4 : decode cL_fold 4 = .ok (.iload_n 2, 1) := by decide +kernel
theorem dL_fold_5 : decode cL_fold 5 = .ok (.invokevirtual 100, 3) := by decide +kernel
theorem dL_fold_8 : decode cL_fold 8 = .ok (.i2l, 1) := by decide +kernel
theorem dL_fold_9 : decode cL_fold 9 = .ok (.lastore, 1) := by decide +kernel
theorem dL_fold_10 : decode cL_fold 10 = .ok (.goto 15, 3) := by decide +kernel
theorem dL_fold_13 : decode cL_fold 13 = .ok (.astore 4, 2) := by decide +kernel
theorem dL_fold_15 : decode cL_fold 15 = .ok (.iconst 1, 1) := by decide +kernel
theorem dL_fold_16 : decode cL_fold 16 = .ok (.ireturn, 1) := by decide +kernel
theorem dL_fold_17 : decode cL_fold 17 = .ok (.astore 4, 2) := by decide +kernel
theorem dL_fold_19 : decode cL_fold 19 = .ok (.iconst 2, 1) := by decide +kernel
theorem dL_fold_20 : decode cL_fold 20 = .ok (.ireturn, 1) := by decide +kernel
theorem dL_fold_21 : decode cL_fold 21 = .ok (.astore 4, 2) := by decide +kernel
theorem dL_fold_23 : decode cL_fold 23 = .ok (.iconst 3, 1) := by decide +kernel
theorem dL_fold_24 : decode cL_fold 24 = .ok (.ireturn, 1) := by decide +kernel
theorem dL_fold_25 : decode cL_fold 25 = .ok (.iconst 0, 1) := by decide +kernel
theorem dL_fold_26 : decode cL_fold 26 = .ok (.ireturn, 1) := by decide +kernel
theorem dL_foldCount_0 : decode cL_foldCount 0 = .ok (.aload_n 2, 1) := by decide +kernel
theorem dL_foldCount_1 : decode cL_foldCount 1 = .ok (.iconst 0, 1) := by decide +kernel
theorem dL_foldCount_2 : decode cL_foldCount 2 = .ok (.aload_n 0, 1) := by decide +kernel
theorem dL_foldCount_3 : decode cL_foldCount 3 = .ok (.iload_n 1, 1) := by decide +kernel
theorem dL_foldCount_4 : decode cL_foldCount 4 = .ok (.invokevirtual 62, 3) := by decide +kernel
theorem dL_foldCount_7 : decode cL_foldCount 7 = .ok (.i2l, 1) := by decide +kernel
theorem dL_foldCount_8 : decode cL_foldCount 8 = .ok (.lastore, 1) := by decide +kernel
theorem dL_foldCount_9 : decode cL_foldCount 9 = .ok (.goto 6, 3) := by decide +kernel
theorem dL_foldCount_12 : decode cL_foldCount 12 = .ok (.astore_n 3, 1) := by decide +kernel
theorem dL_foldCount_13 : decode cL_foldCount 13 = .ok (.iconst 1, 1) := by decide +kernel
theorem dL_foldCount_14 : decode cL_foldCount 14 = .ok (.ireturn, 1) := by decide +kernel
theorem dL_foldCount_15 : decode cL_foldCount 15 = .ok (.iconst 0, 1) := by decide +kernel
theorem dL_foldCount_16 : decode cL_foldCount 16 = .ok (.ireturn, 1) := by decide +kernel
theorem dL_foldObstacle_0 : decode cL_foldObstacle 0 = .ok (.aload_n 3, 1) := by decide +kernel
theorem dL_foldObstacle_1 : decode cL_foldObstacle 1 = .ok (.iconst 0, 1) := by decide +kernel
theorem dL_foldObstacle_2 : decode cL_foldObstacle 2 = .ok (.aload_n 0, 1) := by decide +kernel
theorem dL_foldObstacle_3 : decode cL_foldObstacle 3 = .ok (.iload_n 1, 1) := by decide +kernel
theorem dL_foldObstacle_4 : decode cL_foldObstacle 4 = .ok (.iload_n 2, 1) := by decide +kernel
theorem dL_foldObstacle_5 : decode cL_foldObstacle 5 = .ok (.invokevirtual 76, 3) := by decide +kernel
theorem dL_foldObstacle_8 : decode cL_foldObstacle 8 = .ok (.i2l, 1) := by decide +kernel
theorem dL_foldObstacle_9 : decode cL_foldObstacle 9 = .ok (.lastore, 1) := by decide +kernel
theorem dL_foldObstacle_10 : decode cL_foldObstacle 10 = .ok (.goto 11, 3) := by decide +kernel
theorem dL_foldObstacle_13 : decode cL_foldObstacle 13 = .ok (.astore 4, 2) := by decide +kernel
theorem dL_foldObstacle_15 : decode cL_foldObstacle 15 = .ok (.iconst 1, 1) := by decide +kernel
theorem dL_foldObstacle_16 : decode cL_foldObstacle 16 = .ok (.ireturn, 1) := by decide +kernel
theorem dL_foldObstacle_17 : decode cL_foldObstacle 17 = .ok (.astore 4, 2) := by decide +kernel
theorem dL_foldObstacle_19 : decode cL_foldObstacle 19 = .ok (.iconst 2, 1) := by decide +kernel
theorem dL_foldObstacle_20 : decode cL_foldObstacle 20 = .ok (.ireturn, 1) := by decide +kernel
theorem dL_foldObstacle_21 : decode cL_foldObstacle 21 = .ok (.iconst 0, 1) := by decide +kernel
theorem dL_foldObstacle_22 : decode cL_foldObstacle 22 = .ok (.ireturn, 1) := by decide +kernel
theorem dL_foldsPossible_0 : decode cL_foldsPossible 0 = .ok (.aload_n 3, 1) := by decide +kernel
theorem dL_foldsPossible_1 : decode cL_foldsPossible 1 = .ok (.iconst 0, 1) := by decide +kernel
theorem dL_foldsPossible_2 : decode cL_foldsPossible 2 = .ok (.aload_n 0, 1) := by decide +kernel
theorem dL_foldsPossible_3 : decode cL_foldsPossible 3 = .ok (.iload_n 1, 1) := by decide +kernel
theorem dL_foldsPossible_4 : decode cL_foldsPossible 4 = .ok (.iload_n 2, 1) := by decide +kernel
theorem dL_foldsPossible_5 : decode cL_foldsPossible 5 = .ok (.invokevirtual 82, 3) := by decide +kernel
theorem dL_foldsPossible_8 : decode cL_foldsPossible 8 = .ok (.i2l, 1) := by decide +kernel
theorem dL_foldsPossible_9 : decode cL_foldsPossible 9 = .ok (.lastore, 1) := by decide +kernel
theorem dL_foldsPossible_10 : decode cL_foldsPossible 10 = .ok (.goto 11, 3) := by decide +kernel
theorem dL_foldsPossible_13 : decode cL_foldsPossible 13 = .ok (.astore 4, 2) := by decide +kernel
theorem dL_foldsPossible_15 : decode cL_foldsPossible 15 = .ok (.iconst 1, 1) := by decide +kernel
theorem dL_foldsPossible_16 : decode cL_foldsPossible 16 = .ok (.ireturn, 1) := by decide +kernel
theorem dL_foldsPossible_17 : decode cL_foldsPossible 17 = .ok (.astore 4, 2) := by decide +kernel
theorem dL_foldsPossible_19 : decode cL_foldsPossible 19 = .ok (.iconst 2, 1) := by decide +kernel
theorem dL_foldsPossible_20 : decode cL_foldsPossible 20 = .ok (.ireturn, 1) := by decide +kernel
theorem dL_foldsPossible_21 : decode cL_foldsPossible 21 = .ok (.iconst 0, 1) := by decide +kernel
theorem dL_foldsPossible_22 : decode cL_foldsPossible 22 = .ok (.ireturn, 1) := by decide +kernel
theorem dL_height_0 : decode cL_height 0 = .ok (.aload_n 2, 1) := by decide +kernel
theorem dL_height_1 : decode cL_height 1 = .ok (.iconst 0, 1) := by decide +kernel
theorem dL_height_2 : decode cL_height 2 = .ok (.aload_n 0, 1) := by decide +kernel
theorem dL_height_3 : decode cL_height 3 = .ok (.iload_n 1, 1) := by decide +kernel
theorem dL_height_4 : decode cL_height 4 = .ok (.invokevirtual 31, 3) := by decide +kernel
theorem dL_height_7 : decode cL_height 7 = .ok (.i2l, 1) := by decide +kernel
theorem dL_height_8 : decode cL_height 8 = .ok (.lastore, 1) := by decide +kernel
theorem dL_height_9 : decode cL_height 9 = .ok (.goto 6, 3) := by decide +kernel
theorem dL_height_12 : decode cL_height 12 = .ok (.astore_n 3, 1) := by decide +kernel
theorem dL_height_13 : decode cL_height 13 = .ok (.iconst 1, 1) := by decide +kernel
theorem dL_height_14 : decode cL_height 14 = .ok (.ireturn, 1) := by decide +kernel
theorem dL_height_15 : decode cL_height 15 = .ok (.iconst 0, 1) := by decide +kernel
theorem dL_height_16 : decode cL_height 16 = .ok (.ireturn, 1) := by decide +kernel
theorem dL_heightAfterRoll_0 : decode cL_heightAfterRoll 0 = .ok (.aload_n 3, 1) := by decide +kernel
theorem dL_heightAfterRoll_1 : decode cL_heightAfterRoll 1 = .ok (.iconst 0, 1) := by decide +kernel
theorem dL_heightAfterRoll_2 : decode cL_heightAfterRoll 2 = .ok (.aload_n 0, 1) := by decide +kernel
theorem dL_heightAfterRoll_3 : decode cL_heightAfterRoll 3 = .ok (.iload_n 1, 1) := by decide +kernel
theorem dL_heightAfterRoll_4 : decode cL_heightAfterRoll 4 = .ok (.iload_n 2, 1) := by decide +kernel
theorem dL_heightAfterRoll_5 : decode cL_heightAfterRoll 5 = .ok (.invokevirtual 91, 3) := by decide +kernel
theorem dL_heightAfterRoll_8 : decode cL_heightAfterRoll 8 = .ok (.i2l, 1) := by decide +kernel
theorem dL_heightAfterRoll_9 : decode cL_heightAfterRoll 9 = .ok (.lastore, 1) := by decide +kernel
theorem dL_heightAfterRoll_10 : decode cL_heightAfterRoll 10 = .ok (.goto 11, 3) := by decide +kernel
theorem dL_heightAfterRoll_13 : decode cL_heightAfterRoll 13 = .ok (.astore 4, 2) := by decide +kernel
theorem dL_heightAfterRoll_15 : decode cL_heightAfterRoll 15 = .ok (.iconst 1, 1) := by decide +kernel
theorem dL_heightAfterRoll_16 : decode cL_heightAfterRoll 16 = .ok (.ireturn, 1) := by decide +kernel
theorem dL_heightAfterRoll_17 : decode cL_heightAfterRoll 17 = .ok (.astore 4, 2) := by decide +kernel
theorem dL_heightAfterRoll_19 : decode cL_heightAfterRoll 19 = .ok (.iconst 2, 1) := by decide +kernel
theorem dL_heightAfterRoll_20 : decode cL_heightAfterRoll 20 = .ok (.ireturn, 1) := by decide +kernel
theorem dL_heightAfterRoll_21 : decode cL_heightAfterRoll 21 = .ok (.iconst 0, 1) := by decide +kernel
theorem dL_heightAfterRoll_22 : decode cL_heightAfterRoll 22 = .ok (.ireturn, 1) := by decide +kernel
theorem dL_hoursToSafety_0 : decode cL_hoursToSafety 0 = .ok (.aload_n 2, 1) := by decide +kernel
theorem dL_hoursToSafety_1 : decode cL_hoursToSafety 1 = .ok (.iconst 0, 1) := by decide +kernel
theorem dL_hoursToSafety_2 : decode cL_hoursToSafety 2 = .ok (.aload_n 0, 1) := by decide +kernel
theorem dL_hoursToSafety_3 : decode cL_hoursToSafety 3 = .ok (.iload_n 1, 1) := by decide +kernel
theorem dL_hoursToSafety_4 : decode cL_hoursToSafety 4 = .ok (.invokevirtual 97, 3) := by decide +kernel
theorem dL_hoursToSafety_7 : decode cL_hoursToSafety 7 = .ok (.i2l, 1) := by decide +kernel
theorem dL_hoursToSafety_8 : decode cL_hoursToSafety 8 = .ok (.lastore, 1) := by decide +kernel
theorem dL_hoursToSafety_9 : decode cL_hoursToSafety 9 = .ok (.goto 6, 3) := by decide +kernel
theorem dL_hoursToSafety_12 : decode cL_hoursToSafety 12 = .ok (.astore_n 3, 1) := by decide +kernel
theorem dL_hoursToSafety_13 : decode cL_hoursToSafety 13 = .ok (.iconst 1, 1) := by decide +kernel
theorem dL_hoursToSafety_14 : decode cL_hoursToSafety 14 = .ok (.ireturn, 1) := by decide +kernel
theorem dL_hoursToSafety_15 : decode cL_hoursToSafety 15 = .ok (.iconst 0, 1) := by decide +kernel
theorem dL_hoursToSafety_16 : decode cL_hoursToSafety 16 = .ok (.ireturn, 1) := by decide +kernel
theorem dL_isButter_0 : decode cL_isButter 0 = .ok (.aload_n 3, 1) := by decide +kernel
theorem dL_isButter_1 : decode cL_isButter 1 = .ok (.iconst 0, 1) := by decide +kernel
theorem dL_isButter_2 : decode cL_isButter 2 = .ok (.aload_n 0, 1) := by decide +kernel
theorem dL_isButter_3 : decode cL_isButter 3 = .ok (.iload_n 1, 1) := by decide +kernel
theorem dL_isButter_4 : decode cL_isButter 4 = .ok (.iload_n 2, 1) := by decide +kernel
theorem dL_isButter_5 : decode cL_isButter 5 = .ok (.invokevirtual 23, 3) := by decide +kernel
theorem dL_isButter_8 : decode cL_isButter 8 = .ok (.ifCond .eq 7, 3) := by decide +kernel
theorem dL_isButter_11 : decode cL_isButter 11 = .ok (.lconst 1, 1) := by decide +kernel
theorem dL_isButter_12 : decode cL_isButter 12 = .ok (.goto 4, 3) := by decide +kernel
theorem dL_isButter_15 : decode cL_isButter 15 = .ok (.lconst 0, 1) := by decide +kernel
theorem dL_isButter_16 : decode cL_isButter 16 = .ok (.lastore, 1) := by decide +kernel
theorem dL_isButter_17 : decode cL_isButter 17 = .ok (.goto 7, 3) := by decide +kernel
theorem dL_isButter_20 : decode cL_isButter 20 = .ok (.astore 4, 2) := by decide +kernel
theorem dL_isButter_22 : decode cL_isButter 22 = .ok (.iconst 1, 1) := by decide +kernel
theorem dL_isButter_23 : decode cL_isButter 23 = .ok (.ireturn, 1) := by decide +kernel
theorem dL_isButter_24 : decode cL_isButter 24 = .ok (.iconst 0, 1) := by decide +kernel
theorem dL_isButter_25 : decode cL_isButter 25 = .ok (.ireturn, 1) := by decide +kernel
theorem dL_isCooling_0 : decode cL_isCooling 0 = .ok (.aload_n 2, 1) := by decide +kernel
theorem dL_isCooling_1 : decode cL_isCooling 1 = .ok (.iconst 0, 1) := by decide +kernel
theorem dL_isCooling_2 : decode cL_isCooling 2 = .ok (.aload_n 0, 1) := by decide +kernel
theorem dL_isCooling_3 : decode cL_isCooling 3 = .ok (.iload_n 1, 1) := by decide +kernel
theorem dL_isCooling_4 : decode cL_isCooling 4 = .ok (.invokevirtual 59, 3) := by decide +kernel
theorem dL_isCooling_7 : decode cL_isCooling 7 = .ok (.ifCond .eq 7, 3) := by decide +kernel
theorem dL_isCooling_10 : decode cL_isCooling 10 = .ok (.lconst 1, 1) := by decide +kernel
theorem dL_isCooling_11 : decode cL_isCooling 11 = .ok (.goto 4, 3) := by decide +kernel
theorem dL_isCooling_14 : decode cL_isCooling 14 = .ok (.lconst 0, 1) := by decide +kernel
theorem dL_isCooling_15 : decode cL_isCooling 15 = .ok (.lastore, 1) := by decide +kernel
theorem dL_isCooling_16 : decode cL_isCooling 16 = .ok (.goto 6, 3) := by decide +kernel
theorem dL_isCooling_19 : decode cL_isCooling 19 = .ok (.astore_n 3, 1) := by decide +kernel
theorem dL_isCooling_20 : decode cL_isCooling 20 = .ok (.iconst 1, 1) := by decide +kernel
theorem dL_isCooling_21 : decode cL_isCooling 21 = .ok (.ireturn, 1) := by decide +kernel
theorem dL_isCooling_22 : decode cL_isCooling 22 = .ok (.iconst 0, 1) := by decide +kernel
theorem dL_isCooling_23 : decode cL_isCooling 23 = .ok (.ireturn, 1) := by decide +kernel
theorem dL_isDusted_0 : decode cL_isDusted 0 = .ok (.aload_n 2, 1) := by decide +kernel
theorem dL_isDusted_1 : decode cL_isDusted 1 = .ok (.iconst 0, 1) := by decide +kernel
theorem dL_isDusted_2 : decode cL_isDusted 2 = .ok (.aload_n 0, 1) := by decide +kernel
theorem dL_isDusted_3 : decode cL_isDusted 3 = .ok (.iload_n 1, 1) := by decide +kernel
theorem dL_isDusted_4 : decode cL_isDusted 4 = .ok (.invokevirtual 53, 3) := by decide +kernel
theorem dL_isDusted_7 : decode cL_isDusted 7 = .ok (.ifCond .eq 7, 3) := by decide +kernel
theorem dL_isDusted_10 : decode cL_isDusted 10 = .ok (.lconst 1, 1) := by decide +kernel
theorem dL_isDusted_11 : decode cL_isDusted 11 = .ok (.goto 4, 3) := by decide +kernel
theorem dL_isDusted_14 : decode cL_isDusted 14 = .ok (.lconst 0, 1) := by decide +kernel
theorem dL_isDusted_15 : decode cL_isDusted 15 = .ok (.lastore, 1) := by decide +kernel
theorem dL_isDusted_16 : decode cL_isDusted 16 = .ok (.goto 6, 3) := by decide +kernel
theorem dL_isDusted_19 : decode cL_isDusted 19 = .ok (.astore_n 3, 1) := by decide +kernel
theorem dL_isDusted_20 : decode cL_isDusted 20 = .ok (.iconst 1, 1) := by decide +kernel
theorem dL_isDusted_21 : decode cL_isDusted 21 = .ok (.ireturn, 1) := by decide +kernel
theorem dL_isDusted_22 : decode cL_isDusted 22 = .ok (.iconst 0, 1) := by decide +kernel
theorem dL_isDusted_23 : decode cL_isDusted 23 = .ok (.ireturn, 1) := by decide +kernel
theorem dL_isSealed_0 : decode cL_isSealed 0 = .ok (.aload_n 2, 1) := by decide +kernel
theorem dL_isSealed_1 : decode cL_isSealed 1 = .ok (.iconst 0, 1) := by decide +kernel
theorem dL_isSealed_2 : decode cL_isSealed 2 = .ok (.aload_n 0, 1) := by decide +kernel
theorem dL_isSealed_3 : decode cL_isSealed 3 = .ok (.iload_n 1, 1) := by decide +kernel
theorem dL_isSealed_4 : decode cL_isSealed 4 = .ok (.invokevirtual 56, 3) := by decide +kernel
theorem dL_isSealed_7 : decode cL_isSealed 7 = .ok (.ifCond .eq 7, 3) := by decide +kernel
theorem dL_isSealed_10 : decode cL_isSealed 10 = .ok (.lconst 1, 1) := by decide +kernel
theorem dL_isSealed_11 : decode cL_isSealed 11 = .ok (.goto 4, 3) := by decide +kernel
theorem dL_isSealed_14 : decode cL_isSealed 14 = .ok (.lconst 0, 1) := by decide +kernel
theorem dL_isSealed_15 : decode cL_isSealed 15 = .ok (.lastore, 1) := by decide +kernel
theorem dL_isSealed_16 : decode cL_isSealed 16 = .ok (.goto 6, 3) := by decide +kernel
theorem dL_isSealed_19 : decode cL_isSealed 19 = .ok (.astore_n 3, 1) := by decide +kernel
theorem dL_isSealed_20 : decode cL_isSealed 20 = .ok (.iconst 1, 1) := by decide +kernel
theorem dL_isSealed_21 : decode cL_isSealed 21 = .ok (.ireturn, 1) := by decide +kernel
theorem dL_isSealed_22 : decode cL_isSealed 22 = .ok (.iconst 0, 1) := by decide +kernel
theorem dL_isSealed_23 : decode cL_isSealed 23 = .ok (.ireturn, 1) := by decide +kernel
theorem dL_isSymmetric_0 : decode cL_isSymmetric 0 = .ok (.aload_n 2, 1) := by decide +kernel
theorem dL_isSymmetric_1 : decode cL_isSymmetric 1 = .ok (.iconst 0, 1) := by decide +kernel
theorem dL_isSymmetric_2 : decode cL_isSymmetric 2 = .ok (.aload_n 0, 1) := by decide +kernel
theorem dL_isSymmetric_3 : decode cL_isSymmetric 3 = .ok (.iload_n 1, 1) := by decide +kernel
theorem dL_isSymmetric_4 : decode cL_isSymmetric 4 = .ok (.invokevirtual 46, 3) := by decide +kernel
theorem dL_isSymmetric_7 : decode cL_isSymmetric 7 = .ok (.ifCond .eq 7, 3) := by decide +kernel
theorem dL_isSymmetric_10 : decode cL_isSymmetric 10 = .ok (.lconst 1, 1) := by decide +kernel
theorem dL_isSymmetric_11 : decode cL_isSymmetric 11 = .ok (.goto 4, 3) := by decide +kernel
theorem dL_isSymmetric_14 : decode cL_isSymmetric 14 = .ok (.lconst 0, 1) := by decide +kernel
theorem dL_isSymmetric_15 : decode cL_isSymmetric 15 = .ok (.lastore, 1) := by decide +kernel
theorem dL_isSymmetric_16 : decode cL_isSymmetric 16 = .ok (.goto 6, 3) := by decide +kernel
theorem dL_isSymmetric_19 : decode cL_isSymmetric 19 = .ok (.astore_n 3, 1) := by decide +kernel
theorem dL_isSymmetric_20 : decode cL_isSymmetric 20 = .ok (.iconst 1, 1) := by decide +kernel
theorem dL_isSymmetric_21 : decode cL_isSymmetric 21 = .ok (.ireturn, 1) := by decide +kernel
theorem dL_isSymmetric_22 : decode cL_isSymmetric 22 = .ok (.iconst 0, 1) := by decide +kernel
theorem dL_isSymmetric_23 : decode cL_isSymmetric 23 = .ok (.ireturn, 1) := by decide +kernel
theorem dL_layerCount_0 : decode cL_layerCount 0 = .ok (.aload_n 2, 1) := by decide +kernel
theorem dL_layerCount_1 : decode cL_layerCount 1 = .ok (.iconst 0, 1) := by decide +kernel
theorem dL_layerCount_2 : decode cL_layerCount 2 = .ok (.aload_n 0, 1) := by decide +kernel
theorem dL_layerCount_3 : decode cL_layerCount 3 = .ok (.iload_n 1, 1) := by decide +kernel
theorem dL_layerCount_4 : decode cL_layerCount 4 = .ok (.invokevirtual 15, 3) := by decide +kernel
theorem dL_layerCount_7 : decode cL_layerCount 7 = .ok (.i2l, 1) := by decide +kernel
theorem dL_layerCount_8 : decode cL_layerCount 8 = .ok (.lastore, 1) := by decide +kernel
theorem dL_layerCount_9 : decode cL_layerCount 9 = .ok (.goto 6, 3) := by decide +kernel
theorem dL_layerCount_12 : decode cL_layerCount 12 = .ok (.astore_n 3, 1) := by decide +kernel
theorem dL_layerCount_13 : decode cL_layerCount 13 = .ok (.iconst 1, 1) := by decide +kernel
theorem dL_layerCount_14 : decode cL_layerCount 14 = .ok (.ireturn, 1) := by decide +kernel
theorem dL_layerCount_15 : decode cL_layerCount 15 = .ok (.iconst 0, 1) := by decide +kernel
theorem dL_layerCount_16 : decode cL_layerCount 16 = .ok (.ireturn, 1) := by decide +kernel
theorem dL_layersAfterFold_0 : decode cL_layersAfterFold 0 = .ok (.aload_n 3, 1) := by decide +kernel
theorem dL_layersAfterFold_1 : decode cL_layersAfterFold 1 = .ok (.iconst 0, 1) := by decide +kernel
theorem dL_layersAfterFold_2 : decode cL_layersAfterFold 2 = .ok (.aload_n 0, 1) := by decide +kernel
theorem dL_layersAfterFold_3 : decode cL_layersAfterFold 3 = .ok (.iload_n 1, 1) := by decide +kernel
theorem dL_layersAfterFold_4 : decode cL_layersAfterFold 4 = .ok (.iload_n 2, 1) := by decide +kernel
theorem dL_layersAfterFold_5 : decode cL_layersAfterFold 5 = .ok (.invokevirtual 79, 3) := by decide +kernel
theorem dL_layersAfterFold_8 : decode cL_layersAfterFold 8 = .ok (.i2l, 1) := by decide +kernel
theorem dL_layersAfterFold_9 : decode cL_layersAfterFold 9 = .ok (.lastore, 1) := by decide +kernel
theorem dL_layersAfterFold_10 : decode cL_layersAfterFold 10 = .ok (.goto 11, 3) := by decide +kernel
theorem dL_layersAfterFold_13 : decode cL_layersAfterFold 13 = .ok (.astore 4, 2) := by decide +kernel
theorem dL_layersAfterFold_15 : decode cL_layersAfterFold 15 = .ok (.iconst 1, 1) := by decide +kernel
theorem dL_layersAfterFold_16 : decode cL_layersAfterFold 16 = .ok (.ireturn, 1) := by decide +kernel
theorem dL_layersAfterFold_17 : decode cL_layersAfterFold 17 = .ok (.astore 4, 2) := by decide +kernel
theorem dL_layersAfterFold_19 : decode cL_layersAfterFold 19 = .ok (.iconst 2, 1) := by decide +kernel
theorem dL_layersAfterFold_20 : decode cL_layersAfterFold 20 = .ok (.ireturn, 1) := by decide +kernel
theorem dL_layersAfterFold_21 : decode cL_layersAfterFold 21 = .ok (.iconst 0, 1) := by decide +kernel
theorem dL_layersAfterFold_22 : decode cL_layersAfterFold 22 = .ok (.ireturn, 1) := by decide +kernel
theorem dL_layersAtRisk_0 : decode cL_layersAtRisk 0 = .ok (.aload_n 3, 1) := by decide +kernel
theorem dL_layersAtRisk_1 : decode cL_layersAtRisk 1 = .ok (.iconst 0, 1) := by decide +kernel
theorem dL_layersAtRisk_2 : decode cL_layersAtRisk 2 = .ok (.aload_n 0, 1) := by decide +kernel
theorem dL_layersAtRisk_3 : decode cL_layersAtRisk 3 = .ok (.iload_n 1, 1) := by decide +kernel
theorem dL_layersAtRisk_4 : decode cL_layersAtRisk 4 = .ok (.iload_n 2, 1) := by decide +kernel
theorem dL_layersAtRisk_5 : decode cL_layersAtRisk 5 = .ok (.invokevirtual 88, 3) := by decide +kernel
theorem dL_layersAtRisk_8 : decode cL_layersAtRisk 8 = .ok (.i2l, 1) := by decide +kernel
theorem dL_layersAtRisk_9 : decode cL_layersAtRisk 9 = .ok (.lastore, 1) := by decide +kernel
theorem dL_layersAtRisk_10 : decode cL_layersAtRisk 10 = .ok (.goto 11, 3) := by decide +kernel
theorem dL_layersAtRisk_13 : decode cL_layersAtRisk 13 = .ok (.astore 4, 2) := by decide +kernel
theorem dL_layersAtRisk_15 : decode cL_layersAtRisk 15 = .ok (.iconst 1, 1) := by decide +kernel
theorem dL_layersAtRisk_16 : decode cL_layersAtRisk 16 = .ok (.ireturn, 1) := by decide +kernel
theorem dL_layersAtRisk_17 : decode cL_layersAtRisk 17 = .ok (.astore 4, 2) := by decide +kernel
theorem dL_layersAtRisk_19 : decode cL_layersAtRisk 19 = .ok (.iconst 2, 1) := by decide +kernel
theorem dL_layersAtRisk_20 : decode cL_layersAtRisk 20 = .ok (.ireturn, 1) := by decide +kernel
theorem dL_layersAtRisk_21 : decode cL_layersAtRisk 21 = .ok (.iconst 0, 1) := by decide +kernel
theorem dL_layersAtRisk_22 : decode cL_layersAtRisk 22 = .ok (.ireturn, 1) := by decide +kernel
theorem dL_loadBench_0 : decode cL_loadBench 0 = .ok (.aload_n 2, 1) := by decide +kernel
theorem dL_loadBench_1 : decode cL_loadBench 1 = .ok (.iconst 0, 1) := by decide +kernel
theorem dL_loadBench_2 : decode cL_loadBench 2 = .ok (.aload_n 0, 1) := by decide +kernel
theorem dL_loadBench_3 : decode cL_loadBench 3 = .ok (.iload_n 1, 1) := by decide +kernel
theorem dL_loadBench_4 : decode cL_loadBench 4 = .ok (.invokevirtual 7, 3) := by decide +kernel
theorem dL_loadBench_7 : decode cL_loadBench 7 = .ok (.i2l, 1) := by decide +kernel
theorem dL_loadBench_8 : decode cL_loadBench 8 = .ok (.lastore, 1) := by decide +kernel
theorem dL_loadBench_9 : decode cL_loadBench 9 = .ok (.goto 6, 3) := by decide +kernel
theorem dL_loadBench_12 : decode cL_loadBench 12 = .ok (.astore_n 3, 1) := by decide +kernel
theorem dL_loadBench_13 : decode cL_loadBench 13 = .ok (.iconst 1, 1) := by decide +kernel
theorem dL_loadBench_14 : decode cL_loadBench 14 = .ok (.ireturn, 1) := by decide +kernel
theorem dL_loadBench_15 : decode cL_loadBench 15 = .ok (.iconst 0, 1) := by decide +kernel
theorem dL_loadBench_16 : decode cL_loadBench 16 = .ok (.ireturn, 1) := by decide +kernel
theorem dL_meanThickness_0 : decode cL_meanThickness 0 = .ok (.aload_n 2, 1) := by decide +kernel
theorem dL_meanThickness_1 : decode cL_meanThickness 1 = .ok (.iconst 0, 1) := by decide +kernel
theorem dL_meanThickness_2 : decode cL_meanThickness 2 = .ok (.aload_n 0, 1) := by decide +kernel
theorem dL_meanThickness_3 : decode cL_meanThickness 3 = .ok (.iload_n 1, 1) := by decide +kernel
theorem dL_meanThickness_4 : decode cL_meanThickness 4 = .ok (.invokevirtual 72, 3) := by decide +kernel
theorem dL_meanThickness_7 : decode cL_meanThickness 7 = .ok (.dastore, 1) := by decide +kernel
theorem dL_meanThickness_8 : decode cL_meanThickness 8 = .ok (.goto 6, 3) := by decide +kernel
theorem dL_meanThickness_11 : decode cL_meanThickness 11 = .ok (.astore_n 3, 1) := by decide +kernel
theorem dL_meanThickness_12 : decode cL_meanThickness 12 = .ok (.iconst 1, 1) := by decide +kernel
theorem dL_meanThickness_13 : decode cL_meanThickness 13 = .ok (.ireturn, 1) := by decide +kernel
theorem dL_meanThickness_14 : decode cL_meanThickness 14 = .ok (.iconst 0, 1) := by decide +kernel
theorem dL_meanThickness_15 : decode cL_meanThickness 15 = .ok (.ireturn, 1) := by decide +kernel
theorem dL_outputByte_0 : decode cL_outputByte 0 = .ok (.aload_n 2, 1) := by decide +kernel
theorem dL_outputByte_1 : decode cL_outputByte 1 = .ok (.iconst 0, 1) := by decide +kernel
theorem dL_outputByte_2 : decode cL_outputByte 2 = .ok (.aload_n 0, 1) := by decide +kernel
theorem dL_outputByte_3 : decode cL_outputByte 3 = .ok (.iload_n 1, 1) := by decide +kernel
theorem dL_outputByte_4 : decode cL_outputByte 4 = .ok (.invokevirtual 141, 3) := by decide +kernel
theorem dL_outputByte_7 : decode cL_outputByte 7 = .ok (.i2l, 1) := by decide +kernel
theorem dL_outputByte_8 : decode cL_outputByte 8 = .ok (.lastore, 1) := by decide +kernel
theorem dL_outputByte_9 : decode cL_outputByte 9 = .ok (.goto 6, 3) := by decide +kernel
theorem dL_outputByte_12 : decode cL_outputByte 12 = .ok (.astore_n 3, 1) := by decide +kernel
theorem dL_outputByte_13 : decode cL_outputByte 13 = .ok (.iconst 1, 1) := by decide +kernel
theorem dL_outputByte_14 : decode cL_outputByte 14 = .ok (.ireturn, 1) := by decide +kernel
theorem dL_outputByte_15 : decode cL_outputByte 15 = .ok (.iconst 0, 1) := by decide +kernel
theorem dL_outputByte_16 : decode cL_outputByte 16 = .ok (.ireturn, 1) := by decide +kernel
theorem dL_passHours_0 : decode cL_passHours 0 = .ok (.aload_n 2, 1) := by decide +kernel
theorem dL_passHours_1 : decode cL_passHours 1 = .ok (.iconst 0, 1) := by decide +kernel
theorem dL_passHours_2 : decode cL_passHours 2 = .ok (.aload_n 0, 1) := by decide +kernel
theorem dL_passHours_3 : decode cL_passHours 3 = .ok (.iload_n 1, 1) := by decide +kernel
theorem dL_passHours_4 : decode cL_passHours 4 = .ok (.invokevirtual 120, 3) := by decide +kernel
theorem dL_passHours_7 : decode cL_passHours 7 = .ok (.i2l, 1) := by decide +kernel
theorem dL_passHours_8 : decode cL_passHours 8 = .ok (.lastore, 1) := by decide +kernel
theorem dL_passHours_9 : decode cL_passHours 9 = .ok (.goto 9, 3) := by decide +kernel
theorem dL_passHours_12 : decode cL_passHours 12 = .ok (.astore_n 3, 1) := by decide +kernel
theorem dL_passHours_13 : decode cL_passHours 13 = .ok (.iconst 1, 1) := by decide +kernel
theorem dL_passHours_14 : decode cL_passHours 14 = .ok (.ireturn, 1) := by decide +kernel
theorem dL_passHours_15 : decode cL_passHours 15 = .ok (.astore_n 3, 1) := by decide +kernel
theorem dL_passHours_16 : decode cL_passHours 16 = .ok (.iconst 2, 1) := by decide +kernel
theorem dL_passHours_17 : decode cL_passHours 17 = .ok (.ireturn, 1) := by decide +kernel
theorem dL_passHours_18 : decode cL_passHours 18 = .ok (.iconst 0, 1) := by decide +kernel
theorem dL_passHours_19 : decode cL_passHours 19 = .ok (.ireturn, 1) := by decide +kernel
theorem dL_restoreSnapshot_0 : decode cL_restoreSnapshot 0 = .ok (.aload_n 1, 1) := by decide +kernel
theorem dL_restoreSnapshot_1 : decode cL_restoreSnapshot 1 = .ok (.iconst 0, 1) := by decide +kernel
theorem dL_restoreSnapshot_2 : decode cL_restoreSnapshot 2 = .ok (.aload_n 0, 1) := by decide +kernel
theorem dL_restoreSnapshot_3 : decode cL_restoreSnapshot 3 = .ok (.invokevirtual 148, 3) := by decide +kernel
theorem dL_restoreSnapshot_6 : decode cL_restoreSnapshot 6 = .ok (.i2l, 1) := by decide +kernel
theorem dL_restoreSnapshot_7 : decode cL_restoreSnapshot 7 = .ok (.lastore, 1) := by decide +kernel
theorem dL_restoreSnapshot_8 : decode cL_restoreSnapshot 8 = .ok (.goto 6, 3) := by decide +kernel
theorem dL_restoreSnapshot_11 : decode cL_restoreSnapshot 11 = .ok (.astore_n 2, 1) := by decide +kernel
theorem dL_restoreSnapshot_12 : decode cL_restoreSnapshot 12 = .ok (.iconst 1, 1) := by decide +kernel
theorem dL_restoreSnapshot_13 : decode cL_restoreSnapshot 13 = .ok (.ireturn, 1) := by decide +kernel
theorem dL_restoreSnapshot_14 : decode cL_restoreSnapshot 14 = .ok (.iconst 0, 1) := by decide +kernel
theorem dL_restoreSnapshot_15 : decode cL_restoreSnapshot 15 = .ok (.ireturn, 1) := by decide +kernel
theorem dL_roll_0 : decode cL_roll 0 = .ok (.aload_n 3, 1) := by decide +kernel
theorem dL_roll_1 : decode cL_roll 1 = .ok (.iconst 0, 1) := by decide +kernel
theorem dL_roll_2 : decode cL_roll 2 = .ok (.aload_n 0, 1) := by decide +kernel
theorem dL_roll_3 : decode cL_roll 3 = .ok (.iload_n 1, 1) := by decide +kernel
theorem dL_roll_4 : decode cL_roll 4 = .ok (.iload_n 2, 1) := by decide +kernel
theorem dL_roll_5 : decode cL_roll 5 = .ok (.invokevirtual 105, 3) := by decide +kernel
theorem dL_roll_8 : decode cL_roll 8 = .ok (.i2l, 1) := by decide +kernel
theorem dL_roll_9 : decode cL_roll 9 = .ok (.lastore, 1) := by decide +kernel
theorem dL_roll_10 : decode cL_roll 10 = .ok (.goto 15, 3) := by decide +kernel
theorem dL_roll_13 : decode cL_roll 13 = .ok (.astore 4, 2) := by decide +kernel
theorem dL_roll_15 : decode cL_roll 15 = .ok (.iconst 1, 1) := by decide +kernel
theorem dL_roll_16 : decode cL_roll 16 = .ok (.ireturn, 1) := by decide +kernel
theorem dL_roll_17 : decode cL_roll 17 = .ok (.astore 4, 2) := by decide +kernel
theorem dL_roll_19 : decode cL_roll 19 = .ok (.iconst 2, 1) := by decide +kernel
theorem dL_roll_20 : decode cL_roll 20 = .ok (.ireturn, 1) := by decide +kernel
theorem dL_roll_21 : decode cL_roll 21 = .ok (.astore 4, 2) := by decide +kernel
theorem dL_roll_23 : decode cL_roll 23 = .ok (.iconst 3, 1) := by decide +kernel
theorem dL_roll_24 : decode cL_roll 24 = .ok (.ireturn, 1) := by decide +kernel
theorem dL_roll_25 : decode cL_roll 25 = .ok (.iconst 0, 1) := by decide +kernel
theorem dL_roll_26 : decode cL_roll 26 = .ok (.ireturn, 1) := by decide +kernel
theorem dL_runScript_0 : decode cL_runScript 0 = .ok (.aload_n 2, 1) := by decide +kernel
theorem dL_runScript_1 : decode cL_runScript 1 = .ok (.iconst 0, 1) := by decide +kernel
theorem dL_runScript_2 : decode cL_runScript 2 = .ok (.aload_n 0, 1) := by decide +kernel
theorem dL_runScript_3 : decode cL_runScript 3 = .ok (.iload_n 1, 1) := by decide +kernel
theorem dL_runScript_4 : decode cL_runScript 4 = .ok (.invokevirtual 135, 3) := by decide +kernel
theorem dL_runScript_7 : decode cL_runScript 7 = .ok (.i2l, 1) := by decide +kernel
theorem dL_runScript_8 : decode cL_runScript 8 = .ok (.lastore, 1) := by decide +kernel
theorem dL_runScript_9 : decode cL_runScript 9 = .ok (.goto 6, 3) := by decide +kernel
theorem dL_runScript_12 : decode cL_runScript 12 = .ok (.astore_n 3, 1) := by decide +kernel
theorem dL_runScript_13 : decode cL_runScript 13 = .ok (.iconst 1, 1) := by decide +kernel
theorem dL_runScript_14 : decode cL_runScript 14 = .ok (.ireturn, 1) := by decide +kernel
theorem dL_runScript_15 : decode cL_runScript 15 = .ok (.iconst 0, 1) := by decide +kernel
theorem dL_runScript_16 : decode cL_runScript 16 = .ok (.ireturn, 1) := by decide +kernel
theorem dL_seal_0 : decode cL_seal 0 = .ok (.aload_n 2, 1) := by decide +kernel
theorem dL_seal_1 : decode cL_seal 1 = .ok (.iconst 0, 1) := by decide +kernel
theorem dL_seal_2 : decode cL_seal 2 = .ok (.aload_n 0, 1) := by decide +kernel
theorem dL_seal_3 : decode cL_seal 3 = .ok (.iload_n 1, 1) := by decide +kernel
theorem dL_seal_4 : decode cL_seal 4 = .ok (.invokevirtual 111, 3) := by decide +kernel
theorem dL_seal_7 : decode cL_seal 7 = .ok (.i2l, 1) := by decide +kernel
theorem dL_seal_8 : decode cL_seal 8 = .ok (.lastore, 1) := by decide +kernel
theorem dL_seal_9 : decode cL_seal 9 = .ok (.goto 9, 3) := by decide +kernel
theorem dL_seal_12 : decode cL_seal 12 = .ok (.astore_n 3, 1) := by decide +kernel
theorem dL_seal_13 : decode cL_seal 13 = .ok (.iconst 1, 1) := by decide +kernel
theorem dL_seal_14 : decode cL_seal 14 = .ok (.ireturn, 1) := by decide +kernel
theorem dL_seal_15 : decode cL_seal 15 = .ok (.astore_n 3, 1) := by decide +kernel
theorem dL_seal_16 : decode cL_seal 16 = .ok (.iconst 2, 1) := by decide +kernel
theorem dL_seal_17 : decode cL_seal 17 = .ok (.ireturn, 1) := by decide +kernel
theorem dL_seal_18 : decode cL_seal 18 = .ok (.iconst 0, 1) := by decide +kernel
theorem dL_seal_19 : decode cL_seal 19 = .ok (.ireturn, 1) := by decide +kernel
theorem dL_seamCount_0 : decode cL_seamCount 0 = .ok (.aload_n 2, 1) := by decide +kernel
theorem dL_seamCount_1 : decode cL_seamCount 1 = .ok (.iconst 0, 1) := by decide +kernel
theorem dL_seamCount_2 : decode cL_seamCount 2 = .ok (.aload_n 0, 1) := by decide +kernel
theorem dL_seamCount_3 : decode cL_seamCount 3 = .ok (.iload_n 1, 1) := by decide +kernel
theorem dL_seamCount_4 : decode cL_seamCount 4 = .ok (.invokevirtual 43, 3) := by decide +kernel
theorem dL_seamCount_7 : decode cL_seamCount 7 = .ok (.i2l, 1) := by decide +kernel
theorem dL_seamCount_8 : decode cL_seamCount 8 = .ok (.lastore, 1) := by decide +kernel
theorem dL_seamCount_9 : decode cL_seamCount 9 = .ok (.goto 6, 3) := by decide +kernel
theorem dL_seamCount_12 : decode cL_seamCount 12 = .ok (.astore_n 3, 1) := by decide +kernel
theorem dL_seamCount_13 : decode cL_seamCount 13 = .ok (.iconst 1, 1) := by decide +kernel
theorem dL_seamCount_14 : decode cL_seamCount 14 = .ok (.ireturn, 1) := by decide +kernel
theorem dL_seamCount_15 : decode cL_seamCount 15 = .ok (.iconst 0, 1) := by decide +kernel
theorem dL_seamCount_16 : decode cL_seamCount 16 = .ok (.ireturn, 1) := by decide +kernel
theorem dL_stack_0 : decode cL_stack 0 = .ok (.aload_n 3, 1) := by decide +kernel
theorem dL_stack_1 : decode cL_stack 1 = .ok (.iconst 0, 1) := by decide +kernel
theorem dL_stack_2 : decode cL_stack 2 = .ok (.aload_n 0, 1) := by decide +kernel
theorem dL_stack_3 : decode cL_stack 3 = .ok (.iload_n 1, 1) := by decide +kernel
theorem dL_stack_4 : decode cL_stack 4 = .ok (.iload_n 2, 1) := by decide +kernel
theorem dL_stack_5 : decode cL_stack 5 = .ok (.invokevirtual 126, 3) := by decide +kernel
theorem dL_stack_8 : decode cL_stack 8 = .ok (.i2l, 1) := by decide +kernel
theorem dL_stack_9 : decode cL_stack 9 = .ok (.lastore, 1) := by decide +kernel
theorem dL_stack_10 : decode cL_stack 10 = .ok (.goto 15, 3) := by decide +kernel
theorem dL_stack_13 : decode cL_stack 13 = .ok (.astore 4, 2) := by decide +kernel
theorem dL_stack_15 : decode cL_stack 15 = .ok (.iconst 1, 1) := by decide +kernel
theorem dL_stack_16 : decode cL_stack 16 = .ok (.ireturn, 1) := by decide +kernel
theorem dL_stack_17 : decode cL_stack 17 = .ok (.astore 4, 2) := by decide +kernel
theorem dL_stack_19 : decode cL_stack 19 = .ok (.iconst 2, 1) := by decide +kernel
theorem dL_stack_20 : decode cL_stack 20 = .ok (.ireturn, 1) := by decide +kernel
theorem dL_stack_21 : decode cL_stack 21 = .ok (.astore 4, 2) := by decide +kernel
theorem dL_stack_23 : decode cL_stack 23 = .ok (.iconst 3, 1) := by decide +kernel
theorem dL_stack_24 : decode cL_stack 24 = .ok (.ireturn, 1) := by decide +kernel
theorem dL_stack_25 : decode cL_stack 25 = .ok (.iconst 0, 1) := by decide +kernel
theorem dL_stack_26 : decode cL_stack 26 = .ok (.ireturn, 1) := by decide +kernel
theorem dL_takeOut_0 : decode cL_takeOut 0 = .ok (.aload_n 2, 1) := by decide +kernel
theorem dL_takeOut_1 : decode cL_takeOut 1 = .ok (.iconst 0, 1) := by decide +kernel
theorem dL_takeOut_2 : decode cL_takeOut 2 = .ok (.aload_n 0, 1) := by decide +kernel
theorem dL_takeOut_3 : decode cL_takeOut 3 = .ok (.iload_n 1, 1) := by decide +kernel
theorem dL_takeOut_4 : decode cL_takeOut 4 = .ok (.invokevirtual 117, 3) := by decide +kernel
theorem dL_takeOut_7 : decode cL_takeOut 7 = .ok (.i2l, 1) := by decide +kernel
theorem dL_takeOut_8 : decode cL_takeOut 8 = .ok (.lastore, 1) := by decide +kernel
theorem dL_takeOut_9 : decode cL_takeOut 9 = .ok (.goto 9, 3) := by decide +kernel
theorem dL_takeOut_12 : decode cL_takeOut 12 = .ok (.astore_n 3, 1) := by decide +kernel
theorem dL_takeOut_13 : decode cL_takeOut 13 = .ok (.iconst 1, 1) := by decide +kernel
theorem dL_takeOut_14 : decode cL_takeOut 14 = .ok (.ireturn, 1) := by decide +kernel
theorem dL_takeOut_15 : decode cL_takeOut 15 = .ok (.astore_n 3, 1) := by decide +kernel
theorem dL_takeOut_16 : decode cL_takeOut 16 = .ok (.iconst 2, 1) := by decide +kernel
theorem dL_takeOut_17 : decode cL_takeOut 17 = .ok (.ireturn, 1) := by decide +kernel
theorem dL_takeOut_18 : decode cL_takeOut 18 = .ok (.iconst 0, 1) := by decide +kernel
theorem dL_takeOut_19 : decode cL_takeOut 19 = .ok (.ireturn, 1) := by decide +kernel
theorem dL_temperature_0 : decode cL_temperature 0 = .ok (.aload_n 2, 1) := by decide +kernel
theorem dL_temperature_1 : decode cL_temperature 1 = .ok (.iconst 0, 1) := by decide +kernel
theorem dL_temperature_2 : decode cL_temperature 2 = .ok (.aload_n 0, 1) := by decide +kernel
theorem dL_temperature_3 : decode cL_temperature 3 = .ok (.iload_n 1, 1) := by decide +kernel
theorem dL_temperature_4 : decode cL_temperature 4 = .ok (.invokevirtual 50, 3) := by decide +kernel
theorem dL_temperature_7 : decode cL_temperature 7 = .ok (.i2l, 1) := by decide +kernel
theorem dL_temperature_8 : decode cL_temperature 8 = .ok (.lastore, 1) := by decide +kernel
theorem dL_temperature_9 : decode cL_temperature 9 = .ok (.goto 6, 3) := by decide +kernel
theorem dL_temperature_12 : decode cL_temperature 12 = .ok (.astore_n 3, 1) := by decide +kernel
theorem dL_temperature_13 : decode cL_temperature 13 = .ok (.iconst 1, 1) := by decide +kernel
theorem dL_temperature_14 : decode cL_temperature 14 = .ok (.ireturn, 1) := by decide +kernel
theorem dL_temperature_15 : decode cL_temperature 15 = .ok (.iconst 0, 1) := by decide +kernel
theorem dL_temperature_16 : decode cL_temperature 16 = .ok (.ireturn, 1) := by decide +kernel
theorem dL_temperatureAfter_0 : decode cL_temperatureAfter 0 = .ok (.aload_n 3, 1) := by decide +kernel
theorem dL_temperatureAfter_1 : decode cL_temperatureAfter 1 = .ok (.iconst 0, 1) := by decide +kernel
theorem dL_temperatureAfter_2 : decode cL_temperatureAfter 2 = .ok (.aload_n 0, 1) := by decide +kernel
theorem dL_temperatureAfter_3 : decode cL_temperatureAfter 3 = .ok (.iload_n 1, 1) := by decide +kernel
theorem dL_temperatureAfter_4 : decode cL_temperatureAfter 4 = .ok (.iload_n 2, 1) := by decide +kernel
theorem dL_temperatureAfter_5 : decode cL_temperatureAfter 5 = .ok (.invokevirtual 94, 3) := by decide +kernel
theorem dL_temperatureAfter_8 : decode cL_temperatureAfter 8 = .ok (.i2l, 1) := by decide +kernel
theorem dL_temperatureAfter_9 : decode cL_temperatureAfter 9 = .ok (.lastore, 1) := by decide +kernel
theorem dL_temperatureAfter_10 : decode cL_temperatureAfter 10 = .ok (.goto 11, 3) := by decide +kernel
theorem dL_temperatureAfter_13 : decode cL_temperatureAfter 13 = .ok (.astore 4, 2) := by decide +kernel
theorem dL_temperatureAfter_15 : decode cL_temperatureAfter 15 = .ok (.iconst 1, 1) := by decide +kernel
theorem dL_temperatureAfter_16 : decode cL_temperatureAfter 16 = .ok (.ireturn, 1) := by decide +kernel
theorem dL_temperatureAfter_17 : decode cL_temperatureAfter 17 = .ok (.astore 4, 2) := by decide +kernel
theorem dL_temperatureAfter_19 : decode cL_temperatureAfter 19 = .ok (.iconst 2, 1) := by decide +kernel
theorem dL_temperatureAfter_20 : decode cL_temperatureAfter 20 = .ok (.ireturn, 1) := by decide +kernel
theorem dL_temperatureAfter_21 : decode cL_temperatureAfter 21 = .ok (.iconst 0, 1) := by decide +kernel
theorem dL_temperatureAfter_22 : decode cL_temperatureAfter 22 = .ok (.ireturn, 1) := by decide +kernel
theorem dL_thickestLayer_0 : decode cL_thickestLayer 0 = .ok (.aload_n 2, 1) := by decide +kernel
theorem dL_thickestLayer_1 : decode cL_thickestLayer 1 = .ok (.iconst 0, 1) := by decide +kernel
theorem dL_thickestLayer_2 : decode cL_thickestLayer 2 = .ok (.aload_n 0, 1) := by decide +kernel
theorem dL_thickestLayer_3 : decode cL_thickestLayer 3 = .ok (.iload_n 1, 1) := by decide +kernel
theorem dL_thickestLayer_4 : decode cL_thickestLayer 4 = .ok (.invokevirtual 40, 3) := by decide +kernel
theorem dL_thickestLayer_7 : decode cL_thickestLayer 7 = .ok (.i2l, 1) := by decide +kernel
theorem dL_thickestLayer_8 : decode cL_thickestLayer 8 = .ok (.lastore, 1) := by decide +kernel
theorem dL_thickestLayer_9 : decode cL_thickestLayer 9 = .ok (.goto 6, 3) := by decide +kernel
theorem dL_thickestLayer_12 : decode cL_thickestLayer 12 = .ok (.astore_n 3, 1) := by decide +kernel
theorem dL_thickestLayer_13 : decode cL_thickestLayer 13 = .ok (.iconst 1, 1) := by decide +kernel
theorem dL_thickestLayer_14 : decode cL_thickestLayer 14 = .ok (.ireturn, 1) := by decide +kernel
theorem dL_thickestLayer_15 : decode cL_thickestLayer 15 = .ok (.iconst 0, 1) := by decide +kernel
theorem dL_thickestLayer_16 : decode cL_thickestLayer 16 = .ok (.ireturn, 1) := by decide +kernel
theorem dL_thickness_0 : decode cL_thickness 0 = .ok (.aload_n 3, 1) := by decide +kernel
theorem dL_thickness_1 : decode cL_thickness 1 = .ok (.iconst 0, 1) := by decide +kernel
theorem dL_thickness_2 : decode cL_thickness 2 = .ok (.aload_n 0, 1) := by decide +kernel
theorem dL_thickness_3 : decode cL_thickness 3 = .ok (.iload_n 1, 1) := by decide +kernel
theorem dL_thickness_4 : decode cL_thickness 4 = .ok (.iload_n 2, 1) := by decide +kernel
theorem dL_thickness_5 : decode cL_thickness 5 = .ok (.invokevirtual 27, 3) := by decide +kernel
theorem dL_thickness_8 : decode cL_thickness 8 = .ok (.i2l, 1) := by decide +kernel
theorem dL_thickness_9 : decode cL_thickness 9 = .ok (.lastore, 1) := by decide +kernel
theorem dL_thickness_10 : decode cL_thickness 10 = .ok (.goto 7, 3) := by decide +kernel
theorem dL_thickness_13 : decode cL_thickness 13 = .ok (.astore 4, 2) := by decide +kernel
theorem dL_thickness_15 : decode cL_thickness 15 = .ok (.iconst 1, 1) := by decide +kernel
theorem dL_thickness_16 : decode cL_thickness 16 = .ok (.ireturn, 1) := by decide +kernel
theorem dL_thickness_17 : decode cL_thickness 17 = .ok (.iconst 0, 1) := by decide +kernel
theorem dL_thickness_18 : decode cL_thickness 18 = .ok (.ireturn, 1) := by decide +kernel
theorem dL_thinnestLayer_0 : decode cL_thinnestLayer 0 = .ok (.aload_n 2, 1) := by decide +kernel
theorem dL_thinnestLayer_1 : decode cL_thinnestLayer 1 = .ok (.iconst 0, 1) := by decide +kernel
theorem dL_thinnestLayer_2 : decode cL_thinnestLayer 2 = .ok (.aload_n 0, 1) := by decide +kernel
theorem dL_thinnestLayer_3 : decode cL_thinnestLayer 3 = .ok (.iload_n 1, 1) := by decide +kernel
theorem dL_thinnestLayer_4 : decode cL_thinnestLayer 4 = .ok (.invokevirtual 37, 3) := by decide +kernel
theorem dL_thinnestLayer_7 : decode cL_thinnestLayer 7 = .ok (.i2l, 1) := by decide +kernel
theorem dL_thinnestLayer_8 : decode cL_thinnestLayer 8 = .ok (.lastore, 1) := by decide +kernel
theorem dL_thinnestLayer_9 : decode cL_thinnestLayer 9 = .ok (.goto 6, 3) := by decide +kernel
theorem dL_thinnestLayer_12 : decode cL_thinnestLayer 12 = .ok (.astore_n 3, 1) := by decide +kernel
theorem dL_thinnestLayer_13 : decode cL_thinnestLayer 13 = .ok (.iconst 1, 1) := by decide +kernel
theorem dL_thinnestLayer_14 : decode cL_thinnestLayer 14 = .ok (.ireturn, 1) := by decide +kernel
theorem dL_thinnestLayer_15 : decode cL_thinnestLayer 15 = .ok (.iconst 0, 1) := by decide +kernel
theorem dL_thinnestLayer_16 : decode cL_thinnestLayer 16 = .ok (.ireturn, 1) := by decide +kernel
theorem dL_undo_0 : decode cL_undo 0 = .ok (.aload_n 1, 1) := by decide +kernel
theorem dL_undo_1 : decode cL_undo 1 = .ok (.iconst 0, 1) := by decide +kernel
theorem dL_undo_2 : decode cL_undo 2 = .ok (.aload_n 0, 1) := by decide +kernel
theorem dL_undo_3 : decode cL_undo 3 = .ok (.invokevirtual 144, 3) := by decide +kernel
theorem dL_undo_6 : decode cL_undo 6 = .ok (.i2l, 1) := by decide +kernel
theorem dL_undo_7 : decode cL_undo 7 = .ok (.lastore, 1) := by decide +kernel
theorem dL_undo_8 : decode cL_undo 8 = .ok (.goto 6, 3) := by decide +kernel
theorem dL_undo_11 : decode cL_undo 11 = .ok (.astore_n 2, 1) := by decide +kernel
theorem dL_undo_12 : decode cL_undo 12 = .ok (.iconst 1, 1) := by decide +kernel
theorem dL_undo_13 : decode cL_undo 13 = .ok (.ireturn, 1) := by decide +kernel
theorem dL_undo_14 : decode cL_undo 14 = .ok (.iconst 0, 1) := by decide +kernel
theorem dL_undo_15 : decode cL_undo 15 = .ok (.ireturn, 1) := by decide +kernel
theorem dL_writeSheet_0 : decode cL_writeSheet 0 = .ok (.aload_n 2, 1) := by decide +kernel
theorem dL_writeSheet_1 : decode cL_writeSheet 1 = .ok (.iconst 0, 1) := by decide +kernel
theorem dL_writeSheet_2 : decode cL_writeSheet 2 = .ok (.aload_n 0, 1) := by decide +kernel
theorem dL_writeSheet_3 : decode cL_writeSheet 3 = .ok (.iload_n 1, 1) := by decide +kernel
theorem dL_writeSheet_4 : decode cL_writeSheet 4 = .ok (.invokevirtual 138, 3) := by decide +kernel
theorem dL_writeSheet_7 : decode cL_writeSheet 7 = .ok (.i2l, 1) := by decide +kernel
theorem dL_writeSheet_8 : decode cL_writeSheet 8 = .ok (.lastore, 1) := by decide +kernel
theorem dL_writeSheet_9 : decode cL_writeSheet 9 = .ok (.goto 6, 3) := by decide +kernel
theorem dL_writeSheet_12 : decode cL_writeSheet 12 = .ok (.astore_n 3, 1) := by decide +kernel
theorem dL_writeSheet_13 : decode cL_writeSheet 13 = .ok (.iconst 1, 1) := by decide +kernel
theorem dL_writeSheet_14 : decode cL_writeSheet 14 = .ok (.ireturn, 1) := by decide +kernel
theorem dL_writeSheet_15 : decode cL_writeSheet 15 = .ok (.iconst 0, 1) := by decide +kernel
theorem dL_writeSheet_16 : decode cL_writeSheet 16 = .ok (.ireturn, 1) := by decide +kernel
