theorem dX4_init_0 : decode cX4_init 0 = .ok (.aload_n 0, 1) := by decide +kernel
theorem dX4_init_1 : decode cX4_init 1 = .ok (.invokespecial 3, 3) := by decide +kernel
theorem dX4_init_4 : decode cX4_init 4 = .ok (.aload_n 0, 1) := by decide +kernel
theorem dX4_init_5 : decode cX4_init 5 = .ok (.sipush 1200, 3) := by decide +kernel
theorem dX4_init_8 : decode cX4_init 8 = .ok (.newarray .int, 2) := by decide +kernel
theorem dX4_init_10 : decode cX4_init 10 = .ok (.putfield 9, 3) := by decide +kernel
theorem dX4_init_13 : decode cX4_init 13 = .ok (.return_, 1) := by decide +kernel
theorem dX4_put_0 : decode cX4_put 0 = .ok (.aload_n 0, 1) := by decide +kernel
theorem dX4_put_1 : decode cX4_put 1 = .ok (.getfield 15, 3) := by decide +kernel
theorem dX4_put_4 : decode cX4_put 4 = .ok (.aload_n 0, 1) := by decide +kernel
theorem dX4_put_5 : decode cX4_put 5 = .ok (.getfield 9, 3) := by decide +kernel
theorem dX4_put_8 : decode cX4_put 8 = .ok (.arraylength, 1) := by decide +kernel
theorem dX4_put_9 : decode cX4_put 9 = .ok (.if_icmp .ge 23, 3) := by decide +kernel
theorem dX4_put_12 : decode cX4_put 12 = .ok (.aload_n 0, 1) := by decide +kernel
theorem dX4_put_13 : decode cX4_put 13 = .ok (.getfield 9, 3) := by decide +kernel
theorem dX4_put_16 : decode cX4_put 16 = .ok (.aload_n 0, 1) := by decide +kernel
theorem dX4_put_17 : decode cX4_put 17 = .ok (.getfield 15, 3) := by decide +kernel
theorem dX4_put_20 : decode cX4_put 20 = .ok (.iload_n 1, 1) := by decide +kernel
theorem dX4_put_21 : decode cX4_put 21 = .ok (.iastore, 1) := by decide +kernel
theorem dX4_put_22 : decode cX4_put 22 = .ok (.aload_n 0, 1) := by decide +kernel
theorem dX4_put_23 : decode cX4_put 23 = .ok (.dup, 1) := by decide +kernel
theorem dX4_put_24 : decode cX4_put 24 = .ok (.getfield 15, 3) := by decide +kernel
theorem dX4_put_27 : decode cX4_put 27 = .ok (.iconst 1, 1) := by decide +kernel
theorem dX4_put_28 : decode cX4_put 28 = .ok (.iadd, 1) := by decide +kernel
theorem dX4_put_29 : decode cX4_put 29 = .ok (.putfield 15, 3) := by decide +kernel
theorem dX4_put_32 : decode cX4_put 32 = .ok (.return_, 1) := by decide +kernel
theorem dX4_putNumber_0 : decode cX4_putNumber 0 = .ok (.sipush 1000, 3) := by decide +kernel
theorem dX4_putNumber_3 : decode cX4_putNumber 3 = .ok (.istore_n 2, 1) := by decide +kernel
theorem dX4_putNumber_4 : decode cX4_putNumber 4 = .ok (.iload_n 2, 1) := by decide +kernel
theorem dX4_putNumber_5 : decode cX4_putNumber 5 = .ok (.ifCond .le 29, 3) := by decide +kernel
theorem dX4_putNumber_8 : decode cX4_putNumber 8 = .ok (.iload_n 1, 1) := by decide +kernel
theorem dX4_putNumber_9 : decode cX4_putNumber 9 = .ok (.iload_n 2, 1) := by decide +kernel
theorem dX4_putNumber_10 : decode cX4_putNumber 10 = .ok (.if_icmp .lt 16, 3) := by decide +kernel
theorem dX4_putNumber_13 : decode cX4_putNumber 13 = .ok (.aload_n 0, 1) := by decide +kernel
theorem dX4_putNumber_14 : decode cX4_putNumber 14 = .ok (.bipush 48, 2) := by decide +kernel
theorem dX4_putNumber_16 : decode cX4_putNumber 16 = .ok (.iload_n 1, 1) := by decide +kernel
theorem dX4_putNumber_17 : decode cX4_putNumber 17 = .ok (.iload_n 2, 1) := by decide +kernel
theorem dX4_putNumber_18 : decode cX4_putNumber 18 = .ok (.idiv, 1) := by decide +kernel
theorem dX4_putNumber_19 : decode cX4_putNumber 19 = .ok (.bipush 10, 2) := by decide +kernel
theorem dX4_putNumber_21 : decode cX4_putNumber 21 = .ok (.irem, 1) := by decide +kernel
theorem dX4_putNumber_22 : decode cX4_putNumber 22 = .ok (.iadd, 1) := by decide +kernel
theorem dX4_putNumber_23 : decode cX4_putNumber 23 = .ok (.invokevirtual 19, 3) := by decide +kernel
theorem dX4_putNumber_26 : decode cX4_putNumber 26 = .ok (.iload_n 2, 1) := by decide +kernel
theorem dX4_putNumber_27 : decode cX4_putNumber 27 = .ok (.bipush 10, 2) := by decide +kernel
theorem dX4_putNumber_29 : decode cX4_putNumber 29 = .ok (.idiv, 1) := by decide +kernel
theorem dX4_putNumber_30 : decode cX4_putNumber 30 = .ok (.istore_n 2, 1) := by decide +kernel
theorem dX4_putNumber_31 : decode cX4_putNumber 31 = .ok (.goto (-27), 3) := by decide +kernel
theorem dX4_putNumber_34 : decode cX4_putNumber 34 = .ok (.return_, 1) := by decide +kernel
theorem dX4_replaceBy_0 : decode cX4_replaceBy 0 = .ok (.aload_n 0, 1) := by decide +kernel
theorem dX4_replaceBy_1 : decode cX4_replaceBy 1 = .ok (.iconst 0, 1) := by decide +kernel
theorem dX4_replaceBy_2 : decode cX4_replaceBy 2 = .ok (.putfield 15, 3) := by decide +kernel
theorem dX4_replaceBy_5 : decode cX4_replaceBy 5 = .ok (.aload_n 1, 1) := by decide +kernel
theorem dX4_replaceBy_6 : decode cX4_replaceBy 6 = .ok (.getfield 23, 3) := by decide +kernel
theorem dX4_replaceBy_9 : decode cX4_replaceBy 9 = .ok (.iconst 1, 1) := by decide +kernel
theorem dX4_replaceBy_10 : decode cX4_replaceBy 10 = .ok (.isub, 1) := by decide +kernel
theorem dX4_replaceBy_11 : decode cX4_replaceBy 11 = .ok (.istore_n 2, 1) := by decide +kernel
theorem dX4_replaceBy_12 : decode cX4_replaceBy 12 = .ok (.iload_n 2, 1) := by decide +kernel
theorem dX4_replaceBy_13 : decode cX4_replaceBy 13 = .ok (.ifCond .lt 49, 3) := by decide +kernel
theorem dX4_replaceBy_16 : decode cX4_replaceBy 16 = .ok (.aload_n 0, 1) := by decide +kernel
theorem dX4_replaceBy_17 : decode cX4_replaceBy 17 = .ok (.aload_n 1, 1) := by decide +kernel
theorem dX4_replaceBy_18 : decode cX4_replaceBy 18 = .ok (.getfield 28, 3) := by decide +kernel
theorem dX4_replaceBy_21 : decode cX4_replaceBy 21 = .ok (.iload_n 2, 1) := by decide +kernel
theorem dX4_replaceBy_22 : decode cX4_replaceBy 22 = .ok (.baload, 1) := by decide +kernel
theorem dX4_replaceBy_23 : decode cX4_replaceBy 23 = .ok (.ifCond .eq 8, 3) := by decide +kernel
theorem dX4_replaceBy_26 : decode cX4_replaceBy 26 = .ok (.bipush 66, 2) := by decide +kernel
theorem dX4_replaceBy_28 : decode cX4_replaceBy 28 = .ok (.goto 5, 3) := by decide +kernel
theorem dX4_replaceBy_31 : decode cX4_replaceBy 31 = .ok (.bipush 68, 2) := by decide +kernel
theorem dX4_replaceBy_33 : decode cX4_replaceBy 33 = .ok (.invokevirtual 19, 3) := by decide +kernel
theorem dX4_replaceBy_36 : decode cX4_replaceBy 36 = .ok (.aload_n 0, 1) := by decide +kernel
theorem dX4_replaceBy_37 : decode cX4_replaceBy 37 = .ok (.aload_n 1, 1) := by decide +kernel
theorem dX4_replaceBy_38 : decode cX4_replaceBy 38 = .ok (.getfield 32, 3) := by decide +kernel
theorem dX4_replaceBy_41 : decode cX4_replaceBy 41 = .ok (.iload_n 2, 1) := by decide +kernel
theorem dX4_replaceBy_42 : decode cX4_replaceBy 42 = .ok (.iaload, 1) := by decide +kernel
theorem dX4_replaceBy_43 : decode cX4_replaceBy 43 = .ok (.invokevirtual 35, 3) := by decide +kernel
theorem dX4_replaceBy_46 : decode cX4_replaceBy 46 = .ok (.iload_n 2, 1) := by decide +kernel
theorem dX4_replaceBy_47 : decode cX4_replaceBy 47 = .ok (.ifCond .le 9, 3) := by decide +kernel
theorem dX4_replaceBy_50 : decode cX4_replaceBy 50 = .ok (.aload_n 0, 1) := by decide +kernel
theorem dX4_replaceBy_51 : decode cX4_replaceBy 51 = .ok (.bipush 32, 2) := by decide +kernel
theorem dX4_replaceBy_53 : decode cX4_replaceBy 53 = .ok (.invokevirtual 19, 3) := by decide +kernel
theorem dX4_replaceBy_56 : decode cX4_replaceBy 56 = .ok (.iinc 2 (-1), 3) := by decide +kernel
theorem dX4_replaceBy_59 : decode cX4_replaceBy 59 = .ok (.goto (-47), 3) := by decide +kernel
theorem dX4_replaceBy_62 : decode cX4_replaceBy 62 = .ok (.return_, 1) := by decide +kernel
