theorem dX7_add_0 : decode cX7_add 0 = .ok (.aload_n 0, 1) := by decide +kernel
theorem dX7_add_1 : decode cX7_add 1 = .ok (.getfield 24, 3) := by decide +kernel
theorem dX7_add_4 : decode cX7_add 4 = .ok (.bipush 20, 2) := by decide +kernel
theorem dX7_add_6 : decode cX7_add 6 = .ok (.if_icmp .ge 43, 3) := by decide +kernel
theorem dX7_add_9 : decode cX7_add 9 = .ok (.aload_n 0, 1) := by decide +kernel
theorem dX7_add_10 : decode cX7_add 10 = .ok (.getfield 11, 3) := by decide +kernel
theorem dX7_add_13 : decode cX7_add 13 = .ok (.aload_n 0, 1) := by decide +kernel
theorem dX7_add_14 : decode cX7_add 14 = .ok (.getfield 24, 3) := by decide +kernel
theorem dX7_add_17 : decode cX7_add 17 = .ok (.aload_n 1, 1) := by decide +kernel
theorem dX7_add_18 : decode cX7_add 18 = .ok (.aastore, 1) := by decide +kernel
theorem dX7_add_19 : decode cX7_add 19 = .ok (.aload_n 0, 1) := by decide +kernel
theorem dX7_add_20 : decode cX7_add 20 = .ok (.getfield 17, 3) := by decide +kernel
theorem dX7_add_23 : decode cX7_add 23 = .ok (.aload_n 0, 1) := by decide +kernel
theorem dX7_add_24 : decode cX7_add 24 = .ok (.getfield 24, 3) := by decide +kernel
theorem dX7_add_27 : decode cX7_add 27 = .ok (.iload_n 2, 1) := by decide +kernel
theorem dX7_add_28 : decode cX7_add 28 = .ok (.iastore, 1) := by decide +kernel
theorem dX7_add_29 : decode cX7_add 29 = .ok (.aload_n 0, 1) := by decide +kernel
theorem dX7_add_30 : decode cX7_add 30 = .ok (.getfield 21, 3) := by decide +kernel
theorem dX7_add_33 : decode cX7_add 33 = .ok (.aload_n 0, 1) := by decide +kernel
theorem dX7_add_34 : decode cX7_add 34 = .ok (.getfield 24, 3) := by decide +kernel
theorem dX7_add_37 : decode cX7_add 37 = .ok (.iload_n 3, 1) := by decide +kernel
theorem dX7_add_38 : decode cX7_add 38 = .ok (.iastore, 1) := by decide +kernel
theorem dX7_add_39 : decode cX7_add 39 = .ok (.aload_n 0, 1) := by decide +kernel
theorem dX7_add_40 : decode cX7_add 40 = .ok (.dup, 1) := by decide +kernel
theorem dX7_add_41 : decode cX7_add 41 = .ok (.getfield 24, 3) := by decide +kernel
theorem dX7_add_44 : decode cX7_add 44 = .ok (.iconst 1, 1) := by decide +kernel
theorem dX7_add_45 : decode cX7_add 45 = .ok (.iadd, 1) := by decide +kernel
theorem dX7_add_46 : decode cX7_add 46 = .ok (.putfield 24, 3) := by decide +kernel
theorem dX7_add_49 : decode cX7_add 49 = .ok (.return_, 1) := by decide +kernel
theorem dX7_init_0 : decode cX7_init 0 = .ok (.aload_n 0, 1) := by decide +kernel
theorem dX7_init_1 : decode cX7_init 1 = .ok (.invokespecial 3, 3) := by decide +kernel
theorem dX7_init_4 : decode cX7_init 4 = .ok (.aload_n 0, 1) := by decide +kernel
theorem dX7_init_5 : decode cX7_init 5 = .ok (.bipush 20, 2) := by decide +kernel
theorem dX7_init_7 : decode cX7_init 7 = .ok (.anewarray 9, 3) := by decide +kernel
theorem dX7_init_10 : decode cX7_init 10 = .ok (.putfield 11, 3) := by decide +kernel
theorem dX7_init_13 : decode cX7_init 13 = .ok (.aload_n 0, 1) := by decide +kernel
theorem dX7_init_14 : decode cX7_init 14 = .ok (.bipush 20, 2) := by decide +kernel
theorem dX7_init_16 : decode cX7_init 16 = .ok (.newarray .int, 2) := by decide +kernel
theorem dX7_init_18 : decode cX7_init 18 = .ok (.putfield 17, 3) := by decide +kernel
theorem dX7_init_21 : decode cX7_init 21 = .ok (.aload_n 0, 1) := by decide +kernel
theorem dX7_init_22 : decode cX7_init 22 = .ok (.bipush 20, 2) := by decide +kernel
theorem dX7_init_24 : decode cX7_init 24 = .ok (.newarray .int, 2) := by decide +kernel
theorem dX7_init_26 : decode cX7_init 26 = .ok (.putfield 21, 3) := by decide +kernel
theorem dX7_init_29 : decode cX7_init 29 = .ok (.return_, 1) := by decide +kernel
theorem dX7_refusalOf_0 : decode cX7_refusalOf 0 = .ok (.aload_n 1, 1) := by decide +kernel
theorem dX7_refusalOf_1 : decode cX7_refusalOf 1 = .ok (.ifnonnull 7, 3) := by decide +kernel
theorem dX7_refusalOf_4 : decode cX7_refusalOf 4 = .ok (.getstatic 42, 3) := by decide +kernel
theorem dX7_refusalOf_7 : decode cX7_refusalOf 7 = .ok (.areturn, 1) := by decide +kernel
theorem dX7_refusalOf_8 : decode cX7_refusalOf 8 = .ok (.getstatic 45, 3) := by decide +kernel
theorem dX7_refusalOf_11 : decode cX7_refusalOf 11 = .ok (.aload_n 1, 1) := by decide +kernel
theorem dX7_refusalOf_12 : decode cX7_refusalOf 12 = .ok (.invokevirtual 50, 3) := by decide +kernel
theorem dX7_refusalOf_15 : decode cX7_refusalOf 15 = .ok (.iaload, 1) := by decide +kernel
theorem dX7_refusalOf_16 : decode cX7_refusalOf 16 = .ok (.tableswitch 98 1 8 #[48, 55, 62, 68, 74, 80, 86, 92], 48) := by decide +kernel
theorem dX7_refusalOf_64 : decode cX7_refusalOf 64 = .ok (.aload_n 0, 1) := by decide +kernel
theorem dX7_refusalOf_65 : decode cX7_refusalOf 65 = .ok (.iload_n 2, 1) := by decide +kernel
theorem dX7_refusalOf_66 : decode cX7_refusalOf 66 = .ok (.iload_n 3, 1) := by decide +kernel
theorem dX7_refusalOf_67 : decode cX7_refusalOf 67 = .ok (.invokevirtual 54, 3) := by decide +kernel
theorem dX7_refusalOf_70 : decode cX7_refusalOf 70 = .ok (.areturn, 1) := by decide +kernel
theorem dX7_refusalOf_71 : decode cX7_refusalOf 71 = .ok (.aload_n 0, 1) := by decide +kernel
theorem dX7_refusalOf_72 : decode cX7_refusalOf 72 = .ok (.iload_n 2, 1) := by decide +kernel
theorem dX7_refusalOf_73 : decode cX7_refusalOf 73 = .ok (.iload_n 3, 1) := by decide +kernel
theorem dX7_refusalOf_74 : decode cX7_refusalOf 74 = .ok (.invokevirtual 60, 3) := by decide +kernel
theorem dX7_refusalOf_77 : decode cX7_refusalOf 77 = .ok (.areturn, 1) := by decide +kernel
theorem dX7_refusalOf_78 : decode cX7_refusalOf 78 = .ok (.aload_n 0, 1) := by decide +kernel
theorem dX7_refusalOf_79 : decode cX7_refusalOf 79 = .ok (.iload_n 2, 1) := by decide +kernel
theorem dX7_refusalOf_80 : decode cX7_refusalOf 80 = .ok (.invokevirtual 63, 3) := by decide +kernel
theorem dX7_refusalOf_83 : decode cX7_refusalOf 83 = .ok (.areturn, 1) := by decide +kernel
theorem dX7_refusalOf_84 : decode cX7_refusalOf 84 = .ok (.aload_n 0, 1) := by decide +kernel
theorem dX7_refusalOf_85 : decode cX7_refusalOf 85 = .ok (.iload_n 2, 1) := by decide +kernel
theorem dX7_refusalOf_86 : decode cX7_refusalOf 86 = .ok (.invokevirtual 67, 3) := by decide +kernel
theorem dX7_refusalOf_89 : decode cX7_refusalOf 89 = .ok (.areturn, 1) := by decide +kernel
theorem dX7_refusalOf_90 : decode cX7_refusalOf 90 = .ok (.aload_n 0, 1) := by decide +kernel
theorem dX7_refusalOf_91 : decode cX7_refusalOf 91 = .ok (.iload_n 2, 1) := by decide +kernel
theorem dX7_refusalOf_92 : decode cX7_refusalOf 92 = .ok (.invokevirtual 70, 3) := by decide +kernel
theorem dX7_refusalOf_95 : decode cX7_refusalOf 95 = .ok (.areturn, 1) := by decide +kernel
theorem dX7_refusalOf_96 : decode cX7_refusalOf 96 = .ok (.aload_n 0, 1) := by decide +kernel
theorem dX7_refusalOf_97 : decode cX7_refusalOf 97 = .ok (.iload_n 2, 1) := by decide +kernel
theorem dX7_refusalOf_98 : decode cX7_refusalOf 98 = .ok (.invokevirtual 73, 3) := by decide +kernel
theorem dX7_refusalOf_101 : decode cX7_refusalOf 101 = .ok (.areturn, 1) := by decide +kernel
theorem dX7_refusalOf_102 : decode cX7_refusalOf 102 = .ok (.aload_n 0, 1) := by decide +kernel
theorem dX7_refusalOf_103 : decode cX7_refusalOf 103 = .ok (.iload_n 2, 1) := by decide +kernel
theorem dX7_refusalOf_104 : decode cX7_refusalOf 104 = .ok (.invokevirtual 76, 3) := by decide +kernel
theorem dX7_refusalOf_107 : decode cX7_refusalOf 107 = .ok (.areturn, 1) := by decide +kernel
theorem dX7_refusalOf_108 : decode cX7_refusalOf 108 = .ok (.aload_n 0, 1) := by decide +kernel
theorem dX7_refusalOf_109 : decode cX7_refusalOf 109 = .ok (.iload_n 2, 1) := by decide +kernel
theorem dX7_refusalOf_110 : decode cX7_refusalOf 110 = .ok (.invokevirtual 79, 3) := by decide +kernel
theorem dX7_refusalOf_113 : decode cX7_refusalOf 113 = .ok (.areturn, 1) := by decide +kernel
theorem dX7_refusalOf_114 : decode cX7_refusalOf 114 = .ok (.aload_n 0, 1) := by decide +kernel
theorem dX7_refusalOf_115 : decode cX7_refusalOf 115 = .ok (.iload_n 2, 1) := by decide +kernel
theorem dX7_refusalOf_116 : decode cX7_refusalOf 116 = .ok (.iload_n 3, 1) := by decide +kernel
theorem dX7_refusalOf_117 : decode cX7_refusalOf 117 = .ok (.invokevirtual 82, 3) := by decide +kernel
theorem dX7_refusalOf_120 : decode cX7_refusalOf 120 = .ok (.areturn, 1) := by decide +kernel
theorem dX7_execute_0 : decode cX7_execute 0 = .ok (.aload_n 1, 1) := by decide +kernel
theorem dX7_execute_1 : decode cX7_execute 1 = .ok (.ifnonnull 5, 3) := by decide +kernel
theorem dX7_execute_4 : decode cX7_execute 4 = .ok (.iconst 0, 1) := by decide +kernel
theorem dX7_execute_5 : decode cX7_execute 5 = .ok (.ireturn, 1) := by decide +kernel
theorem dX7_execute_6 : decode cX7_execute 6 = .ok (.getstatic 45, 3) := by decide +kernel
theorem dX7_execute_9 : decode cX7_execute 9 = .ok (.aload_n 1, 1) := by decide +kernel
theorem dX7_execute_10 : decode cX7_execute 10 = .ok (.invokevirtual 50, 3) := by decide +kernel
theorem dX7_execute_13 : decode cX7_execute 13 = .ok (.iaload, 1) := by decide +kernel
theorem dX7_execute_14 : decode cX7_execute 14 = .ok (.tableswitch 96 1 8 #[46, 53, 60, 66, 72, 78, 84, 90], 46) := by decide +kernel
theorem dX7_execute_60 : decode cX7_execute 60 = .ok (.aload_n 0, 1) := by decide +kernel
theorem dX7_execute_61 : decode cX7_execute 61 = .ok (.iload_n 2, 1) := by decide +kernel
theorem dX7_execute_62 : decode cX7_execute 62 = .ok (.iload_n 3, 1) := by decide +kernel
theorem dX7_execute_63 : decode cX7_execute 63 = .ok (.invokevirtual 85, 3) := by decide +kernel
theorem dX7_execute_66 : decode cX7_execute 66 = .ok (.ireturn, 1) := by decide +kernel
theorem dX7_execute_67 : decode cX7_execute 67 = .ok (.aload_n 0, 1) := by decide +kernel
theorem dX7_execute_68 : decode cX7_execute 68 = .ok (.iload_n 2, 1) := by decide +kernel
theorem dX7_execute_69 : decode cX7_execute 69 = .ok (.iload_n 3, 1) := by decide +kernel
theorem dX7_execute_70 : decode cX7_execute 70 = .ok (.invokevirtual 89, 3) := by decide +kernel
theorem dX7_execute_73 : decode cX7_execute 73 = .ok (.ireturn, 1) := by decide +kernel
theorem dX7_execute_74 : decode cX7_execute 74 = .ok (.aload_n 0, 1) := by decide +kernel
theorem dX7_execute_75 : decode cX7_execute 75 = .ok (.iload_n 2, 1) := by decide +kernel
theorem dX7_execute_76 : decode cX7_execute 76 = .ok (.invokevirtual 92, 3) := by decide +kernel
theorem dX7_execute_79 : decode cX7_execute 79 = .ok (.ireturn, 1) := by decide +kernel
theorem dX7_execute_80 : decode cX7_execute 80 = .ok (.aload_n 0, 1) := by decide +kernel
theorem dX7_execute_81 : decode cX7_execute 81 = .ok (.iload_n 2, 1) := by decide +kernel
theorem dX7_execute_82 : decode cX7_execute 82 = .ok (.invokevirtual 96, 3) := by decide +kernel
theorem dX7_execute_85 : decode cX7_execute 85 = .ok (.ireturn, 1) := by decide +kernel
theorem dX7_execute_86 : decode cX7_execute 86 = .ok (.aload_n 0, 1) := by decide +kernel
theorem dX7_execute_87 : decode cX7_execute 87 = .ok (.iload_n 2, 1) := by decide +kernel
theorem dX7_execute_88 : decode cX7_execute 88 = .ok (.invokevirtual 99, 3) := by decide +kernel
theorem dX7_execute_91 : decode cX7_execute 91 = .ok (.ireturn, 1) := by decide +kernel
theorem dX7_execute_92 : decode cX7_execute 92 = .ok (.aload_n 0, 1) := by decide +kernel
theorem dX7_execute_93 : decode cX7_execute 93 = .ok (.iload_n 2, 1) := by decide +kernel
theorem dX7_execute_94 : decode cX7_execute 94 = .ok (.invokevirtual 102, 3) := by decide +kernel
theorem dX7_execute_97 : decode cX7_execute 97 = .ok (.ireturn, 1) := by decide +kernel
theorem dX7_execute_98 : decode cX7_execute 98 = .ok (.aload_n 0, 1) := by decide +kernel
theorem dX7_execute_99 : decode cX7_execute 99 = .ok (.iload_n 2, 1) := by decide +kernel
theorem dX7_execute_100 : decode cX7_execute 100 = .ok (.invokevirtual 105, 3) := by decide +kernel
theorem dX7_execute_103 : decode cX7_execute 103 = .ok (.ireturn, 1) := by decide +kernel
theorem dX7_execute_104 : decode cX7_execute 104 = .ok (.aload_n 0, 1) := by decide +kernel
theorem dX7_execute_105 : decode cX7_execute 105 = .ok (.iload_n 2, 1) := by decide +kernel
theorem dX7_execute_106 : decode cX7_execute 106 = .ok (.invokevirtual 108, 3) := by decide +kernel
theorem dX7_execute_109 : decode cX7_execute 109 = .ok (.ireturn, 1) := by decide +kernel
theorem dX7_execute_110 : decode cX7_execute 110 = .ok (.aload_n 0, 1) := by decide +kernel
theorem dX7_execute_111 : decode cX7_execute 111 = .ok (.iload_n 2, 1) := by decide +kernel
theorem dX7_execute_112 : decode cX7_execute 112 = .ok (.iload_n 3, 1) := by decide +kernel
theorem dX7_execute_113 : decode cX7_execute 113 = .ok (.invokevirtual 111, 3) := by decide +kernel
theorem dX7_execute_116 : decode cX7_execute 116 = .ok (.ireturn, 1) := by decide +kernel
theorem dX7_executeOn_0 : decode cX7_executeOn 0 = .ok (.iconst 0, 1) := by decide +kernel
theorem dX7_executeOn_1 : decode cX7_executeOn 1 = .ok (.istore_n 2, 1) := by decide +kernel
theorem dX7_executeOn_2 : decode cX7_executeOn 2 = .ok (.iload_n 2, 1) := by decide +kernel
theorem dX7_executeOn_3 : decode cX7_executeOn 3 = .ok (.aload_n 0, 1) := by decide +kernel
theorem dX7_executeOn_4 : decode cX7_executeOn 4 = .ok (.getfield 24, 3) := by decide +kernel
theorem dX7_executeOn_7 : decode cX7_executeOn 7 = .ok (.if_icmp .ge 62, 3) := by decide +kernel
theorem dX7_executeOn_10 : decode cX7_executeOn 10 = .ok (.aload_n 1, 1) := by decide +kernel
theorem dX7_executeOn_11 : decode cX7_executeOn 11 = .ok (.aload_n 0, 1) := by decide +kernel
theorem dX7_executeOn_12 : decode cX7_executeOn 12 = .ok (.getfield 11, 3) := by decide +kernel
theorem dX7_executeOn_15 : decode cX7_executeOn 15 = .ok (.iload_n 2, 1) := by decide +kernel
theorem dX7_executeOn_16 : decode cX7_executeOn 16 = .ok (.aaload, 1) := by decide +kernel
theorem dX7_executeOn_17 : decode cX7_executeOn 17 = .ok (.aload_n 0, 1) := by decide +kernel
theorem dX7_executeOn_18 : decode cX7_executeOn 18 = .ok (.getfield 17, 3) := by decide +kernel
theorem dX7_executeOn_21 : decode cX7_executeOn 21 = .ok (.iload_n 2, 1) := by decide +kernel
theorem dX7_executeOn_22 : decode cX7_executeOn 22 = .ok (.iaload, 1) := by decide +kernel
theorem dX7_executeOn_23 : decode cX7_executeOn 23 = .ok (.aload_n 0, 1) := by decide +kernel
theorem dX7_executeOn_24 : decode cX7_executeOn 24 = .ok (.getfield 21, 3) := by decide +kernel
theorem dX7_executeOn_27 : decode cX7_executeOn 27 = .ok (.iload_n 2, 1) := by decide +kernel
theorem dX7_executeOn_28 : decode cX7_executeOn 28 = .ok (.iaload, 1) := by decide +kernel
theorem dX7_executeOn_29 : decode cX7_executeOn 29 = .ok (.invokestatic 28, 3) := by decide +kernel
theorem dX7_executeOn_32 : decode cX7_executeOn 32 = .ok (.getstatic 32, 3) := by decide +kernel
theorem dX7_executeOn_35 : decode cX7_executeOn 35 = .ok (.if_acmp .eq 5, 3) := by decide +kernel
theorem dX7_executeOn_38 : decode cX7_executeOn 38 = .ok (.iload_n 2, 1) := by decide +kernel
theorem dX7_executeOn_39 : decode cX7_executeOn 39 = .ok (.ireturn, 1) := by decide +kernel
theorem dX7_executeOn_40 : decode cX7_executeOn 40 = .ok (.aload_n 1, 1) := by decide +kernel
theorem dX7_executeOn_41 : decode cX7_executeOn 41 = .ok (.aload_n 0, 1) := by decide +kernel
theorem dX7_executeOn_42 : decode cX7_executeOn 42 = .ok (.getfield 11, 3) := by decide +kernel
theorem dX7_executeOn_45 : decode cX7_executeOn 45 = .ok (.iload_n 2, 1) := by decide +kernel
theorem dX7_executeOn_46 : decode cX7_executeOn 46 = .ok (.aaload, 1) := by decide +kernel
theorem dX7_executeOn_47 : decode cX7_executeOn 47 = .ok (.aload_n 0, 1) := by decide +kernel
theorem dX7_executeOn_48 : decode cX7_executeOn 48 = .ok (.getfield 17, 3) := by decide +kernel
theorem dX7_executeOn_51 : decode cX7_executeOn 51 = .ok (.iload_n 2, 1) := by decide +kernel
theorem dX7_executeOn_52 : decode cX7_executeOn 52 = .ok (.iaload, 1) := by decide +kernel
theorem dX7_executeOn_53 : decode cX7_executeOn 53 = .ok (.aload_n 0, 1) := by decide +kernel
theorem dX7_executeOn_54 : decode cX7_executeOn 54 = .ok (.getfield 21, 3) := by decide +kernel
theorem dX7_executeOn_57 : decode cX7_executeOn 57 = .ok (.iload_n 2, 1) := by decide +kernel
theorem dX7_executeOn_58 : decode cX7_executeOn 58 = .ok (.iaload, 1) := by decide +kernel
theorem dX7_executeOn_59 : decode cX7_executeOn 59 = .ok (.invokestatic 38, 3) := by decide +kernel
theorem dX7_executeOn_62 : decode cX7_executeOn 62 = .ok (.pop, 1) := by decide +kernel
theorem dX7_executeOn_63 : decode cX7_executeOn 63 = .ok (.iinc 2 1, 3) := by decide +kernel
theorem dX7_executeOn_66 : decode cX7_executeOn 66 = .ok (.goto (-64), 3) := by decide +kernel
theorem dX7_executeOn_69 : decode cX7_executeOn 69 = .ok (.aload_n 0, 1) := by decide +kernel
theorem dX7_executeOn_70 : decode cX7_executeOn 70 = .ok (.getfield 24, 3) := by decide +kernel
theorem dX7_executeOn_73 : decode cX7_executeOn 73 = .ok (.ireturn, 1) := by decide +kernel
