theorem dL_act_954 : decode cL_act 954 = .ok (.invokevirtual 65, 3) := by decide +kernel
theorem dL_act_957 : decode cL_act 957 = .ok (.ifCond .ne 19, 3) := by decide +kernel
theorem dL_act_960 : decode cL_act 960 = .ok (.iload 10, 2) := by decide +kernel
theorem dL_act_962 : decode cL_act 962 = .ok (.sipush 4000, 3) := by decide +kernel
theorem dL_act_965 : decode cL_act 965 = .ok (.if_icmp .gt 11, 3) := by decide +kernel
theorem dL_act_968 : decode cL_act 968 = .ok (.iload 11, 2) := by decide +kernel
theorem dL_act_970 : decode cL_act 970 = .ok (.sipush 200, 3) := by decide +kernel
theorem dL_act_973 : decode cL_act 973 = .ok (.if_icmp .le 5, 3) := by decide +kernel
theorem dL_act_976 : decode cL_act 976 = .ok (.iconst 1, 1) := by decide +kernel
theorem dL_act_977 : decode cL_act 977 = .ok (.ireturn, 1) := by decide +kernel
theorem dL_act_978 : decode cL_act 978 = .ok (.aload_n 0, 1) := by decide +kernel
theorem dL_act_979 : decode cL_act 979 = .ok (.iload 5, 2) := by decide +kernel
theorem dL_act_981 : decode cL_act 981 = .ok (.invokevirtual 58, 3) := by decide +kernel
theorem dL_act_984 : decode cL_act 984 = .ok (.ifCond .ne 27, 3) := by decide +kernel
theorem dL_act_987 : decode cL_act 987 = .ok (.aload_n 0, 1) := by decide +kernel
theorem dL_act_988 : decode cL_act 988 = .ok (.iload 5, 2) := by decide +kernel
theorem dL_act_990 : decode cL_act 990 = .ok (.iload 6, 2) := by decide +kernel
theorem dL_act_992 : decode cL_act 992 = .ok (.iconst 1, 1) := by decide +kernel
theorem dL_act_993 : decode cL_act 993 = .ok (.isub, 1) := by decide +kernel
theorem dL_act_994 : decode cL_act 994 = .ok (.invokevirtual 68, 3) := by decide +kernel
theorem dL_act_997 : decode cL_act 997 = .ok (.aload_n 0, 1) := by decide +kernel
theorem dL_act_998 : decode cL_act 998 = .ok (.iload 9, 2) := by decide +kernel
theorem dL_act_1000 : decode cL_act 1000 = .ok (.iconst 0, 1) := by decide +kernel
theorem dL_act_1001 : decode cL_act 1001 = .ok (.invokevirtual 68, 3) := by decide +kernel
theorem dL_act_1004 : decode cL_act 1004 = .ok (.if_icmp .ne 7, 3) := by decide +kernel
theorem dL_act_1007 : decode cL_act 1007 = .ok (.iconst 1, 1) := by decide +kernel
theorem dL_act_1008 : decode cL_act 1008 = .ok (.goto 4, 3) := by decide +kernel
theorem dL_act_1011 : decode cL_act 1011 = .ok (.iconst 0, 1) := by decide +kernel
theorem dL_act_1012 : decode cL_act 1012 = .ok (.istore 12, 2) := by decide +kernel
theorem dL_act_1014 : decode cL_act 1014 = .ok (.aload_n 0, 1) := by decide +kernel
theorem dL_act_1015 : decode cL_act 1015 = .ok (.iload 5, 2) := by decide +kernel
theorem dL_act_1017 : decode cL_act 1017 = .ok (.iload 9, 2) := by decide +kernel
theorem dL_act_1019 : decode cL_act 1019 = .ok (.invokevirtual 164, 3) := by decide +kernel
theorem dL_act_1022 : decode cL_act 1022 = .ok (.istore 13, 2) := by decide +kernel
theorem dL_act_1024 : decode cL_act 1024 = .ok (.iload 9, 2) := by decide +kernel
theorem dL_act_1026 : decode cL_act 1026 = .ok (.iload 5, 2) := by decide +kernel
theorem dL_act_1028 : decode cL_act 1028 = .ok (.if_icmp .ge 10, 3) := by decide +kernel
theorem dL_act_1031 : decode cL_act 1031 = .ok (.iload 5, 2) := by decide +kernel
theorem dL_act_1033 : decode cL_act 1033 = .ok (.iconst 1, 1) := by decide +kernel
theorem dL_act_1034 : decode cL_act 1034 = .ok (.isub, 1) := by decide +kernel
theorem dL_act_1035 : decode cL_act 1035 = .ok (.goto 5, 3) := by decide +kernel
theorem dL_act_1038 : decode cL_act 1038 = .ok (.iload 5, 2) := by decide +kernel
theorem dL_act_1040 : decode cL_act 1040 = .ok (.istore 14, 2) := by decide +kernel
theorem dL_act_1042 : decode cL_act 1042 = .ok (.iload 13, 2) := by decide +kernel
theorem dL_act_1044 : decode cL_act 1044 = .ok (.iload 11, 2) := by decide +kernel
theorem dL_act_1046 : decode cL_act 1046 = .ok (.iload 12, 2) := by decide +kernel
theorem dL_act_1048 : decode cL_act 1048 = .ok (.ifCond .eq 7, 3) := by decide +kernel
theorem dL_act_1051 : decode cL_act 1051 = .ok (.iconst 1, 1) := by decide +kernel
theorem dL_act_1052 : decode cL_act 1052 = .ok (.goto 4, 3) := by decide +kernel
theorem dL_act_1055 : decode cL_act 1055 = .ok (.iconst 0, 1) := by decide +kernel
theorem dL_act_1056 : decode cL_act 1056 = .ok (.isub, 1) := by decide +kernel
theorem dL_act_1057 : decode cL_act 1057 = .ok (.if_icmp .ne 40, 3) := by decide +kernel
theorem dL_act_1060 : decode cL_act 1060 = .ok (.aload_n 0, 1) := by decide +kernel
theorem dL_act_1061 : decode cL_act 1061 = .ok (.invokevirtual 30, 3) := by decide +kernel
theorem dL_act_1064 : decode cL_act 1064 = .ok (.iload 4, 2) := by decide +kernel
theorem dL_act_1066 : decode cL_act 1066 = .ok (.iconst 1, 1) := by decide +kernel
theorem dL_act_1067 : decode cL_act 1067 = .ok (.isub, 1) := by decide +kernel
theorem dL_act_1068 : decode cL_act 1068 = .ok (.if_icmp .ne 29, 3) := by decide +kernel
theorem dL_act_1071 : decode cL_act 1071 = .ok (.aload_n 0, 1) := by decide +kernel
theorem dL_act_1072 : decode cL_act 1072 = .ok (.iload 14, 2) := by decide +kernel
theorem dL_act_1074 : decode cL_act 1074 = .ok (.invokevirtual 88, 3) := by decide +kernel
theorem dL_act_1077 : decode cL_act 1077 = .ok (.iload 10, 2) := by decide +kernel
theorem dL_act_1079 : decode cL_act 1079 = .ok (.if_icmp .ne 18, 3) := by decide +kernel
theorem dL_act_1082 : decode cL_act 1082 = .ok (.aload_n 0, 1) := by decide +kernel
theorem dL_act_1083 : decode cL_act 1083 = .ok (.iload 14, 2) := by decide +kernel
theorem dL_act_1085 : decode cL_act 1085 = .ok (.invokevirtual 33, 3) := by decide +kernel
theorem dL_act_1088 : decode cL_act 1088 = .ok (.iload 13, 2) := by decide +kernel
theorem dL_act_1090 : decode cL_act 1090 = .ok (.if_icmp .ne 7, 3) := by decide +kernel
theorem dL_act_1093 : decode cL_act 1093 = .ok (.iconst 1, 1) := by decide +kernel
theorem dL_act_1094 : decode cL_act 1094 = .ok (.goto 4, 3) := by decide +kernel
theorem dL_act_1097 : decode cL_act 1097 = .ok (.iconst 0, 1) := by decide +kernel
theorem dL_act_1098 : decode cL_act 1098 = .ok (.ireturn, 1) := by decide +kernel
theorem dL_act_1099 : decode cL_act 1099 = .ok (.iload_n 2, 1) := by decide +kernel
theorem dL_act_1100 : decode cL_act 1100 = .ok (.bipush 23, 2) := by decide +kernel
theorem dL_act_1102 : decode cL_act 1102 = .ok (.if_icmp .ge 139, 3) := by decide +kernel
theorem dL_act_1105 : decode cL_act 1105 = .ok (.iconst 1, 1) := by decide +kernel
theorem dL_act_1106 : decode cL_act 1106 = .ok (.iload_n 3, 1) := by decide +kernel
theorem dL_act_1107 : decode cL_act 1107 = .ok (.iconst 2, 1) := by decide +kernel
theorem dL_act_1108 : decode cL_act 1108 = .ok (.ishr, 1) := by decide +kernel
theorem dL_act_1109 : decode cL_act 1109 = .ok (.bipush 40, 2) := by decide +kernel
theorem dL_act_1111 : decode cL_act 1111 = .ok (.invokestatic 128, 3) := by decide +kernel
theorem dL_act_1114 : decode cL_act 1114 = .ok (.iadd, 1) := by decide +kernel
theorem dL_act_1115 : decode cL_act 1115 = .ok (.istore 9, 2) := by decide +kernel
theorem dL_act_1117 : decode cL_act 1117 = .ok (.aload_n 0, 1) := by decide +kernel
theorem dL_act_1118 : decode cL_act 1118 = .ok (.iload 5, 2) := by decide +kernel
theorem dL_act_1120 : decode cL_act 1120 = .ok (.invokevirtual 88, 3) := by decide +kernel
theorem dL_act_1123 : decode cL_act 1123 = .ok (.istore 10, 2) := by decide +kernel
theorem dL_act_1125 : decode cL_act 1125 = .ok (.iload 7, 2) := by decide +kernel
theorem dL_act_1127 : decode cL_act 1127 = .ok (.ifCond .ne 22, 3) := by decide +kernel
theorem dL_act_1130 : decode cL_act 1130 = .ok (.iload 6, 2) := by decide +kernel
theorem dL_act_1132 : decode cL_act 1132 = .ok (.sipush 200, 3) := by decide +kernel
theorem dL_act_1135 : decode cL_act 1135 = .ok (.if_icmp .eq 14, 3) := by decide +kernel
theorem dL_act_1138 : decode cL_act 1138 = .ok (.iload 10, 2) := by decide +kernel
theorem dL_act_1140 : decode cL_act 1140 = .ok (.iload 9, 2) := by decide +kernel
theorem dL_act_1142 : decode cL_act 1142 = .ok (.iadd, 1) := by decide +kernel
theorem dL_act_1143 : decode cL_act 1143 = .ok (.sipush 4000, 3) := by decide +kernel
theorem dL_act_1146 : decode cL_act 1146 = .ok (.if_icmp .le 5, 3) := by decide +kernel
theorem dL_act_1149 : decode cL_act 1149 = .ok (.iconst 1, 1) := by decide +kernel
theorem dL_act_1150 : decode cL_act 1150 = .ok (.ireturn, 1) := by decide +kernel
theorem dL_act_1151 : decode cL_act 1151 = .ok (.aload_n 0, 1) := by decide +kernel
