def tL_5 : List (Nat × Instr × Nat) := [(1047, .lcmp, 1), (1048, .ifCond .eq 5, 3), (1051, .iconst 0, 1), (1052, .ireturn, 1), (1053, .goto 938, 3), (1056, .aload_n 1, 1), (1057, .aload_n 0, 1), (1058, .iload 4, 2), (1060, .iconst 1, 1), (1061, .iadd, 1), (1062, .iaload, 1), (1063, .aload_n 0, 1), (1064, .iload 4, 2), (1066, .iconst 2, 1), (1067, .iadd, 1), (1068, .iaload, 1), (1069, .ifCond .eq 7, 3), (1072, .iconst 1, 1), (1073, .goto 4, 3), (1076, .iconst 0, 1), (1077, .aload_n 3, 1), (1078, .invokestatic 172, 3), (1081, .istore 5, 2), (1083, .aload_n 2, 1), (1084, .aload_n 0, 1), (1085, .iload 4, 2), (1087, .iconst 1, 1), (1088, .iadd, 1), (1089, .iaload, 1), (1090, .aload_n 0, 1)]
set_option maxRecDepth 100000 in
theorem tL_5_ok : tL_5.all (fun q => decide (decode cL_law q.1 = .ok (q.2.1, q.2.2))) = true := by decide +kernel
set_option maxRecDepth 100000 in
theorem dL_law_1047 : decode cL_law 1047 = .ok (.lcmp, 1) := of_decide_eq_true (List.all_eq_true.mp tL_5_ok (1047, .lcmp, 1) (List.mem_of_getElem? (i := 0) rfl))
set_option maxRecDepth 100000 in
theorem dL_law_1048 : decode cL_law 1048 = .ok (.ifCond .eq 5, 3) := of_decide_eq_true (List.all_eq_true.mp tL_5_ok (1048, .ifCond .eq 5, 3) (List.mem_of_getElem? (i := 1) rfl))
set_option maxRecDepth 100000 in
theorem dL_law_1051 : decode cL_law 1051 = .ok (.iconst 0, 1) := of_decide_eq_true (List.all_eq_true.mp tL_5_ok (1051, .iconst 0, 1) (List.mem_of_getElem? (i := 2) rfl))
set_option maxRecDepth 100000 in
theorem dL_law_1052 : decode cL_law 1052 = .ok (.ireturn, 1) := of_decide_eq_true (List.all_eq_true.mp tL_5_ok (1052, .ireturn, 1) (List.mem_of_getElem? (i := 3) rfl))
set_option maxRecDepth 100000 in
theorem dL_law_1053 : decode cL_law 1053 = .ok (.goto 938, 3) := of_decide_eq_true (List.all_eq_true.mp tL_5_ok (1053, .goto 938, 3) (List.mem_of_getElem? (i := 4) rfl))
set_option maxRecDepth 100000 in
theorem dL_law_1056 : decode cL_law 1056 = .ok (.aload_n 1, 1) := of_decide_eq_true (List.all_eq_true.mp tL_5_ok (1056, .aload_n 1, 1) (List.mem_of_getElem? (i := 5) rfl))
set_option maxRecDepth 100000 in
theorem dL_law_1057 : decode cL_law 1057 = .ok (.aload_n 0, 1) := of_decide_eq_true (List.all_eq_true.mp tL_5_ok (1057, .aload_n 0, 1) (List.mem_of_getElem? (i := 6) rfl))
set_option maxRecDepth 100000 in
theorem dL_law_1058 : decode cL_law 1058 = .ok (.iload 4, 2) := of_decide_eq_true (List.all_eq_true.mp tL_5_ok (1058, .iload 4, 2) (List.mem_of_getElem? (i := 7) rfl))
set_option maxRecDepth 100000 in
theorem dL_law_1060 : decode cL_law 1060 = .ok (.iconst 1, 1) := of_decide_eq_true (List.all_eq_true.mp tL_5_ok (1060, .iconst 1, 1) (List.mem_of_getElem? (i := 8) rfl))
set_option maxRecDepth 100000 in
theorem dL_law_1061 : decode cL_law 1061 = .ok (.iadd, 1) := of_decide_eq_true (List.all_eq_true.mp tL_5_ok (1061, .iadd, 1) (List.mem_of_getElem? (i := 9) rfl))
set_option maxRecDepth 100000 in
theorem dL_law_1062 : decode cL_law 1062 = .ok (.iaload, 1) := of_decide_eq_true (List.all_eq_true.mp tL_5_ok (1062, .iaload, 1) (List.mem_of_getElem? (i := 10) rfl))
set_option maxRecDepth 100000 in
theorem dL_law_1063 : decode cL_law 1063 = .ok (.aload_n 0, 1) := of_decide_eq_true (List.all_eq_true.mp tL_5_ok (1063, .aload_n 0, 1) (List.mem_of_getElem? (i := 11) rfl))
set_option maxRecDepth 100000 in
theorem dL_law_1064 : decode cL_law 1064 = .ok (.iload 4, 2) := of_decide_eq_true (List.all_eq_true.mp tL_5_ok (1064, .iload 4, 2) (List.mem_of_getElem? (i := 12) rfl))
set_option maxRecDepth 100000 in
theorem dL_law_1066 : decode cL_law 1066 = .ok (.iconst 2, 1) := of_decide_eq_true (List.all_eq_true.mp tL_5_ok (1066, .iconst 2, 1) (List.mem_of_getElem? (i := 13) rfl))
set_option maxRecDepth 100000 in
theorem dL_law_1067 : decode cL_law 1067 = .ok (.iadd, 1) := of_decide_eq_true (List.all_eq_true.mp tL_5_ok (1067, .iadd, 1) (List.mem_of_getElem? (i := 14) rfl))
set_option maxRecDepth 100000 in
theorem dL_law_1068 : decode cL_law 1068 = .ok (.iaload, 1) := of_decide_eq_true (List.all_eq_true.mp tL_5_ok (1068, .iaload, 1) (List.mem_of_getElem? (i := 15) rfl))
set_option maxRecDepth 100000 in
theorem dL_law_1069 : decode cL_law 1069 = .ok (.ifCond .eq 7, 3) := of_decide_eq_true (List.all_eq_true.mp tL_5_ok (1069, .ifCond .eq 7, 3) (List.mem_of_getElem? (i := 16) rfl))
set_option maxRecDepth 100000 in
theorem dL_law_1072 : decode cL_law 1072 = .ok (.iconst 1, 1) := of_decide_eq_true (List.all_eq_true.mp tL_5_ok (1072, .iconst 1, 1) (List.mem_of_getElem? (i := 17) rfl))
set_option maxRecDepth 100000 in
theorem dL_law_1073 : decode cL_law 1073 = .ok (.goto 4, 3) := of_decide_eq_true (List.all_eq_true.mp tL_5_ok (1073, .goto 4, 3) (List.mem_of_getElem? (i := 18) rfl))
set_option maxRecDepth 100000 in
theorem dL_law_1076 : decode cL_law 1076 = .ok (.iconst 0, 1) := of_decide_eq_true (List.all_eq_true.mp tL_5_ok (1076, .iconst 0, 1) (List.mem_of_getElem? (i := 19) rfl))
set_option maxRecDepth 100000 in
theorem dL_law_1077 : decode cL_law 1077 = .ok (.aload_n 3, 1) := of_decide_eq_true (List.all_eq_true.mp tL_5_ok (1077, .aload_n 3, 1) (List.mem_of_getElem? (i := 20) rfl))
set_option maxRecDepth 100000 in
theorem dL_law_1078 : decode cL_law 1078 = .ok (.invokestatic 172, 3) := of_decide_eq_true (List.all_eq_true.mp tL_5_ok (1078, .invokestatic 172, 3) (List.mem_of_getElem? (i := 21) rfl))
set_option maxRecDepth 100000 in
theorem dL_law_1081 : decode cL_law 1081 = .ok (.istore 5, 2) := of_decide_eq_true (List.all_eq_true.mp tL_5_ok (1081, .istore 5, 2) (List.mem_of_getElem? (i := 22) rfl))
set_option maxRecDepth 100000 in
theorem dL_law_1083 : decode cL_law 1083 = .ok (.aload_n 2, 1) := of_decide_eq_true (List.all_eq_true.mp tL_5_ok (1083, .aload_n 2, 1) (List.mem_of_getElem? (i := 23) rfl))
set_option maxRecDepth 100000 in
theorem dL_law_1084 : decode cL_law 1084 = .ok (.aload_n 0, 1) := of_decide_eq_true (List.all_eq_true.mp tL_5_ok (1084, .aload_n 0, 1) (List.mem_of_getElem? (i := 24) rfl))
set_option maxRecDepth 100000 in
theorem dL_law_1085 : decode cL_law 1085 = .ok (.iload 4, 2) := of_decide_eq_true (List.all_eq_true.mp tL_5_ok (1085, .iload 4, 2) (List.mem_of_getElem? (i := 25) rfl))
set_option maxRecDepth 100000 in
theorem dL_law_1087 : decode cL_law 1087 = .ok (.iconst 1, 1) := of_decide_eq_true (List.all_eq_true.mp tL_5_ok (1087, .iconst 1, 1) (List.mem_of_getElem? (i := 26) rfl))
set_option maxRecDepth 100000 in
theorem dL_law_1088 : decode cL_law 1088 = .ok (.iadd, 1) := of_decide_eq_true (List.all_eq_true.mp tL_5_ok (1088, .iadd, 1) (List.mem_of_getElem? (i := 27) rfl))
set_option maxRecDepth 100000 in
theorem dL_law_1089 : decode cL_law 1089 = .ok (.iaload, 1) := of_decide_eq_true (List.all_eq_true.mp tL_5_ok (1089, .iaload, 1) (List.mem_of_getElem? (i := 28) rfl))
set_option maxRecDepth 100000 in
theorem dL_law_1090 : decode cL_law 1090 = .ok (.aload_n 0, 1) := of_decide_eq_true (List.all_eq_true.mp tL_5_ok (1090, .aload_n 0, 1) (List.mem_of_getElem? (i := 29) rfl))
def tL_6 : List (Nat × Instr × Nat) := [(1091, .iload 4, 2), (1093, .iconst 2, 1), (1094, .iadd, 1), (1095, .iaload, 1), (1096, .ifCond .eq 7, 3), (1099, .iconst 1, 1), (1100, .goto 4, 3), (1103, .iconst 0, 1), (1104, .invokevirtual 174, 3), (1107, .istore 6, 2), (1109, .aload_n 2, 1), (1110, .invokevirtual 118, 3), (1113, .iload 5, 2), (1115, .if_icmp .eq 5, 3), (1118, .iconst 0, 1), (1119, .ireturn, 1), (1120, .iload 5, 2), (1122, .ifCond .ne 15, 3), (1125, .aload_n 3, 1), (1126, .iconst 0, 1), (1127, .laload, 1), (1128, .iload 6, 2), (1130, .i2l, 1), (1131, .lcmp, 1), (1132, .ifCond .eq 5, 3), (1135, .iconst 0, 1), (1136, .ireturn, 1), (1137, .goto 854, 3), (1140, .aload_n 1, 1), (1141, .aload_n 0, 1)]
set_option maxRecDepth 100000 in
theorem tL_6_ok : tL_6.all (fun q => decide (decode cL_law q.1 = .ok (q.2.1, q.2.2))) = true := by decide +kernel
set_option maxRecDepth 100000 in
theorem dL_law_1091 : decode cL_law 1091 = .ok (.iload 4, 2) := of_decide_eq_true (List.all_eq_true.mp tL_6_ok (1091, .iload 4, 2) (List.mem_of_getElem? (i := 0) rfl))
set_option maxRecDepth 100000 in
theorem dL_law_1093 : decode cL_law 1093 = .ok (.iconst 2, 1) := of_decide_eq_true (List.all_eq_true.mp tL_6_ok (1093, .iconst 2, 1) (List.mem_of_getElem? (i := 1) rfl))
set_option maxRecDepth 100000 in
theorem dL_law_1094 : decode cL_law 1094 = .ok (.iadd, 1) := of_decide_eq_true (List.all_eq_true.mp tL_6_ok (1094, .iadd, 1) (List.mem_of_getElem? (i := 2) rfl))
set_option maxRecDepth 100000 in
theorem dL_law_1095 : decode cL_law 1095 = .ok (.iaload, 1) := of_decide_eq_true (List.all_eq_true.mp tL_6_ok (1095, .iaload, 1) (List.mem_of_getElem? (i := 3) rfl))
set_option maxRecDepth 100000 in
theorem dL_law_1096 : decode cL_law 1096 = .ok (.ifCond .eq 7, 3) := of_decide_eq_true (List.all_eq_true.mp tL_6_ok (1096, .ifCond .eq 7, 3) (List.mem_of_getElem? (i := 4) rfl))
set_option maxRecDepth 100000 in
theorem dL_law_1099 : decode cL_law 1099 = .ok (.iconst 1, 1) := of_decide_eq_true (List.all_eq_true.mp tL_6_ok (1099, .iconst 1, 1) (List.mem_of_getElem? (i := 5) rfl))
set_option maxRecDepth 100000 in
theorem dL_law_1100 : decode cL_law 1100 = .ok (.goto 4, 3) := of_decide_eq_true (List.all_eq_true.mp tL_6_ok (1100, .goto 4, 3) (List.mem_of_getElem? (i := 6) rfl))
set_option maxRecDepth 100000 in
theorem dL_law_1103 : decode cL_law 1103 = .ok (.iconst 0, 1) := of_decide_eq_true (List.all_eq_true.mp tL_6_ok (1103, .iconst 0, 1) (List.mem_of_getElem? (i := 7) rfl))
set_option maxRecDepth 100000 in
theorem dL_law_1104 : decode cL_law 1104 = .ok (.invokevirtual 174, 3) := of_decide_eq_true (List.all_eq_true.mp tL_6_ok (1104, .invokevirtual 174, 3) (List.mem_of_getElem? (i := 8) rfl))
set_option maxRecDepth 100000 in
theorem dL_law_1107 : decode cL_law 1107 = .ok (.istore 6, 2) := of_decide_eq_true (List.all_eq_true.mp tL_6_ok (1107, .istore 6, 2) (List.mem_of_getElem? (i := 9) rfl))
set_option maxRecDepth 100000 in
theorem dL_law_1109 : decode cL_law 1109 = .ok (.aload_n 2, 1) := of_decide_eq_true (List.all_eq_true.mp tL_6_ok (1109, .aload_n 2, 1) (List.mem_of_getElem? (i := 10) rfl))
set_option maxRecDepth 100000 in
theorem dL_law_1110 : decode cL_law 1110 = .ok (.invokevirtual 118, 3) := of_decide_eq_true (List.all_eq_true.mp tL_6_ok (1110, .invokevirtual 118, 3) (List.mem_of_getElem? (i := 11) rfl))
set_option maxRecDepth 100000 in
theorem dL_law_1113 : decode cL_law 1113 = .ok (.iload 5, 2) := of_decide_eq_true (List.all_eq_true.mp tL_6_ok (1113, .iload 5, 2) (List.mem_of_getElem? (i := 12) rfl))
set_option maxRecDepth 100000 in
theorem dL_law_1115 : decode cL_law 1115 = .ok (.if_icmp .eq 5, 3) := of_decide_eq_true (List.all_eq_true.mp tL_6_ok (1115, .if_icmp .eq 5, 3) (List.mem_of_getElem? (i := 13) rfl))
set_option maxRecDepth 100000 in
theorem dL_law_1118 : decode cL_law 1118 = .ok (.iconst 0, 1) := of_decide_eq_true (List.all_eq_true.mp tL_6_ok (1118, .iconst 0, 1) (List.mem_of_getElem? (i := 14) rfl))
set_option maxRecDepth 100000 in
theorem dL_law_1119 : decode cL_law 1119 = .ok (.ireturn, 1) := of_decide_eq_true (List.all_eq_true.mp tL_6_ok (1119, .ireturn, 1) (List.mem_of_getElem? (i := 15) rfl))
set_option maxRecDepth 100000 in
theorem dL_law_1120 : decode cL_law 1120 = .ok (.iload 5, 2) := of_decide_eq_true (List.all_eq_true.mp tL_6_ok (1120, .iload 5, 2) (List.mem_of_getElem? (i := 16) rfl))
set_option maxRecDepth 100000 in
theorem dL_law_1122 : decode cL_law 1122 = .ok (.ifCond .ne 15, 3) := of_decide_eq_true (List.all_eq_true.mp tL_6_ok (1122, .ifCond .ne 15, 3) (List.mem_of_getElem? (i := 17) rfl))
set_option maxRecDepth 100000 in
theorem dL_law_1125 : decode cL_law 1125 = .ok (.aload_n 3, 1) := of_decide_eq_true (List.all_eq_true.mp tL_6_ok (1125, .aload_n 3, 1) (List.mem_of_getElem? (i := 18) rfl))
set_option maxRecDepth 100000 in
theorem dL_law_1126 : decode cL_law 1126 = .ok (.iconst 0, 1) := of_decide_eq_true (List.all_eq_true.mp tL_6_ok (1126, .iconst 0, 1) (List.mem_of_getElem? (i := 19) rfl))
set_option maxRecDepth 100000 in
theorem dL_law_1127 : decode cL_law 1127 = .ok (.laload, 1) := of_decide_eq_true (List.all_eq_true.mp tL_6_ok (1127, .laload, 1) (List.mem_of_getElem? (i := 20) rfl))
set_option maxRecDepth 100000 in
theorem dL_law_1128 : decode cL_law 1128 = .ok (.iload 6, 2) := of_decide_eq_true (List.all_eq_true.mp tL_6_ok (1128, .iload 6, 2) (List.mem_of_getElem? (i := 21) rfl))
set_option maxRecDepth 100000 in
theorem dL_law_1130 : decode cL_law 1130 = .ok (.i2l, 1) := of_decide_eq_true (List.all_eq_true.mp tL_6_ok (1130, .i2l, 1) (List.mem_of_getElem? (i := 22) rfl))
set_option maxRecDepth 100000 in
theorem dL_law_1131 : decode cL_law 1131 = .ok (.lcmp, 1) := of_decide_eq_true (List.all_eq_true.mp tL_6_ok (1131, .lcmp, 1) (List.mem_of_getElem? (i := 23) rfl))
set_option maxRecDepth 100000 in
theorem dL_law_1132 : decode cL_law 1132 = .ok (.ifCond .eq 5, 3) := of_decide_eq_true (List.all_eq_true.mp tL_6_ok (1132, .ifCond .eq 5, 3) (List.mem_of_getElem? (i := 24) rfl))
set_option maxRecDepth 100000 in
theorem dL_law_1135 : decode cL_law 1135 = .ok (.iconst 0, 1) := of_decide_eq_true (List.all_eq_true.mp tL_6_ok (1135, .iconst 0, 1) (List.mem_of_getElem? (i := 25) rfl))
set_option maxRecDepth 100000 in
theorem dL_law_1136 : decode cL_law 1136 = .ok (.ireturn, 1) := of_decide_eq_true (List.all_eq_true.mp tL_6_ok (1136, .ireturn, 1) (List.mem_of_getElem? (i := 26) rfl))
set_option maxRecDepth 100000 in
theorem dL_law_1137 : decode cL_law 1137 = .ok (.goto 854, 3) := of_decide_eq_true (List.all_eq_true.mp tL_6_ok (1137, .goto 854, 3) (List.mem_of_getElem? (i := 27) rfl))
set_option maxRecDepth 100000 in
theorem dL_law_1140 : decode cL_law 1140 = .ok (.aload_n 1, 1) := of_decide_eq_true (List.all_eq_true.mp tL_6_ok (1140, .aload_n 1, 1) (List.mem_of_getElem? (i := 28) rfl))
set_option maxRecDepth 100000 in
theorem dL_law_1141 : decode cL_law 1141 = .ok (.aload_n 0, 1) := of_decide_eq_true (List.all_eq_true.mp tL_6_ok (1141, .aload_n 0, 1) (List.mem_of_getElem? (i := 29) rfl))
def tL_7 : List (Nat × Instr × Nat) := [(1142, .iload 4, 2), (1144, .iconst 1, 1), (1145, .iadd, 1), (1146, .iaload, 1), (1147, .aload_n 0, 1), (1148, .iload 4, 2), (1150, .iconst 2, 1), (1151, .iadd, 1), (1152, .iaload, 1), (1153, .aload_n 3, 1), (1154, .invokestatic 175, 3), (1157, .istore 5, 2), (1159, .aload_n 2, 1), (1160, .aload_n 0, 1), (1161, .iload 4, 2), (1163, .iconst 1, 1), (1164, .iadd, 1), (1165, .iaload, 1), (1166, .aload_n 0, 1), (1167, .iload 4, 2), (1169, .iconst 2, 1), (1170, .iadd, 1), (1171, .iaload, 1), (1172, .invokevirtual 177, 3), (1175, .istore 6, 2), (1177, .aload_n 2, 1), (1178, .invokevirtual 118, 3), (1181, .iload 5, 2), (1183, .if_icmp .eq 5, 3), (1186, .iconst 0, 1)]
set_option maxRecDepth 100000 in
theorem tL_7_ok : tL_7.all (fun q => decide (decode cL_law q.1 = .ok (q.2.1, q.2.2))) = true := by decide +kernel
set_option maxRecDepth 100000 in
theorem dL_law_1142 : decode cL_law 1142 = .ok (.iload 4, 2) := of_decide_eq_true (List.all_eq_true.mp tL_7_ok (1142, .iload 4, 2) (List.mem_of_getElem? (i := 0) rfl))
set_option maxRecDepth 100000 in
theorem dL_law_1144 : decode cL_law 1144 = .ok (.iconst 1, 1) := of_decide_eq_true (List.all_eq_true.mp tL_7_ok (1144, .iconst 1, 1) (List.mem_of_getElem? (i := 1) rfl))
set_option maxRecDepth 100000 in
theorem dL_law_1145 : decode cL_law 1145 = .ok (.iadd, 1) := of_decide_eq_true (List.all_eq_true.mp tL_7_ok (1145, .iadd, 1) (List.mem_of_getElem? (i := 2) rfl))
set_option maxRecDepth 100000 in
theorem dL_law_1146 : decode cL_law 1146 = .ok (.iaload, 1) := of_decide_eq_true (List.all_eq_true.mp tL_7_ok (1146, .iaload, 1) (List.mem_of_getElem? (i := 3) rfl))
set_option maxRecDepth 100000 in
theorem dL_law_1147 : decode cL_law 1147 = .ok (.aload_n 0, 1) := of_decide_eq_true (List.all_eq_true.mp tL_7_ok (1147, .aload_n 0, 1) (List.mem_of_getElem? (i := 4) rfl))
set_option maxRecDepth 100000 in
theorem dL_law_1148 : decode cL_law 1148 = .ok (.iload 4, 2) := of_decide_eq_true (List.all_eq_true.mp tL_7_ok (1148, .iload 4, 2) (List.mem_of_getElem? (i := 5) rfl))
set_option maxRecDepth 100000 in
theorem dL_law_1150 : decode cL_law 1150 = .ok (.iconst 2, 1) := of_decide_eq_true (List.all_eq_true.mp tL_7_ok (1150, .iconst 2, 1) (List.mem_of_getElem? (i := 6) rfl))
set_option maxRecDepth 100000 in
theorem dL_law_1151 : decode cL_law 1151 = .ok (.iadd, 1) := of_decide_eq_true (List.all_eq_true.mp tL_7_ok (1151, .iadd, 1) (List.mem_of_getElem? (i := 7) rfl))
set_option maxRecDepth 100000 in
theorem dL_law_1152 : decode cL_law 1152 = .ok (.iaload, 1) := of_decide_eq_true (List.all_eq_true.mp tL_7_ok (1152, .iaload, 1) (List.mem_of_getElem? (i := 8) rfl))
set_option maxRecDepth 100000 in
theorem dL_law_1153 : decode cL_law 1153 = .ok (.aload_n 3, 1) := of_decide_eq_true (List.all_eq_true.mp tL_7_ok (1153, .aload_n 3, 1) (List.mem_of_getElem? (i := 9) rfl))
set_option maxRecDepth 100000 in
theorem dL_law_1154 : decode cL_law 1154 = .ok (.invokestatic 175, 3) := of_decide_eq_true (List.all_eq_true.mp tL_7_ok (1154, .invokestatic 175, 3) (List.mem_of_getElem? (i := 10) rfl))
set_option maxRecDepth 100000 in
theorem dL_law_1157 : decode cL_law 1157 = .ok (.istore 5, 2) := of_decide_eq_true (List.all_eq_true.mp tL_7_ok (1157, .istore 5, 2) (List.mem_of_getElem? (i := 11) rfl))
set_option maxRecDepth 100000 in
theorem dL_law_1159 : decode cL_law 1159 = .ok (.aload_n 2, 1) := of_decide_eq_true (List.all_eq_true.mp tL_7_ok (1159, .aload_n 2, 1) (List.mem_of_getElem? (i := 12) rfl))
set_option maxRecDepth 100000 in
theorem dL_law_1160 : decode cL_law 1160 = .ok (.aload_n 0, 1) := of_decide_eq_true (List.all_eq_true.mp tL_7_ok (1160, .aload_n 0, 1) (List.mem_of_getElem? (i := 13) rfl))
set_option maxRecDepth 100000 in
theorem dL_law_1161 : decode cL_law 1161 = .ok (.iload 4, 2) := of_decide_eq_true (List.all_eq_true.mp tL_7_ok (1161, .iload 4, 2) (List.mem_of_getElem? (i := 14) rfl))
set_option maxRecDepth 100000 in
theorem dL_law_1163 : decode cL_law 1163 = .ok (.iconst 1, 1) := of_decide_eq_true (List.all_eq_true.mp tL_7_ok (1163, .iconst 1, 1) (List.mem_of_getElem? (i := 15) rfl))
set_option maxRecDepth 100000 in
theorem dL_law_1164 : decode cL_law 1164 = .ok (.iadd, 1) := of_decide_eq_true (List.all_eq_true.mp tL_7_ok (1164, .iadd, 1) (List.mem_of_getElem? (i := 16) rfl))
set_option maxRecDepth 100000 in
theorem dL_law_1165 : decode cL_law 1165 = .ok (.iaload, 1) := of_decide_eq_true (List.all_eq_true.mp tL_7_ok (1165, .iaload, 1) (List.mem_of_getElem? (i := 17) rfl))
set_option maxRecDepth 100000 in
theorem dL_law_1166 : decode cL_law 1166 = .ok (.aload_n 0, 1) := of_decide_eq_true (List.all_eq_true.mp tL_7_ok (1166, .aload_n 0, 1) (List.mem_of_getElem? (i := 18) rfl))
set_option maxRecDepth 100000 in
theorem dL_law_1167 : decode cL_law 1167 = .ok (.iload 4, 2) := of_decide_eq_true (List.all_eq_true.mp tL_7_ok (1167, .iload 4, 2) (List.mem_of_getElem? (i := 19) rfl))
set_option maxRecDepth 100000 in
theorem dL_law_1169 : decode cL_law 1169 = .ok (.iconst 2, 1) := of_decide_eq_true (List.all_eq_true.mp tL_7_ok (1169, .iconst 2, 1) (List.mem_of_getElem? (i := 20) rfl))
set_option maxRecDepth 100000 in
theorem dL_law_1170 : decode cL_law 1170 = .ok (.iadd, 1) := of_decide_eq_true (List.all_eq_true.mp tL_7_ok (1170, .iadd, 1) (List.mem_of_getElem? (i := 21) rfl))
set_option maxRecDepth 100000 in
theorem dL_law_1171 : decode cL_law 1171 = .ok (.iaload, 1) := of_decide_eq_true (List.all_eq_true.mp tL_7_ok (1171, .iaload, 1) (List.mem_of_getElem? (i := 22) rfl))
set_option maxRecDepth 100000 in
theorem dL_law_1172 : decode cL_law 1172 = .ok (.invokevirtual 177, 3) := of_decide_eq_true (List.all_eq_true.mp tL_7_ok (1172, .invokevirtual 177, 3) (List.mem_of_getElem? (i := 23) rfl))
set_option maxRecDepth 100000 in
theorem dL_law_1175 : decode cL_law 1175 = .ok (.istore 6, 2) := of_decide_eq_true (List.all_eq_true.mp tL_7_ok (1175, .istore 6, 2) (List.mem_of_getElem? (i := 24) rfl))
set_option maxRecDepth 100000 in
theorem dL_law_1177 : decode cL_law 1177 = .ok (.aload_n 2, 1) := of_decide_eq_true (List.all_eq_true.mp tL_7_ok (1177, .aload_n 2, 1) (List.mem_of_getElem? (i := 25) rfl))
set_option maxRecDepth 100000 in
theorem dL_law_1178 : decode cL_law 1178 = .ok (.invokevirtual 118, 3) := of_decide_eq_true (List.all_eq_true.mp tL_7_ok (1178, .invokevirtual 118, 3) (List.mem_of_getElem? (i := 26) rfl))
set_option maxRecDepth 100000 in
theorem dL_law_1181 : decode cL_law 1181 = .ok (.iload 5, 2) := of_decide_eq_true (List.all_eq_true.mp tL_7_ok (1181, .iload 5, 2) (List.mem_of_getElem? (i := 27) rfl))
set_option maxRecDepth 100000 in
theorem dL_law_1183 : decode cL_law 1183 = .ok (.if_icmp .eq 5, 3) := of_decide_eq_true (List.all_eq_true.mp tL_7_ok (1183, .if_icmp .eq 5, 3) (List.mem_of_getElem? (i := 28) rfl))
set_option maxRecDepth 100000 in
theorem dL_law_1186 : decode cL_law 1186 = .ok (.iconst 0, 1) := of_decide_eq_true (List.all_eq_true.mp tL_7_ok (1186, .iconst 0, 1) (List.mem_of_getElem? (i := 29) rfl))
def tL_8 : List (Nat × Instr × Nat) := [(1187, .ireturn, 1), (1188, .iload 5, 2), (1190, .ifCond .ne 15, 3), (1193, .aload_n 3, 1), (1194, .iconst 0, 1), (1195, .laload, 1), (1196, .iload 6, 2), (1198, .i2l, 1), (1199, .lcmp, 1), (1200, .ifCond .eq 5, 3), (1203, .iconst 0, 1), (1204, .ireturn, 1), (1205, .goto 786, 3), (1208, .aload_n 1, 1), (1209, .aload_n 0, 1), (1210, .iload 4, 2), (1212, .iconst 1, 1), (1213, .iadd, 1), (1214, .iaload, 1), (1215, .aload_n 0, 1), (1216, .iload 4, 2), (1218, .iconst 2, 1), (1219, .iadd, 1), (1220, .iaload, 1), (1221, .aload_n 3, 1), (1222, .invokestatic 178, 3), (1225, .istore 5, 2), (1227, .aload_n 2, 1), (1228, .aload_n 0, 1), (1229, .iload 4, 2)]
set_option maxRecDepth 100000 in
theorem tL_8_ok : tL_8.all (fun q => decide (decode cL_law q.1 = .ok (q.2.1, q.2.2))) = true := by decide +kernel
set_option maxRecDepth 100000 in
theorem dL_law_1187 : decode cL_law 1187 = .ok (.ireturn, 1) := of_decide_eq_true (List.all_eq_true.mp tL_8_ok (1187, .ireturn, 1) (List.mem_of_getElem? (i := 0) rfl))
set_option maxRecDepth 100000 in
theorem dL_law_1188 : decode cL_law 1188 = .ok (.iload 5, 2) := of_decide_eq_true (List.all_eq_true.mp tL_8_ok (1188, .iload 5, 2) (List.mem_of_getElem? (i := 1) rfl))
set_option maxRecDepth 100000 in
theorem dL_law_1190 : decode cL_law 1190 = .ok (.ifCond .ne 15, 3) := of_decide_eq_true (List.all_eq_true.mp tL_8_ok (1190, .ifCond .ne 15, 3) (List.mem_of_getElem? (i := 2) rfl))
set_option maxRecDepth 100000 in
theorem dL_law_1193 : decode cL_law 1193 = .ok (.aload_n 3, 1) := of_decide_eq_true (List.all_eq_true.mp tL_8_ok (1193, .aload_n 3, 1) (List.mem_of_getElem? (i := 3) rfl))
set_option maxRecDepth 100000 in
theorem dL_law_1194 : decode cL_law 1194 = .ok (.iconst 0, 1) := of_decide_eq_true (List.all_eq_true.mp tL_8_ok (1194, .iconst 0, 1) (List.mem_of_getElem? (i := 4) rfl))
set_option maxRecDepth 100000 in
theorem dL_law_1195 : decode cL_law 1195 = .ok (.laload, 1) := of_decide_eq_true (List.all_eq_true.mp tL_8_ok (1195, .laload, 1) (List.mem_of_getElem? (i := 5) rfl))
set_option maxRecDepth 100000 in
theorem dL_law_1196 : decode cL_law 1196 = .ok (.iload 6, 2) := of_decide_eq_true (List.all_eq_true.mp tL_8_ok (1196, .iload 6, 2) (List.mem_of_getElem? (i := 6) rfl))
set_option maxRecDepth 100000 in
theorem dL_law_1198 : decode cL_law 1198 = .ok (.i2l, 1) := of_decide_eq_true (List.all_eq_true.mp tL_8_ok (1198, .i2l, 1) (List.mem_of_getElem? (i := 7) rfl))
set_option maxRecDepth 100000 in
theorem dL_law_1199 : decode cL_law 1199 = .ok (.lcmp, 1) := of_decide_eq_true (List.all_eq_true.mp tL_8_ok (1199, .lcmp, 1) (List.mem_of_getElem? (i := 8) rfl))
set_option maxRecDepth 100000 in
theorem dL_law_1200 : decode cL_law 1200 = .ok (.ifCond .eq 5, 3) := of_decide_eq_true (List.all_eq_true.mp tL_8_ok (1200, .ifCond .eq 5, 3) (List.mem_of_getElem? (i := 9) rfl))
set_option maxRecDepth 100000 in
theorem dL_law_1203 : decode cL_law 1203 = .ok (.iconst 0, 1) := of_decide_eq_true (List.all_eq_true.mp tL_8_ok (1203, .iconst 0, 1) (List.mem_of_getElem? (i := 10) rfl))
set_option maxRecDepth 100000 in
theorem dL_law_1204 : decode cL_law 1204 = .ok (.ireturn, 1) := of_decide_eq_true (List.all_eq_true.mp tL_8_ok (1204, .ireturn, 1) (List.mem_of_getElem? (i := 11) rfl))
set_option maxRecDepth 100000 in
theorem dL_law_1205 : decode cL_law 1205 = .ok (.goto 786, 3) := of_decide_eq_true (List.all_eq_true.mp tL_8_ok (1205, .goto 786, 3) (List.mem_of_getElem? (i := 12) rfl))
set_option maxRecDepth 100000 in
theorem dL_law_1208 : decode cL_law 1208 = .ok (.aload_n 1, 1) := of_decide_eq_true (List.all_eq_true.mp tL_8_ok (1208, .aload_n 1, 1) (List.mem_of_getElem? (i := 13) rfl))
set_option maxRecDepth 100000 in
theorem dL_law_1209 : decode cL_law 1209 = .ok (.aload_n 0, 1) := of_decide_eq_true (List.all_eq_true.mp tL_8_ok (1209, .aload_n 0, 1) (List.mem_of_getElem? (i := 14) rfl))
set_option maxRecDepth 100000 in
theorem dL_law_1210 : decode cL_law 1210 = .ok (.iload 4, 2) := of_decide_eq_true (List.all_eq_true.mp tL_8_ok (1210, .iload 4, 2) (List.mem_of_getElem? (i := 15) rfl))
set_option maxRecDepth 100000 in
theorem dL_law_1212 : decode cL_law 1212 = .ok (.iconst 1, 1) := of_decide_eq_true (List.all_eq_true.mp tL_8_ok (1212, .iconst 1, 1) (List.mem_of_getElem? (i := 16) rfl))
set_option maxRecDepth 100000 in
theorem dL_law_1213 : decode cL_law 1213 = .ok (.iadd, 1) := of_decide_eq_true (List.all_eq_true.mp tL_8_ok (1213, .iadd, 1) (List.mem_of_getElem? (i := 17) rfl))
set_option maxRecDepth 100000 in
theorem dL_law_1214 : decode cL_law 1214 = .ok (.iaload, 1) := of_decide_eq_true (List.all_eq_true.mp tL_8_ok (1214, .iaload, 1) (List.mem_of_getElem? (i := 18) rfl))
set_option maxRecDepth 100000 in
theorem dL_law_1215 : decode cL_law 1215 = .ok (.aload_n 0, 1) := of_decide_eq_true (List.all_eq_true.mp tL_8_ok (1215, .aload_n 0, 1) (List.mem_of_getElem? (i := 19) rfl))
set_option maxRecDepth 100000 in
theorem dL_law_1216 : decode cL_law 1216 = .ok (.iload 4, 2) := of_decide_eq_true (List.all_eq_true.mp tL_8_ok (1216, .iload 4, 2) (List.mem_of_getElem? (i := 20) rfl))
set_option maxRecDepth 100000 in
theorem dL_law_1218 : decode cL_law 1218 = .ok (.iconst 2, 1) := of_decide_eq_true (List.all_eq_true.mp tL_8_ok (1218, .iconst 2, 1) (List.mem_of_getElem? (i := 21) rfl))
set_option maxRecDepth 100000 in
theorem dL_law_1219 : decode cL_law 1219 = .ok (.iadd, 1) := of_decide_eq_true (List.all_eq_true.mp tL_8_ok (1219, .iadd, 1) (List.mem_of_getElem? (i := 22) rfl))
set_option maxRecDepth 100000 in
theorem dL_law_1220 : decode cL_law 1220 = .ok (.iaload, 1) := of_decide_eq_true (List.all_eq_true.mp tL_8_ok (1220, .iaload, 1) (List.mem_of_getElem? (i := 23) rfl))
set_option maxRecDepth 100000 in
theorem dL_law_1221 : decode cL_law 1221 = .ok (.aload_n 3, 1) := of_decide_eq_true (List.all_eq_true.mp tL_8_ok (1221, .aload_n 3, 1) (List.mem_of_getElem? (i := 24) rfl))
set_option maxRecDepth 100000 in
theorem dL_law_1222 : decode cL_law 1222 = .ok (.invokestatic 178, 3) := of_decide_eq_true (List.all_eq_true.mp tL_8_ok (1222, .invokestatic 178, 3) (List.mem_of_getElem? (i := 25) rfl))
set_option maxRecDepth 100000 in
theorem dL_law_1225 : decode cL_law 1225 = .ok (.istore 5, 2) := of_decide_eq_true (List.all_eq_true.mp tL_8_ok (1225, .istore 5, 2) (List.mem_of_getElem? (i := 26) rfl))
set_option maxRecDepth 100000 in
theorem dL_law_1227 : decode cL_law 1227 = .ok (.aload_n 2, 1) := of_decide_eq_true (List.all_eq_true.mp tL_8_ok (1227, .aload_n 2, 1) (List.mem_of_getElem? (i := 27) rfl))
set_option maxRecDepth 100000 in
theorem dL_law_1228 : decode cL_law 1228 = .ok (.aload_n 0, 1) := of_decide_eq_true (List.all_eq_true.mp tL_8_ok (1228, .aload_n 0, 1) (List.mem_of_getElem? (i := 28) rfl))
set_option maxRecDepth 100000 in
theorem dL_law_1229 : decode cL_law 1229 = .ok (.iload 4, 2) := of_decide_eq_true (List.all_eq_true.mp tL_8_ok (1229, .iload 4, 2) (List.mem_of_getElem? (i := 29) rfl))
def tL_9 : List (Nat × Instr × Nat) := [(1231, .iconst 1, 1), (1232, .iadd, 1), (1233, .iaload, 1), (1234, .aload_n 0, 1), (1235, .iload 4, 2), (1237, .iconst 2, 1), (1238, .iadd, 1), (1239, .iaload, 1), (1240, .invokevirtual 180, 3), (1243, .lstore 6, 2), (1245, .aload_n 2, 1), (1246, .invokevirtual 118, 3), (1249, .iload 5, 2), (1251, .if_icmp .eq 5, 3), (1254, .iconst 0, 1), (1255, .ireturn, 1), (1256, .iload 5, 2), (1258, .ifCond .ne 14, 3), (1261, .aload_n 3, 1), (1262, .iconst 0, 1), (1263, .laload, 1), (1264, .lload 6, 2), (1266, .lcmp, 1), (1267, .ifCond .eq 5, 3), (1270, .iconst 0, 1), (1271, .ireturn, 1), (1272, .goto 719, 3), (1275, .aload_n 1, 1), (1276, .aload_n 3, 1), (1277, .invokestatic 181, 3)]
set_option maxRecDepth 100000 in
theorem tL_9_ok : tL_9.all (fun q => decide (decode cL_law q.1 = .ok (q.2.1, q.2.2))) = true := by decide +kernel
set_option maxRecDepth 100000 in
theorem dL_law_1231 : decode cL_law 1231 = .ok (.iconst 1, 1) := of_decide_eq_true (List.all_eq_true.mp tL_9_ok (1231, .iconst 1, 1) (List.mem_of_getElem? (i := 0) rfl))
set_option maxRecDepth 100000 in
theorem dL_law_1232 : decode cL_law 1232 = .ok (.iadd, 1) := of_decide_eq_true (List.all_eq_true.mp tL_9_ok (1232, .iadd, 1) (List.mem_of_getElem? (i := 1) rfl))
set_option maxRecDepth 100000 in
theorem dL_law_1233 : decode cL_law 1233 = .ok (.iaload, 1) := of_decide_eq_true (List.all_eq_true.mp tL_9_ok (1233, .iaload, 1) (List.mem_of_getElem? (i := 2) rfl))
set_option maxRecDepth 100000 in
theorem dL_law_1234 : decode cL_law 1234 = .ok (.aload_n 0, 1) := of_decide_eq_true (List.all_eq_true.mp tL_9_ok (1234, .aload_n 0, 1) (List.mem_of_getElem? (i := 3) rfl))
set_option maxRecDepth 100000 in
theorem dL_law_1235 : decode cL_law 1235 = .ok (.iload 4, 2) := of_decide_eq_true (List.all_eq_true.mp tL_9_ok (1235, .iload 4, 2) (List.mem_of_getElem? (i := 4) rfl))
set_option maxRecDepth 100000 in
theorem dL_law_1237 : decode cL_law 1237 = .ok (.iconst 2, 1) := of_decide_eq_true (List.all_eq_true.mp tL_9_ok (1237, .iconst 2, 1) (List.mem_of_getElem? (i := 5) rfl))
set_option maxRecDepth 100000 in
theorem dL_law_1238 : decode cL_law 1238 = .ok (.iadd, 1) := of_decide_eq_true (List.all_eq_true.mp tL_9_ok (1238, .iadd, 1) (List.mem_of_getElem? (i := 6) rfl))
set_option maxRecDepth 100000 in
theorem dL_law_1239 : decode cL_law 1239 = .ok (.iaload, 1) := of_decide_eq_true (List.all_eq_true.mp tL_9_ok (1239, .iaload, 1) (List.mem_of_getElem? (i := 7) rfl))
set_option maxRecDepth 100000 in
theorem dL_law_1240 : decode cL_law 1240 = .ok (.invokevirtual 180, 3) := of_decide_eq_true (List.all_eq_true.mp tL_9_ok (1240, .invokevirtual 180, 3) (List.mem_of_getElem? (i := 8) rfl))
set_option maxRecDepth 100000 in
theorem dL_law_1243 : decode cL_law 1243 = .ok (.lstore 6, 2) := of_decide_eq_true (List.all_eq_true.mp tL_9_ok (1243, .lstore 6, 2) (List.mem_of_getElem? (i := 9) rfl))
set_option maxRecDepth 100000 in
theorem dL_law_1245 : decode cL_law 1245 = .ok (.aload_n 2, 1) := of_decide_eq_true (List.all_eq_true.mp tL_9_ok (1245, .aload_n 2, 1) (List.mem_of_getElem? (i := 10) rfl))
set_option maxRecDepth 100000 in
theorem dL_law_1246 : decode cL_law 1246 = .ok (.invokevirtual 118, 3) := of_decide_eq_true (List.all_eq_true.mp tL_9_ok (1246, .invokevirtual 118, 3) (List.mem_of_getElem? (i := 11) rfl))
set_option maxRecDepth 100000 in
theorem dL_law_1249 : decode cL_law 1249 = .ok (.iload 5, 2) := of_decide_eq_true (List.all_eq_true.mp tL_9_ok (1249, .iload 5, 2) (List.mem_of_getElem? (i := 12) rfl))
set_option maxRecDepth 100000 in
theorem dL_law_1251 : decode cL_law 1251 = .ok (.if_icmp .eq 5, 3) := of_decide_eq_true (List.all_eq_true.mp tL_9_ok (1251, .if_icmp .eq 5, 3) (List.mem_of_getElem? (i := 13) rfl))
set_option maxRecDepth 100000 in
theorem dL_law_1254 : decode cL_law 1254 = .ok (.iconst 0, 1) := of_decide_eq_true (List.all_eq_true.mp tL_9_ok (1254, .iconst 0, 1) (List.mem_of_getElem? (i := 14) rfl))
set_option maxRecDepth 100000 in
theorem dL_law_1255 : decode cL_law 1255 = .ok (.ireturn, 1) := of_decide_eq_true (List.all_eq_true.mp tL_9_ok (1255, .ireturn, 1) (List.mem_of_getElem? (i := 15) rfl))
set_option maxRecDepth 100000 in
theorem dL_law_1256 : decode cL_law 1256 = .ok (.iload 5, 2) := of_decide_eq_true (List.all_eq_true.mp tL_9_ok (1256, .iload 5, 2) (List.mem_of_getElem? (i := 16) rfl))
set_option maxRecDepth 100000 in
theorem dL_law_1258 : decode cL_law 1258 = .ok (.ifCond .ne 14, 3) := of_decide_eq_true (List.all_eq_true.mp tL_9_ok (1258, .ifCond .ne 14, 3) (List.mem_of_getElem? (i := 17) rfl))
set_option maxRecDepth 100000 in
theorem dL_law_1261 : decode cL_law 1261 = .ok (.aload_n 3, 1) := of_decide_eq_true (List.all_eq_true.mp tL_9_ok (1261, .aload_n 3, 1) (List.mem_of_getElem? (i := 18) rfl))
set_option maxRecDepth 100000 in
theorem dL_law_1262 : decode cL_law 1262 = .ok (.iconst 0, 1) := of_decide_eq_true (List.all_eq_true.mp tL_9_ok (1262, .iconst 0, 1) (List.mem_of_getElem? (i := 19) rfl))
set_option maxRecDepth 100000 in
theorem dL_law_1263 : decode cL_law 1263 = .ok (.laload, 1) := of_decide_eq_true (List.all_eq_true.mp tL_9_ok (1263, .laload, 1) (List.mem_of_getElem? (i := 20) rfl))
set_option maxRecDepth 100000 in
theorem dL_law_1264 : decode cL_law 1264 = .ok (.lload 6, 2) := of_decide_eq_true (List.all_eq_true.mp tL_9_ok (1264, .lload 6, 2) (List.mem_of_getElem? (i := 21) rfl))
set_option maxRecDepth 100000 in
theorem dL_law_1266 : decode cL_law 1266 = .ok (.lcmp, 1) := of_decide_eq_true (List.all_eq_true.mp tL_9_ok (1266, .lcmp, 1) (List.mem_of_getElem? (i := 22) rfl))
set_option maxRecDepth 100000 in
theorem dL_law_1267 : decode cL_law 1267 = .ok (.ifCond .eq 5, 3) := of_decide_eq_true (List.all_eq_true.mp tL_9_ok (1267, .ifCond .eq 5, 3) (List.mem_of_getElem? (i := 23) rfl))
set_option maxRecDepth 100000 in
theorem dL_law_1270 : decode cL_law 1270 = .ok (.iconst 0, 1) := of_decide_eq_true (List.all_eq_true.mp tL_9_ok (1270, .iconst 0, 1) (List.mem_of_getElem? (i := 24) rfl))
set_option maxRecDepth 100000 in
theorem dL_law_1271 : decode cL_law 1271 = .ok (.ireturn, 1) := of_decide_eq_true (List.all_eq_true.mp tL_9_ok (1271, .ireturn, 1) (List.mem_of_getElem? (i := 25) rfl))
set_option maxRecDepth 100000 in
theorem dL_law_1272 : decode cL_law 1272 = .ok (.goto 719, 3) := of_decide_eq_true (List.all_eq_true.mp tL_9_ok (1272, .goto 719, 3) (List.mem_of_getElem? (i := 26) rfl))
set_option maxRecDepth 100000 in
theorem dL_law_1275 : decode cL_law 1275 = .ok (.aload_n 1, 1) := of_decide_eq_true (List.all_eq_true.mp tL_9_ok (1275, .aload_n 1, 1) (List.mem_of_getElem? (i := 27) rfl))
set_option maxRecDepth 100000 in
theorem dL_law_1276 : decode cL_law 1276 = .ok (.aload_n 3, 1) := of_decide_eq_true (List.all_eq_true.mp tL_9_ok (1276, .aload_n 3, 1) (List.mem_of_getElem? (i := 28) rfl))
set_option maxRecDepth 100000 in
theorem dL_law_1277 : decode cL_law 1277 = .ok (.invokestatic 181, 3) := of_decide_eq_true (List.all_eq_true.mp tL_9_ok (1277, .invokestatic 181, 3) (List.mem_of_getElem? (i := 29) rfl))
def tL_10 : List (Nat × Instr × Nat) := [(1280, .istore 5, 2), (1282, .aload_n 2, 1), (1283, .invokevirtual 183, 3), (1286, .istore 6, 2), (1288, .aload_n 2, 1), (1289, .invokevirtual 118, 3), (1292, .iload 5, 2), (1294, .if_icmp .eq 5, 3), (1297, .iconst 0, 1), (1298, .ireturn, 1), (1299, .iload 5, 2), (1301, .ifCond .ne 15, 3), (1304, .aload_n 3, 1), (1305, .iconst 0, 1), (1306, .laload, 1), (1307, .iload 6, 2), (1309, .i2l, 1), (1310, .lcmp, 1), (1311, .ifCond .eq 5, 3), (1314, .iconst 0, 1), (1315, .ireturn, 1), (1316, .goto 675, 3), (1319, .aload_n 1, 1), (1320, .aload_n 0, 1), (1321, .iload 4, 2), (1323, .iconst 1, 1), (1324, .iadd, 1), (1325, .iaload, 1), (1326, .aload_n 3, 1), (1327, .invokestatic 184, 3)]
set_option maxRecDepth 100000 in
theorem tL_10_ok : tL_10.all (fun q => decide (decode cL_law q.1 = .ok (q.2.1, q.2.2))) = true := by decide +kernel
set_option maxRecDepth 100000 in
theorem dL_law_1280 : decode cL_law 1280 = .ok (.istore 5, 2) := of_decide_eq_true (List.all_eq_true.mp tL_10_ok (1280, .istore 5, 2) (List.mem_of_getElem? (i := 0) rfl))
set_option maxRecDepth 100000 in
theorem dL_law_1282 : decode cL_law 1282 = .ok (.aload_n 2, 1) := of_decide_eq_true (List.all_eq_true.mp tL_10_ok (1282, .aload_n 2, 1) (List.mem_of_getElem? (i := 1) rfl))
set_option maxRecDepth 100000 in
theorem dL_law_1283 : decode cL_law 1283 = .ok (.invokevirtual 183, 3) := of_decide_eq_true (List.all_eq_true.mp tL_10_ok (1283, .invokevirtual 183, 3) (List.mem_of_getElem? (i := 2) rfl))
set_option maxRecDepth 100000 in
theorem dL_law_1286 : decode cL_law 1286 = .ok (.istore 6, 2) := of_decide_eq_true (List.all_eq_true.mp tL_10_ok (1286, .istore 6, 2) (List.mem_of_getElem? (i := 3) rfl))
set_option maxRecDepth 100000 in
theorem dL_law_1288 : decode cL_law 1288 = .ok (.aload_n 2, 1) := of_decide_eq_true (List.all_eq_true.mp tL_10_ok (1288, .aload_n 2, 1) (List.mem_of_getElem? (i := 4) rfl))
set_option maxRecDepth 100000 in
theorem dL_law_1289 : decode cL_law 1289 = .ok (.invokevirtual 118, 3) := of_decide_eq_true (List.all_eq_true.mp tL_10_ok (1289, .invokevirtual 118, 3) (List.mem_of_getElem? (i := 5) rfl))
set_option maxRecDepth 100000 in
theorem dL_law_1292 : decode cL_law 1292 = .ok (.iload 5, 2) := of_decide_eq_true (List.all_eq_true.mp tL_10_ok (1292, .iload 5, 2) (List.mem_of_getElem? (i := 6) rfl))
set_option maxRecDepth 100000 in
theorem dL_law_1294 : decode cL_law 1294 = .ok (.if_icmp .eq 5, 3) := of_decide_eq_true (List.all_eq_true.mp tL_10_ok (1294, .if_icmp .eq 5, 3) (List.mem_of_getElem? (i := 7) rfl))
set_option maxRecDepth 100000 in
theorem dL_law_1297 : decode cL_law 1297 = .ok (.iconst 0, 1) := of_decide_eq_true (List.all_eq_true.mp tL_10_ok (1297, .iconst 0, 1) (List.mem_of_getElem? (i := 8) rfl))
set_option maxRecDepth 100000 in
theorem dL_law_1298 : decode cL_law 1298 = .ok (.ireturn, 1) := of_decide_eq_true (List.all_eq_true.mp tL_10_ok (1298, .ireturn, 1) (List.mem_of_getElem? (i := 9) rfl))
set_option maxRecDepth 100000 in
theorem dL_law_1299 : decode cL_law 1299 = .ok (.iload 5, 2) := of_decide_eq_true (List.all_eq_true.mp tL_10_ok (1299, .iload 5, 2) (List.mem_of_getElem? (i := 10) rfl))
set_option maxRecDepth 100000 in
theorem dL_law_1301 : decode cL_law 1301 = .ok (.ifCond .ne 15, 3) := of_decide_eq_true (List.all_eq_true.mp tL_10_ok (1301, .ifCond .ne 15, 3) (List.mem_of_getElem? (i := 11) rfl))
set_option maxRecDepth 100000 in
theorem dL_law_1304 : decode cL_law 1304 = .ok (.aload_n 3, 1) := of_decide_eq_true (List.all_eq_true.mp tL_10_ok (1304, .aload_n 3, 1) (List.mem_of_getElem? (i := 12) rfl))
set_option maxRecDepth 100000 in
theorem dL_law_1305 : decode cL_law 1305 = .ok (.iconst 0, 1) := of_decide_eq_true (List.all_eq_true.mp tL_10_ok (1305, .iconst 0, 1) (List.mem_of_getElem? (i := 13) rfl))
set_option maxRecDepth 100000 in
theorem dL_law_1306 : decode cL_law 1306 = .ok (.laload, 1) := of_decide_eq_true (List.all_eq_true.mp tL_10_ok (1306, .laload, 1) (List.mem_of_getElem? (i := 14) rfl))
set_option maxRecDepth 100000 in
theorem dL_law_1307 : decode cL_law 1307 = .ok (.iload 6, 2) := of_decide_eq_true (List.all_eq_true.mp tL_10_ok (1307, .iload 6, 2) (List.mem_of_getElem? (i := 15) rfl))
set_option maxRecDepth 100000 in
theorem dL_law_1309 : decode cL_law 1309 = .ok (.i2l, 1) := of_decide_eq_true (List.all_eq_true.mp tL_10_ok (1309, .i2l, 1) (List.mem_of_getElem? (i := 16) rfl))
set_option maxRecDepth 100000 in
theorem dL_law_1310 : decode cL_law 1310 = .ok (.lcmp, 1) := of_decide_eq_true (List.all_eq_true.mp tL_10_ok (1310, .lcmp, 1) (List.mem_of_getElem? (i := 17) rfl))
set_option maxRecDepth 100000 in
theorem dL_law_1311 : decode cL_law 1311 = .ok (.ifCond .eq 5, 3) := of_decide_eq_true (List.all_eq_true.mp tL_10_ok (1311, .ifCond .eq 5, 3) (List.mem_of_getElem? (i := 18) rfl))
set_option maxRecDepth 100000 in
theorem dL_law_1314 : decode cL_law 1314 = .ok (.iconst 0, 1) := of_decide_eq_true (List.all_eq_true.mp tL_10_ok (1314, .iconst 0, 1) (List.mem_of_getElem? (i := 19) rfl))
set_option maxRecDepth 100000 in
theorem dL_law_1315 : decode cL_law 1315 = .ok (.ireturn, 1) := of_decide_eq_true (List.all_eq_true.mp tL_10_ok (1315, .ireturn, 1) (List.mem_of_getElem? (i := 20) rfl))
set_option maxRecDepth 100000 in
theorem dL_law_1316 : decode cL_law 1316 = .ok (.goto 675, 3) := of_decide_eq_true (List.all_eq_true.mp tL_10_ok (1316, .goto 675, 3) (List.mem_of_getElem? (i := 21) rfl))
set_option maxRecDepth 100000 in
theorem dL_law_1319 : decode cL_law 1319 = .ok (.aload_n 1, 1) := of_decide_eq_true (List.all_eq_true.mp tL_10_ok (1319, .aload_n 1, 1) (List.mem_of_getElem? (i := 22) rfl))
set_option maxRecDepth 100000 in
theorem dL_law_1320 : decode cL_law 1320 = .ok (.aload_n 0, 1) := of_decide_eq_true (List.all_eq_true.mp tL_10_ok (1320, .aload_n 0, 1) (List.mem_of_getElem? (i := 23) rfl))
set_option maxRecDepth 100000 in
theorem dL_law_1321 : decode cL_law 1321 = .ok (.iload 4, 2) := of_decide_eq_true (List.all_eq_true.mp tL_10_ok (1321, .iload 4, 2) (List.mem_of_getElem? (i := 24) rfl))
set_option maxRecDepth 100000 in
theorem dL_law_1323 : decode cL_law 1323 = .ok (.iconst 1, 1) := of_decide_eq_true (List.all_eq_true.mp tL_10_ok (1323, .iconst 1, 1) (List.mem_of_getElem? (i := 25) rfl))
set_option maxRecDepth 100000 in
theorem dL_law_1324 : decode cL_law 1324 = .ok (.iadd, 1) := of_decide_eq_true (List.all_eq_true.mp tL_10_ok (1324, .iadd, 1) (List.mem_of_getElem? (i := 26) rfl))
set_option maxRecDepth 100000 in
theorem dL_law_1325 : decode cL_law 1325 = .ok (.iaload, 1) := of_decide_eq_true (List.all_eq_true.mp tL_10_ok (1325, .iaload, 1) (List.mem_of_getElem? (i := 27) rfl))
set_option maxRecDepth 100000 in
theorem dL_law_1326 : decode cL_law 1326 = .ok (.aload_n 3, 1) := of_decide_eq_true (List.all_eq_true.mp tL_10_ok (1326, .aload_n 3, 1) (List.mem_of_getElem? (i := 28) rfl))
set_option maxRecDepth 100000 in
theorem dL_law_1327 : decode cL_law 1327 = .ok (.invokestatic 184, 3) := of_decide_eq_true (List.all_eq_true.mp tL_10_ok (1327, .invokestatic 184, 3) (List.mem_of_getElem? (i := 29) rfl))
