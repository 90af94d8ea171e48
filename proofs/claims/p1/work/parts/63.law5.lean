theorem dL_law_1109 : decode cL_law 1109 = .ok (.aload_n 1, 1) := by decide +kernel
theorem dL_law_1110 : decode cL_law 1110 = .ok (.aload_n 0, 1) := by decide +kernel
theorem dL_law_1111 : decode cL_law 1111 = .ok (.iload 4, 2) := by decide +kernel
theorem dL_law_1113 : decode cL_law 1113 = .ok (.iconst 1, 1) := by decide +kernel
theorem dL_law_1114 : decode cL_law 1114 = .ok (.iadd, 1) := by decide +kernel
theorem dL_law_1115 : decode cL_law 1115 = .ok (.iaload, 1) := by decide +kernel
theorem dL_law_1116 : decode cL_law 1116 = .ok (.aload_n 0, 1) := by decide +kernel
theorem dL_law_1117 : decode cL_law 1117 = .ok (.iload 4, 2) := by decide +kernel
theorem dL_law_1119 : decode cL_law 1119 = .ok (.iconst 2, 1) := by decide +kernel
theorem dL_law_1120 : decode cL_law 1120 = .ok (.iadd, 1) := by decide +kernel
theorem dL_law_1121 : decode cL_law 1121 = .ok (.iaload, 1) := by decide +kernel
theorem dL_law_1122 : decode cL_law 1122 = .ok (.invokevirtual 116, 3) := by decide +kernel
theorem dL_law_1125 : decode cL_law 1125 = .ok (.aload_n 2, 1) := by decide +kernel
theorem dL_law_1126 : decode cL_law 1126 = .ok (.aload_n 0, 1) := by decide +kernel
theorem dL_law_1127 : decode cL_law 1127 = .ok (.iload 4, 2) := by decide +kernel
theorem dL_law_1129 : decode cL_law 1129 = .ok (.iconst 1, 1) := by decide +kernel
theorem dL_law_1130 : decode cL_law 1130 = .ok (.iadd, 1) := by decide +kernel
theorem dL_law_1131 : decode cL_law 1131 = .ok (.iaload, 1) := by decide +kernel
theorem dL_law_1132 : decode cL_law 1132 = .ok (.aload_n 0, 1) := by decide +kernel
theorem dL_law_1133 : decode cL_law 1133 = .ok (.iload 4, 2) := by decide +kernel
theorem dL_law_1135 : decode cL_law 1135 = .ok (.iconst 2, 1) := by decide +kernel
theorem dL_law_1136 : decode cL_law 1136 = .ok (.iadd, 1) := by decide +kernel
theorem dL_law_1137 : decode cL_law 1137 = .ok (.iaload, 1) := by decide +kernel
theorem dL_law_1138 : decode cL_law 1138 = .ok (.invokevirtual 119, 3) := by decide +kernel
theorem dL_law_1141 : decode cL_law 1141 = .ok (.if_icmp .eq 170, 3) := by decide +kernel
theorem dL_law_1146 : decode cL_law 1146 = .ok (.aload_n 1, 1) := by decide +kernel
theorem dL_law_1147 : decode cL_law 1147 = .ok (.aload_n 0, 1) := by decide +kernel
theorem dL_law_1148 : decode cL_law 1148 = .ok (.iload 4, 2) := by decide +kernel
theorem dL_law_1150 : decode cL_law 1150 = .ok (.iconst 1, 1) := by decide +kernel
theorem dL_law_1151 : decode cL_law 1151 = .ok (.iadd, 1) := by decide +kernel
theorem dL_law_1152 : decode cL_law 1152 = .ok (.iaload, 1) := by decide +kernel
theorem dL_law_1153 : decode cL_law 1153 = .ok (.aload_n 0, 1) := by decide +kernel
theorem dL_law_1154 : decode cL_law 1154 = .ok (.iload 4, 2) := by decide +kernel
theorem dL_law_1156 : decode cL_law 1156 = .ok (.iconst 2, 1) := by decide +kernel
theorem dL_law_1157 : decode cL_law 1157 = .ok (.iadd, 1) := by decide +kernel
theorem dL_law_1158 : decode cL_law 1158 = .ok (.iaload, 1) := by decide +kernel
theorem dL_law_1159 : decode cL_law 1159 = .ok (.invokevirtual 120, 3) := by decide +kernel
theorem dL_law_1162 : decode cL_law 1162 = .ok (.aload_n 2, 1) := by decide +kernel
theorem dL_law_1163 : decode cL_law 1163 = .ok (.aload_n 0, 1) := by decide +kernel
theorem dL_law_1164 : decode cL_law 1164 = .ok (.iload 4, 2) := by decide +kernel
theorem dL_law_1166 : decode cL_law 1166 = .ok (.iconst 1, 1) := by decide +kernel
theorem dL_law_1167 : decode cL_law 1167 = .ok (.iadd, 1) := by decide +kernel
theorem dL_law_1168 : decode cL_law 1168 = .ok (.iaload, 1) := by decide +kernel
theorem dL_law_1169 : decode cL_law 1169 = .ok (.aload_n 0, 1) := by decide +kernel
theorem dL_law_1170 : decode cL_law 1170 = .ok (.iload 4, 2) := by decide +kernel
theorem dL_law_1172 : decode cL_law 1172 = .ok (.iconst 2, 1) := by decide +kernel
theorem dL_law_1173 : decode cL_law 1173 = .ok (.iadd, 1) := by decide +kernel
theorem dL_law_1174 : decode cL_law 1174 = .ok (.iaload, 1) := by decide +kernel
theorem dL_law_1175 : decode cL_law 1175 = .ok (.invokevirtual 123, 3) := by decide +kernel
theorem dL_law_1178 : decode cL_law 1178 = .ok (.if_icmp .eq 133, 3) := by decide +kernel
theorem dL_law_1183 : decode cL_law 1183 = .ok (.aload_n 1, 1) := by decide +kernel
theorem dL_law_1184 : decode cL_law 1184 = .ok (.aload_n 0, 1) := by decide +kernel
theorem dL_law_1185 : decode cL_law 1185 = .ok (.iload 4, 2) := by decide +kernel
theorem dL_law_1187 : decode cL_law 1187 = .ok (.iconst 1, 1) := by decide +kernel
theorem dL_law_1188 : decode cL_law 1188 = .ok (.iadd, 1) := by decide +kernel
theorem dL_law_1189 : decode cL_law 1189 = .ok (.iaload, 1) := by decide +kernel
theorem dL_law_1190 : decode cL_law 1190 = .ok (.aload_n 0, 1) := by decide +kernel
theorem dL_law_1191 : decode cL_law 1191 = .ok (.iload 4, 2) := by decide +kernel
theorem dL_law_1193 : decode cL_law 1193 = .ok (.iconst 2, 1) := by decide +kernel
theorem dL_law_1194 : decode cL_law 1194 = .ok (.iadd, 1) := by decide +kernel
theorem dL_law_1195 : decode cL_law 1195 = .ok (.iaload, 1) := by decide +kernel
theorem dL_law_1196 : decode cL_law 1196 = .ok (.invokevirtual 124, 3) := by decide +kernel
theorem dL_law_1199 : decode cL_law 1199 = .ok (.aload_n 2, 1) := by decide +kernel
theorem dL_law_1200 : decode cL_law 1200 = .ok (.aload_n 0, 1) := by decide +kernel
theorem dL_law_1201 : decode cL_law 1201 = .ok (.iload 4, 2) := by decide +kernel
theorem dL_law_1203 : decode cL_law 1203 = .ok (.iconst 1, 1) := by decide +kernel
theorem dL_law_1204 : decode cL_law 1204 = .ok (.iadd, 1) := by decide +kernel
theorem dL_law_1205 : decode cL_law 1205 = .ok (.iaload, 1) := by decide +kernel
theorem dL_law_1206 : decode cL_law 1206 = .ok (.aload_n 0, 1) := by decide +kernel
theorem dL_law_1207 : decode cL_law 1207 = .ok (.iload 4, 2) := by decide +kernel
theorem dL_law_1209 : decode cL_law 1209 = .ok (.iconst 2, 1) := by decide +kernel
theorem dL_law_1210 : decode cL_law 1210 = .ok (.iadd, 1) := by decide +kernel
theorem dL_law_1211 : decode cL_law 1211 = .ok (.iaload, 1) := by decide +kernel
theorem dL_law_1212 : decode cL_law 1212 = .ok (.invokevirtual 127, 3) := by decide +kernel
theorem dL_law_1215 : decode cL_law 1215 = .ok (.if_icmp .eq 96, 3) := by decide +kernel
theorem dL_law_1220 : decode cL_law 1220 = .ok (.aload_n 1, 1) := by decide +kernel
theorem dL_law_1221 : decode cL_law 1221 = .ok (.invokevirtual 128, 3) := by decide +kernel
theorem dL_law_1224 : decode cL_law 1224 = .ok (.aload_n 2, 1) := by decide +kernel
theorem dL_law_1225 : decode cL_law 1225 = .ok (.invokevirtual 131, 3) := by decide +kernel
theorem dL_law_1228 : decode cL_law 1228 = .ok (.if_icmp .eq 83, 3) := by decide +kernel
theorem dL_law_1233 : decode cL_law 1233 = .ok (.aload_n 1, 1) := by decide +kernel
theorem dL_law_1234 : decode cL_law 1234 = .ok (.aload_n 0, 1) := by decide +kernel
theorem dL_law_1235 : decode cL_law 1235 = .ok (.iload 4, 2) := by decide +kernel
theorem dL_law_1237 : decode cL_law 1237 = .ok (.iconst 1, 1) := by decide +kernel
theorem dL_law_1238 : decode cL_law 1238 = .ok (.iadd, 1) := by decide +kernel
theorem dL_law_1239 : decode cL_law 1239 = .ok (.iaload, 1) := by decide +kernel
theorem dL_law_1240 : decode cL_law 1240 = .ok (.aload_n 0, 1) := by decide +kernel
theorem dL_law_1241 : decode cL_law 1241 = .ok (.iload 4, 2) := by decide +kernel
theorem dL_law_1243 : decode cL_law 1243 = .ok (.iconst 2, 1) := by decide +kernel
theorem dL_law_1244 : decode cL_law 1244 = .ok (.iadd, 1) := by decide +kernel
theorem dL_law_1245 : decode cL_law 1245 = .ok (.iaload, 1) := by decide +kernel
theorem dL_law_1246 : decode cL_law 1246 = .ok (.ifCond .eq 7, 3) := by decide +kernel
theorem dL_law_1249 : decode cL_law 1249 = .ok (.iconst 1, 1) := by decide +kernel
theorem dL_law_1250 : decode cL_law 1250 = .ok (.goto 4, 3) := by decide +kernel
theorem dL_law_1253 : decode cL_law 1253 = .ok (.iconst 0, 1) := by decide +kernel
theorem dL_law_1254 : decode cL_law 1254 = .ok (.invokevirtual 132, 3) := by decide +kernel
theorem dL_law_1257 : decode cL_law 1257 = .ok (.aload_n 2, 1) := by decide +kernel
theorem dL_law_1258 : decode cL_law 1258 = .ok (.aload_n 0, 1) := by decide +kernel
theorem dL_law_1259 : decode cL_law 1259 = .ok (.iload 4, 2) := by decide +kernel
theorem dL_law_1261 : decode cL_law 1261 = .ok (.iconst 1, 1) := by decide +kernel
theorem dL_law_1262 : decode cL_law 1262 = .ok (.iadd, 1) := by decide +kernel
theorem dL_law_1263 : decode cL_law 1263 = .ok (.iaload, 1) := by decide +kernel
theorem dL_law_1264 : decode cL_law 1264 = .ok (.aload_n 0, 1) := by decide +kernel
theorem dL_law_1265 : decode cL_law 1265 = .ok (.iload 4, 2) := by decide +kernel
theorem dL_law_1267 : decode cL_law 1267 = .ok (.iconst 2, 1) := by decide +kernel
theorem dL_law_1268 : decode cL_law 1268 = .ok (.iadd, 1) := by decide +kernel
theorem dL_law_1269 : decode cL_law 1269 = .ok (.iaload, 1) := by decide +kernel
theorem dL_law_1270 : decode cL_law 1270 = .ok (.ifCond .eq 7, 3) := by decide +kernel
theorem dL_law_1273 : decode cL_law 1273 = .ok (.iconst 1, 1) := by decide +kernel
theorem dL_law_1274 : decode cL_law 1274 = .ok (.goto 4, 3) := by decide +kernel
theorem dL_law_1277 : decode cL_law 1277 = .ok (.iconst 0, 1) := by decide +kernel
theorem dL_law_1278 : decode cL_law 1278 = .ok (.invokevirtual 136, 3) := by decide +kernel
theorem dL_law_1281 : decode cL_law 1281 = .ok (.if_icmp .eq 30, 3) := by decide +kernel
theorem dL_law_1286 : decode cL_law 1286 = .ok (.aload_n 1, 1) := by decide +kernel
theorem dL_law_1287 : decode cL_law 1287 = .ok (.aload_n 0, 1) := by decide +kernel
theorem dL_law_1288 : decode cL_law 1288 = .ok (.iload 4, 2) := by decide +kernel
theorem dL_law_1290 : decode cL_law 1290 = .ok (.iconst 1, 1) := by decide +kernel
theorem dL_law_1291 : decode cL_law 1291 = .ok (.iadd, 1) := by decide +kernel
theorem dL_law_1292 : decode cL_law 1292 = .ok (.iaload, 1) := by decide +kernel
theorem dL_law_1293 : decode cL_law 1293 = .ok (.invokevirtual 137, 3) := by decide +kernel
theorem dL_law_1296 : decode cL_law 1296 = .ok (.aload_n 2, 1) := by decide +kernel
theorem dL_law_1297 : decode cL_law 1297 = .ok (.aload_n 0, 1) := by decide +kernel
theorem dL_law_1298 : decode cL_law 1298 = .ok (.iload 4, 2) := by decide +kernel
theorem dL_law_1300 : decode cL_law 1300 = .ok (.iconst 1, 1) := by decide +kernel
theorem dL_law_1301 : decode cL_law 1301 = .ok (.iadd, 1) := by decide +kernel
theorem dL_law_1302 : decode cL_law 1302 = .ok (.iaload, 1) := by decide +kernel
theorem dL_law_1303 : decode cL_law 1303 = .ok (.invokevirtual 140, 3) := by decide +kernel
theorem dL_law_1306 : decode cL_law 1306 = .ok (.if_icmp .eq 5, 3) := by decide +kernel
theorem qw_565 : (Cond.code yX8_lift cX8_lift 5 (some .int) : Cond) ∈ TBL := List.mem_of_getElem? (i := 910) (by decide +kernel)
theorem qw_566 : (Cond.methodLink RL 116 yX8_lift : Cond) ∈ TBL := List.mem_of_getElem? (i := 907) (by decide +kernel)
theorem qw_567 : (Cond.instanceMethod yX8_lift : Cond) ∈ TBL := List.mem_of_getElem? (i := 908) (by decide +kernel)
theorem qw_568 : (Cond.selects RX8 yX8_lift yX8_lift : Cond) ∈ TBL := List.mem_of_getElem? (i := 909) (by decide +kernel)
theorem qw_569 : (Cond.code yX9_lift cX9_lift 4 (some .int) : Cond) ∈ TBL := List.mem_of_getElem? (i := 914) (by decide +kernel)
theorem qw_570 : (Cond.methodLink RL 119 yX9_lift : Cond) ∈ TBL := List.mem_of_getElem? (i := 911) (by decide +kernel)
theorem qw_571 : (Cond.instanceMethod yX9_lift : Cond) ∈ TBL := List.mem_of_getElem? (i := 912) (by decide +kernel)
theorem qw_572 : (Cond.selects RX9 yX9_lift yX9_lift : Cond) ∈ TBL := List.mem_of_getElem? (i := 913) (by decide +kernel)
theorem qw_573 : (Cond.code yX8_died cX8_died 5 (some .int) : Cond) ∈ TBL := List.mem_of_getElem? (i := 918) (by decide +kernel)
theorem qw_574 : (Cond.methodLink RL 120 yX8_died : Cond) ∈ TBL := List.mem_of_getElem? (i := 915) (by decide +kernel)
theorem qw_575 : (Cond.instanceMethod yX8_died : Cond) ∈ TBL := List.mem_of_getElem? (i := 916) (by decide +kernel)
theorem qw_576 : (Cond.selects RX8 yX8_died yX8_died : Cond) ∈ TBL := List.mem_of_getElem? (i := 917) (by decide +kernel)
theorem qw_577 : (Cond.code yX9_died cX9_died 4 (some .int) : Cond) ∈ TBL := List.mem_of_getElem? (i := 922) (by decide +kernel)
theorem qw_578 : (Cond.methodLink RL 123 yX9_died : Cond) ∈ TBL := List.mem_of_getElem? (i := 919) (by decide +kernel)
theorem qw_579 : (Cond.instanceMethod yX9_died : Cond) ∈ TBL := List.mem_of_getElem? (i := 920) (by decide +kernel)
theorem qw_580 : (Cond.selects RX9 yX9_died yX9_died : Cond) ∈ TBL := List.mem_of_getElem? (i := 921) (by decide +kernel)
theorem qw_581 : (Cond.code yX8_put cX8_put 5 (some .int) : Cond) ∈ TBL := List.mem_of_getElem? (i := 926) (by decide +kernel)
theorem qw_582 : (Cond.methodLink RL 124 yX8_put : Cond) ∈ TBL := List.mem_of_getElem? (i := 923) (by decide +kernel)
theorem qw_583 : (Cond.instanceMethod yX8_put : Cond) ∈ TBL := List.mem_of_getElem? (i := 924) (by decide +kernel)
theorem qw_584 : (Cond.selects RX8 yX8_put yX8_put : Cond) ∈ TBL := List.mem_of_getElem? (i := 925) (by decide +kernel)
theorem qw_585 : (Cond.code yX9_put cX9_put 4 (some .int) : Cond) ∈ TBL := List.mem_of_getElem? (i := 930) (by decide +kernel)
theorem qw_586 : (Cond.methodLink RL 127 yX9_put : Cond) ∈ TBL := List.mem_of_getElem? (i := 927) (by decide +kernel)
theorem qw_587 : (Cond.instanceMethod yX9_put : Cond) ∈ TBL := List.mem_of_getElem? (i := 928) (by decide +kernel)
theorem qw_588 : (Cond.selects RX9 yX9_put yX9_put : Cond) ∈ TBL := List.mem_of_getElem? (i := 929) (by decide +kernel)
theorem qw_589 : (Cond.code yX8_undo cX8_undo 1 (some .int) : Cond) ∈ TBL := List.mem_of_getElem? (i := 934) (by decide +kernel)
theorem qw_590 : (Cond.methodLink RL 128 yX8_undo : Cond) ∈ TBL := List.mem_of_getElem? (i := 931) (by decide +kernel)
theorem qw_591 : (Cond.instanceMethod yX8_undo : Cond) ∈ TBL := List.mem_of_getElem? (i := 932) (by decide +kernel)
theorem qw_592 : (Cond.selects RX8 yX8_undo yX8_undo : Cond) ∈ TBL := List.mem_of_getElem? (i := 933) (by decide +kernel)
theorem qw_593 : (Cond.code yX9_undo cX9_undo 2 (some .int) : Cond) ∈ TBL := List.mem_of_getElem? (i := 944) (by decide +kernel)
theorem qw_594 : (Cond.methodLink RL 131 yX9_undo : Cond) ∈ TBL := List.mem_of_getElem? (i := 941) (by decide +kernel)
theorem qw_595 : (Cond.instanceMethod yX9_undo : Cond) ∈ TBL := List.mem_of_getElem? (i := 942) (by decide +kernel)
theorem qw_596 : (Cond.selects RX9 yX9_undo yX9_undo : Cond) ∈ TBL := List.mem_of_getElem? (i := 943) (by decide +kernel)
theorem qw_597 : (Cond.code yX8_keep cX8_keep 3 (some .boolean) : Cond) ∈ TBL := List.mem_of_getElem? (i := 948) (by decide +kernel)
theorem qw_598 : (Cond.methodLink RL 132 yX8_keep : Cond) ∈ TBL := List.mem_of_getElem? (i := 945) (by decide +kernel)
theorem qw_599 : (Cond.instanceMethod yX8_keep : Cond) ∈ TBL := List.mem_of_getElem? (i := 946) (by decide +kernel)
theorem qw_600 : (Cond.selects RX8 yX8_keep yX8_keep : Cond) ∈ TBL := List.mem_of_getElem? (i := 947) (by decide +kernel)
theorem qw_601 : (Cond.code yX9_keep cX9_keep 4 (some .boolean) : Cond) ∈ TBL := List.mem_of_getElem? (i := 956) (by decide +kernel)
theorem qw_602 : (Cond.methodLink RL 136 yX9_keep : Cond) ∈ TBL := List.mem_of_getElem? (i := 953) (by decide +kernel)
theorem qw_603 : (Cond.instanceMethod yX9_keep : Cond) ∈ TBL := List.mem_of_getElem? (i := 954) (by decide +kernel)
theorem qw_604 : (Cond.selects RX9 yX9_keep yX9_keep : Cond) ∈ TBL := List.mem_of_getElem? (i := 955) (by decide +kernel)
theorem qw_605 : (Cond.code yX8_count cX8_count 2 (some .int) : Cond) ∈ TBL := List.mem_of_getElem? (i := 960) (by decide +kernel)
theorem qw_606 : (Cond.methodLink RL 137 yX8_count : Cond) ∈ TBL := List.mem_of_getElem? (i := 957) (by decide +kernel)
theorem qw_607 : (Cond.instanceMethod yX8_count : Cond) ∈ TBL := List.mem_of_getElem? (i := 958) (by decide +kernel)
theorem qw_608 : (Cond.selects RX8 yX8_count yX8_count : Cond) ∈ TBL := List.mem_of_getElem? (i := 959) (by decide +kernel)
theorem qw_609 : (Cond.code yX9_count cX9_count 2 (some .int) : Cond) ∈ TBL := List.mem_of_getElem? (i := 970) (by decide +kernel)
theorem qw_610 : (Cond.methodLink RL 140 yX9_count : Cond) ∈ TBL := List.mem_of_getElem? (i := 967) (by decide +kernel)
theorem qw_611 : (Cond.instanceMethod yX9_count : Cond) ∈ TBL := List.mem_of_getElem? (i := 968) (by decide +kernel)
theorem qw_612 : (Cond.selects RX9 yX9_count yX9_count : Cond) ∈ TBL := List.mem_of_getElem? (i := 969) (by decide +kernel)
set_option maxHeartbeats 4000000 in
set_option maxRecDepth 100000 in
theorem law_22 {p : Program} {e : Env} {s : State} {m : MethodId} {below : List Frame} {meth : Method} {c : Code} (l : Launch) {b0 : Nat} {xs : Nat → Int32} (C0 : lw_At p s m meth c b0 6 xs) (dC : Nat → ClassId) (dI : Nat → Nat → Nat) (g : Gv) (x0 : Nat) (b : Nat → Nat) (f4 : Nat → Nat) (c4 : ClassId) (f5 : Nat → Nat) (f7 : Nat → Nat) (f6 : Nat → Nat) (f2 : Nat → Nat) (cK : ClassId) (kf : Nat → Option Nat) (cZ : ClassId) (fT : Nat → Nat) (fU : Nat → Nat) (sa : Nat → Nat) (sf : Nat → Nat → Nat) (sc : Nat → Nat → ClassId) (spf : Nat → Nat → Int32) (sdf : Nat → Nat → Int32) (slf : Nat → Nat → Int32) (srf : Nat → Nat → Int32) (sga : Nat → Nat → Option Nat) (sgb : Nat → Nat → Option Nat) (rows : va_W) (m0 : Nat) (a : Nat → Nat) (ca : Nat → ClassId) (o0 : Nat)   {H : Heap} {locs : List Loc} {ls : Array Slot} (hK : va_K (dC, dI) vwCl [((ca 21), .int)] s) (hP : va_P (dC, dI) vwCl [(x0, .inr (7, [.ref (b 0), .ref (b 1), .ref (b 2), .ref (b 3), .ref (b 4), .ref (b 5), .ref (b 6), .ref (b 7), .ref (b 8), .ref (b 9), .int 1])), ((b 6), .inr (0, [.int 0, .ref (fT 1), .int 0, .ref (fT 3), .int 0, .ref (fT 5), .ref (fT 6), .ref (fT 7), .int 0, .ref (fT 9), .ref (fT 10), .ref (fT 11), .ref (fT 12), .ref (fT 13)])), (m0, .inr (8, [.int 0, .int 0, .int 0, .int 0, .ref (a 4), .int 0, .int 0, .int 0, .int 0, .int 0, .int 0, .long 0, .int 0, .int 0, .int 0, .int 0, .int 0, .int 0, .ref (a 18), .ref (a 19), .ref (a 20), .ref (a 21), .ref (a 22), .ref (a 23), .ref (a 24), .ref (a 25), .ref (a 26), .ref (a 27), .ref (a 28), .ref (a 29), .ref (a 30), .ref (a 31), .ref (a 32), .ref (a 33), .ref (a 34), .ref (a 35), .long 0, .int 0, .ref (a 38), .ref (a 39), .int 0, .ref (a 41), .ref (a 42), .ref (a 43)])), ((a 21), .inl ((ca 21), 2, .inl (fun _ => 0)))] H) (hD : va_D (fun q : Nat => s.heap.size ≤ q) [(x0, .inr (7, [.ref (b 0), .ref (b 1), .ref (b 2), .ref (b 3), .ref (b 4), .ref (b 5), .ref (b 6), .ref (b 7), .ref (b 8), .ref (b 9), .int 1])), ((b 6), .inr (0, [.int 0, .ref (fT 1), .int 0, .ref (fT 3), .int 0, .ref (fT 5), .ref (fT 6), .ref (fT 7), .int 0, .ref (fT 9), .ref (fT 10), .ref (fT 11), .ref (fT 12), .ref (fT 13)])), (m0, .inr (8, [.int 0, .int 0, .int 0, .int 0, .ref (a 4), .int 0, .int 0, .int 0, .int 0, .int 0, .int 0, .long 0, .int 0, .int 0, .int 0, .int 0, .int 0, .int 0, .ref (a 18), .ref (a 19), .ref (a 20), .ref (a 21), .ref (a 22), .ref (a 23), .ref (a 24), .ref (a 25), .ref (a 26), .ref (a 27), .ref (a 28), .ref (a 29), .ref (a 30), .ref (a 31), .ref (a 32), .ref (a 33), .ref (a 34), .ref (a 35), .long 0, .int 0, .ref (a 38), .ref (a 39), .int 0, .ref (a 41), .ref (a 42), .ref (a 43)])), ((a 21), .inl ((ca 21), 2, .inl (fun _ => 0)))]) (hS : va_S (fun q : Nat => s.heap.size ≤ q) s.heap H locs) (hE : Ev g (fun q : Nat => s.heap.size ≤ q) s) (hl : lv_has ls 7 [(4, .int 0), (3, .ref o0), (2, .ref m0), (1, .ref x0), (0, .ref b0)]) : W p l e room_1 s m #[Value.ref b0] below meth c H locs 243 7586 (lw_Z below #[Value.ref b0] s) (F0 m 1109 ls []) := by
  obtain ⟨hx, hb, hr, hml, hown, hts0, hX, hbl, hlocks, hgv⟩ := id C0
  have hts := fun (w : Cond) (h : w ∈ TBL) => hts0 w (TBin w h)
  have hown : s.vm.findClass RL = some m.cls := hown
  have hN := hE.1
  have hA : ∀ q : Nat, s.heap.size ≤ q → (fun q : Nat => s.heap.size ≤ q) q := fun _ h => h
  have hbA : ¬ (fun q : Nat => s.heap.size ≤ q) b0 := Nat.not_le.mpr hbl
  generalize hAe : (fun q : Nat => s.heap.size ≤ q) = A at hD hS hE hA hbA
  refine lv_aload_n hx hb dL_law_1109 rfl (lv_at hl 3 rfl) ?_
  refine lv_aload_n hx hb dL_law_1110 rfl (lv_at hl 4 rfl) ?_
  refine lv_iload hx hb dL_law_1111 (lv_at hl 0 rfl) ?_
  refine lv_iconst (v := 1) hx hb dL_law_1113 (by decide) ?_
  refine lv_iadd hx hb dL_law_1114 ?_
  refine cst (v := 1) (by decide) ?_
  refine va_sld hx hb hX hbl hbA hS (vin0 (by decide)) dL_law_1115 ?_
  refine cst (v := (xs 1)) (congrArg xs (show (1 : Int32).toNatClampNeg = 1 by decide)) ?_
  refine lv_aload_n hx hb dL_law_1116 rfl (lv_at hl 4 rfl) ?_
  refine lv_iload hx hb dL_law_1117 (lv_at hl 0 rfl) ?_
  refine lv_iconst (v := 2) hx hb dL_law_1119 (by decide) ?_
  refine lv_iadd hx hb dL_law_1120 ?_
  refine cst (v := 2) (by decide) ?_
  refine va_sld hx hb hX hbl hbA hS (vin0 (by decide)) dL_law_1121 ?_
  refine cst (v := (xs 2)) (congrArg xs (show (2 : Int32).toNatClampNeg = 2 by decide)) ?_
  have hPc := hP.sub (ws' := [(x0, .inr (7, [.ref (b 0), .ref (b 1), .ref (b 2), .ref (b 3), .ref (b 4), .ref (b 5), .ref (b 6), .ref (b 7), .ref (b 8), .ref (b 9), .int 1])), ((b 6), .inr (0, [.int 0, .ref (fT 1), .int 0, .ref (fT 3), .int 0, .ref (fT 5), .ref (fT 6), .ref (fT 7), .int 0, .ref (fT 9), .ref (fT 10), .ref (fT 11), .ref (fT 12), .ref (fT 13)]))]) [0, 1] rfl
  have hKc := hK.sub (tys' := []) [] rfl
  refine vp_callSi ((va_runV (As := [.int (xs 1), .int (xs 2)]) (rest := []) ⟨hx, hb, hml, hown, hts⟩ (c_8lift l dC dI g (x0) (b) (f4) (c4) (f5) (f7) (f6) (f2) (cK) (kf) (cZ) (fT) (fU) (sa) (sf) (sc) (spf) (sdf) (slf) (srf) (sga) (sgb) (rows) ((xs 1)) ((xs 2)) ) (cwV 2 hts (gwV qw_566 qw_567 qw_568 qw_69 qw_565) rfl rfl rfl (by decide +kernel) ⟨Nat.le_of_ble_eq_true rfl, Nat.le_of_ble_eq_true rfl⟩) ⟨fun a U g9 mk q => ⟨q.1, q.2.1, va_K.moved (u := U) (U := U.calling g9 mk a) (Vm.Alike.refl U.vm) q.2.2.1, Ev.bl q.2.2.2⟩, va_recv hK hP (ci := 7) (q0 := 0) rfl rfl, fun U hU hW => ⟨rfl, by rw [hU]; exact hPc, va_K.moved hW.alike hKc, hE.go hS (fun _ h => h.elim) hU hW⟩⟩ rfl rfl hl.1 rfl (lv_room (Nat.le_of_ble_eq_true rfl)) dL_law_1122 ⟨Nat.le_of_ble_eq_true rfl, Nat.le_of_ble_eq_true rfl⟩)).run (fun r1 h_r1 => ?_)
  have h_r1 : r1 = (-2) := h_r1
  subst h_r1
  refine lv_aload_n hx hb dL_law_1125 rfl (lv_at hl 2 rfl) ?_
  refine lv_aload_n hx hb dL_law_1126 rfl (lv_at hl 4 rfl) ?_
  refine lv_iload hx hb dL_law_1127 (lv_at hl 0 rfl) ?_
  refine lv_iconst (v := 1) hx hb dL_law_1129 (by decide) ?_
  refine lv_iadd hx hb dL_law_1130 ?_
  refine cst (v := 1) (by decide) ?_
  refine va_sld hx hb hX hbl hbA hS (vin0 (by decide)) dL_law_1131 ?_
  refine cst (v := (xs 1)) (congrArg xs (show (1 : Int32).toNatClampNeg = 1 by decide)) ?_
  refine lv_aload_n hx hb dL_law_1132 rfl (lv_at hl 4 rfl) ?_
  refine lv_iload hx hb dL_law_1133 (lv_at hl 0 rfl) ?_
  refine lv_iconst (v := 2) hx hb dL_law_1135 (by decide) ?_
  refine lv_iadd hx hb dL_law_1136 ?_
  refine cst (v := 2) (by decide) ?_
  refine va_sld hx hb hX hbl hbA hS (vin0 (by decide)) dL_law_1137 ?_
  refine cst (v := (xs 2)) (congrArg xs (show (2 : Int32).toNatClampNeg = 2 by decide)) ?_
  have hPc := hP.sub (ws' := [(m0, .inr (8, [.int 0, .int 0, .int 0, .int 0, .ref (a 4), .int 0, .int 0, .int 0, .int 0, .int 0, .int 0, .long 0, .int 0, .int 0, .int 0, .int 0, .int 0, .int 0, .ref (a 18), .ref (a 19), .ref (a 20), .ref (a 21), .ref (a 22), .ref (a 23), .ref (a 24), .ref (a 25), .ref (a 26), .ref (a 27), .ref (a 28), .ref (a 29), .ref (a 30), .ref (a 31), .ref (a 32), .ref (a 33), .ref (a 34), .ref (a 35), .long 0, .int 0, .ref (a 38), .ref (a 39), .int 0, .ref (a 41), .ref (a 42), .ref (a 43)])), ((a 21), .inl ((ca 21), 2, .inl (fun _ => 0)))]) [2, 3] rfl
  have hKc := hK.sub (tys' := [((ca 21), .int)]) [0] rfl
  have hDc := hD.sub (ws' := [(m0, .inr (8, [.int 0, .int 0, .int 0, .int 0, .ref (a 4), .int 0, .int 0, .int 0, .int 0, .int 0, .int 0, .long 0, .int 0, .int 0, .int 0, .int 0, .int 0, .int 0, .ref (a 18), .ref (a 19), .ref (a 20), .ref (a 21), .ref (a 22), .ref (a 23), .ref (a 24), .ref (a 25), .ref (a 26), .ref (a 27), .ref (a 28), .ref (a 29), .ref (a 30), .ref (a 31), .ref (a 32), .ref (a 33), .ref (a 34), .ref (a 35), .long 0, .int 0, .ref (a 38), .ref (a 39), .int 0, .ref (a 41), .ref (a 42), .ref (a 43)])), ((a 21), .inl ((ca 21), 2, .inl (fun _ => 0)))]) [2, 3] (by decide) rfl
  have hFc := va_free (wc := [(m0, .inr (8, [.int 0, .int 0, .int 0, .int 0, .ref (a 4), .int 0, .int 0, .int 0, .int 0, .int 0, .int 0, .long 0, .int 0, .int 0, .int 0, .int 0, .int 0, .int 0, .ref (a 18), .ref (a 19), .ref (a 20), .ref (a 21), .ref (a 22), .ref (a 23), .ref (a 24), .ref (a 25), .ref (a 26), .ref (a 27), .ref (a 28), .ref (a 29), .ref (a 30), .ref (a 31), .ref (a 32), .ref (a 33), .ref (a 34), .ref (a 35), .long 0, .int 0, .ref (a 38), .ref (a 39), .int 0, .ref (a 41), .ref (a 42), .ref (a 43)])), ((a 21), .inl ((ca 21), 2, .inl (fun _ => 0)))]) hD hS hA [2, 3] rfl
  refine va_calli (va_runV (As := [.int (xs 1), .int (xs 2)]) (rest := [.int (-2)]) ⟨hx, hb, hml, hown, hts⟩ (c_9lift l dC dI g H.size (m0) (a) (ca) ((xs 1)) ((xs 2)) ) (cwV 2 hts (gwV qw_570 qw_571 qw_572 qw_23 qw_569) rfl rfl rfl (by decide +kernel) ⟨Nat.le_of_ble_eq_true rfl, Nat.le_of_ble_eq_true rfl⟩) ⟨fun a U g9 mk q => ⟨q.1, q.2.1, q.2.2.1, va_K.moved (u := U) (U := U.calling g9 mk a) (Vm.Alike.refl U.vm) q.2.2.2.1, q.2.2.2.2.1, Ev.bl q.2.2.2.2.2⟩, va_recv hK hP (ci := 8) (q0 := 2) rfl rfl, fun U hU hW => ⟨rfl, by rw [hU], by rw [hU]; exact hPc, va_K.moved hW.alike hKc, hDc.weaken (fun _ _ _ _ => trivial), hE.go hS hFc hU hW⟩⟩ rfl rfl hl.1 rfl (lv_room (Nat.le_of_ble_eq_true rfl)) dL_law_1138 ⟨Nat.le_of_ble_eq_true rfl, Nat.le_of_ble_eq_true rfl⟩) hS (fun q _ h => hFc q h) hFc (fun r3 u2 t H1 locs ht hvm h_u2 hB hz1 hk1 hS => ?_)
  obtain ⟨hP, hD⟩ := va_join (wr := [(x0, .inr (7, [.ref (b 0), .ref (b 1), .ref (b 2), .ref (b 3), .ref (b 4), .ref (b 5), .ref (b 6), .ref (b 7), .ref (b 8), .ref (b 9), .int 1])), ((b 6), .inr (0, [.int 0, .ref (fT 1), .int 0, .ref (fT 3), .int 0, .ref (fT 5), .ref (fT 6), .ref (fT 7), .int 0, .ref (fT 9), .ref (fT 10), .ref (fT 11), .ref (fT 12), .ref (fT 13)]))]) (w1 := []) hP hD [2, 3] [0, 1] rfl rfl (by decide) (by decide) hk1 hFc va_P0 va_D0
  generalize H1 = H at hP hS ⊢
  have hP : va_P (dC, dI) vwCl [(x0, .inr (7, [.ref (b 0), .ref (b 1), .ref (b 2), .ref (b 3), .ref (b 4), .ref (b 5), .ref (b 6), .ref (b 7), .ref (b 8), .ref (b 9), .int 1])), ((b 6), .inr (0, [.int 0, .ref (fT 1), .int 0, .ref (fT 3), .int 0, .ref (fT 5), .ref (fT 6), .ref (fT 7), .int 0, .ref (fT 9), .ref (fT 10), .ref (fT 11), .ref (fT 12), .ref (fT 13)]))] H := hP
  have hD : va_D A [(x0, .inr (7, [.ref (b 0), .ref (b 1), .ref (b 2), .ref (b 3), .ref (b 4), .ref (b 5), .ref (b 6), .ref (b 7), .ref (b 8), .ref (b 9), .int 1])), ((b 6), .inr (0, [.int 0, .ref (fT 1), .int 0, .ref (fT 3), .int 0, .ref (fT 5), .ref (fT 6), .ref (fT 7), .int 0, .ref (fT 9), .ref (fT 10), .ref (fT 11), .ref (fT 12), .ref (fT 13)]))] := hD
  refine W.widen (k := 243) (n := 7586) (Nat.le_of_ble_eq_true rfl) (Nat.le_of_ble_eq_true rfl) ?_
  have h_u2 : r3 = (-2) := h_u2
  subst h_u2
  refine lv_icmp_eq (tgt := 1311) hx hb dL_law_1141 (by decide) (fun c1141_4 => ?_) (fun c1141_4 => by exfalso; exact absurd c1141_4 (by decide))
  refine lv_iinc (v := 6) (lv' := [(4, .int 6), (3, .ref o0), (2, .ref m0), (1, .ref x0), (0, .ref b0)]) hx hb dL_law_1311 hl (k := 0) rfl (by decide) (by decide) rfl (fun ls hl => ?_)
  refine lv_goto (tgt := 23) hx hb dL_law_1314 (by decide) ?_
  refine lv_iload hx hb dL_law_23 (lv_at hl 0 rfl) ?_
  refine lv_aload_n hx hb dL_law_25 rfl (lv_at hl 4 rfl) ?_
  refine va_slen hx hb hX hbl hbA hS dL_law_26 ?_
  refine cst (v := 6) (by decide) ?_
  refine lv_bipush (v := 6) hx hb dL_law_27 (by decide) ?_
  refine lv_isub hx hb dL_law_29 ?_
  refine cst (v := 0) (by decide) ?_
  refine lv_icmp_gt (tgt := 1317) hx hb dL_law_30 (by decide) (fun c30_5 => ?_) (fun c30_5 => by exfalso; exact absurd c30_5 (by decide))
  refine lv_iconst (v := 1) hx hb dL_law_1317 (by decide) ?_
  refine va_forget (fun q h => by have h8 := hS.2.2 q h; rw [← hAe] at h8; exact h8) ?_
  refine W.widen (k := 600002) (n := 7302232) (Nat.le_of_ble_eq_true rfl) (Nat.le_of_ble_eq_true rfl) ?_
  exact lw_ret hx hb hr hlocks dL_law_1318
set_option maxHeartbeats 4000000 in
set_option maxRecDepth 100000 in
theorem law_23 {p : Program} {e : Env} {s : State} {m : MethodId} {below : List Frame} {meth : Method} {c : Code} (l : Launch) {b0 : Nat} {xs : Nat → Int32} (C0 : lw_At p s m meth c b0 6 xs) (dC : Nat → ClassId) (dI : Nat → Nat → Nat) (g : Gv) (x0 : Nat) (b : Nat → Nat) (f4 : Nat → Nat) (c4 : ClassId) (f5 : Nat → Nat) (f7 : Nat → Nat) (f6 : Nat → Nat) (f2 : Nat → Nat) (cK : ClassId) (kf : Nat → Option Nat) (cZ : ClassId) (fT : Nat → Nat) (fU : Nat → Nat) (sa : Nat → Nat) (sf : Nat → Nat → Nat) (sc : Nat → Nat → ClassId) (spf : Nat → Nat → Int32) (sdf : Nat → Nat → Int32) (slf : Nat → Nat → Int32) (srf : Nat → Nat → Int32) (sga : Nat → Nat → Option Nat) (sgb : Nat → Nat → Option Nat) (rows : va_W) (m0 : Nat) (a : Nat → Nat) (ca : Nat → ClassId) (o0 : Nat)   {H : Heap} {locs : List Loc} {ls : Array Slot} (hK : va_K (dC, dI) vwCl [((ca 18), .int)] s) (hP : va_P (dC, dI) vwCl [(x0, .inr (7, [.ref (b 0), .ref (b 1), .ref (b 2), .ref (b 3), .ref (b 4), .ref (b 5), .ref (b 6), .ref (b 7), .ref (b 8), .ref (b 9), .int 1])), ((b 6), .inr (0, [.int 0, .ref (fT 1), .int 0, .ref (fT 3), .int 0, .ref (fT 5), .ref (fT 6), .ref (fT 7), .int 0, .ref (fT 9), .ref (fT 10), .ref (fT 11), .ref (fT 12), .ref (fT 13)])), (m0, .inr (8, [.int 0, .int 0, .int 0, .int 0, .ref (a 4), .int 0, .int 0, .int 0, .int 0, .int 0, .int 0, .long 0, .int 0, .int 0, .int 0, .int 0, .int 0, .int 0, .ref (a 18), .ref (a 19), .ref (a 20), .ref (a 21), .ref (a 22), .ref (a 23), .ref (a 24), .ref (a 25), .ref (a 26), .ref (a 27), .ref (a 28), .ref (a 29), .ref (a 30), .ref (a 31), .ref (a 32), .ref (a 33), .ref (a 34), .ref (a 35), .long 0, .int 0, .ref (a 38), .ref (a 39), .int 0, .ref (a 41), .ref (a 42), .ref (a 43)])), ((a 18), .inl ((ca 18), 2, .inl (fun _ => 0)))] H) (hD : va_D (fun q : Nat => s.heap.size ≤ q) [(x0, .inr (7, [.ref (b 0), .ref (b 1), .ref (b 2), .ref (b 3), .ref (b 4), .ref (b 5), .ref (b 6), .ref (b 7), .ref (b 8), .ref (b 9), .int 1])), ((b 6), .inr (0, [.int 0, .ref (fT 1), .int 0, .ref (fT 3), .int 0, .ref (fT 5), .ref (fT 6), .ref (fT 7), .int 0, .ref (fT 9), .ref (fT 10), .ref (fT 11), .ref (fT 12), .ref (fT 13)])), (m0, .inr (8, [.int 0, .int 0, .int 0, .int 0, .ref (a 4), .int 0, .int 0, .int 0, .int 0, .int 0, .int 0, .long 0, .int 0, .int 0, .int 0, .int 0, .int 0, .int 0, .ref (a 18), .ref (a 19), .ref (a 20), .ref (a 21), .ref (a 22), .ref (a 23), .ref (a 24), .ref (a 25), .ref (a 26), .ref (a 27), .ref (a 28), .ref (a 29), .ref (a 30), .ref (a 31), .ref (a 32), .ref (a 33), .ref (a 34), .ref (a 35), .long 0, .int 0, .ref (a 38), .ref (a 39), .int 0, .ref (a 41), .ref (a 42), .ref (a 43)])), ((a 18), .inl ((ca 18), 2, .inl (fun _ => 0)))]) (hS : va_S (fun q : Nat => s.heap.size ≤ q) s.heap H locs) (hE : Ev g (fun q : Nat => s.heap.size ≤ q) s) (hl : lv_has ls 7 [(4, .int 0), (3, .ref o0), (2, .ref m0), (1, .ref x0), (0, .ref b0)]) : W p l e room_1 s m #[Value.ref b0] below meth c H locs 243 7586 (lw_Z below #[Value.ref b0] s) (F0 m 1146 ls []) := by
  obtain ⟨hx, hb, hr, hml, hown, hts0, hX, hbl, hlocks, hgv⟩ := id C0
  have hts := fun (w : Cond) (h : w ∈ TBL) => hts0 w (TBin w h)
  have hown : s.vm.findClass RL = some m.cls := hown
  have hN := hE.1
  have hA : ∀ q : Nat, s.heap.size ≤ q → (fun q : Nat => s.heap.size ≤ q) q := fun _ h => h
  have hbA : ¬ (fun q : Nat => s.heap.size ≤ q) b0 := Nat.not_le.mpr hbl
  generalize hAe : (fun q : Nat => s.heap.size ≤ q) = A at hD hS hE hA hbA
  refine lv_aload_n hx hb dL_law_1146 rfl (lv_at hl 3 rfl) ?_
  refine lv_aload_n hx hb dL_law_1147 rfl (lv_at hl 4 rfl) ?_
  refine lv_iload hx hb dL_law_1148 (lv_at hl 0 rfl) ?_
  refine lv_iconst (v := 1) hx hb dL_law_1150 (by decide) ?_
  refine lv_iadd hx hb dL_law_1151 ?_
  refine cst (v := 1) (by decide) ?_
  refine va_sld hx hb hX hbl hbA hS (vin0 (by decide)) dL_law_1152 ?_
  refine cst (v := (xs 1)) (congrArg xs (show (1 : Int32).toNatClampNeg = 1 by decide)) ?_
  refine lv_aload_n hx hb dL_law_1153 rfl (lv_at hl 4 rfl) ?_
  refine lv_iload hx hb dL_law_1154 (lv_at hl 0 rfl) ?_
  refine lv_iconst (v := 2) hx hb dL_law_1156 (by decide) ?_
  refine lv_iadd hx hb dL_law_1157 ?_
  refine cst (v := 2) (by decide) ?_
  refine va_sld hx hb hX hbl hbA hS (vin0 (by decide)) dL_law_1158 ?_
  refine cst (v := (xs 2)) (congrArg xs (show (2 : Int32).toNatClampNeg = 2 by decide)) ?_
  have hPc := hP.sub (ws' := [(x0, .inr (7, [.ref (b 0), .ref (b 1), .ref (b 2), .ref (b 3), .ref (b 4), .ref (b 5), .ref (b 6), .ref (b 7), .ref (b 8), .ref (b 9), .int 1])), ((b 6), .inr (0, [.int 0, .ref (fT 1), .int 0, .ref (fT 3), .int 0, .ref (fT 5), .ref (fT 6), .ref (fT 7), .int 0, .ref (fT 9), .ref (fT 10), .ref (fT 11), .ref (fT 12), .ref (fT 13)]))]) [0, 1] rfl
  have hKc := hK.sub (tys' := []) [] rfl
  refine vp_callSi ((va_runV (As := [.int (xs 1), .int (xs 2)]) (rest := []) ⟨hx, hb, hml, hown, hts⟩ (c_8died l dC dI g (x0) (b) (f4) (c4) (f5) (f7) (f6) (f2) (cK) (kf) (cZ) (fT) (fU) (sa) (sf) (sc) (spf) (sdf) (slf) (srf) (sga) (sgb) (rows) ((xs 1)) ((xs 2)) ) (cwV 2 hts (gwV qw_574 qw_575 qw_576 qw_69 qw_573) rfl rfl rfl (by decide +kernel) ⟨Nat.le_of_ble_eq_true rfl, Nat.le_of_ble_eq_true rfl⟩) ⟨fun a U g9 mk q => ⟨q.1, q.2.1, va_K.moved (u := U) (U := U.calling g9 mk a) (Vm.Alike.refl U.vm) q.2.2.1, Ev.bl q.2.2.2⟩, va_recv hK hP (ci := 7) (q0 := 0) rfl rfl, fun U hU hW => ⟨rfl, by rw [hU]; exact hPc, va_K.moved hW.alike hKc, hE.go hS (fun _ h => h.elim) hU hW⟩⟩ rfl rfl hl.1 rfl (lv_room (Nat.le_of_ble_eq_true rfl)) dL_law_1159 ⟨Nat.le_of_ble_eq_true rfl, Nat.le_of_ble_eq_true rfl⟩)).run (fun r1 h_r1 => ?_)
  have h_r1 : r1 = (-2) := h_r1
  subst h_r1
  refine lv_aload_n hx hb dL_law_1162 rfl (lv_at hl 2 rfl) ?_
  refine lv_aload_n hx hb dL_law_1163 rfl (lv_at hl 4 rfl) ?_
  refine lv_iload hx hb dL_law_1164 (lv_at hl 0 rfl) ?_
  refine lv_iconst (v := 1) hx hb dL_law_1166 (by decide) ?_
  refine lv_iadd hx hb dL_law_1167 ?_
  refine cst (v := 1) (by decide) ?_
  refine va_sld hx hb hX hbl hbA hS (vin0 (by decide)) dL_law_1168 ?_
  refine cst (v := (xs 1)) (congrArg xs (show (1 : Int32).toNatClampNeg = 1 by decide)) ?_
  refine lv_aload_n hx hb dL_law_1169 rfl (lv_at hl 4 rfl) ?_
  refine lv_iload hx hb dL_law_1170 (lv_at hl 0 rfl) ?_
  refine lv_iconst (v := 2) hx hb dL_law_1172 (by decide) ?_
  refine lv_iadd hx hb dL_law_1173 ?_
  refine cst (v := 2) (by decide) ?_
  refine va_sld hx hb hX hbl hbA hS (vin0 (by decide)) dL_law_1174 ?_
  refine cst (v := (xs 2)) (congrArg xs (show (2 : Int32).toNatClampNeg = 2 by decide)) ?_
  have hPc := hP.sub (ws' := [(m0, .inr (8, [.int 0, .int 0, .int 0, .int 0, .ref (a 4), .int 0, .int 0, .int 0, .int 0, .int 0, .int 0, .long 0, .int 0, .int 0, .int 0, .int 0, .int 0, .int 0, .ref (a 18), .ref (a 19), .ref (a 20), .ref (a 21), .ref (a 22), .ref (a 23), .ref (a 24), .ref (a 25), .ref (a 26), .ref (a 27), .ref (a 28), .ref (a 29), .ref (a 30), .ref (a 31), .ref (a 32), .ref (a 33), .ref (a 34), .ref (a 35), .long 0, .int 0, .ref (a 38), .ref (a 39), .int 0, .ref (a 41), .ref (a 42), .ref (a 43)])), ((a 18), .inl ((ca 18), 2, .inl (fun _ => 0)))]) [2, 3] rfl
  have hKc := hK.sub (tys' := [((ca 18), .int)]) [0] rfl
  have hDc := hD.sub (ws' := [(m0, .inr (8, [.int 0, .int 0, .int 0, .int 0, .ref (a 4), .int 0, .int 0, .int 0, .int 0, .int 0, .int 0, .long 0, .int 0, .int 0, .int 0, .int 0, .int 0, .int 0, .ref (a 18), .ref (a 19), .ref (a 20), .ref (a 21), .ref (a 22), .ref (a 23), .ref (a 24), .ref (a 25), .ref (a 26), .ref (a 27), .ref (a 28), .ref (a 29), .ref (a 30), .ref (a 31), .ref (a 32), .ref (a 33), .ref (a 34), .ref (a 35), .long 0, .int 0, .ref (a 38), .ref (a 39), .int 0, .ref (a 41), .ref (a 42), .ref (a 43)])), ((a 18), .inl ((ca 18), 2, .inl (fun _ => 0)))]) [2, 3] (by decide) rfl
  have hFc := va_free (wc := [(m0, .inr (8, [.int 0, .int 0, .int 0, .int 0, .ref (a 4), .int 0, .int 0, .int 0, .int 0, .int 0, .int 0, .long 0, .int 0, .int 0, .int 0, .int 0, .int 0, .int 0, .ref (a 18), .ref (a 19), .ref (a 20), .ref (a 21), .ref (a 22), .ref (a 23), .ref (a 24), .ref (a 25), .ref (a 26), .ref (a 27), .ref (a 28), .ref (a 29), .ref (a 30), .ref (a 31), .ref (a 32), .ref (a 33), .ref (a 34), .ref (a 35), .long 0, .int 0, .ref (a 38), .ref (a 39), .int 0, .ref (a 41), .ref (a 42), .ref (a 43)])), ((a 18), .inl ((ca 18), 2, .inl (fun _ => 0)))]) hD hS hA [2, 3] rfl
  refine va_calli (va_runV (As := [.int (xs 1), .int (xs 2)]) (rest := [.int (-2)]) ⟨hx, hb, hml, hown, hts⟩ (c_9died l dC dI g H.size (m0) (a) (ca) ((xs 1)) ((xs 2)) ) (cwV 2 hts (gwV qw_578 qw_579 qw_580 qw_23 qw_577) rfl rfl rfl (by decide +kernel) ⟨Nat.le_of_ble_eq_true rfl, Nat.le_of_ble_eq_true rfl⟩) ⟨fun a U g9 mk q => ⟨q.1, q.2.1, q.2.2.1, va_K.moved (u := U) (U := U.calling g9 mk a) (Vm.Alike.refl U.vm) q.2.2.2.1, q.2.2.2.2.1, Ev.bl q.2.2.2.2.2⟩, va_recv hK hP (ci := 8) (q0 := 2) rfl rfl, fun U hU hW => ⟨rfl, by rw [hU], by rw [hU]; exact hPc, va_K.moved hW.alike hKc, hDc.weaken (fun _ _ _ _ => trivial), hE.go hS hFc hU hW⟩⟩ rfl rfl hl.1 rfl (lv_room (Nat.le_of_ble_eq_true rfl)) dL_law_1175 ⟨Nat.le_of_ble_eq_true rfl, Nat.le_of_ble_eq_true rfl⟩) hS (fun q _ h => hFc q h) hFc (fun r3 u2 t H1 locs ht hvm h_u2 hB hz1 hk1 hS => ?_)
  obtain ⟨hP, hD⟩ := va_join (wr := [(x0, .inr (7, [.ref (b 0), .ref (b 1), .ref (b 2), .ref (b 3), .ref (b 4), .ref (b 5), .ref (b 6), .ref (b 7), .ref (b 8), .ref (b 9), .int 1])), ((b 6), .inr (0, [.int 0, .ref (fT 1), .int 0, .ref (fT 3), .int 0, .ref (fT 5), .ref (fT 6), .ref (fT 7), .int 0, .ref (fT 9), .ref (fT 10), .ref (fT 11), .ref (fT 12), .ref (fT 13)]))]) (w1 := []) hP hD [2, 3] [0, 1] rfl rfl (by decide) (by decide) hk1 hFc va_P0 va_D0
  generalize H1 = H at hP hS ⊢
  have hP : va_P (dC, dI) vwCl [(x0, .inr (7, [.ref (b 0), .ref (b 1), .ref (b 2), .ref (b 3), .ref (b 4), .ref (b 5), .ref (b 6), .ref (b 7), .ref (b 8), .ref (b 9), .int 1])), ((b 6), .inr (0, [.int 0, .ref (fT 1), .int 0, .ref (fT 3), .int 0, .ref (fT 5), .ref (fT 6), .ref (fT 7), .int 0, .ref (fT 9), .ref (fT 10), .ref (fT 11), .ref (fT 12), .ref (fT 13)]))] H := hP
  have hD : va_D A [(x0, .inr (7, [.ref (b 0), .ref (b 1), .ref (b 2), .ref (b 3), .ref (b 4), .ref (b 5), .ref (b 6), .ref (b 7), .ref (b 8), .ref (b 9), .int 1])), ((b 6), .inr (0, [.int 0, .ref (fT 1), .int 0, .ref (fT 3), .int 0, .ref (fT 5), .ref (fT 6), .ref (fT 7), .int 0, .ref (fT 9), .ref (fT 10), .ref (fT 11), .ref (fT 12), .ref (fT 13)]))] := hD
  refine W.widen (k := 243) (n := 7586) (Nat.le_of_ble_eq_true rfl) (Nat.le_of_ble_eq_true rfl) ?_
  have h_u2 : r3 = (-2) := h_u2
  subst h_u2
  refine lv_icmp_eq (tgt := 1311) hx hb dL_law_1178 (by decide) (fun c1178_4 => ?_) (fun c1178_4 => by exfalso; exact absurd c1178_4 (by decide))
  refine lv_iinc (v := 6) (lv' := [(4, .int 6), (3, .ref o0), (2, .ref m0), (1, .ref x0), (0, .ref b0)]) hx hb dL_law_1311 hl (k := 0) rfl (by decide) (by decide) rfl (fun ls hl => ?_)
  refine lv_goto (tgt := 23) hx hb dL_law_1314 (by decide) ?_
  refine lv_iload hx hb dL_law_23 (lv_at hl 0 rfl) ?_
  refine lv_aload_n hx hb dL_law_25 rfl (lv_at hl 4 rfl) ?_
  refine va_slen hx hb hX hbl hbA hS dL_law_26 ?_
  refine cst (v := 6) (by decide) ?_
  refine lv_bipush (v := 6) hx hb dL_law_27 (by decide) ?_
  refine lv_isub hx hb dL_law_29 ?_
  refine cst (v := 0) (by decide) ?_
  refine lv_icmp_gt (tgt := 1317) hx hb dL_law_30 (by decide) (fun c30_5 => ?_) (fun c30_5 => by exfalso; exact absurd c30_5 (by decide))
  refine lv_iconst (v := 1) hx hb dL_law_1317 (by decide) ?_
  refine va_forget (fun q h => by have h8 := hS.2.2 q h; rw [← hAe] at h8; exact h8) ?_
  refine W.widen (k := 600002) (n := 7302232) (Nat.le_of_ble_eq_true rfl) (Nat.le_of_ble_eq_true rfl) ?_
  exact lw_ret hx hb hr hlocks dL_law_1318
set_option maxHeartbeats 4000000 in
set_option maxRecDepth 100000 in
theorem law_24 {p : Program} {e : Env} {s : State} {m : MethodId} {below : List Frame} {meth : Method} {c : Code} (l : Launch) {b0 : Nat} {xs : Nat → Int32} (C0 : lw_At p s m meth c b0 6 xs) (dC : Nat → ClassId) (dI : Nat → Nat → Nat) (g : Gv) (x0 : Nat) (b : Nat → Nat) (f4 : Nat → Nat) (c4 : ClassId) (f5 : Nat → Nat) (f7 : Nat → Nat) (f6 : Nat → Nat) (f2 : Nat → Nat) (cK : ClassId) (kf : Nat → Option Nat) (cZ : ClassId) (fT : Nat → Nat) (fU : Nat → Nat) (sa : Nat → Nat) (sf : Nat → Nat → Nat) (sc : Nat → Nat → ClassId) (spf : Nat → Nat → Int32) (sdf : Nat → Nat → Int32) (slf : Nat → Nat → Int32) (srf : Nat → Nat → Int32) (sga : Nat → Nat → Option Nat) (sgb : Nat → Nat → Option Nat) (rows : va_W) (m0 : Nat) (a : Nat → Nat) (ca : Nat → ClassId) (o0 : Nat)   {H : Heap} {locs : List Loc} {ls : Array Slot} (hK : va_K (dC, dI) vwCl [((ca 20), .int)] s) (hP : va_P (dC, dI) vwCl [(x0, .inr (7, [.ref (b 0), .ref (b 1), .ref (b 2), .ref (b 3), .ref (b 4), .ref (b 5), .ref (b 6), .ref (b 7), .ref (b 8), .ref (b 9), .int 1])), ((b 6), .inr (0, [.int 0, .ref (fT 1), .int 0, .ref (fT 3), .int 0, .ref (fT 5), .ref (fT 6), .ref (fT 7), .int 0, .ref (fT 9), .ref (fT 10), .ref (fT 11), .ref (fT 12), .ref (fT 13)])), (m0, .inr (8, [.int 0, .int 0, .int 0, .int 0, .ref (a 4), .int 0, .int 0, .int 0, .int 0, .int 0, .int 0, .long 0, .int 0, .int 0, .int 0, .int 0, .int 0, .int 0, .ref (a 18), .ref (a 19), .ref (a 20), .ref (a 21), .ref (a 22), .ref (a 23), .ref (a 24), .ref (a 25), .ref (a 26), .ref (a 27), .ref (a 28), .ref (a 29), .ref (a 30), .ref (a 31), .ref (a 32), .ref (a 33), .ref (a 34), .ref (a 35), .long 0, .int 0, .ref (a 38), .ref (a 39), .int 0, .ref (a 41), .ref (a 42), .ref (a 43)])), ((a 20), .inl ((ca 20), 2, .inl (fun _ => 0)))] H) (hD : va_D (fun q : Nat => s.heap.size ≤ q) [(x0, .inr (7, [.ref (b 0), .ref (b 1), .ref (b 2), .ref (b 3), .ref (b 4), .ref (b 5), .ref (b 6), .ref (b 7), .ref (b 8), .ref (b 9), .int 1])), ((b 6), .inr (0, [.int 0, .ref (fT 1), .int 0, .ref (fT 3), .int 0, .ref (fT 5), .ref (fT 6), .ref (fT 7), .int 0, .ref (fT 9), .ref (fT 10), .ref (fT 11), .ref (fT 12), .ref (fT 13)])), (m0, .inr (8, [.int 0, .int 0, .int 0, .int 0, .ref (a 4), .int 0, .int 0, .int 0, .int 0, .int 0, .int 0, .long 0, .int 0, .int 0, .int 0, .int 0, .int 0, .int 0, .ref (a 18), .ref (a 19), .ref (a 20), .ref (a 21), .ref (a 22), .ref (a 23), .ref (a 24), .ref (a 25), .ref (a 26), .ref (a 27), .ref (a 28), .ref (a 29), .ref (a 30), .ref (a 31), .ref (a 32), .ref (a 33), .ref (a 34), .ref (a 35), .long 0, .int 0, .ref (a 38), .ref (a 39), .int 0, .ref (a 41), .ref (a 42), .ref (a 43)])), ((a 20), .inl ((ca 20), 2, .inl (fun _ => 0)))]) (hS : va_S (fun q : Nat => s.heap.size ≤ q) s.heap H locs) (hE : Ev g (fun q : Nat => s.heap.size ≤ q) s) (hl : lv_has ls 7 [(4, .int 0), (3, .ref o0), (2, .ref m0), (1, .ref x0), (0, .ref b0)]) : W p l e room_1 s m #[Value.ref b0] below meth c H locs 243 7586 (lw_Z below #[Value.ref b0] s) (F0 m 1183 ls []) := by
  obtain ⟨hx, hb, hr, hml, hown, hts0, hX, hbl, hlocks, hgv⟩ := id C0
  have hts := fun (w : Cond) (h : w ∈ TBL) => hts0 w (TBin w h)
  have hown : s.vm.findClass RL = some m.cls := hown
  have hN := hE.1
  have hA : ∀ q : Nat, s.heap.size ≤ q → (fun q : Nat => s.heap.size ≤ q) q := fun _ h => h
  have hbA : ¬ (fun q : Nat => s.heap.size ≤ q) b0 := Nat.not_le.mpr hbl
  generalize hAe : (fun q : Nat => s.heap.size ≤ q) = A at hD hS hE hA hbA
  refine lv_aload_n hx hb dL_law_1183 rfl (lv_at hl 3 rfl) ?_
  refine lv_aload_n hx hb dL_law_1184 rfl (lv_at hl 4 rfl) ?_
  refine lv_iload hx hb dL_law_1185 (lv_at hl 0 rfl) ?_
  refine lv_iconst (v := 1) hx hb dL_law_1187 (by decide) ?_
  refine lv_iadd hx hb dL_law_1188 ?_
  refine cst (v := 1) (by decide) ?_
  refine va_sld hx hb hX hbl hbA hS (vin0 (by decide)) dL_law_1189 ?_
  refine cst (v := (xs 1)) (congrArg xs (show (1 : Int32).toNatClampNeg = 1 by decide)) ?_
  refine lv_aload_n hx hb dL_law_1190 rfl (lv_at hl 4 rfl) ?_
  refine lv_iload hx hb dL_law_1191 (lv_at hl 0 rfl) ?_
  refine lv_iconst (v := 2) hx hb dL_law_1193 (by decide) ?_
  refine lv_iadd hx hb dL_law_1194 ?_
  refine cst (v := 2) (by decide) ?_
  refine va_sld hx hb hX hbl hbA hS (vin0 (by decide)) dL_law_1195 ?_
  refine cst (v := (xs 2)) (congrArg xs (show (2 : Int32).toNatClampNeg = 2 by decide)) ?_
  have hPc := hP.sub (ws' := [(x0, .inr (7, [.ref (b 0), .ref (b 1), .ref (b 2), .ref (b 3), .ref (b 4), .ref (b 5), .ref (b 6), .ref (b 7), .ref (b 8), .ref (b 9), .int 1])), ((b 6), .inr (0, [.int 0, .ref (fT 1), .int 0, .ref (fT 3), .int 0, .ref (fT 5), .ref (fT 6), .ref (fT 7), .int 0, .ref (fT 9), .ref (fT 10), .ref (fT 11), .ref (fT 12), .ref (fT 13)]))]) [0, 1] rfl
  have hKc := hK.sub (tys' := []) [] rfl
  refine vp_callSi ((va_runV (As := [.int (xs 1), .int (xs 2)]) (rest := []) ⟨hx, hb, hml, hown, hts⟩ (c_8put l dC dI g (x0) (b) (f4) (c4) (f5) (f7) (f6) (f2) (cK) (kf) (cZ) (fT) (fU) (sa) (sf) (sc) (spf) (sdf) (slf) (srf) (sga) (sgb) (rows) ((xs 1)) ((xs 2)) ) (cwV 2 hts (gwV qw_582 qw_583 qw_584 qw_69 qw_581) rfl rfl rfl (by decide +kernel) ⟨Nat.le_of_ble_eq_true rfl, Nat.le_of_ble_eq_true rfl⟩) ⟨fun a U g9 mk q => ⟨q.1, q.2.1, va_K.moved (u := U) (U := U.calling g9 mk a) (Vm.Alike.refl U.vm) q.2.2.1, Ev.bl q.2.2.2⟩, va_recv hK hP (ci := 7) (q0 := 0) rfl rfl, fun U hU hW => ⟨rfl, by rw [hU]; exact hPc, va_K.moved hW.alike hKc, hE.go hS (fun _ h => h.elim) hU hW⟩⟩ rfl rfl hl.1 rfl (lv_room (Nat.le_of_ble_eq_true rfl)) dL_law_1196 ⟨Nat.le_of_ble_eq_true rfl, Nat.le_of_ble_eq_true rfl⟩)).run (fun r1 h_r1 => ?_)
  have h_r1 : r1 = (-2) := h_r1
  subst h_r1
  refine lv_aload_n hx hb dL_law_1199 rfl (lv_at hl 2 rfl) ?_
  refine lv_aload_n hx hb dL_law_1200 rfl (lv_at hl 4 rfl) ?_
  refine lv_iload hx hb dL_law_1201 (lv_at hl 0 rfl) ?_
  refine lv_iconst (v := 1) hx hb dL_law_1203 (by decide) ?_
  refine lv_iadd hx hb dL_law_1204 ?_
  refine cst (v := 1) (by decide) ?_
  refine va_sld hx hb hX hbl hbA hS (vin0 (by decide)) dL_law_1205 ?_
  refine cst (v := (xs 1)) (congrArg xs (show (1 : Int32).toNatClampNeg = 1 by decide)) ?_
  refine lv_aload_n hx hb dL_law_1206 rfl (lv_at hl 4 rfl) ?_
  refine lv_iload hx hb dL_law_1207 (lv_at hl 0 rfl) ?_
  refine lv_iconst (v := 2) hx hb dL_law_1209 (by decide) ?_
  refine lv_iadd hx hb dL_law_1210 ?_
  refine cst (v := 2) (by decide) ?_
  refine va_sld hx hb hX hbl hbA hS (vin0 (by decide)) dL_law_1211 ?_
  refine cst (v := (xs 2)) (congrArg xs (show (2 : Int32).toNatClampNeg = 2 by decide)) ?_
  have hPc := hP.sub (ws' := [(m0, .inr (8, [.int 0, .int 0, .int 0, .int 0, .ref (a 4), .int 0, .int 0, .int 0, .int 0, .int 0, .int 0, .long 0, .int 0, .int 0, .int 0, .int 0, .int 0, .int 0, .ref (a 18), .ref (a 19), .ref (a 20), .ref (a 21), .ref (a 22), .ref (a 23), .ref (a 24), .ref (a 25), .ref (a 26), .ref (a 27), .ref (a 28), .ref (a 29), .ref (a 30), .ref (a 31), .ref (a 32), .ref (a 33), .ref (a 34), .ref (a 35), .long 0, .int 0, .ref (a 38), .ref (a 39), .int 0, .ref (a 41), .ref (a 42), .ref (a 43)])), ((a 20), .inl ((ca 20), 2, .inl (fun _ => 0)))]) [2, 3] rfl
  have hKc := hK.sub (tys' := [((ca 20), .int)]) [0] rfl
  have hDc := hD.sub (ws' := [(m0, .inr (8, [.int 0, .int 0, .int 0, .int 0, .ref (a 4), .int 0, .int 0, .int 0, .int 0, .int 0, .int 0, .long 0, .int 0, .int 0, .int 0, .int 0, .int 0, .int 0, .ref (a 18), .ref (a 19), .ref (a 20), .ref (a 21), .ref (a 22), .ref (a 23), .ref (a 24), .ref (a 25), .ref (a 26), .ref (a 27), .ref (a 28), .ref (a 29), .ref (a 30), .ref (a 31), .ref (a 32), .ref (a 33), .ref (a 34), .ref (a 35), .long 0, .int 0, .ref (a 38), .ref (a 39), .int 0, .ref (a 41), .ref (a 42), .ref (a 43)])), ((a 20), .inl ((ca 20), 2, .inl (fun _ => 0)))]) [2, 3] (by decide) rfl
  have hFc := va_free (wc := [(m0, .inr (8, [.int 0, .int 0, .int 0, .int 0, .ref (a 4), .int 0, .int 0, .int 0, .int 0, .int 0, .int 0, .long 0, .int 0, .int 0, .int 0, .int 0, .int 0, .int 0, .ref (a 18), .ref (a 19), .ref (a 20), .ref (a 21), .ref (a 22), .ref (a 23), .ref (a 24), .ref (a 25), .ref (a 26), .ref (a 27), .ref (a 28), .ref (a 29), .ref (a 30), .ref (a 31), .ref (a 32), .ref (a 33), .ref (a 34), .ref (a 35), .long 0, .int 0, .ref (a 38), .ref (a 39), .int 0, .ref (a 41), .ref (a 42), .ref (a 43)])), ((a 20), .inl ((ca 20), 2, .inl (fun _ => 0)))]) hD hS hA [2, 3] rfl
  refine va_calli (va_runV (As := [.int (xs 1), .int (xs 2)]) (rest := [.int (-2)]) ⟨hx, hb, hml, hown, hts⟩ (c_9put l dC dI g H.size (m0) (a) (ca) ((xs 1)) ((xs 2)) ) (cwV 2 hts (gwV qw_586 qw_587 qw_588 qw_23 qw_585) rfl rfl rfl (by decide +kernel) ⟨Nat.le_of_ble_eq_true rfl, Nat.le_of_ble_eq_true rfl⟩) ⟨fun a U g9 mk q => ⟨q.1, q.2.1, q.2.2.1, va_K.moved (u := U) (U := U.calling g9 mk a) (Vm.Alike.refl U.vm) q.2.2.2.1, q.2.2.2.2.1, Ev.bl q.2.2.2.2.2⟩, va_recv hK hP (ci := 8) (q0 := 2) rfl rfl, fun U hU hW => ⟨rfl, by rw [hU], by rw [hU]; exact hPc, va_K.moved hW.alike hKc, hDc.weaken (fun _ _ _ _ => trivial), hE.go hS hFc hU hW⟩⟩ rfl rfl hl.1 rfl (lv_room (Nat.le_of_ble_eq_true rfl)) dL_law_1212 ⟨Nat.le_of_ble_eq_true rfl, Nat.le_of_ble_eq_true rfl⟩) hS (fun q _ h => hFc q h) hFc (fun r3 u2 t H1 locs ht hvm h_u2 hB hz1 hk1 hS => ?_)
  obtain ⟨hP, hD⟩ := va_join (wr := [(x0, .inr (7, [.ref (b 0), .ref (b 1), .ref (b 2), .ref (b 3), .ref (b 4), .ref (b 5), .ref (b 6), .ref (b 7), .ref (b 8), .ref (b 9), .int 1])), ((b 6), .inr (0, [.int 0, .ref (fT 1), .int 0, .ref (fT 3), .int 0, .ref (fT 5), .ref (fT 6), .ref (fT 7), .int 0, .ref (fT 9), .ref (fT 10), .ref (fT 11), .ref (fT 12), .ref (fT 13)]))]) (w1 := []) hP hD [2, 3] [0, 1] rfl rfl (by decide) (by decide) hk1 hFc va_P0 va_D0
  generalize H1 = H at hP hS ⊢
  have hP : va_P (dC, dI) vwCl [(x0, .inr (7, [.ref (b 0), .ref (b 1), .ref (b 2), .ref (b 3), .ref (b 4), .ref (b 5), .ref (b 6), .ref (b 7), .ref (b 8), .ref (b 9), .int 1])), ((b 6), .inr (0, [.int 0, .ref (fT 1), .int 0, .ref (fT 3), .int 0, .ref (fT 5), .ref (fT 6), .ref (fT 7), .int 0, .ref (fT 9), .ref (fT 10), .ref (fT 11), .ref (fT 12), .ref (fT 13)]))] H := hP
  have hD : va_D A [(x0, .inr (7, [.ref (b 0), .ref (b 1), .ref (b 2), .ref (b 3), .ref (b 4), .ref (b 5), .ref (b 6), .ref (b 7), .ref (b 8), .ref (b 9), .int 1])), ((b 6), .inr (0, [.int 0, .ref (fT 1), .int 0, .ref (fT 3), .int 0, .ref (fT 5), .ref (fT 6), .ref (fT 7), .int 0, .ref (fT 9), .ref (fT 10), .ref (fT 11), .ref (fT 12), .ref (fT 13)]))] := hD
  refine W.widen (k := 243) (n := 7586) (Nat.le_of_ble_eq_true rfl) (Nat.le_of_ble_eq_true rfl) ?_
  have h_u2 : r3 = (-2) := h_u2
  subst h_u2
  refine lv_icmp_eq (tgt := 1311) hx hb dL_law_1215 (by decide) (fun c1215_4 => ?_) (fun c1215_4 => by exfalso; exact absurd c1215_4 (by decide))
  refine lv_iinc (v := 6) (lv' := [(4, .int 6), (3, .ref o0), (2, .ref m0), (1, .ref x0), (0, .ref b0)]) hx hb dL_law_1311 hl (k := 0) rfl (by decide) (by decide) rfl (fun ls hl => ?_)
  refine lv_goto (tgt := 23) hx hb dL_law_1314 (by decide) ?_
  refine lv_iload hx hb dL_law_23 (lv_at hl 0 rfl) ?_
  refine lv_aload_n hx hb dL_law_25 rfl (lv_at hl 4 rfl) ?_
  refine va_slen hx hb hX hbl hbA hS dL_law_26 ?_
  refine cst (v := 6) (by decide) ?_
  refine lv_bipush (v := 6) hx hb dL_law_27 (by decide) ?_
  refine lv_isub hx hb dL_law_29 ?_
  refine cst (v := 0) (by decide) ?_
  refine lv_icmp_gt (tgt := 1317) hx hb dL_law_30 (by decide) (fun c30_5 => ?_) (fun c30_5 => by exfalso; exact absurd c30_5 (by decide))
  refine lv_iconst (v := 1) hx hb dL_law_1317 (by decide) ?_
  refine va_forget (fun q h => by have h8 := hS.2.2 q h; rw [← hAe] at h8; exact h8) ?_
  refine W.widen (k := 600002) (n := 7302232) (Nat.le_of_ble_eq_true rfl) (Nat.le_of_ble_eq_true rfl) ?_
  exact lw_ret hx hb hr hlocks dL_law_1318
set_option maxHeartbeats 4000000 in
set_option maxRecDepth 100000 in
theorem law_25 {p : Program} {e : Env} {s : State} {m : MethodId} {below : List Frame} {meth : Method} {c : Code} (l : Launch) {b0 : Nat} {xs : Nat → Int32} (C0 : lw_At p s m meth c b0 6 xs) (dC : Nat → ClassId) (dI : Nat → Nat → Nat) (g : Gv) (x0 : Nat) (b : Nat → Nat) (f4 : Nat → Nat) (c4 : ClassId) (f5 : Nat → Nat) (f7 : Nat → Nat) (f6 : Nat → Nat) (f2 : Nat → Nat) (cK : ClassId) (kf : Nat → Option Nat) (cZ : ClassId) (fT : Nat → Nat) (fU : Nat → Nat) (sa : Nat → Nat) (sf : Nat → Nat → Nat) (sc : Nat → Nat → ClassId) (spf : Nat → Nat → Int32) (sdf : Nat → Nat → Int32) (slf : Nat → Nat → Int32) (srf : Nat → Nat → Int32) (sga : Nat → Nat → Option Nat) (sgb : Nat → Nat → Option Nat) (rows : va_W) (m0 : Nat) (a : Nat → Nat) (ca : Nat → ClassId) (o0 : Nat)   {H : Heap} {locs : List Loc} {ls : Array Slot} (hK : va_K (dC, dI) vwCl [] s) (hP : va_P (dC, dI) vwCl [(x0, .inr (7, [.ref (b 0), .ref (b 1), .ref (b 2), .ref (b 3), .ref (b 4), .ref (b 5), .ref (b 6), .ref (b 7), .ref (b 8), .ref (b 9), .int 1])), ((b 3), .inr (1, [.ref (f2 0), .ref (f2 1), .ref (f2 2), .int 0])), (m0, .inr (8, [.int 0, .int 0, .int 0, .int 0, .ref (a 4), .int 0, .int 0, .int 0, .int 0, .int 0, .int 0, .long 0, .int 0, .int 0, .int 0, .int 0, .int 0, .int 0, .ref (a 18), .ref (a 19), .ref (a 20), .ref (a 21), .ref (a 22), .ref (a 23), .ref (a 24), .ref (a 25), .ref (a 26), .ref (a 27), .ref (a 28), .ref (a 29), .ref (a 30), .ref (a 31), .ref (a 32), .ref (a 33), .ref (a 34), .ref (a 35), .long 0, .int 0, .ref (a 38), .ref (a 39), .int 0, .ref (a 41), .ref (a 42), .ref (a 43)]))] H) (hD : va_D (fun q : Nat => s.heap.size ≤ q) [(x0, .inr (7, [.ref (b 0), .ref (b 1), .ref (b 2), .ref (b 3), .ref (b 4), .ref (b 5), .ref (b 6), .ref (b 7), .ref (b 8), .ref (b 9), .int 1])), ((b 3), .inr (1, [.ref (f2 0), .ref (f2 1), .ref (f2 2), .int 0])), (m0, .inr (8, [.int 0, .int 0, .int 0, .int 0, .ref (a 4), .int 0, .int 0, .int 0, .int 0, .int 0, .int 0, .long 0, .int 0, .int 0, .int 0, .int 0, .int 0, .int 0, .ref (a 18), .ref (a 19), .ref (a 20), .ref (a 21), .ref (a 22), .ref (a 23), .ref (a 24), .ref (a 25), .ref (a 26), .ref (a 27), .ref (a 28), .ref (a 29), .ref (a 30), .ref (a 31), .ref (a 32), .ref (a 33), .ref (a 34), .ref (a 35), .long 0, .int 0, .ref (a 38), .ref (a 39), .int 0, .ref (a 41), .ref (a 42), .ref (a 43)]))]) (hS : va_S (fun q : Nat => s.heap.size ≤ q) s.heap H locs) (hE : Ev g (fun q : Nat => s.heap.size ≤ q) s) (hl : lv_has ls 7 [(4, .int 0), (3, .ref o0), (2, .ref m0), (1, .ref x0), (0, .ref b0)]) : W p l e room_1 s m #[Value.ref b0] below meth c H locs 243 7586 (lw_Z below #[Value.ref b0] s) (F0 m 1220 ls []) := by
  obtain ⟨hx, hb, hr, hml, hown, hts0, hX, hbl, hlocks, hgv⟩ := id C0
  have hts := fun (w : Cond) (h : w ∈ TBL) => hts0 w (TBin w h)
  have hown : s.vm.findClass RL = some m.cls := hown
  have hN := hE.1
  have hA : ∀ q : Nat, s.heap.size ≤ q → (fun q : Nat => s.heap.size ≤ q) q := fun _ h => h
  have hbA : ¬ (fun q : Nat => s.heap.size ≤ q) b0 := Nat.not_le.mpr hbl
  generalize hAe : (fun q : Nat => s.heap.size ≤ q) = A at hD hS hE hA hbA
  refine lv_aload_n hx hb dL_law_1220 rfl (lv_at hl 3 rfl) ?_
  have hPc := hP.sub (ws' := [(x0, .inr (7, [.ref (b 0), .ref (b 1), .ref (b 2), .ref (b 3), .ref (b 4), .ref (b 5), .ref (b 6), .ref (b 7), .ref (b 8), .ref (b 9), .int 1])), ((b 3), .inr (1, [.ref (f2 0), .ref (f2 1), .ref (f2 2), .int 0]))]) [0, 1] rfl
  have hKc := hK.sub (tys' := []) [] rfl
  refine vp_callSi ((va_runV (As := []) (rest := []) ⟨hx, hb, hml, hown, hts⟩ (c_8undo l dC dI g (x0) (b) (f4) (c4) (f5) (f7) (f6) (f2) (cK) (kf) (cZ) (fT) (fU) (sa) (sf) (sc) (spf) (sdf) (slf) (srf) (sga) (sgb) (rows) ) (cwV 0 hts (gwV qw_590 qw_591 qw_592 qw_69 qw_589) rfl rfl rfl (by decide +kernel) ⟨Nat.le_of_ble_eq_true rfl, Nat.le_of_ble_eq_true rfl⟩) ⟨fun a U g9 mk q => ⟨q.1, q.2.1, va_K.moved (u := U) (U := U.calling g9 mk a) (Vm.Alike.refl U.vm) q.2.2.1, Ev.bl q.2.2.2⟩, va_recv hK hP (ci := 7) (q0 := 0) rfl rfl, fun U hU hW => ⟨rfl, by rw [hU]; exact hPc, va_K.moved hW.alike hKc, hE.go hS (fun _ h => h.elim) hU hW⟩⟩ rfl rfl hl.1 rfl (lv_room (Nat.le_of_ble_eq_true rfl)) dL_law_1221 ⟨Nat.le_of_ble_eq_true rfl, Nat.le_of_ble_eq_true rfl⟩)).run (fun r1 h_r1 => ?_)
  have h_r1 : r1 = (-1) := h_r1
  subst h_r1
  refine lv_aload_n hx hb dL_law_1224 rfl (lv_at hl 2 rfl) ?_
  have hPc := hP.sub (ws' := [(m0, .inr (8, [.int 0, .int 0, .int 0, .int 0, .ref (a 4), .int 0, .int 0, .int 0, .int 0, .int 0, .int 0, .long 0, .int 0, .int 0, .int 0, .int 0, .int 0, .int 0, .ref (a 18), .ref (a 19), .ref (a 20), .ref (a 21), .ref (a 22), .ref (a 23), .ref (a 24), .ref (a 25), .ref (a 26), .ref (a 27), .ref (a 28), .ref (a 29), .ref (a 30), .ref (a 31), .ref (a 32), .ref (a 33), .ref (a 34), .ref (a 35), .long 0, .int 0, .ref (a 38), .ref (a 39), .int 0, .ref (a 41), .ref (a 42), .ref (a 43)]))]) [2] rfl
  have hKc := hK.sub (tys' := []) [] rfl
  have hDc := hD.sub (ws' := [(m0, .inr (8, [.int 0, .int 0, .int 0, .int 0, .ref (a 4), .int 0, .int 0, .int 0, .int 0, .int 0, .int 0, .long 0, .int 0, .int 0, .int 0, .int 0, .int 0, .int 0, .ref (a 18), .ref (a 19), .ref (a 20), .ref (a 21), .ref (a 22), .ref (a 23), .ref (a 24), .ref (a 25), .ref (a 26), .ref (a 27), .ref (a 28), .ref (a 29), .ref (a 30), .ref (a 31), .ref (a 32), .ref (a 33), .ref (a 34), .ref (a 35), .long 0, .int 0, .ref (a 38), .ref (a 39), .int 0, .ref (a 41), .ref (a 42), .ref (a 43)]))]) [2] (by decide) rfl
  have hFc := va_free (wc := [(m0, .inr (8, [.int 0, .int 0, .int 0, .int 0, .ref (a 4), .int 0, .int 0, .int 0, .int 0, .int 0, .int 0, .long 0, .int 0, .int 0, .int 0, .int 0, .int 0, .int 0, .ref (a 18), .ref (a 19), .ref (a 20), .ref (a 21), .ref (a 22), .ref (a 23), .ref (a 24), .ref (a 25), .ref (a 26), .ref (a 27), .ref (a 28), .ref (a 29), .ref (a 30), .ref (a 31), .ref (a 32), .ref (a 33), .ref (a 34), .ref (a 35), .long 0, .int 0, .ref (a 38), .ref (a 39), .int 0, .ref (a 41), .ref (a 42), .ref (a 43)]))]) hD hS hA [2] rfl
  refine va_calli (va_runV (As := []) (rest := [.int (-1)]) ⟨hx, hb, hml, hown, hts⟩ (c_9undo l dC dI g H.size (m0) (a) (ca) ) (cwV 0 hts (gwV qw_594 qw_595 qw_596 qw_23 qw_593) rfl rfl rfl (by decide +kernel) ⟨Nat.le_of_ble_eq_true rfl, Nat.le_of_ble_eq_true rfl⟩) ⟨fun a U g9 mk q => ⟨q.1, q.2.1, q.2.2.1, va_K.moved (u := U) (U := U.calling g9 mk a) (Vm.Alike.refl U.vm) q.2.2.2.1, q.2.2.2.2.1, Ev.bl q.2.2.2.2.2⟩, va_recv hK hP (ci := 8) (q0 := 2) rfl rfl, fun U hU hW => ⟨rfl, by rw [hU], by rw [hU]; exact hPc, va_K.moved hW.alike hKc, hDc.weaken (fun _ _ _ _ => trivial), hE.go hS hFc hU hW⟩⟩ rfl rfl hl.1 rfl (lv_room (Nat.le_of_ble_eq_true rfl)) dL_law_1225 ⟨Nat.le_of_ble_eq_true rfl, Nat.le_of_ble_eq_true rfl⟩) hS (fun q _ h => hFc q h) hFc (fun r3 u2 t H1 locs ht hvm h_u2 hB hz1 hk1 hS => ?_)
  obtain ⟨hP, hD⟩ := va_join (wr := [(x0, .inr (7, [.ref (b 0), .ref (b 1), .ref (b 2), .ref (b 3), .ref (b 4), .ref (b 5), .ref (b 6), .ref (b 7), .ref (b 8), .ref (b 9), .int 1])), ((b 3), .inr (1, [.ref (f2 0), .ref (f2 1), .ref (f2 2), .int 0]))]) (w1 := []) hP hD [2] [0, 1] rfl rfl (by decide) (by decide) hk1 hFc va_P0 va_D0
  generalize H1 = H at hP hS ⊢
  have hP : va_P (dC, dI) vwCl [(x0, .inr (7, [.ref (b 0), .ref (b 1), .ref (b 2), .ref (b 3), .ref (b 4), .ref (b 5), .ref (b 6), .ref (b 7), .ref (b 8), .ref (b 9), .int 1])), ((b 3), .inr (1, [.ref (f2 0), .ref (f2 1), .ref (f2 2), .int 0]))] H := hP
  have hD : va_D A [(x0, .inr (7, [.ref (b 0), .ref (b 1), .ref (b 2), .ref (b 3), .ref (b 4), .ref (b 5), .ref (b 6), .ref (b 7), .ref (b 8), .ref (b 9), .int 1])), ((b 3), .inr (1, [.ref (f2 0), .ref (f2 1), .ref (f2 2), .int 0]))] := hD
  refine W.widen (k := 243) (n := 7586) (Nat.le_of_ble_eq_true rfl) (Nat.le_of_ble_eq_true rfl) ?_
  have h_u2 : r3 = (-1) := h_u2
  subst h_u2
  refine lv_icmp_eq (tgt := 1311) hx hb dL_law_1228 (by decide) (fun c1228_4 => ?_) (fun c1228_4 => by exfalso; exact absurd c1228_4 (by decide))
  refine lv_iinc (v := 6) (lv' := [(4, .int 6), (3, .ref o0), (2, .ref m0), (1, .ref x0), (0, .ref b0)]) hx hb dL_law_1311 hl (k := 0) rfl (by decide) (by decide) rfl (fun ls hl => ?_)
  refine lv_goto (tgt := 23) hx hb dL_law_1314 (by decide) ?_
  refine lv_iload hx hb dL_law_23 (lv_at hl 0 rfl) ?_
  refine lv_aload_n hx hb dL_law_25 rfl (lv_at hl 4 rfl) ?_
  refine va_slen hx hb hX hbl hbA hS dL_law_26 ?_
  refine cst (v := 6) (by decide) ?_
  refine lv_bipush (v := 6) hx hb dL_law_27 (by decide) ?_
  refine lv_isub hx hb dL_law_29 ?_
  refine cst (v := 0) (by decide) ?_
  refine lv_icmp_gt (tgt := 1317) hx hb dL_law_30 (by decide) (fun c30_5 => ?_) (fun c30_5 => by exfalso; exact absurd c30_5 (by decide))
  refine lv_iconst (v := 1) hx hb dL_law_1317 (by decide) ?_
  refine va_forget (fun q h => by have h8 := hS.2.2 q h; rw [← hAe] at h8; exact h8) ?_
  refine W.widen (k := 600002) (n := 7302232) (Nat.le_of_ble_eq_true rfl) (Nat.le_of_ble_eq_true rfl) ?_
  exact lw_ret hx hb hr hlocks dL_law_1318
set_option maxHeartbeats 4000000 in
set_option maxRecDepth 100000 in
theorem law_260f {p : Program} {e : Env} {s : State} {m : MethodId} {below : List Frame} {meth : Method} {c : Code} (l : Launch) {b0 : Nat} {xs : Nat → Int32} (C0 : lw_At p s m meth c b0 6 xs) (dC : Nat → ClassId) (dI : Nat → Nat → Nat) (g : Gv) (x0 : Nat) (b : Nat → Nat) (f4 : Nat → Nat) (c4 : ClassId) (f5 : Nat → Nat) (f7 : Nat → Nat) (f6 : Nat → Nat) (f2 : Nat → Nat) (cK : ClassId) (kf : Nat → Option Nat) (cZ : ClassId) (fT : Nat → Nat) (fU : Nat → Nat) (sa : Nat → Nat) (sf : Nat → Nat → Nat) (sc : Nat → Nat → ClassId) (spf : Nat → Nat → Int32) (sdf : Nat → Nat → Int32) (slf : Nat → Nat → Int32) (srf : Nat → Nat → Int32) (sga : Nat → Nat → Option Nat) (sgb : Nat → Nat → Option Nat) (rows : va_W) (m0 : Nat) (a : Nat → Nat) (ca : Nat → ClassId) (o0 : Nat)  (hq1 : xs 1 = 0) (hq2 : xs 2 = 0) (hkf : kf 0 = some (sa 0)) (hgs0 : gs4 g.2.2.2.2 (sga 0) (sgb 0) (sga 2) (sgb 2) rows) {H : Heap} {locs : List Loc} {ls : Array Slot} (hK : va_K (dC, dI) vwCl [(cK, .object "ClosedUntil$State"), (cZ, .boolean), (((sc 0) 0), .int), (((sc 0) 1), .int), (((sc 0) 2), .int), (((sc 0) 3), .int), (((sc 0) 4), .array .int), (((sc 0) 5), .array .int), (((sc 2) 0), .int), (((sc 2) 1), .int), (((sc 2) 2), .int), (((sc 2) 3), .int), (((sc 2) 4), .array .int), (((sc 2) 5), .array .int), ((ca 38), .int), ((ca 41), .int), ((ca 42), .boolean)] s) (hP : va_P (dC, dI) vwCl ([(x0, .inr (7, [.ref (b 0), .ref (b 1), .ref (b 2), .ref (b 3), .ref (b 4), .ref (b 5), .ref (b 6), .ref (b 7), .ref (b 8), .ref (b 9), .int 1])), ((b 4), .inl (cK, 2, .inr (.inr (.inr (.inr kf))))), ((b 5), .inl (cZ, 2, .inl (fun _ => 0))), ((sa 0), .inr (2, [.ref ((sf 0) 0), .ref ((sf 0) 1), .ref ((sf 0) 2), .ref ((sf 0) 3), .ref ((sf 0) 4), .ref ((sf 0) 5)])), (((sf 0) 0), .inl (((sc 0) 0), 24, .inl (spf 0))), (((sf 0) 1), .inl (((sc 0) 1), 8, .inl (sdf 0))), (((sf 0) 2), .inl (((sc 0) 2), 12, .inl (slf 0))), (((sf 0) 3), .inl (((sc 0) 3), 12, .inl (srf 0))), (((sf 0) 4), .inl (((sc 0) 4), 12, .inr (.inr (.inr (.inr (sga 0)))))), (((sf 0) 5), .inl (((sc 0) 5), 12, .inr (.inr (.inr (.inr (sgb 0)))))), ((b 8), .inr (2, [.ref ((sf 2) 0), .ref ((sf 2) 1), .ref ((sf 2) 2), .ref ((sf 2) 3), .ref ((sf 2) 4), .ref ((sf 2) 5)])), (((sf 2) 0), .inl (((sc 2) 0), 24, .inl (spf 2))), (((sf 2) 1), .inl (((sc 2) 1), 8, .inl (sdf 2))), (((sf 2) 2), .inl (((sc 2) 2), 12, .inl (slf 2))), (((sf 2) 3), .inl (((sc 2) 3), 12, .inl (srf 2))), (((sf 2) 4), .inl (((sc 2) 4), 12, .inr (.inr (.inr (.inr (sga 2)))))), (((sf 2) 5), .inl (((sc 2) 5), 12, .inr (.inr (.inr (.inr (sgb 2)))))), (m0, .inr (8, [.int 0, .int 0, .int 0, .int 0, .ref (a 4), .int 0, .int 0, .int 0, .int 0, .int 0, .int 0, .long 0, .int 0, .int 0, .int 0, .int 0, .int 0, .int 0, .ref (a 18), .ref (a 19), .ref (a 20), .ref (a 21), .ref (a 22), .ref (a 23), .ref (a 24), .ref (a 25), .ref (a 26), .ref (a 27), .ref (a 28), .ref (a 29), .ref (a 30), .ref (a 31), .ref (a 32), .ref (a 33), .ref (a 34), .ref (a 35), .long 0, .int 0, .ref (a 38), .ref (a 39), .int 0, .ref (a 41), .ref (a 42), .ref (a 43)])), ((a 38), .inl ((ca 38), 176, .inl (fun _ => 0))), ((a 41), .inl ((ca 41), 352, .inl (fun _ => 0))), ((a 42), .inl ((ca 42), 2, .inl (fun _ => 0)))] ++ rows) H) (hD : va_D (fun q : Nat => s.heap.size ≤ q) ([(x0, .inr (7, [.ref (b 0), .ref (b 1), .ref (b 2), .ref (b 3), .ref (b 4), .ref (b 5), .ref (b 6), .ref (b 7), .ref (b 8), .ref (b 9), .int 1])), ((b 4), .inl (cK, 2, .inr (.inr (.inr (.inr kf))))), ((b 5), .inl (cZ, 2, .inl (fun _ => 0))), ((sa 0), .inr (2, [.ref ((sf 0) 0), .ref ((sf 0) 1), .ref ((sf 0) 2), .ref ((sf 0) 3), .ref ((sf 0) 4), .ref ((sf 0) 5)])), (((sf 0) 0), .inl (((sc 0) 0), 24, .inl (spf 0))), (((sf 0) 1), .inl (((sc 0) 1), 8, .inl (sdf 0))), (((sf 0) 2), .inl (((sc 0) 2), 12, .inl (slf 0))), (((sf 0) 3), .inl (((sc 0) 3), 12, .inl (srf 0))), (((sf 0) 4), .inl (((sc 0) 4), 12, .inr (.inr (.inr (.inr (sga 0)))))), (((sf 0) 5), .inl (((sc 0) 5), 12, .inr (.inr (.inr (.inr (sgb 0)))))), ((b 8), .inr (2, [.ref ((sf 2) 0), .ref ((sf 2) 1), .ref ((sf 2) 2), .ref ((sf 2) 3), .ref ((sf 2) 4), .ref ((sf 2) 5)])), (((sf 2) 0), .inl (((sc 2) 0), 24, .inl (spf 2))), (((sf 2) 1), .inl (((sc 2) 1), 8, .inl (sdf 2))), (((sf 2) 2), .inl (((sc 2) 2), 12, .inl (slf 2))), (((sf 2) 3), .inl (((sc 2) 3), 12, .inl (srf 2))), (((sf 2) 4), .inl (((sc 2) 4), 12, .inr (.inr (.inr (.inr (sga 2)))))), (((sf 2) 5), .inl (((sc 2) 5), 12, .inr (.inr (.inr (.inr (sgb 2)))))), (m0, .inr (8, [.int 0, .int 0, .int 0, .int 0, .ref (a 4), .int 0, .int 0, .int 0, .int 0, .int 0, .int 0, .long 0, .int 0, .int 0, .int 0, .int 0, .int 0, .int 0, .ref (a 18), .ref (a 19), .ref (a 20), .ref (a 21), .ref (a 22), .ref (a 23), .ref (a 24), .ref (a 25), .ref (a 26), .ref (a 27), .ref (a 28), .ref (a 29), .ref (a 30), .ref (a 31), .ref (a 32), .ref (a 33), .ref (a 34), .ref (a 35), .long 0, .int 0, .ref (a 38), .ref (a 39), .int 0, .ref (a 41), .ref (a 42), .ref (a 43)])), ((a 38), .inl ((ca 38), 176, .inl (fun _ => 0))), ((a 41), .inl ((ca 41), 352, .inl (fun _ => 0))), ((a 42), .inl ((ca 42), 2, .inl (fun _ => 0)))] ++ rows)) (hS : va_S (fun q : Nat => s.heap.size ≤ q) s.heap H locs) (hE : Ev g (fun q : Nat => s.heap.size ≤ q) s) (hl : lv_has ls 7 [(4, .int 0), (3, .ref o0), (2, .ref m0), (1, .ref x0), (0, .ref b0)]) : W p l e room_1 s m #[Value.ref b0] below meth c H locs 243 7586 (lw_Z below #[Value.ref b0] s) (F0 m 1233 ls []) := by
  obtain ⟨hx, hb, hr, hml, hown, hts0, hX, hbl, hlocks, hgv⟩ := id C0
  have hts := fun (w : Cond) (h : w ∈ TBL) => hts0 w (TBin w h)
  have hown : s.vm.findClass RL = some m.cls := hown
  have hN := hE.1
  have hA : ∀ q : Nat, s.heap.size ≤ q → (fun q : Nat => s.heap.size ≤ q) q := fun _ h => h
  have hbA : ¬ (fun q : Nat => s.heap.size ≤ q) b0 := Nat.not_le.mpr hbl
  generalize hAe : (fun q : Nat => s.heap.size ≤ q) = A at hD hS hE hA hbA
  refine lv_aload_n hx hb dL_law_1233 rfl (lv_at hl 3 rfl) ?_
  refine lv_aload_n hx hb dL_law_1234 rfl (lv_at hl 4 rfl) ?_
  refine lv_iload hx hb dL_law_1235 (lv_at hl 0 rfl) ?_
  refine lv_iconst (v := 1) hx hb dL_law_1237 (by decide) ?_
  refine lv_iadd hx hb dL_law_1238 ?_
  refine cst (v := 1) (by decide) ?_
  refine va_sld hx hb hX hbl hbA hS (vin0 (by decide)) dL_law_1239 ?_
  refine cst (v := 0) ((congrArg xs (show (1 : Int32).toNatClampNeg = 1 by decide)).trans hq1) ?_
  refine lv_aload_n hx hb dL_law_1240 rfl (lv_at hl 4 rfl) ?_
  refine lv_iload hx hb dL_law_1241 (lv_at hl 0 rfl) ?_
  refine lv_iconst (v := 2) hx hb dL_law_1243 (by decide) ?_
  refine lv_iadd hx hb dL_law_1244 ?_
  refine cst (v := 2) (by decide) ?_
  refine va_sld hx hb hX hbl hbA hS (vin0 (by decide)) dL_law_1245 ?_
  refine cst (v := 0) ((congrArg xs (show (2 : Int32).toNatClampNeg = 2 by decide)).trans hq2) ?_
  refine lv_if_eq (tgt := 1253) hx hb dL_law_1246 (by decide) (fun c1246_1 => ?_) (fun c1246_1 => by exfalso; exact absurd c1246_1 (by decide))
  refine lv_iconst (v := 0) hx hb dL_law_1253 (by decide) ?_
  have hPc := hP.part (cx := [(x0, .inr (7, [.ref (b 0), .ref (b 1), .ref (b 2), .ref (b 3), .ref (b 4), .ref (b 5), .ref (b 6), .ref (b 7), .ref (b 8), .ref (b 9), .int 1])), ((b 4), .inl (cK, 2, .inr (.inr (.inr (.inr kf))))), ((b 5), .inl (cZ, 2, .inl (fun _ => 0))), ((sa 0), .inr (2, [.ref ((sf 0) 0), .ref ((sf 0) 1), .ref ((sf 0) 2), .ref ((sf 0) 3), .ref ((sf 0) 4), .ref ((sf 0) 5)])), (((sf 0) 0), .inl (((sc 0) 0), 24, .inl (spf 0))), (((sf 0) 1), .inl (((sc 0) 1), 8, .inl (sdf 0))), (((sf 0) 2), .inl (((sc 0) 2), 12, .inl (slf 0))), (((sf 0) 3), .inl (((sc 0) 3), 12, .inl (srf 0))), (((sf 0) 4), .inl (((sc 0) 4), 12, .inr (.inr (.inr (.inr (sga 0)))))), (((sf 0) 5), .inl (((sc 0) 5), 12, .inr (.inr (.inr (.inr (sgb 0)))))), ((b 8), .inr (2, [.ref ((sf 2) 0), .ref ((sf 2) 1), .ref ((sf 2) 2), .ref ((sf 2) 3), .ref ((sf 2) 4), .ref ((sf 2) 5)])), (((sf 2) 0), .inl (((sc 2) 0), 24, .inl (spf 2))), (((sf 2) 1), .inl (((sc 2) 1), 8, .inl (sdf 2))), (((sf 2) 2), .inl (((sc 2) 2), 12, .inl (slf 2))), (((sf 2) 3), .inl (((sc 2) 3), 12, .inl (srf 2))), (((sf 2) 4), .inl (((sc 2) 4), 12, .inr (.inr (.inr (.inr (sga 2)))))), (((sf 2) 5), .inl (((sc 2) 5), 12, .inr (.inr (.inr (.inr (sgb 2))))))]) [0, 1, 2, 3, 4, 5, 6, 7, 8, 9, 10, 11, 12, 13, 14, 15, 16] rfl
  have hKc := hK.sub (tys' := [(cK, .object "ClosedUntil$State"), (cZ, .boolean), (((sc 0) 0), .int), (((sc 0) 1), .int), (((sc 0) 2), .int), (((sc 0) 3), .int), (((sc 0) 4), .array .int), (((sc 0) 5), .array .int), (((sc 2) 0), .int), (((sc 2) 1), .int), (((sc 2) 2), .int), (((sc 2) 3), .int), (((sc 2) 4), .array .int), (((sc 2) 5), .array .int)]) [0, 1, 2, 3, 4, 5, 6, 7, 8, 9, 10, 11, 12, 13] rfl
  have hDc := hD.part (cx := [(x0, .inr (7, [.ref (b 0), .ref (b 1), .ref (b 2), .ref (b 3), .ref (b 4), .ref (b 5), .ref (b 6), .ref (b 7), .ref (b 8), .ref (b 9), .int 1])), ((b 4), .inl (cK, 2, .inr (.inr (.inr (.inr kf))))), ((b 5), .inl (cZ, 2, .inl (fun _ => 0))), ((sa 0), .inr (2, [.ref ((sf 0) 0), .ref ((sf 0) 1), .ref ((sf 0) 2), .ref ((sf 0) 3), .ref ((sf 0) 4), .ref ((sf 0) 5)])), (((sf 0) 0), .inl (((sc 0) 0), 24, .inl (spf 0))), (((sf 0) 1), .inl (((sc 0) 1), 8, .inl (sdf 0))), (((sf 0) 2), .inl (((sc 0) 2), 12, .inl (slf 0))), (((sf 0) 3), .inl (((sc 0) 3), 12, .inl (srf 0))), (((sf 0) 4), .inl (((sc 0) 4), 12, .inr (.inr (.inr (.inr (sga 0)))))), (((sf 0) 5), .inl (((sc 0) 5), 12, .inr (.inr (.inr (.inr (sgb 0)))))), ((b 8), .inr (2, [.ref ((sf 2) 0), .ref ((sf 2) 1), .ref ((sf 2) 2), .ref ((sf 2) 3), .ref ((sf 2) 4), .ref ((sf 2) 5)])), (((sf 2) 0), .inl (((sc 2) 0), 24, .inl (spf 2))), (((sf 2) 1), .inl (((sc 2) 1), 8, .inl (sdf 2))), (((sf 2) 2), .inl (((sc 2) 2), 12, .inl (slf 2))), (((sf 2) 3), .inl (((sc 2) 3), 12, .inl (srf 2))), (((sf 2) 4), .inl (((sc 2) 4), 12, .inr (.inr (.inr (.inr (sga 2)))))), (((sf 2) 5), .inl (((sc 2) 5), 12, .inr (.inr (.inr (.inr (sgb 2))))))]) [0, 1, 2, 3, 4, 5, 6, 7, 8, 9, 10, 11, 12, 13, 14, 15, 16] (by decide) rfl
  have hFc := va_freeP (cx := [(x0, .inr (7, [.ref (b 0), .ref (b 1), .ref (b 2), .ref (b 3), .ref (b 4), .ref (b 5), .ref (b 6), .ref (b 7), .ref (b 8), .ref (b 9), .int 1])), ((b 4), .inl (cK, 2, .inr (.inr (.inr (.inr kf))))), ((b 5), .inl (cZ, 2, .inl (fun _ => 0))), ((sa 0), .inr (2, [.ref ((sf 0) 0), .ref ((sf 0) 1), .ref ((sf 0) 2), .ref ((sf 0) 3), .ref ((sf 0) 4), .ref ((sf 0) 5)])), (((sf 0) 0), .inl (((sc 0) 0), 24, .inl (spf 0))), (((sf 0) 1), .inl (((sc 0) 1), 8, .inl (sdf 0))), (((sf 0) 2), .inl (((sc 0) 2), 12, .inl (slf 0))), (((sf 0) 3), .inl (((sc 0) 3), 12, .inl (srf 0))), (((sf 0) 4), .inl (((sc 0) 4), 12, .inr (.inr (.inr (.inr (sga 0)))))), (((sf 0) 5), .inl (((sc 0) 5), 12, .inr (.inr (.inr (.inr (sgb 0)))))), ((b 8), .inr (2, [.ref ((sf 2) 0), .ref ((sf 2) 1), .ref ((sf 2) 2), .ref ((sf 2) 3), .ref ((sf 2) 4), .ref ((sf 2) 5)])), (((sf 2) 0), .inl (((sc 2) 0), 24, .inl (spf 2))), (((sf 2) 1), .inl (((sc 2) 1), 8, .inl (sdf 2))), (((sf 2) 2), .inl (((sc 2) 2), 12, .inl (slf 2))), (((sf 2) 3), .inl (((sc 2) 3), 12, .inl (srf 2))), (((sf 2) 4), .inl (((sc 2) 4), 12, .inr (.inr (.inr (.inr (sga 2)))))), (((sf 2) 5), .inl (((sc 2) 5), 12, .inr (.inr (.inr (.inr (sgb 2))))))]) hD hS hA [0, 1, 2, 3, 4, 5, 6, 7, 8, 9, 10, 11, 12, 13, 14, 15, 16] rfl
  refine va_calli (va_runV (As := [.int 0, .int 0]) (rest := []) ⟨hx, hb, hml, hown, hts⟩ (c_8keep_0f l dC dI g H.size (x0) (b) (f4) (c4) (f5) (f7) (f6) (f2) (cK) (kf) (cZ) (fT) (fU) (sa) (sf) (sc) (spf) (sdf) (slf) (srf) (sga) (sgb) (rows) hkf hgs0) (cwV 2 hts (gwV qw_598 qw_599 qw_600 qw_69 qw_597) rfl rfl rfl (by decide +kernel) ⟨Nat.le_of_ble_eq_true rfl, Nat.le_of_ble_eq_true rfl⟩) ⟨fun a U g9 mk q => ⟨q.1, q.2.1, q.2.2.1, va_K.moved (u := U) (U := U.calling g9 mk a) (Vm.Alike.refl U.vm) q.2.2.2.1, q.2.2.2.2.1, Ev.bl q.2.2.2.2.2⟩, va_recv hK hP (ci := 7) (q0 := 0) rfl rfl, fun U hU hW => ⟨rfl, by rw [hU], by rw [hU]; exact hPc, va_K.moved hW.alike hKc, hDc.weaken (fun _ _ _ _ => trivial), hE.go hS hFc hU hW⟩⟩ rfl rfl hl.1 rfl (lv_room (Nat.le_of_ble_eq_true rfl)) dL_law_1254 ⟨Nat.le_of_ble_eq_true rfl, Nat.le_of_ble_eq_true rfl⟩) hS (fun q _ h => hFc q h) hFc (fun r3 u2 t H1 locs ht hvm h_u2 hB hz1 hk1 hS => ?_)
  obtain ⟨hP, hD⟩ := va_joinP (wr := [(m0, .inr (8, [.int 0, .int 0, .int 0, .int 0, .ref (a 4), .int 0, .int 0, .int 0, .int 0, .int 0, .int 0, .long 0, .int 0, .int 0, .int 0, .int 0, .int 0, .int 0, .ref (a 18), .ref (a 19), .ref (a 20), .ref (a 21), .ref (a 22), .ref (a 23), .ref (a 24), .ref (a 25), .ref (a 26), .ref (a 27), .ref (a 28), .ref (a 29), .ref (a 30), .ref (a 31), .ref (a 32), .ref (a 33), .ref (a 34), .ref (a 35), .long 0, .int 0, .ref (a 38), .ref (a 39), .int 0, .ref (a 41), .ref (a 42), .ref (a 43)])), ((a 38), .inl ((ca 38), 176, .inl (fun _ => 0))), ((a 41), .inl ((ca 41), 352, .inl (fun _ => 0))), ((a 42), .inl ((ca 42), 2, .inl (fun _ => 0)))]) (rx := []) (pl1 := []) hP hD [0, 1, 2, 3, 4, 5, 6, 7, 8, 9, 10, 11, 12, 13, 14, 15, 16] [17, 18, 19, 20] rfl rfl (by decide) (by decide) hk1 hFc va_P0 va_D0
  generalize H1 = H at hP hS ⊢
  have hP : va_P (dC, dI) vwCl [(m0, .inr (8, [.int 0, .int 0, .int 0, .int 0, .ref (a 4), .int 0, .int 0, .int 0, .int 0, .int 0, .int 0, .long 0, .int 0, .int 0, .int 0, .int 0, .int 0, .int 0, .ref (a 18), .ref (a 19), .ref (a 20), .ref (a 21), .ref (a 22), .ref (a 23), .ref (a 24), .ref (a 25), .ref (a 26), .ref (a 27), .ref (a 28), .ref (a 29), .ref (a 30), .ref (a 31), .ref (a 32), .ref (a 33), .ref (a 34), .ref (a 35), .long 0, .int 0, .ref (a 38), .ref (a 39), .int 0, .ref (a 41), .ref (a 42), .ref (a 43)])), ((a 38), .inl ((ca 38), 176, .inl (fun _ => 0))), ((a 41), .inl ((ca 41), 352, .inl (fun _ => 0))), ((a 42), .inl ((ca 42), 2, .inl (fun _ => 0)))] H := hP
  have hD : va_D A [(m0, .inr (8, [.int 0, .int 0, .int 0, .int 0, .ref (a 4), .int 0, .int 0, .int 0, .int 0, .int 0, .int 0, .long 0, .int 0, .int 0, .int 0, .int 0, .int 0, .int 0, .ref (a 18), .ref (a 19), .ref (a 20), .ref (a 21), .ref (a 22), .ref (a 23), .ref (a 24), .ref (a 25), .ref (a 26), .ref (a 27), .ref (a 28), .ref (a 29), .ref (a 30), .ref (a 31), .ref (a 32), .ref (a 33), .ref (a 34), .ref (a 35), .long 0, .int 0, .ref (a 38), .ref (a 39), .int 0, .ref (a 41), .ref (a 42), .ref (a 43)])), ((a 38), .inl ((ca 38), 176, .inl (fun _ => 0))), ((a 41), .inl ((ca 41), 352, .inl (fun _ => 0))), ((a 42), .inl ((ca 42), 2, .inl (fun _ => 0)))] := hD
  refine W.widen (k := 243) (n := 7586) (Nat.le_of_ble_eq_true rfl) (Nat.le_of_ble_eq_true rfl) ?_
  have h_u2 : r3 = 1 := h_u2
  subst h_u2
  refine lv_aload_n hx hb dL_law_1257 rfl (lv_at hl 2 rfl) ?_
  refine lv_aload_n hx hb dL_law_1258 rfl (lv_at hl 4 rfl) ?_
  refine lv_iload hx hb dL_law_1259 (lv_at hl 0 rfl) ?_
  refine lv_iconst (v := 1) hx hb dL_law_1261 (by decide) ?_
  refine lv_iadd hx hb dL_law_1262 ?_
  refine cst (v := 1) (by decide) ?_
  refine va_sld hx hb hX hbl hbA hS (vin0 (by decide)) dL_law_1263 ?_
  refine cst (v := 0) ((congrArg xs (show (1 : Int32).toNatClampNeg = 1 by decide)).trans hq1) ?_
  refine lv_aload_n hx hb dL_law_1264 rfl (lv_at hl 4 rfl) ?_
  refine lv_iload hx hb dL_law_1265 (lv_at hl 0 rfl) ?_
  refine lv_iconst (v := 2) hx hb dL_law_1267 (by decide) ?_
  refine lv_iadd hx hb dL_law_1268 ?_
  refine cst (v := 2) (by decide) ?_
  refine va_sld hx hb hX hbl hbA hS (vin0 (by decide)) dL_law_1269 ?_
  refine cst (v := 0) ((congrArg xs (show (2 : Int32).toNatClampNeg = 2 by decide)).trans hq2) ?_
  refine lv_if_eq (tgt := 1277) hx hb dL_law_1270 (by decide) (fun c1270_4 => ?_) (fun c1270_4 => by exfalso; exact absurd c1270_4 (by decide))
  refine lv_iconst (v := 0) hx hb dL_law_1277 (by decide) ?_
  have hPc := hP.sub (ws' := [(m0, .inr (8, [.int 0, .int 0, .int 0, .int 0, .ref (a 4), .int 0, .int 0, .int 0, .int 0, .int 0, .int 0, .long 0, .int 0, .int 0, .int 0, .int 0, .int 0, .int 0, .ref (a 18), .ref (a 19), .ref (a 20), .ref (a 21), .ref (a 22), .ref (a 23), .ref (a 24), .ref (a 25), .ref (a 26), .ref (a 27), .ref (a 28), .ref (a 29), .ref (a 30), .ref (a 31), .ref (a 32), .ref (a 33), .ref (a 34), .ref (a 35), .long 0, .int 0, .ref (a 38), .ref (a 39), .int 0, .ref (a 41), .ref (a 42), .ref (a 43)])), ((a 38), .inl ((ca 38), 176, .inl (fun _ => 0))), ((a 41), .inl ((ca 41), 352, .inl (fun _ => 0))), ((a 42), .inl ((ca 42), 2, .inl (fun _ => 0)))]) [0, 1, 2, 3] rfl
  have hKc := hK.sub (tys' := [((ca 38), .int), ((ca 41), .int), ((ca 42), .boolean)]) [14, 15, 16] rfl
  have hDc := hD.sub (ws' := [(m0, .inr (8, [.int 0, .int 0, .int 0, .int 0, .ref (a 4), .int 0, .int 0, .int 0, .int 0, .int 0, .int 0, .long 0, .int 0, .int 0, .int 0, .int 0, .int 0, .int 0, .ref (a 18), .ref (a 19), .ref (a 20), .ref (a 21), .ref (a 22), .ref (a 23), .ref (a 24), .ref (a 25), .ref (a 26), .ref (a 27), .ref (a 28), .ref (a 29), .ref (a 30), .ref (a 31), .ref (a 32), .ref (a 33), .ref (a 34), .ref (a 35), .long 0, .int 0, .ref (a 38), .ref (a 39), .int 0, .ref (a 41), .ref (a 42), .ref (a 43)])), ((a 38), .inl ((ca 38), 176, .inl (fun _ => 0))), ((a 41), .inl ((ca 41), 352, .inl (fun _ => 0))), ((a 42), .inl ((ca 42), 2, .inl (fun _ => 0)))]) [0, 1, 2, 3] (by decide) rfl
  have hFc := va_free (wc := [(m0, .inr (8, [.int 0, .int 0, .int 0, .int 0, .ref (a 4), .int 0, .int 0, .int 0, .int 0, .int 0, .int 0, .long 0, .int 0, .int 0, .int 0, .int 0, .int 0, .int 0, .ref (a 18), .ref (a 19), .ref (a 20), .ref (a 21), .ref (a 22), .ref (a 23), .ref (a 24), .ref (a 25), .ref (a 26), .ref (a 27), .ref (a 28), .ref (a 29), .ref (a 30), .ref (a 31), .ref (a 32), .ref (a 33), .ref (a 34), .ref (a 35), .long 0, .int 0, .ref (a 38), .ref (a 39), .int 0, .ref (a 41), .ref (a 42), .ref (a 43)])), ((a 38), .inl ((ca 38), 176, .inl (fun _ => 0))), ((a 41), .inl ((ca 41), 352, .inl (fun _ => 0))), ((a 42), .inl ((ca 42), 2, .inl (fun _ => 0)))]) hD hS hA [0, 1, 2, 3] rfl
  refine va_calli (va_runV (As := [.int 0, .int 0]) (rest := [.int 1]) ⟨hx, hb, hml, hown, hts⟩ (c_9keep_0f l dC dI g H.size (m0) (a) (ca) ) (cwV 2 hts (gwV qw_602 qw_603 qw_604 qw_23 qw_601) rfl rfl rfl (by decide +kernel) ⟨Nat.le_of_ble_eq_true rfl, Nat.le_of_ble_eq_true rfl⟩) ⟨fun a U g9 mk q => ⟨q.1, q.2.1, q.2.2.1, va_K.moved (u := U) (U := U.calling g9 mk a) (Vm.Alike.refl U.vm) q.2.2.2.1, q.2.2.2.2.1, Ev.bl q.2.2.2.2.2⟩, va_recv hK hP (ci := 8) (q0 := 0) rfl rfl, fun U hU hW => ⟨rfl, by rw [hU], by rw [hU]; exact hPc, va_K.moved hW.alike hKc, hDc.weaken (fun _ _ _ _ => trivial), hE.go hS hFc hU hW⟩⟩ rfl rfl hl.1 rfl (lv_room (Nat.le_of_ble_eq_true rfl)) dL_law_1278 ⟨Nat.le_of_ble_eq_true rfl, Nat.le_of_ble_eq_true rfl⟩) hS (fun q _ h => hFc q h) hFc (fun r6 u5 t H1 locs ht hvm h_u5 hB hz1 hk1 hS => ?_)
  obtain ⟨hP, hD⟩ := va_join (wr := []) (w1 := []) hP hD [0, 1, 2, 3] [] rfl rfl (by decide) (by decide) hk1 hFc va_P0 va_D0
  generalize H1 = H at hP hS ⊢
  have hP : va_P (dC, dI) vwCl [] H := hP
  have hD : va_D A [] := hD
  refine W.widen (k := 243) (n := 7586) (Nat.le_of_ble_eq_true rfl) (Nat.le_of_ble_eq_true rfl) ?_
  have h_u5 : r6 = 1 := h_u5
  subst h_u5
  refine lv_icmp_eq (tgt := 1311) hx hb dL_law_1281 (by decide) (fun c1281_7 => ?_) (fun c1281_7 => by exfalso; exact absurd c1281_7 (by decide))
  refine lv_iinc (v := 6) (lv' := [(4, .int 6), (3, .ref o0), (2, .ref m0), (1, .ref x0), (0, .ref b0)]) hx hb dL_law_1311 hl (k := 0) rfl (by decide) (by decide) rfl (fun ls hl => ?_)
  refine lv_goto (tgt := 23) hx hb dL_law_1314 (by decide) ?_
  refine lv_iload hx hb dL_law_23 (lv_at hl 0 rfl) ?_
  refine lv_aload_n hx hb dL_law_25 rfl (lv_at hl 4 rfl) ?_
  refine va_slen hx hb hX hbl hbA hS dL_law_26 ?_
  refine cst (v := 6) (by decide) ?_
  refine lv_bipush (v := 6) hx hb dL_law_27 (by decide) ?_
  refine lv_isub hx hb dL_law_29 ?_
  refine cst (v := 0) (by decide) ?_
  refine lv_icmp_gt (tgt := 1317) hx hb dL_law_30 (by decide) (fun c30_8 => ?_) (fun c30_8 => by exfalso; exact absurd c30_8 (by decide))
  refine lv_iconst (v := 1) hx hb dL_law_1317 (by decide) ?_
  refine va_forget (fun q h => by have h8 := hS.2.2 q h; rw [← hAe] at h8; exact h8) ?_
  refine W.widen (k := 600002) (n := 7302232) (Nat.le_of_ble_eq_true rfl) (Nat.le_of_ble_eq_true rfl) ?_
  exact lw_ret hx hb hr hlocks dL_law_1318
set_option maxHeartbeats 4000000 in
set_option maxRecDepth 100000 in
theorem law_260t {p : Program} {e : Env} {s : State} {m : MethodId} {below : List Frame} {meth : Method} {c : Code} (l : Launch) {b0 : Nat} {xs : Nat → Int32} (C0 : lw_At p s m meth c b0 6 xs) (dC : Nat → ClassId) (dI : Nat → Nat → Nat) (g : Gv) (x0 : Nat) (b : Nat → Nat) (f4 : Nat → Nat) (c4 : ClassId) (f5 : Nat → Nat) (f7 : Nat → Nat) (f6 : Nat → Nat) (f2 : Nat → Nat) (cK : ClassId) (kf : Nat → Option Nat) (cZ : ClassId) (fT : Nat → Nat) (fU : Nat → Nat) (sa : Nat → Nat) (sf : Nat → Nat → Nat) (sc : Nat → Nat → ClassId) (spf : Nat → Nat → Int32) (sdf : Nat → Nat → Int32) (slf : Nat → Nat → Int32) (srf : Nat → Nat → Int32) (sga : Nat → Nat → Option Nat) (sgb : Nat → Nat → Option Nat) (rows : va_W) (m0 : Nat) (a : Nat → Nat) (ca : Nat → ClassId) (o0 : Nat)  (hq1 : xs 1 = 0) (hbk : (xs 2).toInt ≠ 0) {H : Heap} {locs : List Loc} {ls : Array Slot} (hK : va_K (dC, dI) vwCl [(cZ, .boolean), ((ca 42), .boolean)] s) (hP : va_P (dC, dI) vwCl [(x0, .inr (7, [.ref (b 0), .ref (b 1), .ref (b 2), .ref (b 3), .ref (b 4), .ref (b 5), .ref (b 6), .ref (b 7), .ref (b 8), .ref (b 9), .int 1])), ((b 5), .inl (cZ, 2, .inl (fun _ => 0))), (m0, .inr (8, [.int 0, .int 0, .int 0, .int 0, .ref (a 4), .int 0, .int 0, .int 0, .int 0, .int 0, .int 0, .long 0, .int 0, .int 0, .int 0, .int 0, .int 0, .int 0, .ref (a 18), .ref (a 19), .ref (a 20), .ref (a 21), .ref (a 22), .ref (a 23), .ref (a 24), .ref (a 25), .ref (a 26), .ref (a 27), .ref (a 28), .ref (a 29), .ref (a 30), .ref (a 31), .ref (a 32), .ref (a 33), .ref (a 34), .ref (a 35), .long 0, .int 0, .ref (a 38), .ref (a 39), .int 0, .ref (a 41), .ref (a 42), .ref (a 43)])), ((a 42), .inl ((ca 42), 2, .inl (fun _ => 0)))] H) (hD : va_D (fun q : Nat => s.heap.size ≤ q) [(x0, .inr (7, [.ref (b 0), .ref (b 1), .ref (b 2), .ref (b 3), .ref (b 4), .ref (b 5), .ref (b 6), .ref (b 7), .ref (b 8), .ref (b 9), .int 1])), ((b 5), .inl (cZ, 2, .inl (fun _ => 0))), (m0, .inr (8, [.int 0, .int 0, .int 0, .int 0, .ref (a 4), .int 0, .int 0, .int 0, .int 0, .int 0, .int 0, .long 0, .int 0, .int 0, .int 0, .int 0, .int 0, .int 0, .ref (a 18), .ref (a 19), .ref (a 20), .ref (a 21), .ref (a 22), .ref (a 23), .ref (a 24), .ref (a 25), .ref (a 26), .ref (a 27), .ref (a 28), .ref (a 29), .ref (a 30), .ref (a 31), .ref (a 32), .ref (a 33), .ref (a 34), .ref (a 35), .long 0, .int 0, .ref (a 38), .ref (a 39), .int 0, .ref (a 41), .ref (a 42), .ref (a 43)])), ((a 42), .inl ((ca 42), 2, .inl (fun _ => 0)))]) (hS : va_S (fun q : Nat => s.heap.size ≤ q) s.heap H locs) (hE : Ev g (fun q : Nat => s.heap.size ≤ q) s) (hl : lv_has ls 7 [(4, .int 0), (3, .ref o0), (2, .ref m0), (1, .ref x0), (0, .ref b0)]) : W p l e room_1 s m #[Value.ref b0] below meth c H locs 243 7586 (lw_Z below #[Value.ref b0] s) (F0 m 1233 ls []) := by
  obtain ⟨hx, hb, hr, hml, hown, hts0, hX, hbl, hlocks, hgv⟩ := id C0
  have hts := fun (w : Cond) (h : w ∈ TBL) => hts0 w (TBin w h)
  have hown : s.vm.findClass RL = some m.cls := hown
  have hN := hE.1
  have hA : ∀ q : Nat, s.heap.size ≤ q → (fun q : Nat => s.heap.size ≤ q) q := fun _ h => h
  have hbA : ¬ (fun q : Nat => s.heap.size ≤ q) b0 := Nat.not_le.mpr hbl
  generalize hAe : (fun q : Nat => s.heap.size ≤ q) = A at hD hS hE hA hbA
  refine lv_aload_n hx hb dL_law_1233 rfl (lv_at hl 3 rfl) ?_
  refine lv_aload_n hx hb dL_law_1234 rfl (lv_at hl 4 rfl) ?_
  refine lv_iload hx hb dL_law_1235 (lv_at hl 0 rfl) ?_
  refine lv_iconst (v := 1) hx hb dL_law_1237 (by decide) ?_
  refine lv_iadd hx hb dL_law_1238 ?_
  refine cst (v := 1) (by decide) ?_
  refine va_sld hx hb hX hbl hbA hS (vin0 (by decide)) dL_law_1239 ?_
  refine cst (v := 0) ((congrArg xs (show (1 : Int32).toNatClampNeg = 1 by decide)).trans hq1) ?_
  refine lv_aload_n hx hb dL_law_1240 rfl (lv_at hl 4 rfl) ?_
  refine lv_iload hx hb dL_law_1241 (lv_at hl 0 rfl) ?_
  refine lv_iconst (v := 2) hx hb dL_law_1243 (by decide) ?_
  refine lv_iadd hx hb dL_law_1244 ?_
  refine cst (v := 2) (by decide) ?_
  refine va_sld hx hb hX hbl hbA hS (vin0 (by decide)) dL_law_1245 ?_
  refine cst (v := (xs 2)) (congrArg xs (show (2 : Int32).toNatClampNeg = 2 by decide)) ?_
  refine lv_if_eq (tgt := 1253) hx hb dL_law_1246 (by decide) (fun c1246_1 => by exfalso; have c1246_1 : (xs 2).toInt = 0 := (cv_eq rfl (by decide)).mp c1246_1; omega) (fun c1246_1 => ?_)
  have c1246_1 : ¬ ((xs 2).toInt = 0) := mt (cv_eq rfl (by decide)).mpr c1246_1
  refine lv_iconst (v := 1) hx hb dL_law_1249 (by decide) ?_
  refine lv_goto (tgt := 1254) hx hb dL_law_1250 (by decide) ?_
  have hPc := hP.sub (ws' := [(x0, .inr (7, [.ref (b 0), .ref (b 1), .ref (b 2), .ref (b 3), .ref (b 4), .ref (b 5), .ref (b 6), .ref (b 7), .ref (b 8), .ref (b 9), .int 1])), ((b 5), .inl (cZ, 2, .inl (fun _ => 0)))]) [0, 1] rfl
  have hKc := hK.sub (tys' := [(cZ, .boolean)]) [0] rfl
  refine vp_callSi ((va_runV (As := [.int 0, .int 1]) (rest := []) ⟨hx, hb, hml, hown, hts⟩ (c_8keep_0t l dC dI g (x0) (b) (f4) (c4) (f5) (f7) (f6) (f2) (cK) (kf) (cZ) (fT) (fU) (sa) (sf) (sc) (spf) (sdf) (slf) (srf) (sga) (sgb) (rows) ) (cwV 2 hts (gwV qw_598 qw_599 qw_600 qw_69 qw_597) rfl rfl rfl (by decide +kernel) ⟨Nat.le_of_ble_eq_true rfl, Nat.le_of_ble_eq_true rfl⟩) ⟨fun a U g9 mk q => ⟨q.1, q.2.1, va_K.moved (u := U) (U := U.calling g9 mk a) (Vm.Alike.refl U.vm) q.2.2.1, Ev.bl q.2.2.2⟩, va_recv hK hP (ci := 7) (q0 := 0) rfl rfl, fun U hU hW => ⟨rfl, by rw [hU]; exact hPc, va_K.moved hW.alike hKc, hE.go hS (fun _ h => h.elim) hU hW⟩⟩ rfl rfl hl.1 rfl (lv_room (Nat.le_of_ble_eq_true rfl)) dL_law_1254 ⟨Nat.le_of_ble_eq_true rfl, Nat.le_of_ble_eq_true rfl⟩)).run (fun r2 h_r2 => ?_)
  have h_r2 : r2 = 0 := h_r2
  subst h_r2
  refine lv_aload_n hx hb dL_law_1257 rfl (lv_at hl 2 rfl) ?_
  refine lv_aload_n hx hb dL_law_1258 rfl (lv_at hl 4 rfl) ?_
  refine lv_iload hx hb dL_law_1259 (lv_at hl 0 rfl) ?_
  refine lv_iconst (v := 1) hx hb dL_law_1261 (by decide) ?_
  refine lv_iadd hx hb dL_law_1262 ?_
  refine cst (v := 1) (by decide) ?_
  refine va_sld hx hb hX hbl hbA hS (vin0 (by decide)) dL_law_1263 ?_
  refine cst (v := 0) ((congrArg xs (show (1 : Int32).toNatClampNeg = 1 by decide)).trans hq1) ?_
  refine lv_aload_n hx hb dL_law_1264 rfl (lv_at hl 4 rfl) ?_
  refine lv_iload hx hb dL_law_1265 (lv_at hl 0 rfl) ?_
  refine lv_iconst (v := 2) hx hb dL_law_1267 (by decide) ?_
  refine lv_iadd hx hb dL_law_1268 ?_
  refine cst (v := 2) (by decide) ?_
  refine va_sld hx hb hX hbl hbA hS (vin0 (by decide)) dL_law_1269 ?_
  refine cst (v := (xs 2)) (congrArg xs (show (2 : Int32).toNatClampNeg = 2 by decide)) ?_
  refine lv_if_eq (tgt := 1277) hx hb dL_law_1270 (by decide) (fun c1270_3 => by exfalso; have c1270_3 : (xs 2).toInt = 0 := (cv_eq rfl (by decide)).mp c1270_3; omega) (fun c1270_3 => ?_)
  have c1270_3 : ¬ ((xs 2).toInt = 0) := mt (cv_eq rfl (by decide)).mpr c1270_3
  refine lv_iconst (v := 1) hx hb dL_law_1273 (by decide) ?_
  refine lv_goto (tgt := 1278) hx hb dL_law_1274 (by decide) ?_
  have hPc := hP.sub (ws' := [(m0, .inr (8, [.int 0, .int 0, .int 0, .int 0, .ref (a 4), .int 0, .int 0, .int 0, .int 0, .int 0, .int 0, .long 0, .int 0, .int 0, .int 0, .int 0, .int 0, .int 0, .ref (a 18), .ref (a 19), .ref (a 20), .ref (a 21), .ref (a 22), .ref (a 23), .ref (a 24), .ref (a 25), .ref (a 26), .ref (a 27), .ref (a 28), .ref (a 29), .ref (a 30), .ref (a 31), .ref (a 32), .ref (a 33), .ref (a 34), .ref (a 35), .long 0, .int 0, .ref (a 38), .ref (a 39), .int 0, .ref (a 41), .ref (a 42), .ref (a 43)])), ((a 42), .inl ((ca 42), 2, .inl (fun _ => 0)))]) [2, 3] rfl
  have hKc := hK.sub (tys' := [((ca 42), .boolean)]) [1] rfl
  have hDc := hD.sub (ws' := [(m0, .inr (8, [.int 0, .int 0, .int 0, .int 0, .ref (a 4), .int 0, .int 0, .int 0, .int 0, .int 0, .int 0, .long 0, .int 0, .int 0, .int 0, .int 0, .int 0, .int 0, .ref (a 18), .ref (a 19), .ref (a 20), .ref (a 21), .ref (a 22), .ref (a 23), .ref (a 24), .ref (a 25), .ref (a 26), .ref (a 27), .ref (a 28), .ref (a 29), .ref (a 30), .ref (a 31), .ref (a 32), .ref (a 33), .ref (a 34), .ref (a 35), .long 0, .int 0, .ref (a 38), .ref (a 39), .int 0, .ref (a 41), .ref (a 42), .ref (a 43)])), ((a 42), .inl ((ca 42), 2, .inl (fun _ => 0)))]) [2, 3] (by decide) rfl
  have hFc := va_free (wc := [(m0, .inr (8, [.int 0, .int 0, .int 0, .int 0, .ref (a 4), .int 0, .int 0, .int 0, .int 0, .int 0, .int 0, .long 0, .int 0, .int 0, .int 0, .int 0, .int 0, .int 0, .ref (a 18), .ref (a 19), .ref (a 20), .ref (a 21), .ref (a 22), .ref (a 23), .ref (a 24), .ref (a 25), .ref (a 26), .ref (a 27), .ref (a 28), .ref (a 29), .ref (a 30), .ref (a 31), .ref (a 32), .ref (a 33), .ref (a 34), .ref (a 35), .long 0, .int 0, .ref (a 38), .ref (a 39), .int 0, .ref (a 41), .ref (a 42), .ref (a 43)])), ((a 42), .inl ((ca 42), 2, .inl (fun _ => 0)))]) hD hS hA [2, 3] rfl
  refine va_calli (va_runV (As := [.int 0, .int 1]) (rest := [.int 0]) ⟨hx, hb, hml, hown, hts⟩ (c_9keep_0t l dC dI g H.size (m0) (a) (ca) ) (cwV 2 hts (gwV qw_602 qw_603 qw_604 qw_23 qw_601) rfl rfl rfl (by decide +kernel) ⟨Nat.le_of_ble_eq_true rfl, Nat.le_of_ble_eq_true rfl⟩) ⟨fun a U g9 mk q => ⟨q.1, q.2.1, q.2.2.1, va_K.moved (u := U) (U := U.calling g9 mk a) (Vm.Alike.refl U.vm) q.2.2.2.1, q.2.2.2.2.1, Ev.bl q.2.2.2.2.2⟩, va_recv hK hP (ci := 8) (q0 := 2) rfl rfl, fun U hU hW => ⟨rfl, by rw [hU], by rw [hU]; exact hPc, va_K.moved hW.alike hKc, hDc.weaken (fun _ _ _ _ => trivial), hE.go hS hFc hU hW⟩⟩ rfl rfl hl.1 rfl (lv_room (Nat.le_of_ble_eq_true rfl)) dL_law_1278 ⟨Nat.le_of_ble_eq_true rfl, Nat.le_of_ble_eq_true rfl⟩) hS (fun q _ h => hFc q h) hFc (fun r5 u4 t H1 locs ht hvm h_u4 hB hz1 hk1 hS => ?_)
  obtain ⟨hP, hD⟩ := va_join (wr := [(x0, .inr (7, [.ref (b 0), .ref (b 1), .ref (b 2), .ref (b 3), .ref (b 4), .ref (b 5), .ref (b 6), .ref (b 7), .ref (b 8), .ref (b 9), .int 1])), ((b 5), .inl (cZ, 2, .inl (fun _ => 0)))]) (w1 := []) hP hD [2, 3] [0, 1] rfl rfl (by decide) (by decide) hk1 hFc va_P0 va_D0
  generalize H1 = H at hP hS ⊢
  have hP : va_P (dC, dI) vwCl [(x0, .inr (7, [.ref (b 0), .ref (b 1), .ref (b 2), .ref (b 3), .ref (b 4), .ref (b 5), .ref (b 6), .ref (b 7), .ref (b 8), .ref (b 9), .int 1])), ((b 5), .inl (cZ, 2, .inl (fun _ => 0)))] H := hP
  have hD : va_D A [(x0, .inr (7, [.ref (b 0), .ref (b 1), .ref (b 2), .ref (b 3), .ref (b 4), .ref (b 5), .ref (b 6), .ref (b 7), .ref (b 8), .ref (b 9), .int 1])), ((b 5), .inl (cZ, 2, .inl (fun _ => 0)))] := hD
  refine W.widen (k := 243) (n := 7586) (Nat.le_of_ble_eq_true rfl) (Nat.le_of_ble_eq_true rfl) ?_
  have h_u4 : r5 = 0 := h_u4
  subst h_u4
  refine lv_icmp_eq (tgt := 1311) hx hb dL_law_1281 (by decide) (fun c1281_6 => ?_) (fun c1281_6 => by exfalso; exact absurd c1281_6 (by decide))
  refine lv_iinc (v := 6) (lv' := [(4, .int 6), (3, .ref o0), (2, .ref m0), (1, .ref x0), (0, .ref b0)]) hx hb dL_law_1311 hl (k := 0) rfl (by decide) (by decide) rfl (fun ls hl => ?_)
  refine lv_goto (tgt := 23) hx hb dL_law_1314 (by decide) ?_
  refine lv_iload hx hb dL_law_23 (lv_at hl 0 rfl) ?_
  refine lv_aload_n hx hb dL_law_25 rfl (lv_at hl 4 rfl) ?_
  refine va_slen hx hb hX hbl hbA hS dL_law_26 ?_
  refine cst (v := 6) (by decide) ?_
  refine lv_bipush (v := 6) hx hb dL_law_27 (by decide) ?_
  refine lv_isub hx hb dL_law_29 ?_
  refine cst (v := 0) (by decide) ?_
  refine lv_icmp_gt (tgt := 1317) hx hb dL_law_30 (by decide) (fun c30_7 => ?_) (fun c30_7 => by exfalso; exact absurd c30_7 (by decide))
  refine lv_iconst (v := 1) hx hb dL_law_1317 (by decide) ?_
  refine va_forget (fun q h => by have h8 := hS.2.2 q h; rw [← hAe] at h8; exact h8) ?_
  refine W.widen (k := 600002) (n := 7302232) (Nat.le_of_ble_eq_true rfl) (Nat.le_of_ble_eq_true rfl) ?_
  exact lw_ret hx hb hr hlocks dL_law_1318
set_option maxHeartbeats 4000000 in
set_option maxRecDepth 100000 in
theorem law_261f {p : Program} {e : Env} {s : State} {m : MethodId} {below : List Frame} {meth : Method} {c : Code} (l : Launch) {b0 : Nat} {xs : Nat → Int32} (C0 : lw_At p s m meth c b0 6 xs) (dC : Nat → ClassId) (dI : Nat → Nat → Nat) (g : Gv) (x0 : Nat) (b : Nat → Nat) (f4 : Nat → Nat) (c4 : ClassId) (f5 : Nat → Nat) (f7 : Nat → Nat) (f6 : Nat → Nat) (f2 : Nat → Nat) (cK : ClassId) (kf : Nat → Option Nat) (cZ : ClassId) (fT : Nat → Nat) (fU : Nat → Nat) (sa : Nat → Nat) (sf : Nat → Nat → Nat) (sc : Nat → Nat → ClassId) (spf : Nat → Nat → Int32) (sdf : Nat → Nat → Int32) (slf : Nat → Nat → Int32) (srf : Nat → Nat → Int32) (sga : Nat → Nat → Option Nat) (sgb : Nat → Nat → Option Nat) (rows : va_W) (m0 : Nat) (a : Nat → Nat) (ca : Nat → ClassId) (o0 : Nat)  (hq1 : xs 1 = 1) (hq2 : xs 2 = 0) (hkf : kf 1 = some (sa 1)) (hgs0 : gs4 g.2.2.2.2 (sga 1) (sgb 1) (sga 2) (sgb 2) rows) {H : Heap} {locs : List Loc} {ls : Array Slot} (hK : va_K (dC, dI) vwCl [(cK, .object "ClosedUntil$State"), (cZ, .boolean), (((sc 1) 0), .int), (((sc 1) 1), .int), (((sc 1) 2), .int), (((sc 1) 3), .int), (((sc 1) 4), .array .int), (((sc 1) 5), .array .int), (((sc 2) 0), .int), (((sc 2) 1), .int), (((sc 2) 2), .int), (((sc 2) 3), .int), (((sc 2) 4), .array .int), (((sc 2) 5), .array .int), ((ca 38), .int), ((ca 41), .int), ((ca 42), .boolean)] s) (hP : va_P (dC, dI) vwCl ([(x0, .inr (7, [.ref (b 0), .ref (b 1), .ref (b 2), .ref (b 3), .ref (b 4), .ref (b 5), .ref (b 6), .ref (b 7), .ref (b 8), .ref (b 9), .int 1])), ((b 4), .inl (cK, 2, .inr (.inr (.inr (.inr kf))))), ((b 5), .inl (cZ, 2, .inl (fun _ => 0))), ((sa 1), .inr (2, [.ref ((sf 1) 0), .ref ((sf 1) 1), .ref ((sf 1) 2), .ref ((sf 1) 3), .ref ((sf 1) 4), .ref ((sf 1) 5)])), (((sf 1) 0), .inl (((sc 1) 0), 24, .inl (spf 1))), (((sf 1) 1), .inl (((sc 1) 1), 8, .inl (sdf 1))), (((sf 1) 2), .inl (((sc 1) 2), 12, .inl (slf 1))), (((sf 1) 3), .inl (((sc 1) 3), 12, .inl (srf 1))), (((sf 1) 4), .inl (((sc 1) 4), 12, .inr (.inr (.inr (.inr (sga 1)))))), (((sf 1) 5), .inl (((sc 1) 5), 12, .inr (.inr (.inr (.inr (sgb 1)))))), ((b 8), .inr (2, [.ref ((sf 2) 0), .ref ((sf 2) 1), .ref ((sf 2) 2), .ref ((sf 2) 3), .ref ((sf 2) 4), .ref ((sf 2) 5)])), (((sf 2) 0), .inl (((sc 2) 0), 24, .inl (spf 2))), (((sf 2) 1), .inl (((sc 2) 1), 8, .inl (sdf 2))), (((sf 2) 2), .inl (((sc 2) 2), 12, .inl (slf 2))), (((sf 2) 3), .inl (((sc 2) 3), 12, .inl (srf 2))), (((sf 2) 4), .inl (((sc 2) 4), 12, .inr (.inr (.inr (.inr (sga 2)))))), (((sf 2) 5), .inl (((sc 2) 5), 12, .inr (.inr (.inr (.inr (sgb 2)))))), (m0, .inr (8, [.int 0, .int 0, .int 0, .int 0, .ref (a 4), .int 0, .int 0, .int 0, .int 0, .int 0, .int 0, .long 0, .int 0, .int 0, .int 0, .int 0, .int 0, .int 0, .ref (a 18), .ref (a 19), .ref (a 20), .ref (a 21), .ref (a 22), .ref (a 23), .ref (a 24), .ref (a 25), .ref (a 26), .ref (a 27), .ref (a 28), .ref (a 29), .ref (a 30), .ref (a 31), .ref (a 32), .ref (a 33), .ref (a 34), .ref (a 35), .long 0, .int 0, .ref (a 38), .ref (a 39), .int 0, .ref (a 41), .ref (a 42), .ref (a 43)])), ((a 38), .inl ((ca 38), 176, .inl (fun _ => 0))), ((a 41), .inl ((ca 41), 352, .inl (fun _ => 0))), ((a 42), .inl ((ca 42), 2, .inl (fun _ => 0)))] ++ rows) H) (hD : va_D (fun q : Nat => s.heap.size ≤ q) ([(x0, .inr (7, [.ref (b 0), .ref (b 1), .ref (b 2), .ref (b 3), .ref (b 4), .ref (b 5), .ref (b 6), .ref (b 7), .ref (b 8), .ref (b 9), .int 1])), ((b 4), .inl (cK, 2, .inr (.inr (.inr (.inr kf))))), ((b 5), .inl (cZ, 2, .inl (fun _ => 0))), ((sa 1), .inr (2, [.ref ((sf 1) 0), .ref ((sf 1) 1), .ref ((sf 1) 2), .ref ((sf 1) 3), .ref ((sf 1) 4), .ref ((sf 1) 5)])), (((sf 1) 0), .inl (((sc 1) 0), 24, .inl (spf 1))), (((sf 1) 1), .inl (((sc 1) 1), 8, .inl (sdf 1))), (((sf 1) 2), .inl (((sc 1) 2), 12, .inl (slf 1))), (((sf 1) 3), .inl (((sc 1) 3), 12, .inl (srf 1))), (((sf 1) 4), .inl (((sc 1) 4), 12, .inr (.inr (.inr (.inr (sga 1)))))), (((sf 1) 5), .inl (((sc 1) 5), 12, .inr (.inr (.inr (.inr (sgb 1)))))), ((b 8), .inr (2, [.ref ((sf 2) 0), .ref ((sf 2) 1), .ref ((sf 2) 2), .ref ((sf 2) 3), .ref ((sf 2) 4), .ref ((sf 2) 5)])), (((sf 2) 0), .inl (((sc 2) 0), 24, .inl (spf 2))), (((sf 2) 1), .inl (((sc 2) 1), 8, .inl (sdf 2))), (((sf 2) 2), .inl (((sc 2) 2), 12, .inl (slf 2))), (((sf 2) 3), .inl (((sc 2) 3), 12, .inl (srf 2))), (((sf 2) 4), .inl (((sc 2) 4), 12, .inr (.inr (.inr (.inr (sga 2)))))), (((sf 2) 5), .inl (((sc 2) 5), 12, .inr (.inr (.inr (.inr (sgb 2)))))), (m0, .inr (8, [.int 0, .int 0, .int 0, .int 0, .ref (a 4), .int 0, .int 0, .int 0, .int 0, .int 0, .int 0, .long 0, .int 0, .int 0, .int 0, .int 0, .int 0, .int 0, .ref (a 18), .ref (a 19), .ref (a 20), .ref (a 21), .ref (a 22), .ref (a 23), .ref (a 24), .ref (a 25), .ref (a 26), .ref (a 27), .ref (a 28), .ref (a 29), .ref (a 30), .ref (a 31), .ref (a 32), .ref (a 33), .ref (a 34), .ref (a 35), .long 0, .int 0, .ref (a 38), .ref (a 39), .int 0, .ref (a 41), .ref (a 42), .ref (a 43)])), ((a 38), .inl ((ca 38), 176, .inl (fun _ => 0))), ((a 41), .inl ((ca 41), 352, .inl (fun _ => 0))), ((a 42), .inl ((ca 42), 2, .inl (fun _ => 0)))] ++ rows)) (hS : va_S (fun q : Nat => s.heap.size ≤ q) s.heap H locs) (hE : Ev g (fun q : Nat => s.heap.size ≤ q) s) (hl : lv_has ls 7 [(4, .int 0), (3, .ref o0), (2, .ref m0), (1, .ref x0), (0, .ref b0)]) : W p l e room_1 s m #[Value.ref b0] below meth c H locs 243 7586 (lw_Z below #[Value.ref b0] s) (F0 m 1233 ls []) := by
  obtain ⟨hx, hb, hr, hml, hown, hts0, hX, hbl, hlocks, hgv⟩ := id C0
  have hts := fun (w : Cond) (h : w ∈ TBL) => hts0 w (TBin w h)
  have hown : s.vm.findClass RL = some m.cls := hown
  have hN := hE.1
  have hA : ∀ q : Nat, s.heap.size ≤ q → (fun q : Nat => s.heap.size ≤ q) q := fun _ h => h
  have hbA : ¬ (fun q : Nat => s.heap.size ≤ q) b0 := Nat.not_le.mpr hbl
  generalize hAe : (fun q : Nat => s.heap.size ≤ q) = A at hD hS hE hA hbA
  refine lv_aload_n hx hb dL_law_1233 rfl (lv_at hl 3 rfl) ?_
  refine lv_aload_n hx hb dL_law_1234 rfl (lv_at hl 4 rfl) ?_
  refine lv_iload hx hb dL_law_1235 (lv_at hl 0 rfl) ?_
  refine lv_iconst (v := 1) hx hb dL_law_1237 (by decide) ?_
  refine lv_iadd hx hb dL_law_1238 ?_
  refine cst (v := 1) (by decide) ?_
  refine va_sld hx hb hX hbl hbA hS (vin0 (by decide)) dL_law_1239 ?_
  refine cst (v := 1) ((congrArg xs (show (1 : Int32).toNatClampNeg = 1 by decide)).trans hq1) ?_
  refine lv_aload_n hx hb dL_law_1240 rfl (lv_at hl 4 rfl) ?_
  refine lv_iload hx hb dL_law_1241 (lv_at hl 0 rfl) ?_
  refine lv_iconst (v := 2) hx hb dL_law_1243 (by decide) ?_
  refine lv_iadd hx hb dL_law_1244 ?_
  refine cst (v := 2) (by decide) ?_
  refine va_sld hx hb hX hbl hbA hS (vin0 (by decide)) dL_law_1245 ?_
  refine cst (v := 0) ((congrArg xs (show (2 : Int32).toNatClampNeg = 2 by decide)).trans hq2) ?_
  refine lv_if_eq (tgt := 1253) hx hb dL_law_1246 (by decide) (fun c1246_1 => ?_) (fun c1246_1 => by exfalso; exact absurd c1246_1 (by decide))
  refine lv_iconst (v := 0) hx hb dL_law_1253 (by decide) ?_
  have hPc := hP.part (cx := [(x0, .inr (7, [.ref (b 0), .ref (b 1), .ref (b 2), .ref (b 3), .ref (b 4), .ref (b 5), .ref (b 6), .ref (b 7), .ref (b 8), .ref (b 9), .int 1])), ((b 4), .inl (cK, 2, .inr (.inr (.inr (.inr kf))))), ((b 5), .inl (cZ, 2, .inl (fun _ => 0))), ((sa 1), .inr (2, [.ref ((sf 1) 0), .ref ((sf 1) 1), .ref ((sf 1) 2), .ref ((sf 1) 3), .ref ((sf 1) 4), .ref ((sf 1) 5)])), (((sf 1) 0), .inl (((sc 1) 0), 24, .inl (spf 1))), (((sf 1) 1), .inl (((sc 1) 1), 8, .inl (sdf 1))), (((sf 1) 2), .inl (((sc 1) 2), 12, .inl (slf 1))), (((sf 1) 3), .inl (((sc 1) 3), 12, .inl (srf 1))), (((sf 1) 4), .inl (((sc 1) 4), 12, .inr (.inr (.inr (.inr (sga 1)))))), (((sf 1) 5), .inl (((sc 1) 5), 12, .inr (.inr (.inr (.inr (sgb 1)))))), ((b 8), .inr (2, [.ref ((sf 2) 0), .ref ((sf 2) 1), .ref ((sf 2) 2), .ref ((sf 2) 3), .ref ((sf 2) 4), .ref ((sf 2) 5)])), (((sf 2) 0), .inl (((sc 2) 0), 24, .inl (spf 2))), (((sf 2) 1), .inl (((sc 2) 1), 8, .inl (sdf 2))), (((sf 2) 2), .inl (((sc 2) 2), 12, .inl (slf 2))), (((sf 2) 3), .inl (((sc 2) 3), 12, .inl (srf 2))), (((sf 2) 4), .inl (((sc 2) 4), 12, .inr (.inr (.inr (.inr (sga 2)))))), (((sf 2) 5), .inl (((sc 2) 5), 12, .inr (.inr (.inr (.inr (sgb 2))))))]) [0, 1, 2, 3, 4, 5, 6, 7, 8, 9, 10, 11, 12, 13, 14, 15, 16] rfl
  have hKc := hK.sub (tys' := [(cK, .object "ClosedUntil$State"), (cZ, .boolean), (((sc 1) 0), .int), (((sc 1) 1), .int), (((sc 1) 2), .int), (((sc 1) 3), .int), (((sc 1) 4), .array .int), (((sc 1) 5), .array .int), (((sc 2) 0), .int), (((sc 2) 1), .int), (((sc 2) 2), .int), (((sc 2) 3), .int), (((sc 2) 4), .array .int), (((sc 2) 5), .array .int)]) [0, 1, 2, 3, 4, 5, 6, 7, 8, 9, 10, 11, 12, 13] rfl
  have hDc := hD.part (cx := [(x0, .inr (7, [.ref (b 0), .ref (b 1), .ref (b 2), .ref (b 3), .ref (b 4), .ref (b 5), .ref (b 6), .ref (b 7), .ref (b 8), .ref (b 9), .int 1])), ((b 4), .inl (cK, 2, .inr (.inr (.inr (.inr kf))))), ((b 5), .inl (cZ, 2, .inl (fun _ => 0))), ((sa 1), .inr (2, [.ref ((sf 1) 0), .ref ((sf 1) 1), .ref ((sf 1) 2), .ref ((sf 1) 3), .ref ((sf 1) 4), .ref ((sf 1) 5)])), (((sf 1) 0), .inl (((sc 1) 0), 24, .inl (spf 1))), (((sf 1) 1), .inl (((sc 1) 1), 8, .inl (sdf 1))), (((sf 1) 2), .inl (((sc 1) 2), 12, .inl (slf 1))), (((sf 1) 3), .inl (((sc 1) 3), 12, .inl (srf 1))), (((sf 1) 4), .inl (((sc 1) 4), 12, .inr (.inr (.inr (.inr (sga 1)))))), (((sf 1) 5), .inl (((sc 1) 5), 12, .inr (.inr (.inr (.inr (sgb 1)))))), ((b 8), .inr (2, [.ref ((sf 2) 0), .ref ((sf 2) 1), .ref ((sf 2) 2), .ref ((sf 2) 3), .ref ((sf 2) 4), .ref ((sf 2) 5)])), (((sf 2) 0), .inl (((sc 2) 0), 24, .inl (spf 2))), (((sf 2) 1), .inl (((sc 2) 1), 8, .inl (sdf 2))), (((sf 2) 2), .inl (((sc 2) 2), 12, .inl (slf 2))), (((sf 2) 3), .inl (((sc 2) 3), 12, .inl (srf 2))), (((sf 2) 4), .inl (((sc 2) 4), 12, .inr (.inr (.inr (.inr (sga 2)))))), (((sf 2) 5), .inl (((sc 2) 5), 12, .inr (.inr (.inr (.inr (sgb 2))))))]) [0, 1, 2, 3, 4, 5, 6, 7, 8, 9, 10, 11, 12, 13, 14, 15, 16] (by decide) rfl
  have hFc := va_freeP (cx := [(x0, .inr (7, [.ref (b 0), .ref (b 1), .ref (b 2), .ref (b 3), .ref (b 4), .ref (b 5), .ref (b 6), .ref (b 7), .ref (b 8), .ref (b 9), .int 1])), ((b 4), .inl (cK, 2, .inr (.inr (.inr (.inr kf))))), ((b 5), .inl (cZ, 2, .inl (fun _ => 0))), ((sa 1), .inr (2, [.ref ((sf 1) 0), .ref ((sf 1) 1), .ref ((sf 1) 2), .ref ((sf 1) 3), .ref ((sf 1) 4), .ref ((sf 1) 5)])), (((sf 1) 0), .inl (((sc 1) 0), 24, .inl (spf 1))), (((sf 1) 1), .inl (((sc 1) 1), 8, .inl (sdf 1))), (((sf 1) 2), .inl (((sc 1) 2), 12, .inl (slf 1))), (((sf 1) 3), .inl (((sc 1) 3), 12, .inl (srf 1))), (((sf 1) 4), .inl (((sc 1) 4), 12, .inr (.inr (.inr (.inr (sga 1)))))), (((sf 1) 5), .inl (((sc 1) 5), 12, .inr (.inr (.inr (.inr (sgb 1)))))), ((b 8), .inr (2, [.ref ((sf 2) 0), .ref ((sf 2) 1), .ref ((sf 2) 2), .ref ((sf 2) 3), .ref ((sf 2) 4), .ref ((sf 2) 5)])), (((sf 2) 0), .inl (((sc 2) 0), 24, .inl (spf 2))), (((sf 2) 1), .inl (((sc 2) 1), 8, .inl (sdf 2))), (((sf 2) 2), .inl (((sc 2) 2), 12, .inl (slf 2))), (((sf 2) 3), .inl (((sc 2) 3), 12, .inl (srf 2))), (((sf 2) 4), .inl (((sc 2) 4), 12, .inr (.inr (.inr (.inr (sga 2)))))), (((sf 2) 5), .inl (((sc 2) 5), 12, .inr (.inr (.inr (.inr (sgb 2))))))]) hD hS hA [0, 1, 2, 3, 4, 5, 6, 7, 8, 9, 10, 11, 12, 13, 14, 15, 16] rfl
  refine va_calli (va_runV (As := [.int 1, .int 0]) (rest := []) ⟨hx, hb, hml, hown, hts⟩ (c_8keep_1f l dC dI g H.size (x0) (b) (f4) (c4) (f5) (f7) (f6) (f2) (cK) (kf) (cZ) (fT) (fU) (sa) (sf) (sc) (spf) (sdf) (slf) (srf) (sga) (sgb) (rows) hkf hgs0) (cwV 2 hts (gwV qw_598 qw_599 qw_600 qw_69 qw_597) rfl rfl rfl (by decide +kernel) ⟨Nat.le_of_ble_eq_true rfl, Nat.le_of_ble_eq_true rfl⟩) ⟨fun a U g9 mk q => ⟨q.1, q.2.1, q.2.2.1, va_K.moved (u := U) (U := U.calling g9 mk a) (Vm.Alike.refl U.vm) q.2.2.2.1, q.2.2.2.2.1, Ev.bl q.2.2.2.2.2⟩, va_recv hK hP (ci := 7) (q0 := 0) rfl rfl, fun U hU hW => ⟨rfl, by rw [hU], by rw [hU]; exact hPc, va_K.moved hW.alike hKc, hDc.weaken (fun _ _ _ _ => trivial), hE.go hS hFc hU hW⟩⟩ rfl rfl hl.1 rfl (lv_room (Nat.le_of_ble_eq_true rfl)) dL_law_1254 ⟨Nat.le_of_ble_eq_true rfl, Nat.le_of_ble_eq_true rfl⟩) hS (fun q _ h => hFc q h) hFc (fun r3 u2 t H1 locs ht hvm h_u2 hB hz1 hk1 hS => ?_)
  obtain ⟨hP, hD⟩ := va_joinP (wr := [(m0, .inr (8, [.int 0, .int 0, .int 0, .int 0, .ref (a 4), .int 0, .int 0, .int 0, .int 0, .int 0, .int 0, .long 0, .int 0, .int 0, .int 0, .int 0, .int 0, .int 0, .ref (a 18), .ref (a 19), .ref (a 20), .ref (a 21), .ref (a 22), .ref (a 23), .ref (a 24), .ref (a 25), .ref (a 26), .ref (a 27), .ref (a 28), .ref (a 29), .ref (a 30), .ref (a 31), .ref (a 32), .ref (a 33), .ref (a 34), .ref (a 35), .long 0, .int 0, .ref (a 38), .ref (a 39), .int 0, .ref (a 41), .ref (a 42), .ref (a 43)])), ((a 38), .inl ((ca 38), 176, .inl (fun _ => 0))), ((a 41), .inl ((ca 41), 352, .inl (fun _ => 0))), ((a 42), .inl ((ca 42), 2, .inl (fun _ => 0)))]) (rx := []) (pl1 := []) hP hD [0, 1, 2, 3, 4, 5, 6, 7, 8, 9, 10, 11, 12, 13, 14, 15, 16] [17, 18, 19, 20] rfl rfl (by decide) (by decide) hk1 hFc va_P0 va_D0
  generalize H1 = H at hP hS ⊢
  have hP : va_P (dC, dI) vwCl [(m0, .inr (8, [.int 0, .int 0, .int 0, .int 0, .ref (a 4), .int 0, .int 0, .int 0, .int 0, .int 0, .int 0, .long 0, .int 0, .int 0, .int 0, .int 0, .int 0, .int 0, .ref (a 18), .ref (a 19), .ref (a 20), .ref (a 21), .ref (a 22), .ref (a 23), .ref (a 24), .ref (a 25), .ref (a 26), .ref (a 27), .ref (a 28), .ref (a 29), .ref (a 30), .ref (a 31), .ref (a 32), .ref (a 33), .ref (a 34), .ref (a 35), .long 0, .int 0, .ref (a 38), .ref (a 39), .int 0, .ref (a 41), .ref (a 42), .ref (a 43)])), ((a 38), .inl ((ca 38), 176, .inl (fun _ => 0))), ((a 41), .inl ((ca 41), 352, .inl (fun _ => 0))), ((a 42), .inl ((ca 42), 2, .inl (fun _ => 0)))] H := hP
  have hD : va_D A [(m0, .inr (8, [.int 0, .int 0, .int 0, .int 0, .ref (a 4), .int 0, .int 0, .int 0, .int 0, .int 0, .int 0, .long 0, .int 0, .int 0, .int 0, .int 0, .int 0, .int 0, .ref (a 18), .ref (a 19), .ref (a 20), .ref (a 21), .ref (a 22), .ref (a 23), .ref (a 24), .ref (a 25), .ref (a 26), .ref (a 27), .ref (a 28), .ref (a 29), .ref (a 30), .ref (a 31), .ref (a 32), .ref (a 33), .ref (a 34), .ref (a 35), .long 0, .int 0, .ref (a 38), .ref (a 39), .int 0, .ref (a 41), .ref (a 42), .ref (a 43)])), ((a 38), .inl ((ca 38), 176, .inl (fun _ => 0))), ((a 41), .inl ((ca 41), 352, .inl (fun _ => 0))), ((a 42), .inl ((ca 42), 2, .inl (fun _ => 0)))] := hD
  refine W.widen (k := 243) (n := 7586) (Nat.le_of_ble_eq_true rfl) (Nat.le_of_ble_eq_true rfl) ?_
  have h_u2 : r3 = 1 := h_u2
  subst h_u2
  refine lv_aload_n hx hb dL_law_1257 rfl (lv_at hl 2 rfl) ?_
  refine lv_aload_n hx hb dL_law_1258 rfl (lv_at hl 4 rfl) ?_
  refine lv_iload hx hb dL_law_1259 (lv_at hl 0 rfl) ?_
  refine lv_iconst (v := 1) hx hb dL_law_1261 (by decide) ?_
  refine lv_iadd hx hb dL_law_1262 ?_
  refine cst (v := 1) (by decide) ?_
  refine va_sld hx hb hX hbl hbA hS (vin0 (by decide)) dL_law_1263 ?_
  refine cst (v := 1) ((congrArg xs (show (1 : Int32).toNatClampNeg = 1 by decide)).trans hq1) ?_
  refine lv_aload_n hx hb dL_law_1264 rfl (lv_at hl 4 rfl) ?_
  refine lv_iload hx hb dL_law_1265 (lv_at hl 0 rfl) ?_
  refine lv_iconst (v := 2) hx hb dL_law_1267 (by decide) ?_
  refine lv_iadd hx hb dL_law_1268 ?_
  refine cst (v := 2) (by decide) ?_
  refine va_sld hx hb hX hbl hbA hS (vin0 (by decide)) dL_law_1269 ?_
  refine cst (v := 0) ((congrArg xs (show (2 : Int32).toNatClampNeg = 2 by decide)).trans hq2) ?_
  refine lv_if_eq (tgt := 1277) hx hb dL_law_1270 (by decide) (fun c1270_4 => ?_) (fun c1270_4 => by exfalso; exact absurd c1270_4 (by decide))
  refine lv_iconst (v := 0) hx hb dL_law_1277 (by decide) ?_
  have hPc := hP.sub (ws' := [(m0, .inr (8, [.int 0, .int 0, .int 0, .int 0, .ref (a 4), .int 0, .int 0, .int 0, .int 0, .int 0, .int 0, .long 0, .int 0, .int 0, .int 0, .int 0, .int 0, .int 0, .ref (a 18), .ref (a 19), .ref (a 20), .ref (a 21), .ref (a 22), .ref (a 23), .ref (a 24), .ref (a 25), .ref (a 26), .ref (a 27), .ref (a 28), .ref (a 29), .ref (a 30), .ref (a 31), .ref (a 32), .ref (a 33), .ref (a 34), .ref (a 35), .long 0, .int 0, .ref (a 38), .ref (a 39), .int 0, .ref (a 41), .ref (a 42), .ref (a 43)])), ((a 38), .inl ((ca 38), 176, .inl (fun _ => 0))), ((a 41), .inl ((ca 41), 352, .inl (fun _ => 0))), ((a 42), .inl ((ca 42), 2, .inl (fun _ => 0)))]) [0, 1, 2, 3] rfl
  have hKc := hK.sub (tys' := [((ca 38), .int), ((ca 41), .int), ((ca 42), .boolean)]) [14, 15, 16] rfl
  have hDc := hD.sub (ws' := [(m0, .inr (8, [.int 0, .int 0, .int 0, .int 0, .ref (a 4), .int 0, .int 0, .int 0, .int 0, .int 0, .int 0, .long 0, .int 0, .int 0, .int 0, .int 0, .int 0, .int 0, .ref (a 18), .ref (a 19), .ref (a 20), .ref (a 21), .ref (a 22), .ref (a 23), .ref (a 24), .ref (a 25), .ref (a 26), .ref (a 27), .ref (a 28), .ref (a 29), .ref (a 30), .ref (a 31), .ref (a 32), .ref (a 33), .ref (a 34), .ref (a 35), .long 0, .int 0, .ref (a 38), .ref (a 39), .int 0, .ref (a 41), .ref (a 42), .ref (a 43)])), ((a 38), .inl ((ca 38), 176, .inl (fun _ => 0))), ((a 41), .inl ((ca 41), 352, .inl (fun _ => 0))), ((a 42), .inl ((ca 42), 2, .inl (fun _ => 0)))]) [0, 1, 2, 3] (by decide) rfl
  have hFc := va_free (wc := [(m0, .inr (8, [.int 0, .int 0, .int 0, .int 0, .ref (a 4), .int 0, .int 0, .int 0, .int 0, .int 0, .int 0, .long 0, .int 0, .int 0, .int 0, .int 0, .int 0, .int 0, .ref (a 18), .ref (a 19), .ref (a 20), .ref (a 21), .ref (a 22), .ref (a 23), .ref (a 24), .ref (a 25), .ref (a 26), .ref (a 27), .ref (a 28), .ref (a 29), .ref (a 30), .ref (a 31), .ref (a 32), .ref (a 33), .ref (a 34), .ref (a 35), .long 0, .int 0, .ref (a 38), .ref (a 39), .int 0, .ref (a 41), .ref (a 42), .ref (a 43)])), ((a 38), .inl ((ca 38), 176, .inl (fun _ => 0))), ((a 41), .inl ((ca 41), 352, .inl (fun _ => 0))), ((a 42), .inl ((ca 42), 2, .inl (fun _ => 0)))]) hD hS hA [0, 1, 2, 3] rfl
  refine va_calli (va_runV (As := [.int 1, .int 0]) (rest := [.int 1]) ⟨hx, hb, hml, hown, hts⟩ (c_9keep_1f l dC dI g H.size (m0) (a) (ca) ) (cwV 2 hts (gwV qw_602 qw_603 qw_604 qw_23 qw_601) rfl rfl rfl (by decide +kernel) ⟨Nat.le_of_ble_eq_true rfl, Nat.le_of_ble_eq_true rfl⟩) ⟨fun a U g9 mk q => ⟨q.1, q.2.1, q.2.2.1, va_K.moved (u := U) (U := U.calling g9 mk a) (Vm.Alike.refl U.vm) q.2.2.2.1, q.2.2.2.2.1, Ev.bl q.2.2.2.2.2⟩, va_recv hK hP (ci := 8) (q0 := 0) rfl rfl, fun U hU hW => ⟨rfl, by rw [hU], by rw [hU]; exact hPc, va_K.moved hW.alike hKc, hDc.weaken (fun _ _ _ _ => trivial), hE.go hS hFc hU hW⟩⟩ rfl rfl hl.1 rfl (lv_room (Nat.le_of_ble_eq_true rfl)) dL_law_1278 ⟨Nat.le_of_ble_eq_true rfl, Nat.le_of_ble_eq_true rfl⟩) hS (fun q _ h => hFc q h) hFc (fun r6 u5 t H1 locs ht hvm h_u5 hB hz1 hk1 hS => ?_)
  obtain ⟨hP, hD⟩ := va_join (wr := []) (w1 := []) hP hD [0, 1, 2, 3] [] rfl rfl (by decide) (by decide) hk1 hFc va_P0 va_D0
  generalize H1 = H at hP hS ⊢
  have hP : va_P (dC, dI) vwCl [] H := hP
  have hD : va_D A [] := hD
  refine W.widen (k := 243) (n := 7586) (Nat.le_of_ble_eq_true rfl) (Nat.le_of_ble_eq_true rfl) ?_
  have h_u5 : r6 = 1 := h_u5
  subst h_u5
  refine lv_icmp_eq (tgt := 1311) hx hb dL_law_1281 (by decide) (fun c1281_7 => ?_) (fun c1281_7 => by exfalso; exact absurd c1281_7 (by decide))
  refine lv_iinc (v := 6) (lv' := [(4, .int 6), (3, .ref o0), (2, .ref m0), (1, .ref x0), (0, .ref b0)]) hx hb dL_law_1311 hl (k := 0) rfl (by decide) (by decide) rfl (fun ls hl => ?_)
  refine lv_goto (tgt := 23) hx hb dL_law_1314 (by decide) ?_
  refine lv_iload hx hb dL_law_23 (lv_at hl 0 rfl) ?_
  refine lv_aload_n hx hb dL_law_25 rfl (lv_at hl 4 rfl) ?_
  refine va_slen hx hb hX hbl hbA hS dL_law_26 ?_
  refine cst (v := 6) (by decide) ?_
  refine lv_bipush (v := 6) hx hb dL_law_27 (by decide) ?_
  refine lv_isub hx hb dL_law_29 ?_
  refine cst (v := 0) (by decide) ?_
  refine lv_icmp_gt (tgt := 1317) hx hb dL_law_30 (by decide) (fun c30_8 => ?_) (fun c30_8 => by exfalso; exact absurd c30_8 (by decide))
  refine lv_iconst (v := 1) hx hb dL_law_1317 (by decide) ?_
  refine va_forget (fun q h => by have h8 := hS.2.2 q h; rw [← hAe] at h8; exact h8) ?_
  refine W.widen (k := 600002) (n := 7302232) (Nat.le_of_ble_eq_true rfl) (Nat.le_of_ble_eq_true rfl) ?_
  exact lw_ret hx hb hr hlocks dL_law_1318
set_option maxHeartbeats 4000000 in
set_option maxRecDepth 100000 in
theorem law_261t {p : Program} {e : Env} {s : State} {m : MethodId} {below : List Frame} {meth : Method} {c : Code} (l : Launch) {b0 : Nat} {xs : Nat → Int32} (C0 : lw_At p s m meth c b0 6 xs) (dC : Nat → ClassId) (dI : Nat → Nat → Nat) (g : Gv) (x0 : Nat) (b : Nat → Nat) (f4 : Nat → Nat) (c4 : ClassId) (f5 : Nat → Nat) (f7 : Nat → Nat) (f6 : Nat → Nat) (f2 : Nat → Nat) (cK : ClassId) (kf : Nat → Option Nat) (cZ : ClassId) (fT : Nat → Nat) (fU : Nat → Nat) (sa : Nat → Nat) (sf : Nat → Nat → Nat) (sc : Nat → Nat → ClassId) (spf : Nat → Nat → Int32) (sdf : Nat → Nat → Int32) (slf : Nat → Nat → Int32) (srf : Nat → Nat → Int32) (sga : Nat → Nat → Option Nat) (sgb : Nat → Nat → Option Nat) (rows : va_W) (m0 : Nat) (a : Nat → Nat) (ca : Nat → ClassId) (o0 : Nat)  (hq1 : xs 1 = 1) (hbk : (xs 2).toInt ≠ 0) {H : Heap} {locs : List Loc} {ls : Array Slot} (hK : va_K (dC, dI) vwCl [(cZ, .boolean), ((ca 42), .boolean)] s) (hP : va_P (dC, dI) vwCl [(x0, .inr (7, [.ref (b 0), .ref (b 1), .ref (b 2), .ref (b 3), .ref (b 4), .ref (b 5), .ref (b 6), .ref (b 7), .ref (b 8), .ref (b 9), .int 1])), ((b 5), .inl (cZ, 2, .inl (fun _ => 0))), (m0, .inr (8, [.int 0, .int 0, .int 0, .int 0, .ref (a 4), .int 0, .int 0, .int 0, .int 0, .int 0, .int 0, .long 0, .int 0, .int 0, .int 0, .int 0, .int 0, .int 0, .ref (a 18), .ref (a 19), .ref (a 20), .ref (a 21), .ref (a 22), .ref (a 23), .ref (a 24), .ref (a 25), .ref (a 26), .ref (a 27), .ref (a 28), .ref (a 29), .ref (a 30), .ref (a 31), .ref (a 32), .ref (a 33), .ref (a 34), .ref (a 35), .long 0, .int 0, .ref (a 38), .ref (a 39), .int 0, .ref (a 41), .ref (a 42), .ref (a 43)])), ((a 42), .inl ((ca 42), 2, .inl (fun _ => 0)))] H) (hD : va_D (fun q : Nat => s.heap.size ≤ q) [(x0, .inr (7, [.ref (b 0), .ref (b 1), .ref (b 2), .ref (b 3), .ref (b 4), .ref (b 5), .ref (b 6), .ref (b 7), .ref (b 8), .ref (b 9), .int 1])), ((b 5), .inl (cZ, 2, .inl (fun _ => 0))), (m0, .inr (8, [.int 0, .int 0, .int 0, .int 0, .ref (a 4), .int 0, .int 0, .int 0, .int 0, .int 0, .int 0, .long 0, .int 0, .int 0, .int 0, .int 0, .int 0, .int 0, .ref (a 18), .ref (a 19), .ref (a 20), .ref (a 21), .ref (a 22), .ref (a 23), .ref (a 24), .ref (a 25), .ref (a 26), .ref (a 27), .ref (a 28), .ref (a 29), .ref (a 30), .ref (a 31), .ref (a 32), .ref (a 33), .ref (a 34), .ref (a 35), .long 0, .int 0, .ref (a 38), .ref (a 39), .int 0, .ref (a 41), .ref (a 42), .ref (a 43)])), ((a 42), .inl ((ca 42), 2, .inl (fun _ => 0)))]) (hS : va_S (fun q : Nat => s.heap.size ≤ q) s.heap H locs) (hE : Ev g (fun q : Nat => s.heap.size ≤ q) s) (hl : lv_has ls 7 [(4, .int 0), (3, .ref o0), (2, .ref m0), (1, .ref x0), (0, .ref b0)]) : W p l e room_1 s m #[Value.ref b0] below meth c H locs 243 7586 (lw_Z below #[Value.ref b0] s) (F0 m 1233 ls []) := by
  obtain ⟨hx, hb, hr, hml, hown, hts0, hX, hbl, hlocks, hgv⟩ := id C0
  have hts := fun (w : Cond) (h : w ∈ TBL) => hts0 w (TBin w h)
  have hown : s.vm.findClass RL = some m.cls := hown
  have hN := hE.1
  have hA : ∀ q : Nat, s.heap.size ≤ q → (fun q : Nat => s.heap.size ≤ q) q := fun _ h => h
  have hbA : ¬ (fun q : Nat => s.heap.size ≤ q) b0 := Nat.not_le.mpr hbl
  generalize hAe : (fun q : Nat => s.heap.size ≤ q) = A at hD hS hE hA hbA
  refine lv_aload_n hx hb dL_law_1233 rfl (lv_at hl 3 rfl) ?_
  refine lv_aload_n hx hb dL_law_1234 rfl (lv_at hl 4 rfl) ?_
  refine lv_iload hx hb dL_law_1235 (lv_at hl 0 rfl) ?_
  refine lv_iconst (v := 1) hx hb dL_law_1237 (by decide) ?_
  refine lv_iadd hx hb dL_law_1238 ?_
  refine cst (v := 1) (by decide) ?_
  refine va_sld hx hb hX hbl hbA hS (vin0 (by decide)) dL_law_1239 ?_
  refine cst (v := 1) ((congrArg xs (show (1 : Int32).toNatClampNeg = 1 by decide)).trans hq1) ?_
  refine lv_aload_n hx hb dL_law_1240 rfl (lv_at hl 4 rfl) ?_
  refine lv_iload hx hb dL_law_1241 (lv_at hl 0 rfl) ?_
  refine lv_iconst (v := 2) hx hb dL_law_1243 (by decide) ?_
  refine lv_iadd hx hb dL_law_1244 ?_
  refine cst (v := 2) (by decide) ?_
  refine va_sld hx hb hX hbl hbA hS (vin0 (by decide)) dL_law_1245 ?_
  refine cst (v := (xs 2)) (congrArg xs (show (2 : Int32).toNatClampNeg = 2 by decide)) ?_
  refine lv_if_eq (tgt := 1253) hx hb dL_law_1246 (by decide) (fun c1246_1 => by exfalso; have c1246_1 : (xs 2).toInt = 0 := (cv_eq rfl (by decide)).mp c1246_1; omega) (fun c1246_1 => ?_)
  have c1246_1 : ¬ ((xs 2).toInt = 0) := mt (cv_eq rfl (by decide)).mpr c1246_1
  refine lv_iconst (v := 1) hx hb dL_law_1249 (by decide) ?_
  refine lv_goto (tgt := 1254) hx hb dL_law_1250 (by decide) ?_
  have hPc := hP.sub (ws' := [(x0, .inr (7, [.ref (b 0), .ref (b 1), .ref (b 2), .ref (b 3), .ref (b 4), .ref (b 5), .ref (b 6), .ref (b 7), .ref (b 8), .ref (b 9), .int 1])), ((b 5), .inl (cZ, 2, .inl (fun _ => 0)))]) [0, 1] rfl
  have hKc := hK.sub (tys' := [(cZ, .boolean)]) [0] rfl
  refine vp_callSi ((va_runV (As := [.int 1, .int 1]) (rest := []) ⟨hx, hb, hml, hown, hts⟩ (c_8keep_1t l dC dI g (x0) (b) (f4) (c4) (f5) (f7) (f6) (f2) (cK) (kf) (cZ) (fT) (fU) (sa) (sf) (sc) (spf) (sdf) (slf) (srf) (sga) (sgb) (rows) ) (cwV 2 hts (gwV qw_598 qw_599 qw_600 qw_69 qw_597) rfl rfl rfl (by decide +kernel) ⟨Nat.le_of_ble_eq_true rfl, Nat.le_of_ble_eq_true rfl⟩) ⟨fun a U g9 mk q => ⟨q.1, q.2.1, va_K.moved (u := U) (U := U.calling g9 mk a) (Vm.Alike.refl U.vm) q.2.2.1, Ev.bl q.2.2.2⟩, va_recv hK hP (ci := 7) (q0 := 0) rfl rfl, fun U hU hW => ⟨rfl, by rw [hU]; exact hPc, va_K.moved hW.alike hKc, hE.go hS (fun _ h => h.elim) hU hW⟩⟩ rfl rfl hl.1 rfl (lv_room (Nat.le_of_ble_eq_true rfl)) dL_law_1254 ⟨Nat.le_of_ble_eq_true rfl, Nat.le_of_ble_eq_true rfl⟩)).run (fun r2 h_r2 => ?_)
  have h_r2 : r2 = 0 := h_r2
  subst h_r2
  refine lv_aload_n hx hb dL_law_1257 rfl (lv_at hl 2 rfl) ?_
  refine lv_aload_n hx hb dL_law_1258 rfl (lv_at hl 4 rfl) ?_
  refine lv_iload hx hb dL_law_1259 (lv_at hl 0 rfl) ?_
  refine lv_iconst (v := 1) hx hb dL_law_1261 (by decide) ?_
  refine lv_iadd hx hb dL_law_1262 ?_
  refine cst (v := 1) (by decide) ?_
  refine va_sld hx hb hX hbl hbA hS (vin0 (by decide)) dL_law_1263 ?_
  refine cst (v := 1) ((congrArg xs (show (1 : Int32).toNatClampNeg = 1 by decide)).trans hq1) ?_
  refine lv_aload_n hx hb dL_law_1264 rfl (lv_at hl 4 rfl) ?_
  refine lv_iload hx hb dL_law_1265 (lv_at hl 0 rfl) ?_
  refine lv_iconst (v := 2) hx hb dL_law_1267 (by decide) ?_
  refine lv_iadd hx hb dL_law_1268 ?_
  refine cst (v := 2) (by decide) ?_
  refine va_sld hx hb hX hbl hbA hS (vin0 (by decide)) dL_law_1269 ?_
  refine cst (v := (xs 2)) (congrArg xs (show (2 : Int32).toNatClampNeg = 2 by decide)) ?_
  refine lv_if_eq (tgt := 1277) hx hb dL_law_1270 (by decide) (fun c1270_3 => by exfalso; have c1270_3 : (xs 2).toInt = 0 := (cv_eq rfl (by decide)).mp c1270_3; omega) (fun c1270_3 => ?_)
  have c1270_3 : ¬ ((xs 2).toInt = 0) := mt (cv_eq rfl (by decide)).mpr c1270_3
  refine lv_iconst (v := 1) hx hb dL_law_1273 (by decide) ?_
  refine lv_goto (tgt := 1278) hx hb dL_law_1274 (by decide) ?_
  have hPc := hP.sub (ws' := [(m0, .inr (8, [.int 0, .int 0, .int 0, .int 0, .ref (a 4), .int 0, .int 0, .int 0, .int 0, .int 0, .int 0, .long 0, .int 0, .int 0, .int 0, .int 0, .int 0, .int 0, .ref (a 18), .ref (a 19), .ref (a 20), .ref (a 21), .ref (a 22), .ref (a 23), .ref (a 24), .ref (a 25), .ref (a 26), .ref (a 27), .ref (a 28), .ref (a 29), .ref (a 30), .ref (a 31), .ref (a 32), .ref (a 33), .ref (a 34), .ref (a 35), .long 0, .int 0, .ref (a 38), .ref (a 39), .int 0, .ref (a 41), .ref (a 42), .ref (a 43)])), ((a 42), .inl ((ca 42), 2, .inl (fun _ => 0)))]) [2, 3] rfl
  have hKc := hK.sub (tys' := [((ca 42), .boolean)]) [1] rfl
  have hDc := hD.sub (ws' := [(m0, .inr (8, [.int 0, .int 0, .int 0, .int 0, .ref (a 4), .int 0, .int 0, .int 0, .int 0, .int 0, .int 0, .long 0, .int 0, .int 0, .int 0, .int 0, .int 0, .int 0, .ref (a 18), .ref (a 19), .ref (a 20), .ref (a 21), .ref (a 22), .ref (a 23), .ref (a 24), .ref (a 25), .ref (a 26), .ref (a 27), .ref (a 28), .ref (a 29), .ref (a 30), .ref (a 31), .ref (a 32), .ref (a 33), .ref (a 34), .ref (a 35), .long 0, .int 0, .ref (a 38), .ref (a 39), .int 0, .ref (a 41), .ref (a 42), .ref (a 43)])), ((a 42), .inl ((ca 42), 2, .inl (fun _ => 0)))]) [2, 3] (by decide) rfl
  have hFc := va_free (wc := [(m0, .inr (8, [.int 0, .int 0, .int 0, .int 0, .ref (a 4), .int 0, .int 0, .int 0, .int 0, .int 0, .int 0, .long 0, .int 0, .int 0, .int 0, .int 0, .int 0, .int 0, .ref (a 18), .ref (a 19), .ref (a 20), .ref (a 21), .ref (a 22), .ref (a 23), .ref (a 24), .ref (a 25), .ref (a 26), .ref (a 27), .ref (a 28), .ref (a 29), .ref (a 30), .ref (a 31), .ref (a 32), .ref (a 33), .ref (a 34), .ref (a 35), .long 0, .int 0, .ref (a 38), .ref (a 39), .int 0, .ref (a 41), .ref (a 42), .ref (a 43)])), ((a 42), .inl ((ca 42), 2, .inl (fun _ => 0)))]) hD hS hA [2, 3] rfl
  refine va_calli (va_runV (As := [.int 1, .int 1]) (rest := [.int 0]) ⟨hx, hb, hml, hown, hts⟩ (c_9keep_1t l dC dI g H.size (m0) (a) (ca) ) (cwV 2 hts (gwV qw_602 qw_603 qw_604 qw_23 qw_601) rfl rfl rfl (by decide +kernel) ⟨Nat.le_of_ble_eq_true rfl, Nat.le_of_ble_eq_true rfl⟩) ⟨fun a U g9 mk q => ⟨q.1, q.2.1, q.2.2.1, va_K.moved (u := U) (U := U.calling g9 mk a) (Vm.Alike.refl U.vm) q.2.2.2.1, q.2.2.2.2.1, Ev.bl q.2.2.2.2.2⟩, va_recv hK hP (ci := 8) (q0 := 2) rfl rfl, fun U hU hW => ⟨rfl, by rw [hU], by rw [hU]; exact hPc, va_K.moved hW.alike hKc, hDc.weaken (fun _ _ _ _ => trivial), hE.go hS hFc hU hW⟩⟩ rfl rfl hl.1 rfl (lv_room (Nat.le_of_ble_eq_true rfl)) dL_law_1278 ⟨Nat.le_of_ble_eq_true rfl, Nat.le_of_ble_eq_true rfl⟩) hS (fun q _ h => hFc q h) hFc (fun r5 u4 t H1 locs ht hvm h_u4 hB hz1 hk1 hS => ?_)
  obtain ⟨hP, hD⟩ := va_join (wr := [(x0, .inr (7, [.ref (b 0), .ref (b 1), .ref (b 2), .ref (b 3), .ref (b 4), .ref (b 5), .ref (b 6), .ref (b 7), .ref (b 8), .ref (b 9), .int 1])), ((b 5), .inl (cZ, 2, .inl (fun _ => 0)))]) (w1 := []) hP hD [2, 3] [0, 1] rfl rfl (by decide) (by decide) hk1 hFc va_P0 va_D0
  generalize H1 = H at hP hS ⊢
  have hP : va_P (dC, dI) vwCl [(x0, .inr (7, [.ref (b 0), .ref (b 1), .ref (b 2), .ref (b 3), .ref (b 4), .ref (b 5), .ref (b 6), .ref (b 7), .ref (b 8), .ref (b 9), .int 1])), ((b 5), .inl (cZ, 2, .inl (fun _ => 0)))] H := hP
  have hD : va_D A [(x0, .inr (7, [.ref (b 0), .ref (b 1), .ref (b 2), .ref (b 3), .ref (b 4), .ref (b 5), .ref (b 6), .ref (b 7), .ref (b 8), .ref (b 9), .int 1])), ((b 5), .inl (cZ, 2, .inl (fun _ => 0)))] := hD
  refine W.widen (k := 243) (n := 7586) (Nat.le_of_ble_eq_true rfl) (Nat.le_of_ble_eq_true rfl) ?_
  have h_u4 : r5 = 0 := h_u4
  subst h_u4
  refine lv_icmp_eq (tgt := 1311) hx hb dL_law_1281 (by decide) (fun c1281_6 => ?_) (fun c1281_6 => by exfalso; exact absurd c1281_6 (by decide))
  refine lv_iinc (v := 6) (lv' := [(4, .int 6), (3, .ref o0), (2, .ref m0), (1, .ref x0), (0, .ref b0)]) hx hb dL_law_1311 hl (k := 0) rfl (by decide) (by decide) rfl (fun ls hl => ?_)
  refine lv_goto (tgt := 23) hx hb dL_law_1314 (by decide) ?_
  refine lv_iload hx hb dL_law_23 (lv_at hl 0 rfl) ?_
  refine lv_aload_n hx hb dL_law_25 rfl (lv_at hl 4 rfl) ?_
  refine va_slen hx hb hX hbl hbA hS dL_law_26 ?_
  refine cst (v := 6) (by decide) ?_
  refine lv_bipush (v := 6) hx hb dL_law_27 (by decide) ?_
  refine lv_isub hx hb dL_law_29 ?_
  refine cst (v := 0) (by decide) ?_
  refine lv_icmp_gt (tgt := 1317) hx hb dL_law_30 (by decide) (fun c30_7 => ?_) (fun c30_7 => by exfalso; exact absurd c30_7 (by decide))
  refine lv_iconst (v := 1) hx hb dL_law_1317 (by decide) ?_
  refine va_forget (fun q h => by have h8 := hS.2.2 q h; rw [← hAe] at h8; exact h8) ?_
  refine W.widen (k := 600002) (n := 7302232) (Nat.le_of_ble_eq_true rfl) (Nat.le_of_ble_eq_true rfl) ?_
  exact lw_ret hx hb hr hlocks dL_law_1318
set_option maxHeartbeats 4000000 in
set_option maxRecDepth 100000 in
theorem law_26O {p : Program} {e : Env} {s : State} {m : MethodId} {below : List Frame} {meth : Method} {c : Code} (l : Launch) {b0 : Nat} {xs : Nat → Int32} (C0 : lw_At p s m meth c b0 6 xs) (dC : Nat → ClassId) (dI : Nat → Nat → Nat) (g : Gv) (x0 : Nat) (b : Nat → Nat) (f4 : Nat → Nat) (c4 : ClassId) (f5 : Nat → Nat) (f7 : Nat → Nat) (f6 : Nat → Nat) (f2 : Nat → Nat) (cK : ClassId) (kf : Nat → Option Nat) (cZ : ClassId) (fT : Nat → Nat) (fU : Nat → Nat) (sa : Nat → Nat) (sf : Nat → Nat → Nat) (sc : Nat → Nat → ClassId) (spf : Nat → Nat → Int32) (sdf : Nat → Nat → Int32) (slf : Nat → Nat → Int32) (srf : Nat → Nat → Int32) (sga : Nat → Nat → Option Nat) (sgb : Nat → Nat → Option Nat) (rows : va_W) (m0 : Nat) (a : Nat → Nat) (ca : Nat → ClassId) (o0 : Nat)  (hkk : ¬ (0 ≤ (xs 1).toInt ∧ (xs 1).toInt ≤ 1)) {H : Heap} {locs : List Loc} {ls : Array Slot} (hK : va_K (dC, dI) vwCl [] s) (hP : va_P (dC, dI) vwCl [(x0, .inr (7, [.ref (b 0), .ref (b 1), .ref (b 2), .ref (b 3), .ref (b 4), .ref (b 5), .ref (b 6), .ref (b 7), .ref (b 8), .ref (b 9), .int 1])), (m0, .inr (8, [.int 0, .int 0, .int 0, .int 0, .ref (a 4), .int 0, .int 0, .int 0, .int 0, .int 0, .int 0, .long 0, .int 0, .int 0, .int 0, .int 0, .int 0, .int 0, .ref (a 18), .ref (a 19), .ref (a 20), .ref (a 21), .ref (a 22), .ref (a 23), .ref (a 24), .ref (a 25), .ref (a 26), .ref (a 27), .ref (a 28), .ref (a 29), .ref (a 30), .ref (a 31), .ref (a 32), .ref (a 33), .ref (a 34), .ref (a 35), .long 0, .int 0, .ref (a 38), .ref (a 39), .int 0, .ref (a 41), .ref (a 42), .ref (a 43)]))] H) (hD : va_D (fun q : Nat => s.heap.size ≤ q) [(x0, .inr (7, [.ref (b 0), .ref (b 1), .ref (b 2), .ref (b 3), .ref (b 4), .ref (b 5), .ref (b 6), .ref (b 7), .ref (b 8), .ref (b 9), .int 1])), (m0, .inr (8, [.int 0, .int 0, .int 0, .int 0, .ref (a 4), .int 0, .int 0, .int 0, .int 0, .int 0, .int 0, .long 0, .int 0, .int 0, .int 0, .int 0, .int 0, .int 0, .ref (a 18), .ref (a 19), .ref (a 20), .ref (a 21), .ref (a 22), .ref (a 23), .ref (a 24), .ref (a 25), .ref (a 26), .ref (a 27), .ref (a 28), .ref (a 29), .ref (a 30), .ref (a 31), .ref (a 32), .ref (a 33), .ref (a 34), .ref (a 35), .long 0, .int 0, .ref (a 38), .ref (a 39), .int 0, .ref (a 41), .ref (a 42), .ref (a 43)]))]) (hS : va_S (fun q : Nat => s.heap.size ≤ q) s.heap H locs) (hE : Ev g (fun q : Nat => s.heap.size ≤ q) s) (hl : lv_has ls 7 [(4, .int 0), (3, .ref o0), (2, .ref m0), (1, .ref x0), (0, .ref b0)]) : W p l e room_1 s m #[Value.ref b0] below meth c H locs 243 7586 (lw_Z below #[Value.ref b0] s) (F0 m 1233 ls []) := by
  obtain ⟨hx, hb, hr, hml, hown, hts0, hX, hbl, hlocks, hgv⟩ := id C0
  have hts := fun (w : Cond) (h : w ∈ TBL) => hts0 w (TBin w h)
  have hown : s.vm.findClass RL = some m.cls := hown
  have hN := hE.1
  have hA : ∀ q : Nat, s.heap.size ≤ q → (fun q : Nat => s.heap.size ≤ q) q := fun _ h => h
  have hbA : ¬ (fun q : Nat => s.heap.size ≤ q) b0 := Nat.not_le.mpr hbl
  generalize hAe : (fun q : Nat => s.heap.size ≤ q) = A at hD hS hE hA hbA
  refine lv_aload_n hx hb dL_law_1233 rfl (lv_at hl 3 rfl) ?_
  refine lv_aload_n hx hb dL_law_1234 rfl (lv_at hl 4 rfl) ?_
  refine lv_iload hx hb dL_law_1235 (lv_at hl 0 rfl) ?_
  refine lv_iconst (v := 1) hx hb dL_law_1237 (by decide) ?_
  refine lv_iadd hx hb dL_law_1238 ?_
  refine cst (v := 1) (by decide) ?_
  refine va_sld hx hb hX hbl hbA hS (vin0 (by decide)) dL_law_1239 ?_
  refine cst (v := (xs 1)) (congrArg xs (show (1 : Int32).toNatClampNeg = 1 by decide)) ?_
  refine lv_aload_n hx hb dL_law_1240 rfl (lv_at hl 4 rfl) ?_
  refine lv_iload hx hb dL_law_1241 (lv_at hl 0 rfl) ?_
  refine lv_iconst (v := 2) hx hb dL_law_1243 (by decide) ?_
  refine lv_iadd hx hb dL_law_1244 ?_
  refine cst (v := 2) (by decide) ?_
  refine va_sld hx hb hX hbl hbA hS (vin0 (by decide)) dL_law_1245 ?_
  refine cst (v := (xs 2)) (congrArg xs (show (2 : Int32).toNatClampNeg = 2 by decide)) ?_
  refine lv_if_eq (tgt := 1253) hx hb dL_law_1246 (by decide) (fun c1246_1 => ?_) (fun c1246_1 => ?_)
  · have c1246_1 : (xs 2).toInt = 0 := (cv_eq rfl (by decide)).mp c1246_1
    refine lv_iconst (v := 0) hx hb dL_law_1253 (by decide) ?_
    have hPc := hP.sub (ws' := [(x0, .inr (7, [.ref (b 0), .ref (b 1), .ref (b 2), .ref (b 3), .ref (b 4), .ref (b 5), .ref (b 6), .ref (b 7), .ref (b 8), .ref (b 9), .int 1]))]) [0] rfl
    have hKc := hK.sub (tys' := []) [] rfl
    refine vp_callSi ((va_runV (As := [.int (xs 1), .int 0]) (rest := []) ⟨hx, hb, hml, hown, hts⟩ (c_8keep_O l dC dI g (x0) (b) (f4) (c4) (f5) (f7) (f6) (f2) (cK) (kf) (cZ) (fT) (fU) (sa) (sf) (sc) (spf) (sdf) (slf) (srf) (sga) (sgb) (rows) ((xs 1)) (0) hkk) (cwV 2 hts (gwV qw_598 qw_599 qw_600 qw_69 qw_597) rfl rfl rfl (by decide +kernel) ⟨Nat.le_of_ble_eq_true rfl, Nat.le_of_ble_eq_true rfl⟩) ⟨fun a U g9 mk q => ⟨q.1, q.2.1, va_K.moved (u := U) (U := U.calling g9 mk a) (Vm.Alike.refl U.vm) q.2.2.1, Ev.bl q.2.2.2⟩, va_recv hK hP (ci := 7) (q0 := 0) rfl rfl, fun U hU hW => ⟨rfl, by rw [hU]; exact hPc, va_K.moved hW.alike hKc, hE.go hS (fun _ h => h.elim) hU hW⟩⟩ rfl rfl hl.1 rfl (lv_room (Nat.le_of_ble_eq_true rfl)) dL_law_1254 ⟨Nat.le_of_ble_eq_true rfl, Nat.le_of_ble_eq_true rfl⟩)).run (fun r2 h_r2 => ?_)
    have h_r2 : r2 = 0 := h_r2
    subst h_r2
    refine lv_aload_n hx hb dL_law_1257 rfl (lv_at hl 2 rfl) ?_
    refine lv_aload_n hx hb dL_law_1258 rfl (lv_at hl 4 rfl) ?_
    refine lv_iload hx hb dL_law_1259 (lv_at hl 0 rfl) ?_
    refine lv_iconst (v := 1) hx hb dL_law_1261 (by decide) ?_
    refine lv_iadd hx hb dL_law_1262 ?_
    refine cst (v := 1) (by decide) ?_
    refine va_sld hx hb hX hbl hbA hS (vin0 (by decide)) dL_law_1263 ?_
    refine cst (v := (xs 1)) (congrArg xs (show (1 : Int32).toNatClampNeg = 1 by decide)) ?_
    refine lv_aload_n hx hb dL_law_1264 rfl (lv_at hl 4 rfl) ?_
    refine lv_iload hx hb dL_law_1265 (lv_at hl 0 rfl) ?_
    refine lv_iconst (v := 2) hx hb dL_law_1267 (by decide) ?_
    refine lv_iadd hx hb dL_law_1268 ?_
    refine cst (v := 2) (by decide) ?_
    refine va_sld hx hb hX hbl hbA hS (vin0 (by decide)) dL_law_1269 ?_
    refine cst (v := (xs 2)) (congrArg xs (show (2 : Int32).toNatClampNeg = 2 by decide)) ?_
    refine lv_if_eq (tgt := 1277) hx hb dL_law_1270 (by decide) (fun c1270_3 => ?_) (fun c1270_3 => ?_)
    · have c1270_3 : (xs 2).toInt = 0 := (cv_eq rfl (by decide)).mp c1270_3
      refine lv_iconst (v := 0) hx hb dL_law_1277 (by decide) ?_
      have hPc := hP.sub (ws' := [(m0, .inr (8, [.int 0, .int 0, .int 0, .int 0, .ref (a 4), .int 0, .int 0, .int 0, .int 0, .int 0, .int 0, .long 0, .int 0, .int 0, .int 0, .int 0, .int 0, .int 0, .ref (a 18), .ref (a 19), .ref (a 20), .ref (a 21), .ref (a 22), .ref (a 23), .ref (a 24), .ref (a 25), .ref (a 26), .ref (a 27), .ref (a 28), .ref (a 29), .ref (a 30), .ref (a 31), .ref (a 32), .ref (a 33), .ref (a 34), .ref (a 35), .long 0, .int 0, .ref (a 38), .ref (a 39), .int 0, .ref (a 41), .ref (a 42), .ref (a 43)]))]) [1] rfl
      have hKc := hK.sub (tys' := []) [] rfl
      have hDc := hD.sub (ws' := [(m0, .inr (8, [.int 0, .int 0, .int 0, .int 0, .ref (a 4), .int 0, .int 0, .int 0, .int 0, .int 0, .int 0, .long 0, .int 0, .int 0, .int 0, .int 0, .int 0, .int 0, .ref (a 18), .ref (a 19), .ref (a 20), .ref (a 21), .ref (a 22), .ref (a 23), .ref (a 24), .ref (a 25), .ref (a 26), .ref (a 27), .ref (a 28), .ref (a 29), .ref (a 30), .ref (a 31), .ref (a 32), .ref (a 33), .ref (a 34), .ref (a 35), .long 0, .int 0, .ref (a 38), .ref (a 39), .int 0, .ref (a 41), .ref (a 42), .ref (a 43)]))]) [1] (by decide) rfl
      have hFc := va_free (wc := [(m0, .inr (8, [.int 0, .int 0, .int 0, .int 0, .ref (a 4), .int 0, .int 0, .int 0, .int 0, .int 0, .int 0, .long 0, .int 0, .int 0, .int 0, .int 0, .int 0, .int 0, .ref (a 18), .ref (a 19), .ref (a 20), .ref (a 21), .ref (a 22), .ref (a 23), .ref (a 24), .ref (a 25), .ref (a 26), .ref (a 27), .ref (a 28), .ref (a 29), .ref (a 30), .ref (a 31), .ref (a 32), .ref (a 33), .ref (a 34), .ref (a 35), .long 0, .int 0, .ref (a 38), .ref (a 39), .int 0, .ref (a 41), .ref (a 42), .ref (a 43)]))]) hD hS hA [1] rfl
      refine va_calli (va_runV (As := [.int (xs 1), .int 0]) (rest := [.int 0]) ⟨hx, hb, hml, hown, hts⟩ (c_9keep_O l dC dI g H.size (m0) (a) (ca) ((xs 1)) (0) hkk) (cwV 2 hts (gwV qw_602 qw_603 qw_604 qw_23 qw_601) rfl rfl rfl (by decide +kernel) ⟨Nat.le_of_ble_eq_true rfl, Nat.le_of_ble_eq_true rfl⟩) ⟨fun a U g9 mk q => ⟨q.1, q.2.1, q.2.2.1, va_K.moved (u := U) (U := U.calling g9 mk a) (Vm.Alike.refl U.vm) q.2.2.2.1, q.2.2.2.2.1, Ev.bl q.2.2.2.2.2⟩, va_recv hK hP (ci := 8) (q0 := 1) rfl rfl, fun U hU hW => ⟨rfl, by rw [hU], by rw [hU]; exact hPc, va_K.moved hW.alike hKc, hDc.weaken (fun _ _ _ _ => trivial), hE.go hS hFc hU hW⟩⟩ rfl rfl hl.1 rfl (lv_room (Nat.le_of_ble_eq_true rfl)) dL_law_1278 ⟨Nat.le_of_ble_eq_true rfl, Nat.le_of_ble_eq_true rfl⟩) hS (fun q _ h => hFc q h) hFc (fun r5 u4 t H1 locs ht hvm h_u4 hB hz1 hk1 hS => ?_)
      obtain ⟨hP, hD⟩ := va_join (wr := [(x0, .inr (7, [.ref (b 0), .ref (b 1), .ref (b 2), .ref (b 3), .ref (b 4), .ref (b 5), .ref (b 6), .ref (b 7), .ref (b 8), .ref (b 9), .int 1]))]) (w1 := []) hP hD [1] [0] rfl rfl (by decide) (by decide) hk1 hFc va_P0 va_D0
      generalize H1 = H at hP hS ⊢
      have hP : va_P (dC, dI) vwCl [(x0, .inr (7, [.ref (b 0), .ref (b 1), .ref (b 2), .ref (b 3), .ref (b 4), .ref (b 5), .ref (b 6), .ref (b 7), .ref (b 8), .ref (b 9), .int 1]))] H := hP
      have hD : va_D A [(x0, .inr (7, [.ref (b 0), .ref (b 1), .ref (b 2), .ref (b 3), .ref (b 4), .ref (b 5), .ref (b 6), .ref (b 7), .ref (b 8), .ref (b 9), .int 1]))] := hD
      refine W.widen (k := 243) (n := 7586) (Nat.le_of_ble_eq_true rfl) (Nat.le_of_ble_eq_true rfl) ?_
      have h_u4 : r5 = 0 := h_u4
      subst h_u4
      refine lv_icmp_eq (tgt := 1311) hx hb dL_law_1281 (by decide) (fun c1281_6 => ?_) (fun c1281_6 => by exfalso; exact absurd c1281_6 (by decide))
      refine lv_iinc (v := 6) (lv' := [(4, .int 6), (3, .ref o0), (2, .ref m0), (1, .ref x0), (0, .ref b0)]) hx hb dL_law_1311 hl (k := 0) rfl (by decide) (by decide) rfl (fun ls hl => ?_)
      refine lv_goto (tgt := 23) hx hb dL_law_1314 (by decide) ?_
      refine lv_iload hx hb dL_law_23 (lv_at hl 0 rfl) ?_
      refine lv_aload_n hx hb dL_law_25 rfl (lv_at hl 4 rfl) ?_
      refine va_slen hx hb hX hbl hbA hS dL_law_26 ?_
      refine cst (v := 6) (by decide) ?_
      refine lv_bipush (v := 6) hx hb dL_law_27 (by decide) ?_
      refine lv_isub hx hb dL_law_29 ?_
      refine cst (v := 0) (by decide) ?_
      refine lv_icmp_gt (tgt := 1317) hx hb dL_law_30 (by decide) (fun c30_7 => ?_) (fun c30_7 => by exfalso; exact absurd c30_7 (by decide))
      refine lv_iconst (v := 1) hx hb dL_law_1317 (by decide) ?_
      refine va_forget (fun q h => by have h8 := hS.2.2 q h; rw [← hAe] at h8; exact h8) ?_
      refine W.widen (k := 600002) (n := 7302232) (Nat.le_of_ble_eq_true rfl) (Nat.le_of_ble_eq_true rfl) ?_
      exact lw_ret hx hb hr hlocks dL_law_1318
    · have c1270_3 : ¬ ((xs 2).toInt = 0) := mt (cv_eq rfl (by decide)).mpr c1270_3
      refine lv_iconst (v := 1) hx hb dL_law_1273 (by decide) ?_
      refine lv_goto (tgt := 1278) hx hb dL_law_1274 (by decide) ?_
      have hPc := hP.sub (ws' := [(m0, .inr (8, [.int 0, .int 0, .int 0, .int 0, .ref (a 4), .int 0, .int 0, .int 0, .int 0, .int 0, .int 0, .long 0, .int 0, .int 0, .int 0, .int 0, .int 0, .int 0, .ref (a 18), .ref (a 19), .ref (a 20), .ref (a 21), .ref (a 22), .ref (a 23), .ref (a 24), .ref (a 25), .ref (a 26), .ref (a 27), .ref (a 28), .ref (a 29), .ref (a 30), .ref (a 31), .ref (a 32), .ref (a 33), .ref (a 34), .ref (a 35), .long 0, .int 0, .ref (a 38), .ref (a 39), .int 0, .ref (a 41), .ref (a 42), .ref (a 43)]))]) [1] rfl
      have hKc := hK.sub (tys' := []) [] rfl
      have hDc := hD.sub (ws' := [(m0, .inr (8, [.int 0, .int 0, .int 0, .int 0, .ref (a 4), .int 0, .int 0, .int 0, .int 0, .int 0, .int 0, .long 0, .int 0, .int 0, .int 0, .int 0, .int 0, .int 0, .ref (a 18), .ref (a 19), .ref (a 20), .ref (a 21), .ref (a 22), .ref (a 23), .ref (a 24), .ref (a 25), .ref (a 26), .ref (a 27), .ref (a 28), .ref (a 29), .ref (a 30), .ref (a 31), .ref (a 32), .ref (a 33), .ref (a 34), .ref (a 35), .long 0, .int 0, .ref (a 38), .ref (a 39), .int 0, .ref (a 41), .ref (a 42), .ref (a 43)]))]) [1] (by decide) rfl
      have hFc := va_free (wc := [(m0, .inr (8, [.int 0, .int 0, .int 0, .int 0, .ref (a 4), .int 0, .int 0, .int 0, .int 0, .int 0, .int 0, .long 0, .int 0, .int 0, .int 0, .int 0, .int 0, .int 0, .ref (a 18), .ref (a 19), .ref (a 20), .ref (a 21), .ref (a 22), .ref (a 23), .ref (a 24), .ref (a 25), .ref (a 26), .ref (a 27), .ref (a 28), .ref (a 29), .ref (a 30), .ref (a 31), .ref (a 32), .ref (a 33), .ref (a 34), .ref (a 35), .long 0, .int 0, .ref (a 38), .ref (a 39), .int 0, .ref (a 41), .ref (a 42), .ref (a 43)]))]) hD hS hA [1] rfl
      refine va_calli (va_runV (As := [.int (xs 1), .int 1]) (rest := [.int 0]) ⟨hx, hb, hml, hown, hts⟩ (c_9keep_O l dC dI g H.size (m0) (a) (ca) ((xs 1)) (1) hkk) (cwV 2 hts (gwV qw_602 qw_603 qw_604 qw_23 qw_601) rfl rfl rfl (by decide +kernel) ⟨Nat.le_of_ble_eq_true rfl, Nat.le_of_ble_eq_true rfl⟩) ⟨fun a U g9 mk q => ⟨q.1, q.2.1, q.2.2.1, va_K.moved (u := U) (U := U.calling g9 mk a) (Vm.Alike.refl U.vm) q.2.2.2.1, q.2.2.2.2.1, Ev.bl q.2.2.2.2.2⟩, va_recv hK hP (ci := 8) (q0 := 1) rfl rfl, fun U hU hW => ⟨rfl, by rw [hU], by rw [hU]; exact hPc, va_K.moved hW.alike hKc, hDc.weaken (fun _ _ _ _ => trivial), hE.go hS hFc hU hW⟩⟩ rfl rfl hl.1 rfl (lv_room (Nat.le_of_ble_eq_true rfl)) dL_law_1278 ⟨Nat.le_of_ble_eq_true rfl, Nat.le_of_ble_eq_true rfl⟩) hS (fun q _ h => hFc q h) hFc (fun r9 u8 t H1 locs ht hvm h_u8 hB hz1 hk1 hS => ?_)
      obtain ⟨hP, hD⟩ := va_join (wr := [(x0, .inr (7, [.ref (b 0), .ref (b 1), .ref (b 2), .ref (b 3), .ref (b 4), .ref (b 5), .ref (b 6), .ref (b 7), .ref (b 8), .ref (b 9), .int 1]))]) (w1 := []) hP hD [1] [0] rfl rfl (by decide) (by decide) hk1 hFc va_P0 va_D0
      generalize H1 = H at hP hS ⊢
      have hP : va_P (dC, dI) vwCl [(x0, .inr (7, [.ref (b 0), .ref (b 1), .ref (b 2), .ref (b 3), .ref (b 4), .ref (b 5), .ref (b 6), .ref (b 7), .ref (b 8), .ref (b 9), .int 1]))] H := hP
      have hD : va_D A [(x0, .inr (7, [.ref (b 0), .ref (b 1), .ref (b 2), .ref (b 3), .ref (b 4), .ref (b 5), .ref (b 6), .ref (b 7), .ref (b 8), .ref (b 9), .int 1]))] := hD
      refine W.widen (k := 243) (n := 7586) (Nat.le_of_ble_eq_true rfl) (Nat.le_of_ble_eq_true rfl) ?_
      have h_u8 : r9 = 0 := h_u8
      subst h_u8
      refine lv_icmp_eq (tgt := 1311) hx hb dL_law_1281 (by decide) (fun c1281_10 => ?_) (fun c1281_10 => by exfalso; exact absurd c1281_10 (by decide))
      refine lv_iinc (v := 6) (lv' := [(4, .int 6), (3, .ref o0), (2, .ref m0), (1, .ref x0), (0, .ref b0)]) hx hb dL_law_1311 hl (k := 0) rfl (by decide) (by decide) rfl (fun ls hl => ?_)
      refine lv_goto (tgt := 23) hx hb dL_law_1314 (by decide) ?_
      refine lv_iload hx hb dL_law_23 (lv_at hl 0 rfl) ?_
      refine lv_aload_n hx hb dL_law_25 rfl (lv_at hl 4 rfl) ?_
      refine va_slen hx hb hX hbl hbA hS dL_law_26 ?_
      refine cst (v := 6) (by decide) ?_
      refine lv_bipush (v := 6) hx hb dL_law_27 (by decide) ?_
      refine lv_isub hx hb dL_law_29 ?_
      refine cst (v := 0) (by decide) ?_
      refine lv_icmp_gt (tgt := 1317) hx hb dL_law_30 (by decide) (fun c30_11 => ?_) (fun c30_11 => by exfalso; exact absurd c30_11 (by decide))
      refine lv_iconst (v := 1) hx hb dL_law_1317 (by decide) ?_
      refine va_forget (fun q h => by have h8 := hS.2.2 q h; rw [← hAe] at h8; exact h8) ?_
      refine W.widen (k := 600002) (n := 7302232) (Nat.le_of_ble_eq_true rfl) (Nat.le_of_ble_eq_true rfl) ?_
      exact lw_ret hx hb hr hlocks dL_law_1318
  · have c1246_1 : ¬ ((xs 2).toInt = 0) := mt (cv_eq rfl (by decide)).mpr c1246_1
    refine lv_iconst (v := 1) hx hb dL_law_1249 (by decide) ?_
    refine lv_goto (tgt := 1254) hx hb dL_law_1250 (by decide) ?_
    have hPc := hP.sub (ws' := [(x0, .inr (7, [.ref (b 0), .ref (b 1), .ref (b 2), .ref (b 3), .ref (b 4), .ref (b 5), .ref (b 6), .ref (b 7), .ref (b 8), .ref (b 9), .int 1]))]) [0] rfl
    have hKc := hK.sub (tys' := []) [] rfl
    refine vp_callSi ((va_runV (As := [.int (xs 1), .int 1]) (rest := []) ⟨hx, hb, hml, hown, hts⟩ (c_8keep_O l dC dI g (x0) (b) (f4) (c4) (f5) (f7) (f6) (f2) (cK) (kf) (cZ) (fT) (fU) (sa) (sf) (sc) (spf) (sdf) (slf) (srf) (sga) (sgb) (rows) ((xs 1)) (1) hkk) (cwV 2 hts (gwV qw_598 qw_599 qw_600 qw_69 qw_597) rfl rfl rfl (by decide +kernel) ⟨Nat.le_of_ble_eq_true rfl, Nat.le_of_ble_eq_true rfl⟩) ⟨fun a U g9 mk q => ⟨q.1, q.2.1, va_K.moved (u := U) (U := U.calling g9 mk a) (Vm.Alike.refl U.vm) q.2.2.1, Ev.bl q.2.2.2⟩, va_recv hK hP (ci := 7) (q0 := 0) rfl rfl, fun U hU hW => ⟨rfl, by rw [hU]; exact hPc, va_K.moved hW.alike hKc, hE.go hS (fun _ h => h.elim) hU hW⟩⟩ rfl rfl hl.1 rfl (lv_room (Nat.le_of_ble_eq_true rfl)) dL_law_1254 ⟨Nat.le_of_ble_eq_true rfl, Nat.le_of_ble_eq_true rfl⟩)).run (fun r12 h_r12 => ?_)
    have h_r12 : r12 = 0 := h_r12
    subst h_r12
    refine lv_aload_n hx hb dL_law_1257 rfl (lv_at hl 2 rfl) ?_
    refine lv_aload_n hx hb dL_law_1258 rfl (lv_at hl 4 rfl) ?_
    refine lv_iload hx hb dL_law_1259 (lv_at hl 0 rfl) ?_
    refine lv_iconst (v := 1) hx hb dL_law_1261 (by decide) ?_
    refine lv_iadd hx hb dL_law_1262 ?_
    refine cst (v := 1) (by decide) ?_
    refine va_sld hx hb hX hbl hbA hS (vin0 (by decide)) dL_law_1263 ?_
    refine cst (v := (xs 1)) (congrArg xs (show (1 : Int32).toNatClampNeg = 1 by decide)) ?_
    refine lv_aload_n hx hb dL_law_1264 rfl (lv_at hl 4 rfl) ?_
    refine lv_iload hx hb dL_law_1265 (lv_at hl 0 rfl) ?_
    refine lv_iconst (v := 2) hx hb dL_law_1267 (by decide) ?_
    refine lv_iadd hx hb dL_law_1268 ?_
    refine cst (v := 2) (by decide) ?_
    refine va_sld hx hb hX hbl hbA hS (vin0 (by decide)) dL_law_1269 ?_
    refine cst (v := (xs 2)) (congrArg xs (show (2 : Int32).toNatClampNeg = 2 by decide)) ?_
    refine lv_if_eq (tgt := 1277) hx hb dL_law_1270 (by decide) (fun c1270_13 => ?_) (fun c1270_13 => ?_)
    · have c1270_13 : (xs 2).toInt = 0 := (cv_eq rfl (by decide)).mp c1270_13
      refine lv_iconst (v := 0) hx hb dL_law_1277 (by decide) ?_
      have hPc := hP.sub (ws' := [(m0, .inr (8, [.int 0, .int 0, .int 0, .int 0, .ref (a 4), .int 0, .int 0, .int 0, .int 0, .int 0, .int 0, .long 0, .int 0, .int 0, .int 0, .int 0, .int 0, .int 0, .ref (a 18), .ref (a 19), .ref (a 20), .ref (a 21), .ref (a 22), .ref (a 23), .ref (a 24), .ref (a 25), .ref (a 26), .ref (a 27), .ref (a 28), .ref (a 29), .ref (a 30), .ref (a 31), .ref (a 32), .ref (a 33), .ref (a 34), .ref (a 35), .long 0, .int 0, .ref (a 38), .ref (a 39), .int 0, .ref (a 41), .ref (a 42), .ref (a 43)]))]) [1] rfl
      have hKc := hK.sub (tys' := []) [] rfl
      have hDc := hD.sub (ws' := [(m0, .inr (8, [.int 0, .int 0, .int 0, .int 0, .ref (a 4), .int 0, .int 0, .int 0, .int 0, .int 0, .int 0, .long 0, .int 0, .int 0, .int 0, .int 0, .int 0, .int 0, .ref (a 18), .ref (a 19), .ref (a 20), .ref (a 21), .ref (a 22), .ref (a 23), .ref (a 24), .ref (a 25), .ref (a 26), .ref (a 27), .ref (a 28), .ref (a 29), .ref (a 30), .ref (a 31), .ref (a 32), .ref (a 33), .ref (a 34), .ref (a 35), .long 0, .int 0, .ref (a 38), .ref (a 39), .int 0, .ref (a 41), .ref (a 42), .ref (a 43)]))]) [1] (by decide) rfl
      have hFc := va_free (wc := [(m0, .inr (8, [.int 0, .int 0, .int 0, .int 0, .ref (a 4), .int 0, .int 0, .int 0, .int 0, .int 0, .int 0, .long 0, .int 0, .int 0, .int 0, .int 0, .int 0, .int 0, .ref (a 18), .ref (a 19), .ref (a 20), .ref (a 21), .ref (a 22), .ref (a 23), .ref (a 24), .ref (a 25), .ref (a 26), .ref (a 27), .ref (a 28), .ref (a 29), .ref (a 30), .ref (a 31), .ref (a 32), .ref (a 33), .ref (a 34), .ref (a 35), .long 0, .int 0, .ref (a 38), .ref (a 39), .int 0, .ref (a 41), .ref (a 42), .ref (a 43)]))]) hD hS hA [1] rfl
      refine va_calli (va_runV (As := [.int (xs 1), .int 0]) (rest := [.int 0]) ⟨hx, hb, hml, hown, hts⟩ (c_9keep_O l dC dI g H.size (m0) (a) (ca) ((xs 1)) (0) hkk) (cwV 2 hts (gwV qw_602 qw_603 qw_604 qw_23 qw_601) rfl rfl rfl (by decide +kernel) ⟨Nat.le_of_ble_eq_true rfl, Nat.le_of_ble_eq_true rfl⟩) ⟨fun a U g9 mk q => ⟨q.1, q.2.1, q.2.2.1, va_K.moved (u := U) (U := U.calling g9 mk a) (Vm.Alike.refl U.vm) q.2.2.2.1, q.2.2.2.2.1, Ev.bl q.2.2.2.2.2⟩, va_recv hK hP (ci := 8) (q0 := 1) rfl rfl, fun U hU hW => ⟨rfl, by rw [hU], by rw [hU]; exact hPc, va_K.moved hW.alike hKc, hDc.weaken (fun _ _ _ _ => trivial), hE.go hS hFc hU hW⟩⟩ rfl rfl hl.1 rfl (lv_room (Nat.le_of_ble_eq_true rfl)) dL_law_1278 ⟨Nat.le_of_ble_eq_true rfl, Nat.le_of_ble_eq_true rfl⟩) hS (fun q _ h => hFc q h) hFc (fun r15 u14 t H1 locs ht hvm h_u14 hB hz1 hk1 hS => ?_)
      obtain ⟨hP, hD⟩ := va_join (wr := [(x0, .inr (7, [.ref (b 0), .ref (b 1), .ref (b 2), .ref (b 3), .ref (b 4), .ref (b 5), .ref (b 6), .ref (b 7), .ref (b 8), .ref (b 9), .int 1]))]) (w1 := []) hP hD [1] [0] rfl rfl (by decide) (by decide) hk1 hFc va_P0 va_D0
      generalize H1 = H at hP hS ⊢
      have hP : va_P (dC, dI) vwCl [(x0, .inr (7, [.ref (b 0), .ref (b 1), .ref (b 2), .ref (b 3), .ref (b 4), .ref (b 5), .ref (b 6), .ref (b 7), .ref (b 8), .ref (b 9), .int 1]))] H := hP
      have hD : va_D A [(x0, .inr (7, [.ref (b 0), .ref (b 1), .ref (b 2), .ref (b 3), .ref (b 4), .ref (b 5), .ref (b 6), .ref (b 7), .ref (b 8), .ref (b 9), .int 1]))] := hD
      refine W.widen (k := 243) (n := 7586) (Nat.le_of_ble_eq_true rfl) (Nat.le_of_ble_eq_true rfl) ?_
      have h_u14 : r15 = 0 := h_u14
      subst h_u14
      refine lv_icmp_eq (tgt := 1311) hx hb dL_law_1281 (by decide) (fun c1281_16 => ?_) (fun c1281_16 => by exfalso; exact absurd c1281_16 (by decide))
      refine lv_iinc (v := 6) (lv' := [(4, .int 6), (3, .ref o0), (2, .ref m0), (1, .ref x0), (0, .ref b0)]) hx hb dL_law_1311 hl (k := 0) rfl (by decide) (by decide) rfl (fun ls hl => ?_)
      refine lv_goto (tgt := 23) hx hb dL_law_1314 (by decide) ?_
      refine lv_iload hx hb dL_law_23 (lv_at hl 0 rfl) ?_
      refine lv_aload_n hx hb dL_law_25 rfl (lv_at hl 4 rfl) ?_
      refine va_slen hx hb hX hbl hbA hS dL_law_26 ?_
      refine cst (v := 6) (by decide) ?_
      refine lv_bipush (v := 6) hx hb dL_law_27 (by decide) ?_
      refine lv_isub hx hb dL_law_29 ?_
      refine cst (v := 0) (by decide) ?_
      refine lv_icmp_gt (tgt := 1317) hx hb dL_law_30 (by decide) (fun c30_17 => ?_) (fun c30_17 => by exfalso; exact absurd c30_17 (by decide))
      refine lv_iconst (v := 1) hx hb dL_law_1317 (by decide) ?_
      refine va_forget (fun q h => by have h8 := hS.2.2 q h; rw [← hAe] at h8; exact h8) ?_
      refine W.widen (k := 600002) (n := 7302232) (Nat.le_of_ble_eq_true rfl) (Nat.le_of_ble_eq_true rfl) ?_
      exact lw_ret hx hb hr hlocks dL_law_1318
    · have c1270_13 : ¬ ((xs 2).toInt = 0) := mt (cv_eq rfl (by decide)).mpr c1270_13
      refine lv_iconst (v := 1) hx hb dL_law_1273 (by decide) ?_
      refine lv_goto (tgt := 1278) hx hb dL_law_1274 (by decide) ?_
      have hPc := hP.sub (ws' := [(m0, .inr (8, [.int 0, .int 0, .int 0, .int 0, .ref (a 4), .int 0, .int 0, .int 0, .int 0, .int 0, .int 0, .long 0, .int 0, .int 0, .int 0, .int 0, .int 0, .int 0, .ref (a 18), .ref (a 19), .ref (a 20), .ref (a 21), .ref (a 22), .ref (a 23), .ref (a 24), .ref (a 25), .ref (a 26), .ref (a 27), .ref (a 28), .ref (a 29), .ref (a 30), .ref (a 31), .ref (a 32), .ref (a 33), .ref (a 34), .ref (a 35), .long 0, .int 0, .ref (a 38), .ref (a 39), .int 0, .ref (a 41), .ref (a 42), .ref (a 43)]))]) [1] rfl
      have hKc := hK.sub (tys' := []) [] rfl
      have hDc := hD.sub (ws' := [(m0, .inr (8, [.int 0, .int 0, .int 0, .int 0, .ref (a 4), .int 0, .int 0, .int 0, .int 0, .int 0, .int 0, .long 0, .int 0, .int 0, .int 0, .int 0, .int 0, .int 0, .ref (a 18), .ref (a 19), .ref (a 20), .ref (a 21), .ref (a 22), .ref (a 23), .ref (a 24), .ref (a 25), .ref (a 26), .ref (a 27), .ref (a 28), .ref (a 29), .ref (a 30), .ref (a 31), .ref (a 32), .ref (a 33), .ref (a 34), .ref (a 35), .long 0, .int 0, .ref (a 38), .ref (a 39), .int 0, .ref (a 41), .ref (a 42), .ref (a 43)]))]) [1] (by decide) rfl
      have hFc := va_free (wc := [(m0, .inr (8, [.int 0, .int 0, .int 0, .int 0, .ref (a 4), .int 0, .int 0, .int 0, .int 0, .int 0, .int 0, .long 0, .int 0, .int 0, .int 0, .int 0, .int 0, .int 0, .ref (a 18), .ref (a 19), .ref (a 20), .ref (a 21), .ref (a 22), .ref (a 23), .ref (a 24), .ref (a 25), .ref (a 26), .ref (a 27), .ref (a 28), .ref (a 29), .ref (a 30), .ref (a 31), .ref (a 32), .ref (a 33), .ref (a 34), .ref (a 35), .long 0, .int 0, .ref (a 38), .ref (a 39), .int 0, .ref (a 41), .ref (a 42), .ref (a 43)]))]) hD hS hA [1] rfl
      refine va_calli (va_runV (As := [.int (xs 1), .int 1]) (rest := [.int 0]) ⟨hx, hb, hml, hown, hts⟩ (c_9keep_O l dC dI g H.size (m0) (a) (ca) ((xs 1)) (1) hkk) (cwV 2 hts (gwV qw_602 qw_603 qw_604 qw_23 qw_601) rfl rfl rfl (by decide +kernel) ⟨Nat.le_of_ble_eq_true rfl, Nat.le_of_ble_eq_true rfl⟩) ⟨fun a U g9 mk q => ⟨q.1, q.2.1, q.2.2.1, va_K.moved (u := U) (U := U.calling g9 mk a) (Vm.Alike.refl U.vm) q.2.2.2.1, q.2.2.2.2.1, Ev.bl q.2.2.2.2.2⟩, va_recv hK hP (ci := 8) (q0 := 1) rfl rfl, fun U hU hW => ⟨rfl, by rw [hU], by rw [hU]; exact hPc, va_K.moved hW.alike hKc, hDc.weaken (fun _ _ _ _ => trivial), hE.go hS hFc hU hW⟩⟩ rfl rfl hl.1 rfl (lv_room (Nat.le_of_ble_eq_true rfl)) dL_law_1278 ⟨Nat.le_of_ble_eq_true rfl, Nat.le_of_ble_eq_true rfl⟩) hS (fun q _ h => hFc q h) hFc (fun r19 u18 t H1 locs ht hvm h_u18 hB hz1 hk1 hS => ?_)
      obtain ⟨hP, hD⟩ := va_join (wr := [(x0, .inr (7, [.ref (b 0), .ref (b 1), .ref (b 2), .ref (b 3), .ref (b 4), .ref (b 5), .ref (b 6), .ref (b 7), .ref (b 8), .ref (b 9), .int 1]))]) (w1 := []) hP hD [1] [0] rfl rfl (by decide) (by decide) hk1 hFc va_P0 va_D0
      generalize H1 = H at hP hS ⊢
      have hP : va_P (dC, dI) vwCl [(x0, .inr (7, [.ref (b 0), .ref (b 1), .ref (b 2), .ref (b 3), .ref (b 4), .ref (b 5), .ref (b 6), .ref (b 7), .ref (b 8), .ref (b 9), .int 1]))] H := hP
      have hD : va_D A [(x0, .inr (7, [.ref (b 0), .ref (b 1), .ref (b 2), .ref (b 3), .ref (b 4), .ref (b 5), .ref (b 6), .ref (b 7), .ref (b 8), .ref (b 9), .int 1]))] := hD
      refine W.widen (k := 243) (n := 7586) (Nat.le_of_ble_eq_true rfl) (Nat.le_of_ble_eq_true rfl) ?_
      have h_u18 : r19 = 0 := h_u18
      subst h_u18
      refine lv_icmp_eq (tgt := 1311) hx hb dL_law_1281 (by decide) (fun c1281_20 => ?_) (fun c1281_20 => by exfalso; exact absurd c1281_20 (by decide))
      refine lv_iinc (v := 6) (lv' := [(4, .int 6), (3, .ref o0), (2, .ref m0), (1, .ref x0), (0, .ref b0)]) hx hb dL_law_1311 hl (k := 0) rfl (by decide) (by decide) rfl (fun ls hl => ?_)
      refine lv_goto (tgt := 23) hx hb dL_law_1314 (by decide) ?_
      refine lv_iload hx hb dL_law_23 (lv_at hl 0 rfl) ?_
      refine lv_aload_n hx hb dL_law_25 rfl (lv_at hl 4 rfl) ?_
      refine va_slen hx hb hX hbl hbA hS dL_law_26 ?_
      refine cst (v := 6) (by decide) ?_
      refine lv_bipush (v := 6) hx hb dL_law_27 (by decide) ?_
      refine lv_isub hx hb dL_law_29 ?_
      refine cst (v := 0) (by decide) ?_
      refine lv_icmp_gt (tgt := 1317) hx hb dL_law_30 (by decide) (fun c30_21 => ?_) (fun c30_21 => by exfalso; exact absurd c30_21 (by decide))
      refine lv_iconst (v := 1) hx hb dL_law_1317 (by decide) ?_
      refine va_forget (fun q h => by have h8 := hS.2.2 q h; rw [← hAe] at h8; exact h8) ?_
      refine W.widen (k := 600002) (n := 7302232) (Nat.le_of_ble_eq_true rfl) (Nat.le_of_ble_eq_true rfl) ?_
      exact lw_ret hx hb hr hlocks dL_law_1318
set_option maxHeartbeats 4000000 in
set_option maxRecDepth 100000 in
theorem law_270 {p : Program} {e : Env} {s : State} {m : MethodId} {below : List Frame} {meth : Method} {c : Code} (l : Launch) {b0 : Nat} {xs : Nat → Int32} (C0 : lw_At p s m meth c b0 6 xs) (dC : Nat → ClassId) (dI : Nat → Nat → Nat) (g : Gv) (x0 : Nat) (b : Nat → Nat) (f4 : Nat → Nat) (c4 : ClassId) (f5 : Nat → Nat) (f7 : Nat → Nat) (f6 : Nat → Nat) (f2 : Nat → Nat) (cK : ClassId) (kf : Nat → Option Nat) (cZ : ClassId) (fT : Nat → Nat) (fU : Nat → Nat) (sa : Nat → Nat) (sf : Nat → Nat → Nat) (sc : Nat → Nat → ClassId) (spf : Nat → Nat → Int32) (sdf : Nat → Nat → Int32) (slf : Nat → Nat → Int32) (srf : Nat → Nat → Int32) (sga : Nat → Nat → Option Nat) (sgb : Nat → Nat → Option Nat) (rows : va_W) (m0 : Nat) (a : Nat → Nat) (ca : Nat → ClassId) (o0 : Nat)  (hq1 : xs 1 = 0) {H : Heap} {locs : List Loc} {ls : Array Slot} (hK : va_K (dC, dI) vwCl [((ca 20), .int)] s) (hP : va_P (dC, dI) vwCl [(x0, .inr (7, [.ref (b 0), .ref (b 1), .ref (b 2), .ref (b 3), .ref (b 4), .ref (b 5), .ref (b 6), .ref (b 7), .ref (b 8), .ref (b 9), .int 1])), ((b 6), .inr (0, [.int 0, .ref (fT 1), .int 0, .ref (fT 3), .int 0, .ref (fT 5), .ref (fT 6), .ref (fT 7), .int 0, .ref (fT 9), .ref (fT 10), .ref (fT 11), .ref (fT 12), .ref (fT 13)])), (m0, .inr (8, [.int 0, .int 0, .int 0, .int 0, .ref (a 4), .int 0, .int 0, .int 0, .int 0, .int 0, .int 0, .long 0, .int 0, .int 0, .int 0, .int 0, .int 0, .int 0, .ref (a 18), .ref (a 19), .ref (a 20), .ref (a 21), .ref (a 22), .ref (a 23), .ref (a 24), .ref (a 25), .ref (a 26), .ref (a 27), .ref (a 28), .ref (a 29), .ref (a 30), .ref (a 31), .ref (a 32), .ref (a 33), .ref (a 34), .ref (a 35), .long 0, .int 0, .ref (a 38), .ref (a 39), .int 0, .ref (a 41), .ref (a 42), .ref (a 43)])), ((a 20), .inl ((ca 20), 2, .inl (fun _ => 0)))] H) (hD : va_D (fun q : Nat => s.heap.size ≤ q) [(x0, .inr (7, [.ref (b 0), .ref (b 1), .ref (b 2), .ref (b 3), .ref (b 4), .ref (b 5), .ref (b 6), .ref (b 7), .ref (b 8), .ref (b 9), .int 1])), ((b 6), .inr (0, [.int 0, .ref (fT 1), .int 0, .ref (fT 3), .int 0, .ref (fT 5), .ref (fT 6), .ref (fT 7), .int 0, .ref (fT 9), .ref (fT 10), .ref (fT 11), .ref (fT 12), .ref (fT 13)])), (m0, .inr (8, [.int 0, .int 0, .int 0, .int 0, .ref (a 4), .int 0, .int 0, .int 0, .int 0, .int 0, .int 0, .long 0, .int 0, .int 0, .int 0, .int 0, .int 0, .int 0, .ref (a 18), .ref (a 19), .ref (a 20), .ref (a 21), .ref (a 22), .ref (a 23), .ref (a 24), .ref (a 25), .ref (a 26), .ref (a 27), .ref (a 28), .ref (a 29), .ref (a 30), .ref (a 31), .ref (a 32), .ref (a 33), .ref (a 34), .ref (a 35), .long 0, .int 0, .ref (a 38), .ref (a 39), .int 0, .ref (a 41), .ref (a 42), .ref (a 43)])), ((a 20), .inl ((ca 20), 2, .inl (fun _ => 0)))]) (hS : va_S (fun q : Nat => s.heap.size ≤ q) s.heap H locs) (hE : Ev g (fun q : Nat => s.heap.size ≤ q) s) (hl : lv_has ls 7 [(4, .int 0), (3, .ref o0), (2, .ref m0), (1, .ref x0), (0, .ref b0)]) : W p l e room_1 s m #[Value.ref b0] below meth c H locs 243 7586 (lw_Z below #[Value.ref b0] s) (F0 m 1286 ls []) := by
  obtain ⟨hx, hb, hr, hml, hown, hts0, hX, hbl, hlocks, hgv⟩ := id C0
  have hts := fun (w : Cond) (h : w ∈ TBL) => hts0 w (TBin w h)
  have hown : s.vm.findClass RL = some m.cls := hown
  have hN := hE.1
  have hA : ∀ q : Nat, s.heap.size ≤ q → (fun q : Nat => s.heap.size ≤ q) q := fun _ h => h
  have hbA : ¬ (fun q : Nat => s.heap.size ≤ q) b0 := Nat.not_le.mpr hbl
  generalize hAe : (fun q : Nat => s.heap.size ≤ q) = A at hD hS hE hA hbA
  refine lv_aload_n hx hb dL_law_1286 rfl (lv_at hl 3 rfl) ?_
  refine lv_aload_n hx hb dL_law_1287 rfl (lv_at hl 4 rfl) ?_
  refine lv_iload hx hb dL_law_1288 (lv_at hl 0 rfl) ?_
  refine lv_iconst (v := 1) hx hb dL_law_1290 (by decide) ?_
  refine lv_iadd hx hb dL_law_1291 ?_
  refine cst (v := 1) (by decide) ?_
  refine va_sld hx hb hX hbl hbA hS (vin0 (by decide)) dL_law_1292 ?_
  refine cst (v := 0) ((congrArg xs (show (1 : Int32).toNatClampNeg = 1 by decide)).trans hq1) ?_
  have hPc := hP.sub (ws' := [(x0, .inr (7, [.ref (b 0), .ref (b 1), .ref (b 2), .ref (b 3), .ref (b 4), .ref (b 5), .ref (b 6), .ref (b 7), .ref (b 8), .ref (b 9), .int 1])), ((b 6), .inr (0, [.int 0, .ref (fT 1), .int 0, .ref (fT 3), .int 0, .ref (fT 5), .ref (fT 6), .ref (fT 7), .int 0, .ref (fT 9), .ref (fT 10), .ref (fT 11), .ref (fT 12), .ref (fT 13)]))]) [0, 1] rfl
  have hKc := hK.sub (tys' := []) [] rfl
  refine vp_callSi ((va_runV (As := [.int 0]) (rest := []) ⟨hx, hb, hml, hown, hts⟩ (c_8count0 l dC dI g (x0) (b) (f4) (c4) (f5) (f7) (f6) (f2) (cK) (kf) (cZ) (fT) (fU) (sa) (sf) (sc) (spf) (sdf) (slf) (srf) (sga) (sgb) (rows) ) (cwV 1 hts (gwV qw_606 qw_607 qw_608 qw_69 qw_605) rfl rfl rfl (by decide +kernel) ⟨Nat.le_of_ble_eq_true rfl, Nat.le_of_ble_eq_true rfl⟩) ⟨fun a U g9 mk q => ⟨q.1, q.2.1, va_K.moved (u := U) (U := U.calling g9 mk a) (Vm.Alike.refl U.vm) q.2.2.1, Ev.bl q.2.2.2⟩, va_recv hK hP (ci := 7) (q0 := 0) rfl rfl, fun U hU hW => ⟨rfl, by rw [hU]; exact hPc, va_K.moved hW.alike hKc, hE.go hS (fun _ h => h.elim) hU hW⟩⟩ rfl rfl hl.1 rfl (lv_room (Nat.le_of_ble_eq_true rfl)) dL_law_1293 ⟨Nat.le_of_ble_eq_true rfl, Nat.le_of_ble_eq_true rfl⟩)).run (fun r1 h_r1 => ?_)
  have h_r1 : r1 = 0 := h_r1
  subst h_r1
  refine lv_aload_n hx hb dL_law_1296 rfl (lv_at hl 2 rfl) ?_
  refine lv_aload_n hx hb dL_law_1297 rfl (lv_at hl 4 rfl) ?_
  refine lv_iload hx hb dL_law_1298 (lv_at hl 0 rfl) ?_
  refine lv_iconst (v := 1) hx hb dL_law_1300 (by decide) ?_
  refine lv_iadd hx hb dL_law_1301 ?_
  refine cst (v := 1) (by decide) ?_
  refine va_sld hx hb hX hbl hbA hS (vin0 (by decide)) dL_law_1302 ?_
  refine cst (v := 0) ((congrArg xs (show (1 : Int32).toNatClampNeg = 1 by decide)).trans hq1) ?_
  have hPc := hP.sub (ws' := [(m0, .inr (8, [.int 0, .int 0, .int 0, .int 0, .ref (a 4), .int 0, .int 0, .int 0, .int 0, .int 0, .int 0, .long 0, .int 0, .int 0, .int 0, .int 0, .int 0, .int 0, .ref (a 18), .ref (a 19), .ref (a 20), .ref (a 21), .ref (a 22), .ref (a 23), .ref (a 24), .ref (a 25), .ref (a 26), .ref (a 27), .ref (a 28), .ref (a 29), .ref (a 30), .ref (a 31), .ref (a 32), .ref (a 33), .ref (a 34), .ref (a 35), .long 0, .int 0, .ref (a 38), .ref (a 39), .int 0, .ref (a 41), .ref (a 42), .ref (a 43)])), ((a 20), .inl ((ca 20), 2, .inl (fun _ => 0)))]) [2, 3] rfl
  have hKc := hK.sub (tys' := [((ca 20), .int)]) [0] rfl
  have hDc := hD.sub (ws' := [(m0, .inr (8, [.int 0, .int 0, .int 0, .int 0, .ref (a 4), .int 0, .int 0, .int 0, .int 0, .int 0, .int 0, .long 0, .int 0, .int 0, .int 0, .int 0, .int 0, .int 0, .ref (a 18), .ref (a 19), .ref (a 20), .ref (a 21), .ref (a 22), .ref (a 23), .ref (a 24), .ref (a 25), .ref (a 26), .ref (a 27), .ref (a 28), .ref (a 29), .ref (a 30), .ref (a 31), .ref (a 32), .ref (a 33), .ref (a 34), .ref (a 35), .long 0, .int 0, .ref (a 38), .ref (a 39), .int 0, .ref (a 41), .ref (a 42), .ref (a 43)])), ((a 20), .inl ((ca 20), 2, .inl (fun _ => 0)))]) [2, 3] (by decide) rfl
  have hFc := va_free (wc := [(m0, .inr (8, [.int 0, .int 0, .int 0, .int 0, .ref (a 4), .int 0, .int 0, .int 0, .int 0, .int 0, .int 0, .long 0, .int 0, .int 0, .int 0, .int 0, .int 0, .int 0, .ref (a 18), .ref (a 19), .ref (a 20), .ref (a 21), .ref (a 22), .ref (a 23), .ref (a 24), .ref (a 25), .ref (a 26), .ref (a 27), .ref (a 28), .ref (a 29), .ref (a 30), .ref (a 31), .ref (a 32), .ref (a 33), .ref (a 34), .ref (a 35), .long 0, .int 0, .ref (a 38), .ref (a 39), .int 0, .ref (a 41), .ref (a 42), .ref (a 43)])), ((a 20), .inl ((ca 20), 2, .inl (fun _ => 0)))]) hD hS hA [2, 3] rfl
  refine va_calli (va_runV (As := [.int 0]) (rest := [.int 0]) ⟨hx, hb, hml, hown, hts⟩ (c_9count0 l dC dI g H.size (m0) (a) (ca) ) (cwV 1 hts (gwV qw_610 qw_611 qw_612 qw_23 qw_609) rfl rfl rfl (by decide +kernel) ⟨Nat.le_of_ble_eq_true rfl, Nat.le_of_ble_eq_true rfl⟩) ⟨fun a U g9 mk q => ⟨q.1, q.2.1, q.2.2.1, va_K.moved (u := U) (U := U.calling g9 mk a) (Vm.Alike.refl U.vm) q.2.2.2.1, q.2.2.2.2.1, Ev.bl q.2.2.2.2.2⟩, va_recv hK hP (ci := 8) (q0 := 2) rfl rfl, fun U hU hW => ⟨rfl, by rw [hU], by rw [hU]; exact hPc, va_K.moved hW.alike hKc, hDc.weaken (fun _ _ _ _ => trivial), hE.go hS hFc hU hW⟩⟩ rfl rfl hl.1 rfl (lv_room (Nat.le_of_ble_eq_true rfl)) dL_law_1303 ⟨Nat.le_of_ble_eq_true rfl, Nat.le_of_ble_eq_true rfl⟩) hS (fun q _ h => hFc q h) hFc (fun r3 u2 t H1 locs ht hvm h_u2 hB hz1 hk1 hS => ?_)
  obtain ⟨hP, hD⟩ := va_join (wr := [(x0, .inr (7, [.ref (b 0), .ref (b 1), .ref (b 2), .ref (b 3), .ref (b 4), .ref (b 5), .ref (b 6), .ref (b 7), .ref (b 8), .ref (b 9), .int 1])), ((b 6), .inr (0, [.int 0, .ref (fT 1), .int 0, .ref (fT 3), .int 0, .ref (fT 5), .ref (fT 6), .ref (fT 7), .int 0, .ref (fT 9), .ref (fT 10), .ref (fT 11), .ref (fT 12), .ref (fT 13)]))]) (w1 := []) hP hD [2, 3] [0, 1] rfl rfl (by decide) (by decide) hk1 hFc va_P0 va_D0
  generalize H1 = H at hP hS ⊢
  have hP : va_P (dC, dI) vwCl [(x0, .inr (7, [.ref (b 0), .ref (b 1), .ref (b 2), .ref (b 3), .ref (b 4), .ref (b 5), .ref (b 6), .ref (b 7), .ref (b 8), .ref (b 9), .int 1])), ((b 6), .inr (0, [.int 0, .ref (fT 1), .int 0, .ref (fT 3), .int 0, .ref (fT 5), .ref (fT 6), .ref (fT 7), .int 0, .ref (fT 9), .ref (fT 10), .ref (fT 11), .ref (fT 12), .ref (fT 13)]))] H := hP
  have hD : va_D A [(x0, .inr (7, [.ref (b 0), .ref (b 1), .ref (b 2), .ref (b 3), .ref (b 4), .ref (b 5), .ref (b 6), .ref (b 7), .ref (b 8), .ref (b 9), .int 1])), ((b 6), .inr (0, [.int 0, .ref (fT 1), .int 0, .ref (fT 3), .int 0, .ref (fT 5), .ref (fT 6), .ref (fT 7), .int 0, .ref (fT 9), .ref (fT 10), .ref (fT 11), .ref (fT 12), .ref (fT 13)]))] := hD
  refine W.widen (k := 243) (n := 7586) (Nat.le_of_ble_eq_true rfl) (Nat.le_of_ble_eq_true rfl) ?_
  have h_u2 : r3 = 0 := h_u2
  subst h_u2
  refine lv_icmp_eq (tgt := 1311) hx hb dL_law_1306 (by decide) (fun c1306_4 => ?_) (fun c1306_4 => by exfalso; exact absurd c1306_4 (by decide))
  refine lv_iinc (v := 6) (lv' := [(4, .int 6), (3, .ref o0), (2, .ref m0), (1, .ref x0), (0, .ref b0)]) hx hb dL_law_1311 hl (k := 0) rfl (by decide) (by decide) rfl (fun ls hl => ?_)
  refine lv_goto (tgt := 23) hx hb dL_law_1314 (by decide) ?_
  refine lv_iload hx hb dL_law_23 (lv_at hl 0 rfl) ?_
  refine lv_aload_n hx hb dL_law_25 rfl (lv_at hl 4 rfl) ?_
  refine va_slen hx hb hX hbl hbA hS dL_law_26 ?_
  refine cst (v := 6) (by decide) ?_
  refine lv_bipush (v := 6) hx hb dL_law_27 (by decide) ?_
  refine lv_isub hx hb dL_law_29 ?_
  refine cst (v := 0) (by decide) ?_
  refine lv_icmp_gt (tgt := 1317) hx hb dL_law_30 (by decide) (fun c30_5 => ?_) (fun c30_5 => by exfalso; exact absurd c30_5 (by decide))
  refine lv_iconst (v := 1) hx hb dL_law_1317 (by decide) ?_
  refine va_forget (fun q h => by have h8 := hS.2.2 q h; rw [← hAe] at h8; exact h8) ?_
  refine W.widen (k := 600002) (n := 7302232) (Nat.le_of_ble_eq_true rfl) (Nat.le_of_ble_eq_true rfl) ?_
  exact lw_ret hx hb hr hlocks dL_law_1318
set_option maxHeartbeats 4000000 in
set_option maxRecDepth 100000 in
theorem law_271 {p : Program} {e : Env} {s : State} {m : MethodId} {below : List Frame} {meth : Method} {c : Code} (l : Launch) {b0 : Nat} {xs : Nat → Int32} (C0 : lw_At p s m meth c b0 6 xs) (dC : Nat → ClassId) (dI : Nat → Nat → Nat) (g : Gv) (x0 : Nat) (b : Nat → Nat) (f4 : Nat → Nat) (c4 : ClassId) (f5 : Nat → Nat) (f7 : Nat → Nat) (f6 : Nat → Nat) (f2 : Nat → Nat) (cK : ClassId) (kf : Nat → Option Nat) (cZ : ClassId) (fT : Nat → Nat) (fU : Nat → Nat) (sa : Nat → Nat) (sf : Nat → Nat → Nat) (sc : Nat → Nat → ClassId) (spf : Nat → Nat → Int32) (sdf : Nat → Nat → Int32) (slf : Nat → Nat → Int32) (srf : Nat → Nat → Int32) (sga : Nat → Nat → Option Nat) (sgb : Nat → Nat → Option Nat) (rows : va_W) (m0 : Nat) (a : Nat → Nat) (ca : Nat → ClassId) (o0 : Nat)  (hq1 : xs 1 = 1) {H : Heap} {locs : List Loc} {ls : Array Slot} (hK : va_K (dC, dI) vwCl [((ca 18), .int)] s) (hP : va_P (dC, dI) vwCl [(x0, .inr (7, [.ref (b 0), .ref (b 1), .ref (b 2), .ref (b 3), .ref (b 4), .ref (b 5), .ref (b 6), .ref (b 7), .ref (b 8), .ref (b 9), .int 1])), ((b 6), .inr (0, [.int 0, .ref (fT 1), .int 0, .ref (fT 3), .int 0, .ref (fT 5), .ref (fT 6), .ref (fT 7), .int 0, .ref (fT 9), .ref (fT 10), .ref (fT 11), .ref (fT 12), .ref (fT 13)])), (m0, .inr (8, [.int 0, .int 0, .int 0, .int 0, .ref (a 4), .int 0, .int 0, .int 0, .int 0, .int 0, .int 0, .long 0, .int 0, .int 0, .int 0, .int 0, .int 0, .int 0, .ref (a 18), .ref (a 19), .ref (a 20), .ref (a 21), .ref (a 22), .ref (a 23), .ref (a 24), .ref (a 25), .ref (a 26), .ref (a 27), .ref (a 28), .ref (a 29), .ref (a 30), .ref (a 31), .ref (a 32), .ref (a 33), .ref (a 34), .ref (a 35), .long 0, .int 0, .ref (a 38), .ref (a 39), .int 0, .ref (a 41), .ref (a 42), .ref (a 43)])), ((a 18), .inl ((ca 18), 2, .inl (fun _ => 0)))] H) (hD : va_D (fun q : Nat => s.heap.size ≤ q) [(x0, .inr (7, [.ref (b 0), .ref (b 1), .ref (b 2), .ref (b 3), .ref (b 4), .ref (b 5), .ref (b 6), .ref (b 7), .ref (b 8), .ref (b 9), .int 1])), ((b 6), .inr (0, [.int 0, .ref (fT 1), .int 0, .ref (fT 3), .int 0, .ref (fT 5), .ref (fT 6), .ref (fT 7), .int 0, .ref (fT 9), .ref (fT 10), .ref (fT 11), .ref (fT 12), .ref (fT 13)])), (m0, .inr (8, [.int 0, .int 0, .int 0, .int 0, .ref (a 4), .int 0, .int 0, .int 0, .int 0, .int 0, .int 0, .long 0, .int 0, .int 0, .int 0, .int 0, .int 0, .int 0, .ref (a 18), .ref (a 19), .ref (a 20), .ref (a 21), .ref (a 22), .ref (a 23), .ref (a 24), .ref (a 25), .ref (a 26), .ref (a 27), .ref (a 28), .ref (a 29), .ref (a 30), .ref (a 31), .ref (a 32), .ref (a 33), .ref (a 34), .ref (a 35), .long 0, .int 0, .ref (a 38), .ref (a 39), .int 0, .ref (a 41), .ref (a 42), .ref (a 43)])), ((a 18), .inl ((ca 18), 2, .inl (fun _ => 0)))]) (hS : va_S (fun q : Nat => s.heap.size ≤ q) s.heap H locs) (hE : Ev g (fun q : Nat => s.heap.size ≤ q) s) (hl : lv_has ls 7 [(4, .int 0), (3, .ref o0), (2, .ref m0), (1, .ref x0), (0, .ref b0)]) : W p l e room_1 s m #[Value.ref b0] below meth c H locs 243 7586 (lw_Z below #[Value.ref b0] s) (F0 m 1286 ls []) := by
  obtain ⟨hx, hb, hr, hml, hown, hts0, hX, hbl, hlocks, hgv⟩ := id C0
  have hts := fun (w : Cond) (h : w ∈ TBL) => hts0 w (TBin w h)
  have hown : s.vm.findClass RL = some m.cls := hown
  have hN := hE.1
  have hA : ∀ q : Nat, s.heap.size ≤ q → (fun q : Nat => s.heap.size ≤ q) q := fun _ h => h
  have hbA : ¬ (fun q : Nat => s.heap.size ≤ q) b0 := Nat.not_le.mpr hbl
  generalize hAe : (fun q : Nat => s.heap.size ≤ q) = A at hD hS hE hA hbA
  refine lv_aload_n hx hb dL_law_1286 rfl (lv_at hl 3 rfl) ?_
  refine lv_aload_n hx hb dL_law_1287 rfl (lv_at hl 4 rfl) ?_
  refine lv_iload hx hb dL_law_1288 (lv_at hl 0 rfl) ?_
  refine lv_iconst (v := 1) hx hb dL_law_1290 (by decide) ?_
  refine lv_iadd hx hb dL_law_1291 ?_
  refine cst (v := 1) (by decide) ?_
  refine va_sld hx hb hX hbl hbA hS (vin0 (by decide)) dL_law_1292 ?_
  refine cst (v := 1) ((congrArg xs (show (1 : Int32).toNatClampNeg = 1 by decide)).trans hq1) ?_
  have hPc := hP.sub (ws' := [(x0, .inr (7, [.ref (b 0), .ref (b 1), .ref (b 2), .ref (b 3), .ref (b 4), .ref (b 5), .ref (b 6), .ref (b 7), .ref (b 8), .ref (b 9), .int 1])), ((b 6), .inr (0, [.int 0, .ref (fT 1), .int 0, .ref (fT 3), .int 0, .ref (fT 5), .ref (fT 6), .ref (fT 7), .int 0, .ref (fT 9), .ref (fT 10), .ref (fT 11), .ref (fT 12), .ref (fT 13)]))]) [0, 1] rfl
  have hKc := hK.sub (tys' := []) [] rfl
  refine vp_callSi ((va_runV (As := [.int 1]) (rest := []) ⟨hx, hb, hml, hown, hts⟩ (c_8count1 l dC dI g (x0) (b) (f4) (c4) (f5) (f7) (f6) (f2) (cK) (kf) (cZ) (fT) (fU) (sa) (sf) (sc) (spf) (sdf) (slf) (srf) (sga) (sgb) (rows) ) (cwV 1 hts (gwV qw_606 qw_607 qw_608 qw_69 qw_605) rfl rfl rfl (by decide +kernel) ⟨Nat.le_of_ble_eq_true rfl, Nat.le_of_ble_eq_true rfl⟩) ⟨fun a U g9 mk q => ⟨q.1, q.2.1, va_K.moved (u := U) (U := U.calling g9 mk a) (Vm.Alike.refl U.vm) q.2.2.1, Ev.bl q.2.2.2⟩, va_recv hK hP (ci := 7) (q0 := 0) rfl rfl, fun U hU hW => ⟨rfl, by rw [hU]; exact hPc, va_K.moved hW.alike hKc, hE.go hS (fun _ h => h.elim) hU hW⟩⟩ rfl rfl hl.1 rfl (lv_room (Nat.le_of_ble_eq_true rfl)) dL_law_1293 ⟨Nat.le_of_ble_eq_true rfl, Nat.le_of_ble_eq_true rfl⟩)).run (fun r1 h_r1 => ?_)
  have h_r1 : r1 = 0 := h_r1
  subst h_r1
  refine lv_aload_n hx hb dL_law_1296 rfl (lv_at hl 2 rfl) ?_
  refine lv_aload_n hx hb dL_law_1297 rfl (lv_at hl 4 rfl) ?_
  refine lv_iload hx hb dL_law_1298 (lv_at hl 0 rfl) ?_
  refine lv_iconst (v := 1) hx hb dL_law_1300 (by decide) ?_
  refine lv_iadd hx hb dL_law_1301 ?_
  refine cst (v := 1) (by decide) ?_
  refine va_sld hx hb hX hbl hbA hS (vin0 (by decide)) dL_law_1302 ?_
  refine cst (v := 1) ((congrArg xs (show (1 : Int32).toNatClampNeg = 1 by decide)).trans hq1) ?_
  have hPc := hP.sub (ws' := [(m0, .inr (8, [.int 0, .int 0, .int 0, .int 0, .ref (a 4), .int 0, .int 0, .int 0, .int 0, .int 0, .int 0, .long 0, .int 0, .int 0, .int 0, .int 0, .int 0, .int 0, .ref (a 18), .ref (a 19), .ref (a 20), .ref (a 21), .ref (a 22), .ref (a 23), .ref (a 24), .ref (a 25), .ref (a 26), .ref (a 27), .ref (a 28), .ref (a 29), .ref (a 30), .ref (a 31), .ref (a 32), .ref (a 33), .ref (a 34), .ref (a 35), .long 0, .int 0, .ref (a 38), .ref (a 39), .int 0, .ref (a 41), .ref (a 42), .ref (a 43)])), ((a 18), .inl ((ca 18), 2, .inl (fun _ => 0)))]) [2, 3] rfl
  have hKc := hK.sub (tys' := [((ca 18), .int)]) [0] rfl
  have hDc := hD.sub (ws' := [(m0, .inr (8, [.int 0, .int 0, .int 0, .int 0, .ref (a 4), .int 0, .int 0, .int 0, .int 0, .int 0, .int 0, .long 0, .int 0, .int 0, .int 0, .int 0, .int 0, .int 0, .ref (a 18), .ref (a 19), .ref (a 20), .ref (a 21), .ref (a 22), .ref (a 23), .ref (a 24), .ref (a 25), .ref (a 26), .ref (a 27), .ref (a 28), .ref (a 29), .ref (a 30), .ref (a 31), .ref (a 32), .ref (a 33), .ref (a 34), .ref (a 35), .long 0, .int 0, .ref (a 38), .ref (a 39), .int 0, .ref (a 41), .ref (a 42), .ref (a 43)])), ((a 18), .inl ((ca 18), 2, .inl (fun _ => 0)))]) [2, 3] (by decide) rfl
  have hFc := va_free (wc := [(m0, .inr (8, [.int 0, .int 0, .int 0, .int 0, .ref (a 4), .int 0, .int 0, .int 0, .int 0, .int 0, .int 0, .long 0, .int 0, .int 0, .int 0, .int 0, .int 0, .int 0, .ref (a 18), .ref (a 19), .ref (a 20), .ref (a 21), .ref (a 22), .ref (a 23), .ref (a 24), .ref (a 25), .ref (a 26), .ref (a 27), .ref (a 28), .ref (a 29), .ref (a 30), .ref (a 31), .ref (a 32), .ref (a 33), .ref (a 34), .ref (a 35), .long 0, .int 0, .ref (a 38), .ref (a 39), .int 0, .ref (a 41), .ref (a 42), .ref (a 43)])), ((a 18), .inl ((ca 18), 2, .inl (fun _ => 0)))]) hD hS hA [2, 3] rfl
  refine va_calli (va_runV (As := [.int 1]) (rest := [.int 0]) ⟨hx, hb, hml, hown, hts⟩ (c_9count1 l dC dI g H.size (m0) (a) (ca) ) (cwV 1 hts (gwV qw_610 qw_611 qw_612 qw_23 qw_609) rfl rfl rfl (by decide +kernel) ⟨Nat.le_of_ble_eq_true rfl, Nat.le_of_ble_eq_true rfl⟩) ⟨fun a U g9 mk q => ⟨q.1, q.2.1, q.2.2.1, va_K.moved (u := U) (U := U.calling g9 mk a) (Vm.Alike.refl U.vm) q.2.2.2.1, q.2.2.2.2.1, Ev.bl q.2.2.2.2.2⟩, va_recv hK hP (ci := 8) (q0 := 2) rfl rfl, fun U hU hW => ⟨rfl, by rw [hU], by rw [hU]; exact hPc, va_K.moved hW.alike hKc, hDc.weaken (fun _ _ _ _ => trivial), hE.go hS hFc hU hW⟩⟩ rfl rfl hl.1 rfl (lv_room (Nat.le_of_ble_eq_true rfl)) dL_law_1303 ⟨Nat.le_of_ble_eq_true rfl, Nat.le_of_ble_eq_true rfl⟩) hS (fun q _ h => hFc q h) hFc (fun r3 u2 t H1 locs ht hvm h_u2 hB hz1 hk1 hS => ?_)
  obtain ⟨hP, hD⟩ := va_join (wr := [(x0, .inr (7, [.ref (b 0), .ref (b 1), .ref (b 2), .ref (b 3), .ref (b 4), .ref (b 5), .ref (b 6), .ref (b 7), .ref (b 8), .ref (b 9), .int 1])), ((b 6), .inr (0, [.int 0, .ref (fT 1), .int 0, .ref (fT 3), .int 0, .ref (fT 5), .ref (fT 6), .ref (fT 7), .int 0, .ref (fT 9), .ref (fT 10), .ref (fT 11), .ref (fT 12), .ref (fT 13)]))]) (w1 := []) hP hD [2, 3] [0, 1] rfl rfl (by decide) (by decide) hk1 hFc va_P0 va_D0
  generalize H1 = H at hP hS ⊢
  have hP : va_P (dC, dI) vwCl [(x0, .inr (7, [.ref (b 0), .ref (b 1), .ref (b 2), .ref (b 3), .ref (b 4), .ref (b 5), .ref (b 6), .ref (b 7), .ref (b 8), .ref (b 9), .int 1])), ((b 6), .inr (0, [.int 0, .ref (fT 1), .int 0, .ref (fT 3), .int 0, .ref (fT 5), .ref (fT 6), .ref (fT 7), .int 0, .ref (fT 9), .ref (fT 10), .ref (fT 11), .ref (fT 12), .ref (fT 13)]))] H := hP
  have hD : va_D A [(x0, .inr (7, [.ref (b 0), .ref (b 1), .ref (b 2), .ref (b 3), .ref (b 4), .ref (b 5), .ref (b 6), .ref (b 7), .ref (b 8), .ref (b 9), .int 1])), ((b 6), .inr (0, [.int 0, .ref (fT 1), .int 0, .ref (fT 3), .int 0, .ref (fT 5), .ref (fT 6), .ref (fT 7), .int 0, .ref (fT 9), .ref (fT 10), .ref (fT 11), .ref (fT 12), .ref (fT 13)]))] := hD
  refine W.widen (k := 243) (n := 7586) (Nat.le_of_ble_eq_true rfl) (Nat.le_of_ble_eq_true rfl) ?_
  have h_u2 : r3 = 0 := h_u2
  subst h_u2
  refine lv_icmp_eq (tgt := 1311) hx hb dL_law_1306 (by decide) (fun c1306_4 => ?_) (fun c1306_4 => by exfalso; exact absurd c1306_4 (by decide))
  refine lv_iinc (v := 6) (lv' := [(4, .int 6), (3, .ref o0), (2, .ref m0), (1, .ref x0), (0, .ref b0)]) hx hb dL_law_1311 hl (k := 0) rfl (by decide) (by decide) rfl (fun ls hl => ?_)
  refine lv_goto (tgt := 23) hx hb dL_law_1314 (by decide) ?_
  refine lv_iload hx hb dL_law_23 (lv_at hl 0 rfl) ?_
  refine lv_aload_n hx hb dL_law_25 rfl (lv_at hl 4 rfl) ?_
  refine va_slen hx hb hX hbl hbA hS dL_law_26 ?_
  refine cst (v := 6) (by decide) ?_
  refine lv_bipush (v := 6) hx hb dL_law_27 (by decide) ?_
  refine lv_isub hx hb dL_law_29 ?_
  refine cst (v := 0) (by decide) ?_
  refine lv_icmp_gt (tgt := 1317) hx hb dL_law_30 (by decide) (fun c30_5 => ?_) (fun c30_5 => by exfalso; exact absurd c30_5 (by decide))
  refine lv_iconst (v := 1) hx hb dL_law_1317 (by decide) ?_
  refine va_forget (fun q h => by have h8 := hS.2.2 q h; rw [← hAe] at h8; exact h8) ?_
  refine W.widen (k := 600002) (n := 7302232) (Nat.le_of_ble_eq_true rfl) (Nat.le_of_ble_eq_true rfl) ?_
  exact lw_ret hx hb hr hlocks dL_law_1318
set_option maxHeartbeats 4000000 in
set_option maxRecDepth 100000 in
theorem law_272 {p : Program} {e : Env} {s : State} {m : MethodId} {below : List Frame} {meth : Method} {c : Code} (l : Launch) {b0 : Nat} {xs : Nat → Int32} (C0 : lw_At p s m meth c b0 6 xs) (dC : Nat → ClassId) (dI : Nat → Nat → Nat) (g : Gv) (x0 : Nat) (b : Nat → Nat) (f4 : Nat → Nat) (c4 : ClassId) (f5 : Nat → Nat) (f7 : Nat → Nat) (f6 : Nat → Nat) (f2 : Nat → Nat) (cK : ClassId) (kf : Nat → Option Nat) (cZ : ClassId) (fT : Nat → Nat) (fU : Nat → Nat) (sa : Nat → Nat) (sf : Nat → Nat → Nat) (sc : Nat → Nat → ClassId) (spf : Nat → Nat → Int32) (sdf : Nat → Nat → Int32) (slf : Nat → Nat → Int32) (srf : Nat → Nat → Int32) (sga : Nat → Nat → Option Nat) (sgb : Nat → Nat → Option Nat) (rows : va_W) (m0 : Nat) (a : Nat → Nat) (ca : Nat → ClassId) (o0 : Nat)  (hq1 : xs 1 = 2) {H : Heap} {locs : List Loc} {ls : Array Slot} (hK : va_K (dC, dI) vwCl [((ca 19), .int)] s) (hP : va_P (dC, dI) vwCl [(x0, .inr (7, [.ref (b 0), .ref (b 1), .ref (b 2), .ref (b 3), .ref (b 4), .ref (b 5), .ref (b 6), .ref (b 7), .ref (b 8), .ref (b 9), .int 1])), ((b 6), .inr (0, [.int 0, .ref (fT 1), .int 0, .ref (fT 3), .int 0, .ref (fT 5), .ref (fT 6), .ref (fT 7), .int 0, .ref (fT 9), .ref (fT 10), .ref (fT 11), .ref (fT 12), .ref (fT 13)])), (m0, .inr (8, [.int 0, .int 0, .int 0, .int 0, .ref (a 4), .int 0, .int 0, .int 0, .int 0, .int 0, .int 0, .long 0, .int 0, .int 0, .int 0, .int 0, .int 0, .int 0, .ref (a 18), .ref (a 19), .ref (a 20), .ref (a 21), .ref (a 22), .ref (a 23), .ref (a 24), .ref (a 25), .ref (a 26), .ref (a 27), .ref (a 28), .ref (a 29), .ref (a 30), .ref (a 31), .ref (a 32), .ref (a 33), .ref (a 34), .ref (a 35), .long 0, .int 0, .ref (a 38), .ref (a 39), .int 0, .ref (a 41), .ref (a 42), .ref (a 43)])), ((a 19), .inl ((ca 19), 2, .inl (fun _ => 0)))] H) (hD : va_D (fun q : Nat => s.heap.size ≤ q) [(x0, .inr (7, [.ref (b 0), .ref (b 1), .ref (b 2), .ref (b 3), .ref (b 4), .ref (b 5), .ref (b 6), .ref (b 7), .ref (b 8), .ref (b 9), .int 1])), ((b 6), .inr (0, [.int 0, .ref (fT 1), .int 0, .ref (fT 3), .int 0, .ref (fT 5), .ref (fT 6), .ref (fT 7), .int 0, .ref (fT 9), .ref (fT 10), .ref (fT 11), .ref (fT 12), .ref (fT 13)])), (m0, .inr (8, [.int 0, .int 0, .int 0, .int 0, .ref (a 4), .int 0, .int 0, .int 0, .int 0, .int 0, .int 0, .long 0, .int 0, .int 0, .int 0, .int 0, .int 0, .int 0, .ref (a 18), .ref (a 19), .ref (a 20), .ref (a 21), .ref (a 22), .ref (a 23), .ref (a 24), .ref (a 25), .ref (a 26), .ref (a 27), .ref (a 28), .ref (a 29), .ref (a 30), .ref (a 31), .ref (a 32), .ref (a 33), .ref (a 34), .ref (a 35), .long 0, .int 0, .ref (a 38), .ref (a 39), .int 0, .ref (a 41), .ref (a 42), .ref (a 43)])), ((a 19), .inl ((ca 19), 2, .inl (fun _ => 0)))]) (hS : va_S (fun q : Nat => s.heap.size ≤ q) s.heap H locs) (hE : Ev g (fun q : Nat => s.heap.size ≤ q) s) (hl : lv_has ls 7 [(4, .int 0), (3, .ref o0), (2, .ref m0), (1, .ref x0), (0, .ref b0)]) : W p l e room_1 s m #[Value.ref b0] below meth c H locs 243 7586 (lw_Z below #[Value.ref b0] s) (F0 m 1286 ls []) := by
  obtain ⟨hx, hb, hr, hml, hown, hts0, hX, hbl, hlocks, hgv⟩ := id C0
  have hts := fun (w : Cond) (h : w ∈ TBL) => hts0 w (TBin w h)
  have hown : s.vm.findClass RL = some m.cls := hown
  have hN := hE.1
  have hA : ∀ q : Nat, s.heap.size ≤ q → (fun q : Nat => s.heap.size ≤ q) q := fun _ h => h
  have hbA : ¬ (fun q : Nat => s.heap.size ≤ q) b0 := Nat.not_le.mpr hbl
  generalize hAe : (fun q : Nat => s.heap.size ≤ q) = A at hD hS hE hA hbA
  refine lv_aload_n hx hb dL_law_1286 rfl (lv_at hl 3 rfl) ?_
  refine lv_aload_n hx hb dL_law_1287 rfl (lv_at hl 4 rfl) ?_
  refine lv_iload hx hb dL_law_1288 (lv_at hl 0 rfl) ?_
  refine lv_iconst (v := 1) hx hb dL_law_1290 (by decide) ?_
  refine lv_iadd hx hb dL_law_1291 ?_
  refine cst (v := 1) (by decide) ?_
  refine va_sld hx hb hX hbl hbA hS (vin0 (by decide)) dL_law_1292 ?_
  refine cst (v := 2) ((congrArg xs (show (1 : Int32).toNatClampNeg = 1 by decide)).trans hq1) ?_
  have hPc := hP.sub (ws' := [(x0, .inr (7, [.ref (b 0), .ref (b 1), .ref (b 2), .ref (b 3), .ref (b 4), .ref (b 5), .ref (b 6), .ref (b 7), .ref (b 8), .ref (b 9), .int 1])), ((b 6), .inr (0, [.int 0, .ref (fT 1), .int 0, .ref (fT 3), .int 0, .ref (fT 5), .ref (fT 6), .ref (fT 7), .int 0, .ref (fT 9), .ref (fT 10), .ref (fT 11), .ref (fT 12), .ref (fT 13)]))]) [0, 1] rfl
  have hKc := hK.sub (tys' := []) [] rfl
  refine vp_callSi ((va_runV (As := [.int 2]) (rest := []) ⟨hx, hb, hml, hown, hts⟩ (c_8count2 l dC dI g (x0) (b) (f4) (c4) (f5) (f7) (f6) (f2) (cK) (kf) (cZ) (fT) (fU) (sa) (sf) (sc) (spf) (sdf) (slf) (srf) (sga) (sgb) (rows) ) (cwV 1 hts (gwV qw_606 qw_607 qw_608 qw_69 qw_605) rfl rfl rfl (by decide +kernel) ⟨Nat.le_of_ble_eq_true rfl, Nat.le_of_ble_eq_true rfl⟩) ⟨fun a U g9 mk q => ⟨q.1, q.2.1, va_K.moved (u := U) (U := U.calling g9 mk a) (Vm.Alike.refl U.vm) q.2.2.1, Ev.bl q.2.2.2⟩, va_recv hK hP (ci := 7) (q0 := 0) rfl rfl, fun U hU hW => ⟨rfl, by rw [hU]; exact hPc, va_K.moved hW.alike hKc, hE.go hS (fun _ h => h.elim) hU hW⟩⟩ rfl rfl hl.1 rfl (lv_room (Nat.le_of_ble_eq_true rfl)) dL_law_1293 ⟨Nat.le_of_ble_eq_true rfl, Nat.le_of_ble_eq_true rfl⟩)).run (fun r1 h_r1 => ?_)
  have h_r1 : r1 = 0 := h_r1
  subst h_r1
  refine lv_aload_n hx hb dL_law_1296 rfl (lv_at hl 2 rfl) ?_
  refine lv_aload_n hx hb dL_law_1297 rfl (lv_at hl 4 rfl) ?_
  refine lv_iload hx hb dL_law_1298 (lv_at hl 0 rfl) ?_
  refine lv_iconst (v := 1) hx hb dL_law_1300 (by decide) ?_
  refine lv_iadd hx hb dL_law_1301 ?_
  refine cst (v := 1) (by decide) ?_
  refine va_sld hx hb hX hbl hbA hS (vin0 (by decide)) dL_law_1302 ?_
  refine cst (v := 2) ((congrArg xs (show (1 : Int32).toNatClampNeg = 1 by decide)).trans hq1) ?_
  have hPc := hP.sub (ws' := [(m0, .inr (8, [.int 0, .int 0, .int 0, .int 0, .ref (a 4), .int 0, .int 0, .int 0, .int 0, .int 0, .int 0, .long 0, .int 0, .int 0, .int 0, .int 0, .int 0, .int 0, .ref (a 18), .ref (a 19), .ref (a 20), .ref (a 21), .ref (a 22), .ref (a 23), .ref (a 24), .ref (a 25), .ref (a 26), .ref (a 27), .ref (a 28), .ref (a 29), .ref (a 30), .ref (a 31), .ref (a 32), .ref (a 33), .ref (a 34), .ref (a 35), .long 0, .int 0, .ref (a 38), .ref (a 39), .int 0, .ref (a 41), .ref (a 42), .ref (a 43)])), ((a 19), .inl ((ca 19), 2, .inl (fun _ => 0)))]) [2, 3] rfl
  have hKc := hK.sub (tys' := [((ca 19), .int)]) [0] rfl
  have hDc := hD.sub (ws' := [(m0, .inr (8, [.int 0, .int 0, .int 0, .int 0, .ref (a 4), .int 0, .int 0, .int 0, .int 0, .int 0, .int 0, .long 0, .int 0, .int 0, .int 0, .int 0, .int 0, .int 0, .ref (a 18), .ref (a 19), .ref (a 20), .ref (a 21), .ref (a 22), .ref (a 23), .ref (a 24), .ref (a 25), .ref (a 26), .ref (a 27), .ref (a 28), .ref (a 29), .ref (a 30), .ref (a 31), .ref (a 32), .ref (a 33), .ref (a 34), .ref (a 35), .long 0, .int 0, .ref (a 38), .ref (a 39), .int 0, .ref (a 41), .ref (a 42), .ref (a 43)])), ((a 19), .inl ((ca 19), 2, .inl (fun _ => 0)))]) [2, 3] (by decide) rfl
  have hFc := va_free (wc := [(m0, .inr (8, [.int 0, .int 0, .int 0, .int 0, .ref (a 4), .int 0, .int 0, .int 0, .int 0, .int 0, .int 0, .long 0, .int 0, .int 0, .int 0, .int 0, .int 0, .int 0, .ref (a 18), .ref (a 19), .ref (a 20), .ref (a 21), .ref (a 22), .ref (a 23), .ref (a 24), .ref (a 25), .ref (a 26), .ref (a 27), .ref (a 28), .ref (a 29), .ref (a 30), .ref (a 31), .ref (a 32), .ref (a 33), .ref (a 34), .ref (a 35), .long 0, .int 0, .ref (a 38), .ref (a 39), .int 0, .ref (a 41), .ref (a 42), .ref (a 43)])), ((a 19), .inl ((ca 19), 2, .inl (fun _ => 0)))]) hD hS hA [2, 3] rfl
  refine va_calli (va_runV (As := [.int 2]) (rest := [.int 0]) ⟨hx, hb, hml, hown, hts⟩ (c_9count2 l dC dI g H.size (m0) (a) (ca) ) (cwV 1 hts (gwV qw_610 qw_611 qw_612 qw_23 qw_609) rfl rfl rfl (by decide +kernel) ⟨Nat.le_of_ble_eq_true rfl, Nat.le_of_ble_eq_true rfl⟩) ⟨fun a U g9 mk q => ⟨q.1, q.2.1, q.2.2.1, va_K.moved (u := U) (U := U.calling g9 mk a) (Vm.Alike.refl U.vm) q.2.2.2.1, q.2.2.2.2.1, Ev.bl q.2.2.2.2.2⟩, va_recv hK hP (ci := 8) (q0 := 2) rfl rfl, fun U hU hW => ⟨rfl, by rw [hU], by rw [hU]; exact hPc, va_K.moved hW.alike hKc, hDc.weaken (fun _ _ _ _ => trivial), hE.go hS hFc hU hW⟩⟩ rfl rfl hl.1 rfl (lv_room (Nat.le_of_ble_eq_true rfl)) dL_law_1303 ⟨Nat.le_of_ble_eq_true rfl, Nat.le_of_ble_eq_true rfl⟩) hS (fun q _ h => hFc q h) hFc (fun r3 u2 t H1 locs ht hvm h_u2 hB hz1 hk1 hS => ?_)
  obtain ⟨hP, hD⟩ := va_join (wr := [(x0, .inr (7, [.ref (b 0), .ref (b 1), .ref (b 2), .ref (b 3), .ref (b 4), .ref (b 5), .ref (b 6), .ref (b 7), .ref (b 8), .ref (b 9), .int 1])), ((b 6), .inr (0, [.int 0, .ref (fT 1), .int 0, .ref (fT 3), .int 0, .ref (fT 5), .ref (fT 6), .ref (fT 7), .int 0, .ref (fT 9), .ref (fT 10), .ref (fT 11), .ref (fT 12), .ref (fT 13)]))]) (w1 := []) hP hD [2, 3] [0, 1] rfl rfl (by decide) (by decide) hk1 hFc va_P0 va_D0
  generalize H1 = H at hP hS ⊢
  have hP : va_P (dC, dI) vwCl [(x0, .inr (7, [.ref (b 0), .ref (b 1), .ref (b 2), .ref (b 3), .ref (b 4), .ref (b 5), .ref (b 6), .ref (b 7), .ref (b 8), .ref (b 9), .int 1])), ((b 6), .inr (0, [.int 0, .ref (fT 1), .int 0, .ref (fT 3), .int 0, .ref (fT 5), .ref (fT 6), .ref (fT 7), .int 0, .ref (fT 9), .ref (fT 10), .ref (fT 11), .ref (fT 12), .ref (fT 13)]))] H := hP
  have hD : va_D A [(x0, .inr (7, [.ref (b 0), .ref (b 1), .ref (b 2), .ref (b 3), .ref (b 4), .ref (b 5), .ref (b 6), .ref (b 7), .ref (b 8), .ref (b 9), .int 1])), ((b 6), .inr (0, [.int 0, .ref (fT 1), .int 0, .ref (fT 3), .int 0, .ref (fT 5), .ref (fT 6), .ref (fT 7), .int 0, .ref (fT 9), .ref (fT 10), .ref (fT 11), .ref (fT 12), .ref (fT 13)]))] := hD
  refine W.widen (k := 243) (n := 7586) (Nat.le_of_ble_eq_true rfl) (Nat.le_of_ble_eq_true rfl) ?_
  have h_u2 : r3 = 0 := h_u2
  subst h_u2
  refine lv_icmp_eq (tgt := 1311) hx hb dL_law_1306 (by decide) (fun c1306_4 => ?_) (fun c1306_4 => by exfalso; exact absurd c1306_4 (by decide))
  refine lv_iinc (v := 6) (lv' := [(4, .int 6), (3, .ref o0), (2, .ref m0), (1, .ref x0), (0, .ref b0)]) hx hb dL_law_1311 hl (k := 0) rfl (by decide) (by decide) rfl (fun ls hl => ?_)
  refine lv_goto (tgt := 23) hx hb dL_law_1314 (by decide) ?_
  refine lv_iload hx hb dL_law_23 (lv_at hl 0 rfl) ?_
  refine lv_aload_n hx hb dL_law_25 rfl (lv_at hl 4 rfl) ?_
  refine va_slen hx hb hX hbl hbA hS dL_law_26 ?_
  refine cst (v := 6) (by decide) ?_
  refine lv_bipush (v := 6) hx hb dL_law_27 (by decide) ?_
  refine lv_isub hx hb dL_law_29 ?_
  refine cst (v := 0) (by decide) ?_
  refine lv_icmp_gt (tgt := 1317) hx hb dL_law_30 (by decide) (fun c30_5 => ?_) (fun c30_5 => by exfalso; exact absurd c30_5 (by decide))
  refine lv_iconst (v := 1) hx hb dL_law_1317 (by decide) ?_
  refine va_forget (fun q h => by have h8 := hS.2.2 q h; rw [← hAe] at h8; exact h8) ?_
  refine W.widen (k := 600002) (n := 7302232) (Nat.le_of_ble_eq_true rfl) (Nat.le_of_ble_eq_true rfl) ?_
  exact lw_ret hx hb hr hlocks dL_law_1318
set_option maxHeartbeats 4000000 in
set_option maxRecDepth 100000 in
theorem law_273 {p : Program} {e : Env} {s : State} {m : MethodId} {below : List Frame} {meth : Method} {c : Code} (l : Launch) {b0 : Nat} {xs : Nat → Int32} (C0 : lw_At p s m meth c b0 6 xs) (dC : Nat → ClassId) (dI : Nat → Nat → Nat) (g : Gv) (x0 : Nat) (b : Nat → Nat) (f4 : Nat → Nat) (c4 : ClassId) (f5 : Nat → Nat) (f7 : Nat → Nat) (f6 : Nat → Nat) (f2 : Nat → Nat) (cK : ClassId) (kf : Nat → Option Nat) (cZ : ClassId) (fT : Nat → Nat) (fU : Nat → Nat) (sa : Nat → Nat) (sf : Nat → Nat → Nat) (sc : Nat → Nat → ClassId) (spf : Nat → Nat → Int32) (sdf : Nat → Nat → Int32) (slf : Nat → Nat → Int32) (srf : Nat → Nat → Int32) (sga : Nat → Nat → Option Nat) (sgb : Nat → Nat → Option Nat) (rows : va_W) (m0 : Nat) (a : Nat → Nat) (ca : Nat → ClassId) (o0 : Nat)  (hq1 : xs 1 = 3) {H : Heap} {locs : List Loc} {ls : Array Slot} (hK : va_K (dC, dI) vwCl [((ca 21), .int)] s) (hP : va_P (dC, dI) vwCl [(x0, .inr (7, [.ref (b 0), .ref (b 1), .ref (b 2), .ref (b 3), .ref (b 4), .ref (b 5), .ref (b 6), .ref (b 7), .ref (b 8), .ref (b 9), .int 1])), ((b 6), .inr (0, [.int 0, .ref (fT 1), .int 0, .ref (fT 3), .int 0, .ref (fT 5), .ref (fT 6), .ref (fT 7), .int 0, .ref (fT 9), .ref (fT 10), .ref (fT 11), .ref (fT 12), .ref (fT 13)])), (m0, .inr (8, [.int 0, .int 0, .int 0, .int 0, .ref (a 4), .int 0, .int 0, .int 0, .int 0, .int 0, .int 0, .long 0, .int 0, .int 0, .int 0, .int 0, .int 0, .int 0, .ref (a 18), .ref (a 19), .ref (a 20), .ref (a 21), .ref (a 22), .ref (a 23), .ref (a 24), .ref (a 25), .ref (a 26), .ref (a 27), .ref (a 28), .ref (a 29), .ref (a 30), .ref (a 31), .ref (a 32), .ref (a 33), .ref (a 34), .ref (a 35), .long 0, .int 0, .ref (a 38), .ref (a 39), .int 0, .ref (a 41), .ref (a 42), .ref (a 43)])), ((a 21), .inl ((ca 21), 2, .inl (fun _ => 0)))] H) (hD : va_D (fun q : Nat => s.heap.size ≤ q) [(x0, .inr (7, [.ref (b 0), .ref (b 1), .ref (b 2), .ref (b 3), .ref (b 4), .ref (b 5), .ref (b 6), .ref (b 7), .ref (b 8), .ref (b 9), .int 1])), ((b 6), .inr (0, [.int 0, .ref (fT 1), .int 0, .ref (fT 3), .int 0, .ref (fT 5), .ref (fT 6), .ref (fT 7), .int 0, .ref (fT 9), .ref (fT 10), .ref (fT 11), .ref (fT 12), .ref (fT 13)])), (m0, .inr (8, [.int 0, .int 0, .int 0, .int 0, .ref (a 4), .int 0, .int 0, .int 0, .int 0, .int 0, .int 0, .long 0, .int 0, .int 0, .int 0, .int 0, .int 0, .int 0, .ref (a 18), .ref (a 19), .ref (a 20), .ref (a 21), .ref (a 22), .ref (a 23), .ref (a 24), .ref (a 25), .ref (a 26), .ref (a 27), .ref (a 28), .ref (a 29), .ref (a 30), .ref (a 31), .ref (a 32), .ref (a 33), .ref (a 34), .ref (a 35), .long 0, .int 0, .ref (a 38), .ref (a 39), .int 0, .ref (a 41), .ref (a 42), .ref (a 43)])), ((a 21), .inl ((ca 21), 2, .inl (fun _ => 0)))]) (hS : va_S (fun q : Nat => s.heap.size ≤ q) s.heap H locs) (hE : Ev g (fun q : Nat => s.heap.size ≤ q) s) (hl : lv_has ls 7 [(4, .int 0), (3, .ref o0), (2, .ref m0), (1, .ref x0), (0, .ref b0)]) : W p l e room_1 s m #[Value.ref b0] below meth c H locs 243 7586 (lw_Z below #[Value.ref b0] s) (F0 m 1286 ls []) := by
  obtain ⟨hx, hb, hr, hml, hown, hts0, hX, hbl, hlocks, hgv⟩ := id C0
  have hts := fun (w : Cond) (h : w ∈ TBL) => hts0 w (TBin w h)
  have hown : s.vm.findClass RL = some m.cls := hown
  have hN := hE.1
  have hA : ∀ q : Nat, s.heap.size ≤ q → (fun q : Nat => s.heap.size ≤ q) q := fun _ h => h
  have hbA : ¬ (fun q : Nat => s.heap.size ≤ q) b0 := Nat.not_le.mpr hbl
  generalize hAe : (fun q : Nat => s.heap.size ≤ q) = A at hD hS hE hA hbA
  refine lv_aload_n hx hb dL_law_1286 rfl (lv_at hl 3 rfl) ?_
  refine lv_aload_n hx hb dL_law_1287 rfl (lv_at hl 4 rfl) ?_
  refine lv_iload hx hb dL_law_1288 (lv_at hl 0 rfl) ?_
  refine lv_iconst (v := 1) hx hb dL_law_1290 (by decide) ?_
  refine lv_iadd hx hb dL_law_1291 ?_
  refine cst (v := 1) (by decide) ?_
  refine va_sld hx hb hX hbl hbA hS (vin0 (by decide)) dL_law_1292 ?_
  refine cst (v := 3) ((congrArg xs (show (1 : Int32).toNatClampNeg = 1 by decide)).trans hq1) ?_
  have hPc := hP.sub (ws' := [(x0, .inr (7, [.ref (b 0), .ref (b 1), .ref (b 2), .ref (b 3), .ref (b 4), .ref (b 5), .ref (b 6), .ref (b 7), .ref (b 8), .ref (b 9), .int 1])), ((b 6), .inr (0, [.int 0, .ref (fT 1), .int 0, .ref (fT 3), .int 0, .ref (fT 5), .ref (fT 6), .ref (fT 7), .int 0, .ref (fT 9), .ref (fT 10), .ref (fT 11), .ref (fT 12), .ref (fT 13)]))]) [0, 1] rfl
  have hKc := hK.sub (tys' := []) [] rfl
  refine vp_callSi ((va_runV (As := [.int 3]) (rest := []) ⟨hx, hb, hml, hown, hts⟩ (c_8count3 l dC dI g (x0) (b) (f4) (c4) (f5) (f7) (f6) (f2) (cK) (kf) (cZ) (fT) (fU) (sa) (sf) (sc) (spf) (sdf) (slf) (srf) (sga) (sgb) (rows) ) (cwV 1 hts (gwV qw_606 qw_607 qw_608 qw_69 qw_605) rfl rfl rfl (by decide +kernel) ⟨Nat.le_of_ble_eq_true rfl, Nat.le_of_ble_eq_true rfl⟩) ⟨fun a U g9 mk q => ⟨q.1, q.2.1, va_K.moved (u := U) (U := U.calling g9 mk a) (Vm.Alike.refl U.vm) q.2.2.1, Ev.bl q.2.2.2⟩, va_recv hK hP (ci := 7) (q0 := 0) rfl rfl, fun U hU hW => ⟨rfl, by rw [hU]; exact hPc, va_K.moved hW.alike hKc, hE.go hS (fun _ h => h.elim) hU hW⟩⟩ rfl rfl hl.1 rfl (lv_room (Nat.le_of_ble_eq_true rfl)) dL_law_1293 ⟨Nat.le_of_ble_eq_true rfl, Nat.le_of_ble_eq_true rfl⟩)).run (fun r1 h_r1 => ?_)
  have h_r1 : r1 = 0 := h_r1
  subst h_r1
  refine lv_aload_n hx hb dL_law_1296 rfl (lv_at hl 2 rfl) ?_
  refine lv_aload_n hx hb dL_law_1297 rfl (lv_at hl 4 rfl) ?_
  refine lv_iload hx hb dL_law_1298 (lv_at hl 0 rfl) ?_
  refine lv_iconst (v := 1) hx hb dL_law_1300 (by decide) ?_
  refine lv_iadd hx hb dL_law_1301 ?_
  refine cst (v := 1) (by decide) ?_
  refine va_sld hx hb hX hbl hbA hS (vin0 (by decide)) dL_law_1302 ?_
  refine cst (v := 3) ((congrArg xs (show (1 : Int32).toNatClampNeg = 1 by decide)).trans hq1) ?_
  have hPc := hP.sub (ws' := [(m0, .inr (8, [.int 0, .int 0, .int 0, .int 0, .ref (a 4), .int 0, .int 0, .int 0, .int 0, .int 0, .int 0, .long 0, .int 0, .int 0, .int 0, .int 0, .int 0, .int 0, .ref (a 18), .ref (a 19), .ref (a 20), .ref (a 21), .ref (a 22), .ref (a 23), .ref (a 24), .ref (a 25), .ref (a 26), .ref (a 27), .ref (a 28), .ref (a 29), .ref (a 30), .ref (a 31), .ref (a 32), .ref (a 33), .ref (a 34), .ref (a 35), .long 0, .int 0, .ref (a 38), .ref (a 39), .int 0, .ref (a 41), .ref (a 42), .ref (a 43)])), ((a 21), .inl ((ca 21), 2, .inl (fun _ => 0)))]) [2, 3] rfl
  have hKc := hK.sub (tys' := [((ca 21), .int)]) [0] rfl
  have hDc := hD.sub (ws' := [(m0, .inr (8, [.int 0, .int 0, .int 0, .int 0, .ref (a 4), .int 0, .int 0, .int 0, .int 0, .int 0, .int 0, .long 0, .int 0, .int 0, .int 0, .int 0, .int 0, .int 0, .ref (a 18), .ref (a 19), .ref (a 20), .ref (a 21), .ref (a 22), .ref (a 23), .ref (a 24), .ref (a 25), .ref (a 26), .ref (a 27), .ref (a 28), .ref (a 29), .ref (a 30), .ref (a 31), .ref (a 32), .ref (a 33), .ref (a 34), .ref (a 35), .long 0, .int 0, .ref (a 38), .ref (a 39), .int 0, .ref (a 41), .ref (a 42), .ref (a 43)])), ((a 21), .inl ((ca 21), 2, .inl (fun _ => 0)))]) [2, 3] (by decide) rfl
  have hFc := va_free (wc := [(m0, .inr (8, [.int 0, .int 0, .int 0, .int 0, .ref (a 4), .int 0, .int 0, .int 0, .int 0, .int 0, .int 0, .long 0, .int 0, .int 0, .int 0, .int 0, .int 0, .int 0, .ref (a 18), .ref (a 19), .ref (a 20), .ref (a 21), .ref (a 22), .ref (a 23), .ref (a 24), .ref (a 25), .ref (a 26), .ref (a 27), .ref (a 28), .ref (a 29), .ref (a 30), .ref (a 31), .ref (a 32), .ref (a 33), .ref (a 34), .ref (a 35), .long 0, .int 0, .ref (a 38), .ref (a 39), .int 0, .ref (a 41), .ref (a 42), .ref (a 43)])), ((a 21), .inl ((ca 21), 2, .inl (fun _ => 0)))]) hD hS hA [2, 3] rfl
  refine va_calli (va_runV (As := [.int 3]) (rest := [.int 0]) ⟨hx, hb, hml, hown, hts⟩ (c_9count3 l dC dI g H.size (m0) (a) (ca) ) (cwV 1 hts (gwV qw_610 qw_611 qw_612 qw_23 qw_609) rfl rfl rfl (by decide +kernel) ⟨Nat.le_of_ble_eq_true rfl, Nat.le_of_ble_eq_true rfl⟩) ⟨fun a U g9 mk q => ⟨q.1, q.2.1, q.2.2.1, va_K.moved (u := U) (U := U.calling g9 mk a) (Vm.Alike.refl U.vm) q.2.2.2.1, q.2.2.2.2.1, Ev.bl q.2.2.2.2.2⟩, va_recv hK hP (ci := 8) (q0 := 2) rfl rfl, fun U hU hW => ⟨rfl, by rw [hU], by rw [hU]; exact hPc, va_K.moved hW.alike hKc, hDc.weaken (fun _ _ _ _ => trivial), hE.go hS hFc hU hW⟩⟩ rfl rfl hl.1 rfl (lv_room (Nat.le_of_ble_eq_true rfl)) dL_law_1303 ⟨Nat.le_of_ble_eq_true rfl, Nat.le_of_ble_eq_true rfl⟩) hS (fun q _ h => hFc q h) hFc (fun r3 u2 t H1 locs ht hvm h_u2 hB hz1 hk1 hS => ?_)
  obtain ⟨hP, hD⟩ := va_join (wr := [(x0, .inr (7, [.ref (b 0), .ref (b 1), .ref (b 2), .ref (b 3), .ref (b 4), .ref (b 5), .ref (b 6), .ref (b 7), .ref (b 8), .ref (b 9), .int 1])), ((b 6), .inr (0, [.int 0, .ref (fT 1), .int 0, .ref (fT 3), .int 0, .ref (fT 5), .ref (fT 6), .ref (fT 7), .int 0, .ref (fT 9), .ref (fT 10), .ref (fT 11), .ref (fT 12), .ref (fT 13)]))]) (w1 := []) hP hD [2, 3] [0, 1] rfl rfl (by decide) (by decide) hk1 hFc va_P0 va_D0
  generalize H1 = H at hP hS ⊢
  have hP : va_P (dC, dI) vwCl [(x0, .inr (7, [.ref (b 0), .ref (b 1), .ref (b 2), .ref (b 3), .ref (b 4), .ref (b 5), .ref (b 6), .ref (b 7), .ref (b 8), .ref (b 9), .int 1])), ((b 6), .inr (0, [.int 0, .ref (fT 1), .int 0, .ref (fT 3), .int 0, .ref (fT 5), .ref (fT 6), .ref (fT 7), .int 0, .ref (fT 9), .ref (fT 10), .ref (fT 11), .ref (fT 12), .ref (fT 13)]))] H := hP
  have hD : va_D A [(x0, .inr (7, [.ref (b 0), .ref (b 1), .ref (b 2), .ref (b 3), .ref (b 4), .ref (b 5), .ref (b 6), .ref (b 7), .ref (b 8), .ref (b 9), .int 1])), ((b 6), .inr (0, [.int 0, .ref (fT 1), .int 0, .ref (fT 3), .int 0, .ref (fT 5), .ref (fT 6), .ref (fT 7), .int 0, .ref (fT 9), .ref (fT 10), .ref (fT 11), .ref (fT 12), .ref (fT 13)]))] := hD
  refine W.widen (k := 243) (n := 7586) (Nat.le_of_ble_eq_true rfl) (Nat.le_of_ble_eq_true rfl) ?_
  have h_u2 : r3 = 0 := h_u2
  subst h_u2
  refine lv_icmp_eq (tgt := 1311) hx hb dL_law_1306 (by decide) (fun c1306_4 => ?_) (fun c1306_4 => by exfalso; exact absurd c1306_4 (by decide))
  refine lv_iinc (v := 6) (lv' := [(4, .int 6), (3, .ref o0), (2, .ref m0), (1, .ref x0), (0, .ref b0)]) hx hb dL_law_1311 hl (k := 0) rfl (by decide) (by decide) rfl (fun ls hl => ?_)
  refine lv_goto (tgt := 23) hx hb dL_law_1314 (by decide) ?_
  refine lv_iload hx hb dL_law_23 (lv_at hl 0 rfl) ?_
  refine lv_aload_n hx hb dL_law_25 rfl (lv_at hl 4 rfl) ?_
  refine va_slen hx hb hX hbl hbA hS dL_law_26 ?_
  refine cst (v := 6) (by decide) ?_
  refine lv_bipush (v := 6) hx hb dL_law_27 (by decide) ?_
  refine lv_isub hx hb dL_law_29 ?_
  refine cst (v := 0) (by decide) ?_
  refine lv_icmp_gt (tgt := 1317) hx hb dL_law_30 (by decide) (fun c30_5 => ?_) (fun c30_5 => by exfalso; exact absurd c30_5 (by decide))
  refine lv_iconst (v := 1) hx hb dL_law_1317 (by decide) ?_
  refine va_forget (fun q h => by have h8 := hS.2.2 q h; rw [← hAe] at h8; exact h8) ?_
  refine W.widen (k := 600002) (n := 7302232) (Nat.le_of_ble_eq_true rfl) (Nat.le_of_ble_eq_true rfl) ?_
  exact lw_ret hx hb hr hlocks dL_law_1318
set_option maxHeartbeats 4000000 in
set_option maxRecDepth 100000 in
theorem law_274 {p : Program} {e : Env} {s : State} {m : MethodId} {below : List Frame} {meth : Method} {c : Code} (l : Launch) {b0 : Nat} {xs : Nat → Int32} (C0 : lw_At p s m meth c b0 6 xs) (dC : Nat → ClassId) (dI : Nat → Nat → Nat) (g : Gv) (x0 : Nat) (b : Nat → Nat) (f4 : Nat → Nat) (c4 : ClassId) (f5 : Nat → Nat) (f7 : Nat → Nat) (f6 : Nat → Nat) (f2 : Nat → Nat) (cK : ClassId) (kf : Nat → Option Nat) (cZ : ClassId) (fT : Nat → Nat) (fU : Nat → Nat) (sa : Nat → Nat) (sf : Nat → Nat → Nat) (sc : Nat → Nat → ClassId) (spf : Nat → Nat → Int32) (sdf : Nat → Nat → Int32) (slf : Nat → Nat → Int32) (srf : Nat → Nat → Int32) (sga : Nat → Nat → Option Nat) (sgb : Nat → Nat → Option Nat) (rows : va_W) (m0 : Nat) (a : Nat → Nat) (ca : Nat → ClassId) (o0 : Nat)  (hq1 : xs 1 = 4) (hz : ∀ j, j < 12 → srf 2 j = 0) {H : Heap} {locs : List Loc} {ls : Array Slot} (hK : va_K (dC, dI) vwCl [(((sc 2) 3), .int), ((ca 21), .int)] s) (hP : va_P (dC, dI) vwCl [(x0, .inr (7, [.ref (b 0), .ref (b 1), .ref (b 2), .ref (b 3), .ref (b 4), .ref (b 5), .ref (b 6), .ref (b 7), .ref (b 8), .ref (b 9), .int 1])), ((b 8), .inr (2, [.ref ((sf 2) 0), .ref ((sf 2) 1), .ref ((sf 2) 2), .ref ((sf 2) 3), .ref ((sf 2) 4), .ref ((sf 2) 5)])), (((sf 2) 3), .inl (((sc 2) 3), 12, .inl (srf 2))), (m0, .inr (8, [.int 0, .int 0, .int 0, .int 0, .ref (a 4), .int 0, .int 0, .int 0, .int 0, .int 0, .int 0, .long 0, .int 0, .int 0, .int 0, .int 0, .int 0, .int 0, .ref (a 18), .ref (a 19), .ref (a 20), .ref (a 21), .ref (a 22), .ref (a 23), .ref (a 24), .ref (a 25), .ref (a 26), .ref (a 27), .ref (a 28), .ref (a 29), .ref (a 30), .ref (a 31), .ref (a 32), .ref (a 33), .ref (a 34), .ref (a 35), .long 0, .int 0, .ref (a 38), .ref (a 39), .int 0, .ref (a 41), .ref (a 42), .ref (a 43)])), ((a 21), .inl ((ca 21), 2, .inl (fun _ => 0)))] H) (hD : va_D (fun q : Nat => s.heap.size ≤ q) [(x0, .inr (7, [.ref (b 0), .ref (b 1), .ref (b 2), .ref (b 3), .ref (b 4), .ref (b 5), .ref (b 6), .ref (b 7), .ref (b 8), .ref (b 9), .int 1])), ((b 8), .inr (2, [.ref ((sf 2) 0), .ref ((sf 2) 1), .ref ((sf 2) 2), .ref ((sf 2) 3), .ref ((sf 2) 4), .ref ((sf 2) 5)])), (((sf 2) 3), .inl (((sc 2) 3), 12, .inl (srf 2))), (m0, .inr (8, [.int 0, .int 0, .int 0, .int 0, .ref (a 4), .int 0, .int 0, .int 0, .int 0, .int 0, .int 0, .long 0, .int 0, .int 0, .int 0, .int 0, .int 0, .int 0, .ref (a 18), .ref (a 19), .ref (a 20), .ref (a 21), .ref (a 22), .ref (a 23), .ref (a 24), .ref (a 25), .ref (a 26), .ref (a 27), .ref (a 28), .ref (a 29), .ref (a 30), .ref (a 31), .ref (a 32), .ref (a 33), .ref (a 34), .ref (a 35), .long 0, .int 0, .ref (a 38), .ref (a 39), .int 0, .ref (a 41), .ref (a 42), .ref (a 43)])), ((a 21), .inl ((ca 21), 2, .inl (fun _ => 0)))]) (hS : va_S (fun q : Nat => s.heap.size ≤ q) s.heap H locs) (hE : Ev g (fun q : Nat => s.heap.size ≤ q) s) (hl : lv_has ls 7 [(4, .int 0), (3, .ref o0), (2, .ref m0), (1, .ref x0), (0, .ref b0)]) : W p l e room_1 s m #[Value.ref b0] below meth c H locs 243 7586 (lw_Z below #[Value.ref b0] s) (F0 m 1286 ls []) := by
  obtain ⟨hx, hb, hr, hml, hown, hts0, hX, hbl, hlocks, hgv⟩ := id C0
  have hts := fun (w : Cond) (h : w ∈ TBL) => hts0 w (TBin w h)
  have hown : s.vm.findClass RL = some m.cls := hown
  have hN := hE.1
  have hA : ∀ q : Nat, s.heap.size ≤ q → (fun q : Nat => s.heap.size ≤ q) q := fun _ h => h
  have hbA : ¬ (fun q : Nat => s.heap.size ≤ q) b0 := Nat.not_le.mpr hbl
  generalize hAe : (fun q : Nat => s.heap.size ≤ q) = A at hD hS hE hA hbA
  refine lv_aload_n hx hb dL_law_1286 rfl (lv_at hl 3 rfl) ?_
  refine lv_aload_n hx hb dL_law_1287 rfl (lv_at hl 4 rfl) ?_
  refine lv_iload hx hb dL_law_1288 (lv_at hl 0 rfl) ?_
  refine lv_iconst (v := 1) hx hb dL_law_1290 (by decide) ?_
  refine lv_iadd hx hb dL_law_1291 ?_
  refine cst (v := 1) (by decide) ?_
  refine va_sld hx hb hX hbl hbA hS (vin0 (by decide)) dL_law_1292 ?_
  refine cst (v := 4) ((congrArg xs (show (1 : Int32).toNatClampNeg = 1 by decide)).trans hq1) ?_
  have hPc := hP.sub (ws' := [(x0, .inr (7, [.ref (b 0), .ref (b 1), .ref (b 2), .ref (b 3), .ref (b 4), .ref (b 5), .ref (b 6), .ref (b 7), .ref (b 8), .ref (b 9), .int 1])), ((b 8), .inr (2, [.ref ((sf 2) 0), .ref ((sf 2) 1), .ref ((sf 2) 2), .ref ((sf 2) 3), .ref ((sf 2) 4), .ref ((sf 2) 5)])), (((sf 2) 3), .inl (((sc 2) 3), 12, .inl (srf 2)))]) [0, 1, 2] rfl
  have hKc := hK.sub (tys' := [(((sc 2) 3), .int)]) [0] rfl
  refine vp_callSi ((va_runV (As := [.int 4]) (rest := []) ⟨hx, hb, hml, hown, hts⟩ (c_8count4 l dC dI g (x0) (b) (f4) (c4) (f5) (f7) (f6) (f2) (cK) (kf) (cZ) (fT) (fU) (sa) (sf) (sc) (spf) (sdf) (slf) (srf) (sga) (sgb) (rows) hz) (cwV 1 hts (gwV qw_606 qw_607 qw_608 qw_69 qw_605) rfl rfl rfl (by decide +kernel) ⟨Nat.le_of_ble_eq_true rfl, Nat.le_of_ble_eq_true rfl⟩) ⟨fun a U g9 mk q => ⟨q.1, q.2.1, va_K.moved (u := U) (U := U.calling g9 mk a) (Vm.Alike.refl U.vm) q.2.2.1, Ev.bl q.2.2.2⟩, va_recv hK hP (ci := 7) (q0 := 0) rfl rfl, fun U hU hW => ⟨rfl, by rw [hU]; exact hPc, va_K.moved hW.alike hKc, hE.go hS (fun _ h => h.elim) hU hW⟩⟩ rfl rfl hl.1 rfl (lv_room (Nat.le_of_ble_eq_true rfl)) dL_law_1293 ⟨Nat.le_of_ble_eq_true rfl, Nat.le_of_ble_eq_true rfl⟩)).run (fun r1 h_r1 => ?_)
  have h_r1 : r1 = 0 := h_r1
  subst h_r1
  refine lv_aload_n hx hb dL_law_1296 rfl (lv_at hl 2 rfl) ?_
  refine lv_aload_n hx hb dL_law_1297 rfl (lv_at hl 4 rfl) ?_
  refine lv_iload hx hb dL_law_1298 (lv_at hl 0 rfl) ?_
  refine lv_iconst (v := 1) hx hb dL_law_1300 (by decide) ?_
  refine lv_iadd hx hb dL_law_1301 ?_
  refine cst (v := 1) (by decide) ?_
  refine va_sld hx hb hX hbl hbA hS (vin0 (by decide)) dL_law_1302 ?_
  refine cst (v := 4) ((congrArg xs (show (1 : Int32).toNatClampNeg = 1 by decide)).trans hq1) ?_
  have hPc := hP.sub (ws' := [(m0, .inr (8, [.int 0, .int 0, .int 0, .int 0, .ref (a 4), .int 0, .int 0, .int 0, .int 0, .int 0, .int 0, .long 0, .int 0, .int 0, .int 0, .int 0, .int 0, .int 0, .ref (a 18), .ref (a 19), .ref (a 20), .ref (a 21), .ref (a 22), .ref (a 23), .ref (a 24), .ref (a 25), .ref (a 26), .ref (a 27), .ref (a 28), .ref (a 29), .ref (a 30), .ref (a 31), .ref (a 32), .ref (a 33), .ref (a 34), .ref (a 35), .long 0, .int 0, .ref (a 38), .ref (a 39), .int 0, .ref (a 41), .ref (a 42), .ref (a 43)])), ((a 21), .inl ((ca 21), 2, .inl (fun _ => 0)))]) [3, 4] rfl
  have hKc := hK.sub (tys' := [((ca 21), .int)]) [1] rfl
  have hDc := hD.sub (ws' := [(m0, .inr (8, [.int 0, .int 0, .int 0, .int 0, .ref (a 4), .int 0, .int 0, .int 0, .int 0, .int 0, .int 0, .long 0, .int 0, .int 0, .int 0, .int 0, .int 0, .int 0, .ref (a 18), .ref (a 19), .ref (a 20), .ref (a 21), .ref (a 22), .ref (a 23), .ref (a 24), .ref (a 25), .ref (a 26), .ref (a 27), .ref (a 28), .ref (a 29), .ref (a 30), .ref (a 31), .ref (a 32), .ref (a 33), .ref (a 34), .ref (a 35), .long 0, .int 0, .ref (a 38), .ref (a 39), .int 0, .ref (a 41), .ref (a 42), .ref (a 43)])), ((a 21), .inl ((ca 21), 2, .inl (fun _ => 0)))]) [3, 4] (by decide) rfl
  have hFc := va_free (wc := [(m0, .inr (8, [.int 0, .int 0, .int 0, .int 0, .ref (a 4), .int 0, .int 0, .int 0, .int 0, .int 0, .int 0, .long 0, .int 0, .int 0, .int 0, .int 0, .int 0, .int 0, .ref (a 18), .ref (a 19), .ref (a 20), .ref (a 21), .ref (a 22), .ref (a 23), .ref (a 24), .ref (a 25), .ref (a 26), .ref (a 27), .ref (a 28), .ref (a 29), .ref (a 30), .ref (a 31), .ref (a 32), .ref (a 33), .ref (a 34), .ref (a 35), .long 0, .int 0, .ref (a 38), .ref (a 39), .int 0, .ref (a 41), .ref (a 42), .ref (a 43)])), ((a 21), .inl ((ca 21), 2, .inl (fun _ => 0)))]) hD hS hA [3, 4] rfl
  refine va_calli (va_runV (As := [.int 4]) (rest := [.int 0]) ⟨hx, hb, hml, hown, hts⟩ (c_9count4 l dC dI g H.size (m0) (a) (ca) ) (cwV 1 hts (gwV qw_610 qw_611 qw_612 qw_23 qw_609) rfl rfl rfl (by decide +kernel) ⟨Nat.le_of_ble_eq_true rfl, Nat.le_of_ble_eq_true rfl⟩) ⟨fun a U g9 mk q => ⟨q.1, q.2.1, q.2.2.1, va_K.moved (u := U) (U := U.calling g9 mk a) (Vm.Alike.refl U.vm) q.2.2.2.1, q.2.2.2.2.1, Ev.bl q.2.2.2.2.2⟩, va_recv hK hP (ci := 8) (q0 := 3) rfl rfl, fun U hU hW => ⟨rfl, by rw [hU], by rw [hU]; exact hPc, va_K.moved hW.alike hKc, hDc.weaken (fun _ _ _ _ => trivial), hE.go hS hFc hU hW⟩⟩ rfl rfl hl.1 rfl (lv_room (Nat.le_of_ble_eq_true rfl)) dL_law_1303 ⟨Nat.le_of_ble_eq_true rfl, Nat.le_of_ble_eq_true rfl⟩) hS (fun q _ h => hFc q h) hFc (fun r3 u2 t H1 locs ht hvm h_u2 hB hz1 hk1 hS => ?_)
  obtain ⟨hP, hD⟩ := va_join (wr := [(x0, .inr (7, [.ref (b 0), .ref (b 1), .ref (b 2), .ref (b 3), .ref (b 4), .ref (b 5), .ref (b 6), .ref (b 7), .ref (b 8), .ref (b 9), .int 1])), ((b 8), .inr (2, [.ref ((sf 2) 0), .ref ((sf 2) 1), .ref ((sf 2) 2), .ref ((sf 2) 3), .ref ((sf 2) 4), .ref ((sf 2) 5)])), (((sf 2) 3), .inl (((sc 2) 3), 12, .inl (srf 2)))]) (w1 := []) hP hD [3, 4] [0, 1, 2] rfl rfl (by decide) (by decide) hk1 hFc va_P0 va_D0
  generalize H1 = H at hP hS ⊢
  have hP : va_P (dC, dI) vwCl [(x0, .inr (7, [.ref (b 0), .ref (b 1), .ref (b 2), .ref (b 3), .ref (b 4), .ref (b 5), .ref (b 6), .ref (b 7), .ref (b 8), .ref (b 9), .int 1])), ((b 8), .inr (2, [.ref ((sf 2) 0), .ref ((sf 2) 1), .ref ((sf 2) 2), .ref ((sf 2) 3), .ref ((sf 2) 4), .ref ((sf 2) 5)])), (((sf 2) 3), .inl (((sc 2) 3), 12, .inl (srf 2)))] H := hP
  have hD : va_D A [(x0, .inr (7, [.ref (b 0), .ref (b 1), .ref (b 2), .ref (b 3), .ref (b 4), .ref (b 5), .ref (b 6), .ref (b 7), .ref (b 8), .ref (b 9), .int 1])), ((b 8), .inr (2, [.ref ((sf 2) 0), .ref ((sf 2) 1), .ref ((sf 2) 2), .ref ((sf 2) 3), .ref ((sf 2) 4), .ref ((sf 2) 5)])), (((sf 2) 3), .inl (((sc 2) 3), 12, .inl (srf 2)))] := hD
  refine W.widen (k := 243) (n := 7586) (Nat.le_of_ble_eq_true rfl) (Nat.le_of_ble_eq_true rfl) ?_
  have h_u2 : r3 = 0 := h_u2
  subst h_u2
  refine lv_icmp_eq (tgt := 1311) hx hb dL_law_1306 (by decide) (fun c1306_4 => ?_) (fun c1306_4 => by exfalso; exact absurd c1306_4 (by decide))
  refine lv_iinc (v := 6) (lv' := [(4, .int 6), (3, .ref o0), (2, .ref m0), (1, .ref x0), (0, .ref b0)]) hx hb dL_law_1311 hl (k := 0) rfl (by decide) (by decide) rfl (fun ls hl => ?_)
  refine lv_goto (tgt := 23) hx hb dL_law_1314 (by decide) ?_
  refine lv_iload hx hb dL_law_23 (lv_at hl 0 rfl) ?_
  refine lv_aload_n hx hb dL_law_25 rfl (lv_at hl 4 rfl) ?_
  refine va_slen hx hb hX hbl hbA hS dL_law_26 ?_
  refine cst (v := 6) (by decide) ?_
  refine lv_bipush (v := 6) hx hb dL_law_27 (by decide) ?_
  refine lv_isub hx hb dL_law_29 ?_
  refine cst (v := 0) (by decide) ?_
  refine lv_icmp_gt (tgt := 1317) hx hb dL_law_30 (by decide) (fun c30_5 => ?_) (fun c30_5 => by exfalso; exact absurd c30_5 (by decide))
  refine lv_iconst (v := 1) hx hb dL_law_1317 (by decide) ?_
  refine va_forget (fun q h => by have h8 := hS.2.2 q h; rw [← hAe] at h8; exact h8) ?_
  refine W.widen (k := 600002) (n := 7302232) (Nat.le_of_ble_eq_true rfl) (Nat.le_of_ble_eq_true rfl) ?_
  exact lw_ret hx hb hr hlocks dL_law_1318
set_option maxHeartbeats 4000000 in
set_option maxRecDepth 100000 in
theorem law_275 {p : Program} {e : Env} {s : State} {m : MethodId} {below : List Frame} {meth : Method} {c : Code} (l : Launch) {b0 : Nat} {xs : Nat → Int32} (C0 : lw_At p s m meth c b0 6 xs) (dC : Nat → ClassId) (dI : Nat → Nat → Nat) (g : Gv) (x0 : Nat) (b : Nat → Nat) (f4 : Nat → Nat) (c4 : ClassId) (f5 : Nat → Nat) (f7 : Nat → Nat) (f6 : Nat → Nat) (f2 : Nat → Nat) (cK : ClassId) (kf : Nat → Option Nat) (cZ : ClassId) (fT : Nat → Nat) (fU : Nat → Nat) (sa : Nat → Nat) (sf : Nat → Nat → Nat) (sc : Nat → Nat → ClassId) (spf : Nat → Nat → Int32) (sdf : Nat → Nat → Int32) (slf : Nat → Nat → Int32) (srf : Nat → Nat → Int32) (sga : Nat → Nat → Option Nat) (sgb : Nat → Nat → Option Nat) (rows : va_W) (m0 : Nat) (a : Nat → Nat) (ca : Nat → ClassId) (o0 : Nat)  (hq1 : xs 1 = 5) (hz : ∀ j, j < 12 → slf 2 j = -1) {H : Heap} {locs : List Loc} {ls : Array Slot} (hK : va_K (dC, dI) vwCl [(((sc 2) 2), .int), ((ca 21), .int)] s) (hP : va_P (dC, dI) vwCl [(x0, .inr (7, [.ref (b 0), .ref (b 1), .ref (b 2), .ref (b 3), .ref (b 4), .ref (b 5), .ref (b 6), .ref (b 7), .ref (b 8), .ref (b 9), .int 1])), ((b 8), .inr (2, [.ref ((sf 2) 0), .ref ((sf 2) 1), .ref ((sf 2) 2), .ref ((sf 2) 3), .ref ((sf 2) 4), .ref ((sf 2) 5)])), (((sf 2) 2), .inl (((sc 2) 2), 12, .inl (slf 2))), (m0, .inr (8, [.int 0, .int 0, .int 0, .int 0, .ref (a 4), .int 0, .int 0, .int 0, .int 0, .int 0, .int 0, .long 0, .int 0, .int 0, .int 0, .int 0, .int 0, .int 0, .ref (a 18), .ref (a 19), .ref (a 20), .ref (a 21), .ref (a 22), .ref (a 23), .ref (a 24), .ref (a 25), .ref (a 26), .ref (a 27), .ref (a 28), .ref (a 29), .ref (a 30), .ref (a 31), .ref (a 32), .ref (a 33), .ref (a 34), .ref (a 35), .long 0, .int 0, .ref (a 38), .ref (a 39), .int 0, .ref (a 41), .ref (a 42), .ref (a 43)])), ((a 21), .inl ((ca 21), 2, .inl (fun _ => 0)))] H) (hD : va_D (fun q : Nat => s.heap.size ≤ q) [(x0, .inr (7, [.ref (b 0), .ref (b 1), .ref (b 2), .ref (b 3), .ref (b 4), .ref (b 5), .ref (b 6), .ref (b 7), .ref (b 8), .ref (b 9), .int 1])), ((b 8), .inr (2, [.ref ((sf 2) 0), .ref ((sf 2) 1), .ref ((sf 2) 2), .ref ((sf 2) 3), .ref ((sf 2) 4), .ref ((sf 2) 5)])), (((sf 2) 2), .inl (((sc 2) 2), 12, .inl (slf 2))), (m0, .inr (8, [.int 0, .int 0, .int 0, .int 0, .ref (a 4), .int 0, .int 0, .int 0, .int 0, .int 0, .int 0, .long 0, .int 0, .int 0, .int 0, .int 0, .int 0, .int 0, .ref (a 18), .ref (a 19), .ref (a 20), .ref (a 21), .ref (a 22), .ref (a 23), .ref (a 24), .ref (a 25), .ref (a 26), .ref (a 27), .ref (a 28), .ref (a 29), .ref (a 30), .ref (a 31), .ref (a 32), .ref (a 33), .ref (a 34), .ref (a 35), .long 0, .int 0, .ref (a 38), .ref (a 39), .int 0, .ref (a 41), .ref (a 42), .ref (a 43)])), ((a 21), .inl ((ca 21), 2, .inl (fun _ => 0)))]) (hS : va_S (fun q : Nat => s.heap.size ≤ q) s.heap H locs) (hE : Ev g (fun q : Nat => s.heap.size ≤ q) s) (hl : lv_has ls 7 [(4, .int 0), (3, .ref o0), (2, .ref m0), (1, .ref x0), (0, .ref b0)]) : W p l e room_1 s m #[Value.ref b0] below meth c H locs 243 7586 (lw_Z below #[Value.ref b0] s) (F0 m 1286 ls []) := by
  obtain ⟨hx, hb, hr, hml, hown, hts0, hX, hbl, hlocks, hgv⟩ := id C0
  have hts := fun (w : Cond) (h : w ∈ TBL) => hts0 w (TBin w h)
  have hown : s.vm.findClass RL = some m.cls := hown
  have hN := hE.1
  have hA : ∀ q : Nat, s.heap.size ≤ q → (fun q : Nat => s.heap.size ≤ q) q := fun _ h => h
  have hbA : ¬ (fun q : Nat => s.heap.size ≤ q) b0 := Nat.not_le.mpr hbl
  generalize hAe : (fun q : Nat => s.heap.size ≤ q) = A at hD hS hE hA hbA
  refine lv_aload_n hx hb dL_law_1286 rfl (lv_at hl 3 rfl) ?_
  refine lv_aload_n hx hb dL_law_1287 rfl (lv_at hl 4 rfl) ?_
  refine lv_iload hx hb dL_law_1288 (lv_at hl 0 rfl) ?_
  refine lv_iconst (v := 1) hx hb dL_law_1290 (by decide) ?_
  refine lv_iadd hx hb dL_law_1291 ?_
  refine cst (v := 1) (by decide) ?_
  refine va_sld hx hb hX hbl hbA hS (vin0 (by decide)) dL_law_1292 ?_
  refine cst (v := 5) ((congrArg xs (show (1 : Int32).toNatClampNeg = 1 by decide)).trans hq1) ?_
  have hPc := hP.sub (ws' := [(x0, .inr (7, [.ref (b 0), .ref (b 1), .ref (b 2), .ref (b 3), .ref (b 4), .ref (b 5), .ref (b 6), .ref (b 7), .ref (b 8), .ref (b 9), .int 1])), ((b 8), .inr (2, [.ref ((sf 2) 0), .ref ((sf 2) 1), .ref ((sf 2) 2), .ref ((sf 2) 3), .ref ((sf 2) 4), .ref ((sf 2) 5)])), (((sf 2) 2), .inl (((sc 2) 2), 12, .inl (slf 2)))]) [0, 1, 2] rfl
  have hKc := hK.sub (tys' := [(((sc 2) 2), .int)]) [0] rfl
  refine vp_callSi ((va_runV (As := [.int 5]) (rest := []) ⟨hx, hb, hml, hown, hts⟩ (c_8count5 l dC dI g (x0) (b) (f4) (c4) (f5) (f7) (f6) (f2) (cK) (kf) (cZ) (fT) (fU) (sa) (sf) (sc) (spf) (sdf) (slf) (srf) (sga) (sgb) (rows) hz) (cwV 1 hts (gwV qw_606 qw_607 qw_608 qw_69 qw_605) rfl rfl rfl (by decide +kernel) ⟨Nat.le_of_ble_eq_true rfl, Nat.le_of_ble_eq_true rfl⟩) ⟨fun a U g9 mk q => ⟨q.1, q.2.1, va_K.moved (u := U) (U := U.calling g9 mk a) (Vm.Alike.refl U.vm) q.2.2.1, Ev.bl q.2.2.2⟩, va_recv hK hP (ci := 7) (q0 := 0) rfl rfl, fun U hU hW => ⟨rfl, by rw [hU]; exact hPc, va_K.moved hW.alike hKc, hE.go hS (fun _ h => h.elim) hU hW⟩⟩ rfl rfl hl.1 rfl (lv_room (Nat.le_of_ble_eq_true rfl)) dL_law_1293 ⟨Nat.le_of_ble_eq_true rfl, Nat.le_of_ble_eq_true rfl⟩)).run (fun r1 h_r1 => ?_)
  have h_r1 : r1 = 0 := h_r1
  subst h_r1
  refine lv_aload_n hx hb dL_law_1296 rfl (lv_at hl 2 rfl) ?_
  refine lv_aload_n hx hb dL_law_1297 rfl (lv_at hl 4 rfl) ?_
  refine lv_iload hx hb dL_law_1298 (lv_at hl 0 rfl) ?_
  refine lv_iconst (v := 1) hx hb dL_law_1300 (by decide) ?_
  refine lv_iadd hx hb dL_law_1301 ?_
  refine cst (v := 1) (by decide) ?_
  refine va_sld hx hb hX hbl hbA hS (vin0 (by decide)) dL_law_1302 ?_
  refine cst (v := 5) ((congrArg xs (show (1 : Int32).toNatClampNeg = 1 by decide)).trans hq1) ?_
  have hPc := hP.sub (ws' := [(m0, .inr (8, [.int 0, .int 0, .int 0, .int 0, .ref (a 4), .int 0, .int 0, .int 0, .int 0, .int 0, .int 0, .long 0, .int 0, .int 0, .int 0, .int 0, .int 0, .int 0, .ref (a 18), .ref (a 19), .ref (a 20), .ref (a 21), .ref (a 22), .ref (a 23), .ref (a 24), .ref (a 25), .ref (a 26), .ref (a 27), .ref (a 28), .ref (a 29), .ref (a 30), .ref (a 31), .ref (a 32), .ref (a 33), .ref (a 34), .ref (a 35), .long 0, .int 0, .ref (a 38), .ref (a 39), .int 0, .ref (a 41), .ref (a 42), .ref (a 43)])), ((a 21), .inl ((ca 21), 2, .inl (fun _ => 0)))]) [3, 4] rfl
  have hKc := hK.sub (tys' := [((ca 21), .int)]) [1] rfl
  have hDc := hD.sub (ws' := [(m0, .inr (8, [.int 0, .int 0, .int 0, .int 0, .ref (a 4), .int 0, .int 0, .int 0, .int 0, .int 0, .int 0, .long 0, .int 0, .int 0, .int 0, .int 0, .int 0, .int 0, .ref (a 18), .ref (a 19), .ref (a 20), .ref (a 21), .ref (a 22), .ref (a 23), .ref (a 24), .ref (a 25), .ref (a 26), .ref (a 27), .ref (a 28), .ref (a 29), .ref (a 30), .ref (a 31), .ref (a 32), .ref (a 33), .ref (a 34), .ref (a 35), .long 0, .int 0, .ref (a 38), .ref (a 39), .int 0, .ref (a 41), .ref (a 42), .ref (a 43)])), ((a 21), .inl ((ca 21), 2, .inl (fun _ => 0)))]) [3, 4] (by decide) rfl
  have hFc := va_free (wc := [(m0, .inr (8, [.int 0, .int 0, .int 0, .int 0, .ref (a 4), .int 0, .int 0, .int 0, .int 0, .int 0, .int 0, .long 0, .int 0, .int 0, .int 0, .int 0, .int 0, .int 0, .ref (a 18), .ref (a 19), .ref (a 20), .ref (a 21), .ref (a 22), .ref (a 23), .ref (a 24), .ref (a 25), .ref (a 26), .ref (a 27), .ref (a 28), .ref (a 29), .ref (a 30), .ref (a 31), .ref (a 32), .ref (a 33), .ref (a 34), .ref (a 35), .long 0, .int 0, .ref (a 38), .ref (a 39), .int 0, .ref (a 41), .ref (a 42), .ref (a 43)])), ((a 21), .inl ((ca 21), 2, .inl (fun _ => 0)))]) hD hS hA [3, 4] rfl
  refine va_calli (va_runV (As := [.int 5]) (rest := [.int 0]) ⟨hx, hb, hml, hown, hts⟩ (c_9count5 l dC dI g H.size (m0) (a) (ca) ) (cwV 1 hts (gwV qw_610 qw_611 qw_612 qw_23 qw_609) rfl rfl rfl (by decide +kernel) ⟨Nat.le_of_ble_eq_true rfl, Nat.le_of_ble_eq_true rfl⟩) ⟨fun a U g9 mk q => ⟨q.1, q.2.1, q.2.2.1, va_K.moved (u := U) (U := U.calling g9 mk a) (Vm.Alike.refl U.vm) q.2.2.2.1, q.2.2.2.2.1, Ev.bl q.2.2.2.2.2⟩, va_recv hK hP (ci := 8) (q0 := 3) rfl rfl, fun U hU hW => ⟨rfl, by rw [hU], by rw [hU]; exact hPc, va_K.moved hW.alike hKc, hDc.weaken (fun _ _ _ _ => trivial), hE.go hS hFc hU hW⟩⟩ rfl rfl hl.1 rfl (lv_room (Nat.le_of_ble_eq_true rfl)) dL_law_1303 ⟨Nat.le_of_ble_eq_true rfl, Nat.le_of_ble_eq_true rfl⟩) hS (fun q _ h => hFc q h) hFc (fun r3 u2 t H1 locs ht hvm h_u2 hB hz1 hk1 hS => ?_)
  obtain ⟨hP, hD⟩ := va_join (wr := [(x0, .inr (7, [.ref (b 0), .ref (b 1), .ref (b 2), .ref (b 3), .ref (b 4), .ref (b 5), .ref (b 6), .ref (b 7), .ref (b 8), .ref (b 9), .int 1])), ((b 8), .inr (2, [.ref ((sf 2) 0), .ref ((sf 2) 1), .ref ((sf 2) 2), .ref ((sf 2) 3), .ref ((sf 2) 4), .ref ((sf 2) 5)])), (((sf 2) 2), .inl (((sc 2) 2), 12, .inl (slf 2)))]) (w1 := []) hP hD [3, 4] [0, 1, 2] rfl rfl (by decide) (by decide) hk1 hFc va_P0 va_D0
  generalize H1 = H at hP hS ⊢
  have hP : va_P (dC, dI) vwCl [(x0, .inr (7, [.ref (b 0), .ref (b 1), .ref (b 2), .ref (b 3), .ref (b 4), .ref (b 5), .ref (b 6), .ref (b 7), .ref (b 8), .ref (b 9), .int 1])), ((b 8), .inr (2, [.ref ((sf 2) 0), .ref ((sf 2) 1), .ref ((sf 2) 2), .ref ((sf 2) 3), .ref ((sf 2) 4), .ref ((sf 2) 5)])), (((sf 2) 2), .inl (((sc 2) 2), 12, .inl (slf 2)))] H := hP
  have hD : va_D A [(x0, .inr (7, [.ref (b 0), .ref (b 1), .ref (b 2), .ref (b 3), .ref (b 4), .ref (b 5), .ref (b 6), .ref (b 7), .ref (b 8), .ref (b 9), .int 1])), ((b 8), .inr (2, [.ref ((sf 2) 0), .ref ((sf 2) 1), .ref ((sf 2) 2), .ref ((sf 2) 3), .ref ((sf 2) 4), .ref ((sf 2) 5)])), (((sf 2) 2), .inl (((sc 2) 2), 12, .inl (slf 2)))] := hD
  refine W.widen (k := 243) (n := 7586) (Nat.le_of_ble_eq_true rfl) (Nat.le_of_ble_eq_true rfl) ?_
  have h_u2 : r3 = 0 := h_u2
  subst h_u2
  refine lv_icmp_eq (tgt := 1311) hx hb dL_law_1306 (by decide) (fun c1306_4 => ?_) (fun c1306_4 => by exfalso; exact absurd c1306_4 (by decide))
  refine lv_iinc (v := 6) (lv' := [(4, .int 6), (3, .ref o0), (2, .ref m0), (1, .ref x0), (0, .ref b0)]) hx hb dL_law_1311 hl (k := 0) rfl (by decide) (by decide) rfl (fun ls hl => ?_)
  refine lv_goto (tgt := 23) hx hb dL_law_1314 (by decide) ?_
  refine lv_iload hx hb dL_law_23 (lv_at hl 0 rfl) ?_
  refine lv_aload_n hx hb dL_law_25 rfl (lv_at hl 4 rfl) ?_
  refine va_slen hx hb hX hbl hbA hS dL_law_26 ?_
  refine cst (v := 6) (by decide) ?_
  refine lv_bipush (v := 6) hx hb dL_law_27 (by decide) ?_
  refine lv_isub hx hb dL_law_29 ?_
  refine cst (v := 0) (by decide) ?_
  refine lv_icmp_gt (tgt := 1317) hx hb dL_law_30 (by decide) (fun c30_5 => ?_) (fun c30_5 => by exfalso; exact absurd c30_5 (by decide))
  refine lv_iconst (v := 1) hx hb dL_law_1317 (by decide) ?_
  refine va_forget (fun q h => by have h8 := hS.2.2 q h; rw [← hAe] at h8; exact h8) ?_
  refine W.widen (k := 600002) (n := 7302232) (Nat.le_of_ble_eq_true rfl) (Nat.le_of_ble_eq_true rfl) ?_
  exact lw_ret hx hb hr hlocks dL_law_1318
set_option maxHeartbeats 4000000 in
set_option maxRecDepth 100000 in
theorem law_276 {p : Program} {e : Env} {s : State} {m : MethodId} {below : List Frame} {meth : Method} {c : Code} (l : Launch) {b0 : Nat} {xs : Nat → Int32} (C0 : lw_At p s m meth c b0 6 xs) (dC : Nat → ClassId) (dI : Nat → Nat → Nat) (g : Gv) (x0 : Nat) (b : Nat → Nat) (f4 : Nat → Nat) (c4 : ClassId) (f5 : Nat → Nat) (f7 : Nat → Nat) (f6 : Nat → Nat) (f2 : Nat → Nat) (cK : ClassId) (kf : Nat → Option Nat) (cZ : ClassId) (fT : Nat → Nat) (fU : Nat → Nat) (sa : Nat → Nat) (sf : Nat → Nat → Nat) (sc : Nat → Nat → ClassId) (spf : Nat → Nat → Int32) (sdf : Nat → Nat → Int32) (slf : Nat → Nat → Int32) (srf : Nat → Nat → Int32) (sga : Nat → Nat → Option Nat) (sgb : Nat → Nat → Option Nat) (rows : va_W) (m0 : Nat) (a : Nat → Nat) (ca : Nat → ClassId) (o0 : Nat)  (hq1 : xs 1 = 6) {H : Heap} {locs : List Loc} {ls : Array Slot} (hK : va_K (dC, dI) vwCl [] s) (hP : va_P (dC, dI) vwCl [(x0, .inr (7, [.ref (b 0), .ref (b 1), .ref (b 2), .ref (b 3), .ref (b 4), .ref (b 5), .ref (b 6), .ref (b 7), .ref (b 8), .ref (b 9), .int 1])), ((b 3), .inr (1, [.ref (f2 0), .ref (f2 1), .ref (f2 2), .int 0])), (m0, .inr (8, [.int 0, .int 0, .int 0, .int 0, .ref (a 4), .int 0, .int 0, .int 0, .int 0, .int 0, .int 0, .long 0, .int 0, .int 0, .int 0, .int 0, .int 0, .int 0, .ref (a 18), .ref (a 19), .ref (a 20), .ref (a 21), .ref (a 22), .ref (a 23), .ref (a 24), .ref (a 25), .ref (a 26), .ref (a 27), .ref (a 28), .ref (a 29), .ref (a 30), .ref (a 31), .ref (a 32), .ref (a 33), .ref (a 34), .ref (a 35), .long 0, .int 0, .ref (a 38), .ref (a 39), .int 0, .ref (a 41), .ref (a 42), .ref (a 43)]))] H) (hD : va_D (fun q : Nat => s.heap.size ≤ q) [(x0, .inr (7, [.ref (b 0), .ref (b 1), .ref (b 2), .ref (b 3), .ref (b 4), .ref (b 5), .ref (b 6), .ref (b 7), .ref (b 8), .ref (b 9), .int 1])), ((b 3), .inr (1, [.ref (f2 0), .ref (f2 1), .ref (f2 2), .int 0])), (m0, .inr (8, [.int 0, .int 0, .int 0, .int 0, .ref (a 4), .int 0, .int 0, .int 0, .int 0, .int 0, .int 0, .long 0, .int 0, .int 0, .int 0, .int 0, .int 0, .int 0, .ref (a 18), .ref (a 19), .ref (a 20), .ref (a 21), .ref (a 22), .ref (a 23), .ref (a 24), .ref (a 25), .ref (a 26), .ref (a 27), .ref (a 28), .ref (a 29), .ref (a 30), .ref (a 31), .ref (a 32), .ref (a 33), .ref (a 34), .ref (a 35), .long 0, .int 0, .ref (a 38), .ref (a 39), .int 0, .ref (a 41), .ref (a 42), .ref (a 43)]))]) (hS : va_S (fun q : Nat => s.heap.size ≤ q) s.heap H locs) (hE : Ev g (fun q : Nat => s.heap.size ≤ q) s) (hl : lv_has ls 7 [(4, .int 0), (3, .ref o0), (2, .ref m0), (1, .ref x0), (0, .ref b0)]) : W p l e room_1 s m #[Value.ref b0] below meth c H locs 243 7586 (lw_Z below #[Value.ref b0] s) (F0 m 1286 ls []) := by
  obtain ⟨hx, hb, hr, hml, hown, hts0, hX, hbl, hlocks, hgv⟩ := id C0
  have hts := fun (w : Cond) (h : w ∈ TBL) => hts0 w (TBin w h)
  have hown : s.vm.findClass RL = some m.cls := hown
  have hN := hE.1
  have hA : ∀ q : Nat, s.heap.size ≤ q → (fun q : Nat => s.heap.size ≤ q) q := fun _ h => h
  have hbA : ¬ (fun q : Nat => s.heap.size ≤ q) b0 := Nat.not_le.mpr hbl
  generalize hAe : (fun q : Nat => s.heap.size ≤ q) = A at hD hS hE hA hbA
  refine lv_aload_n hx hb dL_law_1286 rfl (lv_at hl 3 rfl) ?_
  refine lv_aload_n hx hb dL_law_1287 rfl (lv_at hl 4 rfl) ?_
  refine lv_iload hx hb dL_law_1288 (lv_at hl 0 rfl) ?_
  refine lv_iconst (v := 1) hx hb dL_law_1290 (by decide) ?_
  refine lv_iadd hx hb dL_law_1291 ?_
  refine cst (v := 1) (by decide) ?_
  refine va_sld hx hb hX hbl hbA hS (vin0 (by decide)) dL_law_1292 ?_
  refine cst (v := 6) ((congrArg xs (show (1 : Int32).toNatClampNeg = 1 by decide)).trans hq1) ?_
  have hPc := hP.sub (ws' := [(x0, .inr (7, [.ref (b 0), .ref (b 1), .ref (b 2), .ref (b 3), .ref (b 4), .ref (b 5), .ref (b 6), .ref (b 7), .ref (b 8), .ref (b 9), .int 1])), ((b 3), .inr (1, [.ref (f2 0), .ref (f2 1), .ref (f2 2), .int 0]))]) [0, 1] rfl
  have hKc := hK.sub (tys' := []) [] rfl
  refine vp_callSi ((va_runV (As := [.int 6]) (rest := []) ⟨hx, hb, hml, hown, hts⟩ (c_8count6 l dC dI g (x0) (b) (f4) (c4) (f5) (f7) (f6) (f2) (cK) (kf) (cZ) (fT) (fU) (sa) (sf) (sc) (spf) (sdf) (slf) (srf) (sga) (sgb) (rows) ) (cwV 1 hts (gwV qw_606 qw_607 qw_608 qw_69 qw_605) rfl rfl rfl (by decide +kernel) ⟨Nat.le_of_ble_eq_true rfl, Nat.le_of_ble_eq_true rfl⟩) ⟨fun a U g9 mk q => ⟨q.1, q.2.1, va_K.moved (u := U) (U := U.calling g9 mk a) (Vm.Alike.refl U.vm) q.2.2.1, Ev.bl q.2.2.2⟩, va_recv hK hP (ci := 7) (q0 := 0) rfl rfl, fun U hU hW => ⟨rfl, by rw [hU]; exact hPc, va_K.moved hW.alike hKc, hE.go hS (fun _ h => h.elim) hU hW⟩⟩ rfl rfl hl.1 rfl (lv_room (Nat.le_of_ble_eq_true rfl)) dL_law_1293 ⟨Nat.le_of_ble_eq_true rfl, Nat.le_of_ble_eq_true rfl⟩)).run (fun r1 h_r1 => ?_)
  have h_r1 : r1 = 0 := h_r1
  subst h_r1
  refine lv_aload_n hx hb dL_law_1296 rfl (lv_at hl 2 rfl) ?_
  refine lv_aload_n hx hb dL_law_1297 rfl (lv_at hl 4 rfl) ?_
  refine lv_iload hx hb dL_law_1298 (lv_at hl 0 rfl) ?_
  refine lv_iconst (v := 1) hx hb dL_law_1300 (by decide) ?_
  refine lv_iadd hx hb dL_law_1301 ?_
  refine cst (v := 1) (by decide) ?_
  refine va_sld hx hb hX hbl hbA hS (vin0 (by decide)) dL_law_1302 ?_
  refine cst (v := 6) ((congrArg xs (show (1 : Int32).toNatClampNeg = 1 by decide)).trans hq1) ?_
  have hPc := hP.sub (ws' := [(m0, .inr (8, [.int 0, .int 0, .int 0, .int 0, .ref (a 4), .int 0, .int 0, .int 0, .int 0, .int 0, .int 0, .long 0, .int 0, .int 0, .int 0, .int 0, .int 0, .int 0, .ref (a 18), .ref (a 19), .ref (a 20), .ref (a 21), .ref (a 22), .ref (a 23), .ref (a 24), .ref (a 25), .ref (a 26), .ref (a 27), .ref (a 28), .ref (a 29), .ref (a 30), .ref (a 31), .ref (a 32), .ref (a 33), .ref (a 34), .ref (a 35), .long 0, .int 0, .ref (a 38), .ref (a 39), .int 0, .ref (a 41), .ref (a 42), .ref (a 43)]))]) [2] rfl
  have hKc := hK.sub (tys' := []) [] rfl
  have hDc := hD.sub (ws' := [(m0, .inr (8, [.int 0, .int 0, .int 0, .int 0, .ref (a 4), .int 0, .int 0, .int 0, .int 0, .int 0, .int 0, .long 0, .int 0, .int 0, .int 0, .int 0, .int 0, .int 0, .ref (a 18), .ref (a 19), .ref (a 20), .ref (a 21), .ref (a 22), .ref (a 23), .ref (a 24), .ref (a 25), .ref (a 26), .ref (a 27), .ref (a 28), .ref (a 29), .ref (a 30), .ref (a 31), .ref (a 32), .ref (a 33), .ref (a 34), .ref (a 35), .long 0, .int 0, .ref (a 38), .ref (a 39), .int 0, .ref (a 41), .ref (a 42), .ref (a 43)]))]) [2] (by decide) rfl
  have hFc := va_free (wc := [(m0, .inr (8, [.int 0, .int 0, .int 0, .int 0, .ref (a 4), .int 0, .int 0, .int 0, .int 0, .int 0, .int 0, .long 0, .int 0, .int 0, .int 0, .int 0, .int 0, .int 0, .ref (a 18), .ref (a 19), .ref (a 20), .ref (a 21), .ref (a 22), .ref (a 23), .ref (a 24), .ref (a 25), .ref (a 26), .ref (a 27), .ref (a 28), .ref (a 29), .ref (a 30), .ref (a 31), .ref (a 32), .ref (a 33), .ref (a 34), .ref (a 35), .long 0, .int 0, .ref (a 38), .ref (a 39), .int 0, .ref (a 41), .ref (a 42), .ref (a 43)]))]) hD hS hA [2] rfl
  refine va_calli (va_runV (As := [.int 6]) (rest := [.int 0]) ⟨hx, hb, hml, hown, hts⟩ (c_9count6 l dC dI g H.size (m0) (a) (ca) ) (cwV 1 hts (gwV qw_610 qw_611 qw_612 qw_23 qw_609) rfl rfl rfl (by decide +kernel) ⟨Nat.le_of_ble_eq_true rfl, Nat.le_of_ble_eq_true rfl⟩) ⟨fun a U g9 mk q => ⟨q.1, q.2.1, q.2.2.1, va_K.moved (u := U) (U := U.calling g9 mk a) (Vm.Alike.refl U.vm) q.2.2.2.1, q.2.2.2.2.1, Ev.bl q.2.2.2.2.2⟩, va_recv hK hP (ci := 8) (q0 := 2) rfl rfl, fun U hU hW => ⟨rfl, by rw [hU], by rw [hU]; exact hPc, va_K.moved hW.alike hKc, hDc.weaken (fun _ _ _ _ => trivial), hE.go hS hFc hU hW⟩⟩ rfl rfl hl.1 rfl (lv_room (Nat.le_of_ble_eq_true rfl)) dL_law_1303 ⟨Nat.le_of_ble_eq_true rfl, Nat.le_of_ble_eq_true rfl⟩) hS (fun q _ h => hFc q h) hFc (fun r3 u2 t H1 locs ht hvm h_u2 hB hz1 hk1 hS => ?_)
  obtain ⟨hP, hD⟩ := va_join (wr := [(x0, .inr (7, [.ref (b 0), .ref (b 1), .ref (b 2), .ref (b 3), .ref (b 4), .ref (b 5), .ref (b 6), .ref (b 7), .ref (b 8), .ref (b 9), .int 1])), ((b 3), .inr (1, [.ref (f2 0), .ref (f2 1), .ref (f2 2), .int 0]))]) (w1 := []) hP hD [2] [0, 1] rfl rfl (by decide) (by decide) hk1 hFc va_P0 va_D0
  generalize H1 = H at hP hS ⊢
  have hP : va_P (dC, dI) vwCl [(x0, .inr (7, [.ref (b 0), .ref (b 1), .ref (b 2), .ref (b 3), .ref (b 4), .ref (b 5), .ref (b 6), .ref (b 7), .ref (b 8), .ref (b 9), .int 1])), ((b 3), .inr (1, [.ref (f2 0), .ref (f2 1), .ref (f2 2), .int 0]))] H := hP
  have hD : va_D A [(x0, .inr (7, [.ref (b 0), .ref (b 1), .ref (b 2), .ref (b 3), .ref (b 4), .ref (b 5), .ref (b 6), .ref (b 7), .ref (b 8), .ref (b 9), .int 1])), ((b 3), .inr (1, [.ref (f2 0), .ref (f2 1), .ref (f2 2), .int 0]))] := hD
  refine W.widen (k := 243) (n := 7586) (Nat.le_of_ble_eq_true rfl) (Nat.le_of_ble_eq_true rfl) ?_
  have h_u2 : r3 = 0 := h_u2
  subst h_u2
  refine lv_icmp_eq (tgt := 1311) hx hb dL_law_1306 (by decide) (fun c1306_4 => ?_) (fun c1306_4 => by exfalso; exact absurd c1306_4 (by decide))
  refine lv_iinc (v := 6) (lv' := [(4, .int 6), (3, .ref o0), (2, .ref m0), (1, .ref x0), (0, .ref b0)]) hx hb dL_law_1311 hl (k := 0) rfl (by decide) (by decide) rfl (fun ls hl => ?_)
  refine lv_goto (tgt := 23) hx hb dL_law_1314 (by decide) ?_
  refine lv_iload hx hb dL_law_23 (lv_at hl 0 rfl) ?_
  refine lv_aload_n hx hb dL_law_25 rfl (lv_at hl 4 rfl) ?_
  refine va_slen hx hb hX hbl hbA hS dL_law_26 ?_
  refine cst (v := 6) (by decide) ?_
  refine lv_bipush (v := 6) hx hb dL_law_27 (by decide) ?_
  refine lv_isub hx hb dL_law_29 ?_
  refine cst (v := 0) (by decide) ?_
  refine lv_icmp_gt (tgt := 1317) hx hb dL_law_30 (by decide) (fun c30_5 => ?_) (fun c30_5 => by exfalso; exact absurd c30_5 (by decide))
  refine lv_iconst (v := 1) hx hb dL_law_1317 (by decide) ?_
  refine va_forget (fun q h => by have h8 := hS.2.2 q h; rw [← hAe] at h8; exact h8) ?_
  refine W.widen (k := 600002) (n := 7302232) (Nat.le_of_ble_eq_true rfl) (Nat.le_of_ble_eq_true rfl) ?_
  exact lw_ret hx hb hr hlocks dL_law_1318
set_option maxHeartbeats 4000000 in
set_option maxRecDepth 100000 in
theorem law_277 {p : Program} {e : Env} {s : State} {m : MethodId} {below : List Frame} {meth : Method} {c : Code} (l : Launch) {b0 : Nat} {xs : Nat → Int32} (C0 : lw_At p s m meth c b0 6 xs) (dC : Nat → ClassId) (dI : Nat → Nat → Nat) (g : Gv) (x0 : Nat) (b : Nat → Nat) (f4 : Nat → Nat) (c4 : ClassId) (f5 : Nat → Nat) (f7 : Nat → Nat) (f6 : Nat → Nat) (f2 : Nat → Nat) (cK : ClassId) (kf : Nat → Option Nat) (cZ : ClassId) (fT : Nat → Nat) (fU : Nat → Nat) (sa : Nat → Nat) (sf : Nat → Nat → Nat) (sc : Nat → Nat → ClassId) (spf : Nat → Nat → Int32) (sdf : Nat → Nat → Int32) (slf : Nat → Nat → Int32) (srf : Nat → Nat → Int32) (sga : Nat → Nat → Option Nat) (sgb : Nat → Nat → Option Nat) (rows : va_W) (m0 : Nat) (a : Nat → Nat) (ca : Nat → ClassId) (o0 : Nat)  (hq1 : xs 1 = 7) {H : Heap} {locs : List Loc} {ls : Array Slot} (hK : va_K (dC, dI) vwCl [] s) (hP : va_P (dC, dI) vwCl [(x0, .inr (7, [.ref (b 0), .ref (b 1), .ref (b 2), .ref (b 3), .ref (b 4), .ref (b 5), .ref (b 6), .ref (b 7), .ref (b 8), .ref (b 9), .int 1])), ((b 0), .inr (3, [.ref (f4 0), .int 0])), (m0, .inr (8, [.int 0, .int 0, .int 0, .int 0, .ref (a 4), .int 0, .int 0, .int 0, .int 0, .int 0, .int 0, .long 0, .int 0, .int 0, .int 0, .int 0, .int 0, .int 0, .ref (a 18), .ref (a 19), .ref (a 20), .ref (a 21), .ref (a 22), .ref (a 23), .ref (a 24), .ref (a 25), .ref (a 26), .ref (a 27), .ref (a 28), .ref (a 29), .ref (a 30), .ref (a 31), .ref (a 32), .ref (a 33), .ref (a 34), .ref (a 35), .long 0, .int 0, .ref (a 38), .ref (a 39), .int 0, .ref (a 41), .ref (a 42), .ref (a 43)]))] H) (hD : va_D (fun q : Nat => s.heap.size ≤ q) [(x0, .inr (7, [.ref (b 0), .ref (b 1), .ref (b 2), .ref (b 3), .ref (b 4), .ref (b 5), .ref (b 6), .ref (b 7), .ref (b 8), .ref (b 9), .int 1])), ((b 0), .inr (3, [.ref (f4 0), .int 0])), (m0, .inr (8, [.int 0, .int 0, .int 0, .int 0, .ref (a 4), .int 0, .int 0, .int 0, .int 0, .int 0, .int 0, .long 0, .int 0, .int 0, .int 0, .int 0, .int 0, .int 0, .ref (a 18), .ref (a 19), .ref (a 20), .ref (a 21), .ref (a 22), .ref (a 23), .ref (a 24), .ref (a 25), .ref (a 26), .ref (a 27), .ref (a 28), .ref (a 29), .ref (a 30), .ref (a 31), .ref (a 32), .ref (a 33), .ref (a 34), .ref (a 35), .long 0, .int 0, .ref (a 38), .ref (a 39), .int 0, .ref (a 41), .ref (a 42), .ref (a 43)]))]) (hS : va_S (fun q : Nat => s.heap.size ≤ q) s.heap H locs) (hE : Ev g (fun q : Nat => s.heap.size ≤ q) s) (hl : lv_has ls 7 [(4, .int 0), (3, .ref o0), (2, .ref m0), (1, .ref x0), (0, .ref b0)]) : W p l e room_1 s m #[Value.ref b0] below meth c H locs 243 7586 (lw_Z below #[Value.ref b0] s) (F0 m 1286 ls []) := by
  obtain ⟨hx, hb, hr, hml, hown, hts0, hX, hbl, hlocks, hgv⟩ := id C0
  have hts := fun (w : Cond) (h : w ∈ TBL) => hts0 w (TBin w h)
  have hown : s.vm.findClass RL = some m.cls := hown
  have hN := hE.1
  have hA : ∀ q : Nat, s.heap.size ≤ q → (fun q : Nat => s.heap.size ≤ q) q := fun _ h => h
  have hbA : ¬ (fun q : Nat => s.heap.size ≤ q) b0 := Nat.not_le.mpr hbl
  generalize hAe : (fun q : Nat => s.heap.size ≤ q) = A at hD hS hE hA hbA
  refine lv_aload_n hx hb dL_law_1286 rfl (lv_at hl 3 rfl) ?_
  refine lv_aload_n hx hb dL_law_1287 rfl (lv_at hl 4 rfl) ?_
  refine lv_iload hx hb dL_law_1288 (lv_at hl 0 rfl) ?_
  refine lv_iconst (v := 1) hx hb dL_law_1290 (by decide) ?_
  refine lv_iadd hx hb dL_law_1291 ?_
  refine cst (v := 1) (by decide) ?_
  refine va_sld hx hb hX hbl hbA hS (vin0 (by decide)) dL_law_1292 ?_
  refine cst (v := 7) ((congrArg xs (show (1 : Int32).toNatClampNeg = 1 by decide)).trans hq1) ?_
  have hPc := hP.sub (ws' := [(x0, .inr (7, [.ref (b 0), .ref (b 1), .ref (b 2), .ref (b 3), .ref (b 4), .ref (b 5), .ref (b 6), .ref (b 7), .ref (b 8), .ref (b 9), .int 1])), ((b 0), .inr (3, [.ref (f4 0), .int 0]))]) [0, 1] rfl
  have hKc := hK.sub (tys' := []) [] rfl
  refine vp_callSi ((va_runV (As := [.int 7]) (rest := []) ⟨hx, hb, hml, hown, hts⟩ (c_8count7 l dC dI g (x0) (b) (f4) (c4) (f5) (f7) (f6) (f2) (cK) (kf) (cZ) (fT) (fU) (sa) (sf) (sc) (spf) (sdf) (slf) (srf) (sga) (sgb) (rows) ) (cwV 1 hts (gwV qw_606 qw_607 qw_608 qw_69 qw_605) rfl rfl rfl (by decide +kernel) ⟨Nat.le_of_ble_eq_true rfl, Nat.le_of_ble_eq_true rfl⟩) ⟨fun a U g9 mk q => ⟨q.1, q.2.1, va_K.moved (u := U) (U := U.calling g9 mk a) (Vm.Alike.refl U.vm) q.2.2.1, Ev.bl q.2.2.2⟩, va_recv hK hP (ci := 7) (q0 := 0) rfl rfl, fun U hU hW => ⟨rfl, by rw [hU]; exact hPc, va_K.moved hW.alike hKc, hE.go hS (fun _ h => h.elim) hU hW⟩⟩ rfl rfl hl.1 rfl (lv_room (Nat.le_of_ble_eq_true rfl)) dL_law_1293 ⟨Nat.le_of_ble_eq_true rfl, Nat.le_of_ble_eq_true rfl⟩)).run (fun r1 h_r1 => ?_)
  have h_r1 : r1 = 0 := h_r1
  subst h_r1
  refine lv_aload_n hx hb dL_law_1296 rfl (lv_at hl 2 rfl) ?_
  refine lv_aload_n hx hb dL_law_1297 rfl (lv_at hl 4 rfl) ?_
  refine lv_iload hx hb dL_law_1298 (lv_at hl 0 rfl) ?_
  refine lv_iconst (v := 1) hx hb dL_law_1300 (by decide) ?_
  refine lv_iadd hx hb dL_law_1301 ?_
  refine cst (v := 1) (by decide) ?_
  refine va_sld hx hb hX hbl hbA hS (vin0 (by decide)) dL_law_1302 ?_
  refine cst (v := 7) ((congrArg xs (show (1 : Int32).toNatClampNeg = 1 by decide)).trans hq1) ?_
  have hPc := hP.sub (ws' := [(m0, .inr (8, [.int 0, .int 0, .int 0, .int 0, .ref (a 4), .int 0, .int 0, .int 0, .int 0, .int 0, .int 0, .long 0, .int 0, .int 0, .int 0, .int 0, .int 0, .int 0, .ref (a 18), .ref (a 19), .ref (a 20), .ref (a 21), .ref (a 22), .ref (a 23), .ref (a 24), .ref (a 25), .ref (a 26), .ref (a 27), .ref (a 28), .ref (a 29), .ref (a 30), .ref (a 31), .ref (a 32), .ref (a 33), .ref (a 34), .ref (a 35), .long 0, .int 0, .ref (a 38), .ref (a 39), .int 0, .ref (a 41), .ref (a 42), .ref (a 43)]))]) [2] rfl
  have hKc := hK.sub (tys' := []) [] rfl
  have hDc := hD.sub (ws' := [(m0, .inr (8, [.int 0, .int 0, .int 0, .int 0, .ref (a 4), .int 0, .int 0, .int 0, .int 0, .int 0, .int 0, .long 0, .int 0, .int 0, .int 0, .int 0, .int 0, .int 0, .ref (a 18), .ref (a 19), .ref (a 20), .ref (a 21), .ref (a 22), .ref (a 23), .ref (a 24), .ref (a 25), .ref (a 26), .ref (a 27), .ref (a 28), .ref (a 29), .ref (a 30), .ref (a 31), .ref (a 32), .ref (a 33), .ref (a 34), .ref (a 35), .long 0, .int 0, .ref (a 38), .ref (a 39), .int 0, .ref (a 41), .ref (a 42), .ref (a 43)]))]) [2] (by decide) rfl
  have hFc := va_free (wc := [(m0, .inr (8, [.int 0, .int 0, .int 0, .int 0, .ref (a 4), .int 0, .int 0, .int 0, .int 0, .int 0, .int 0, .long 0, .int 0, .int 0, .int 0, .int 0, .int 0, .int 0, .ref (a 18), .ref (a 19), .ref (a 20), .ref (a 21), .ref (a 22), .ref (a 23), .ref (a 24), .ref (a 25), .ref (a 26), .ref (a 27), .ref (a 28), .ref (a 29), .ref (a 30), .ref (a 31), .ref (a 32), .ref (a 33), .ref (a 34), .ref (a 35), .long 0, .int 0, .ref (a 38), .ref (a 39), .int 0, .ref (a 41), .ref (a 42), .ref (a 43)]))]) hD hS hA [2] rfl
  refine va_calli (va_runV (As := [.int 7]) (rest := [.int 0]) ⟨hx, hb, hml, hown, hts⟩ (c_9count7 l dC dI g H.size (m0) (a) (ca) ) (cwV 1 hts (gwV qw_610 qw_611 qw_612 qw_23 qw_609) rfl rfl rfl (by decide +kernel) ⟨Nat.le_of_ble_eq_true rfl, Nat.le_of_ble_eq_true rfl⟩) ⟨fun a U g9 mk q => ⟨q.1, q.2.1, q.2.2.1, va_K.moved (u := U) (U := U.calling g9 mk a) (Vm.Alike.refl U.vm) q.2.2.2.1, q.2.2.2.2.1, Ev.bl q.2.2.2.2.2⟩, va_recv hK hP (ci := 8) (q0 := 2) rfl rfl, fun U hU hW => ⟨rfl, by rw [hU], by rw [hU]; exact hPc, va_K.moved hW.alike hKc, hDc.weaken (fun _ _ _ _ => trivial), hE.go hS hFc hU hW⟩⟩ rfl rfl hl.1 rfl (lv_room (Nat.le_of_ble_eq_true rfl)) dL_law_1303 ⟨Nat.le_of_ble_eq_true rfl, Nat.le_of_ble_eq_true rfl⟩) hS (fun q _ h => hFc q h) hFc (fun r3 u2 t H1 locs ht hvm h_u2 hB hz1 hk1 hS => ?_)
  obtain ⟨hP, hD⟩ := va_join (wr := [(x0, .inr (7, [.ref (b 0), .ref (b 1), .ref (b 2), .ref (b 3), .ref (b 4), .ref (b 5), .ref (b 6), .ref (b 7), .ref (b 8), .ref (b 9), .int 1])), ((b 0), .inr (3, [.ref (f4 0), .int 0]))]) (w1 := []) hP hD [2] [0, 1] rfl rfl (by decide) (by decide) hk1 hFc va_P0 va_D0
  generalize H1 = H at hP hS ⊢
  have hP : va_P (dC, dI) vwCl [(x0, .inr (7, [.ref (b 0), .ref (b 1), .ref (b 2), .ref (b 3), .ref (b 4), .ref (b 5), .ref (b 6), .ref (b 7), .ref (b 8), .ref (b 9), .int 1])), ((b 0), .inr (3, [.ref (f4 0), .int 0]))] H := hP
  have hD : va_D A [(x0, .inr (7, [.ref (b 0), .ref (b 1), .ref (b 2), .ref (b 3), .ref (b 4), .ref (b 5), .ref (b 6), .ref (b 7), .ref (b 8), .ref (b 9), .int 1])), ((b 0), .inr (3, [.ref (f4 0), .int 0]))] := hD
  refine W.widen (k := 243) (n := 7586) (Nat.le_of_ble_eq_true rfl) (Nat.le_of_ble_eq_true rfl) ?_
  have h_u2 : r3 = 0 := h_u2
  subst h_u2
  refine lv_icmp_eq (tgt := 1311) hx hb dL_law_1306 (by decide) (fun c1306_4 => ?_) (fun c1306_4 => by exfalso; exact absurd c1306_4 (by decide))
  refine lv_iinc (v := 6) (lv' := [(4, .int 6), (3, .ref o0), (2, .ref m0), (1, .ref x0), (0, .ref b0)]) hx hb dL_law_1311 hl (k := 0) rfl (by decide) (by decide) rfl (fun ls hl => ?_)
  refine lv_goto (tgt := 23) hx hb dL_law_1314 (by decide) ?_
  refine lv_iload hx hb dL_law_23 (lv_at hl 0 rfl) ?_
  refine lv_aload_n hx hb dL_law_25 rfl (lv_at hl 4 rfl) ?_
  refine va_slen hx hb hX hbl hbA hS dL_law_26 ?_
  refine cst (v := 6) (by decide) ?_
  refine lv_bipush (v := 6) hx hb dL_law_27 (by decide) ?_
  refine lv_isub hx hb dL_law_29 ?_
  refine cst (v := 0) (by decide) ?_
  refine lv_icmp_gt (tgt := 1317) hx hb dL_law_30 (by decide) (fun c30_5 => ?_) (fun c30_5 => by exfalso; exact absurd c30_5 (by decide))
  refine lv_iconst (v := 1) hx hb dL_law_1317 (by decide) ?_
  refine va_forget (fun q h => by have h8 := hS.2.2 q h; rw [← hAe] at h8; exact h8) ?_
  refine W.widen (k := 600002) (n := 7302232) (Nat.le_of_ble_eq_true rfl) (Nat.le_of_ble_eq_true rfl) ?_
  exact lw_ret hx hb hr hlocks dL_law_1318
set_option maxHeartbeats 4000000 in
set_option maxRecDepth 100000 in
theorem law_27O {p : Program} {e : Env} {s : State} {m : MethodId} {below : List Frame} {meth : Method} {c : Code} (l : Launch) {b0 : Nat} {xs : Nat → Int32} (C0 : lw_At p s m meth c b0 6 xs) (dC : Nat → ClassId) (dI : Nat → Nat → Nat) (g : Gv) (x0 : Nat) (b : Nat → Nat) (f4 : Nat → Nat) (c4 : ClassId) (f5 : Nat → Nat) (f7 : Nat → Nat) (f6 : Nat → Nat) (f2 : Nat → Nat) (cK : ClassId) (kf : Nat → Option Nat) (cZ : ClassId) (fT : Nat → Nat) (fU : Nat → Nat) (sa : Nat → Nat) (sf : Nat → Nat → Nat) (sc : Nat → Nat → ClassId) (spf : Nat → Nat → Int32) (sdf : Nat → Nat → Int32) (slf : Nat → Nat → Int32) (srf : Nat → Nat → Int32) (sga : Nat → Nat → Option Nat) (sgb : Nat → Nat → Option Nat) (rows : va_W) (m0 : Nat) (a : Nat → Nat) (ca : Nat → ClassId) (o0 : Nat)  (hw : ¬ (0 ≤ (xs 1).toInt ∧ (xs 1).toInt ≤ 7)) {H : Heap} {locs : List Loc} {ls : Array Slot} (hK : va_K (dC, dI) vwCl [] s) (hP : va_P (dC, dI) vwCl [(x0, .inr (7, [.ref (b 0), .ref (b 1), .ref (b 2), .ref (b 3), .ref (b 4), .ref (b 5), .ref (b 6), .ref (b 7), .ref (b 8), .ref (b 9), .int 1])), (m0, .inr (8, [.int 0, .int 0, .int 0, .int 0, .ref (a 4), .int 0, .int 0, .int 0, .int 0, .int 0, .int 0, .long 0, .int 0, .int 0, .int 0, .int 0, .int 0, .int 0, .ref (a 18), .ref (a 19), .ref (a 20), .ref (a 21), .ref (a 22), .ref (a 23), .ref (a 24), .ref (a 25), .ref (a 26), .ref (a 27), .ref (a 28), .ref (a 29), .ref (a 30), .ref (a 31), .ref (a 32), .ref (a 33), .ref (a 34), .ref (a 35), .long 0, .int 0, .ref (a 38), .ref (a 39), .int 0, .ref (a 41), .ref (a 42), .ref (a 43)]))] H) (hD : va_D (fun q : Nat => s.heap.size ≤ q) [(x0, .inr (7, [.ref (b 0), .ref (b 1), .ref (b 2), .ref (b 3), .ref (b 4), .ref (b 5), .ref (b 6), .ref (b 7), .ref (b 8), .ref (b 9), .int 1])), (m0, .inr (8, [.int 0, .int 0, .int 0, .int 0, .ref (a 4), .int 0, .int 0, .int 0, .int 0, .int 0, .int 0, .long 0, .int 0, .int 0, .int 0, .int 0, .int 0, .int 0, .ref (a 18), .ref (a 19), .ref (a 20), .ref (a 21), .ref (a 22), .ref (a 23), .ref (a 24), .ref (a 25), .ref (a 26), .ref (a 27), .ref (a 28), .ref (a 29), .ref (a 30), .ref (a 31), .ref (a 32), .ref (a 33), .ref (a 34), .ref (a 35), .long 0, .int 0, .ref (a 38), .ref (a 39), .int 0, .ref (a 41), .ref (a 42), .ref (a 43)]))]) (hS : va_S (fun q : Nat => s.heap.size ≤ q) s.heap H locs) (hE : Ev g (fun q : Nat => s.heap.size ≤ q) s) (hl : lv_has ls 7 [(4, .int 0), (3, .ref o0), (2, .ref m0), (1, .ref x0), (0, .ref b0)]) : W p l e room_1 s m #[Value.ref b0] below meth c H locs 243 7586 (lw_Z below #[Value.ref b0] s) (F0 m 1286 ls []) := by
  obtain ⟨hx, hb, hr, hml, hown, hts0, hX, hbl, hlocks, hgv⟩ := id C0
  have hts := fun (w : Cond) (h : w ∈ TBL) => hts0 w (TBin w h)
  have hown : s.vm.findClass RL = some m.cls := hown
  have hN := hE.1
  have hA : ∀ q : Nat, s.heap.size ≤ q → (fun q : Nat => s.heap.size ≤ q) q := fun _ h => h
  have hbA : ¬ (fun q : Nat => s.heap.size ≤ q) b0 := Nat.not_le.mpr hbl
  generalize hAe : (fun q : Nat => s.heap.size ≤ q) = A at hD hS hE hA hbA
  refine lv_aload_n hx hb dL_law_1286 rfl (lv_at hl 3 rfl) ?_
  refine lv_aload_n hx hb dL_law_1287 rfl (lv_at hl 4 rfl) ?_
  refine lv_iload hx hb dL_law_1288 (lv_at hl 0 rfl) ?_
  refine lv_iconst (v := 1) hx hb dL_law_1290 (by decide) ?_
  refine lv_iadd hx hb dL_law_1291 ?_
  refine cst (v := 1) (by decide) ?_
  refine va_sld hx hb hX hbl hbA hS (vin0 (by decide)) dL_law_1292 ?_
  refine cst (v := (xs 1)) (congrArg xs (show (1 : Int32).toNatClampNeg = 1 by decide)) ?_
  have hPc := hP.sub (ws' := [(x0, .inr (7, [.ref (b 0), .ref (b 1), .ref (b 2), .ref (b 3), .ref (b 4), .ref (b 5), .ref (b 6), .ref (b 7), .ref (b 8), .ref (b 9), .int 1]))]) [0] rfl
  have hKc := hK.sub (tys' := []) [] rfl
  refine vp_callSi ((va_runV (As := [.int (xs 1)]) (rest := []) ⟨hx, hb, hml, hown, hts⟩ (c_8countO l dC dI g (x0) (b) (f4) (c4) (f5) (f7) (f6) (f2) (cK) (kf) (cZ) (fT) (fU) (sa) (sf) (sc) (spf) (sdf) (slf) (srf) (sga) (sgb) (rows) ((xs 1)) hw) (cwV 1 hts (gwV qw_606 qw_607 qw_608 qw_69 qw_605) rfl rfl rfl (by decide +kernel) ⟨Nat.le_of_ble_eq_true rfl, Nat.le_of_ble_eq_true rfl⟩) ⟨fun a U g9 mk q => ⟨q.1, q.2.1, va_K.moved (u := U) (U := U.calling g9 mk a) (Vm.Alike.refl U.vm) q.2.2.1, Ev.bl q.2.2.2⟩, va_recv hK hP (ci := 7) (q0 := 0) rfl rfl, fun U hU hW => ⟨rfl, by rw [hU]; exact hPc, va_K.moved hW.alike hKc, hE.go hS (fun _ h => h.elim) hU hW⟩⟩ rfl rfl hl.1 rfl (lv_room (Nat.le_of_ble_eq_true rfl)) dL_law_1293 ⟨Nat.le_of_ble_eq_true rfl, Nat.le_of_ble_eq_true rfl⟩)).run (fun r1 h_r1 => ?_)
  have h_r1 : r1 = (-1) := h_r1
  subst h_r1
  refine lv_aload_n hx hb dL_law_1296 rfl (lv_at hl 2 rfl) ?_
  refine lv_aload_n hx hb dL_law_1297 rfl (lv_at hl 4 rfl) ?_
  refine lv_iload hx hb dL_law_1298 (lv_at hl 0 rfl) ?_
  refine lv_iconst (v := 1) hx hb dL_law_1300 (by decide) ?_
  refine lv_iadd hx hb dL_law_1301 ?_
  refine cst (v := 1) (by decide) ?_
  refine va_sld hx hb hX hbl hbA hS (vin0 (by decide)) dL_law_1302 ?_
  refine cst (v := (xs 1)) (congrArg xs (show (1 : Int32).toNatClampNeg = 1 by decide)) ?_
  have hPc := hP.sub (ws' := [(m0, .inr (8, [.int 0, .int 0, .int 0, .int 0, .ref (a 4), .int 0, .int 0, .int 0, .int 0, .int 0, .int 0, .long 0, .int 0, .int 0, .int 0, .int 0, .int 0, .int 0, .ref (a 18), .ref (a 19), .ref (a 20), .ref (a 21), .ref (a 22), .ref (a 23), .ref (a 24), .ref (a 25), .ref (a 26), .ref (a 27), .ref (a 28), .ref (a 29), .ref (a 30), .ref (a 31), .ref (a 32), .ref (a 33), .ref (a 34), .ref (a 35), .long 0, .int 0, .ref (a 38), .ref (a 39), .int 0, .ref (a 41), .ref (a 42), .ref (a 43)]))]) [1] rfl
  have hKc := hK.sub (tys' := []) [] rfl
  have hDc := hD.sub (ws' := [(m0, .inr (8, [.int 0, .int 0, .int 0, .int 0, .ref (a 4), .int 0, .int 0, .int 0, .int 0, .int 0, .int 0, .long 0, .int 0, .int 0, .int 0, .int 0, .int 0, .int 0, .ref (a 18), .ref (a 19), .ref (a 20), .ref (a 21), .ref (a 22), .ref (a 23), .ref (a 24), .ref (a 25), .ref (a 26), .ref (a 27), .ref (a 28), .ref (a 29), .ref (a 30), .ref (a 31), .ref (a 32), .ref (a 33), .ref (a 34), .ref (a 35), .long 0, .int 0, .ref (a 38), .ref (a 39), .int 0, .ref (a 41), .ref (a 42), .ref (a 43)]))]) [1] (by decide) rfl
  have hFc := va_free (wc := [(m0, .inr (8, [.int 0, .int 0, .int 0, .int 0, .ref (a 4), .int 0, .int 0, .int 0, .int 0, .int 0, .int 0, .long 0, .int 0, .int 0, .int 0, .int 0, .int 0, .int 0, .ref (a 18), .ref (a 19), .ref (a 20), .ref (a 21), .ref (a 22), .ref (a 23), .ref (a 24), .ref (a 25), .ref (a 26), .ref (a 27), .ref (a 28), .ref (a 29), .ref (a 30), .ref (a 31), .ref (a 32), .ref (a 33), .ref (a 34), .ref (a 35), .long 0, .int 0, .ref (a 38), .ref (a 39), .int 0, .ref (a 41), .ref (a 42), .ref (a 43)]))]) hD hS hA [1] rfl
  refine va_calli (va_runV (As := [.int (xs 1)]) (rest := [.int (-1)]) ⟨hx, hb, hml, hown, hts⟩ (c_9countO l dC dI g H.size (m0) (a) (ca) ((xs 1)) hw) (cwV 1 hts (gwV qw_610 qw_611 qw_612 qw_23 qw_609) rfl rfl rfl (by decide +kernel) ⟨Nat.le_of_ble_eq_true rfl, Nat.le_of_ble_eq_true rfl⟩) ⟨fun a U g9 mk q => ⟨q.1, q.2.1, q.2.2.1, va_K.moved (u := U) (U := U.calling g9 mk a) (Vm.Alike.refl U.vm) q.2.2.2.1, q.2.2.2.2.1, Ev.bl q.2.2.2.2.2⟩, va_recv hK hP (ci := 8) (q0 := 1) rfl rfl, fun U hU hW => ⟨rfl, by rw [hU], by rw [hU]; exact hPc, va_K.moved hW.alike hKc, hDc.weaken (fun _ _ _ _ => trivial), hE.go hS hFc hU hW⟩⟩ rfl rfl hl.1 rfl (lv_room (Nat.le_of_ble_eq_true rfl)) dL_law_1303 ⟨Nat.le_of_ble_eq_true rfl, Nat.le_of_ble_eq_true rfl⟩) hS (fun q _ h => hFc q h) hFc (fun r3 u2 t H1 locs ht hvm h_u2 hB hz1 hk1 hS => ?_)
  obtain ⟨hP, hD⟩ := va_join (wr := [(x0, .inr (7, [.ref (b 0), .ref (b 1), .ref (b 2), .ref (b 3), .ref (b 4), .ref (b 5), .ref (b 6), .ref (b 7), .ref (b 8), .ref (b 9), .int 1]))]) (w1 := []) hP hD [1] [0] rfl rfl (by decide) (by decide) hk1 hFc va_P0 va_D0
  generalize H1 = H at hP hS ⊢
  have hP : va_P (dC, dI) vwCl [(x0, .inr (7, [.ref (b 0), .ref (b 1), .ref (b 2), .ref (b 3), .ref (b 4), .ref (b 5), .ref (b 6), .ref (b 7), .ref (b 8), .ref (b 9), .int 1]))] H := hP
  have hD : va_D A [(x0, .inr (7, [.ref (b 0), .ref (b 1), .ref (b 2), .ref (b 3), .ref (b 4), .ref (b 5), .ref (b 6), .ref (b 7), .ref (b 8), .ref (b 9), .int 1]))] := hD
  refine W.widen (k := 243) (n := 7586) (Nat.le_of_ble_eq_true rfl) (Nat.le_of_ble_eq_true rfl) ?_
  have h_u2 : r3 = (-1) := h_u2
  subst h_u2
  refine lv_icmp_eq (tgt := 1311) hx hb dL_law_1306 (by decide) (fun c1306_4 => ?_) (fun c1306_4 => by exfalso; exact absurd c1306_4 (by decide))
  refine lv_iinc (v := 6) (lv' := [(4, .int 6), (3, .ref o0), (2, .ref m0), (1, .ref x0), (0, .ref b0)]) hx hb dL_law_1311 hl (k := 0) rfl (by decide) (by decide) rfl (fun ls hl => ?_)
  refine lv_goto (tgt := 23) hx hb dL_law_1314 (by decide) ?_
  refine lv_iload hx hb dL_law_23 (lv_at hl 0 rfl) ?_
  refine lv_aload_n hx hb dL_law_25 rfl (lv_at hl 4 rfl) ?_
  refine va_slen hx hb hX hbl hbA hS dL_law_26 ?_
  refine cst (v := 6) (by decide) ?_
  refine lv_bipush (v := 6) hx hb dL_law_27 (by decide) ?_
  refine lv_isub hx hb dL_law_29 ?_
  refine cst (v := 0) (by decide) ?_
  refine lv_icmp_gt (tgt := 1317) hx hb dL_law_30 (by decide) (fun c30_5 => ?_) (fun c30_5 => by exfalso; exact absurd c30_5 (by decide))
  refine lv_iconst (v := 1) hx hb dL_law_1317 (by decide) ?_
  refine va_forget (fun q h => by have h8 := hS.2.2 q h; rw [← hAe] at h8; exact h8) ?_
  refine W.widen (k := 600002) (n := 7302232) (Nat.le_of_ble_eq_true rfl) (Nat.le_of_ble_eq_true rfl) ?_
  exact lw_ret hx hb hr hlocks dL_law_1318
