/-! ===== by program (wip/whole/lawcase.py): the law's cases ===== -/
section
variable {qX : ZQ} {aM : Nat → Nat} {o : Nat} {cL : ClassId} {b L : Nat} {xs : Nat → Int32} {p : Program} {e : Env} {s : State} {m : MethodId} {below : List Frame} {meth : Method} {c : Code} {H : Heap} {locs : List Loc} {ce sl : Nat} {Q : State → Prop}
variable {M N : Mem} {v : Int64} {ls : Array Slot}
set_option maxRecDepth 100000 in
set_option maxHeartbeats 4000000 in
theorem lc_lost (C : lwC qX aM o cL b L xs p s m meth c) {i : Nat} {n : Int} (hi : i + 3 < L) (hn : n + 1 < 2 ^ 31) (h : zRI n 0 M N) (hX : lwX qX o cL M v H) (hM : lwM qX aM N H) (hS : va_S (lA0 s) s.heap H locs) (hl : lv_has ls 7 (lwL qX aM o b i)) (hc : ce + 1 ≤ room_1.cells ∧ sl + 6 ≤ room_1.slots) (K : lwK qX aM o cL b p e s m below meth c Q i (ce + 1) (sl + 6) (n + 1)) : W p qX.1 e room_1 s m #[Value.ref b] below meth c H locs ce sl Q (F0 m 1118 ls []) := by
  obtain ⟨hz, hq⟩ := r_lost h
  have hkx := k_X4_lost qX M
  have hkm := k_X5_lost (lqM qX aM) N (zRI_Pl h)
  revert hz hq hkx hkm
  generalize f_X4_lost M = r4
  generalize f_X5_lost N = r5
  intro hz hq hkx hkm
  refine W.widen (k := ce + 1) (n := sl + 6) (by omega) (by omega) ?_
  refine lv_aload_n C.1.1 C.1.2.1 dL_law_1118 rfl (lv_at hl 1 rfl) ?_
  refine lw_callX (As := []) C hX hM hS dL_law_1119 hkx (zm1 211 (by decide +kernel) rfl) (zm1 212 (by decide +kernel) rfl) (zm1 213 (by decide +kernel) rfl) zi_X4_lost rfl ⟨Nat.le_of_ble_eq_true rfl, Nat.le_of_ble_eq_true rfl⟩ hl.1 rfl (Nat.le_of_ble_eq_true rfl) hc (fun H1 locs1 hX hM hS => ?_)
  refine lv_aload_n C.1.1 C.1.2.1 dL_law_1122 rfl (lv_at hl 2 rfl) ?_
  refine lw_callM (As := []) C hX hM hS dL_law_1123 hkm (zm4 225 (by decide +kernel) rfl) (zm4 226 (by decide +kernel) rfl) (zm4 227 (by decide +kernel) rfl) zi_X5_lost rfl ⟨Nat.le_of_ble_eq_true rfl, Nat.le_of_ble_eq_true rfl⟩ hl.1 rfl (Nat.le_of_ble_eq_true rfl) hc (fun H1 locs1 hX hM hS => ?_)
  exact lv_icmp_eq (tgt := 1540) C.1.1 C.1.2.1 dL_law_1126 (by decide) (fun _ => K _ _ _ _ _ _ (zRI_mono hz (by omega)) hX hM hS hl) (fun q => absurd hq q)
set_option maxRecDepth 100000 in
set_option maxHeartbeats 4000000 in
theorem lc_places (C : lwC qX aM o cL b L xs p s m meth c) {i : Nat} {n : Int} (hi : i + 3 < L) (hn : n + 1 < 2 ^ 31) (h : zRI n 0 M N) (hX : lwX qX o cL M v H) (hM : lwM qX aM N H) (hS : va_S (lA0 s) s.heap H locs) (hl : lv_has ls 7 (lwL qX aM o b i)) (hc : ce + 1 ≤ room_1.cells ∧ sl + 6 ≤ room_1.slots) (K : lwK qX aM o cL b p e s m below meth c Q i (ce + 1) (sl + 6) (n + 1)) : W p qX.1 e room_1 s m #[Value.ref b] below meth c H locs ce sl Q (F0 m 1131 ls []) := by
  obtain ⟨hz, hq⟩ := r_places (a := (xs (i + 1))) (b := (xs (i + 2))) h
  have hw := w_places qX C.2.2.2.2.2.2.1 o cL (xs (i + 1)) (xs (i + 2)) M v
  have hkm := k_X5_places (lqM qX aM) (xs (i + 1)) (xs (i + 2)) N
  obtain ⟨q1, q2⟩ := qA_I cE_ne hq
  clear hq
  revert hz hw hkm q1 q2
  generalize f_X4_places (xs (i + 1)) (xs (i + 2)) M = r4
  generalize f_X5_places (xs (i + 1)) (xs (i + 2)) N = r5
  intro hz hw hkm q1 q2
  refine lv_aload_n C.1.1 C.1.2.1 dL_law_1131 rfl (lv_at hl 1 rfl) ?_
  refine lw_arg (k0 := 0) (k4 := 4) (jn := 1) C hS hl rfl rfl ⟨dL_law_1132, dL_law_1133, dL_law_1135, dL_law_1136, dL_law_1137⟩ (by decide +kernel) (by omega) ?_
  refine lw_arg (k0 := 0) (k4 := 4) (jn := 2) C hS hl rfl rfl ⟨dL_law_1138, dL_law_1139, dL_law_1141, dL_law_1142, dL_law_1143⟩ (by decide +kernel) (by omega) ?_
  refine lv_aload_n C.1.1 C.1.2.1 dL_law_1144 rfl (lv_at hl 3 rfl) ?_
  refine lw_callW C hX hM hS dL_law_1145 hw zi_L_places (zm3 156 (by decide +kernel) rfl) (zm3 157 (by decide +kernel) rfl) ⟨Nat.le_of_ble_eq_true rfl, Nat.le_of_ble_eq_true rfl⟩ rfl hl.1 rfl (Nat.le_of_ble_eq_true rfl) hc (fun H1 locs1 hX hM hS => ?_)
  refine lv_istore (lv' := (5, .int _) :: lwL qX aM o b i) C.1.1 C.1.2.1 dL_law_1148 hl (by decide) rfl (fun ls hl => ?_)
  refine lv_aload_n C.1.1 C.1.2.1 dL_law_1150 rfl (lv_at hl 3 rfl) ?_
  refine lw_arg (k0 := 1) (k4 := 5) (jn := 1) C hS hl rfl rfl ⟨dL_law_1151, dL_law_1152, dL_law_1154, dL_law_1155, dL_law_1156⟩ (by decide +kernel) (by omega) ?_
  refine lw_arg (k0 := 1) (k4 := 5) (jn := 2) C hS hl rfl rfl ⟨dL_law_1157, dL_law_1158, dL_law_1160, dL_law_1161, dL_law_1162⟩ (by decide +kernel) (by omega) ?_
  refine lw_callM (As := [.inl (xs (i + 1)), .inl (xs (i + 2))]) C hX hM hS dL_law_1163 hkm (zm4 229 (by decide +kernel) rfl) (zm4 230 (by decide +kernel) rfl) (zm4 231 (by decide +kernel) rfl) zi_X5_places rfl ⟨Nat.le_of_ble_eq_true rfl, Nat.le_of_ble_eq_true rfl⟩ hl.1 rfl (Nat.le_of_ble_eq_true rfl) ⟨by omega, by omega⟩ (fun H1 locs1 hX hM hS => ?_)
  refine lv_istore (lv' := (6, .int _) :: (5, .int _) :: lwL qX aM o b i) C.1.1 C.1.2.1 dL_law_1166 hl (by decide) rfl (fun ls hl => ?_)
  refine lw_thrown (k2 := 4) (k5 := 1) C hX hM hS hl rfl rfl ⟨dL_law_1168, dL_law_1169, dL_law_1172, dL_law_1174⟩ (zm4 36 (by decide +kernel) rfl) (zm4 37 (by decide +kernel) rfl) (zm4 38 (by decide +kernel) rfl) q1 ⟨by omega, by omega⟩ (fun H1 locs1 hX hM hS => ?_)
  exact lw_tailI (k3 := 5) (k5 := 1) (k6 := 0) C hX hl rfl rfl rfl ⟨dL_law_1179, dL_law_1181, dL_law_1184, dL_law_1185, dL_law_1186, dL_law_1187, dL_law_1189, dL_law_1190, dL_law_1191, dL_law_1196⟩ (by decide) (fun z => q2 z v) (K _ _ _ _ _ _ (zRI_mono hz (by omega)) hX hM hS (lv_sub hl [2, 3, 4, 5, 6] rfl))
set_option maxRecDepth 100000 in
set_option maxHeartbeats 4000000 in
theorem lc_place (C : lwC qX aM o cL b L xs p s m meth c) {i : Nat} {n : Int} (hi : i + 3 < L) (hn : n + 1 < 2 ^ 31) (h : zRI n 0 M N) (hX : lwX qX o cL M v H) (hM : lwM qX aM N H) (hS : va_S (lA0 s) s.heap H locs) (hl : lv_has ls 7 (lwL qX aM o b i)) (hc : ce + 1 ≤ room_1.cells ∧ sl + 6 ≤ room_1.slots) (K : lwK qX aM o cL b p e s m below meth c Q i (ce + 1) (sl + 6) (n + 1)) : W p qX.1 e room_1 s m #[Value.ref b] below meth c H locs ce sl Q (F0 m 1199 ls []) := by
  obtain ⟨hz, hq⟩ := r_place (a := (xs (i + 1))) (b := (xs (i + 2))) (s := (xs (i + 3))) h
  have hw := w_place qX C.2.2.2.2.2.2.1 o cL (xs (i + 1)) (xs (i + 2)) (xs (i + 3)) M v
  have hkm := k_X5_place (lqM qX aM) (xs (i + 1)) (xs (i + 2)) (xs (i + 3)) N
  obtain ⟨q1, q2⟩ := qA_I cE_ne hq
  clear hq
  revert hz hw hkm q1 q2
  generalize f_X4_place (xs (i + 1)) (xs (i + 2)) (xs (i + 3)) M = r4
  generalize f_X5_place (xs (i + 1)) (xs (i + 2)) (xs (i + 3)) N = r5
  intro hz hw hkm q1 q2
  refine lv_aload_n C.1.1 C.1.2.1 dL_law_1199 rfl (lv_at hl 1 rfl) ?_
  refine lw_arg (k0 := 0) (k4 := 4) (jn := 1) C hS hl rfl rfl ⟨dL_law_1200, dL_law_1201, dL_law_1203, dL_law_1204, dL_law_1205⟩ (by decide +kernel) (by omega) ?_
  refine lw_arg (k0 := 0) (k4 := 4) (jn := 2) C hS hl rfl rfl ⟨dL_law_1206, dL_law_1207, dL_law_1209, dL_law_1210, dL_law_1211⟩ (by decide +kernel) (by omega) ?_
  refine lw_arg (k0 := 0) (k4 := 4) (jn := 3) C hS hl rfl rfl ⟨dL_law_1212, dL_law_1213, dL_law_1215, dL_law_1216, dL_law_1217⟩ (by decide +kernel) (by omega) ?_
  refine lv_aload_n C.1.1 C.1.2.1 dL_law_1218 rfl (lv_at hl 3 rfl) ?_
  refine lw_callW C hX hM hS dL_law_1219 hw zi_L_place (zm3 168 (by decide +kernel) rfl) (zm3 169 (by decide +kernel) rfl) ⟨Nat.le_of_ble_eq_true rfl, Nat.le_of_ble_eq_true rfl⟩ rfl hl.1 rfl (Nat.le_of_ble_eq_true rfl) hc (fun H1 locs1 hX hM hS => ?_)
  refine lv_istore (lv' := (5, .int _) :: lwL qX aM o b i) C.1.1 C.1.2.1 dL_law_1222 hl (by decide) rfl (fun ls hl => ?_)
  refine lv_aload_n C.1.1 C.1.2.1 dL_law_1224 rfl (lv_at hl 3 rfl) ?_
  refine lw_arg (k0 := 1) (k4 := 5) (jn := 1) C hS hl rfl rfl ⟨dL_law_1225, dL_law_1226, dL_law_1228, dL_law_1229, dL_law_1230⟩ (by decide +kernel) (by omega) ?_
  refine lw_arg (k0 := 1) (k4 := 5) (jn := 2) C hS hl rfl rfl ⟨dL_law_1231, dL_law_1232, dL_law_1234, dL_law_1235, dL_law_1236⟩ (by decide +kernel) (by omega) ?_
  refine lw_arg (k0 := 1) (k4 := 5) (jn := 3) C hS hl rfl rfl ⟨dL_law_1237, dL_law_1238, dL_law_1240, dL_law_1241, dL_law_1242⟩ (by decide +kernel) (by omega) ?_
  refine lw_callM (As := [.inl (xs (i + 1)), .inl (xs (i + 2)), .inl (xs (i + 3))]) C hX hM hS dL_law_1243 hkm (zm4 233 (by decide +kernel) rfl) (zm4 234 (by decide +kernel) rfl) (zm4 235 (by decide +kernel) rfl) zi_X5_place rfl ⟨Nat.le_of_ble_eq_true rfl, Nat.le_of_ble_eq_true rfl⟩ hl.1 rfl (Nat.le_of_ble_eq_true rfl) ⟨by omega, by omega⟩ (fun H1 locs1 hX hM hS => ?_)
  refine lv_istore (lv' := (6, .int _) :: (5, .int _) :: lwL qX aM o b i) C.1.1 C.1.2.1 dL_law_1246 hl (by decide) rfl (fun ls hl => ?_)
  refine lw_thrown (k2 := 4) (k5 := 1) C hX hM hS hl rfl rfl ⟨dL_law_1248, dL_law_1249, dL_law_1252, dL_law_1254⟩ (zm4 36 (by decide +kernel) rfl) (zm4 37 (by decide +kernel) rfl) (zm4 38 (by decide +kernel) rfl) q1 ⟨by omega, by omega⟩ (fun H1 locs1 hX hM hS => ?_)
  exact lw_tailI (k3 := 5) (k5 := 1) (k6 := 0) C hX hl rfl rfl rfl ⟨dL_law_1259, dL_law_1261, dL_law_1264, dL_law_1265, dL_law_1266, dL_law_1267, dL_law_1269, dL_law_1270, dL_law_1271, dL_law_1276⟩ (by decide) (fun z => q2 z v) (K _ _ _ _ _ _ (zRI_mono hz (by omega)) hX hM hS (lv_sub hl [2, 3, 4, 5, 6] rfl))
set_option maxRecDepth 100000 in
set_option maxHeartbeats 4000000 in
theorem lc_nodePlace (C : lwC qX aM o cL b L xs p s m meth c) {i : Nat} {n : Int} (hi : i + 3 < L) (hn : n + 1 < 2 ^ 31) (h : zRI n 0 M N) (hX : lwX qX o cL M v H) (hM : lwM qX aM N H) (hS : va_S (lA0 s) s.heap H locs) (hl : lv_has ls 7 (lwL qX aM o b i)) (hc : ce + 1 ≤ room_1.cells ∧ sl + 6 ≤ room_1.slots) (K : lwK qX aM o cL b p e s m below meth c Q i (ce + 1) (sl + 6) (n + 1)) : W p qX.1 e room_1 s m #[Value.ref b] below meth c H locs ce sl Q (F0 m 1279 ls []) := by
  obtain ⟨hz, hq⟩ := r_nodePlace (a := (xs (i + 1))) (s := (xs (i + 2))) h
  have hw := w_nodePlace qX C.2.2.2.2.2.2.1 o cL (xs (i + 1)) (xs (i + 2)) M v
  have hkm := k_X5_nodePlace (lqM qX aM) (xs (i + 1)) (xs (i + 2)) N
  obtain ⟨q1, q2⟩ := qA_I cE_ne hq
  clear hq
  revert hz hw hkm q1 q2
  generalize f_X4_nodePlace (xs (i + 1)) (xs (i + 2)) M = r4
  generalize f_X5_nodePlace (xs (i + 1)) (xs (i + 2)) N = r5
  intro hz hw hkm q1 q2
  refine lv_aload_n C.1.1 C.1.2.1 dL_law_1279 rfl (lv_at hl 1 rfl) ?_
  refine lw_arg (k0 := 0) (k4 := 4) (jn := 1) C hS hl rfl rfl ⟨dL_law_1280, dL_law_1281, dL_law_1283, dL_law_1284, dL_law_1285⟩ (by decide +kernel) (by omega) ?_
  refine lw_arg (k0 := 0) (k4 := 4) (jn := 2) C hS hl rfl rfl ⟨dL_law_1286, dL_law_1287, dL_law_1289, dL_law_1290, dL_law_1291⟩ (by decide +kernel) (by omega) ?_
  refine lv_aload_n C.1.1 C.1.2.1 dL_law_1292 rfl (lv_at hl 3 rfl) ?_
  refine lw_callW C hX hM hS dL_law_1293 hw zi_L_nodePlace (zm3 180 (by decide +kernel) rfl) (zm3 181 (by decide +kernel) rfl) ⟨Nat.le_of_ble_eq_true rfl, Nat.le_of_ble_eq_true rfl⟩ rfl hl.1 rfl (Nat.le_of_ble_eq_true rfl) hc (fun H1 locs1 hX hM hS => ?_)
  refine lv_istore (lv' := (5, .int _) :: lwL qX aM o b i) C.1.1 C.1.2.1 dL_law_1296 hl (by decide) rfl (fun ls hl => ?_)
  refine lv_aload_n C.1.1 C.1.2.1 dL_law_1298 rfl (lv_at hl 3 rfl) ?_
  refine lw_arg (k0 := 1) (k4 := 5) (jn := 1) C hS hl rfl rfl ⟨dL_law_1299, dL_law_1300, dL_law_1302, dL_law_1303, dL_law_1304⟩ (by decide +kernel) (by omega) ?_
  refine lw_arg (k0 := 1) (k4 := 5) (jn := 2) C hS hl rfl rfl ⟨dL_law_1305, dL_law_1306, dL_law_1308, dL_law_1309, dL_law_1310⟩ (by decide +kernel) (by omega) ?_
  refine lw_callM (As := [.inl (xs (i + 1)), .inl (xs (i + 2))]) C hX hM hS dL_law_1311 hkm (zm5 1 (by decide +kernel) rfl) (zm5 2 (by decide +kernel) rfl) (zm5 3 (by decide +kernel) rfl) zi_X5_nodePlace rfl ⟨Nat.le_of_ble_eq_true rfl, Nat.le_of_ble_eq_true rfl⟩ hl.1 rfl (Nat.le_of_ble_eq_true rfl) ⟨by omega, by omega⟩ (fun H1 locs1 hX hM hS => ?_)
  refine lv_istore (lv' := (6, .int _) :: (5, .int _) :: lwL qX aM o b i) C.1.1 C.1.2.1 dL_law_1314 hl (by decide) rfl (fun ls hl => ?_)
  refine lw_thrown (k2 := 4) (k5 := 1) C hX hM hS hl rfl rfl ⟨dL_law_1316, dL_law_1317, dL_law_1320, dL_law_1322⟩ (zm4 36 (by decide +kernel) rfl) (zm4 37 (by decide +kernel) rfl) (zm4 38 (by decide +kernel) rfl) q1 ⟨by omega, by omega⟩ (fun H1 locs1 hX hM hS => ?_)
  exact lw_tailI (k3 := 5) (k5 := 1) (k6 := 0) C hX hl rfl rfl rfl ⟨dL_law_1327, dL_law_1329, dL_law_1332, dL_law_1333, dL_law_1334, dL_law_1335, dL_law_1337, dL_law_1338, dL_law_1339, dL_law_1344⟩ (by decide) (fun z => q2 z v) (K _ _ _ _ _ _ (zRI_mono hz (by omega)) hX hM hS (lv_sub hl [2, 3, 4, 5, 6] rfl))
set_option maxRecDepth 100000 in
set_option maxHeartbeats 4000000 in
theorem lc_rootPlace (C : lwC qX aM o cL b L xs p s m meth c) {i : Nat} {n : Int} (hi : i + 3 < L) (hn : n + 1 < 2 ^ 31) (h : zRI n 0 M N) (hX : lwX qX o cL M v H) (hM : lwM qX aM N H) (hS : va_S (lA0 s) s.heap H locs) (hl : lv_has ls 7 (lwL qX aM o b i)) (hc : ce + 1 ≤ room_1.cells ∧ sl + 6 ≤ room_1.slots) (K : lwK qX aM o cL b p e s m below meth c Q i (ce + 1) (sl + 6) (n + 1)) : W p qX.1 e room_1 s m #[Value.ref b] below meth c H locs ce sl Q (F0 m 1347 ls []) := by
  obtain ⟨hz, hq⟩ := r_rootPlace (s := (xs (i + 1))) h
  have hw := w_rootPlace qX C.2.2.2.2.2.2.1 o cL (xs (i + 1)) M v
  have hkm := k_X5_rootPlace (lqM qX aM) (xs (i + 1)) N
  obtain ⟨q1, q2⟩ := qA_I c1E_ne hq
  clear hq
  revert hz hw hkm q1 q2
  generalize f_X4_rootPlace (xs (i + 1)) M = r4
  generalize f_X5_rootPlace (xs (i + 1)) N = r5
  intro hz hw hkm q1 q2
  refine lv_aload_n C.1.1 C.1.2.1 dL_law_1347 rfl (lv_at hl 1 rfl) ?_
  refine lw_arg (k0 := 0) (k4 := 4) (jn := 1) C hS hl rfl rfl ⟨dL_law_1348, dL_law_1349, dL_law_1351, dL_law_1352, dL_law_1353⟩ (by decide +kernel) (by omega) ?_
  refine lv_aload_n C.1.1 C.1.2.1 dL_law_1354 rfl (lv_at hl 3 rfl) ?_
  refine lw_callW C hX hM hS dL_law_1355 hw zi_L_rootPlace (zm3 188 (by decide +kernel) rfl) (zm3 189 (by decide +kernel) rfl) ⟨Nat.le_of_ble_eq_true rfl, Nat.le_of_ble_eq_true rfl⟩ rfl hl.1 rfl (Nat.le_of_ble_eq_true rfl) hc (fun H1 locs1 hX hM hS => ?_)
  refine lv_istore (lv' := (5, .int _) :: lwL qX aM o b i) C.1.1 C.1.2.1 dL_law_1358 hl (by decide) rfl (fun ls hl => ?_)
  refine lv_aload_n C.1.1 C.1.2.1 dL_law_1360 rfl (lv_at hl 3 rfl) ?_
  refine lw_arg (k0 := 1) (k4 := 5) (jn := 1) C hS hl rfl rfl ⟨dL_law_1361, dL_law_1362, dL_law_1364, dL_law_1365, dL_law_1366⟩ (by decide +kernel) (by omega) ?_
  refine lw_callM (As := [.inl (xs (i + 1))]) C hX hM hS dL_law_1367 hkm (zm5 5 (by decide +kernel) rfl) (zm5 6 (by decide +kernel) rfl) (zm5 7 (by decide +kernel) rfl) zi_X5_rootPlace rfl ⟨Nat.le_of_ble_eq_true rfl, Nat.le_of_ble_eq_true rfl⟩ hl.1 rfl (Nat.le_of_ble_eq_true rfl) ⟨by omega, by omega⟩ (fun H1 locs1 hX hM hS => ?_)
  refine lv_istore (lv' := (6, .int _) :: (5, .int _) :: lwL qX aM o b i) C.1.1 C.1.2.1 dL_law_1370 hl (by decide) rfl (fun ls hl => ?_)
  refine lw_thrown (k2 := 4) (k5 := 1) C hX hM hS hl rfl rfl ⟨dL_law_1372, dL_law_1373, dL_law_1376, dL_law_1378⟩ (zm4 36 (by decide +kernel) rfl) (zm4 37 (by decide +kernel) rfl) (zm4 38 (by decide +kernel) rfl) q1 ⟨by omega, by omega⟩ (fun H1 locs1 hX hM hS => ?_)
  exact lw_tailI (k3 := 5) (k5 := 1) (k6 := 0) C hX hl rfl rfl rfl ⟨dL_law_1383, dL_law_1385, dL_law_1388, dL_law_1389, dL_law_1390, dL_law_1391, dL_law_1393, dL_law_1394, dL_law_1395, dL_law_1400⟩ (by decide) (fun z => q2 z v) (K _ _ _ _ _ _ (zRI_mono hz (by omega)) hX hM hS (lv_sub hl [2, 3, 4, 5, 6] rfl))
set_option maxRecDepth 100000 in
set_option maxHeartbeats 4000000 in
theorem lc_birth (C : lwC qX aM o cL b L xs p s m meth c) {i : Nat} {n : Int} (hi : i + 3 < L) (hn : n + 1 < 2 ^ 31) (h : zRI n 0 M N) (hX : lwX qX o cL M v H) (hM : lwM qX aM N H) (hS : va_S (lA0 s) s.heap H locs) (hl : lv_has ls 7 (lwL qX aM o b i)) (hc : ce + 1 ≤ room_1.cells ∧ sl + 6 ≤ room_1.slots) (K : lwK qX aM o cL b p e s m below meth c Q i (ce + 1) (sl + 6) (n + 1)) : W p qX.1 e room_1 s m #[Value.ref b] below meth c H locs ce sl Q (F0 m 1403 ls []) := by
  obtain ⟨hz, hq⟩ := r_birth (a := (xs (i + 1))) (b := (xs (i + 2))) h
  have hw := w_birth qX C.2.2.2.2.2.2.1 o cL (xs (i + 1)) (xs (i + 2)) M v
  have hkm := k_X5_birth (lqM qX aM) (xs (i + 1)) (xs (i + 2)) N
  obtain ⟨q1, q2⟩ := qA_I cE_ne hq
  clear hq
  revert hz hw hkm q1 q2
  generalize f_X4_birth (xs (i + 1)) (xs (i + 2)) M = r4
  generalize f_X5_birth (xs (i + 1)) (xs (i + 2)) N = r5
  intro hz hw hkm q1 q2
  refine lv_aload_n C.1.1 C.1.2.1 dL_law_1403 rfl (lv_at hl 1 rfl) ?_
  refine lw_arg (k0 := 0) (k4 := 4) (jn := 1) C hS hl rfl rfl ⟨dL_law_1404, dL_law_1405, dL_law_1407, dL_law_1408, dL_law_1409⟩ (by decide +kernel) (by omega) ?_
  refine lw_arg (k0 := 0) (k4 := 4) (jn := 2) C hS hl rfl rfl ⟨dL_law_1410, dL_law_1411, dL_law_1413, dL_law_1414, dL_law_1415⟩ (by decide +kernel) (by omega) ?_
  refine lv_aload_n C.1.1 C.1.2.1 dL_law_1416 rfl (lv_at hl 3 rfl) ?_
  refine lw_callW C hX hM hS dL_law_1417 hw zi_L_birth (zm3 195 (by decide +kernel) rfl) (zm3 196 (by decide +kernel) rfl) ⟨Nat.le_of_ble_eq_true rfl, Nat.le_of_ble_eq_true rfl⟩ rfl hl.1 rfl (Nat.le_of_ble_eq_true rfl) hc (fun H1 locs1 hX hM hS => ?_)
  refine lv_istore (lv' := (5, .int _) :: lwL qX aM o b i) C.1.1 C.1.2.1 dL_law_1420 hl (by decide) rfl (fun ls hl => ?_)
  refine lv_aload_n C.1.1 C.1.2.1 dL_law_1422 rfl (lv_at hl 3 rfl) ?_
  refine lw_arg (k0 := 1) (k4 := 5) (jn := 1) C hS hl rfl rfl ⟨dL_law_1423, dL_law_1424, dL_law_1426, dL_law_1427, dL_law_1428⟩ (by decide +kernel) (by omega) ?_
  refine lw_arg (k0 := 1) (k4 := 5) (jn := 2) C hS hl rfl rfl ⟨dL_law_1429, dL_law_1430, dL_law_1432, dL_law_1433, dL_law_1434⟩ (by decide +kernel) (by omega) ?_
  refine lw_callM (As := [.inl (xs (i + 1)), .inl (xs (i + 2))]) C hX hM hS dL_law_1435 hkm (zm5 9 (by decide +kernel) rfl) (zm5 10 (by decide +kernel) rfl) (zm5 11 (by decide +kernel) rfl) zi_X5_birth rfl ⟨Nat.le_of_ble_eq_true rfl, Nat.le_of_ble_eq_true rfl⟩ hl.1 rfl (Nat.le_of_ble_eq_true rfl) ⟨by omega, by omega⟩ (fun H1 locs1 hX hM hS => ?_)
  refine lv_istore (lv' := (6, .int _) :: (5, .int _) :: lwL qX aM o b i) C.1.1 C.1.2.1 dL_law_1438 hl (by decide) rfl (fun ls hl => ?_)
  refine lw_thrown (k2 := 4) (k5 := 1) C hX hM hS hl rfl rfl ⟨dL_law_1440, dL_law_1441, dL_law_1444, dL_law_1446⟩ (zm4 36 (by decide +kernel) rfl) (zm4 37 (by decide +kernel) rfl) (zm4 38 (by decide +kernel) rfl) q1 ⟨by omega, by omega⟩ (fun H1 locs1 hX hM hS => ?_)
  exact lw_tailI (k3 := 5) (k5 := 1) (k6 := 0) C hX hl rfl rfl rfl ⟨dL_law_1451, dL_law_1453, dL_law_1456, dL_law_1457, dL_law_1458, dL_law_1459, dL_law_1461, dL_law_1462, dL_law_1463, dL_law_1468⟩ (by decide) (fun z => q2 z v) (K _ _ _ _ _ _ (zRI_mono hz (by omega)) hX hM hS (lv_sub hl [2, 3, 4, 5, 6] rfl))
set_option maxRecDepth 100000 in
set_option maxHeartbeats 4000000 in
theorem lc_checksum (C : lwC qX aM o cL b L xs p s m meth c) {i : Nat} {n : Int} (hi : i + 3 < L) (hn : n + 1 < 2 ^ 31) (h : zRI n 0 M N) (hX : lwX qX o cL M v H) (hM : lwM qX aM N H) (hS : va_S (lA0 s) s.heap H locs) (hl : lv_has ls 7 (lwL qX aM o b i)) (hc : ce + 1 ≤ room_1.cells ∧ sl + 6 ≤ room_1.slots) (K : lwK qX aM o cL b p e s m below meth c Q i (ce + 1) (sl + 6) (n + 1)) : W p qX.1 e room_1 s m #[Value.ref b] below meth c H locs ce sl Q (F0 m 1471 ls []) := by
  obtain ⟨hz, hq⟩ := r_checksum (a := (xs (i + 1))) h
  have hw := w_checksum qX C.2.2.2.2.2.2.1 o cL (xs (i + 1)) M v
  have hkm := k_X5_checksum (lqM qX aM) (xs (i + 1)) N
  obtain ⟨q1, q2⟩ := qA_I cE_ne hq
  clear hq
  revert hz hw hkm q1 q2
  generalize f_X4_checksum (xs (i + 1)) M = r4
  generalize f_X5_checksum (xs (i + 1)) N = r5
  intro hz hw hkm q1 q2
  refine lv_aload_n C.1.1 C.1.2.1 dL_law_1471 rfl (lv_at hl 1 rfl) ?_
  refine lw_arg (k0 := 0) (k4 := 4) (jn := 1) C hS hl rfl rfl ⟨dL_law_1472, dL_law_1473, dL_law_1475, dL_law_1476, dL_law_1477⟩ (by decide +kernel) (by omega) ?_
  refine lv_aload_n C.1.1 C.1.2.1 dL_law_1478 rfl (lv_at hl 3 rfl) ?_
  refine lw_callW C hX hM hS dL_law_1479 hw zi_L_checksum (zm3 202 (by decide +kernel) rfl) (zm3 203 (by decide +kernel) rfl) ⟨Nat.le_of_ble_eq_true rfl, Nat.le_of_ble_eq_true rfl⟩ rfl hl.1 rfl (Nat.le_of_ble_eq_true rfl) hc (fun H1 locs1 hX hM hS => ?_)
  refine lv_istore (lv' := (5, .int _) :: lwL qX aM o b i) C.1.1 C.1.2.1 dL_law_1482 hl (by decide) rfl (fun ls hl => ?_)
  refine lv_aload_n C.1.1 C.1.2.1 dL_law_1484 rfl (lv_at hl 3 rfl) ?_
  refine lw_arg (k0 := 1) (k4 := 5) (jn := 1) C hS hl rfl rfl ⟨dL_law_1485, dL_law_1486, dL_law_1488, dL_law_1489, dL_law_1490⟩ (by decide +kernel) (by omega) ?_
  refine lw_callM (As := [.inl (xs (i + 1))]) C hX hM hS dL_law_1491 hkm (zm5 13 (by decide +kernel) rfl) (zm5 14 (by decide +kernel) rfl) (zm5 15 (by decide +kernel) rfl) zi_X5_checksum rfl ⟨Nat.le_of_ble_eq_true rfl, Nat.le_of_ble_eq_true rfl⟩ hl.1 rfl (Nat.le_of_ble_eq_true rfl) ⟨by omega, by omega⟩ (fun H1 locs1 hX hM hS => ?_)
  refine lv_istore (lv' := (6, .int _) :: (5, .int _) :: lwL qX aM o b i) C.1.1 C.1.2.1 dL_law_1494 hl (by decide) rfl (fun ls hl => ?_)
  refine lw_thrown (k2 := 4) (k5 := 1) C hX hM hS hl rfl rfl ⟨dL_law_1496, dL_law_1497, dL_law_1500, dL_law_1502⟩ (zm4 36 (by decide +kernel) rfl) (zm4 37 (by decide +kernel) rfl) (zm4 38 (by decide +kernel) rfl) q1 ⟨by omega, by omega⟩ (fun H1 locs1 hX hM hS => ?_)
  exact lw_tailI (k3 := 5) (k5 := 1) (k6 := 0) C hX hl rfl rfl rfl ⟨dL_law_1507, dL_law_1509, dL_law_1512, dL_law_1513, dL_law_1514, dL_law_1515, dL_law_1517, dL_law_1518, dL_law_1519, dL_law_1524⟩ (by decide) (fun z => q2 z v) (K _ _ _ _ _ _ (zRI_mono hz (by omega)) hX hM hS (lv_sub hl [2, 3, 4, 5, 6] rfl))
set_option maxRecDepth 100000 in
set_option maxHeartbeats 4000000 in
theorem lc_rootChecksum (C : lwC qX aM o cL b L xs p s m meth c) {i : Nat} {n : Int} (hi : i + 3 < L) (hn : n + 1 < 2 ^ 31) (h : zRI n 0 M N) (hX : lwX qX o cL M v H) (hM : lwM qX aM N H) (hS : va_S (lA0 s) s.heap H locs) (hl : lv_has ls 7 (lwL qX aM o b i)) (hc : ce + 1 ≤ room_1.cells ∧ sl + 6 ≤ room_1.slots) (K : lwK qX aM o cL b p e s m below meth c Q i (ce + 1) (sl + 6) (n + 1)) : W p qX.1 e room_1 s m #[Value.ref b] below meth c H locs ce sl Q (F0 m 1527 ls []) := by
  obtain ⟨hz, hq⟩ := r_rootChecksum h
  have hkx := k_X4_rootChecksum qX M
  have hkm := k_X5_rootChecksum (lqM qX aM) N
  revert hz hq hkx hkm
  generalize f_X4_rootChecksum M = r4
  generalize f_X5_rootChecksum N = r5
  intro hz hq hkx hkm
  refine W.widen (k := ce + 1) (n := sl + 6) (by omega) (by omega) ?_
  refine lv_aload_n C.1.1 C.1.2.1 dL_law_1527 rfl (lv_at hl 1 rfl) ?_
  refine lw_callX (As := []) C hX hM hS dL_law_1528 hkx (zm1 220 (by decide +kernel) rfl) (zm1 221 (by decide +kernel) rfl) (zm1 222 (by decide +kernel) rfl) zi_X4_rootChecksum rfl ⟨Nat.le_of_ble_eq_true rfl, Nat.le_of_ble_eq_true rfl⟩ hl.1 rfl (Nat.le_of_ble_eq_true rfl) hc (fun H1 locs1 hX hM hS => ?_)
  refine lv_aload_n C.1.1 C.1.2.1 dL_law_1531 rfl (lv_at hl 2 rfl) ?_
  refine lw_callM (As := []) C hX hM hS dL_law_1532 hkm (zm5 17 (by decide +kernel) rfl) (zm5 18 (by decide +kernel) rfl) (zm5 19 (by decide +kernel) rfl) zi_X5_rootChecksum rfl ⟨Nat.le_of_ble_eq_true rfl, Nat.le_of_ble_eq_true rfl⟩ hl.1 rfl (Nat.le_of_ble_eq_true rfl) hc (fun H1 locs1 hX hM hS => ?_)
  exact lv_icmp_eq (tgt := 1540) C.1.1 C.1.2.1 dL_law_1535 (by decide) (fun _ => K _ _ _ _ _ _ (zRI_mono hz (by omega)) hX hM hS hl) (fun q => absurd hq q)
end
