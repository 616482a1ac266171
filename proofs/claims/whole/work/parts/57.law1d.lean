theorem w_law_trace {X : Nat × (Nat → Int32)} {M : ng_M} {i : Int32} (h : ng_inv M) (h6 : ng_six X i) (kk : ∀ M2 : ng_M, ng_inv M2 → ng_Go X mi_L_law 61 1407 [some (.ref 1007), some (.ref 0), some (.ref 73), some (.int i)] [] M2 ng_F1) : ng_Go X mi_L_law 61 1117 [some (.ref 1007), some (.ref 0), some (.ref 73), some (.int i)] [] M ng_F1 := by
  obtain ⟨g0, g1, g2, g3, g4, g5⟩ := h6
  refine ng_aload_1 dL_law_1117 ?_
  refine ng_aload_0 dL_law_1118 ?_
  refine ng_iload_3 dL_law_1119 ?_
  refine ng_iconst_1 dL_law_1120 ?_
  refine ng_iadd dL_law_1121 ?_
  refine ng_kld (k := 7) dL_law_1122 rfl (by assumption) ?_
  refine ng_callV_1i (y2 := mi_X8_trace) dL_law_1123 lk_L_130 ms_X8_trace my_X8_trace (by first | exact ⟨_, rfl⟩ | assumption | exact ng_fld_obj (f := 0) (by assumption)) mc_X8 (by first | decide | exact Nat.le_of_ble_eq_true rfl) (pr_trace h) (by decide) (fun v M1 h1 => ?_)
  refine ng_aload_2 dL_law_1126 ?_
  refine ng_aload_0 dL_law_1127 ?_
  refine ng_iload_3 dL_law_1128 ?_
  refine ng_iconst_1 dL_law_1129 ?_
  refine ng_iadd dL_law_1130 ?_
  refine ng_kld (k := 7) dL_law_1131 rfl (by assumption) ?_
  refine ng_callV_1i (y2 := mi_X9_trace) dL_law_1132 lk_L_133 ms_X9_trace my_X9_trace (by first | exact ⟨_, rfl⟩ | assumption | exact ng_fld_obj (f := 0) (by assumption)) mc_X9 (by first | decide | exact Nat.le_of_ble_eq_true rfl) (h1) (by decide) (fun v2 M2 h2 => ?_)
  refine ng_icmp_eq 1407 dL_law_1135 (by decide +kernel) (fun h1135 => ?_) (fun h1135 => ?_)
  · exact kk M2 h2.2
  · exact absurd h2.1.symm h1135
theorem w_law_sheet {X : Nat × (Nat → Int32)} {M : ng_M} {i : Int32} (h : ng_inv M) (h6 : ng_six X i) (kk : ∀ M2 : ng_M, ng_inv M2 → ng_Go X mi_L_law 61 1407 [some (.ref 1007), some (.ref 0), some (.ref 73), some (.int i)] [] M2 ng_F1) : ng_Go X mi_L_law 61 1140 [some (.ref 1007), some (.ref 0), some (.ref 73), some (.int i)] [] M ng_F1 := by
  obtain ⟨g0, g1, g2, g3, g4, g5⟩ := h6
  refine ng_aload_1 dL_law_1140 ?_
  refine ng_aload_0 dL_law_1141 ?_
  refine ng_iload_3 dL_law_1142 ?_
  refine ng_iconst_1 dL_law_1143 ?_
  refine ng_iadd dL_law_1144 ?_
  refine ng_kld (k := 7) dL_law_1145 rfl (by assumption) ?_
  refine ng_aload_0 dL_law_1146 ?_
  refine ng_iload_3 dL_law_1147 ?_
  refine ng_iconst_2 dL_law_1148 ?_
  refine ng_iadd dL_law_1149 ?_
  refine ng_kld (k := 7) dL_law_1150 rfl (by assumption) ?_
  refine ng_aload_0 dL_law_1151 ?_
  refine ng_iload_3 dL_law_1152 ?_
  refine ng_iconst_3 dL_law_1153 ?_
  refine ng_iadd dL_law_1154 ?_
  refine ng_kld (k := 7) dL_law_1155 rfl (by assumption) ?_
  refine ng_callV_3i (y2 := mi_X8_sheet) dL_law_1156 lk_L_134 ms_X8_sheet my_X8_sheet (by first | exact ⟨_, rfl⟩ | assumption | exact ng_fld_obj (f := 0) (by assumption)) mc_X8 (by first | decide | exact Nat.le_of_ble_eq_true rfl) (pr_sheet h) (by decide) (fun v M1 h1 => ?_)
  refine ng_aload_2 dL_law_1159 ?_
  refine ng_aload_0 dL_law_1160 ?_
  refine ng_iload_3 dL_law_1161 ?_
  refine ng_iconst_1 dL_law_1162 ?_
  refine ng_iadd dL_law_1163 ?_
  refine ng_kld (k := 7) dL_law_1164 rfl (by assumption) ?_
  refine ng_aload_0 dL_law_1165 ?_
  refine ng_iload_3 dL_law_1166 ?_
  refine ng_iconst_2 dL_law_1167 ?_
  refine ng_iadd dL_law_1168 ?_
  refine ng_kld (k := 7) dL_law_1169 rfl (by assumption) ?_
  refine ng_aload_0 dL_law_1170 ?_
  refine ng_iload_3 dL_law_1171 ?_
  refine ng_iconst_3 dL_law_1172 ?_
  refine ng_iadd dL_law_1173 ?_
  refine ng_kld (k := 7) dL_law_1174 rfl (by assumption) ?_
  refine ng_callV_3i (y2 := mi_X9_sheet) dL_law_1175 lk_L_137 ms_X9_sheet my_X9_sheet (by first | exact ⟨_, rfl⟩ | assumption | exact ng_fld_obj (f := 0) (by assumption)) mc_X9 (by first | decide | exact Nat.le_of_ble_eq_true rfl) (h1) (by decide) (fun v2 M2 h2 => ?_)
  refine ng_icmp_eq 1407 dL_law_1178 (by decide +kernel) (fun h1178 => ?_) (fun h1178 => ?_)
  · exact kk M2 h2.2
  · exact absurd h2.1.symm h1178
theorem w_law_put {X : Nat × (Nat → Int32)} {M : ng_M} {i : Int32} (h : ng_inv M) (h6 : ng_six X i) (kk : ∀ M2 : ng_M, ng_inv M2 → ng_Go X mi_L_law 61 1407 [some (.ref 1007), some (.ref 0), some (.ref 73), some (.int i)] [] M2 ng_F1) : ng_Go X mi_L_law 61 1183 [some (.ref 1007), some (.ref 0), some (.ref 73), some (.int i)] [] M ng_F1 := by
  obtain ⟨g0, g1, g2, g3, g4, g5⟩ := h6
  refine ng_aload_1 dL_law_1183 ?_
  refine ng_aload_0 dL_law_1184 ?_
  refine ng_iload_3 dL_law_1185 ?_
  refine ng_iconst_1 dL_law_1186 ?_
  refine ng_iadd dL_law_1187 ?_
  refine ng_kld (k := 7) dL_law_1188 rfl (by assumption) ?_
  refine ng_aload_0 dL_law_1189 ?_
  refine ng_iload_3 dL_law_1190 ?_
  refine ng_iconst_2 dL_law_1191 ?_
  refine ng_iadd dL_law_1192 ?_
  refine ng_kld (k := 7) dL_law_1193 rfl (by assumption) ?_
  refine ng_aload_0 dL_law_1194 ?_
  refine ng_iload_3 dL_law_1195 ?_
  refine ng_iconst_3 dL_law_1196 ?_
  refine ng_iadd dL_law_1197 ?_
  refine ng_kld (k := 7) dL_law_1198 rfl (by assumption) ?_
  refine ng_callV_3i (y2 := mi_X8_put) dL_law_1199 lk_L_138 ms_X8_put my_X8_put (by first | exact ⟨_, rfl⟩ | assumption | exact ng_fld_obj (f := 0) (by assumption)) mc_X8 (by first | decide | exact Nat.le_of_ble_eq_true rfl) (pr_put h) (by decide) (fun v M1 h1 => ?_)
  refine ng_aload_2 dL_law_1202 ?_
  refine ng_aload_0 dL_law_1203 ?_
  refine ng_iload_3 dL_law_1204 ?_
  refine ng_iconst_1 dL_law_1205 ?_
  refine ng_iadd dL_law_1206 ?_
  refine ng_kld (k := 7) dL_law_1207 rfl (by assumption) ?_
  refine ng_aload_0 dL_law_1208 ?_
  refine ng_iload_3 dL_law_1209 ?_
  refine ng_iconst_2 dL_law_1210 ?_
  refine ng_iadd dL_law_1211 ?_
  refine ng_kld (k := 7) dL_law_1212 rfl (by assumption) ?_
  refine ng_aload_0 dL_law_1213 ?_
  refine ng_iload_3 dL_law_1214 ?_
  refine ng_iconst_3 dL_law_1215 ?_
  refine ng_iadd dL_law_1216 ?_
  refine ng_kld (k := 7) dL_law_1217 rfl (by assumption) ?_
  refine ng_callV_3i (y2 := mi_X9_put) dL_law_1218 lk_L_141 ms_X9_put my_X9_put (by first | exact ⟨_, rfl⟩ | assumption | exact ng_fld_obj (f := 0) (by assumption)) mc_X9 (by first | decide | exact Nat.le_of_ble_eq_true rfl) (h1) (by decide) (fun v2 M2 h2 => ?_)
  refine ng_icmp_eq 1407 dL_law_1221 (by decide +kernel) (fun h1221 => ?_) (fun h1221 => ?_)
  · exact kk M2 h2.2
  · exact absurd h2.1.symm h1221
theorem w_law_move {X : Nat × (Nat → Int32)} {M : ng_M} {i : Int32} (h : ng_inv M) (h6 : ng_six X i) (kk : ∀ M2 : ng_M, ng_inv M2 → ng_Go X mi_L_law 61 1407 [some (.ref 1007), some (.ref 0), some (.ref 73), some (.int i)] [] M2 ng_F1) : ng_Go X mi_L_law 61 1226 [some (.ref 1007), some (.ref 0), some (.ref 73), some (.int i)] [] M ng_F1 := by
  obtain ⟨g0, g1, g2, g3, g4, g5⟩ := h6
  refine ng_aload_1 dL_law_1226 ?_
  refine ng_aload_0 dL_law_1227 ?_
  refine ng_iload_3 dL_law_1228 ?_
  refine ng_iconst_1 dL_law_1229 ?_
  refine ng_iadd dL_law_1230 ?_
  refine ng_kld (k := 7) dL_law_1231 rfl (by assumption) ?_
  refine ng_aload_0 dL_law_1232 ?_
  refine ng_iload_3 dL_law_1233 ?_
  refine ng_iconst_2 dL_law_1234 ?_
  refine ng_iadd dL_law_1235 ?_
  refine ng_kld (k := 7) dL_law_1236 rfl (by assumption) ?_
  refine ng_aload_0 dL_law_1237 ?_
  refine ng_iload_3 dL_law_1238 ?_
  refine ng_iconst_3 dL_law_1239 ?_
  refine ng_iadd dL_law_1240 ?_
  refine ng_kld (k := 7) dL_law_1241 rfl (by assumption) ?_
  refine ng_aload_0 dL_law_1242 ?_
  refine ng_iload_3 dL_law_1243 ?_
  refine ng_iconst_4 dL_law_1244 ?_
  refine ng_iadd dL_law_1245 ?_
  refine ng_kld (k := 7) dL_law_1246 rfl (by assumption) ?_
  refine ng_aload_0 dL_law_1247 ?_
  refine ng_iload_3 dL_law_1248 ?_
  refine ng_iconst_5 dL_law_1249 ?_
  refine ng_iadd dL_law_1250 ?_
  refine ng_kld (k := 7) dL_law_1251 rfl (by assumption) ?_
  refine ng_callV_5i (y2 := mi_X8_move) dL_law_1252 lk_L_142 ms_X8_move my_X8_move (by first | exact ⟨_, rfl⟩ | assumption | exact ng_fld_obj (f := 0) (by assumption)) mc_X8 (by first | decide | exact Nat.le_of_ble_eq_true rfl) (pr_move h) (by decide) (fun v M1 h1 => ?_)
  refine ng_aload_2 dL_law_1255 ?_
  refine ng_aload_0 dL_law_1256 ?_
  refine ng_iload_3 dL_law_1257 ?_
  refine ng_iconst_1 dL_law_1258 ?_
  refine ng_iadd dL_law_1259 ?_
  refine ng_kld (k := 7) dL_law_1260 rfl (by assumption) ?_
  refine ng_aload_0 dL_law_1261 ?_
  refine ng_iload_3 dL_law_1262 ?_
  refine ng_iconst_2 dL_law_1263 ?_
  refine ng_iadd dL_law_1264 ?_
  refine ng_kld (k := 7) dL_law_1265 rfl (by assumption) ?_
  refine ng_aload_0 dL_law_1266 ?_
  refine ng_iload_3 dL_law_1267 ?_
  refine ng_iconst_3 dL_law_1268 ?_
  refine ng_iadd dL_law_1269 ?_
  refine ng_kld (k := 7) dL_law_1270 rfl (by assumption) ?_
  refine ng_aload_0 dL_law_1271 ?_
  refine ng_iload_3 dL_law_1272 ?_
  refine ng_iconst_4 dL_law_1273 ?_
  refine ng_iadd dL_law_1274 ?_
  refine ng_kld (k := 7) dL_law_1275 rfl (by assumption) ?_
  refine ng_aload_0 dL_law_1276 ?_
  refine ng_iload_3 dL_law_1277 ?_
  refine ng_iconst_5 dL_law_1278 ?_
  refine ng_iadd dL_law_1279 ?_
  refine ng_kld (k := 7) dL_law_1280 rfl (by assumption) ?_
  refine ng_callV_5i (y2 := mi_X9_move) dL_law_1281 lk_L_145 ms_X9_move my_X9_move (by first | exact ⟨_, rfl⟩ | assumption | exact ng_fld_obj (f := 0) (by assumption)) mc_X9 (by first | decide | exact Nat.le_of_ble_eq_true rfl) (h1) (by decide) (fun v2 M2 h2 => ?_)
  refine ng_icmp_eq 1407 dL_law_1284 (by decide +kernel) (fun h1284 => ?_) (fun h1284 => ?_)
  · exact kk M2 h2.2
  · exact absurd h2.1.symm h1284
theorem w_law_image {X : Nat × (Nat → Int32)} {M : ng_M} {i : Int32} (h : ng_inv M) (h6 : ng_six X i) (kk : ∀ M2 : ng_M, ng_inv M2 → ng_Go X mi_L_law 61 1407 [some (.ref 1007), some (.ref 0), some (.ref 73), some (.int i)] [] M2 ng_F1) : ng_Go X mi_L_law 61 1289 [some (.ref 1007), some (.ref 0), some (.ref 73), some (.int i)] [] M ng_F1 := by
  obtain ⟨g0, g1, g2, g3, g4, g5⟩ := h6
  refine ng_aload_1 dL_law_1289 ?_
  refine ng_callV_0i (y2 := mi_X8_image) dL_law_1290 lk_L_146 ms_X8_image my_X8_image (by first | exact ⟨_, rfl⟩ | assumption | exact ng_fld_obj (f := 0) (by assumption)) mc_X8 (by first | decide | exact Nat.le_of_ble_eq_true rfl) (pr_image h) (by decide) (fun v M1 h1 => ?_)
  refine ng_aload_2 dL_law_1293 ?_
  refine ng_callV_0i (y2 := mi_X9_image) dL_law_1294 lk_L_149 ms_X9_image my_X9_image (by first | exact ⟨_, rfl⟩ | assumption | exact ng_fld_obj (f := 0) (by assumption)) mc_X9 (by first | decide | exact Nat.le_of_ble_eq_true rfl) (h1) (by decide) (fun v2 M2 h2 => ?_)
  refine ng_icmp_eq 1407 dL_law_1297 (by decide +kernel) (fun h1297 => ?_) (fun h1297 => ?_)
  · exact kk M2 h2.2
  · exact absurd h2.1.symm h1297
theorem w_law_restore {X : Nat × (Nat → Int32)} {M : ng_M} {i : Int32} (h : ng_inv M) (h6 : ng_six X i) (kk : ∀ M2 : ng_M, ng_inv M2 → ng_Go X mi_L_law 61 1407 [some (.ref 1007), some (.ref 0), some (.ref 73), some (.int i)] [] M2 ng_F1) : ng_Go X mi_L_law 61 1302 [some (.ref 1007), some (.ref 0), some (.ref 73), some (.int i)] [] M ng_F1 := by
  obtain ⟨g0, g1, g2, g3, g4, g5⟩ := h6
  refine ng_aload_1 dL_law_1302 ?_
  refine ng_callV_0i (y2 := mi_X8_restore) dL_law_1303 lk_L_150 ms_X8_restore my_X8_restore (by first | exact ⟨_, rfl⟩ | assumption | exact ng_fld_obj (f := 0) (by assumption)) mc_X8 (by first | decide | exact Nat.le_of_ble_eq_true rfl) (pr_restore h) (by decide) (fun v M1 h1 => ?_)
  refine ng_aload_2 dL_law_1306 ?_
  refine ng_callV_0i (y2 := mi_X9_restore) dL_law_1307 lk_L_153 ms_X9_restore my_X9_restore (by first | exact ⟨_, rfl⟩ | assumption | exact ng_fld_obj (f := 0) (by assumption)) mc_X9 (by first | decide | exact Nat.le_of_ble_eq_true rfl) (h1) (by decide) (fun v2 M2 h2 => ?_)
  refine ng_icmp_eq 1407 dL_law_1310 (by decide +kernel) (fun h1310 => ?_) (fun h1310 => ?_)
  · exact kk M2 h2.2
  · exact absurd h2.1.symm h1310
theorem w_law_tell {X : Nat × (Nat → Int32)} {M : ng_M} {i : Int32} (h : ng_inv M) (h6 : ng_six X i) (kk : ∀ M2 : ng_M, ng_inv M2 → ng_Go X mi_L_law 61 1407 [some (.ref 1007), some (.ref 0), some (.ref 73), some (.int i)] [] M2 ng_F1) : ng_Go X mi_L_law 61 1315 [some (.ref 1007), some (.ref 0), some (.ref 73), some (.int i)] [] M ng_F1 := by
  obtain ⟨g0, g1, g2, g3, g4, g5⟩ := h6
  refine ng_aload_1 dL_law_1315 ?_
  refine ng_aload_0 dL_law_1316 ?_
  refine ng_iload_3 dL_law_1317 ?_
  refine ng_iconst_1 dL_law_1318 ?_
  refine ng_iadd dL_law_1319 ?_
  refine ng_kld (k := 7) dL_law_1320 rfl (by assumption) ?_
  refine ng_callV_1i (y2 := mi_X8_tell) dL_law_1321 lk_L_154 ms_X8_tell my_X8_tell (by first | exact ⟨_, rfl⟩ | assumption | exact ng_fld_obj (f := 0) (by assumption)) mc_X8 (by first | decide | exact Nat.le_of_ble_eq_true rfl) (pr_tell h) (by decide) (fun v M1 h1 => ?_)
  refine ng_aload_2 dL_law_1324 ?_
  refine ng_aload_0 dL_law_1325 ?_
  refine ng_iload_3 dL_law_1326 ?_
  refine ng_iconst_1 dL_law_1327 ?_
  refine ng_iadd dL_law_1328 ?_
  refine ng_kld (k := 7) dL_law_1329 rfl (by assumption) ?_
  refine ng_callV_1i (y2 := mi_X9_tell) dL_law_1330 lk_L_157 ms_X9_tell my_X9_tell (by first | exact ⟨_, rfl⟩ | assumption | exact ng_fld_obj (f := 0) (by assumption)) mc_X9 (by first | decide | exact Nat.le_of_ble_eq_true rfl) (h1) (by decide) (fun v2 M2 h2 => ?_)
  refine ng_icmp_eq 1407 dL_law_1333 (by decide +kernel) (fun h1333 => ?_) (fun h1333 => ?_)
  · exact kk M2 h2.2
  · exact absurd h2.1.symm h1333
theorem w_law_check {X : Nat × (Nat → Int32)} {M : ng_M} {i : Int32} (h : ng_inv M) (h6 : ng_six X i) (kk : ∀ M2 : ng_M, ng_inv M2 → ng_Go X mi_L_law 61 1407 [some (.ref 1007), some (.ref 0), some (.ref 73), some (.int i)] [] M2 ng_F1) : ng_Go X mi_L_law 61 1338 [some (.ref 1007), some (.ref 0), some (.ref 73), some (.int i)] [] M ng_F1 := by
  obtain ⟨g0, g1, g2, g3, g4, g5⟩ := h6
  refine ng_aload_1 dL_law_1338 ?_
  refine ng_aload_0 dL_law_1339 ?_
  refine ng_iload_3 dL_law_1340 ?_
  refine ng_iconst_1 dL_law_1341 ?_
  refine ng_iadd dL_law_1342 ?_
  refine ng_kld (k := 7) dL_law_1343 rfl (by assumption) ?_
  refine ng_callV_1i (y2 := mi_X8_check) dL_law_1344 lk_L_158 ms_X8_check my_X8_check (by first | exact ⟨_, rfl⟩ | assumption | exact ng_fld_obj (f := 0) (by assumption)) mc_X8 (by first | decide | exact Nat.le_of_ble_eq_true rfl) (pr_check h) (by decide) (fun v M1 h1 => ?_)
  refine ng_aload_2 dL_law_1347 ?_
  refine ng_aload_0 dL_law_1348 ?_
  refine ng_iload_3 dL_law_1349 ?_
  refine ng_iconst_1 dL_law_1350 ?_
  refine ng_iadd dL_law_1351 ?_
  refine ng_kld (k := 7) dL_law_1352 rfl (by assumption) ?_
  refine ng_callV_1i (y2 := mi_X9_check) dL_law_1353 lk_L_161 ms_X9_check my_X9_check (by first | exact ⟨_, rfl⟩ | assumption | exact ng_fld_obj (f := 0) (by assumption)) mc_X9 (by first | decide | exact Nat.le_of_ble_eq_true rfl) (h1) (by decide) (fun v2 M2 h2 => ?_)
  refine ng_icmp_eq 1407 dL_law_1356 (by decide +kernel) (fun h1356 => ?_) (fun h1356 => ?_)
  · exact kk M2 h2.2
  · exact absurd h2.1.symm h1356
theorem w_law_count {X : Nat × (Nat → Int32)} {M : ng_M} {i : Int32} (h : ng_inv M) (h6 : ng_six X i) (kk : ∀ M2 : ng_M, ng_inv M2 → ng_Go X mi_L_law 61 1407 [some (.ref 1007), some (.ref 0), some (.ref 73), some (.int i)] [] M2 ng_F1) : ng_Go X mi_L_law 61 1361 [some (.ref 1007), some (.ref 0), some (.ref 73), some (.int i)] [] M ng_F1 := by
  obtain ⟨g0, g1, g2, g3, g4, g5⟩ := h6
  refine ng_aload_1 dL_law_1361 ?_
  refine ng_aload_0 dL_law_1362 ?_
  refine ng_iload_3 dL_law_1363 ?_
  refine ng_iconst_1 dL_law_1364 ?_
  refine ng_iadd dL_law_1365 ?_
  refine ng_kld (k := 7) dL_law_1366 rfl (by assumption) ?_
  refine ng_callV_1i (y2 := mi_X8_count) dL_law_1367 lk_L_162 ms_X8_count my_X8_count (by first | exact ⟨_, rfl⟩ | assumption | exact ng_fld_obj (f := 0) (by assumption)) mc_X8 (by first | decide | exact Nat.le_of_ble_eq_true rfl) (pr_count h) (by decide) (fun v M1 h1 => ?_)
  refine ng_aload_2 dL_law_1370 ?_
  refine ng_aload_0 dL_law_1371 ?_
  refine ng_iload_3 dL_law_1372 ?_
  refine ng_iconst_1 dL_law_1373 ?_
  refine ng_iadd dL_law_1374 ?_
  refine ng_kld (k := 7) dL_law_1375 rfl (by assumption) ?_
  refine ng_callV_1i (y2 := mi_X9_count) dL_law_1376 lk_L_165 ms_X9_count my_X9_count (by first | exact ⟨_, rfl⟩ | assumption | exact ng_fld_obj (f := 0) (by assumption)) mc_X9 (by first | decide | exact Nat.le_of_ble_eq_true rfl) (h1) (by decide) (fun v2 M2 h2 => ?_)
  refine ng_icmp_eq 1407 dL_law_1379 (by decide +kernel) (fun h1379 => ?_) (fun h1379 => ?_)
  · exact kk M2 h2.2
  · exact absurd h2.1.symm h1379
theorem w_law_told {X : Nat × (Nat → Int32)} {M : ng_M} {i : Int32} (h : ng_inv M) (h6 : ng_six X i) (kk : ∀ M2 : ng_M, ng_inv M2 → ng_Go X mi_L_law 61 1407 [some (.ref 1007), some (.ref 0), some (.ref 73), some (.int i)] [] M2 ng_F1) : ng_Go X mi_L_law 61 1384 [some (.ref 1007), some (.ref 0), some (.ref 73), some (.int i)] [] M ng_F1 := by
  obtain ⟨g0, g1, g2, g3, g4, g5⟩ := h6
  refine ng_aload_1 dL_law_1384 ?_
  refine ng_aload_0 dL_law_1385 ?_
  refine ng_iload_3 dL_law_1386 ?_
  refine ng_iconst_1 dL_law_1387 ?_
  refine ng_iadd dL_law_1388 ?_
  refine ng_kld (k := 7) dL_law_1389 rfl (by assumption) ?_
  refine ng_callV_1i (y2 := mi_X8_told) dL_law_1390 lk_L_166 ms_X8_told my_X8_told (by first | exact ⟨_, rfl⟩ | assumption | exact ng_fld_obj (f := 0) (by assumption)) mc_X8 (by first | decide | exact Nat.le_of_ble_eq_true rfl) (pr_told h) (by decide) (fun v M1 h1 => ?_)
  refine ng_aload_2 dL_law_1393 ?_
  refine ng_aload_0 dL_law_1394 ?_
  refine ng_iload_3 dL_law_1395 ?_
  refine ng_iconst_1 dL_law_1396 ?_
  refine ng_iadd dL_law_1397 ?_
  refine ng_kld (k := 7) dL_law_1398 rfl (by assumption) ?_
  refine ng_callV_1i (y2 := mi_X9_told) dL_law_1399 lk_L_169 ms_X9_told my_X9_told (by first | exact ⟨_, rfl⟩ | assumption | exact ng_fld_obj (f := 0) (by assumption)) mc_X9 (by first | decide | exact Nat.le_of_ble_eq_true rfl) (h1) (by decide) (fun v2 M2 h2 => ?_)
  refine ng_icmp_eq 1407 dL_law_1402 (by decide +kernel) (fun h1402 => ?_) (fun h1402 => ?_)
  · exact kk M2 h2.2
  · exact absurd h2.1.symm h1402
