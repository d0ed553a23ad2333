theorem k_RL_197 : KW RL 197 yL_count cL_count 4 (some .int) [(0, 9, 12, 13)] 3 := ⟨(in_g 873 (by decide +kernel) rfl), (in_g 108 (by decide +kernel) rfl), (in_g 871 (by decide +kernel) rfl), (in_g 872 (by decide +kernel) rfl), by decide, by decide, by decide +kernel⟩
theorem k_RL_206 : KW RL 206 yL_setting cL_setting 4 (some .int) [(0, 9, 12, 13)] 3 := ⟨(in_g 975 (by decide +kernel) rfl), (in_g 108 (by decide +kernel) rfl), (in_g 973 (by decide +kernel) rfl), (in_g 974 (by decide +kernel) rfl), by decide, by decide, by decide +kernel⟩
theorem k_RL_209 : KW RL 209 yL_cell cL_cell 5 (some .int) [(0, 10, 13, 22), (0, 10, 17, 13)] 4 := ⟨(in_g 982 (by decide +kernel) rfl), (in_g 108 (by decide +kernel) rfl), (in_g 980 (by decide +kernel) rfl), (in_g 981 (by decide +kernel) rfl), by decide, by decide, by decide +kernel⟩
theorem k_RL_213 : KW RL 213 yL_worn cL_worn 4 (some .int) [(0, 8, 11, 22)] 3 := ⟨(in_g 1026 (by decide +kernel) rfl), (in_g 108 (by decide +kernel) rfl), (in_g 1024 (by decide +kernel) rfl), (in_g 1025 (by decide +kernel) rfl), by decide, by decide, by decide +kernel⟩
theorem k_RL_216 : KW RL 216 yL_capacity cL_capacity 4 (some .int) [(0, 8, 11, 22)] 3 := ⟨(in_g 1033 (by decide +kernel) rfl), (in_g 108 (by decide +kernel) rfl), (in_g 1031 (by decide +kernel) rfl), (in_g 1032 (by decide +kernel) rfl), by decide, by decide, by decide +kernel⟩
theorem k_RL_219 : KW RL 219 yL_layer cL_layer 6 (some .int) [(0, 12, 15, 22), (0, 12, 19, 13)] 5 := ⟨(in_g 1041 (by decide +kernel) rfl), (in_g 108 (by decide +kernel) rfl), (in_g 1039 (by decide +kernel) rfl), (in_g 1040 (by decide +kernel) rfl), by decide, by decide, by decide +kernel⟩
theorem k_RL_223 : KW RL 223 yL_core cL_core 5 (some .int) [(0, 10, 13, 22), (0, 10, 17, 13)] 4 := ⟨(in_g 1050 (by decide +kernel) rfl), (in_g 108 (by decide +kernel) rfl), (in_g 1048 (by decide +kernel) rfl), (in_g 1049 (by decide +kernel) rfl), by decide, by decide, by decide +kernel⟩
theorem k_RL_226 : KW RL 226 yL_load cL_load 5 (some .int) [(0, 10, 13, 22), (0, 10, 17, 13)] 4 := ⟨(in_g 1061 (by decide +kernel) rfl), (in_g 108 (by decide +kernel) rfl), (in_g 1059 (by decide +kernel) rfl), (in_g 1060 (by decide +kernel) rfl), by decide, by decide, by decide +kernel⟩
theorem k_RL_229 : KW RL 229 yL_base cL_base 4 (some .int) [(0, 8, 11, 22)] 3 := ⟨(in_g 1069 (by decide +kernel) rfl), (in_g 108 (by decide +kernel) rfl), (in_g 1067 (by decide +kernel) rfl), (in_g 1068 (by decide +kernel) rfl), by decide, by decide, by decide +kernel⟩
theorem k_RL_232 : KW RL 232 yL_baseOf cL_baseOf 5 (some .int) [(0, 9, 12, 22)] 4 := ⟨(in_g 1089 (by decide +kernel) rfl), (in_g 108 (by decide +kernel) rfl), (in_g 1087 (by decide +kernel) rfl), (in_g 1088 (by decide +kernel) rfl), by decide, by decide, by decide +kernel⟩
theorem k_RL_235 : KW RL 235 yL_heaviest cL_heaviest 4 (some .int) [(0, 9, 12, 22)] 3 := ⟨(in_g 1097 (by decide +kernel) rfl), (in_g 108 (by decide +kernel) rfl), (in_g 1095 (by decide +kernel) rfl), (in_g 1096 (by decide +kernel) rfl), by decide, by decide, by decide +kernel⟩
theorem k_RL_238 : KW RL 238 yL_units cL_units 4 (some .int) [(0, 8, 11, 22)] 3 := ⟨(in_g 1104 (by decide +kernel) rfl), (in_g 108 (by decide +kernel) rfl), (in_g 1102 (by decide +kernel) rfl), (in_g 1103 (by decide +kernel) rfl), by decide, by decide, by decide +kernel⟩
theorem k_RL_241 : KW RL 241 yL_failsBy cL_failsBy 4 (some .int) [(0, 9, 12, 22)] 3 := ⟨(in_g 1112 (by decide +kernel) rfl), (in_g 108 (by decide +kernel) rfl), (in_g 1110 (by decide +kernel) rfl), (in_g 1111 (by decide +kernel) rfl), by decide, by decide, by decide +kernel⟩
theorem k_RL_244 : KW RL 244 yL_yearsLeft cL_yearsLeft 4 (some .int) [(0, 9, 12, 22)] 3 := ⟨(in_g 1120 (by decide +kernel) rfl), (in_g 108 (by decide +kernel) rfl), (in_g 1118 (by decide +kernel) rfl), (in_g 1119 (by decide +kernel) rfl), by decide, by decide, by decide +kernel⟩
theorem k_RL_247 : KW RL 247 yL_nthCell cL_nthCell 4 (some .int) [(0, 9, 12, 22)] 3 := ⟨(in_g 1131 (by decide +kernel) rfl), (in_g 108 (by decide +kernel) rfl), (in_g 1129 (by decide +kernel) rfl), (in_g 1130 (by decide +kernel) rfl), by decide, by decide, by decide +kernel⟩
theorem k_RL_250 : KW RL 250 yL_laneYears cL_laneYears 4 (some .int) [(0, 9, 12, 22)] 3 := ⟨(in_g 1142 (by decide +kernel) rfl), (in_g 108 (by decide +kernel) rfl), (in_g 1140 (by decide +kernel) rfl), (in_g 1141 (by decide +kernel) rfl), by decide, by decide, by decide +kernel⟩
theorem k_RL_253 : KW RL 253 yL_firstFailing cL_firstFailing 4 (some .int) [(0, 9, 12, 22)] 3 := ⟨(in_g 1149 (by decide +kernel) rfl), (in_g 108 (by decide +kernel) rfl), (in_g 1147 (by decide +kernel) rfl), (in_g 1148 (by decide +kernel) rfl), by decide, by decide, by decide +kernel⟩
theorem k_RL_256 : KW RL 256 yL_failing cL_failing 4 (some .int) [(0, 9, 12, 13)] 3 := ⟨(in_g 1157 (by decide +kernel) rfl), (in_g 108 (by decide +kernel) rfl), (in_g 1155 (by decide +kernel) rfl), (in_g 1156 (by decide +kernel) rfl), by decide, by decide, by decide +kernel⟩
theorem k_RL_259 : KW RL 259 yL_rutIn cL_rutIn 5 (some .int) [(0, 10, 13, 22), (0, 10, 17, 13)] 4 := ⟨(in_g 1167 (by decide +kernel) rfl), (in_g 108 (by decide +kernel) rfl), (in_g 1165 (by decide +kernel) rfl), (in_g 1166 (by decide +kernel) rfl), by decide, by decide, by decide +kernel⟩
theorem k_RL_262 : KW RL 262 yL_wornIn cL_wornIn 5 (some .int) [(0, 9, 12, 22), (0, 9, 16, 13)] 4 := ⟨(in_g 1178 (by decide +kernel) rfl), (in_g 108 (by decide +kernel) rfl), (in_g 1176 (by decide +kernel) rfl), (in_g 1177 (by decide +kernel) rfl), by decide, by decide, by decide +kernel⟩
theorem k_RL_265 : KW RL 265 yL_countIn cL_countIn 5 (some .int) [(0, 10, 13, 22), (0, 10, 17, 13)] 4 := ⟨(in_g 1185 (by decide +kernel) rfl), (in_g 108 (by decide +kernel) rfl), (in_g 1183 (by decide +kernel) rfl), (in_g 1184 (by decide +kernel) rfl), by decide, by decide, by decide +kernel⟩
theorem k_RL_268 : KW RL 268 yL_yearsWith cL_yearsWith 5 (some .int) [(0, 10, 13, 22), (0, 10, 17, 13)] 4 := ⟨(in_g 1197 (by decide +kernel) rfl), (in_g 108 (by decide +kernel) rfl), (in_g 1195 (by decide +kernel) rfl), (in_g 1196 (by decide +kernel) rfl), by decide, by decide, by decide +kernel⟩
theorem k_RL_271 : KW RL 271 yL_yearsIfClosed cL_yearsIfClosed 5 (some .int) [(0, 10, 13, 22)] 4 := ⟨(in_g 1204 (by decide +kernel) rfl), (in_g 108 (by decide +kernel) rfl), (in_g 1202 (by decide +kernel) rfl), (in_g 1203 (by decide +kernel) rfl), by decide, by decide, by decide +kernel⟩
theorem k_RL_278 : KW RL 278 yL_weakest cL_weakest 3 (some .int) [(0, 8, 11, 91)] 2 := ⟨(in_g 1211 (by decide +kernel) rfl), (in_g 108 (by decide +kernel) rfl), (in_g 1209 (by decide +kernel) rfl), (in_g 1210 (by decide +kernel) rfl), by decide, by decide, by decide +kernel⟩
theorem k_RL_282 : KW RL 282 yL_discardTells cL_discardTells 4 (some .int) [(0, 9, 12, 22)] 3 := ⟨(in_g 1235 (by decide +kernel) rfl), (in_g 108 (by decide +kernel) rfl), (in_g 1233 (by decide +kernel) rfl), (in_g 1234 (by decide +kernel) rfl), by decide, by decide, by decide +kernel⟩
theorem k_RL_289 : KW RL 289 yL_cost cL_cost 6 (some .int) [(0, 12, 15, 22), (0, 12, 19, 13)] 5 := ⟨(in_g 1244 (by decide +kernel) rfl), (in_g 108 (by decide +kernel) rfl), (in_g 1242 (by decide +kernel) rfl), (in_g 1243 (by decide +kernel) rfl), by decide, by decide, by decide +kernel⟩
theorem k_RL_292 : KW RL 292 yL_whyNot cL_whyNot 6 (some .int) [(0, 12, 15, 22), (0, 12, 19, 13)] 5 := ⟨(in_g 1259 (by decide +kernel) rfl), (in_g 108 (by decide +kernel) rfl), (in_g 1257 (by decide +kernel) rfl), (in_g 1258 (by decide +kernel) rfl), by decide, by decide, by decide +kernel⟩
theorem k_RL_295 : KW RL 295 yL_yearsBehind cL_yearsBehind 6 (some .int) [(0, 12, 15, 22), (0, 12, 19, 13)] 5 := ⟨(in_g 1276 (by decide +kernel) rfl), (in_g 108 (by decide +kernel) rfl), (in_g 1274 (by decide +kernel) rfl), (in_g 1275 (by decide +kernel) rfl), by decide, by decide, by decide +kernel⟩
theorem k_RL_298 : KW RL 298 yL_cheapest cL_cheapest 5 (some .int) [(0, 10, 13, 22), (0, 10, 17, 13)] 4 := ⟨(in_g 1289 (by decide +kernel) rfl), (in_g 108 (by decide +kernel) rfl), (in_g 1287 (by decide +kernel) rfl), (in_g 1288 (by decide +kernel) rfl), by decide, by decide, by decide +kernel⟩
theorem k_RL_301 : KW RL 301 yL_planCost cL_planCost 4 (some .int) [(0, 9, 12, 13)] 3 := ⟨(in_g 1305 (by decide +kernel) rfl), (in_g 108 (by decide +kernel) rfl), (in_g 1303 (by decide +kernel) rfl), (in_g 1304 (by decide +kernel) rfl), by decide, by decide, by decide +kernel⟩
theorem k_RL_304 : KW RL 304 yL_meanRut cL_meanRut 4 (some .int) [(0, 8, 11, 22)] 3 := ⟨(in_g 1312 (by decide +kernel) rfl), (in_g 108 (by decide +kernel) rfl), (in_g 1310 (by decide +kernel) rfl), (in_g 1311 (by decide +kernel) rfl), by decide, by decide, by decide +kernel⟩
theorem k_RL_308 : KW RL 308 yL_wornShare cL_wornShare 4 (some .int) [(0, 9, 12, 22)] 3 := ⟨(in_g 1320 (by decide +kernel) rfl), (in_g 108 (by decide +kernel) rfl), (in_g 1318 (by decide +kernel) rfl), (in_g 1319 (by decide +kernel) rfl), by decide, by decide, by decide +kernel⟩
theorem k_RL_311 : KW RL 311 yL_pass cL_pass 4 (some .int) [(0, 9, 12, 13), (0, 9, 15, 122)] 3 := ⟨(in_g 1328 (by decide +kernel) rfl), (in_g 108 (by decide +kernel) rfl), (in_g 1326 (by decide +kernel) rfl), (in_g 1327 (by decide +kernel) rfl), by decide, by decide, by decide +kernel⟩
theorem k_RL_314 : KW RL 314 yL_drill cL_drill 6 (some .int) [(0, 12, 15, 22), (0, 12, 19, 13), (0, 12, 23, 122)] 5 := ⟨(in_g 1361 (by decide +kernel) rfl), (in_g 108 (by decide +kernel) rfl), (in_g 1359 (by decide +kernel) rfl), (in_g 1360 (by decide +kernel) rfl), by decide, by decide, by decide +kernel⟩
theorem k_RL_317 : KW RL 317 yL_addLayer cL_addLayer 6 (some .int) [(0, 12, 15, 22), (0, 12, 19, 13), (0, 12, 23, 122)] 5 := ⟨(in_g 1375 (by decide +kernel) rfl), (in_g 108 (by decide +kernel) rfl), (in_g 1373 (by decide +kernel) rfl), (in_g 1374 (by decide +kernel) rfl), by decide, by decide, by decide +kernel⟩
theorem k_RL_320 : KW RL 320 yL_discard cL_discard 4 (some .int) [(0, 9, 12, 22)] 3 := ⟨(in_g 1383 (by decide +kernel) rfl), (in_g 108 (by decide +kernel) rfl), (in_g 1381 (by decide +kernel) rfl), (in_g 1382 (by decide +kernel) rfl), by decide, by decide, by decide +kernel⟩
theorem k_RL_323 : KW RL 323 yL_measure cL_measure 5 (some .int) [(0, 10, 13, 22), (0, 10, 17, 13)] 4 := ⟨(in_g 1394 (by decide +kernel) rfl), (in_g 108 (by decide +kernel) rfl), (in_g 1392 (by decide +kernel) rfl), (in_g 1393 (by decide +kernel) rfl), by decide, by decide, by decide +kernel⟩
theorem k_RL_326 : KW RL 326 yL_addLoad cL_addLoad 9 (some .int) [(0, 18, 21, 22), (0, 18, 25, 13), (0, 18, 29, 122)] 8 := ⟨(in_g 1401 (by decide +kernel) rfl), (in_g 108 (by decide +kernel) rfl), (in_g 1399 (by decide +kernel) rfl), (in_g 1400 (by decide +kernel) rfl), by decide, by decide, by decide +kernel⟩
theorem k_RL_330 : KW RL 330 yL_removeLoad cL_removeLoad 4 (some .int) [(0, 9, 12, 22)] 3 := ⟨(in_g 1411 (by decide +kernel) rfl), (in_g 108 (by decide +kernel) rfl), (in_g 1409 (by decide +kernel) rfl), (in_g 1410 (by decide +kernel) rfl), by decide, by decide, by decide +kernel⟩
theorem k_RL_333 : KW RL 333 yL_setCount cL_setCount 5 (some .int) [(0, 10, 13, 22), (0, 10, 17, 13)] 4 := ⟨(in_g 1422 (by decide +kernel) rfl), (in_g 108 (by decide +kernel) rfl), (in_g 1420 (by decide +kernel) rfl), (in_g 1421 (by decide +kernel) rfl), by decide, by decide, by decide +kernel⟩
theorem k_RL_336 : KW RL 336 yL_close cL_close 5 (some .int) [(0, 17, 20, 22)] 4 := ⟨(in_g 1429 (by decide +kernel) rfl), (in_g 108 (by decide +kernel) rfl), (in_g 1427 (by decide +kernel) rfl), (in_g 1428 (by decide +kernel) rfl), by decide, by decide, by decide +kernel⟩
theorem k_RL_340 : KW RL 340 yL_patch cL_patch 6 (some .int) [(0, 12, 15, 22), (0, 12, 19, 13)] 5 := ⟨(in_g 1440 (by decide +kernel) rfl), (in_g 108 (by decide +kernel) rfl), (in_g 1438 (by decide +kernel) rfl), (in_g 1439 (by decide +kernel) rfl), by decide, by decide, by decide +kernel⟩
theorem k_RL_343 : KW RL 343 yL_set cL_set 5 (some .int) [(0, 10, 13, 13)] 4 := ⟨(in_g 1455 (by decide +kernel) rfl), (in_g 108 (by decide +kernel) rfl), (in_g 1453 (by decide +kernel) rfl), (in_g 1454 (by decide +kernel) rfl), by decide, by decide, by decide +kernel⟩
theorem k_RL_346 : KW RL 346 yL_give cL_give 4 (some .int) [(0, 9, 12, 13)] 3 := ⟨(in_g 1464 (by decide +kernel) rfl), (in_g 108 (by decide +kernel) rfl), (in_g 1462 (by decide +kernel) rfl), (in_g 1463 (by decide +kernel) rfl), by decide, by decide, by decide +kernel⟩
theorem k_RL_349 : KW RL 349 yL_undo cL_undo 3 (some .int) [(0, 8, 11, 122)] 2 := ⟨(in_g 1472 (by decide +kernel) rfl), (in_g 108 (by decide +kernel) rfl), (in_g 1470 (by decide +kernel) rfl), (in_g 1471 (by decide +kernel) rfl), by decide, by decide, by decide +kernel⟩
theorem k_RL_352 : KW RL 352 yL_printCell cL_printCell 4 (some .int) [(0, 9, 12, 22)] 3 := ⟨(in_g 1484 (by decide +kernel) rfl), (in_g 108 (by decide +kernel) rfl), (in_g 1482 (by decide +kernel) rfl), (in_g 1483 (by decide +kernel) rfl), by decide, by decide, by decide +kernel⟩
theorem k_RL_355 : KW RL 355 yL_printLane cL_printLane 4 (some .int) [(0, 9, 12, 22)] 3 := ⟨(in_g 1493 (by decide +kernel) rfl), (in_g 108 (by decide +kernel) rfl), (in_g 1491 (by decide +kernel) rfl), (in_g 1492 (by decide +kernel) rfl), by decide, by decide, by decide +kernel⟩
theorem k_RL_370 : KW RL 370 yL_restoreState cL_restoreState 3 (some .int) [(0, 8, 11, 122)] 2 := ⟨(in_g 1500 (by decide +kernel) rfl), (in_g 108 (by decide +kernel) rfl), (in_g 1498 (by decide +kernel) rfl), (in_g 1499 (by decide +kernel) rfl), by decide, by decide, by decide +kernel⟩
set_option maxHeartbeats 4000000 in
set_option maxRecDepth 100000 in
theorem g_L_law_3616 {Γ : ΓT} {ad : Nat → Nat} {b N : Nat} {xs : Nat → Int32} {μ : Mm} {k28 : Int32 → Mm → Option Unit} {kc ks n : Nat} {x5 : Int32} {r : Unit} (C : Cx Γ RL cL_law 9) (X : Ry Γ room_1) (Z : Zx Γ b N xs) (hkc : kc + 10 * (n + 1) ≤ 601024 ∧ ks + 60 * (n + 1) ≤ 7293034) (hk28 : ∀ (x5 : Int32) (ν : Mm) (kc2 ks2 : Nat), kc2 ≤ kc + 10 → ks2 ≤ ks + 60 → k28 x5 ν = some r → G Γ ad layL 9 ν 28 [(0, .ref b), (1, .ref (ad 0)), (2, .ref (ad 157)), (3, .ref (ad 170)), (4, .ref (ad 171)), (5, .int x5)] [] kc2 ks2) (h : b_L_law_3616 N xs μ k28 x5 = some r) : G Γ ad layL 9 μ 3616 [(0, .ref b), (1, .ref (ad 0)), (2, .ref (ad 157)), (3, .ref (ad 170)), (4, .ref (ad 171)), (5, .int x5)] [] (kc + 8) (ks + 48) := by
  unfold b_L_law_3616 at h
  refine g_iinc (v := (x5 + 7)) (L' := [(5, .int (x5 + 7)), (0, .ref b), (1, .ref (ad 0)), (2, .ref (ad 157)), (3, .ref (ad 170)), (4, .ref (ad 171))]) C dL_law_3616 5 rfl rfl (by decide) rfl ?_
  refine g_goto (tgt := 28) C dL_law_3619 (by decide) ?_
  refine g_sub (L' := [(0, .ref b), (1, .ref (ad 0)), (2, .ref (ad 157)), (3, .ref (ad 170)), (4, .ref (ad 171)), (5, .int (x5 + 7))]) [1, 2, 3, 4, 5, 0] rfl ?_
  exact hk28 _ _ _ _ (by omega) (by omega) h
set_option maxHeartbeats 4000000 in
set_option maxRecDepth 100000 in
theorem g_L_law_292 {Γ : ΓT} {ad : Nat → Nat} {b N : Nat} {xs : Nat → Int32} {μ : Mm} {k28 : Int32 → Mm → Option Unit} {kc ks n : Nat} {x5 : Int32} {r : Unit} (C : Cx Γ RL cL_law 9) (X : Ry Γ room_1) (Z : Zx Γ b N xs) (hkc : kc + 10 * (n + 1) ≤ 601024 ∧ ks + 60 * (n + 1) ≤ 7293034) (hk28 : ∀ (x5 : Int32) (ν : Mm) (kc2 ks2 : Nat), kc2 ≤ kc + 10 → ks2 ≤ ks + 60 → k28 x5 ν = some r → G Γ ad layL 9 ν 28 [(0, .ref b), (1, .ref (ad 0)), (2, .ref (ad 157)), (3, .ref (ad 170)), (4, .ref (ad 171)), (5, .int x5)] [] kc2 ks2) (h : b_L_law_292 N xs μ k28 x5 = some r) : G Γ ad layL 9 μ 292 [(0, .ref b), (1, .ref (ad 0)), (2, .ref (ad 157)), (3, .ref (ad 170)), (4, .ref (ad 171)), (5, .int x5)] [] kc ks := by
  unfold b_L_law_292 at h
  refine g_aload_n C dL_law_292 1 rfl ?_
  refine g_aload_n C dL_law_293 0 rfl ?_
  refine g_iload C dL_law_294 5 rfl ?_
  refine g_iconst C dL_law_296 iv_1 ?_
  refine g_iadd C dL_law_297 ?_
  obtain ⟨hz298, h⟩ := i_n h
  refine g_scr Z C hz298 dL_law_298 ?_
  refine g_aload_n C dL_law_299 0 rfl ?_
  refine g_iload C dL_law_300 5 rfl ?_
  refine g_iconst C dL_law_302 iv_2 ?_
  refine g_iadd C dL_law_303 ?_
  obtain ⟨hz304, h⟩ := i_n h
  refine g_scr Z C hz304 dL_law_304 ?_
  refine g_aload_n C dL_law_305 0 rfl ?_
  refine g_iload C dL_law_306 5 rfl ?_
  refine g_iconst C dL_law_308 iv_3 ?_
  refine g_iadd C dL_law_309 ?_
  obtain ⟨hz310, h⟩ := i_n h
  refine g_scr Z C hz310 dL_law_310 ?_
  refine g_aload_n C dL_law_311 0 rfl ?_
  refine g_iload C dL_law_312 5 rfl ?_
  refine g_iconst C dL_law_314 iv_4 ?_
  refine g_iadd C dL_law_315 ?_
  obtain ⟨hz316, h⟩ := i_n h
  refine g_scr Z C hz316 dL_law_316 ?_
  refine g_aload_n C dL_law_317 0 rfl ?_
  refine g_iload C dL_law_318 5 rfl ?_
  refine g_iconst C dL_law_320 iv_5 ?_
  refine g_iadd C dL_law_321 ?_
  obtain ⟨hz322, h⟩ := i_n h
  refine g_scr Z C hz322 dL_law_322 ?_
  obtain ⟨q323, hq323, h⟩ := i_b h
  have hc323 := c_X9_appendInput (ad := ad) (sd := gsd Γ) (ry_tr X) hq323
  refine g_callVny [.int (xs (Int32.toNatClampNeg (x5 + 1))), .int (xs (Int32.toNatClampNeg (x5 + 2))), .int (xs (Int32.toNatClampNeg (x5 + 3))), .int (xs (Int32.toNatClampNeg (x5 + 4))), .int (xs (Int32.toNatClampNeg (x5 + 5)))] [] C X k_RL_175 hc323 ly_0 rfl (by decide) (by first | (constructor <;> (simp only [rm_X9_appendInput, room_1]; omega)) | omega) rfl (Nat.le_of_ble_eq_true rfl) rfl dL_law_323 (stk2 := [.int q323.1]) rfl rfl rfl ?_
  refine g_aload_n C dL_law_326 2 rfl ?_
  refine g_aload_n C dL_law_327 0 rfl ?_
  refine g_iload C dL_law_328 5 rfl ?_
  refine g_iconst C dL_law_330 iv_1 ?_
  refine g_iadd C dL_law_331 ?_
  obtain ⟨hz332, h⟩ := i_n h
  refine g_scr Z C hz332 dL_law_332 ?_
  refine g_aload_n C dL_law_333 0 rfl ?_
  refine g_iload C dL_law_334 5 rfl ?_
  refine g_iconst C dL_law_336 iv_2 ?_
  refine g_iadd C dL_law_337 ?_
  obtain ⟨hz338, h⟩ := i_n h
  refine g_scr Z C hz338 dL_law_338 ?_
  refine g_aload_n C dL_law_339 0 rfl ?_
  refine g_iload C dL_law_340 5 rfl ?_
  refine g_iconst C dL_law_342 iv_3 ?_
  refine g_iadd C dL_law_343 ?_
  obtain ⟨hz344, h⟩ := i_n h
  refine g_scr Z C hz344 dL_law_344 ?_
  refine g_aload_n C dL_law_345 0 rfl ?_
  refine g_iload C dL_law_346 5 rfl ?_
  refine g_iconst C dL_law_348 iv_4 ?_
  refine g_iadd C dL_law_349 ?_
  obtain ⟨hz350, h⟩ := i_n h
  refine g_scr Z C hz350 dL_law_350 ?_
  refine g_aload_n C dL_law_351 0 rfl ?_
  refine g_iload C dL_law_352 5 rfl ?_
  refine g_iconst C dL_law_354 iv_5 ?_
  refine g_iadd C dL_law_355 ?_
  obtain ⟨hz356, h⟩ := i_n h
  refine g_scr Z C hz356 dL_law_356 ?_
  obtain ⟨q357, hq357, h⟩ := i_b h
  have hc357 := c_X10_appendInput (ad := ad) (sd := gsd Γ) (ry_tr X) hq357
  refine g_callVny [.int (xs (Int32.toNatClampNeg (x5 + 1))), .int (xs (Int32.toNatClampNeg (x5 + 2))), .int (xs (Int32.toNatClampNeg (x5 + 3))), .int (xs (Int32.toNatClampNeg (x5 + 4))), .int (xs (Int32.toNatClampNeg (x5 + 5)))] [.int q323.1] C X k_RL_179 hc357 ly_157 rfl (by decide) (by first | (constructor <;> (simp only [rm_X10_appendInput, room_1]; omega)) | omega) rfl (Nat.le_of_ble_eq_true rfl) rfl dL_law_357 (stk2 := [.int q357.1, .int q323.1]) rfl rfl rfl ?_
  refine g_icmp_eq (tgt := 3616) C dL_law_360 (by decide) (fun c => ?_) (fun c => ?_)
  · replace h := i_t c h
    refine g_wid (kc' := (kc + 8)) (ks' := (ks + 48)) (by first | omega | (simp only [rm_X9_appendInput, rm_X10_appendInput]; omega)) (by first | omega | (simp only [rm_X9_appendInput, rm_X10_appendInput]; omega)) ?_
    exact g_L_law_3616  C X Z hkc hk28 h
  · replace h := i_f c h
    refine g_iconst C dL_law_363 iv_0 ?_
    cases h
set_option maxHeartbeats 4000000 in
set_option maxRecDepth 100000 in
theorem g_L_law_365 {Γ : ΓT} {ad : Nat → Nat} {b N : Nat} {xs : Nat → Int32} {μ : Mm} {k28 : Int32 → Mm → Option Unit} {kc ks n : Nat} {x5 : Int32} {r : Unit} (C : Cx Γ RL cL_law 9) (X : Ry Γ room_1) (Z : Zx Γ b N xs) (hkc : kc + 10 * (n + 1) ≤ 601024 ∧ ks + 60 * (n + 1) ≤ 7293034) (hk28 : ∀ (x5 : Int32) (ν : Mm) (kc2 ks2 : Nat), kc2 ≤ kc + 10 → ks2 ≤ ks + 60 → k28 x5 ν = some r → G Γ ad layL 9 ν 28 [(0, .ref b), (1, .ref (ad 0)), (2, .ref (ad 157)), (3, .ref (ad 170)), (4, .ref (ad 171)), (5, .int x5)] [] kc2 ks2) (h : b_L_law_365 N xs μ k28 x5 = some r) : G Γ ad layL 9 μ 365 [(0, .ref b), (1, .ref (ad 0)), (2, .ref (ad 157)), (3, .ref (ad 170)), (4, .ref (ad 171)), (5, .int x5)] [] kc ks := by
  unfold b_L_law_365 at h
  refine g_aload_n C dL_law_365 1 rfl ?_
  refine g_aload_n C dL_law_366 0 rfl ?_
  refine g_iload C dL_law_367 5 rfl ?_
  refine g_iconst C dL_law_369 iv_1 ?_
  refine g_iadd C dL_law_370 ?_
  obtain ⟨hz371, h⟩ := i_n h
  refine g_scr Z C hz371 dL_law_371 ?_
  obtain ⟨q372, hq372, h⟩ := i_b h
  have hc372 := c_X9_truncateInput (ad := ad) (sd := gsd Γ) (ry_tr X) hq372
  refine g_callVny [.int (xs (Int32.toNatClampNeg (x5 + 1)))] [] C X k_RL_180 hc372 ly_0 rfl (by decide) (by first | (constructor <;> (simp only [rm_X9_truncateInput, room_1]; omega)) | omega) rfl (Nat.le_of_ble_eq_true rfl) rfl dL_law_372 (stk2 := [.int q372.1]) rfl rfl rfl ?_
  refine g_aload_n C dL_law_375 2 rfl ?_
  refine g_aload_n C dL_law_376 0 rfl ?_
  refine g_iload C dL_law_377 5 rfl ?_
  refine g_iconst C dL_law_379 iv_1 ?_
  refine g_iadd C dL_law_380 ?_
  obtain ⟨hz381, h⟩ := i_n h
  refine g_scr Z C hz381 dL_law_381 ?_
  obtain ⟨q382, hq382, h⟩ := i_b h
  have hc382 := c_X10_truncateInput (ad := ad) (sd := gsd Γ) (ry_tr X) hq382
  refine g_callVny [.int (xs (Int32.toNatClampNeg (x5 + 1)))] [.int q372.1] C X k_RL_184 hc382 ly_157 rfl (by decide) (by first | (constructor <;> (simp only [rm_X10_truncateInput, room_1]; omega)) | omega) rfl (Nat.le_of_ble_eq_true rfl) rfl dL_law_382 (stk2 := [.int q382.1, .int q372.1]) rfl rfl rfl ?_
  refine g_icmp_eq (tgt := 3616) C dL_law_385 (by decide) (fun c => ?_) (fun c => ?_)
  · replace h := i_t c h
    refine g_wid (kc' := (kc + 8)) (ks' := (ks + 48)) (by first | omega | (simp only [rm_X9_truncateInput, rm_X10_truncateInput]; omega)) (by first | omega | (simp only [rm_X9_truncateInput, rm_X10_truncateInput]; omega)) ?_
    exact g_L_law_3616  C X Z hkc hk28 h
  · replace h := i_f c h
    refine g_iconst C dL_law_388 iv_0 ?_
    cases h
set_option maxHeartbeats 4000000 in
set_option maxRecDepth 100000 in
theorem g_L_law_390 {Γ : ΓT} {ad : Nat → Nat} {b N : Nat} {xs : Nat → Int32} {μ : Mm} {k28 : Int32 → Mm → Option Unit} {kc ks n : Nat} {x5 : Int32} {r : Unit} (C : Cx Γ RL cL_law 9) (X : Ry Γ room_1) (Z : Zx Γ b N xs) (hkc : kc + 10 * (n + 1) ≤ 601024 ∧ ks + 60 * (n + 1) ≤ 7293034) (hk28 : ∀ (x5 : Int32) (ν : Mm) (kc2 ks2 : Nat), kc2 ≤ kc + 10 → ks2 ≤ ks + 60 → k28 x5 ν = some r → G Γ ad layL 9 ν 28 [(0, .ref b), (1, .ref (ad 0)), (2, .ref (ad 157)), (3, .ref (ad 170)), (4, .ref (ad 171)), (5, .int x5)] [] kc2 ks2) (h : b_L_law_390 N xs μ k28 x5 = some r) : G Γ ad layL 9 μ 390 [(0, .ref b), (1, .ref (ad 0)), (2, .ref (ad 157)), (3, .ref (ad 170)), (4, .ref (ad 171)), (5, .int x5)] [] kc ks := by
  unfold b_L_law_390 at h
  refine g_aload_n C dL_law_390 1 rfl ?_
  obtain ⟨q391, hq391, h⟩ := i_b h
  have hc391 := c_X9_loadRoad (ad := ad) (sd := gsd Γ) (ry_tr X) hq391
  refine g_callVny [] [] C X k_RL_185 hc391 ly_0 rfl (by decide) (by first | (constructor <;> (simp only [rm_X9_loadRoad, room_1]; omega)) | omega) rfl (Nat.le_of_ble_eq_true rfl) rfl dL_law_391 (stk2 := [.int q391.1]) rfl rfl rfl ?_
  refine g_aload_n C dL_law_394 2 rfl ?_
  obtain ⟨q395, hq395, h⟩ := i_b h
  have hc395 := c_X10_loadRoad (ad := ad) (sd := gsd Γ) (ry_tr X) hq395
  refine g_callVny [] [.int q391.1] C X k_RL_188 hc395 ly_157 rfl (by decide) (by first | (constructor <;> (simp only [rm_X10_loadRoad, room_1]; omega)) | omega) rfl (Nat.le_of_ble_eq_true rfl) rfl dL_law_395 (stk2 := [.int q395.1, .int q391.1]) rfl rfl rfl ?_
  refine g_icmp_eq (tgt := 3616) C dL_law_398 (by decide) (fun c => ?_) (fun c => ?_)
  · replace h := i_t c h
    refine g_wid (kc' := (kc + 8)) (ks' := (ks + 48)) (by first | omega | (simp only [rm_X9_loadRoad, rm_X10_loadRoad]; omega)) (by first | omega | (simp only [rm_X9_loadRoad, rm_X10_loadRoad]; omega)) ?_
    exact g_L_law_3616  C X Z hkc hk28 h
  · replace h := i_f c h
    refine g_iconst C dL_law_401 iv_0 ?_
    cases h
set_option maxHeartbeats 4000000 in
set_option maxRecDepth 100000 in
theorem g_L_law_403 {Γ : ΓT} {ad : Nat → Nat} {b N : Nat} {xs : Nat → Int32} {μ : Mm} {k28 : Int32 → Mm → Option Unit} {kc ks n : Nat} {x5 : Int32} {r : Unit} (C : Cx Γ RL cL_law 9) (X : Ry Γ room_1) (Z : Zx Γ b N xs) (hkc : kc + 10 * (n + 1) ≤ 601024 ∧ ks + 60 * (n + 1) ≤ 7293034) (hk28 : ∀ (x5 : Int32) (ν : Mm) (kc2 ks2 : Nat), kc2 ≤ kc + 10 → ks2 ≤ ks + 60 → k28 x5 ν = some r → G Γ ad layL 9 ν 28 [(0, .ref b), (1, .ref (ad 0)), (2, .ref (ad 157)), (3, .ref (ad 170)), (4, .ref (ad 171)), (5, .int x5)] [] kc2 ks2) (h : b_L_law_403 N xs μ k28 x5 = some r) : G Γ ad layL 9 μ 403 [(0, .ref b), (1, .ref (ad 0)), (2, .ref (ad 157)), (3, .ref (ad 170)), (4, .ref (ad 171)), (5, .int x5)] [] kc ks := by
  unfold b_L_law_403 at h
  refine g_aload_n C dL_law_403 1 rfl ?_
  obtain ⟨q404, hq404, h⟩ := i_b h
  have hc404 := c_X9_errorCode (ad := ad) (sd := gsd Γ) (ry_tr X) hq404
  refine g_callVny [] [] C X k_RL_189 hc404 ly_0 rfl (by decide) (by first | (constructor <;> (simp only [rm_X9_errorCode, room_1]; omega)) | omega) rfl (Nat.le_of_ble_eq_true rfl) rfl dL_law_404 (stk2 := [.int q404]) rfl rfl rfl ?_
  refine g_aload_n C dL_law_407 2 rfl ?_
  obtain ⟨q408, hq408, h⟩ := i_b h
  have hc408 := c_X10_errorCode (ad := ad) (sd := gsd Γ) (ry_tr X) hq408
  refine g_callVny [] [.int q404] C X k_RL_192 hc408 ly_157 rfl (by decide) (by first | (constructor <;> (simp only [rm_X10_errorCode, room_1]; omega)) | omega) rfl (Nat.le_of_ble_eq_true rfl) rfl dL_law_408 (stk2 := [.int q408.1, .int q404]) rfl rfl rfl ?_
  refine g_icmp_eq (tgt := 3616) C dL_law_411 (by decide) (fun c => ?_) (fun c => ?_)
  · replace h := i_t c h
    refine g_wid (kc' := (kc + 8)) (ks' := (ks + 48)) (by first | omega | (simp only [rm_X9_errorCode, rm_X10_errorCode]; omega)) (by first | omega | (simp only [rm_X9_errorCode, rm_X10_errorCode]; omega)) ?_
    exact g_L_law_3616  C X Z hkc hk28 h
  · replace h := i_f c h
    refine g_iconst C dL_law_414 iv_0 ?_
    cases h
set_option maxHeartbeats 4000000 in
set_option maxRecDepth 100000 in
theorem g_L_law_416 {Γ : ΓT} {ad : Nat → Nat} {b N : Nat} {xs : Nat → Int32} {μ : Mm} {k28 : Int32 → Mm → Option Unit} {kc ks n : Nat} {x5 : Int32} {r : Unit} (C : Cx Γ RL cL_law 9) (X : Ry Γ room_1) (Z : Zx Γ b N xs) (hkc : kc + 10 * (n + 1) ≤ 601024 ∧ ks + 60 * (n + 1) ≤ 7293034) (hk28 : ∀ (x5 : Int32) (ν : Mm) (kc2 ks2 : Nat), kc2 ≤ kc + 10 → ks2 ≤ ks + 60 → k28 x5 ν = some r → G Γ ad layL 9 ν 28 [(0, .ref b), (1, .ref (ad 0)), (2, .ref (ad 157)), (3, .ref (ad 170)), (4, .ref (ad 171)), (5, .int x5)] [] kc2 ks2) (h : b_L_law_416 N xs μ k28 x5 = some r) : G Γ ad layL 9 μ 416 [(0, .ref b), (1, .ref (ad 0)), (2, .ref (ad 157)), (3, .ref (ad 170)), (4, .ref (ad 171)), (5, .int x5)] [] kc ks := by
  unfold b_L_law_416 at h
  refine g_aload_n C dL_law_416 1 rfl ?_
  obtain ⟨q417, hq417, h⟩ := i_b h
  have hc417 := c_X9_errorOffset (ad := ad) (sd := gsd Γ) (ry_tr X) hq417
  refine g_callVny [] [] C X k_RL_193 hc417 ly_0 rfl (by decide) (by first | (constructor <;> (simp only [rm_X9_errorOffset, room_1]; omega)) | omega) rfl (Nat.le_of_ble_eq_true rfl) rfl dL_law_417 (stk2 := [.int q417]) rfl rfl rfl ?_
  refine g_aload_n C dL_law_420 2 rfl ?_
  obtain ⟨q421, hq421, h⟩ := i_b h
  have hc421 := c_X10_errorOffset (ad := ad) (sd := gsd Γ) (ry_tr X) hq421
  refine g_callVny [] [.int q417] C X k_RL_196 hc421 ly_157 rfl (by decide) (by first | (constructor <;> (simp only [rm_X10_errorOffset, room_1]; omega)) | omega) rfl (Nat.le_of_ble_eq_true rfl) rfl dL_law_421 (stk2 := [.int q421.1, .int q417]) rfl rfl rfl ?_
  refine g_icmp_eq (tgt := 3616) C dL_law_424 (by decide) (fun c => ?_) (fun c => ?_)
  · replace h := i_t c h
    refine g_wid (kc' := (kc + 8)) (ks' := (ks + 48)) (by first | omega | (simp only [rm_X9_errorOffset, rm_X10_errorOffset]; omega)) (by first | omega | (simp only [rm_X9_errorOffset, rm_X10_errorOffset]; omega)) ?_
    exact g_L_law_3616  C X Z hkc hk28 h
  · replace h := i_f c h
    refine g_iconst C dL_law_427 iv_0 ?_
    cases h
set_option maxHeartbeats 4000000 in
set_option maxRecDepth 100000 in
theorem g_L_law_482 {Γ : ΓT} {ad : Nat → Nat} {b N : Nat} {xs : Nat → Int32} {μ : Mm} {k28 : Int32 → Mm → Option Unit} {kc ks n : Nat} {x5 : Int32} {r : Unit} (C : Cx Γ RL cL_law 9) (X : Ry Γ room_1) (Z : Zx Γ b N xs) (hkc : kc + 10 * (n + 1) ≤ 601024 ∧ ks + 60 * (n + 1) ≤ 7293034) (hk28 : ∀ (x5 : Int32) (ν : Mm) (kc2 ks2 : Nat), kc2 ≤ kc + 10 → ks2 ≤ ks + 60 → k28 x5 ν = some r → G Γ ad layL 9 ν 28 [(0, .ref b), (1, .ref (ad 0)), (2, .ref (ad 157)), (3, .ref (ad 170)), (4, .ref (ad 171)), (5, .int x5)] [] kc2 ks2) (h : b_L_law_482 N xs μ k28 x5 = some r) : G Γ ad layL 9 μ 482 [(0, .ref b), (1, .ref (ad 0)), (2, .ref (ad 157)), (3, .ref (ad 170)), (4, .ref (ad 171)), (5, .int x5)] [] (kc + 1) (ks + 6) := by
  unfold b_L_law_482 at h
  refine g_goto (tgt := 3616) C dL_law_482 (by decide) ?_
  refine g_wid (kc' := (kc + 8)) (ks' := (ks + 48)) (by omega) (by omega) ?_
  exact g_L_law_3616  C X Z hkc hk28 h
set_option maxHeartbeats 4000000 in
set_option maxRecDepth 100000 in
theorem g_L_law_429 {Γ : ΓT} {ad : Nat → Nat} {b N : Nat} {xs : Nat → Int32} {μ : Mm} {k28 : Int32 → Mm → Option Unit} {kc ks n : Nat} {x5 : Int32} {r : Unit} (C : Cx Γ RL cL_law 9) (X : Ry Γ room_1) (Z : Zx Γ b N xs) (hkc : kc + 10 * (n + 1) ≤ 601024 ∧ ks + 60 * (n + 1) ≤ 7293034) (hk28 : ∀ (x5 : Int32) (ν : Mm) (kc2 ks2 : Nat), kc2 ≤ kc + 10 → ks2 ≤ ks + 60 → k28 x5 ν = some r → G Γ ad layL 9 ν 28 [(0, .ref b), (1, .ref (ad 0)), (2, .ref (ad 157)), (3, .ref (ad 170)), (4, .ref (ad 171)), (5, .int x5)] [] kc2 ks2) (h : b_L_law_429 N xs μ k28 x5 = some r) : G Γ ad layL 9 μ 429 [(0, .ref b), (1, .ref (ad 0)), (2, .ref (ad 157)), (3, .ref (ad 170)), (4, .ref (ad 171)), (5, .int x5)] [] kc ks := by
  unfold b_L_law_429 at h
  refine g_aload_n C dL_law_429 1 rfl ?_
  refine g_aload_n C dL_law_430 0 rfl ?_
  refine g_iload C dL_law_431 5 rfl ?_
  refine g_iconst C dL_law_433 iv_1 ?_
  refine g_iadd C dL_law_434 ?_
  obtain ⟨hz435, h⟩ := i_n h
  refine g_scr Z C hz435 dL_law_435 ?_
  refine g_aload_n C dL_law_436 3 rfl ?_
  obtain ⟨q437, hq437, h⟩ := i_b h
  have hc437 := c_L_count (ad := ad) (sd := gsd Γ) (ry_tr X) hq437
  refine g_callSxy [.ref (ad 0), .int (xs (Int32.toNatClampNeg (x5 + 1))), .ref (ad 170)] [] C X k_RL_197 hc437 (by decide) (by first | (constructor <;> (simp only [rm_L_count, room_1]; omega)) | omega) rfl (Nat.le_of_ble_eq_true rfl) rfl dL_law_437 (stk2 := [.int q437.1]) rfl rfl rfl ?_
  refine g_istore (L' := [(6, .int q437.1), (0, .ref b), (1, .ref (ad 0)), (2, .ref (ad 157)), (3, .ref (ad 170)), (4, .ref (ad 171)), (5, .int x5)]) C dL_law_440 (by decide) rfl ?_
  refine g_aload_n C dL_law_442 3 rfl ?_
  refine g_aload_n C dL_law_443 1 rfl ?_
  refine g_iload C dL_law_444 6 rfl ?_
  refine g_iconst C dL_law_446 iv_1 ?_
  refine g_iadd C dL_law_447 ?_
  obtain ⟨hz448, h⟩ := i_n h
  refine g_scr Z C hz448 dL_law_448 ?_
  obtain ⟨q449, hq449, h⟩ := i_b h
  have hc449 := c_X10_count (ad := ad) (sd := gsd Γ) (ry_tr X) hq449
  refine g_callVny [.int (xs (Int32.toNatClampNeg (x5 + 1)))] [] C X k_RL_202 hc449 ly_157 rfl (by decide) (by first | (constructor <;> (simp only [rm_X10_count, room_1]; omega)) | omega) rfl (Nat.le_of_ble_eq_true rfl) rfl dL_law_449 (stk2 := [.int q449.1]) rfl rfl rfl ?_
  refine g_istore (L' := [(7, .int q449.1), (6, .int q437.1), (0, .ref b), (1, .ref (ad 0)), (2, .ref (ad 157)), (3, .ref (ad 170)), (4, .ref (ad 171)), (5, .int x5)]) C dL_law_452 (by decide) rfl ?_
  refine g_aload_n C dL_law_454 4 rfl ?_
  obtain ⟨q455, hq455, h⟩ := i_b h
  have hc455 := c_X10_thrown (ad := ad) (sd := gsd Γ) (ry_tr X) hq455
  refine g_callVny [] [] C X k_RL_203 hc455 ly_157 rfl (by decide) (by first | (constructor <;> (simp only [rm_X10_thrown, room_1]; omega)) | omega) rfl (Nat.le_of_ble_eq_true rfl) rfl dL_law_455 (stk2 := [.int q455]) rfl rfl rfl ?_
  refine g_iload C dL_law_458 1 rfl ?_
  refine g_icmp_eq (tgt := 465) C dL_law_460 (by decide) (fun c => ?_) (fun c => ?_)
  · replace h := i_t c h
    refine g_iload C dL_law_465 1 rfl ?_
    refine g_if_ne (tgt := 482) C dL_law_467 (by decide) (fun c => ?_) (fun c => ?_)
    · replace h := i_f c h
      refine g_sub (L' := [(0, .ref b), (1, .ref (ad 0)), (2, .ref (ad 157)), (3, .ref (ad 170)), (4, .ref (ad 171)), (5, .int x5)]) [2, 3, 4, 5, 6, 7] rfl ?_
      exact g_L_law_482  C X Z hkc hk28 h
    · replace h := i_t c h
      refine g_aload_n C dL_law_470 5 rfl ?_
      refine g_iconst C dL_law_471 iv_0 ?_
      obtain ⟨hz472, h⟩ := i_n h
      refine g_lald C ly_170 hz472 dL_law_472 ?_
      refine g_iload C dL_law_473 0 rfl ?_
      refine g_i2l C dL_law_475 ?_
      refine g_lcmp C dL_law_476 ?_
      refine g_if_eq (tgt := 482) C dL_law_477 (by decide) (fun c => ?_) (fun c => ?_)
      · replace h := i_t c h
        refine g_sub (L' := [(0, .ref b), (1, .ref (ad 0)), (2, .ref (ad 157)), (3, .ref (ad 170)), (4, .ref (ad 171)), (5, .int x5)]) [2, 3, 4, 5, 6, 7] rfl ?_
        exact g_L_law_482  C X Z hkc hk28 h
      · replace h := i_f c h
        refine g_iconst C dL_law_480 iv_0 ?_
        cases h
  · replace h := i_f c h
    refine g_iconst C dL_law_463 iv_0 ?_
    cases h
set_option maxHeartbeats 4000000 in
set_option maxRecDepth 100000 in
theorem g_L_law_538 {Γ : ΓT} {ad : Nat → Nat} {b N : Nat} {xs : Nat → Int32} {μ : Mm} {k28 : Int32 → Mm → Option Unit} {kc ks n : Nat} {x5 : Int32} {r : Unit} (C : Cx Γ RL cL_law 9) (X : Ry Γ room_1) (Z : Zx Γ b N xs) (hkc : kc + 10 * (n + 1) ≤ 601024 ∧ ks + 60 * (n + 1) ≤ 7293034) (hk28 : ∀ (x5 : Int32) (ν : Mm) (kc2 ks2 : Nat), kc2 ≤ kc + 10 → ks2 ≤ ks + 60 → k28 x5 ν = some r → G Γ ad layL 9 ν 28 [(0, .ref b), (1, .ref (ad 0)), (2, .ref (ad 157)), (3, .ref (ad 170)), (4, .ref (ad 171)), (5, .int x5)] [] kc2 ks2) (h : b_L_law_538 N xs μ k28 x5 = some r) : G Γ ad layL 9 μ 538 [(0, .ref b), (1, .ref (ad 0)), (2, .ref (ad 157)), (3, .ref (ad 170)), (4, .ref (ad 171)), (5, .int x5)] [] (kc + 1) (ks + 6) := by
  unfold b_L_law_538 at h
  refine g_goto (tgt := 3616) C dL_law_538 (by decide) ?_
  refine g_wid (kc' := (kc + 8)) (ks' := (ks + 48)) (by omega) (by omega) ?_
  exact g_L_law_3616  C X Z hkc hk28 h
set_option maxHeartbeats 4000000 in
set_option maxRecDepth 100000 in
theorem g_L_law_485 {Γ : ΓT} {ad : Nat → Nat} {b N : Nat} {xs : Nat → Int32} {μ : Mm} {k28 : Int32 → Mm → Option Unit} {kc ks n : Nat} {x5 : Int32} {r : Unit} (C : Cx Γ RL cL_law 9) (X : Ry Γ room_1) (Z : Zx Γ b N xs) (hkc : kc + 10 * (n + 1) ≤ 601024 ∧ ks + 60 * (n + 1) ≤ 7293034) (hk28 : ∀ (x5 : Int32) (ν : Mm) (kc2 ks2 : Nat), kc2 ≤ kc + 10 → ks2 ≤ ks + 60 → k28 x5 ν = some r → G Γ ad layL 9 ν 28 [(0, .ref b), (1, .ref (ad 0)), (2, .ref (ad 157)), (3, .ref (ad 170)), (4, .ref (ad 171)), (5, .int x5)] [] kc2 ks2) (h : b_L_law_485 N xs μ k28 x5 = some r) : G Γ ad layL 9 μ 485 [(0, .ref b), (1, .ref (ad 0)), (2, .ref (ad 157)), (3, .ref (ad 170)), (4, .ref (ad 171)), (5, .int x5)] [] kc ks := by
  unfold b_L_law_485 at h
  refine g_aload_n C dL_law_485 1 rfl ?_
  refine g_aload_n C dL_law_486 0 rfl ?_
  refine g_iload C dL_law_487 5 rfl ?_
  refine g_iconst C dL_law_489 iv_1 ?_
  refine g_iadd C dL_law_490 ?_
  obtain ⟨hz491, h⟩ := i_n h
  refine g_scr Z C hz491 dL_law_491 ?_
  refine g_aload_n C dL_law_492 3 rfl ?_
  obtain ⟨q493, hq493, h⟩ := i_b h
  have hc493 := c_L_setting (ad := ad) (sd := gsd Γ) (ry_tr X) hq493
  refine g_callSxy [.ref (ad 0), .int (xs (Int32.toNatClampNeg (x5 + 1))), .ref (ad 170)] [] C X k_RL_206 hc493 (by decide) (by first | (constructor <;> (simp only [rm_L_setting, room_1]; omega)) | omega) rfl (Nat.le_of_ble_eq_true rfl) rfl dL_law_493 (stk2 := [.int q493.1]) rfl rfl rfl ?_
  refine g_istore (L' := [(6, .int q493.1), (0, .ref b), (1, .ref (ad 0)), (2, .ref (ad 157)), (3, .ref (ad 170)), (4, .ref (ad 171)), (5, .int x5)]) C dL_law_496 (by decide) rfl ?_
  refine g_aload_n C dL_law_498 3 rfl ?_
  refine g_aload_n C dL_law_499 1 rfl ?_
  refine g_iload C dL_law_500 6 rfl ?_
  refine g_iconst C dL_law_502 iv_1 ?_
  refine g_iadd C dL_law_503 ?_
  obtain ⟨hz504, h⟩ := i_n h
  refine g_scr Z C hz504 dL_law_504 ?_
  obtain ⟨q505, hq505, h⟩ := i_b h
  have hc505 := c_X10_setting (ad := ad) (sd := gsd Γ) (ry_tr X) hq505
  refine g_callVny [.int (xs (Int32.toNatClampNeg (x5 + 1)))] [] C X k_RL_208 hc505 ly_157 rfl (by decide) (by first | (constructor <;> (simp only [rm_X10_setting, room_1]; omega)) | omega) rfl (Nat.le_of_ble_eq_true rfl) rfl dL_law_505 (stk2 := [.int q505.1]) rfl rfl rfl ?_
  refine g_istore (L' := [(7, .int q505.1), (6, .int q493.1), (0, .ref b), (1, .ref (ad 0)), (2, .ref (ad 157)), (3, .ref (ad 170)), (4, .ref (ad 171)), (5, .int x5)]) C dL_law_508 (by decide) rfl ?_
  refine g_aload_n C dL_law_510 4 rfl ?_
  obtain ⟨q511, hq511, h⟩ := i_b h
  have hc511 := c_X10_thrown (ad := ad) (sd := gsd Γ) (ry_tr X) hq511
  refine g_callVny [] [] C X k_RL_203 hc511 ly_157 rfl (by decide) (by first | (constructor <;> (simp only [rm_X10_thrown, room_1]; omega)) | omega) rfl (Nat.le_of_ble_eq_true rfl) rfl dL_law_511 (stk2 := [.int q511]) rfl rfl rfl ?_
  refine g_iload C dL_law_514 1 rfl ?_
  refine g_icmp_eq (tgt := 521) C dL_law_516 (by decide) (fun c => ?_) (fun c => ?_)
  · replace h := i_t c h
    refine g_iload C dL_law_521 1 rfl ?_
    refine g_if_ne (tgt := 538) C dL_law_523 (by decide) (fun c => ?_) (fun c => ?_)
    · replace h := i_f c h
      refine g_sub (L' := [(0, .ref b), (1, .ref (ad 0)), (2, .ref (ad 157)), (3, .ref (ad 170)), (4, .ref (ad 171)), (5, .int x5)]) [2, 3, 4, 5, 6, 7] rfl ?_
      exact g_L_law_538  C X Z hkc hk28 h
    · replace h := i_t c h
      refine g_aload_n C dL_law_526 5 rfl ?_
      refine g_iconst C dL_law_527 iv_0 ?_
      obtain ⟨hz528, h⟩ := i_n h
      refine g_lald C ly_170 hz528 dL_law_528 ?_
      refine g_iload C dL_law_529 0 rfl ?_
      refine g_i2l C dL_law_531 ?_
      refine g_lcmp C dL_law_532 ?_
      refine g_if_eq (tgt := 538) C dL_law_533 (by decide) (fun c => ?_) (fun c => ?_)
      · replace h := i_t c h
        refine g_sub (L' := [(0, .ref b), (1, .ref (ad 0)), (2, .ref (ad 157)), (3, .ref (ad 170)), (4, .ref (ad 171)), (5, .int x5)]) [2, 3, 4, 5, 6, 7] rfl ?_
        exact g_L_law_538  C X Z hkc hk28 h
      · replace h := i_f c h
        refine g_iconst C dL_law_536 iv_0 ?_
        cases h
  · replace h := i_f c h
    refine g_iconst C dL_law_519 iv_0 ?_
    cases h
set_option maxHeartbeats 4000000 in
set_option maxRecDepth 100000 in
theorem g_L_law_606 {Γ : ΓT} {ad : Nat → Nat} {b N : Nat} {xs : Nat → Int32} {μ : Mm} {k28 : Int32 → Mm → Option Unit} {kc ks n : Nat} {x5 : Int32} {r : Unit} (C : Cx Γ RL cL_law 9) (X : Ry Γ room_1) (Z : Zx Γ b N xs) (hkc : kc + 10 * (n + 1) ≤ 601024 ∧ ks + 60 * (n + 1) ≤ 7293034) (hk28 : ∀ (x5 : Int32) (ν : Mm) (kc2 ks2 : Nat), kc2 ≤ kc + 10 → ks2 ≤ ks + 60 → k28 x5 ν = some r → G Γ ad layL 9 ν 28 [(0, .ref b), (1, .ref (ad 0)), (2, .ref (ad 157)), (3, .ref (ad 170)), (4, .ref (ad 171)), (5, .int x5)] [] kc2 ks2) (h : b_L_law_606 N xs μ k28 x5 = some r) : G Γ ad layL 9 μ 606 [(0, .ref b), (1, .ref (ad 0)), (2, .ref (ad 157)), (3, .ref (ad 170)), (4, .ref (ad 171)), (5, .int x5)] [] (kc + 2) (ks + 12) := by
  unfold b_L_law_606 at h
  refine g_goto (tgt := 3616) C dL_law_606 (by decide) ?_
  refine g_wid (kc' := (kc + 8)) (ks' := (ks + 48)) (by omega) (by omega) ?_
  exact g_L_law_3616  C X Z hkc hk28 h
set_option maxHeartbeats 4000000 in
set_option maxRecDepth 100000 in
theorem g_L_law_541 {Γ : ΓT} {ad : Nat → Nat} {b N : Nat} {xs : Nat → Int32} {μ : Mm} {k28 : Int32 → Mm → Option Unit} {kc ks n : Nat} {x5 : Int32} {r : Unit} (C : Cx Γ RL cL_law 9) (X : Ry Γ room_1) (Z : Zx Γ b N xs) (hkc : kc + 10 * (n + 1) ≤ 601024 ∧ ks + 60 * (n + 1) ≤ 7293034) (hk28 : ∀ (x5 : Int32) (ν : Mm) (kc2 ks2 : Nat), kc2 ≤ kc + 10 → ks2 ≤ ks + 60 → k28 x5 ν = some r → G Γ ad layL 9 ν 28 [(0, .ref b), (1, .ref (ad 0)), (2, .ref (ad 157)), (3, .ref (ad 170)), (4, .ref (ad 171)), (5, .int x5)] [] kc2 ks2) (h : b_L_law_541 N xs μ k28 x5 = some r) : G Γ ad layL 9 μ 541 [(0, .ref b), (1, .ref (ad 0)), (2, .ref (ad 157)), (3, .ref (ad 170)), (4, .ref (ad 171)), (5, .int x5)] [] kc ks := by
  unfold b_L_law_541 at h
  refine g_aload_n C dL_law_541 1 rfl ?_
  refine g_aload_n C dL_law_542 0 rfl ?_
  refine g_iload C dL_law_543 5 rfl ?_
  refine g_iconst C dL_law_545 iv_1 ?_
  refine g_iadd C dL_law_546 ?_
  obtain ⟨hz547, h⟩ := i_n h
  refine g_scr Z C hz547 dL_law_547 ?_
  refine g_aload_n C dL_law_548 0 rfl ?_
  refine g_iload C dL_law_549 5 rfl ?_
  refine g_iconst C dL_law_551 iv_2 ?_
  refine g_iadd C dL_law_552 ?_
  obtain ⟨hz553, h⟩ := i_n h
  refine g_scr Z C hz553 dL_law_553 ?_
  refine g_aload_n C dL_law_554 3 rfl ?_
  obtain ⟨q555, hq555, h⟩ := i_b h
  have hc555 := c_L_cell (ad := ad) (sd := gsd Γ) (ry_tr X) hq555
  refine g_callSxy [.ref (ad 0), .int (xs (Int32.toNatClampNeg (x5 + 1))), .int (xs (Int32.toNatClampNeg (x5 + 2))), .ref (ad 170)] [] C X k_RL_209 hc555 (by decide) (by first | (constructor <;> (simp only [rm_L_cell, room_1]; omega)) | omega) rfl (Nat.le_of_ble_eq_true rfl) rfl dL_law_555 (stk2 := [.int q555.1]) rfl rfl rfl ?_
  refine g_istore (L' := [(6, .int q555.1), (0, .ref b), (1, .ref (ad 0)), (2, .ref (ad 157)), (3, .ref (ad 170)), (4, .ref (ad 171)), (5, .int x5)]) C dL_law_558 (by decide) rfl ?_
  refine g_aload_n C dL_law_560 3 rfl ?_
  refine g_aload_n C dL_law_561 1 rfl ?_
  refine g_iload C dL_law_562 6 rfl ?_
  refine g_iconst C dL_law_564 iv_1 ?_
  refine g_iadd C dL_law_565 ?_
  obtain ⟨hz566, h⟩ := i_n h
  refine g_scr Z C hz566 dL_law_566 ?_
  refine g_aload_n C dL_law_567 1 rfl ?_
  refine g_iload C dL_law_568 6 rfl ?_
  refine g_iconst C dL_law_570 iv_2 ?_
  refine g_iadd C dL_law_571 ?_
  obtain ⟨hz572, h⟩ := i_n h
  refine g_scr Z C hz572 dL_law_572 ?_
  obtain ⟨q573, hq573, h⟩ := i_b h
  have hc573 := c_X10_cell (ad := ad) (sd := gsd Γ) (ry_tr X) hq573
  refine g_callVny [.int (xs (Int32.toNatClampNeg (x5 + 1))), .int (xs (Int32.toNatClampNeg (x5 + 2)))] [] C X k_RL_212 hc573 ly_157 rfl (by decide) (by first | (constructor <;> (simp only [rm_X10_cell, room_1]; omega)) | omega) rfl (Nat.le_of_ble_eq_true rfl) rfl dL_law_573 (stk2 := [.int q573.1]) rfl rfl rfl ?_
  refine g_istore (L' := [(7, .int q573.1), (6, .int q555.1), (0, .ref b), (1, .ref (ad 0)), (2, .ref (ad 157)), (3, .ref (ad 170)), (4, .ref (ad 171)), (5, .int x5)]) C dL_law_576 (by decide) rfl ?_
  refine g_aload_n C dL_law_578 4 rfl ?_
  obtain ⟨q579, hq579, h⟩ := i_b h
  have hc579 := c_X10_thrown (ad := ad) (sd := gsd Γ) (ry_tr X) hq579
  refine g_callVny [] [] C X k_RL_203 hc579 ly_157 rfl (by decide) (by first | (constructor <;> (simp only [rm_X10_thrown, room_1]; omega)) | omega) rfl (Nat.le_of_ble_eq_true rfl) rfl dL_law_579 (stk2 := [.int q579]) rfl rfl rfl ?_
  refine g_iload C dL_law_582 1 rfl ?_
  refine g_icmp_eq (tgt := 589) C dL_law_584 (by decide) (fun c => ?_) (fun c => ?_)
  · replace h := i_t c h
    refine g_iload C dL_law_589 1 rfl ?_
    refine g_if_ne (tgt := 606) C dL_law_591 (by decide) (fun c => ?_) (fun c => ?_)
    · replace h := i_f c h
      refine g_sub (L' := [(0, .ref b), (1, .ref (ad 0)), (2, .ref (ad 157)), (3, .ref (ad 170)), (4, .ref (ad 171)), (5, .int x5)]) [2, 3, 4, 5, 6, 7] rfl ?_
      exact g_L_law_606  C X Z hkc hk28 h
    · replace h := i_t c h
      refine g_aload_n C dL_law_594 5 rfl ?_
      refine g_iconst C dL_law_595 iv_0 ?_
      obtain ⟨hz596, h⟩ := i_n h
      refine g_lald C ly_170 hz596 dL_law_596 ?_
      refine g_iload C dL_law_597 0 rfl ?_
      refine g_i2l C dL_law_599 ?_
      refine g_lcmp C dL_law_600 ?_
      refine g_if_eq (tgt := 606) C dL_law_601 (by decide) (fun c => ?_) (fun c => ?_)
      · replace h := i_t c h
        refine g_sub (L' := [(0, .ref b), (1, .ref (ad 0)), (2, .ref (ad 157)), (3, .ref (ad 170)), (4, .ref (ad 171)), (5, .int x5)]) [2, 3, 4, 5, 6, 7] rfl ?_
        exact g_L_law_606  C X Z hkc hk28 h
      · replace h := i_f c h
        refine g_iconst C dL_law_604 iv_0 ?_
        cases h
  · replace h := i_f c h
    refine g_iconst C dL_law_587 iv_0 ?_
    cases h
set_option maxHeartbeats 4000000 in
set_option maxRecDepth 100000 in
theorem g_L_law_661 {Γ : ΓT} {ad : Nat → Nat} {b N : Nat} {xs : Nat → Int32} {μ : Mm} {k28 : Int32 → Mm → Option Unit} {kc ks n : Nat} {x5 : Int32} {r : Unit} (C : Cx Γ RL cL_law 9) (X : Ry Γ room_1) (Z : Zx Γ b N xs) (hkc : kc + 10 * (n + 1) ≤ 601024 ∧ ks + 60 * (n + 1) ≤ 7293034) (hk28 : ∀ (x5 : Int32) (ν : Mm) (kc2 ks2 : Nat), kc2 ≤ kc + 10 → ks2 ≤ ks + 60 → k28 x5 ν = some r → G Γ ad layL 9 ν 28 [(0, .ref b), (1, .ref (ad 0)), (2, .ref (ad 157)), (3, .ref (ad 170)), (4, .ref (ad 171)), (5, .int x5)] [] kc2 ks2) (h : b_L_law_661 N xs μ k28 x5 = some r) : G Γ ad layL 9 μ 661 [(0, .ref b), (1, .ref (ad 0)), (2, .ref (ad 157)), (3, .ref (ad 170)), (4, .ref (ad 171)), (5, .int x5)] [] (kc + 1) (ks + 6) := by
  unfold b_L_law_661 at h
  refine g_goto (tgt := 3616) C dL_law_661 (by decide) ?_
  refine g_wid (kc' := (kc + 8)) (ks' := (ks + 48)) (by omega) (by omega) ?_
  exact g_L_law_3616  C X Z hkc hk28 h
set_option maxHeartbeats 4000000 in
set_option maxRecDepth 100000 in
theorem g_L_law_609 {Γ : ΓT} {ad : Nat → Nat} {b N : Nat} {xs : Nat → Int32} {μ : Mm} {k28 : Int32 → Mm → Option Unit} {kc ks n : Nat} {x5 : Int32} {r : Unit} (C : Cx Γ RL cL_law 9) (X : Ry Γ room_1) (Z : Zx Γ b N xs) (hkc : kc + 10 * (n + 1) ≤ 601024 ∧ ks + 60 * (n + 1) ≤ 7293034) (hk28 : ∀ (x5 : Int32) (ν : Mm) (kc2 ks2 : Nat), kc2 ≤ kc + 10 → ks2 ≤ ks + 60 → k28 x5 ν = some r → G Γ ad layL 9 ν 28 [(0, .ref b), (1, .ref (ad 0)), (2, .ref (ad 157)), (3, .ref (ad 170)), (4, .ref (ad 171)), (5, .int x5)] [] kc2 ks2) (h : b_L_law_609 N xs μ k28 x5 = some r) : G Γ ad layL 9 μ 609 [(0, .ref b), (1, .ref (ad 0)), (2, .ref (ad 157)), (3, .ref (ad 170)), (4, .ref (ad 171)), (5, .int x5)] [] kc ks := by
  unfold b_L_law_609 at h
  refine g_aload_n C dL_law_609 1 rfl ?_
  refine g_aload_n C dL_law_610 0 rfl ?_
  refine g_iload C dL_law_611 5 rfl ?_
  refine g_iconst C dL_law_613 iv_1 ?_
  refine g_iadd C dL_law_614 ?_
  obtain ⟨hz615, h⟩ := i_n h
  refine g_scr Z C hz615 dL_law_615 ?_
  refine g_aload_n C dL_law_616 3 rfl ?_
  obtain ⟨q617, hq617, h⟩ := i_b h
  have hc617 := c_L_worn (ad := ad) (sd := gsd Γ) (ry_tr X) hq617
  refine g_callSxy [.ref (ad 0), .int (xs (Int32.toNatClampNeg (x5 + 1))), .ref (ad 170)] [] C X k_RL_213 hc617 (by decide) (by first | (constructor <;> (simp only [rm_L_worn, room_1]; omega)) | omega) rfl (Nat.le_of_ble_eq_true rfl) rfl dL_law_617 (stk2 := [.int q617.1]) rfl rfl rfl ?_
  refine g_istore (L' := [(6, .int q617.1), (0, .ref b), (1, .ref (ad 0)), (2, .ref (ad 157)), (3, .ref (ad 170)), (4, .ref (ad 171)), (5, .int x5)]) C dL_law_620 (by decide) rfl ?_
  refine g_aload_n C dL_law_622 3 rfl ?_
  refine g_aload_n C dL_law_623 1 rfl ?_
  refine g_iload C dL_law_624 6 rfl ?_
  refine g_iconst C dL_law_626 iv_1 ?_
  refine g_iadd C dL_law_627 ?_
  obtain ⟨hz628, h⟩ := i_n h
  refine g_scr Z C hz628 dL_law_628 ?_
  obtain ⟨q629, hq629, h⟩ := i_b h
  have hc629 := c_X10_worn (ad := ad) (sd := gsd Γ) (ry_tr X) hq629
  refine g_callVny [.int (xs (Int32.toNatClampNeg (x5 + 1)))] [] C X k_RL_215 hc629 ly_157 rfl (by decide) (by first | (constructor <;> (simp only [rm_X10_worn, room_1]; omega)) | omega) rfl (Nat.le_of_ble_eq_true rfl) rfl dL_law_629 (stk2 := [.long q629.1]) rfl rfl rfl ?_
  refine g_lstore (L' := [(7, .long q629.1), (6, .int q617.1), (0, .ref b), (1, .ref (ad 0)), (2, .ref (ad 157)), (3, .ref (ad 170)), (4, .ref (ad 171)), (5, .int x5)]) C dL_law_632 (by decide) rfl ?_
  refine g_aload_n C dL_law_634 4 rfl ?_
  obtain ⟨q635, hq635, h⟩ := i_b h
  have hc635 := c_X10_thrown (ad := ad) (sd := gsd Γ) (ry_tr X) hq635
  refine g_callVny [] [] C X k_RL_203 hc635 ly_157 rfl (by decide) (by first | (constructor <;> (simp only [rm_X10_thrown, room_1]; omega)) | omega) rfl (Nat.le_of_ble_eq_true rfl) rfl dL_law_635 (stk2 := [.int q635]) rfl rfl rfl ?_
  refine g_iload C dL_law_638 1 rfl ?_
  refine g_icmp_eq (tgt := 645) C dL_law_640 (by decide) (fun c => ?_) (fun c => ?_)
  · replace h := i_t c h
    refine g_iload C dL_law_645 1 rfl ?_
    refine g_if_ne (tgt := 661) C dL_law_647 (by decide) (fun c => ?_) (fun c => ?_)
    · replace h := i_f c h
      refine g_sub (L' := [(0, .ref b), (1, .ref (ad 0)), (2, .ref (ad 157)), (3, .ref (ad 170)), (4, .ref (ad 171)), (5, .int x5)]) [2, 3, 4, 5, 6, 7] rfl ?_
      exact g_L_law_661  C X Z hkc hk28 h
    · replace h := i_t c h
      refine g_aload_n C dL_law_650 5 rfl ?_
      refine g_iconst C dL_law_651 iv_0 ?_
      obtain ⟨hz652, h⟩ := i_n h
      refine g_lald C ly_170 hz652 dL_law_652 ?_
      refine g_lload C dL_law_653 0 rfl ?_
      refine g_lcmp C dL_law_655 ?_
      refine g_if_eq (tgt := 661) C dL_law_656 (by decide) (fun c => ?_) (fun c => ?_)
      · replace h := i_t c h
        refine g_sub (L' := [(0, .ref b), (1, .ref (ad 0)), (2, .ref (ad 157)), (3, .ref (ad 170)), (4, .ref (ad 171)), (5, .int x5)]) [2, 3, 4, 5, 6, 7] rfl ?_
        exact g_L_law_661  C X Z hkc hk28 h
      · replace h := i_f c h
        refine g_iconst C dL_law_659 iv_0 ?_
        cases h
  · replace h := i_f c h
    refine g_iconst C dL_law_643 iv_0 ?_
    cases h
set_option maxHeartbeats 4000000 in
set_option maxRecDepth 100000 in
theorem g_L_law_716 {Γ : ΓT} {ad : Nat → Nat} {b N : Nat} {xs : Nat → Int32} {μ : Mm} {k28 : Int32 → Mm → Option Unit} {kc ks n : Nat} {x5 : Int32} {r : Unit} (C : Cx Γ RL cL_law 9) (X : Ry Γ room_1) (Z : Zx Γ b N xs) (hkc : kc + 10 * (n + 1) ≤ 601024 ∧ ks + 60 * (n + 1) ≤ 7293034) (hk28 : ∀ (x5 : Int32) (ν : Mm) (kc2 ks2 : Nat), kc2 ≤ kc + 10 → ks2 ≤ ks + 60 → k28 x5 ν = some r → G Γ ad layL 9 ν 28 [(0, .ref b), (1, .ref (ad 0)), (2, .ref (ad 157)), (3, .ref (ad 170)), (4, .ref (ad 171)), (5, .int x5)] [] kc2 ks2) (h : b_L_law_716 N xs μ k28 x5 = some r) : G Γ ad layL 9 μ 716 [(0, .ref b), (1, .ref (ad 0)), (2, .ref (ad 157)), (3, .ref (ad 170)), (4, .ref (ad 171)), (5, .int x5)] [] (kc + 1) (ks + 6) := by
  unfold b_L_law_716 at h
  refine g_goto (tgt := 3616) C dL_law_716 (by decide) ?_
  refine g_wid (kc' := (kc + 8)) (ks' := (ks + 48)) (by omega) (by omega) ?_
  exact g_L_law_3616  C X Z hkc hk28 h
set_option maxHeartbeats 4000000 in
set_option maxRecDepth 100000 in
theorem g_L_law_664 {Γ : ΓT} {ad : Nat → Nat} {b N : Nat} {xs : Nat → Int32} {μ : Mm} {k28 : Int32 → Mm → Option Unit} {kc ks n : Nat} {x5 : Int32} {r : Unit} (C : Cx Γ RL cL_law 9) (X : Ry Γ room_1) (Z : Zx Γ b N xs) (hkc : kc + 10 * (n + 1) ≤ 601024 ∧ ks + 60 * (n + 1) ≤ 7293034) (hk28 : ∀ (x5 : Int32) (ν : Mm) (kc2 ks2 : Nat), kc2 ≤ kc + 10 → ks2 ≤ ks + 60 → k28 x5 ν = some r → G Γ ad layL 9 ν 28 [(0, .ref b), (1, .ref (ad 0)), (2, .ref (ad 157)), (3, .ref (ad 170)), (4, .ref (ad 171)), (5, .int x5)] [] kc2 ks2) (h : b_L_law_664 N xs μ k28 x5 = some r) : G Γ ad layL 9 μ 664 [(0, .ref b), (1, .ref (ad 0)), (2, .ref (ad 157)), (3, .ref (ad 170)), (4, .ref (ad 171)), (5, .int x5)] [] kc ks := by
  unfold b_L_law_664 at h
  refine g_aload_n C dL_law_664 1 rfl ?_
  refine g_aload_n C dL_law_665 0 rfl ?_
  refine g_iload C dL_law_666 5 rfl ?_
  refine g_iconst C dL_law_668 iv_1 ?_
  refine g_iadd C dL_law_669 ?_
  obtain ⟨hz670, h⟩ := i_n h
  refine g_scr Z C hz670 dL_law_670 ?_
  refine g_aload_n C dL_law_671 3 rfl ?_
  obtain ⟨q672, hq672, h⟩ := i_b h
  have hc672 := c_L_capacity (ad := ad) (sd := gsd Γ) (ry_tr X) hq672
  refine g_callSxy [.ref (ad 0), .int (xs (Int32.toNatClampNeg (x5 + 1))), .ref (ad 170)] [] C X k_RL_216 hc672 (by decide) (by first | (constructor <;> (simp only [rm_L_capacity, room_1]; omega)) | omega) rfl (Nat.le_of_ble_eq_true rfl) rfl dL_law_672 (stk2 := [.int q672.1]) rfl rfl rfl ?_
  refine g_istore (L' := [(6, .int q672.1), (0, .ref b), (1, .ref (ad 0)), (2, .ref (ad 157)), (3, .ref (ad 170)), (4, .ref (ad 171)), (5, .int x5)]) C dL_law_675 (by decide) rfl ?_
  refine g_aload_n C dL_law_677 3 rfl ?_
  refine g_aload_n C dL_law_678 1 rfl ?_
  refine g_iload C dL_law_679 6 rfl ?_
  refine g_iconst C dL_law_681 iv_1 ?_
  refine g_iadd C dL_law_682 ?_
  obtain ⟨hz683, h⟩ := i_n h
  refine g_scr Z C hz683 dL_law_683 ?_
  obtain ⟨q684, hq684, h⟩ := i_b h
  have hc684 := c_X10_capacity (ad := ad) (sd := gsd Γ) (ry_tr X) hq684
  refine g_callVny [.int (xs (Int32.toNatClampNeg (x5 + 1)))] [] C X k_RL_218 hc684 ly_157 rfl (by decide) (by first | (constructor <;> (simp only [rm_X10_capacity, room_1]; omega)) | omega) rfl (Nat.le_of_ble_eq_true rfl) rfl dL_law_684 (stk2 := [.long q684.1]) rfl rfl rfl ?_
  refine g_lstore (L' := [(7, .long q684.1), (6, .int q672.1), (0, .ref b), (1, .ref (ad 0)), (2, .ref (ad 157)), (3, .ref (ad 170)), (4, .ref (ad 171)), (5, .int x5)]) C dL_law_687 (by decide) rfl ?_
  refine g_aload_n C dL_law_689 4 rfl ?_
  obtain ⟨q690, hq690, h⟩ := i_b h
  have hc690 := c_X10_thrown (ad := ad) (sd := gsd Γ) (ry_tr X) hq690
  refine g_callVny [] [] C X k_RL_203 hc690 ly_157 rfl (by decide) (by first | (constructor <;> (simp only [rm_X10_thrown, room_1]; omega)) | omega) rfl (Nat.le_of_ble_eq_true rfl) rfl dL_law_690 (stk2 := [.int q690]) rfl rfl rfl ?_
  refine g_iload C dL_law_693 1 rfl ?_
  refine g_icmp_eq (tgt := 700) C dL_law_695 (by decide) (fun c => ?_) (fun c => ?_)
  · replace h := i_t c h
    refine g_iload C dL_law_700 1 rfl ?_
    refine g_if_ne (tgt := 716) C dL_law_702 (by decide) (fun c => ?_) (fun c => ?_)
    · replace h := i_f c h
      refine g_sub (L' := [(0, .ref b), (1, .ref (ad 0)), (2, .ref (ad 157)), (3, .ref (ad 170)), (4, .ref (ad 171)), (5, .int x5)]) [2, 3, 4, 5, 6, 7] rfl ?_
      exact g_L_law_716  C X Z hkc hk28 h
    · replace h := i_t c h
      refine g_aload_n C dL_law_705 5 rfl ?_
      refine g_iconst C dL_law_706 iv_0 ?_
      obtain ⟨hz707, h⟩ := i_n h
      refine g_lald C ly_170 hz707 dL_law_707 ?_
      refine g_lload C dL_law_708 0 rfl ?_
      refine g_lcmp C dL_law_710 ?_
      refine g_if_eq (tgt := 716) C dL_law_711 (by decide) (fun c => ?_) (fun c => ?_)
      · replace h := i_t c h
        refine g_sub (L' := [(0, .ref b), (1, .ref (ad 0)), (2, .ref (ad 157)), (3, .ref (ad 170)), (4, .ref (ad 171)), (5, .int x5)]) [2, 3, 4, 5, 6, 7] rfl ?_
        exact g_L_law_716  C X Z hkc hk28 h
      · replace h := i_f c h
        refine g_iconst C dL_law_714 iv_0 ?_
        cases h
  · replace h := i_f c h
    refine g_iconst C dL_law_698 iv_0 ?_
    cases h
set_option maxHeartbeats 4000000 in
set_option maxRecDepth 100000 in
theorem g_L_law_796 {Γ : ΓT} {ad : Nat → Nat} {b N : Nat} {xs : Nat → Int32} {μ : Mm} {k28 : Int32 → Mm → Option Unit} {kc ks n : Nat} {x5 : Int32} {r : Unit} (C : Cx Γ RL cL_law 9) (X : Ry Γ room_1) (Z : Zx Γ b N xs) (hkc : kc + 10 * (n + 1) ≤ 601024 ∧ ks + 60 * (n + 1) ≤ 7293034) (hk28 : ∀ (x5 : Int32) (ν : Mm) (kc2 ks2 : Nat), kc2 ≤ kc + 10 → ks2 ≤ ks + 60 → k28 x5 ν = some r → G Γ ad layL 9 ν 28 [(0, .ref b), (1, .ref (ad 0)), (2, .ref (ad 157)), (3, .ref (ad 170)), (4, .ref (ad 171)), (5, .int x5)] [] kc2 ks2) (h : b_L_law_796 N xs μ k28 x5 = some r) : G Γ ad layL 9 μ 796 [(0, .ref b), (1, .ref (ad 0)), (2, .ref (ad 157)), (3, .ref (ad 170)), (4, .ref (ad 171)), (5, .int x5)] [] (kc + 3) (ks + 18) := by
  unfold b_L_law_796 at h
  refine g_goto (tgt := 3616) C dL_law_796 (by decide) ?_
  refine g_wid (kc' := (kc + 8)) (ks' := (ks + 48)) (by omega) (by omega) ?_
  exact g_L_law_3616  C X Z hkc hk28 h
set_option maxHeartbeats 4000000 in
set_option maxRecDepth 100000 in
theorem g_L_law_719 {Γ : ΓT} {ad : Nat → Nat} {b N : Nat} {xs : Nat → Int32} {μ : Mm} {k28 : Int32 → Mm → Option Unit} {kc ks n : Nat} {x5 : Int32} {r : Unit} (C : Cx Γ RL cL_law 9) (X : Ry Γ room_1) (Z : Zx Γ b N xs) (hkc : kc + 10 * (n + 1) ≤ 601024 ∧ ks + 60 * (n + 1) ≤ 7293034) (hk28 : ∀ (x5 : Int32) (ν : Mm) (kc2 ks2 : Nat), kc2 ≤ kc + 10 → ks2 ≤ ks + 60 → k28 x5 ν = some r → G Γ ad layL 9 ν 28 [(0, .ref b), (1, .ref (ad 0)), (2, .ref (ad 157)), (3, .ref (ad 170)), (4, .ref (ad 171)), (5, .int x5)] [] kc2 ks2) (h : b_L_law_719 N xs μ k28 x5 = some r) : G Γ ad layL 9 μ 719 [(0, .ref b), (1, .ref (ad 0)), (2, .ref (ad 157)), (3, .ref (ad 170)), (4, .ref (ad 171)), (5, .int x5)] [] kc ks := by
  unfold b_L_law_719 at h
  refine g_aload_n C dL_law_719 1 rfl ?_
  refine g_aload_n C dL_law_720 0 rfl ?_
  refine g_iload C dL_law_721 5 rfl ?_
  refine g_iconst C dL_law_723 iv_1 ?_
  refine g_iadd C dL_law_724 ?_
  obtain ⟨hz725, h⟩ := i_n h
  refine g_scr Z C hz725 dL_law_725 ?_
  refine g_aload_n C dL_law_726 0 rfl ?_
  refine g_iload C dL_law_727 5 rfl ?_
  refine g_iconst C dL_law_729 iv_2 ?_
  refine g_iadd C dL_law_730 ?_
  obtain ⟨hz731, h⟩ := i_n h
  refine g_scr Z C hz731 dL_law_731 ?_
  refine g_aload_n C dL_law_732 0 rfl ?_
  refine g_iload C dL_law_733 5 rfl ?_
  refine g_iconst C dL_law_735 iv_3 ?_
  refine g_iadd C dL_law_736 ?_
  obtain ⟨hz737, h⟩ := i_n h
  refine g_scr Z C hz737 dL_law_737 ?_
  refine g_aload_n C dL_law_738 3 rfl ?_
  obtain ⟨q739, hq739, h⟩ := i_b h
  have hc739 := c_L_layer (ad := ad) (sd := gsd Γ) (ry_tr X) hq739
  refine g_callSxy [.ref (ad 0), .int (xs (Int32.toNatClampNeg (x5 + 1))), .int (xs (Int32.toNatClampNeg (x5 + 2))), .int (xs (Int32.toNatClampNeg (x5 + 3))), .ref (ad 170)] [] C X k_RL_219 hc739 (by decide) (by first | (constructor <;> (simp only [rm_L_layer, room_1]; omega)) | omega) rfl (Nat.le_of_ble_eq_true rfl) rfl dL_law_739 (stk2 := [.int q739.1]) rfl rfl rfl ?_
  refine g_istore (L' := [(6, .int q739.1), (0, .ref b), (1, .ref (ad 0)), (2, .ref (ad 157)), (3, .ref (ad 170)), (4, .ref (ad 171)), (5, .int x5)]) C dL_law_742 (by decide) rfl ?_
  refine g_aload_n C dL_law_744 3 rfl ?_
  refine g_aload_n C dL_law_745 1 rfl ?_
  refine g_iload C dL_law_746 6 rfl ?_
  refine g_iconst C dL_law_748 iv_1 ?_
  refine g_iadd C dL_law_749 ?_
  obtain ⟨hz750, h⟩ := i_n h
  refine g_scr Z C hz750 dL_law_750 ?_
  refine g_aload_n C dL_law_751 1 rfl ?_
  refine g_iload C dL_law_752 6 rfl ?_
  refine g_iconst C dL_law_754 iv_2 ?_
  refine g_iadd C dL_law_755 ?_
  obtain ⟨hz756, h⟩ := i_n h
  refine g_scr Z C hz756 dL_law_756 ?_
  refine g_aload_n C dL_law_757 1 rfl ?_
  refine g_iload C dL_law_758 6 rfl ?_
  refine g_iconst C dL_law_760 iv_3 ?_
  refine g_iadd C dL_law_761 ?_
  obtain ⟨hz762, h⟩ := i_n h
  refine g_scr Z C hz762 dL_law_762 ?_
  obtain ⟨q763, hq763, h⟩ := i_b h
  have hc763 := c_X10_layer (ad := ad) (sd := gsd Γ) (ry_tr X) hq763
  refine g_callVny [.int (xs (Int32.toNatClampNeg (x5 + 1))), .int (xs (Int32.toNatClampNeg (x5 + 2))), .int (xs (Int32.toNatClampNeg (x5 + 3)))] [] C X k_RL_222 hc763 ly_157 rfl (by decide) (by first | (constructor <;> (simp only [rm_X10_layer, room_1]; omega)) | omega) rfl (Nat.le_of_ble_eq_true rfl) rfl dL_law_763 (stk2 := [.int q763.1]) rfl rfl rfl ?_
  refine g_istore (L' := [(7, .int q763.1), (6, .int q739.1), (0, .ref b), (1, .ref (ad 0)), (2, .ref (ad 157)), (3, .ref (ad 170)), (4, .ref (ad 171)), (5, .int x5)]) C dL_law_766 (by decide) rfl ?_
  refine g_aload_n C dL_law_768 4 rfl ?_
  obtain ⟨q769, hq769, h⟩ := i_b h
  have hc769 := c_X10_thrown (ad := ad) (sd := gsd Γ) (ry_tr X) hq769
  refine g_callVny [] [] C X k_RL_203 hc769 ly_157 rfl (by decide) (by first | (constructor <;> (simp only [rm_X10_thrown, room_1]; omega)) | omega) rfl (Nat.le_of_ble_eq_true rfl) rfl dL_law_769 (stk2 := [.int q769]) rfl rfl rfl ?_
  refine g_iload C dL_law_772 1 rfl ?_
  refine g_icmp_eq (tgt := 779) C dL_law_774 (by decide) (fun c => ?_) (fun c => ?_)
  · replace h := i_t c h
    refine g_iload C dL_law_779 1 rfl ?_
    refine g_if_ne (tgt := 796) C dL_law_781 (by decide) (fun c => ?_) (fun c => ?_)
    · replace h := i_f c h
      refine g_sub (L' := [(0, .ref b), (1, .ref (ad 0)), (2, .ref (ad 157)), (3, .ref (ad 170)), (4, .ref (ad 171)), (5, .int x5)]) [2, 3, 4, 5, 6, 7] rfl ?_
      exact g_L_law_796  C X Z hkc hk28 h
    · replace h := i_t c h
      refine g_aload_n C dL_law_784 5 rfl ?_
      refine g_iconst C dL_law_785 iv_0 ?_
      obtain ⟨hz786, h⟩ := i_n h
      refine g_lald C ly_170 hz786 dL_law_786 ?_
      refine g_iload C dL_law_787 0 rfl ?_
      refine g_i2l C dL_law_789 ?_
      refine g_lcmp C dL_law_790 ?_
      refine g_if_eq (tgt := 796) C dL_law_791 (by decide) (fun c => ?_) (fun c => ?_)
      · replace h := i_t c h
        refine g_sub (L' := [(0, .ref b), (1, .ref (ad 0)), (2, .ref (ad 157)), (3, .ref (ad 170)), (4, .ref (ad 171)), (5, .int x5)]) [2, 3, 4, 5, 6, 7] rfl ?_
        exact g_L_law_796  C X Z hkc hk28 h
      · replace h := i_f c h
        refine g_iconst C dL_law_794 iv_0 ?_
        cases h
  · replace h := i_f c h
    refine g_iconst C dL_law_777 iv_0 ?_
    cases h
set_option maxHeartbeats 4000000 in
set_option maxRecDepth 100000 in
theorem g_L_law_864 {Γ : ΓT} {ad : Nat → Nat} {b N : Nat} {xs : Nat → Int32} {μ : Mm} {k28 : Int32 → Mm → Option Unit} {kc ks n : Nat} {x5 : Int32} {r : Unit} (C : Cx Γ RL cL_law 9) (X : Ry Γ room_1) (Z : Zx Γ b N xs) (hkc : kc + 10 * (n + 1) ≤ 601024 ∧ ks + 60 * (n + 1) ≤ 7293034) (hk28 : ∀ (x5 : Int32) (ν : Mm) (kc2 ks2 : Nat), kc2 ≤ kc + 10 → ks2 ≤ ks + 60 → k28 x5 ν = some r → G Γ ad layL 9 ν 28 [(0, .ref b), (1, .ref (ad 0)), (2, .ref (ad 157)), (3, .ref (ad 170)), (4, .ref (ad 171)), (5, .int x5)] [] kc2 ks2) (h : b_L_law_864 N xs μ k28 x5 = some r) : G Γ ad layL 9 μ 864 [(0, .ref b), (1, .ref (ad 0)), (2, .ref (ad 157)), (3, .ref (ad 170)), (4, .ref (ad 171)), (5, .int x5)] [] (kc + 2) (ks + 12) := by
  unfold b_L_law_864 at h
  refine g_goto (tgt := 3616) C dL_law_864 (by decide) ?_
  refine g_wid (kc' := (kc + 8)) (ks' := (ks + 48)) (by omega) (by omega) ?_
  exact g_L_law_3616  C X Z hkc hk28 h
set_option maxHeartbeats 4000000 in
set_option maxRecDepth 100000 in
theorem g_L_law_799 {Γ : ΓT} {ad : Nat → Nat} {b N : Nat} {xs : Nat → Int32} {μ : Mm} {k28 : Int32 → Mm → Option Unit} {kc ks n : Nat} {x5 : Int32} {r : Unit} (C : Cx Γ RL cL_law 9) (X : Ry Γ room_1) (Z : Zx Γ b N xs) (hkc : kc + 10 * (n + 1) ≤ 601024 ∧ ks + 60 * (n + 1) ≤ 7293034) (hk28 : ∀ (x5 : Int32) (ν : Mm) (kc2 ks2 : Nat), kc2 ≤ kc + 10 → ks2 ≤ ks + 60 → k28 x5 ν = some r → G Γ ad layL 9 ν 28 [(0, .ref b), (1, .ref (ad 0)), (2, .ref (ad 157)), (3, .ref (ad 170)), (4, .ref (ad 171)), (5, .int x5)] [] kc2 ks2) (h : b_L_law_799 N xs μ k28 x5 = some r) : G Γ ad layL 9 μ 799 [(0, .ref b), (1, .ref (ad 0)), (2, .ref (ad 157)), (3, .ref (ad 170)), (4, .ref (ad 171)), (5, .int x5)] [] kc ks := by
  unfold b_L_law_799 at h
  refine g_aload_n C dL_law_799 1 rfl ?_
  refine g_aload_n C dL_law_800 0 rfl ?_
  refine g_iload C dL_law_801 5 rfl ?_
  refine g_iconst C dL_law_803 iv_1 ?_
  refine g_iadd C dL_law_804 ?_
  obtain ⟨hz805, h⟩ := i_n h
  refine g_scr Z C hz805 dL_law_805 ?_
  refine g_aload_n C dL_law_806 0 rfl ?_
  refine g_iload C dL_law_807 5 rfl ?_
  refine g_iconst C dL_law_809 iv_2 ?_
  refine g_iadd C dL_law_810 ?_
  obtain ⟨hz811, h⟩ := i_n h
  refine g_scr Z C hz811 dL_law_811 ?_
  refine g_aload_n C dL_law_812 3 rfl ?_
  obtain ⟨q813, hq813, h⟩ := i_b h
  have hc813 := c_L_core (ad := ad) (sd := gsd Γ) (ry_tr X) hq813
  refine g_callSxy [.ref (ad 0), .int (xs (Int32.toNatClampNeg (x5 + 1))), .int (xs (Int32.toNatClampNeg (x5 + 2))), .ref (ad 170)] [] C X k_RL_223 hc813 (by decide) (by first | (constructor <;> (simp only [rm_L_core, room_1]; omega)) | omega) rfl (Nat.le_of_ble_eq_true rfl) rfl dL_law_813 (stk2 := [.int q813.1]) rfl rfl rfl ?_
  refine g_istore (L' := [(6, .int q813.1), (0, .ref b), (1, .ref (ad 0)), (2, .ref (ad 157)), (3, .ref (ad 170)), (4, .ref (ad 171)), (5, .int x5)]) C dL_law_816 (by decide) rfl ?_
  refine g_aload_n C dL_law_818 3 rfl ?_
  refine g_aload_n C dL_law_819 1 rfl ?_
  refine g_iload C dL_law_820 6 rfl ?_
  refine g_iconst C dL_law_822 iv_1 ?_
  refine g_iadd C dL_law_823 ?_
  obtain ⟨hz824, h⟩ := i_n h
  refine g_scr Z C hz824 dL_law_824 ?_
  refine g_aload_n C dL_law_825 1 rfl ?_
  refine g_iload C dL_law_826 6 rfl ?_
  refine g_iconst C dL_law_828 iv_2 ?_
  refine g_iadd C dL_law_829 ?_
  obtain ⟨hz830, h⟩ := i_n h
  refine g_scr Z C hz830 dL_law_830 ?_
  obtain ⟨q831, hq831, h⟩ := i_b h
  have hc831 := c_X10_core (ad := ad) (sd := gsd Γ) (ry_tr X) hq831
  refine g_callVny [.int (xs (Int32.toNatClampNeg (x5 + 1))), .int (xs (Int32.toNatClampNeg (x5 + 2)))] [] C X k_RL_225 hc831 ly_157 rfl (by decide) (by first | (constructor <;> (simp only [rm_X10_core, room_1]; omega)) | omega) rfl (Nat.le_of_ble_eq_true rfl) rfl dL_law_831 (stk2 := [.int q831.1]) rfl rfl rfl ?_
  refine g_istore (L' := [(7, .int q831.1), (6, .int q813.1), (0, .ref b), (1, .ref (ad 0)), (2, .ref (ad 157)), (3, .ref (ad 170)), (4, .ref (ad 171)), (5, .int x5)]) C dL_law_834 (by decide) rfl ?_
  refine g_aload_n C dL_law_836 4 rfl ?_
  obtain ⟨q837, hq837, h⟩ := i_b h
  have hc837 := c_X10_thrown (ad := ad) (sd := gsd Γ) (ry_tr X) hq837
  refine g_callVny [] [] C X k_RL_203 hc837 ly_157 rfl (by decide) (by first | (constructor <;> (simp only [rm_X10_thrown, room_1]; omega)) | omega) rfl (Nat.le_of_ble_eq_true rfl) rfl dL_law_837 (stk2 := [.int q837]) rfl rfl rfl ?_
  refine g_iload C dL_law_840 1 rfl ?_
  refine g_icmp_eq (tgt := 847) C dL_law_842 (by decide) (fun c => ?_) (fun c => ?_)
  · replace h := i_t c h
    refine g_iload C dL_law_847 1 rfl ?_
    refine g_if_ne (tgt := 864) C dL_law_849 (by decide) (fun c => ?_) (fun c => ?_)
    · replace h := i_f c h
      refine g_sub (L' := [(0, .ref b), (1, .ref (ad 0)), (2, .ref (ad 157)), (3, .ref (ad 170)), (4, .ref (ad 171)), (5, .int x5)]) [2, 3, 4, 5, 6, 7] rfl ?_
      exact g_L_law_864  C X Z hkc hk28 h
    · replace h := i_t c h
      refine g_aload_n C dL_law_852 5 rfl ?_
      refine g_iconst C dL_law_853 iv_0 ?_
      obtain ⟨hz854, h⟩ := i_n h
      refine g_lald C ly_170 hz854 dL_law_854 ?_
      refine g_iload C dL_law_855 0 rfl ?_
      refine g_i2l C dL_law_857 ?_
      refine g_lcmp C dL_law_858 ?_
      refine g_if_eq (tgt := 864) C dL_law_859 (by decide) (fun c => ?_) (fun c => ?_)
      · replace h := i_t c h
        refine g_sub (L' := [(0, .ref b), (1, .ref (ad 0)), (2, .ref (ad 157)), (3, .ref (ad 170)), (4, .ref (ad 171)), (5, .int x5)]) [2, 3, 4, 5, 6, 7] rfl ?_
        exact g_L_law_864  C X Z hkc hk28 h
      · replace h := i_f c h
        refine g_iconst C dL_law_862 iv_0 ?_
        cases h
  · replace h := i_f c h
    refine g_iconst C dL_law_845 iv_0 ?_
    cases h
set_option maxHeartbeats 4000000 in
set_option maxRecDepth 100000 in
theorem g_L_law_932 {Γ : ΓT} {ad : Nat → Nat} {b N : Nat} {xs : Nat → Int32} {μ : Mm} {k28 : Int32 → Mm → Option Unit} {kc ks n : Nat} {x5 : Int32} {r : Unit} (C : Cx Γ RL cL_law 9) (X : Ry Γ room_1) (Z : Zx Γ b N xs) (hkc : kc + 10 * (n + 1) ≤ 601024 ∧ ks + 60 * (n + 1) ≤ 7293034) (hk28 : ∀ (x5 : Int32) (ν : Mm) (kc2 ks2 : Nat), kc2 ≤ kc + 10 → ks2 ≤ ks + 60 → k28 x5 ν = some r → G Γ ad layL 9 ν 28 [(0, .ref b), (1, .ref (ad 0)), (2, .ref (ad 157)), (3, .ref (ad 170)), (4, .ref (ad 171)), (5, .int x5)] [] kc2 ks2) (h : b_L_law_932 N xs μ k28 x5 = some r) : G Γ ad layL 9 μ 932 [(0, .ref b), (1, .ref (ad 0)), (2, .ref (ad 157)), (3, .ref (ad 170)), (4, .ref (ad 171)), (5, .int x5)] [] (kc + 2) (ks + 12) := by
  unfold b_L_law_932 at h
  refine g_goto (tgt := 3616) C dL_law_932 (by decide) ?_
  refine g_wid (kc' := (kc + 8)) (ks' := (ks + 48)) (by omega) (by omega) ?_
  exact g_L_law_3616  C X Z hkc hk28 h
set_option maxHeartbeats 4000000 in
set_option maxRecDepth 100000 in
theorem g_L_law_867 {Γ : ΓT} {ad : Nat → Nat} {b N : Nat} {xs : Nat → Int32} {μ : Mm} {k28 : Int32 → Mm → Option Unit} {kc ks n : Nat} {x5 : Int32} {r : Unit} (C : Cx Γ RL cL_law 9) (X : Ry Γ room_1) (Z : Zx Γ b N xs) (hkc : kc + 10 * (n + 1) ≤ 601024 ∧ ks + 60 * (n + 1) ≤ 7293034) (hk28 : ∀ (x5 : Int32) (ν : Mm) (kc2 ks2 : Nat), kc2 ≤ kc + 10 → ks2 ≤ ks + 60 → k28 x5 ν = some r → G Γ ad layL 9 ν 28 [(0, .ref b), (1, .ref (ad 0)), (2, .ref (ad 157)), (3, .ref (ad 170)), (4, .ref (ad 171)), (5, .int x5)] [] kc2 ks2) (h : b_L_law_867 N xs μ k28 x5 = some r) : G Γ ad layL 9 μ 867 [(0, .ref b), (1, .ref (ad 0)), (2, .ref (ad 157)), (3, .ref (ad 170)), (4, .ref (ad 171)), (5, .int x5)] [] kc ks := by
  unfold b_L_law_867 at h
  refine g_aload_n C dL_law_867 1 rfl ?_
  refine g_aload_n C dL_law_868 0 rfl ?_
  refine g_iload C dL_law_869 5 rfl ?_
  refine g_iconst C dL_law_871 iv_1 ?_
  refine g_iadd C dL_law_872 ?_
  obtain ⟨hz873, h⟩ := i_n h
  refine g_scr Z C hz873 dL_law_873 ?_
  refine g_aload_n C dL_law_874 0 rfl ?_
  refine g_iload C dL_law_875 5 rfl ?_
  refine g_iconst C dL_law_877 iv_2 ?_
  refine g_iadd C dL_law_878 ?_
  obtain ⟨hz879, h⟩ := i_n h
  refine g_scr Z C hz879 dL_law_879 ?_
  refine g_aload_n C dL_law_880 3 rfl ?_
  obtain ⟨q881, hq881, h⟩ := i_b h
  have hc881 := c_L_load (ad := ad) (sd := gsd Γ) (ry_tr X) hq881
  refine g_callSxy [.ref (ad 0), .int (xs (Int32.toNatClampNeg (x5 + 1))), .int (xs (Int32.toNatClampNeg (x5 + 2))), .ref (ad 170)] [] C X k_RL_226 hc881 (by decide) (by first | (constructor <;> (simp only [rm_L_load, room_1]; omega)) | omega) rfl (Nat.le_of_ble_eq_true rfl) rfl dL_law_881 (stk2 := [.int q881.1]) rfl rfl rfl ?_
  refine g_istore (L' := [(6, .int q881.1), (0, .ref b), (1, .ref (ad 0)), (2, .ref (ad 157)), (3, .ref (ad 170)), (4, .ref (ad 171)), (5, .int x5)]) C dL_law_884 (by decide) rfl ?_
  refine g_aload_n C dL_law_886 3 rfl ?_
  refine g_aload_n C dL_law_887 1 rfl ?_
  refine g_iload C dL_law_888 6 rfl ?_
  refine g_iconst C dL_law_890 iv_1 ?_
  refine g_iadd C dL_law_891 ?_
  obtain ⟨hz892, h⟩ := i_n h
  refine g_scr Z C hz892 dL_law_892 ?_
  refine g_aload_n C dL_law_893 1 rfl ?_
  refine g_iload C dL_law_894 6 rfl ?_
  refine g_iconst C dL_law_896 iv_2 ?_
  refine g_iadd C dL_law_897 ?_
  obtain ⟨hz898, h⟩ := i_n h
  refine g_scr Z C hz898 dL_law_898 ?_
  obtain ⟨q899, hq899, h⟩ := i_b h
  have hc899 := c_X10_load (ad := ad) (sd := gsd Γ) (ry_tr X) hq899
  refine g_callVny [.int (xs (Int32.toNatClampNeg (x5 + 1))), .int (xs (Int32.toNatClampNeg (x5 + 2)))] [] C X k_RL_228 hc899 ly_157 rfl (by decide) (by first | (constructor <;> (simp only [rm_X10_load, room_1]; omega)) | omega) rfl (Nat.le_of_ble_eq_true rfl) rfl dL_law_899 (stk2 := [.int q899.1]) rfl rfl rfl ?_
  refine g_istore (L' := [(7, .int q899.1), (6, .int q881.1), (0, .ref b), (1, .ref (ad 0)), (2, .ref (ad 157)), (3, .ref (ad 170)), (4, .ref (ad 171)), (5, .int x5)]) C dL_law_902 (by decide) rfl ?_
  refine g_aload_n C dL_law_904 4 rfl ?_
  obtain ⟨q905, hq905, h⟩ := i_b h
  have hc905 := c_X10_thrown (ad := ad) (sd := gsd Γ) (ry_tr X) hq905
  refine g_callVny [] [] C X k_RL_203 hc905 ly_157 rfl (by decide) (by first | (constructor <;> (simp only [rm_X10_thrown, room_1]; omega)) | omega) rfl (Nat.le_of_ble_eq_true rfl) rfl dL_law_905 (stk2 := [.int q905]) rfl rfl rfl ?_
  refine g_iload C dL_law_908 1 rfl ?_
  refine g_icmp_eq (tgt := 915) C dL_law_910 (by decide) (fun c => ?_) (fun c => ?_)
  · replace h := i_t c h
    refine g_iload C dL_law_915 1 rfl ?_
    refine g_if_ne (tgt := 932) C dL_law_917 (by decide) (fun c => ?_) (fun c => ?_)
    · replace h := i_f c h
      refine g_sub (L' := [(0, .ref b), (1, .ref (ad 0)), (2, .ref (ad 157)), (3, .ref (ad 170)), (4, .ref (ad 171)), (5, .int x5)]) [2, 3, 4, 5, 6, 7] rfl ?_
      exact g_L_law_932  C X Z hkc hk28 h
    · replace h := i_t c h
      refine g_aload_n C dL_law_920 5 rfl ?_
      refine g_iconst C dL_law_921 iv_0 ?_
      obtain ⟨hz922, h⟩ := i_n h
      refine g_lald C ly_170 hz922 dL_law_922 ?_
      refine g_iload C dL_law_923 0 rfl ?_
      refine g_i2l C dL_law_925 ?_
      refine g_lcmp C dL_law_926 ?_
      refine g_if_eq (tgt := 932) C dL_law_927 (by decide) (fun c => ?_) (fun c => ?_)
      · replace h := i_t c h
        refine g_sub (L' := [(0, .ref b), (1, .ref (ad 0)), (2, .ref (ad 157)), (3, .ref (ad 170)), (4, .ref (ad 171)), (5, .int x5)]) [2, 3, 4, 5, 6, 7] rfl ?_
        exact g_L_law_932  C X Z hkc hk28 h
      · replace h := i_f c h
        refine g_iconst C dL_law_930 iv_0 ?_
        cases h
  · replace h := i_f c h
    refine g_iconst C dL_law_913 iv_0 ?_
    cases h
set_option maxHeartbeats 4000000 in
set_option maxRecDepth 100000 in
theorem g_L_law_987 {Γ : ΓT} {ad : Nat → Nat} {b N : Nat} {xs : Nat → Int32} {μ : Mm} {k28 : Int32 → Mm → Option Unit} {kc ks n : Nat} {x5 : Int32} {r : Unit} (C : Cx Γ RL cL_law 9) (X : Ry Γ room_1) (Z : Zx Γ b N xs) (hkc : kc + 10 * (n + 1) ≤ 601024 ∧ ks + 60 * (n + 1) ≤ 7293034) (hk28 : ∀ (x5 : Int32) (ν : Mm) (kc2 ks2 : Nat), kc2 ≤ kc + 10 → ks2 ≤ ks + 60 → k28 x5 ν = some r → G Γ ad layL 9 ν 28 [(0, .ref b), (1, .ref (ad 0)), (2, .ref (ad 157)), (3, .ref (ad 170)), (4, .ref (ad 171)), (5, .int x5)] [] kc2 ks2) (h : b_L_law_987 N xs μ k28 x5 = some r) : G Γ ad layL 9 μ 987 [(0, .ref b), (1, .ref (ad 0)), (2, .ref (ad 157)), (3, .ref (ad 170)), (4, .ref (ad 171)), (5, .int x5)] [] (kc + 1) (ks + 6) := by
  unfold b_L_law_987 at h
  refine g_goto (tgt := 3616) C dL_law_987 (by decide) ?_
  refine g_wid (kc' := (kc + 8)) (ks' := (ks + 48)) (by omega) (by omega) ?_
  exact g_L_law_3616  C X Z hkc hk28 h
set_option maxHeartbeats 4000000 in
set_option maxRecDepth 100000 in
theorem g_L_law_935 {Γ : ΓT} {ad : Nat → Nat} {b N : Nat} {xs : Nat → Int32} {μ : Mm} {k28 : Int32 → Mm → Option Unit} {kc ks n : Nat} {x5 : Int32} {r : Unit} (C : Cx Γ RL cL_law 9) (X : Ry Γ room_1) (Z : Zx Γ b N xs) (hkc : kc + 10 * (n + 1) ≤ 601024 ∧ ks + 60 * (n + 1) ≤ 7293034) (hk28 : ∀ (x5 : Int32) (ν : Mm) (kc2 ks2 : Nat), kc2 ≤ kc + 10 → ks2 ≤ ks + 60 → k28 x5 ν = some r → G Γ ad layL 9 ν 28 [(0, .ref b), (1, .ref (ad 0)), (2, .ref (ad 157)), (3, .ref (ad 170)), (4, .ref (ad 171)), (5, .int x5)] [] kc2 ks2) (h : b_L_law_935 N xs μ k28 x5 = some r) : G Γ ad layL 9 μ 935 [(0, .ref b), (1, .ref (ad 0)), (2, .ref (ad 157)), (3, .ref (ad 170)), (4, .ref (ad 171)), (5, .int x5)] [] kc ks := by
  unfold b_L_law_935 at h
  refine g_aload_n C dL_law_935 1 rfl ?_
  refine g_aload_n C dL_law_936 0 rfl ?_
  refine g_iload C dL_law_937 5 rfl ?_
  refine g_iconst C dL_law_939 iv_1 ?_
  refine g_iadd C dL_law_940 ?_
  obtain ⟨hz941, h⟩ := i_n h
  refine g_scr Z C hz941 dL_law_941 ?_
  refine g_aload_n C dL_law_942 3 rfl ?_
  obtain ⟨q943, hq943, h⟩ := i_b h
  have hc943 := c_L_base (ad := ad) (sd := gsd Γ) (ry_tr X) hq943
  refine g_callSxy [.ref (ad 0), .int (xs (Int32.toNatClampNeg (x5 + 1))), .ref (ad 170)] [] C X k_RL_229 hc943 (by decide) (by first | (constructor <;> (simp only [rm_L_base, room_1]; omega)) | omega) rfl (Nat.le_of_ble_eq_true rfl) rfl dL_law_943 (stk2 := [.int q943.1]) rfl rfl rfl ?_
  refine g_istore (L' := [(6, .int q943.1), (0, .ref b), (1, .ref (ad 0)), (2, .ref (ad 157)), (3, .ref (ad 170)), (4, .ref (ad 171)), (5, .int x5)]) C dL_law_946 (by decide) rfl ?_
  refine g_aload_n C dL_law_948 3 rfl ?_
  refine g_aload_n C dL_law_949 1 rfl ?_
  refine g_iload C dL_law_950 6 rfl ?_
  refine g_iconst C dL_law_952 iv_1 ?_
  refine g_iadd C dL_law_953 ?_
  obtain ⟨hz954, h⟩ := i_n h
  refine g_scr Z C hz954 dL_law_954 ?_
  obtain ⟨q955, hq955, h⟩ := i_b h
  have hc955 := c_X10_base (ad := ad) (sd := gsd Γ) (ry_tr X) hq955
  refine g_callVny [.int (xs (Int32.toNatClampNeg (x5 + 1)))] [] C X k_RL_231 hc955 ly_157 rfl (by decide) (by first | (constructor <;> (simp only [rm_X10_base, room_1]; omega)) | omega) rfl (Nat.le_of_ble_eq_true rfl) rfl dL_law_955 (stk2 := [.long q955.1]) rfl rfl rfl ?_
  refine g_lstore (L' := [(7, .long q955.1), (6, .int q943.1), (0, .ref b), (1, .ref (ad 0)), (2, .ref (ad 157)), (3, .ref (ad 170)), (4, .ref (ad 171)), (5, .int x5)]) C dL_law_958 (by decide) rfl ?_
  refine g_aload_n C dL_law_960 4 rfl ?_
  obtain ⟨q961, hq961, h⟩ := i_b h
  have hc961 := c_X10_thrown (ad := ad) (sd := gsd Γ) (ry_tr X) hq961
  refine g_callVny [] [] C X k_RL_203 hc961 ly_157 rfl (by decide) (by first | (constructor <;> (simp only [rm_X10_thrown, room_1]; omega)) | omega) rfl (Nat.le_of_ble_eq_true rfl) rfl dL_law_961 (stk2 := [.int q961]) rfl rfl rfl ?_
  refine g_iload C dL_law_964 1 rfl ?_
  refine g_icmp_eq (tgt := 971) C dL_law_966 (by decide) (fun c => ?_) (fun c => ?_)
  · replace h := i_t c h
    refine g_iload C dL_law_971 1 rfl ?_
    refine g_if_ne (tgt := 987) C dL_law_973 (by decide) (fun c => ?_) (fun c => ?_)
    · replace h := i_f c h
      refine g_sub (L' := [(0, .ref b), (1, .ref (ad 0)), (2, .ref (ad 157)), (3, .ref (ad 170)), (4, .ref (ad 171)), (5, .int x5)]) [2, 3, 4, 5, 6, 7] rfl ?_
      exact g_L_law_987  C X Z hkc hk28 h
    · replace h := i_t c h
      refine g_aload_n C dL_law_976 5 rfl ?_
      refine g_iconst C dL_law_977 iv_0 ?_
      obtain ⟨hz978, h⟩ := i_n h
      refine g_lald C ly_170 hz978 dL_law_978 ?_
      refine g_lload C dL_law_979 0 rfl ?_
      refine g_lcmp C dL_law_981 ?_
      refine g_if_eq (tgt := 987) C dL_law_982 (by decide) (fun c => ?_) (fun c => ?_)
      · replace h := i_t c h
        refine g_sub (L' := [(0, .ref b), (1, .ref (ad 0)), (2, .ref (ad 157)), (3, .ref (ad 170)), (4, .ref (ad 171)), (5, .int x5)]) [2, 3, 4, 5, 6, 7] rfl ?_
        exact g_L_law_987  C X Z hkc hk28 h
      · replace h := i_f c h
        refine g_iconst C dL_law_985 iv_0 ?_
        cases h
  · replace h := i_f c h
    refine g_iconst C dL_law_969 iv_0 ?_
    cases h
set_option maxHeartbeats 4000000 in
set_option maxRecDepth 100000 in
theorem g_L_law_1054 {Γ : ΓT} {ad : Nat → Nat} {b N : Nat} {xs : Nat → Int32} {μ : Mm} {k28 : Int32 → Mm → Option Unit} {kc ks n : Nat} {x5 : Int32} {r : Unit} (C : Cx Γ RL cL_law 9) (X : Ry Γ room_1) (Z : Zx Γ b N xs) (hkc : kc + 10 * (n + 1) ≤ 601024 ∧ ks + 60 * (n + 1) ≤ 7293034) (hk28 : ∀ (x5 : Int32) (ν : Mm) (kc2 ks2 : Nat), kc2 ≤ kc + 10 → ks2 ≤ ks + 60 → k28 x5 ν = some r → G Γ ad layL 9 ν 28 [(0, .ref b), (1, .ref (ad 0)), (2, .ref (ad 157)), (3, .ref (ad 170)), (4, .ref (ad 171)), (5, .int x5)] [] kc2 ks2) (h : b_L_law_1054 N xs μ k28 x5 = some r) : G Γ ad layL 9 μ 1054 [(0, .ref b), (1, .ref (ad 0)), (2, .ref (ad 157)), (3, .ref (ad 170)), (4, .ref (ad 171)), (5, .int x5)] [] (kc + 2) (ks + 12) := by
  unfold b_L_law_1054 at h
  refine g_goto (tgt := 3616) C dL_law_1054 (by decide) ?_
  refine g_wid (kc' := (kc + 8)) (ks' := (ks + 48)) (by omega) (by omega) ?_
  exact g_L_law_3616  C X Z hkc hk28 h
set_option maxHeartbeats 4000000 in
set_option maxRecDepth 100000 in
theorem g_L_law_990 {Γ : ΓT} {ad : Nat → Nat} {b N : Nat} {xs : Nat → Int32} {μ : Mm} {k28 : Int32 → Mm → Option Unit} {kc ks n : Nat} {x5 : Int32} {r : Unit} (C : Cx Γ RL cL_law 9) (X : Ry Γ room_1) (Z : Zx Γ b N xs) (hkc : kc + 10 * (n + 1) ≤ 601024 ∧ ks + 60 * (n + 1) ≤ 7293034) (hk28 : ∀ (x5 : Int32) (ν : Mm) (kc2 ks2 : Nat), kc2 ≤ kc + 10 → ks2 ≤ ks + 60 → k28 x5 ν = some r → G Γ ad layL 9 ν 28 [(0, .ref b), (1, .ref (ad 0)), (2, .ref (ad 157)), (3, .ref (ad 170)), (4, .ref (ad 171)), (5, .int x5)] [] kc2 ks2) (h : b_L_law_990 N xs μ k28 x5 = some r) : G Γ ad layL 9 μ 990 [(0, .ref b), (1, .ref (ad 0)), (2, .ref (ad 157)), (3, .ref (ad 170)), (4, .ref (ad 171)), (5, .int x5)] [] kc ks := by
  unfold b_L_law_990 at h
  refine g_aload_n C dL_law_990 1 rfl ?_
  refine g_aload_n C dL_law_991 0 rfl ?_
  refine g_iload C dL_law_992 5 rfl ?_
  refine g_iconst C dL_law_994 iv_1 ?_
  refine g_iadd C dL_law_995 ?_
  obtain ⟨hz996, h⟩ := i_n h
  refine g_scr Z C hz996 dL_law_996 ?_
  refine g_aload_n C dL_law_997 0 rfl ?_
  refine g_iload C dL_law_998 5 rfl ?_
  refine g_iconst C dL_law_1000 iv_2 ?_
  refine g_iadd C dL_law_1001 ?_
  obtain ⟨hz1002, h⟩ := i_n h
  refine g_scr Z C hz1002 dL_law_1002 ?_
  refine g_aload_n C dL_law_1003 3 rfl ?_
  obtain ⟨q1004, hq1004, h⟩ := i_b h
  have hc1004 := c_L_baseOf (ad := ad) (sd := gsd Γ) (ry_tr X) hq1004
  refine g_callSxy [.ref (ad 0), .int (xs (Int32.toNatClampNeg (x5 + 1))), .int (xs (Int32.toNatClampNeg (x5 + 2))), .ref (ad 170)] [] C X k_RL_232 hc1004 (by decide) (by first | (constructor <;> (simp only [rm_L_baseOf, room_1]; omega)) | omega) rfl (Nat.le_of_ble_eq_true rfl) rfl dL_law_1004 (stk2 := [.int q1004.1]) rfl rfl rfl ?_
  refine g_istore (L' := [(6, .int q1004.1), (0, .ref b), (1, .ref (ad 0)), (2, .ref (ad 157)), (3, .ref (ad 170)), (4, .ref (ad 171)), (5, .int x5)]) C dL_law_1007 (by decide) rfl ?_
  refine g_aload_n C dL_law_1009 3 rfl ?_
  refine g_aload_n C dL_law_1010 1 rfl ?_
  refine g_iload C dL_law_1011 6 rfl ?_
  refine g_iconst C dL_law_1013 iv_1 ?_
  refine g_iadd C dL_law_1014 ?_
  obtain ⟨hz1015, h⟩ := i_n h
  refine g_scr Z C hz1015 dL_law_1015 ?_
  refine g_aload_n C dL_law_1016 1 rfl ?_
  refine g_iload C dL_law_1017 6 rfl ?_
  refine g_iconst C dL_law_1019 iv_2 ?_
  refine g_iadd C dL_law_1020 ?_
  obtain ⟨hz1021, h⟩ := i_n h
  refine g_scr Z C hz1021 dL_law_1021 ?_
  obtain ⟨q1022, hq1022, h⟩ := i_b h
  have hc1022 := c_X10_baseOf (ad := ad) (sd := gsd Γ) (ry_tr X) hq1022
  refine g_callVny [.int (xs (Int32.toNatClampNeg (x5 + 1))), .int (xs (Int32.toNatClampNeg (x5 + 2)))] [] C X k_RL_234 hc1022 ly_157 rfl (by decide) (by first | (constructor <;> (simp only [rm_X10_baseOf, room_1]; omega)) | omega) rfl (Nat.le_of_ble_eq_true rfl) rfl dL_law_1022 (stk2 := [.long q1022.1]) rfl rfl rfl ?_
  refine g_lstore (L' := [(7, .long q1022.1), (6, .int q1004.1), (0, .ref b), (1, .ref (ad 0)), (2, .ref (ad 157)), (3, .ref (ad 170)), (4, .ref (ad 171)), (5, .int x5)]) C dL_law_1025 (by decide) rfl ?_
  refine g_aload_n C dL_law_1027 4 rfl ?_
  obtain ⟨q1028, hq1028, h⟩ := i_b h
  have hc1028 := c_X10_thrown (ad := ad) (sd := gsd Γ) (ry_tr X) hq1028
  refine g_callVny [] [] C X k_RL_203 hc1028 ly_157 rfl (by decide) (by first | (constructor <;> (simp only [rm_X10_thrown, room_1]; omega)) | omega) rfl (Nat.le_of_ble_eq_true rfl) rfl dL_law_1028 (stk2 := [.int q1028]) rfl rfl rfl ?_
  refine g_iload C dL_law_1031 1 rfl ?_
  refine g_icmp_eq (tgt := 1038) C dL_law_1033 (by decide) (fun c => ?_) (fun c => ?_)
  · replace h := i_t c h
    refine g_iload C dL_law_1038 1 rfl ?_
    refine g_if_ne (tgt := 1054) C dL_law_1040 (by decide) (fun c => ?_) (fun c => ?_)
    · replace h := i_f c h
      refine g_sub (L' := [(0, .ref b), (1, .ref (ad 0)), (2, .ref (ad 157)), (3, .ref (ad 170)), (4, .ref (ad 171)), (5, .int x5)]) [2, 3, 4, 5, 6, 7] rfl ?_
      exact g_L_law_1054  C X Z hkc hk28 h
    · replace h := i_t c h
      refine g_aload_n C dL_law_1043 5 rfl ?_
      refine g_iconst C dL_law_1044 iv_0 ?_
      obtain ⟨hz1045, h⟩ := i_n h
      refine g_lald C ly_170 hz1045 dL_law_1045 ?_
      refine g_lload C dL_law_1046 0 rfl ?_
      refine g_lcmp C dL_law_1048 ?_
      refine g_if_eq (tgt := 1054) C dL_law_1049 (by decide) (fun c => ?_) (fun c => ?_)
      · replace h := i_t c h
        refine g_sub (L' := [(0, .ref b), (1, .ref (ad 0)), (2, .ref (ad 157)), (3, .ref (ad 170)), (4, .ref (ad 171)), (5, .int x5)]) [2, 3, 4, 5, 6, 7] rfl ?_
        exact g_L_law_1054  C X Z hkc hk28 h
      · replace h := i_f c h
        refine g_iconst C dL_law_1052 iv_0 ?_
        cases h
  · replace h := i_f c h
    refine g_iconst C dL_law_1036 iv_0 ?_
    cases h
set_option maxHeartbeats 4000000 in
set_option maxRecDepth 100000 in
theorem g_L_law_1110 {Γ : ΓT} {ad : Nat → Nat} {b N : Nat} {xs : Nat → Int32} {μ : Mm} {k28 : Int32 → Mm → Option Unit} {kc ks n : Nat} {x5 : Int32} {r : Unit} (C : Cx Γ RL cL_law 9) (X : Ry Γ room_1) (Z : Zx Γ b N xs) (hkc : kc + 10 * (n + 1) ≤ 601024 ∧ ks + 60 * (n + 1) ≤ 7293034) (hk28 : ∀ (x5 : Int32) (ν : Mm) (kc2 ks2 : Nat), kc2 ≤ kc + 10 → ks2 ≤ ks + 60 → k28 x5 ν = some r → G Γ ad layL 9 ν 28 [(0, .ref b), (1, .ref (ad 0)), (2, .ref (ad 157)), (3, .ref (ad 170)), (4, .ref (ad 171)), (5, .int x5)] [] kc2 ks2) (h : b_L_law_1110 N xs μ k28 x5 = some r) : G Γ ad layL 9 μ 1110 [(0, .ref b), (1, .ref (ad 0)), (2, .ref (ad 157)), (3, .ref (ad 170)), (4, .ref (ad 171)), (5, .int x5)] [] (kc + 1) (ks + 6) := by
  unfold b_L_law_1110 at h
  refine g_goto (tgt := 3616) C dL_law_1110 (by decide) ?_
  refine g_wid (kc' := (kc + 8)) (ks' := (ks + 48)) (by omega) (by omega) ?_
  exact g_L_law_3616  C X Z hkc hk28 h
set_option maxHeartbeats 4000000 in
set_option maxRecDepth 100000 in
theorem g_L_law_1057 {Γ : ΓT} {ad : Nat → Nat} {b N : Nat} {xs : Nat → Int32} {μ : Mm} {k28 : Int32 → Mm → Option Unit} {kc ks n : Nat} {x5 : Int32} {r : Unit} (C : Cx Γ RL cL_law 9) (X : Ry Γ room_1) (Z : Zx Γ b N xs) (hkc : kc + 10 * (n + 1) ≤ 601024 ∧ ks + 60 * (n + 1) ≤ 7293034) (hk28 : ∀ (x5 : Int32) (ν : Mm) (kc2 ks2 : Nat), kc2 ≤ kc + 10 → ks2 ≤ ks + 60 → k28 x5 ν = some r → G Γ ad layL 9 ν 28 [(0, .ref b), (1, .ref (ad 0)), (2, .ref (ad 157)), (3, .ref (ad 170)), (4, .ref (ad 171)), (5, .int x5)] [] kc2 ks2) (h : b_L_law_1057 N xs μ k28 x5 = some r) : G Γ ad layL 9 μ 1057 [(0, .ref b), (1, .ref (ad 0)), (2, .ref (ad 157)), (3, .ref (ad 170)), (4, .ref (ad 171)), (5, .int x5)] [] kc ks := by
  unfold b_L_law_1057 at h
  refine g_aload_n C dL_law_1057 1 rfl ?_
  refine g_aload_n C dL_law_1058 0 rfl ?_
  refine g_iload C dL_law_1059 5 rfl ?_
  refine g_iconst C dL_law_1061 iv_1 ?_
  refine g_iadd C dL_law_1062 ?_
  obtain ⟨hz1063, h⟩ := i_n h
  refine g_scr Z C hz1063 dL_law_1063 ?_
  refine g_aload_n C dL_law_1064 3 rfl ?_
  obtain ⟨q1065, hq1065, h⟩ := i_b h
  have hc1065 := c_L_heaviest (ad := ad) (sd := gsd Γ) (ry_tr X) hq1065
  refine g_callSxy [.ref (ad 0), .int (xs (Int32.toNatClampNeg (x5 + 1))), .ref (ad 170)] [] C X k_RL_235 hc1065 (by decide) (by first | (constructor <;> (simp only [rm_L_heaviest, room_1]; omega)) | omega) rfl (Nat.le_of_ble_eq_true rfl) rfl dL_law_1065 (stk2 := [.int q1065.1]) rfl rfl rfl ?_
  refine g_istore (L' := [(6, .int q1065.1), (0, .ref b), (1, .ref (ad 0)), (2, .ref (ad 157)), (3, .ref (ad 170)), (4, .ref (ad 171)), (5, .int x5)]) C dL_law_1068 (by decide) rfl ?_
  refine g_aload_n C dL_law_1070 3 rfl ?_
  refine g_aload_n C dL_law_1071 1 rfl ?_
  refine g_iload C dL_law_1072 6 rfl ?_
  refine g_iconst C dL_law_1074 iv_1 ?_
  refine g_iadd C dL_law_1075 ?_
  obtain ⟨hz1076, h⟩ := i_n h
  refine g_scr Z C hz1076 dL_law_1076 ?_
  obtain ⟨q1077, hq1077, h⟩ := i_b h
  have hc1077 := c_X10_heaviest (ad := ad) (sd := gsd Γ) (ry_tr X) hq1077
  refine g_callVny [.int (xs (Int32.toNatClampNeg (x5 + 1)))] [] C X k_RL_237 hc1077 ly_157 rfl (by decide) (by first | (constructor <;> (simp only [rm_X10_heaviest, room_1]; omega)) | omega) rfl (Nat.le_of_ble_eq_true rfl) rfl dL_law_1077 (stk2 := [.int q1077.1]) rfl rfl rfl ?_
  refine g_istore (L' := [(7, .int q1077.1), (6, .int q1065.1), (0, .ref b), (1, .ref (ad 0)), (2, .ref (ad 157)), (3, .ref (ad 170)), (4, .ref (ad 171)), (5, .int x5)]) C dL_law_1080 (by decide) rfl ?_
  refine g_aload_n C dL_law_1082 4 rfl ?_
  obtain ⟨q1083, hq1083, h⟩ := i_b h
  have hc1083 := c_X10_thrown (ad := ad) (sd := gsd Γ) (ry_tr X) hq1083
  refine g_callVny [] [] C X k_RL_203 hc1083 ly_157 rfl (by decide) (by first | (constructor <;> (simp only [rm_X10_thrown, room_1]; omega)) | omega) rfl (Nat.le_of_ble_eq_true rfl) rfl dL_law_1083 (stk2 := [.int q1083]) rfl rfl rfl ?_
  refine g_iload C dL_law_1086 1 rfl ?_
  refine g_icmp_eq (tgt := 1093) C dL_law_1088 (by decide) (fun c => ?_) (fun c => ?_)
  · replace h := i_t c h
    refine g_iload C dL_law_1093 1 rfl ?_
    refine g_if_ne (tgt := 1110) C dL_law_1095 (by decide) (fun c => ?_) (fun c => ?_)
    · replace h := i_f c h
      refine g_sub (L' := [(0, .ref b), (1, .ref (ad 0)), (2, .ref (ad 157)), (3, .ref (ad 170)), (4, .ref (ad 171)), (5, .int x5)]) [2, 3, 4, 5, 6, 7] rfl ?_
      exact g_L_law_1110  C X Z hkc hk28 h
    · replace h := i_t c h
      refine g_aload_n C dL_law_1098 5 rfl ?_
      refine g_iconst C dL_law_1099 iv_0 ?_
      obtain ⟨hz1100, h⟩ := i_n h
      refine g_lald C ly_170 hz1100 dL_law_1100 ?_
      refine g_iload C dL_law_1101 0 rfl ?_
      refine g_i2l C dL_law_1103 ?_
      refine g_lcmp C dL_law_1104 ?_
      refine g_if_eq (tgt := 1110) C dL_law_1105 (by decide) (fun c => ?_) (fun c => ?_)
      · replace h := i_t c h
        refine g_sub (L' := [(0, .ref b), (1, .ref (ad 0)), (2, .ref (ad 157)), (3, .ref (ad 170)), (4, .ref (ad 171)), (5, .int x5)]) [2, 3, 4, 5, 6, 7] rfl ?_
        exact g_L_law_1110  C X Z hkc hk28 h
      · replace h := i_f c h
        refine g_iconst C dL_law_1108 iv_0 ?_
        cases h
  · replace h := i_f c h
    refine g_iconst C dL_law_1091 iv_0 ?_
    cases h
set_option maxHeartbeats 4000000 in
set_option maxRecDepth 100000 in
theorem g_L_law_1165 {Γ : ΓT} {ad : Nat → Nat} {b N : Nat} {xs : Nat → Int32} {μ : Mm} {k28 : Int32 → Mm → Option Unit} {kc ks n : Nat} {x5 : Int32} {r : Unit} (C : Cx Γ RL cL_law 9) (X : Ry Γ room_1) (Z : Zx Γ b N xs) (hkc : kc + 10 * (n + 1) ≤ 601024 ∧ ks + 60 * (n + 1) ≤ 7293034) (hk28 : ∀ (x5 : Int32) (ν : Mm) (kc2 ks2 : Nat), kc2 ≤ kc + 10 → ks2 ≤ ks + 60 → k28 x5 ν = some r → G Γ ad layL 9 ν 28 [(0, .ref b), (1, .ref (ad 0)), (2, .ref (ad 157)), (3, .ref (ad 170)), (4, .ref (ad 171)), (5, .int x5)] [] kc2 ks2) (h : b_L_law_1165 N xs μ k28 x5 = some r) : G Γ ad layL 9 μ 1165 [(0, .ref b), (1, .ref (ad 0)), (2, .ref (ad 157)), (3, .ref (ad 170)), (4, .ref (ad 171)), (5, .int x5)] [] (kc + 1) (ks + 6) := by
  unfold b_L_law_1165 at h
  refine g_goto (tgt := 3616) C dL_law_1165 (by decide) ?_
  refine g_wid (kc' := (kc + 8)) (ks' := (ks + 48)) (by omega) (by omega) ?_
  exact g_L_law_3616  C X Z hkc hk28 h
set_option maxHeartbeats 4000000 in
set_option maxRecDepth 100000 in
theorem g_L_law_1113 {Γ : ΓT} {ad : Nat → Nat} {b N : Nat} {xs : Nat → Int32} {μ : Mm} {k28 : Int32 → Mm → Option Unit} {kc ks n : Nat} {x5 : Int32} {r : Unit} (C : Cx Γ RL cL_law 9) (X : Ry Γ room_1) (Z : Zx Γ b N xs) (hkc : kc + 10 * (n + 1) ≤ 601024 ∧ ks + 60 * (n + 1) ≤ 7293034) (hk28 : ∀ (x5 : Int32) (ν : Mm) (kc2 ks2 : Nat), kc2 ≤ kc + 10 → ks2 ≤ ks + 60 → k28 x5 ν = some r → G Γ ad layL 9 ν 28 [(0, .ref b), (1, .ref (ad 0)), (2, .ref (ad 157)), (3, .ref (ad 170)), (4, .ref (ad 171)), (5, .int x5)] [] kc2 ks2) (h : b_L_law_1113 N xs μ k28 x5 = some r) : G Γ ad layL 9 μ 1113 [(0, .ref b), (1, .ref (ad 0)), (2, .ref (ad 157)), (3, .ref (ad 170)), (4, .ref (ad 171)), (5, .int x5)] [] kc ks := by
  unfold b_L_law_1113 at h
  refine g_aload_n C dL_law_1113 1 rfl ?_
  refine g_aload_n C dL_law_1114 0 rfl ?_
  refine g_iload C dL_law_1115 5 rfl ?_
  refine g_iconst C dL_law_1117 iv_1 ?_
  refine g_iadd C dL_law_1118 ?_
  obtain ⟨hz1119, h⟩ := i_n h
  refine g_scr Z C hz1119 dL_law_1119 ?_
  refine g_aload_n C dL_law_1120 3 rfl ?_
  obtain ⟨q1121, hq1121, h⟩ := i_b h
  have hc1121 := c_L_units (ad := ad) (sd := gsd Γ) (ry_tr X) hq1121
  refine g_callSxy [.ref (ad 0), .int (xs (Int32.toNatClampNeg (x5 + 1))), .ref (ad 170)] [] C X k_RL_238 hc1121 (by decide) (by first | (constructor <;> (simp only [rm_L_units, room_1]; omega)) | omega) rfl (Nat.le_of_ble_eq_true rfl) rfl dL_law_1121 (stk2 := [.int q1121.1]) rfl rfl rfl ?_
  refine g_istore (L' := [(6, .int q1121.1), (0, .ref b), (1, .ref (ad 0)), (2, .ref (ad 157)), (3, .ref (ad 170)), (4, .ref (ad 171)), (5, .int x5)]) C dL_law_1124 (by decide) rfl ?_
  refine g_aload_n C dL_law_1126 3 rfl ?_
  refine g_aload_n C dL_law_1127 1 rfl ?_
  refine g_iload C dL_law_1128 6 rfl ?_
  refine g_iconst C dL_law_1130 iv_1 ?_
  refine g_iadd C dL_law_1131 ?_
  obtain ⟨hz1132, h⟩ := i_n h
  refine g_scr Z C hz1132 dL_law_1132 ?_
  obtain ⟨q1133, hq1133, h⟩ := i_b h
  have hc1133 := c_X10_units (ad := ad) (sd := gsd Γ) (ry_tr X) hq1133
  refine g_callVny [.int (xs (Int32.toNatClampNeg (x5 + 1)))] [] C X k_RL_240 hc1133 ly_157 rfl (by decide) (by first | (constructor <;> (simp only [rm_X10_units, room_1]; omega)) | omega) rfl (Nat.le_of_ble_eq_true rfl) rfl dL_law_1133 (stk2 := [.long q1133.1]) rfl rfl rfl ?_
  refine g_lstore (L' := [(7, .long q1133.1), (6, .int q1121.1), (0, .ref b), (1, .ref (ad 0)), (2, .ref (ad 157)), (3, .ref (ad 170)), (4, .ref (ad 171)), (5, .int x5)]) C dL_law_1136 (by decide) rfl ?_
  refine g_aload_n C dL_law_1138 4 rfl ?_
  obtain ⟨q1139, hq1139, h⟩ := i_b h
  have hc1139 := c_X10_thrown (ad := ad) (sd := gsd Γ) (ry_tr X) hq1139
  refine g_callVny [] [] C X k_RL_203 hc1139 ly_157 rfl (by decide) (by first | (constructor <;> (simp only [rm_X10_thrown, room_1]; omega)) | omega) rfl (Nat.le_of_ble_eq_true rfl) rfl dL_law_1139 (stk2 := [.int q1139]) rfl rfl rfl ?_
  refine g_iload C dL_law_1142 1 rfl ?_
  refine g_icmp_eq (tgt := 1149) C dL_law_1144 (by decide) (fun c => ?_) (fun c => ?_)
  · replace h := i_t c h
    refine g_iload C dL_law_1149 1 rfl ?_
    refine g_if_ne (tgt := 1165) C dL_law_1151 (by decide) (fun c => ?_) (fun c => ?_)
    · replace h := i_f c h
      refine g_sub (L' := [(0, .ref b), (1, .ref (ad 0)), (2, .ref (ad 157)), (3, .ref (ad 170)), (4, .ref (ad 171)), (5, .int x5)]) [2, 3, 4, 5, 6, 7] rfl ?_
      exact g_L_law_1165  C X Z hkc hk28 h
    · replace h := i_t c h
      refine g_aload_n C dL_law_1154 5 rfl ?_
      refine g_iconst C dL_law_1155 iv_0 ?_
      obtain ⟨hz1156, h⟩ := i_n h
      refine g_lald C ly_170 hz1156 dL_law_1156 ?_
      refine g_lload C dL_law_1157 0 rfl ?_
      refine g_lcmp C dL_law_1159 ?_
      refine g_if_eq (tgt := 1165) C dL_law_1160 (by decide) (fun c => ?_) (fun c => ?_)
      · replace h := i_t c h
        refine g_sub (L' := [(0, .ref b), (1, .ref (ad 0)), (2, .ref (ad 157)), (3, .ref (ad 170)), (4, .ref (ad 171)), (5, .int x5)]) [2, 3, 4, 5, 6, 7] rfl ?_
        exact g_L_law_1165  C X Z hkc hk28 h
      · replace h := i_f c h
        refine g_iconst C dL_law_1163 iv_0 ?_
        cases h
  · replace h := i_f c h
    refine g_iconst C dL_law_1147 iv_0 ?_
    cases h
set_option maxHeartbeats 4000000 in
set_option maxRecDepth 100000 in
theorem g_L_law_1221 {Γ : ΓT} {ad : Nat → Nat} {b N : Nat} {xs : Nat → Int32} {μ : Mm} {k28 : Int32 → Mm → Option Unit} {kc ks n : Nat} {x5 : Int32} {r : Unit} (C : Cx Γ RL cL_law 9) (X : Ry Γ room_1) (Z : Zx Γ b N xs) (hkc : kc + 10 * (n + 1) ≤ 601024 ∧ ks + 60 * (n + 1) ≤ 7293034) (hk28 : ∀ (x5 : Int32) (ν : Mm) (kc2 ks2 : Nat), kc2 ≤ kc + 10 → ks2 ≤ ks + 60 → k28 x5 ν = some r → G Γ ad layL 9 ν 28 [(0, .ref b), (1, .ref (ad 0)), (2, .ref (ad 157)), (3, .ref (ad 170)), (4, .ref (ad 171)), (5, .int x5)] [] kc2 ks2) (h : b_L_law_1221 N xs μ k28 x5 = some r) : G Γ ad layL 9 μ 1221 [(0, .ref b), (1, .ref (ad 0)), (2, .ref (ad 157)), (3, .ref (ad 170)), (4, .ref (ad 171)), (5, .int x5)] [] (kc + 1) (ks + 6) := by
  unfold b_L_law_1221 at h
  refine g_goto (tgt := 3616) C dL_law_1221 (by decide) ?_
  refine g_wid (kc' := (kc + 8)) (ks' := (ks + 48)) (by omega) (by omega) ?_
  exact g_L_law_3616  C X Z hkc hk28 h
set_option maxHeartbeats 4000000 in
set_option maxRecDepth 100000 in
theorem g_L_law_1168 {Γ : ΓT} {ad : Nat → Nat} {b N : Nat} {xs : Nat → Int32} {μ : Mm} {k28 : Int32 → Mm → Option Unit} {kc ks n : Nat} {x5 : Int32} {r : Unit} (C : Cx Γ RL cL_law 9) (X : Ry Γ room_1) (Z : Zx Γ b N xs) (hkc : kc + 10 * (n + 1) ≤ 601024 ∧ ks + 60 * (n + 1) ≤ 7293034) (hk28 : ∀ (x5 : Int32) (ν : Mm) (kc2 ks2 : Nat), kc2 ≤ kc + 10 → ks2 ≤ ks + 60 → k28 x5 ν = some r → G Γ ad layL 9 ν 28 [(0, .ref b), (1, .ref (ad 0)), (2, .ref (ad 157)), (3, .ref (ad 170)), (4, .ref (ad 171)), (5, .int x5)] [] kc2 ks2) (h : b_L_law_1168 N xs μ k28 x5 = some r) : G Γ ad layL 9 μ 1168 [(0, .ref b), (1, .ref (ad 0)), (2, .ref (ad 157)), (3, .ref (ad 170)), (4, .ref (ad 171)), (5, .int x5)] [] kc ks := by
  unfold b_L_law_1168 at h
  refine g_aload_n C dL_law_1168 1 rfl ?_
  refine g_aload_n C dL_law_1169 0 rfl ?_
  refine g_iload C dL_law_1170 5 rfl ?_
  refine g_iconst C dL_law_1172 iv_1 ?_
  refine g_iadd C dL_law_1173 ?_
  obtain ⟨hz1174, h⟩ := i_n h
  refine g_scr Z C hz1174 dL_law_1174 ?_
  refine g_aload_n C dL_law_1175 3 rfl ?_
  obtain ⟨q1176, hq1176, h⟩ := i_b h
  have hc1176 := c_L_failsBy (ad := ad) (sd := gsd Γ) (ry_tr X) hq1176
  refine g_callSxy [.ref (ad 0), .int (xs (Int32.toNatClampNeg (x5 + 1))), .ref (ad 170)] [] C X k_RL_241 hc1176 (by decide) (by first | (constructor <;> (simp only [rm_L_failsBy, room_1]; omega)) | omega) rfl (Nat.le_of_ble_eq_true rfl) rfl dL_law_1176 (stk2 := [.int q1176.1]) rfl rfl rfl ?_
  refine g_istore (L' := [(6, .int q1176.1), (0, .ref b), (1, .ref (ad 0)), (2, .ref (ad 157)), (3, .ref (ad 170)), (4, .ref (ad 171)), (5, .int x5)]) C dL_law_1179 (by decide) rfl ?_
  refine g_aload_n C dL_law_1181 3 rfl ?_
  refine g_aload_n C dL_law_1182 1 rfl ?_
  refine g_iload C dL_law_1183 6 rfl ?_
  refine g_iconst C dL_law_1185 iv_1 ?_
  refine g_iadd C dL_law_1186 ?_
  obtain ⟨hz1187, h⟩ := i_n h
  refine g_scr Z C hz1187 dL_law_1187 ?_
  obtain ⟨q1188, hq1188, h⟩ := i_b h
  have hc1188 := c_X10_failsBy (ad := ad) (sd := gsd Γ) (ry_tr X) hq1188
  refine g_callVny [.int (xs (Int32.toNatClampNeg (x5 + 1)))] [] C X k_RL_243 hc1188 ly_157 rfl (by decide) (by first | (constructor <;> (simp only [rm_X10_failsBy, room_1]; omega)) | omega) rfl (Nat.le_of_ble_eq_true rfl) rfl dL_law_1188 (stk2 := [.int q1188.1]) rfl rfl rfl ?_
  refine g_istore (L' := [(7, .int q1188.1), (6, .int q1176.1), (0, .ref b), (1, .ref (ad 0)), (2, .ref (ad 157)), (3, .ref (ad 170)), (4, .ref (ad 171)), (5, .int x5)]) C dL_law_1191 (by decide) rfl ?_
  refine g_aload_n C dL_law_1193 4 rfl ?_
  obtain ⟨q1194, hq1194, h⟩ := i_b h
  have hc1194 := c_X10_thrown (ad := ad) (sd := gsd Γ) (ry_tr X) hq1194
  refine g_callVny [] [] C X k_RL_203 hc1194 ly_157 rfl (by decide) (by first | (constructor <;> (simp only [rm_X10_thrown, room_1]; omega)) | omega) rfl (Nat.le_of_ble_eq_true rfl) rfl dL_law_1194 (stk2 := [.int q1194]) rfl rfl rfl ?_
  refine g_iload C dL_law_1197 1 rfl ?_
  refine g_icmp_eq (tgt := 1204) C dL_law_1199 (by decide) (fun c => ?_) (fun c => ?_)
  · replace h := i_t c h
    refine g_iload C dL_law_1204 1 rfl ?_
    refine g_if_ne (tgt := 1221) C dL_law_1206 (by decide) (fun c => ?_) (fun c => ?_)
    · replace h := i_f c h
      refine g_sub (L' := [(0, .ref b), (1, .ref (ad 0)), (2, .ref (ad 157)), (3, .ref (ad 170)), (4, .ref (ad 171)), (5, .int x5)]) [2, 3, 4, 5, 6, 7] rfl ?_
      exact g_L_law_1221  C X Z hkc hk28 h
    · replace h := i_t c h
      refine g_aload_n C dL_law_1209 5 rfl ?_
      refine g_iconst C dL_law_1210 iv_0 ?_
      obtain ⟨hz1211, h⟩ := i_n h
      refine g_lald C ly_170 hz1211 dL_law_1211 ?_
      refine g_iload C dL_law_1212 0 rfl ?_
      refine g_i2l C dL_law_1214 ?_
      refine g_lcmp C dL_law_1215 ?_
      refine g_if_eq (tgt := 1221) C dL_law_1216 (by decide) (fun c => ?_) (fun c => ?_)
      · replace h := i_t c h
        refine g_sub (L' := [(0, .ref b), (1, .ref (ad 0)), (2, .ref (ad 157)), (3, .ref (ad 170)), (4, .ref (ad 171)), (5, .int x5)]) [2, 3, 4, 5, 6, 7] rfl ?_
        exact g_L_law_1221  C X Z hkc hk28 h
      · replace h := i_f c h
        refine g_iconst C dL_law_1219 iv_0 ?_
        cases h
  · replace h := i_f c h
    refine g_iconst C dL_law_1202 iv_0 ?_
    cases h
set_option maxHeartbeats 4000000 in
set_option maxRecDepth 100000 in
theorem g_L_law_1277 {Γ : ΓT} {ad : Nat → Nat} {b N : Nat} {xs : Nat → Int32} {μ : Mm} {k28 : Int32 → Mm → Option Unit} {kc ks n : Nat} {x5 : Int32} {r : Unit} (C : Cx Γ RL cL_law 9) (X : Ry Γ room_1) (Z : Zx Γ b N xs) (hkc : kc + 10 * (n + 1) ≤ 601024 ∧ ks + 60 * (n + 1) ≤ 7293034) (hk28 : ∀ (x5 : Int32) (ν : Mm) (kc2 ks2 : Nat), kc2 ≤ kc + 10 → ks2 ≤ ks + 60 → k28 x5 ν = some r → G Γ ad layL 9 ν 28 [(0, .ref b), (1, .ref (ad 0)), (2, .ref (ad 157)), (3, .ref (ad 170)), (4, .ref (ad 171)), (5, .int x5)] [] kc2 ks2) (h : b_L_law_1277 N xs μ k28 x5 = some r) : G Γ ad layL 9 μ 1277 [(0, .ref b), (1, .ref (ad 0)), (2, .ref (ad 157)), (3, .ref (ad 170)), (4, .ref (ad 171)), (5, .int x5)] [] (kc + 1) (ks + 6) := by
  unfold b_L_law_1277 at h
  refine g_goto (tgt := 3616) C dL_law_1277 (by decide) ?_
  refine g_wid (kc' := (kc + 8)) (ks' := (ks + 48)) (by omega) (by omega) ?_
  exact g_L_law_3616  C X Z hkc hk28 h
set_option maxHeartbeats 4000000 in
set_option maxRecDepth 100000 in
theorem g_L_law_1224 {Γ : ΓT} {ad : Nat → Nat} {b N : Nat} {xs : Nat → Int32} {μ : Mm} {k28 : Int32 → Mm → Option Unit} {kc ks n : Nat} {x5 : Int32} {r : Unit} (C : Cx Γ RL cL_law 9) (X : Ry Γ room_1) (Z : Zx Γ b N xs) (hkc : kc + 10 * (n + 1) ≤ 601024 ∧ ks + 60 * (n + 1) ≤ 7293034) (hk28 : ∀ (x5 : Int32) (ν : Mm) (kc2 ks2 : Nat), kc2 ≤ kc + 10 → ks2 ≤ ks + 60 → k28 x5 ν = some r → G Γ ad layL 9 ν 28 [(0, .ref b), (1, .ref (ad 0)), (2, .ref (ad 157)), (3, .ref (ad 170)), (4, .ref (ad 171)), (5, .int x5)] [] kc2 ks2) (h : b_L_law_1224 N xs μ k28 x5 = some r) : G Γ ad layL 9 μ 1224 [(0, .ref b), (1, .ref (ad 0)), (2, .ref (ad 157)), (3, .ref (ad 170)), (4, .ref (ad 171)), (5, .int x5)] [] kc ks := by
  unfold b_L_law_1224 at h
  refine g_aload_n C dL_law_1224 1 rfl ?_
  refine g_aload_n C dL_law_1225 0 rfl ?_
  refine g_iload C dL_law_1226 5 rfl ?_
  refine g_iconst C dL_law_1228 iv_1 ?_
  refine g_iadd C dL_law_1229 ?_
  obtain ⟨hz1230, h⟩ := i_n h
  refine g_scr Z C hz1230 dL_law_1230 ?_
  refine g_aload_n C dL_law_1231 3 rfl ?_
  obtain ⟨q1232, hq1232, h⟩ := i_b h
  have hc1232 := c_L_yearsLeft (ad := ad) (sd := gsd Γ) (ry_tr X) hq1232
  refine g_callSxy [.ref (ad 0), .int (xs (Int32.toNatClampNeg (x5 + 1))), .ref (ad 170)] [] C X k_RL_244 hc1232 (by decide) (by first | (constructor <;> (simp only [rm_L_yearsLeft, room_1]; omega)) | omega) rfl (Nat.le_of_ble_eq_true rfl) rfl dL_law_1232 (stk2 := [.int q1232.1]) rfl rfl rfl ?_
  refine g_istore (L' := [(6, .int q1232.1), (0, .ref b), (1, .ref (ad 0)), (2, .ref (ad 157)), (3, .ref (ad 170)), (4, .ref (ad 171)), (5, .int x5)]) C dL_law_1235 (by decide) rfl ?_
  refine g_aload_n C dL_law_1237 3 rfl ?_
  refine g_aload_n C dL_law_1238 1 rfl ?_
  refine g_iload C dL_law_1239 6 rfl ?_
  refine g_iconst C dL_law_1241 iv_1 ?_
  refine g_iadd C dL_law_1242 ?_
  obtain ⟨hz1243, h⟩ := i_n h
  refine g_scr Z C hz1243 dL_law_1243 ?_
  obtain ⟨q1244, hq1244, h⟩ := i_b h
  have hc1244 := c_X10_yearsLeft (ad := ad) (sd := gsd Γ) (ry_tr X) hq1244
  refine g_callVny [.int (xs (Int32.toNatClampNeg (x5 + 1)))] [] C X k_RL_246 hc1244 ly_157 rfl (by decide) (by first | (constructor <;> (simp only [rm_X10_yearsLeft, room_1]; omega)) | omega) rfl (Nat.le_of_ble_eq_true rfl) rfl dL_law_1244 (stk2 := [.int q1244.1]) rfl rfl rfl ?_
  refine g_istore (L' := [(7, .int q1244.1), (6, .int q1232.1), (0, .ref b), (1, .ref (ad 0)), (2, .ref (ad 157)), (3, .ref (ad 170)), (4, .ref (ad 171)), (5, .int x5)]) C dL_law_1247 (by decide) rfl ?_
  refine g_aload_n C dL_law_1249 4 rfl ?_
  obtain ⟨q1250, hq1250, h⟩ := i_b h
  have hc1250 := c_X10_thrown (ad := ad) (sd := gsd Γ) (ry_tr X) hq1250
  refine g_callVny [] [] C X k_RL_203 hc1250 ly_157 rfl (by decide) (by first | (constructor <;> (simp only [rm_X10_thrown, room_1]; omega)) | omega) rfl (Nat.le_of_ble_eq_true rfl) rfl dL_law_1250 (stk2 := [.int q1250]) rfl rfl rfl ?_
  refine g_iload C dL_law_1253 1 rfl ?_
  refine g_icmp_eq (tgt := 1260) C dL_law_1255 (by decide) (fun c => ?_) (fun c => ?_)
  · replace h := i_t c h
    refine g_iload C dL_law_1260 1 rfl ?_
    refine g_if_ne (tgt := 1277) C dL_law_1262 (by decide) (fun c => ?_) (fun c => ?_)
    · replace h := i_f c h
      refine g_sub (L' := [(0, .ref b), (1, .ref (ad 0)), (2, .ref (ad 157)), (3, .ref (ad 170)), (4, .ref (ad 171)), (5, .int x5)]) [2, 3, 4, 5, 6, 7] rfl ?_
      exact g_L_law_1277  C X Z hkc hk28 h
    · replace h := i_t c h
      refine g_aload_n C dL_law_1265 5 rfl ?_
      refine g_iconst C dL_law_1266 iv_0 ?_
      obtain ⟨hz1267, h⟩ := i_n h
      refine g_lald C ly_170 hz1267 dL_law_1267 ?_
      refine g_iload C dL_law_1268 0 rfl ?_
      refine g_i2l C dL_law_1270 ?_
      refine g_lcmp C dL_law_1271 ?_
      refine g_if_eq (tgt := 1277) C dL_law_1272 (by decide) (fun c => ?_) (fun c => ?_)
      · replace h := i_t c h
        refine g_sub (L' := [(0, .ref b), (1, .ref (ad 0)), (2, .ref (ad 157)), (3, .ref (ad 170)), (4, .ref (ad 171)), (5, .int x5)]) [2, 3, 4, 5, 6, 7] rfl ?_
        exact g_L_law_1277  C X Z hkc hk28 h
      · replace h := i_f c h
        refine g_iconst C dL_law_1275 iv_0 ?_
        cases h
  · replace h := i_f c h
    refine g_iconst C dL_law_1258 iv_0 ?_
    cases h
set_option maxHeartbeats 4000000 in
set_option maxRecDepth 100000 in
theorem g_L_law_1333 {Γ : ΓT} {ad : Nat → Nat} {b N : Nat} {xs : Nat → Int32} {μ : Mm} {k28 : Int32 → Mm → Option Unit} {kc ks n : Nat} {x5 : Int32} {r : Unit} (C : Cx Γ RL cL_law 9) (X : Ry Γ room_1) (Z : Zx Γ b N xs) (hkc : kc + 10 * (n + 1) ≤ 601024 ∧ ks + 60 * (n + 1) ≤ 7293034) (hk28 : ∀ (x5 : Int32) (ν : Mm) (kc2 ks2 : Nat), kc2 ≤ kc + 10 → ks2 ≤ ks + 60 → k28 x5 ν = some r → G Γ ad layL 9 ν 28 [(0, .ref b), (1, .ref (ad 0)), (2, .ref (ad 157)), (3, .ref (ad 170)), (4, .ref (ad 171)), (5, .int x5)] [] kc2 ks2) (h : b_L_law_1333 N xs μ k28 x5 = some r) : G Γ ad layL 9 μ 1333 [(0, .ref b), (1, .ref (ad 0)), (2, .ref (ad 157)), (3, .ref (ad 170)), (4, .ref (ad 171)), (5, .int x5)] [] (kc + 1) (ks + 6) := by
  unfold b_L_law_1333 at h
  refine g_goto (tgt := 3616) C dL_law_1333 (by decide) ?_
  refine g_wid (kc' := (kc + 8)) (ks' := (ks + 48)) (by omega) (by omega) ?_
  exact g_L_law_3616  C X Z hkc hk28 h
set_option maxHeartbeats 4000000 in
set_option maxRecDepth 100000 in
theorem g_L_law_1280 {Γ : ΓT} {ad : Nat → Nat} {b N : Nat} {xs : Nat → Int32} {μ : Mm} {k28 : Int32 → Mm → Option Unit} {kc ks n : Nat} {x5 : Int32} {r : Unit} (C : Cx Γ RL cL_law 9) (X : Ry Γ room_1) (Z : Zx Γ b N xs) (hkc : kc + 10 * (n + 1) ≤ 601024 ∧ ks + 60 * (n + 1) ≤ 7293034) (hk28 : ∀ (x5 : Int32) (ν : Mm) (kc2 ks2 : Nat), kc2 ≤ kc + 10 → ks2 ≤ ks + 60 → k28 x5 ν = some r → G Γ ad layL 9 ν 28 [(0, .ref b), (1, .ref (ad 0)), (2, .ref (ad 157)), (3, .ref (ad 170)), (4, .ref (ad 171)), (5, .int x5)] [] kc2 ks2) (h : b_L_law_1280 N xs μ k28 x5 = some r) : G Γ ad layL 9 μ 1280 [(0, .ref b), (1, .ref (ad 0)), (2, .ref (ad 157)), (3, .ref (ad 170)), (4, .ref (ad 171)), (5, .int x5)] [] kc ks := by
  unfold b_L_law_1280 at h
  refine g_aload_n C dL_law_1280 1 rfl ?_
  refine g_aload_n C dL_law_1281 0 rfl ?_
  refine g_iload C dL_law_1282 5 rfl ?_
  refine g_iconst C dL_law_1284 iv_1 ?_
  refine g_iadd C dL_law_1285 ?_
  obtain ⟨hz1286, h⟩ := i_n h
  refine g_scr Z C hz1286 dL_law_1286 ?_
  refine g_aload_n C dL_law_1287 3 rfl ?_
  obtain ⟨q1288, hq1288, h⟩ := i_b h
  have hc1288 := c_L_nthCell (ad := ad) (sd := gsd Γ) (ry_tr X) hq1288
  refine g_callSxy [.ref (ad 0), .int (xs (Int32.toNatClampNeg (x5 + 1))), .ref (ad 170)] [] C X k_RL_247 hc1288 (by decide) (by first | (constructor <;> (simp only [rm_L_nthCell, room_1]; omega)) | omega) rfl (Nat.le_of_ble_eq_true rfl) rfl dL_law_1288 (stk2 := [.int q1288.1]) rfl rfl rfl ?_
  refine g_istore (L' := [(6, .int q1288.1), (0, .ref b), (1, .ref (ad 0)), (2, .ref (ad 157)), (3, .ref (ad 170)), (4, .ref (ad 171)), (5, .int x5)]) C dL_law_1291 (by decide) rfl ?_
  refine g_aload_n C dL_law_1293 3 rfl ?_
  refine g_aload_n C dL_law_1294 1 rfl ?_
  refine g_iload C dL_law_1295 6 rfl ?_
  refine g_iconst C dL_law_1297 iv_1 ?_
  refine g_iadd C dL_law_1298 ?_
  obtain ⟨hz1299, h⟩ := i_n h
  refine g_scr Z C hz1299 dL_law_1299 ?_
  obtain ⟨q1300, hq1300, h⟩ := i_b h
  have hc1300 := c_X10_nthCell (ad := ad) (sd := gsd Γ) (ry_tr X) hq1300
  refine g_callVny [.int (xs (Int32.toNatClampNeg (x5 + 1)))] [] C X k_RL_249 hc1300 ly_157 rfl (by decide) (by first | (constructor <;> (simp only [rm_X10_nthCell, room_1]; omega)) | omega) rfl (Nat.le_of_ble_eq_true rfl) rfl dL_law_1300 (stk2 := [.int q1300.1]) rfl rfl rfl ?_
  refine g_istore (L' := [(7, .int q1300.1), (6, .int q1288.1), (0, .ref b), (1, .ref (ad 0)), (2, .ref (ad 157)), (3, .ref (ad 170)), (4, .ref (ad 171)), (5, .int x5)]) C dL_law_1303 (by decide) rfl ?_
  refine g_aload_n C dL_law_1305 4 rfl ?_
  obtain ⟨q1306, hq1306, h⟩ := i_b h
  have hc1306 := c_X10_thrown (ad := ad) (sd := gsd Γ) (ry_tr X) hq1306
  refine g_callVny [] [] C X k_RL_203 hc1306 ly_157 rfl (by decide) (by first | (constructor <;> (simp only [rm_X10_thrown, room_1]; omega)) | omega) rfl (Nat.le_of_ble_eq_true rfl) rfl dL_law_1306 (stk2 := [.int q1306]) rfl rfl rfl ?_
  refine g_iload C dL_law_1309 1 rfl ?_
  refine g_icmp_eq (tgt := 1316) C dL_law_1311 (by decide) (fun c => ?_) (fun c => ?_)
  · replace h := i_t c h
    refine g_iload C dL_law_1316 1 rfl ?_
    refine g_if_ne (tgt := 1333) C dL_law_1318 (by decide) (fun c => ?_) (fun c => ?_)
    · replace h := i_f c h
      refine g_sub (L' := [(0, .ref b), (1, .ref (ad 0)), (2, .ref (ad 157)), (3, .ref (ad 170)), (4, .ref (ad 171)), (5, .int x5)]) [2, 3, 4, 5, 6, 7] rfl ?_
      exact g_L_law_1333  C X Z hkc hk28 h
    · replace h := i_t c h
      refine g_aload_n C dL_law_1321 5 rfl ?_
      refine g_iconst C dL_law_1322 iv_0 ?_
      obtain ⟨hz1323, h⟩ := i_n h
      refine g_lald C ly_170 hz1323 dL_law_1323 ?_
      refine g_iload C dL_law_1324 0 rfl ?_
      refine g_i2l C dL_law_1326 ?_
      refine g_lcmp C dL_law_1327 ?_
      refine g_if_eq (tgt := 1333) C dL_law_1328 (by decide) (fun c => ?_) (fun c => ?_)
      · replace h := i_t c h
        refine g_sub (L' := [(0, .ref b), (1, .ref (ad 0)), (2, .ref (ad 157)), (3, .ref (ad 170)), (4, .ref (ad 171)), (5, .int x5)]) [2, 3, 4, 5, 6, 7] rfl ?_
        exact g_L_law_1333  C X Z hkc hk28 h
      · replace h := i_f c h
        refine g_iconst C dL_law_1331 iv_0 ?_
        cases h
  · replace h := i_f c h
    refine g_iconst C dL_law_1314 iv_0 ?_
    cases h
set_option maxHeartbeats 4000000 in
set_option maxRecDepth 100000 in
theorem g_L_law_1389 {Γ : ΓT} {ad : Nat → Nat} {b N : Nat} {xs : Nat → Int32} {μ : Mm} {k28 : Int32 → Mm → Option Unit} {kc ks n : Nat} {x5 : Int32} {r : Unit} (C : Cx Γ RL cL_law 9) (X : Ry Γ room_1) (Z : Zx Γ b N xs) (hkc : kc + 10 * (n + 1) ≤ 601024 ∧ ks + 60 * (n + 1) ≤ 7293034) (hk28 : ∀ (x5 : Int32) (ν : Mm) (kc2 ks2 : Nat), kc2 ≤ kc + 10 → ks2 ≤ ks + 60 → k28 x5 ν = some r → G Γ ad layL 9 ν 28 [(0, .ref b), (1, .ref (ad 0)), (2, .ref (ad 157)), (3, .ref (ad 170)), (4, .ref (ad 171)), (5, .int x5)] [] kc2 ks2) (h : b_L_law_1389 N xs μ k28 x5 = some r) : G Γ ad layL 9 μ 1389 [(0, .ref b), (1, .ref (ad 0)), (2, .ref (ad 157)), (3, .ref (ad 170)), (4, .ref (ad 171)), (5, .int x5)] [] (kc + 1) (ks + 6) := by
  unfold b_L_law_1389 at h
  refine g_goto (tgt := 3616) C dL_law_1389 (by decide) ?_
  refine g_wid (kc' := (kc + 8)) (ks' := (ks + 48)) (by omega) (by omega) ?_
  exact g_L_law_3616  C X Z hkc hk28 h
set_option maxHeartbeats 4000000 in
set_option maxRecDepth 100000 in
theorem g_L_law_1336 {Γ : ΓT} {ad : Nat → Nat} {b N : Nat} {xs : Nat → Int32} {μ : Mm} {k28 : Int32 → Mm → Option Unit} {kc ks n : Nat} {x5 : Int32} {r : Unit} (C : Cx Γ RL cL_law 9) (X : Ry Γ room_1) (Z : Zx Γ b N xs) (hkc : kc + 10 * (n + 1) ≤ 601024 ∧ ks + 60 * (n + 1) ≤ 7293034) (hk28 : ∀ (x5 : Int32) (ν : Mm) (kc2 ks2 : Nat), kc2 ≤ kc + 10 → ks2 ≤ ks + 60 → k28 x5 ν = some r → G Γ ad layL 9 ν 28 [(0, .ref b), (1, .ref (ad 0)), (2, .ref (ad 157)), (3, .ref (ad 170)), (4, .ref (ad 171)), (5, .int x5)] [] kc2 ks2) (h : b_L_law_1336 N xs μ k28 x5 = some r) : G Γ ad layL 9 μ 1336 [(0, .ref b), (1, .ref (ad 0)), (2, .ref (ad 157)), (3, .ref (ad 170)), (4, .ref (ad 171)), (5, .int x5)] [] kc ks := by
  unfold b_L_law_1336 at h
  refine g_aload_n C dL_law_1336 1 rfl ?_
  refine g_aload_n C dL_law_1337 0 rfl ?_
  refine g_iload C dL_law_1338 5 rfl ?_
  refine g_iconst C dL_law_1340 iv_1 ?_
  refine g_iadd C dL_law_1341 ?_
  obtain ⟨hz1342, h⟩ := i_n h
  refine g_scr Z C hz1342 dL_law_1342 ?_
  refine g_aload_n C dL_law_1343 3 rfl ?_
  obtain ⟨q1344, hq1344, h⟩ := i_b h
  have hc1344 := c_L_laneYears (ad := ad) (sd := gsd Γ) (ry_tr X) hq1344
  refine g_callSxy [.ref (ad 0), .int (xs (Int32.toNatClampNeg (x5 + 1))), .ref (ad 170)] [] C X k_RL_250 hc1344 (by decide) (by first | (constructor <;> (simp only [rm_L_laneYears, room_1]; omega)) | omega) rfl (Nat.le_of_ble_eq_true rfl) rfl dL_law_1344 (stk2 := [.int q1344.1]) rfl rfl rfl ?_
  refine g_istore (L' := [(6, .int q1344.1), (0, .ref b), (1, .ref (ad 0)), (2, .ref (ad 157)), (3, .ref (ad 170)), (4, .ref (ad 171)), (5, .int x5)]) C dL_law_1347 (by decide) rfl ?_
  refine g_aload_n C dL_law_1349 3 rfl ?_
  refine g_aload_n C dL_law_1350 1 rfl ?_
  refine g_iload C dL_law_1351 6 rfl ?_
  refine g_iconst C dL_law_1353 iv_1 ?_
  refine g_iadd C dL_law_1354 ?_
  obtain ⟨hz1355, h⟩ := i_n h
  refine g_scr Z C hz1355 dL_law_1355 ?_
  obtain ⟨q1356, hq1356, h⟩ := i_b h
  have hc1356 := c_X10_laneYears (ad := ad) (sd := gsd Γ) (ry_tr X) hq1356
  refine g_callVny [.int (xs (Int32.toNatClampNeg (x5 + 1)))] [] C X k_RL_252 hc1356 ly_157 rfl (by decide) (by first | (constructor <;> (simp only [rm_X10_laneYears, room_1]; omega)) | omega) rfl (Nat.le_of_ble_eq_true rfl) rfl dL_law_1356 (stk2 := [.int q1356.1]) rfl rfl rfl ?_
  refine g_istore (L' := [(7, .int q1356.1), (6, .int q1344.1), (0, .ref b), (1, .ref (ad 0)), (2, .ref (ad 157)), (3, .ref (ad 170)), (4, .ref (ad 171)), (5, .int x5)]) C dL_law_1359 (by decide) rfl ?_
  refine g_aload_n C dL_law_1361 4 rfl ?_
  obtain ⟨q1362, hq1362, h⟩ := i_b h
  have hc1362 := c_X10_thrown (ad := ad) (sd := gsd Γ) (ry_tr X) hq1362
  refine g_callVny [] [] C X k_RL_203 hc1362 ly_157 rfl (by decide) (by first | (constructor <;> (simp only [rm_X10_thrown, room_1]; omega)) | omega) rfl (Nat.le_of_ble_eq_true rfl) rfl dL_law_1362 (stk2 := [.int q1362]) rfl rfl rfl ?_
  refine g_iload C dL_law_1365 1 rfl ?_
  refine g_icmp_eq (tgt := 1372) C dL_law_1367 (by decide) (fun c => ?_) (fun c => ?_)
  · replace h := i_t c h
    refine g_iload C dL_law_1372 1 rfl ?_
    refine g_if_ne (tgt := 1389) C dL_law_1374 (by decide) (fun c => ?_) (fun c => ?_)
    · replace h := i_f c h
      refine g_sub (L' := [(0, .ref b), (1, .ref (ad 0)), (2, .ref (ad 157)), (3, .ref (ad 170)), (4, .ref (ad 171)), (5, .int x5)]) [2, 3, 4, 5, 6, 7] rfl ?_
      exact g_L_law_1389  C X Z hkc hk28 h
    · replace h := i_t c h
      refine g_aload_n C dL_law_1377 5 rfl ?_
      refine g_iconst C dL_law_1378 iv_0 ?_
      obtain ⟨hz1379, h⟩ := i_n h
      refine g_lald C ly_170 hz1379 dL_law_1379 ?_
      refine g_iload C dL_law_1380 0 rfl ?_
      refine g_i2l C dL_law_1382 ?_
      refine g_lcmp C dL_law_1383 ?_
      refine g_if_eq (tgt := 1389) C dL_law_1384 (by decide) (fun c => ?_) (fun c => ?_)
      · replace h := i_t c h
        refine g_sub (L' := [(0, .ref b), (1, .ref (ad 0)), (2, .ref (ad 157)), (3, .ref (ad 170)), (4, .ref (ad 171)), (5, .int x5)]) [2, 3, 4, 5, 6, 7] rfl ?_
        exact g_L_law_1389  C X Z hkc hk28 h
      · replace h := i_f c h
        refine g_iconst C dL_law_1387 iv_0 ?_
        cases h
  · replace h := i_f c h
    refine g_iconst C dL_law_1370 iv_0 ?_
    cases h
set_option maxHeartbeats 4000000 in
set_option maxRecDepth 100000 in
theorem g_L_law_1445 {Γ : ΓT} {ad : Nat → Nat} {b N : Nat} {xs : Nat → Int32} {μ : Mm} {k28 : Int32 → Mm → Option Unit} {kc ks n : Nat} {x5 : Int32} {r : Unit} (C : Cx Γ RL cL_law 9) (X : Ry Γ room_1) (Z : Zx Γ b N xs) (hkc : kc + 10 * (n + 1) ≤ 601024 ∧ ks + 60 * (n + 1) ≤ 7293034) (hk28 : ∀ (x5 : Int32) (ν : Mm) (kc2 ks2 : Nat), kc2 ≤ kc + 10 → ks2 ≤ ks + 60 → k28 x5 ν = some r → G Γ ad layL 9 ν 28 [(0, .ref b), (1, .ref (ad 0)), (2, .ref (ad 157)), (3, .ref (ad 170)), (4, .ref (ad 171)), (5, .int x5)] [] kc2 ks2) (h : b_L_law_1445 N xs μ k28 x5 = some r) : G Γ ad layL 9 μ 1445 [(0, .ref b), (1, .ref (ad 0)), (2, .ref (ad 157)), (3, .ref (ad 170)), (4, .ref (ad 171)), (5, .int x5)] [] (kc + 1) (ks + 6) := by
  unfold b_L_law_1445 at h
  refine g_goto (tgt := 3616) C dL_law_1445 (by decide) ?_
  refine g_wid (kc' := (kc + 8)) (ks' := (ks + 48)) (by omega) (by omega) ?_
  exact g_L_law_3616  C X Z hkc hk28 h
set_option maxHeartbeats 4000000 in
set_option maxRecDepth 100000 in
theorem g_L_law_1392 {Γ : ΓT} {ad : Nat → Nat} {b N : Nat} {xs : Nat → Int32} {μ : Mm} {k28 : Int32 → Mm → Option Unit} {kc ks n : Nat} {x5 : Int32} {r : Unit} (C : Cx Γ RL cL_law 9) (X : Ry Γ room_1) (Z : Zx Γ b N xs) (hkc : kc + 10 * (n + 1) ≤ 601024 ∧ ks + 60 * (n + 1) ≤ 7293034) (hk28 : ∀ (x5 : Int32) (ν : Mm) (kc2 ks2 : Nat), kc2 ≤ kc + 10 → ks2 ≤ ks + 60 → k28 x5 ν = some r → G Γ ad layL 9 ν 28 [(0, .ref b), (1, .ref (ad 0)), (2, .ref (ad 157)), (3, .ref (ad 170)), (4, .ref (ad 171)), (5, .int x5)] [] kc2 ks2) (h : b_L_law_1392 N xs μ k28 x5 = some r) : G Γ ad layL 9 μ 1392 [(0, .ref b), (1, .ref (ad 0)), (2, .ref (ad 157)), (3, .ref (ad 170)), (4, .ref (ad 171)), (5, .int x5)] [] kc ks := by
  unfold b_L_law_1392 at h
  refine g_aload_n C dL_law_1392 1 rfl ?_
  refine g_aload_n C dL_law_1393 0 rfl ?_
  refine g_iload C dL_law_1394 5 rfl ?_
  refine g_iconst C dL_law_1396 iv_1 ?_
  refine g_iadd C dL_law_1397 ?_
  obtain ⟨hz1398, h⟩ := i_n h
  refine g_scr Z C hz1398 dL_law_1398 ?_
  refine g_aload_n C dL_law_1399 3 rfl ?_
  obtain ⟨q1400, hq1400, h⟩ := i_b h
  have hc1400 := c_L_firstFailing (ad := ad) (sd := gsd Γ) (ry_tr X) hq1400
  refine g_callSxy [.ref (ad 0), .int (xs (Int32.toNatClampNeg (x5 + 1))), .ref (ad 170)] [] C X k_RL_253 hc1400 (by decide) (by first | (constructor <;> (simp only [rm_L_firstFailing, room_1]; omega)) | omega) rfl (Nat.le_of_ble_eq_true rfl) rfl dL_law_1400 (stk2 := [.int q1400.1]) rfl rfl rfl ?_
  refine g_istore (L' := [(6, .int q1400.1), (0, .ref b), (1, .ref (ad 0)), (2, .ref (ad 157)), (3, .ref (ad 170)), (4, .ref (ad 171)), (5, .int x5)]) C dL_law_1403 (by decide) rfl ?_
  refine g_aload_n C dL_law_1405 3 rfl ?_
  refine g_aload_n C dL_law_1406 1 rfl ?_
  refine g_iload C dL_law_1407 6 rfl ?_
  refine g_iconst C dL_law_1409 iv_1 ?_
  refine g_iadd C dL_law_1410 ?_
  obtain ⟨hz1411, h⟩ := i_n h
  refine g_scr Z C hz1411 dL_law_1411 ?_
  obtain ⟨q1412, hq1412, h⟩ := i_b h
  have hc1412 := c_X10_firstFailing (ad := ad) (sd := gsd Γ) (ry_tr X) hq1412
  refine g_callVny [.int (xs (Int32.toNatClampNeg (x5 + 1)))] [] C X k_RL_255 hc1412 ly_157 rfl (by decide) (by first | (constructor <;> (simp only [rm_X10_firstFailing, room_1]; omega)) | omega) rfl (Nat.le_of_ble_eq_true rfl) rfl dL_law_1412 (stk2 := [.int q1412.1]) rfl rfl rfl ?_
  refine g_istore (L' := [(7, .int q1412.1), (6, .int q1400.1), (0, .ref b), (1, .ref (ad 0)), (2, .ref (ad 157)), (3, .ref (ad 170)), (4, .ref (ad 171)), (5, .int x5)]) C dL_law_1415 (by decide) rfl ?_
  refine g_aload_n C dL_law_1417 4 rfl ?_
  obtain ⟨q1418, hq1418, h⟩ := i_b h
  have hc1418 := c_X10_thrown (ad := ad) (sd := gsd Γ) (ry_tr X) hq1418
  refine g_callVny [] [] C X k_RL_203 hc1418 ly_157 rfl (by decide) (by first | (constructor <;> (simp only [rm_X10_thrown, room_1]; omega)) | omega) rfl (Nat.le_of_ble_eq_true rfl) rfl dL_law_1418 (stk2 := [.int q1418]) rfl rfl rfl ?_
  refine g_iload C dL_law_1421 1 rfl ?_
  refine g_icmp_eq (tgt := 1428) C dL_law_1423 (by decide) (fun c => ?_) (fun c => ?_)
  · replace h := i_t c h
    refine g_iload C dL_law_1428 1 rfl ?_
    refine g_if_ne (tgt := 1445) C dL_law_1430 (by decide) (fun c => ?_) (fun c => ?_)
    · replace h := i_f c h
      refine g_sub (L' := [(0, .ref b), (1, .ref (ad 0)), (2, .ref (ad 157)), (3, .ref (ad 170)), (4, .ref (ad 171)), (5, .int x5)]) [2, 3, 4, 5, 6, 7] rfl ?_
      exact g_L_law_1445  C X Z hkc hk28 h
    · replace h := i_t c h
      refine g_aload_n C dL_law_1433 5 rfl ?_
      refine g_iconst C dL_law_1434 iv_0 ?_
      obtain ⟨hz1435, h⟩ := i_n h
      refine g_lald C ly_170 hz1435 dL_law_1435 ?_
      refine g_iload C dL_law_1436 0 rfl ?_
      refine g_i2l C dL_law_1438 ?_
      refine g_lcmp C dL_law_1439 ?_
      refine g_if_eq (tgt := 1445) C dL_law_1440 (by decide) (fun c => ?_) (fun c => ?_)
      · replace h := i_t c h
        refine g_sub (L' := [(0, .ref b), (1, .ref (ad 0)), (2, .ref (ad 157)), (3, .ref (ad 170)), (4, .ref (ad 171)), (5, .int x5)]) [2, 3, 4, 5, 6, 7] rfl ?_
        exact g_L_law_1445  C X Z hkc hk28 h
      · replace h := i_f c h
        refine g_iconst C dL_law_1443 iv_0 ?_
        cases h
  · replace h := i_f c h
    refine g_iconst C dL_law_1426 iv_0 ?_
    cases h
set_option maxHeartbeats 4000000 in
set_option maxRecDepth 100000 in
theorem g_L_law_1501 {Γ : ΓT} {ad : Nat → Nat} {b N : Nat} {xs : Nat → Int32} {μ : Mm} {k28 : Int32 → Mm → Option Unit} {kc ks n : Nat} {x5 : Int32} {r : Unit} (C : Cx Γ RL cL_law 9) (X : Ry Γ room_1) (Z : Zx Γ b N xs) (hkc : kc + 10 * (n + 1) ≤ 601024 ∧ ks + 60 * (n + 1) ≤ 7293034) (hk28 : ∀ (x5 : Int32) (ν : Mm) (kc2 ks2 : Nat), kc2 ≤ kc + 10 → ks2 ≤ ks + 60 → k28 x5 ν = some r → G Γ ad layL 9 ν 28 [(0, .ref b), (1, .ref (ad 0)), (2, .ref (ad 157)), (3, .ref (ad 170)), (4, .ref (ad 171)), (5, .int x5)] [] kc2 ks2) (h : b_L_law_1501 N xs μ k28 x5 = some r) : G Γ ad layL 9 μ 1501 [(0, .ref b), (1, .ref (ad 0)), (2, .ref (ad 157)), (3, .ref (ad 170)), (4, .ref (ad 171)), (5, .int x5)] [] (kc + 1) (ks + 6) := by
  unfold b_L_law_1501 at h
  refine g_goto (tgt := 3616) C dL_law_1501 (by decide) ?_
  refine g_wid (kc' := (kc + 8)) (ks' := (ks + 48)) (by omega) (by omega) ?_
  exact g_L_law_3616  C X Z hkc hk28 h
set_option maxHeartbeats 4000000 in
set_option maxRecDepth 100000 in
theorem g_L_law_1448 {Γ : ΓT} {ad : Nat → Nat} {b N : Nat} {xs : Nat → Int32} {μ : Mm} {k28 : Int32 → Mm → Option Unit} {kc ks n : Nat} {x5 : Int32} {r : Unit} (C : Cx Γ RL cL_law 9) (X : Ry Γ room_1) (Z : Zx Γ b N xs) (hkc : kc + 10 * (n + 1) ≤ 601024 ∧ ks + 60 * (n + 1) ≤ 7293034) (hk28 : ∀ (x5 : Int32) (ν : Mm) (kc2 ks2 : Nat), kc2 ≤ kc + 10 → ks2 ≤ ks + 60 → k28 x5 ν = some r → G Γ ad layL 9 ν 28 [(0, .ref b), (1, .ref (ad 0)), (2, .ref (ad 157)), (3, .ref (ad 170)), (4, .ref (ad 171)), (5, .int x5)] [] kc2 ks2) (h : b_L_law_1448 N xs μ k28 x5 = some r) : G Γ ad layL 9 μ 1448 [(0, .ref b), (1, .ref (ad 0)), (2, .ref (ad 157)), (3, .ref (ad 170)), (4, .ref (ad 171)), (5, .int x5)] [] kc ks := by
  unfold b_L_law_1448 at h
  refine g_aload_n C dL_law_1448 1 rfl ?_
  refine g_aload_n C dL_law_1449 0 rfl ?_
  refine g_iload C dL_law_1450 5 rfl ?_
  refine g_iconst C dL_law_1452 iv_1 ?_
  refine g_iadd C dL_law_1453 ?_
  obtain ⟨hz1454, h⟩ := i_n h
  refine g_scr Z C hz1454 dL_law_1454 ?_
  refine g_aload_n C dL_law_1455 3 rfl ?_
  obtain ⟨q1456, hq1456, h⟩ := i_b h
  have hc1456 := c_L_failing (ad := ad) (sd := gsd Γ) (ry_tr X) hq1456
  refine g_callSxy [.ref (ad 0), .int (xs (Int32.toNatClampNeg (x5 + 1))), .ref (ad 170)] [] C X k_RL_256 hc1456 (by decide) (by first | (constructor <;> (simp only [rm_L_failing, room_1]; omega)) | omega) rfl (Nat.le_of_ble_eq_true rfl) rfl dL_law_1456 (stk2 := [.int q1456.1]) rfl rfl rfl ?_
  refine g_istore (L' := [(6, .int q1456.1), (0, .ref b), (1, .ref (ad 0)), (2, .ref (ad 157)), (3, .ref (ad 170)), (4, .ref (ad 171)), (5, .int x5)]) C dL_law_1459 (by decide) rfl ?_
  refine g_aload_n C dL_law_1461 3 rfl ?_
  refine g_aload_n C dL_law_1462 1 rfl ?_
  refine g_iload C dL_law_1463 6 rfl ?_
  refine g_iconst C dL_law_1465 iv_1 ?_
  refine g_iadd C dL_law_1466 ?_
  obtain ⟨hz1467, h⟩ := i_n h
  refine g_scr Z C hz1467 dL_law_1467 ?_
  obtain ⟨q1468, hq1468, h⟩ := i_b h
  have hc1468 := c_X10_failing (ad := ad) (sd := gsd Γ) (ry_tr X) hq1468
  refine g_callVny [.int (xs (Int32.toNatClampNeg (x5 + 1)))] [] C X k_RL_258 hc1468 ly_157 rfl (by decide) (by first | (constructor <;> (simp only [rm_X10_failing, room_1]; omega)) | omega) rfl (Nat.le_of_ble_eq_true rfl) rfl dL_law_1468 (stk2 := [.int q1468.1]) rfl rfl rfl ?_
  refine g_istore (L' := [(7, .int q1468.1), (6, .int q1456.1), (0, .ref b), (1, .ref (ad 0)), (2, .ref (ad 157)), (3, .ref (ad 170)), (4, .ref (ad 171)), (5, .int x5)]) C dL_law_1471 (by decide) rfl ?_
  refine g_aload_n C dL_law_1473 4 rfl ?_
  obtain ⟨q1474, hq1474, h⟩ := i_b h
  have hc1474 := c_X10_thrown (ad := ad) (sd := gsd Γ) (ry_tr X) hq1474
  refine g_callVny [] [] C X k_RL_203 hc1474 ly_157 rfl (by decide) (by first | (constructor <;> (simp only [rm_X10_thrown, room_1]; omega)) | omega) rfl (Nat.le_of_ble_eq_true rfl) rfl dL_law_1474 (stk2 := [.int q1474]) rfl rfl rfl ?_
  refine g_iload C dL_law_1477 1 rfl ?_
  refine g_icmp_eq (tgt := 1484) C dL_law_1479 (by decide) (fun c => ?_) (fun c => ?_)
  · replace h := i_t c h
    refine g_iload C dL_law_1484 1 rfl ?_
    refine g_if_ne (tgt := 1501) C dL_law_1486 (by decide) (fun c => ?_) (fun c => ?_)
    · replace h := i_f c h
      refine g_sub (L' := [(0, .ref b), (1, .ref (ad 0)), (2, .ref (ad 157)), (3, .ref (ad 170)), (4, .ref (ad 171)), (5, .int x5)]) [2, 3, 4, 5, 6, 7] rfl ?_
      exact g_L_law_1501  C X Z hkc hk28 h
    · replace h := i_t c h
      refine g_aload_n C dL_law_1489 5 rfl ?_
      refine g_iconst C dL_law_1490 iv_0 ?_
      obtain ⟨hz1491, h⟩ := i_n h
      refine g_lald C ly_170 hz1491 dL_law_1491 ?_
      refine g_iload C dL_law_1492 0 rfl ?_
      refine g_i2l C dL_law_1494 ?_
      refine g_lcmp C dL_law_1495 ?_
      refine g_if_eq (tgt := 1501) C dL_law_1496 (by decide) (fun c => ?_) (fun c => ?_)
      · replace h := i_t c h
        refine g_sub (L' := [(0, .ref b), (1, .ref (ad 0)), (2, .ref (ad 157)), (3, .ref (ad 170)), (4, .ref (ad 171)), (5, .int x5)]) [2, 3, 4, 5, 6, 7] rfl ?_
        exact g_L_law_1501  C X Z hkc hk28 h
      · replace h := i_f c h
        refine g_iconst C dL_law_1499 iv_0 ?_
        cases h
  · replace h := i_f c h
    refine g_iconst C dL_law_1482 iv_0 ?_
    cases h
set_option maxHeartbeats 4000000 in
set_option maxRecDepth 100000 in
theorem g_L_law_1569 {Γ : ΓT} {ad : Nat → Nat} {b N : Nat} {xs : Nat → Int32} {μ : Mm} {k28 : Int32 → Mm → Option Unit} {kc ks n : Nat} {x5 : Int32} {r : Unit} (C : Cx Γ RL cL_law 9) (X : Ry Γ room_1) (Z : Zx Γ b N xs) (hkc : kc + 10 * (n + 1) ≤ 601024 ∧ ks + 60 * (n + 1) ≤ 7293034) (hk28 : ∀ (x5 : Int32) (ν : Mm) (kc2 ks2 : Nat), kc2 ≤ kc + 10 → ks2 ≤ ks + 60 → k28 x5 ν = some r → G Γ ad layL 9 ν 28 [(0, .ref b), (1, .ref (ad 0)), (2, .ref (ad 157)), (3, .ref (ad 170)), (4, .ref (ad 171)), (5, .int x5)] [] kc2 ks2) (h : b_L_law_1569 N xs μ k28 x5 = some r) : G Γ ad layL 9 μ 1569 [(0, .ref b), (1, .ref (ad 0)), (2, .ref (ad 157)), (3, .ref (ad 170)), (4, .ref (ad 171)), (5, .int x5)] [] (kc + 2) (ks + 12) := by
  unfold b_L_law_1569 at h
  refine g_goto (tgt := 3616) C dL_law_1569 (by decide) ?_
  refine g_wid (kc' := (kc + 8)) (ks' := (ks + 48)) (by omega) (by omega) ?_
  exact g_L_law_3616  C X Z hkc hk28 h
set_option maxHeartbeats 4000000 in
set_option maxRecDepth 100000 in
theorem g_L_law_1504 {Γ : ΓT} {ad : Nat → Nat} {b N : Nat} {xs : Nat → Int32} {μ : Mm} {k28 : Int32 → Mm → Option Unit} {kc ks n : Nat} {x5 : Int32} {r : Unit} (C : Cx Γ RL cL_law 9) (X : Ry Γ room_1) (Z : Zx Γ b N xs) (hkc : kc + 10 * (n + 1) ≤ 601024 ∧ ks + 60 * (n + 1) ≤ 7293034) (hk28 : ∀ (x5 : Int32) (ν : Mm) (kc2 ks2 : Nat), kc2 ≤ kc + 10 → ks2 ≤ ks + 60 → k28 x5 ν = some r → G Γ ad layL 9 ν 28 [(0, .ref b), (1, .ref (ad 0)), (2, .ref (ad 157)), (3, .ref (ad 170)), (4, .ref (ad 171)), (5, .int x5)] [] kc2 ks2) (h : b_L_law_1504 N xs μ k28 x5 = some r) : G Γ ad layL 9 μ 1504 [(0, .ref b), (1, .ref (ad 0)), (2, .ref (ad 157)), (3, .ref (ad 170)), (4, .ref (ad 171)), (5, .int x5)] [] kc ks := by
  unfold b_L_law_1504 at h
  refine g_aload_n C dL_law_1504 1 rfl ?_
  refine g_aload_n C dL_law_1505 0 rfl ?_
  refine g_iload C dL_law_1506 5 rfl ?_
  refine g_iconst C dL_law_1508 iv_1 ?_
  refine g_iadd C dL_law_1509 ?_
  obtain ⟨hz1510, h⟩ := i_n h
  refine g_scr Z C hz1510 dL_law_1510 ?_
  refine g_aload_n C dL_law_1511 0 rfl ?_
  refine g_iload C dL_law_1512 5 rfl ?_
  refine g_iconst C dL_law_1514 iv_2 ?_
  refine g_iadd C dL_law_1515 ?_
  obtain ⟨hz1516, h⟩ := i_n h
  refine g_scr Z C hz1516 dL_law_1516 ?_
  refine g_aload_n C dL_law_1517 3 rfl ?_
  obtain ⟨q1518, hq1518, h⟩ := i_b h
  have hc1518 := c_L_rutIn (ad := ad) (sd := gsd Γ) (ry_tr X) hq1518
  refine g_callSxy [.ref (ad 0), .int (xs (Int32.toNatClampNeg (x5 + 1))), .int (xs (Int32.toNatClampNeg (x5 + 2))), .ref (ad 170)] [] C X k_RL_259 hc1518 (by decide) (by first | (constructor <;> (simp only [rm_L_rutIn, room_1]; omega)) | omega) rfl (Nat.le_of_ble_eq_true rfl) rfl dL_law_1518 (stk2 := [.int q1518.1]) rfl rfl rfl ?_
  refine g_istore (L' := [(6, .int q1518.1), (0, .ref b), (1, .ref (ad 0)), (2, .ref (ad 157)), (3, .ref (ad 170)), (4, .ref (ad 171)), (5, .int x5)]) C dL_law_1521 (by decide) rfl ?_
  refine g_aload_n C dL_law_1523 3 rfl ?_
  refine g_aload_n C dL_law_1524 1 rfl ?_
  refine g_iload C dL_law_1525 6 rfl ?_
  refine g_iconst C dL_law_1527 iv_1 ?_
  refine g_iadd C dL_law_1528 ?_
  obtain ⟨hz1529, h⟩ := i_n h
  refine g_scr Z C hz1529 dL_law_1529 ?_
  refine g_aload_n C dL_law_1530 1 rfl ?_
  refine g_iload C dL_law_1531 6 rfl ?_
  refine g_iconst C dL_law_1533 iv_2 ?_
  refine g_iadd C dL_law_1534 ?_
  obtain ⟨hz1535, h⟩ := i_n h
  refine g_scr Z C hz1535 dL_law_1535 ?_
  obtain ⟨q1536, hq1536, h⟩ := i_b h
  have hc1536 := c_X10_rutIn (ad := ad) (sd := gsd Γ) (ry_tr X) hq1536
  refine g_callVny [.int (xs (Int32.toNatClampNeg (x5 + 1))), .int (xs (Int32.toNatClampNeg (x5 + 2)))] [] C X k_RL_261 hc1536 ly_157 rfl (by decide) (by first | (constructor <;> (simp only [rm_X10_rutIn, room_1]; omega)) | omega) rfl (Nat.le_of_ble_eq_true rfl) rfl dL_law_1536 (stk2 := [.int q1536.1]) rfl rfl rfl ?_
  refine g_istore (L' := [(7, .int q1536.1), (6, .int q1518.1), (0, .ref b), (1, .ref (ad 0)), (2, .ref (ad 157)), (3, .ref (ad 170)), (4, .ref (ad 171)), (5, .int x5)]) C dL_law_1539 (by decide) rfl ?_
  refine g_aload_n C dL_law_1541 4 rfl ?_
  obtain ⟨q1542, hq1542, h⟩ := i_b h
  have hc1542 := c_X10_thrown (ad := ad) (sd := gsd Γ) (ry_tr X) hq1542
  refine g_callVny [] [] C X k_RL_203 hc1542 ly_157 rfl (by decide) (by first | (constructor <;> (simp only [rm_X10_thrown, room_1]; omega)) | omega) rfl (Nat.le_of_ble_eq_true rfl) rfl dL_law_1542 (stk2 := [.int q1542]) rfl rfl rfl ?_
  refine g_iload C dL_law_1545 1 rfl ?_
  refine g_icmp_eq (tgt := 1552) C dL_law_1547 (by decide) (fun c => ?_) (fun c => ?_)
  · replace h := i_t c h
    refine g_iload C dL_law_1552 1 rfl ?_
    refine g_if_ne (tgt := 1569) C dL_law_1554 (by decide) (fun c => ?_) (fun c => ?_)
    · replace h := i_f c h
      refine g_sub (L' := [(0, .ref b), (1, .ref (ad 0)), (2, .ref (ad 157)), (3, .ref (ad 170)), (4, .ref (ad 171)), (5, .int x5)]) [2, 3, 4, 5, 6, 7] rfl ?_
      exact g_L_law_1569  C X Z hkc hk28 h
    · replace h := i_t c h
      refine g_aload_n C dL_law_1557 5 rfl ?_
      refine g_iconst C dL_law_1558 iv_0 ?_
      obtain ⟨hz1559, h⟩ := i_n h
      refine g_lald C ly_170 hz1559 dL_law_1559 ?_
      refine g_iload C dL_law_1560 0 rfl ?_
      refine g_i2l C dL_law_1562 ?_
      refine g_lcmp C dL_law_1563 ?_
      refine g_if_eq (tgt := 1569) C dL_law_1564 (by decide) (fun c => ?_) (fun c => ?_)
      · replace h := i_t c h
        refine g_sub (L' := [(0, .ref b), (1, .ref (ad 0)), (2, .ref (ad 157)), (3, .ref (ad 170)), (4, .ref (ad 171)), (5, .int x5)]) [2, 3, 4, 5, 6, 7] rfl ?_
        exact g_L_law_1569  C X Z hkc hk28 h
      · replace h := i_f c h
        refine g_iconst C dL_law_1567 iv_0 ?_
        cases h
  · replace h := i_f c h
    refine g_iconst C dL_law_1550 iv_0 ?_
    cases h
set_option maxHeartbeats 4000000 in
set_option maxRecDepth 100000 in
theorem g_L_law_1636 {Γ : ΓT} {ad : Nat → Nat} {b N : Nat} {xs : Nat → Int32} {μ : Mm} {k28 : Int32 → Mm → Option Unit} {kc ks n : Nat} {x5 : Int32} {r : Unit} (C : Cx Γ RL cL_law 9) (X : Ry Γ room_1) (Z : Zx Γ b N xs) (hkc : kc + 10 * (n + 1) ≤ 601024 ∧ ks + 60 * (n + 1) ≤ 7293034) (hk28 : ∀ (x5 : Int32) (ν : Mm) (kc2 ks2 : Nat), kc2 ≤ kc + 10 → ks2 ≤ ks + 60 → k28 x5 ν = some r → G Γ ad layL 9 ν 28 [(0, .ref b), (1, .ref (ad 0)), (2, .ref (ad 157)), (3, .ref (ad 170)), (4, .ref (ad 171)), (5, .int x5)] [] kc2 ks2) (h : b_L_law_1636 N xs μ k28 x5 = some r) : G Γ ad layL 9 μ 1636 [(0, .ref b), (1, .ref (ad 0)), (2, .ref (ad 157)), (3, .ref (ad 170)), (4, .ref (ad 171)), (5, .int x5)] [] (kc + 2) (ks + 12) := by
  unfold b_L_law_1636 at h
  refine g_goto (tgt := 3616) C dL_law_1636 (by decide) ?_
  refine g_wid (kc' := (kc + 8)) (ks' := (ks + 48)) (by omega) (by omega) ?_
  exact g_L_law_3616  C X Z hkc hk28 h
set_option maxHeartbeats 4000000 in
set_option maxRecDepth 100000 in
theorem g_L_law_1572 {Γ : ΓT} {ad : Nat → Nat} {b N : Nat} {xs : Nat → Int32} {μ : Mm} {k28 : Int32 → Mm → Option Unit} {kc ks n : Nat} {x5 : Int32} {r : Unit} (C : Cx Γ RL cL_law 9) (X : Ry Γ room_1) (Z : Zx Γ b N xs) (hkc : kc + 10 * (n + 1) ≤ 601024 ∧ ks + 60 * (n + 1) ≤ 7293034) (hk28 : ∀ (x5 : Int32) (ν : Mm) (kc2 ks2 : Nat), kc2 ≤ kc + 10 → ks2 ≤ ks + 60 → k28 x5 ν = some r → G Γ ad layL 9 ν 28 [(0, .ref b), (1, .ref (ad 0)), (2, .ref (ad 157)), (3, .ref (ad 170)), (4, .ref (ad 171)), (5, .int x5)] [] kc2 ks2) (h : b_L_law_1572 N xs μ k28 x5 = some r) : G Γ ad layL 9 μ 1572 [(0, .ref b), (1, .ref (ad 0)), (2, .ref (ad 157)), (3, .ref (ad 170)), (4, .ref (ad 171)), (5, .int x5)] [] kc ks := by
  unfold b_L_law_1572 at h
  refine g_aload_n C dL_law_1572 1 rfl ?_
  refine g_aload_n C dL_law_1573 0 rfl ?_
  refine g_iload C dL_law_1574 5 rfl ?_
  refine g_iconst C dL_law_1576 iv_1 ?_
  refine g_iadd C dL_law_1577 ?_
  obtain ⟨hz1578, h⟩ := i_n h
  refine g_scr Z C hz1578 dL_law_1578 ?_
  refine g_aload_n C dL_law_1579 0 rfl ?_
  refine g_iload C dL_law_1580 5 rfl ?_
  refine g_iconst C dL_law_1582 iv_2 ?_
  refine g_iadd C dL_law_1583 ?_
  obtain ⟨hz1584, h⟩ := i_n h
  refine g_scr Z C hz1584 dL_law_1584 ?_
  refine g_aload_n C dL_law_1585 3 rfl ?_
  obtain ⟨q1586, hq1586, h⟩ := i_b h
  have hc1586 := c_L_wornIn (ad := ad) (sd := gsd Γ) (ry_tr X) hq1586
  refine g_callSxy [.ref (ad 0), .int (xs (Int32.toNatClampNeg (x5 + 1))), .int (xs (Int32.toNatClampNeg (x5 + 2))), .ref (ad 170)] [] C X k_RL_262 hc1586 (by decide) (by first | (constructor <;> (simp only [rm_L_wornIn, room_1]; omega)) | omega) rfl (Nat.le_of_ble_eq_true rfl) rfl dL_law_1586 (stk2 := [.int q1586.1]) rfl rfl rfl ?_
  refine g_istore (L' := [(6, .int q1586.1), (0, .ref b), (1, .ref (ad 0)), (2, .ref (ad 157)), (3, .ref (ad 170)), (4, .ref (ad 171)), (5, .int x5)]) C dL_law_1589 (by decide) rfl ?_
  refine g_aload_n C dL_law_1591 3 rfl ?_
  refine g_aload_n C dL_law_1592 1 rfl ?_
  refine g_iload C dL_law_1593 6 rfl ?_
  refine g_iconst C dL_law_1595 iv_1 ?_
  refine g_iadd C dL_law_1596 ?_
  obtain ⟨hz1597, h⟩ := i_n h
  refine g_scr Z C hz1597 dL_law_1597 ?_
  refine g_aload_n C dL_law_1598 1 rfl ?_
  refine g_iload C dL_law_1599 6 rfl ?_
  refine g_iconst C dL_law_1601 iv_2 ?_
  refine g_iadd C dL_law_1602 ?_
  obtain ⟨hz1603, h⟩ := i_n h
  refine g_scr Z C hz1603 dL_law_1603 ?_
  obtain ⟨q1604, hq1604, h⟩ := i_b h
  have hc1604 := c_X10_wornIn (ad := ad) (sd := gsd Γ) (ry_tr X) hq1604
  refine g_callVny [.int (xs (Int32.toNatClampNeg (x5 + 1))), .int (xs (Int32.toNatClampNeg (x5 + 2)))] [] C X k_RL_264 hc1604 ly_157 rfl (by decide) (by first | (constructor <;> (simp only [rm_X10_wornIn, room_1]; omega)) | omega) rfl (Nat.le_of_ble_eq_true rfl) rfl dL_law_1604 (stk2 := [.long q1604.1]) rfl rfl rfl ?_
  refine g_lstore (L' := [(7, .long q1604.1), (6, .int q1586.1), (0, .ref b), (1, .ref (ad 0)), (2, .ref (ad 157)), (3, .ref (ad 170)), (4, .ref (ad 171)), (5, .int x5)]) C dL_law_1607 (by decide) rfl ?_
  refine g_aload_n C dL_law_1609 4 rfl ?_
  obtain ⟨q1610, hq1610, h⟩ := i_b h
  have hc1610 := c_X10_thrown (ad := ad) (sd := gsd Γ) (ry_tr X) hq1610
  refine g_callVny [] [] C X k_RL_203 hc1610 ly_157 rfl (by decide) (by first | (constructor <;> (simp only [rm_X10_thrown, room_1]; omega)) | omega) rfl (Nat.le_of_ble_eq_true rfl) rfl dL_law_1610 (stk2 := [.int q1610]) rfl rfl rfl ?_
  refine g_iload C dL_law_1613 1 rfl ?_
  refine g_icmp_eq (tgt := 1620) C dL_law_1615 (by decide) (fun c => ?_) (fun c => ?_)
  · replace h := i_t c h
    refine g_iload C dL_law_1620 1 rfl ?_
    refine g_if_ne (tgt := 1636) C dL_law_1622 (by decide) (fun c => ?_) (fun c => ?_)
    · replace h := i_f c h
      refine g_sub (L' := [(0, .ref b), (1, .ref (ad 0)), (2, .ref (ad 157)), (3, .ref (ad 170)), (4, .ref (ad 171)), (5, .int x5)]) [2, 3, 4, 5, 6, 7] rfl ?_
      exact g_L_law_1636  C X Z hkc hk28 h
    · replace h := i_t c h
      refine g_aload_n C dL_law_1625 5 rfl ?_
      refine g_iconst C dL_law_1626 iv_0 ?_
      obtain ⟨hz1627, h⟩ := i_n h
      refine g_lald C ly_170 hz1627 dL_law_1627 ?_
      refine g_lload C dL_law_1628 0 rfl ?_
      refine g_lcmp C dL_law_1630 ?_
      refine g_if_eq (tgt := 1636) C dL_law_1631 (by decide) (fun c => ?_) (fun c => ?_)
      · replace h := i_t c h
        refine g_sub (L' := [(0, .ref b), (1, .ref (ad 0)), (2, .ref (ad 157)), (3, .ref (ad 170)), (4, .ref (ad 171)), (5, .int x5)]) [2, 3, 4, 5, 6, 7] rfl ?_
        exact g_L_law_1636  C X Z hkc hk28 h
      · replace h := i_f c h
        refine g_iconst C dL_law_1634 iv_0 ?_
        cases h
  · replace h := i_f c h
    refine g_iconst C dL_law_1618 iv_0 ?_
    cases h
set_option maxHeartbeats 4000000 in
set_option maxRecDepth 100000 in
theorem g_L_law_1704 {Γ : ΓT} {ad : Nat → Nat} {b N : Nat} {xs : Nat → Int32} {μ : Mm} {k28 : Int32 → Mm → Option Unit} {kc ks n : Nat} {x5 : Int32} {r : Unit} (C : Cx Γ RL cL_law 9) (X : Ry Γ room_1) (Z : Zx Γ b N xs) (hkc : kc + 10 * (n + 1) ≤ 601024 ∧ ks + 60 * (n + 1) ≤ 7293034) (hk28 : ∀ (x5 : Int32) (ν : Mm) (kc2 ks2 : Nat), kc2 ≤ kc + 10 → ks2 ≤ ks + 60 → k28 x5 ν = some r → G Γ ad layL 9 ν 28 [(0, .ref b), (1, .ref (ad 0)), (2, .ref (ad 157)), (3, .ref (ad 170)), (4, .ref (ad 171)), (5, .int x5)] [] kc2 ks2) (h : b_L_law_1704 N xs μ k28 x5 = some r) : G Γ ad layL 9 μ 1704 [(0, .ref b), (1, .ref (ad 0)), (2, .ref (ad 157)), (3, .ref (ad 170)), (4, .ref (ad 171)), (5, .int x5)] [] (kc + 2) (ks + 12) := by
  unfold b_L_law_1704 at h
  refine g_goto (tgt := 3616) C dL_law_1704 (by decide) ?_
  refine g_wid (kc' := (kc + 8)) (ks' := (ks + 48)) (by omega) (by omega) ?_
  exact g_L_law_3616  C X Z hkc hk28 h
set_option maxHeartbeats 4000000 in
set_option maxRecDepth 100000 in
theorem g_L_law_1639 {Γ : ΓT} {ad : Nat → Nat} {b N : Nat} {xs : Nat → Int32} {μ : Mm} {k28 : Int32 → Mm → Option Unit} {kc ks n : Nat} {x5 : Int32} {r : Unit} (C : Cx Γ RL cL_law 9) (X : Ry Γ room_1) (Z : Zx Γ b N xs) (hkc : kc + 10 * (n + 1) ≤ 601024 ∧ ks + 60 * (n + 1) ≤ 7293034) (hk28 : ∀ (x5 : Int32) (ν : Mm) (kc2 ks2 : Nat), kc2 ≤ kc + 10 → ks2 ≤ ks + 60 → k28 x5 ν = some r → G Γ ad layL 9 ν 28 [(0, .ref b), (1, .ref (ad 0)), (2, .ref (ad 157)), (3, .ref (ad 170)), (4, .ref (ad 171)), (5, .int x5)] [] kc2 ks2) (h : b_L_law_1639 N xs μ k28 x5 = some r) : G Γ ad layL 9 μ 1639 [(0, .ref b), (1, .ref (ad 0)), (2, .ref (ad 157)), (3, .ref (ad 170)), (4, .ref (ad 171)), (5, .int x5)] [] kc ks := by
  unfold b_L_law_1639 at h
  refine g_aload_n C dL_law_1639 1 rfl ?_
  refine g_aload_n C dL_law_1640 0 rfl ?_
  refine g_iload C dL_law_1641 5 rfl ?_
  refine g_iconst C dL_law_1643 iv_1 ?_
  refine g_iadd C dL_law_1644 ?_
  obtain ⟨hz1645, h⟩ := i_n h
  refine g_scr Z C hz1645 dL_law_1645 ?_
  refine g_aload_n C dL_law_1646 0 rfl ?_
  refine g_iload C dL_law_1647 5 rfl ?_
  refine g_iconst C dL_law_1649 iv_2 ?_
  refine g_iadd C dL_law_1650 ?_
  obtain ⟨hz1651, h⟩ := i_n h
  refine g_scr Z C hz1651 dL_law_1651 ?_
  refine g_aload_n C dL_law_1652 3 rfl ?_
  obtain ⟨q1653, hq1653, h⟩ := i_b h
  have hc1653 := c_L_countIn (ad := ad) (sd := gsd Γ) (ry_tr X) hq1653
  refine g_callSxy [.ref (ad 0), .int (xs (Int32.toNatClampNeg (x5 + 1))), .int (xs (Int32.toNatClampNeg (x5 + 2))), .ref (ad 170)] [] C X k_RL_265 hc1653 (by decide) (by first | (constructor <;> (simp only [rm_L_countIn, room_1]; omega)) | omega) rfl (Nat.le_of_ble_eq_true rfl) rfl dL_law_1653 (stk2 := [.int q1653.1]) rfl rfl rfl ?_
  refine g_istore (L' := [(6, .int q1653.1), (0, .ref b), (1, .ref (ad 0)), (2, .ref (ad 157)), (3, .ref (ad 170)), (4, .ref (ad 171)), (5, .int x5)]) C dL_law_1656 (by decide) rfl ?_
  refine g_aload_n C dL_law_1658 3 rfl ?_
  refine g_aload_n C dL_law_1659 1 rfl ?_
  refine g_iload C dL_law_1660 6 rfl ?_
  refine g_iconst C dL_law_1662 iv_1 ?_
  refine g_iadd C dL_law_1663 ?_
  obtain ⟨hz1664, h⟩ := i_n h
  refine g_scr Z C hz1664 dL_law_1664 ?_
  refine g_aload_n C dL_law_1665 1 rfl ?_
  refine g_iload C dL_law_1666 6 rfl ?_
  refine g_iconst C dL_law_1668 iv_2 ?_
  refine g_iadd C dL_law_1669 ?_
  obtain ⟨hz1670, h⟩ := i_n h
  refine g_scr Z C hz1670 dL_law_1670 ?_
  obtain ⟨q1671, hq1671, h⟩ := i_b h
  have hc1671 := c_X10_countIn (ad := ad) (sd := gsd Γ) (ry_tr X) hq1671
  refine g_callVny [.int (xs (Int32.toNatClampNeg (x5 + 1))), .int (xs (Int32.toNatClampNeg (x5 + 2)))] [] C X k_RL_267 hc1671 ly_157 rfl (by decide) (by first | (constructor <;> (simp only [rm_X10_countIn, room_1]; omega)) | omega) rfl (Nat.le_of_ble_eq_true rfl) rfl dL_law_1671 (stk2 := [.int q1671.1]) rfl rfl rfl ?_
  refine g_istore (L' := [(7, .int q1671.1), (6, .int q1653.1), (0, .ref b), (1, .ref (ad 0)), (2, .ref (ad 157)), (3, .ref (ad 170)), (4, .ref (ad 171)), (5, .int x5)]) C dL_law_1674 (by decide) rfl ?_
  refine g_aload_n C dL_law_1676 4 rfl ?_
  obtain ⟨q1677, hq1677, h⟩ := i_b h
  have hc1677 := c_X10_thrown (ad := ad) (sd := gsd Γ) (ry_tr X) hq1677
  refine g_callVny [] [] C X k_RL_203 hc1677 ly_157 rfl (by decide) (by first | (constructor <;> (simp only [rm_X10_thrown, room_1]; omega)) | omega) rfl (Nat.le_of_ble_eq_true rfl) rfl dL_law_1677 (stk2 := [.int q1677]) rfl rfl rfl ?_
  refine g_iload C dL_law_1680 1 rfl ?_
  refine g_icmp_eq (tgt := 1687) C dL_law_1682 (by decide) (fun c => ?_) (fun c => ?_)
  · replace h := i_t c h
    refine g_iload C dL_law_1687 1 rfl ?_
    refine g_if_ne (tgt := 1704) C dL_law_1689 (by decide) (fun c => ?_) (fun c => ?_)
    · replace h := i_f c h
      refine g_sub (L' := [(0, .ref b), (1, .ref (ad 0)), (2, .ref (ad 157)), (3, .ref (ad 170)), (4, .ref (ad 171)), (5, .int x5)]) [2, 3, 4, 5, 6, 7] rfl ?_
      exact g_L_law_1704  C X Z hkc hk28 h
    · replace h := i_t c h
      refine g_aload_n C dL_law_1692 5 rfl ?_
      refine g_iconst C dL_law_1693 iv_0 ?_
      obtain ⟨hz1694, h⟩ := i_n h
      refine g_lald C ly_170 hz1694 dL_law_1694 ?_
      refine g_iload C dL_law_1695 0 rfl ?_
      refine g_i2l C dL_law_1697 ?_
      refine g_lcmp C dL_law_1698 ?_
      refine g_if_eq (tgt := 1704) C dL_law_1699 (by decide) (fun c => ?_) (fun c => ?_)
      · replace h := i_t c h
        refine g_sub (L' := [(0, .ref b), (1, .ref (ad 0)), (2, .ref (ad 157)), (3, .ref (ad 170)), (4, .ref (ad 171)), (5, .int x5)]) [2, 3, 4, 5, 6, 7] rfl ?_
        exact g_L_law_1704  C X Z hkc hk28 h
      · replace h := i_f c h
        refine g_iconst C dL_law_1702 iv_0 ?_
        cases h
  · replace h := i_f c h
    refine g_iconst C dL_law_1685 iv_0 ?_
    cases h
set_option maxHeartbeats 4000000 in
set_option maxRecDepth 100000 in
theorem g_L_law_1772 {Γ : ΓT} {ad : Nat → Nat} {b N : Nat} {xs : Nat → Int32} {μ : Mm} {k28 : Int32 → Mm → Option Unit} {kc ks n : Nat} {x5 : Int32} {r : Unit} (C : Cx Γ RL cL_law 9) (X : Ry Γ room_1) (Z : Zx Γ b N xs) (hkc : kc + 10 * (n + 1) ≤ 601024 ∧ ks + 60 * (n + 1) ≤ 7293034) (hk28 : ∀ (x5 : Int32) (ν : Mm) (kc2 ks2 : Nat), kc2 ≤ kc + 10 → ks2 ≤ ks + 60 → k28 x5 ν = some r → G Γ ad layL 9 ν 28 [(0, .ref b), (1, .ref (ad 0)), (2, .ref (ad 157)), (3, .ref (ad 170)), (4, .ref (ad 171)), (5, .int x5)] [] kc2 ks2) (h : b_L_law_1772 N xs μ k28 x5 = some r) : G Γ ad layL 9 μ 1772 [(0, .ref b), (1, .ref (ad 0)), (2, .ref (ad 157)), (3, .ref (ad 170)), (4, .ref (ad 171)), (5, .int x5)] [] (kc + 2) (ks + 12) := by
  unfold b_L_law_1772 at h
  refine g_goto (tgt := 3616) C dL_law_1772 (by decide) ?_
  refine g_wid (kc' := (kc + 8)) (ks' := (ks + 48)) (by omega) (by omega) ?_
  exact g_L_law_3616  C X Z hkc hk28 h
set_option maxHeartbeats 4000000 in
set_option maxRecDepth 100000 in
theorem g_L_law_1707 {Γ : ΓT} {ad : Nat → Nat} {b N : Nat} {xs : Nat → Int32} {μ : Mm} {k28 : Int32 → Mm → Option Unit} {kc ks n : Nat} {x5 : Int32} {r : Unit} (C : Cx Γ RL cL_law 9) (X : Ry Γ room_1) (Z : Zx Γ b N xs) (hkc : kc + 10 * (n + 1) ≤ 601024 ∧ ks + 60 * (n + 1) ≤ 7293034) (hk28 : ∀ (x5 : Int32) (ν : Mm) (kc2 ks2 : Nat), kc2 ≤ kc + 10 → ks2 ≤ ks + 60 → k28 x5 ν = some r → G Γ ad layL 9 ν 28 [(0, .ref b), (1, .ref (ad 0)), (2, .ref (ad 157)), (3, .ref (ad 170)), (4, .ref (ad 171)), (5, .int x5)] [] kc2 ks2) (h : b_L_law_1707 N xs μ k28 x5 = some r) : G Γ ad layL 9 μ 1707 [(0, .ref b), (1, .ref (ad 0)), (2, .ref (ad 157)), (3, .ref (ad 170)), (4, .ref (ad 171)), (5, .int x5)] [] kc ks := by
  unfold b_L_law_1707 at h
  refine g_aload_n C dL_law_1707 1 rfl ?_
  refine g_aload_n C dL_law_1708 0 rfl ?_
  refine g_iload C dL_law_1709 5 rfl ?_
  refine g_iconst C dL_law_1711 iv_1 ?_
  refine g_iadd C dL_law_1712 ?_
  obtain ⟨hz1713, h⟩ := i_n h
  refine g_scr Z C hz1713 dL_law_1713 ?_
  refine g_aload_n C dL_law_1714 0 rfl ?_
  refine g_iload C dL_law_1715 5 rfl ?_
  refine g_iconst C dL_law_1717 iv_2 ?_
  refine g_iadd C dL_law_1718 ?_
  obtain ⟨hz1719, h⟩ := i_n h
  refine g_scr Z C hz1719 dL_law_1719 ?_
  refine g_aload_n C dL_law_1720 3 rfl ?_
  obtain ⟨q1721, hq1721, h⟩ := i_b h
  have hc1721 := c_L_yearsWith (ad := ad) (sd := gsd Γ) (ry_tr X) hq1721
  refine g_callSxy [.ref (ad 0), .int (xs (Int32.toNatClampNeg (x5 + 1))), .int (xs (Int32.toNatClampNeg (x5 + 2))), .ref (ad 170)] [] C X k_RL_268 hc1721 (by decide) (by first | (constructor <;> (simp only [rm_L_yearsWith, room_1]; omega)) | omega) rfl (Nat.le_of_ble_eq_true rfl) rfl dL_law_1721 (stk2 := [.int q1721.1]) rfl rfl rfl ?_
  refine g_istore (L' := [(6, .int q1721.1), (0, .ref b), (1, .ref (ad 0)), (2, .ref (ad 157)), (3, .ref (ad 170)), (4, .ref (ad 171)), (5, .int x5)]) C dL_law_1724 (by decide) rfl ?_
  refine g_aload_n C dL_law_1726 3 rfl ?_
  refine g_aload_n C dL_law_1727 1 rfl ?_
  refine g_iload C dL_law_1728 6 rfl ?_
  refine g_iconst C dL_law_1730 iv_1 ?_
  refine g_iadd C dL_law_1731 ?_
  obtain ⟨hz1732, h⟩ := i_n h
  refine g_scr Z C hz1732 dL_law_1732 ?_
  refine g_aload_n C dL_law_1733 1 rfl ?_
  refine g_iload C dL_law_1734 6 rfl ?_
  refine g_iconst C dL_law_1736 iv_2 ?_
  refine g_iadd C dL_law_1737 ?_
  obtain ⟨hz1738, h⟩ := i_n h
  refine g_scr Z C hz1738 dL_law_1738 ?_
  obtain ⟨q1739, hq1739, h⟩ := i_b h
  have hc1739 := c_X10_yearsWith (ad := ad) (sd := gsd Γ) (ry_tr X) hq1739
  refine g_callVny [.int (xs (Int32.toNatClampNeg (x5 + 1))), .int (xs (Int32.toNatClampNeg (x5 + 2)))] [] C X k_RL_270 hc1739 ly_157 rfl (by decide) (by first | (constructor <;> (simp only [rm_X10_yearsWith, room_1]; omega)) | omega) rfl (Nat.le_of_ble_eq_true rfl) rfl dL_law_1739 (stk2 := [.int q1739.1]) rfl rfl rfl ?_
  refine g_istore (L' := [(7, .int q1739.1), (6, .int q1721.1), (0, .ref b), (1, .ref (ad 0)), (2, .ref (ad 157)), (3, .ref (ad 170)), (4, .ref (ad 171)), (5, .int x5)]) C dL_law_1742 (by decide) rfl ?_
  refine g_aload_n C dL_law_1744 4 rfl ?_
  obtain ⟨q1745, hq1745, h⟩ := i_b h
  have hc1745 := c_X10_thrown (ad := ad) (sd := gsd Γ) (ry_tr X) hq1745
  refine g_callVny [] [] C X k_RL_203 hc1745 ly_157 rfl (by decide) (by first | (constructor <;> (simp only [rm_X10_thrown, room_1]; omega)) | omega) rfl (Nat.le_of_ble_eq_true rfl) rfl dL_law_1745 (stk2 := [.int q1745]) rfl rfl rfl ?_
  refine g_iload C dL_law_1748 1 rfl ?_
  refine g_icmp_eq (tgt := 1755) C dL_law_1750 (by decide) (fun c => ?_) (fun c => ?_)
  · replace h := i_t c h
    refine g_iload C dL_law_1755 1 rfl ?_
    refine g_if_ne (tgt := 1772) C dL_law_1757 (by decide) (fun c => ?_) (fun c => ?_)
    · replace h := i_f c h
      refine g_sub (L' := [(0, .ref b), (1, .ref (ad 0)), (2, .ref (ad 157)), (3, .ref (ad 170)), (4, .ref (ad 171)), (5, .int x5)]) [2, 3, 4, 5, 6, 7] rfl ?_
      exact g_L_law_1772  C X Z hkc hk28 h
    · replace h := i_t c h
      refine g_aload_n C dL_law_1760 5 rfl ?_
      refine g_iconst C dL_law_1761 iv_0 ?_
      obtain ⟨hz1762, h⟩ := i_n h
      refine g_lald C ly_170 hz1762 dL_law_1762 ?_
      refine g_iload C dL_law_1763 0 rfl ?_
      refine g_i2l C dL_law_1765 ?_
      refine g_lcmp C dL_law_1766 ?_
      refine g_if_eq (tgt := 1772) C dL_law_1767 (by decide) (fun c => ?_) (fun c => ?_)
      · replace h := i_t c h
        refine g_sub (L' := [(0, .ref b), (1, .ref (ad 0)), (2, .ref (ad 157)), (3, .ref (ad 170)), (4, .ref (ad 171)), (5, .int x5)]) [2, 3, 4, 5, 6, 7] rfl ?_
        exact g_L_law_1772  C X Z hkc hk28 h
      · replace h := i_f c h
        refine g_iconst C dL_law_1770 iv_0 ?_
        cases h
  · replace h := i_f c h
    refine g_iconst C dL_law_1753 iv_0 ?_
    cases h
set_option maxHeartbeats 4000000 in
set_option maxRecDepth 100000 in
theorem g_L_law_1840 {Γ : ΓT} {ad : Nat → Nat} {b N : Nat} {xs : Nat → Int32} {μ : Mm} {k28 : Int32 → Mm → Option Unit} {kc ks n : Nat} {x5 : Int32} {r : Unit} (C : Cx Γ RL cL_law 9) (X : Ry Γ room_1) (Z : Zx Γ b N xs) (hkc : kc + 10 * (n + 1) ≤ 601024 ∧ ks + 60 * (n + 1) ≤ 7293034) (hk28 : ∀ (x5 : Int32) (ν : Mm) (kc2 ks2 : Nat), kc2 ≤ kc + 10 → ks2 ≤ ks + 60 → k28 x5 ν = some r → G Γ ad layL 9 ν 28 [(0, .ref b), (1, .ref (ad 0)), (2, .ref (ad 157)), (3, .ref (ad 170)), (4, .ref (ad 171)), (5, .int x5)] [] kc2 ks2) (h : b_L_law_1840 N xs μ k28 x5 = some r) : G Γ ad layL 9 μ 1840 [(0, .ref b), (1, .ref (ad 0)), (2, .ref (ad 157)), (3, .ref (ad 170)), (4, .ref (ad 171)), (5, .int x5)] [] (kc + 2) (ks + 12) := by
  unfold b_L_law_1840 at h
  refine g_goto (tgt := 3616) C dL_law_1840 (by decide) ?_
  refine g_wid (kc' := (kc + 8)) (ks' := (ks + 48)) (by omega) (by omega) ?_
  exact g_L_law_3616  C X Z hkc hk28 h
set_option maxHeartbeats 4000000 in
set_option maxRecDepth 100000 in
theorem g_L_law_1775 {Γ : ΓT} {ad : Nat → Nat} {b N : Nat} {xs : Nat → Int32} {μ : Mm} {k28 : Int32 → Mm → Option Unit} {kc ks n : Nat} {x5 : Int32} {r : Unit} (C : Cx Γ RL cL_law 9) (X : Ry Γ room_1) (Z : Zx Γ b N xs) (hkc : kc + 10 * (n + 1) ≤ 601024 ∧ ks + 60 * (n + 1) ≤ 7293034) (hk28 : ∀ (x5 : Int32) (ν : Mm) (kc2 ks2 : Nat), kc2 ≤ kc + 10 → ks2 ≤ ks + 60 → k28 x5 ν = some r → G Γ ad layL 9 ν 28 [(0, .ref b), (1, .ref (ad 0)), (2, .ref (ad 157)), (3, .ref (ad 170)), (4, .ref (ad 171)), (5, .int x5)] [] kc2 ks2) (h : b_L_law_1775 N xs μ k28 x5 = some r) : G Γ ad layL 9 μ 1775 [(0, .ref b), (1, .ref (ad 0)), (2, .ref (ad 157)), (3, .ref (ad 170)), (4, .ref (ad 171)), (5, .int x5)] [] kc ks := by
  unfold b_L_law_1775 at h
  refine g_aload_n C dL_law_1775 1 rfl ?_
  refine g_aload_n C dL_law_1776 0 rfl ?_
  refine g_iload C dL_law_1777 5 rfl ?_
  refine g_iconst C dL_law_1779 iv_1 ?_
  refine g_iadd C dL_law_1780 ?_
  obtain ⟨hz1781, h⟩ := i_n h
  refine g_scr Z C hz1781 dL_law_1781 ?_
  refine g_aload_n C dL_law_1782 0 rfl ?_
  refine g_iload C dL_law_1783 5 rfl ?_
  refine g_iconst C dL_law_1785 iv_2 ?_
  refine g_iadd C dL_law_1786 ?_
  obtain ⟨hz1787, h⟩ := i_n h
  refine g_scr Z C hz1787 dL_law_1787 ?_
  refine g_aload_n C dL_law_1788 3 rfl ?_
  obtain ⟨q1789, hq1789, h⟩ := i_b h
  have hc1789 := c_L_yearsIfClosed (ad := ad) (sd := gsd Γ) (ry_tr X) hq1789
  refine g_callSxy [.ref (ad 0), .int (xs (Int32.toNatClampNeg (x5 + 1))), .int (xs (Int32.toNatClampNeg (x5 + 2))), .ref (ad 170)] [] C X k_RL_271 hc1789 (by decide) (by first | (constructor <;> (simp only [rm_L_yearsIfClosed, room_1]; omega)) | omega) rfl (Nat.le_of_ble_eq_true rfl) rfl dL_law_1789 (stk2 := [.int q1789.1]) rfl rfl rfl ?_
  refine g_istore (L' := [(6, .int q1789.1), (0, .ref b), (1, .ref (ad 0)), (2, .ref (ad 157)), (3, .ref (ad 170)), (4, .ref (ad 171)), (5, .int x5)]) C dL_law_1792 (by decide) rfl ?_
  refine g_aload_n C dL_law_1794 3 rfl ?_
  refine g_aload_n C dL_law_1795 1 rfl ?_
  refine g_iload C dL_law_1796 6 rfl ?_
  refine g_iconst C dL_law_1798 iv_1 ?_
  refine g_iadd C dL_law_1799 ?_
  obtain ⟨hz1800, h⟩ := i_n h
  refine g_scr Z C hz1800 dL_law_1800 ?_
  refine g_aload_n C dL_law_1801 1 rfl ?_
  refine g_iload C dL_law_1802 6 rfl ?_
  refine g_iconst C dL_law_1804 iv_2 ?_
  refine g_iadd C dL_law_1805 ?_
  obtain ⟨hz1806, h⟩ := i_n h
  refine g_scr Z C hz1806 dL_law_1806 ?_
  obtain ⟨q1807, hq1807, h⟩ := i_b h
  have hc1807 := c_X10_yearsIfClosed (ad := ad) (sd := gsd Γ) (ry_tr X) hq1807
  refine g_callVny [.int (xs (Int32.toNatClampNeg (x5 + 1))), .int (xs (Int32.toNatClampNeg (x5 + 2)))] [] C X k_RL_273 hc1807 ly_157 rfl (by decide) (by first | (constructor <;> (simp only [rm_X10_yearsIfClosed, room_1]; omega)) | omega) rfl (Nat.le_of_ble_eq_true rfl) rfl dL_law_1807 (stk2 := [.int q1807.1]) rfl rfl rfl ?_
  refine g_istore (L' := [(7, .int q1807.1), (6, .int q1789.1), (0, .ref b), (1, .ref (ad 0)), (2, .ref (ad 157)), (3, .ref (ad 170)), (4, .ref (ad 171)), (5, .int x5)]) C dL_law_1810 (by decide) rfl ?_
  refine g_aload_n C dL_law_1812 4 rfl ?_
  obtain ⟨q1813, hq1813, h⟩ := i_b h
  have hc1813 := c_X10_thrown (ad := ad) (sd := gsd Γ) (ry_tr X) hq1813
  refine g_callVny [] [] C X k_RL_203 hc1813 ly_157 rfl (by decide) (by first | (constructor <;> (simp only [rm_X10_thrown, room_1]; omega)) | omega) rfl (Nat.le_of_ble_eq_true rfl) rfl dL_law_1813 (stk2 := [.int q1813]) rfl rfl rfl ?_
  refine g_iload C dL_law_1816 1 rfl ?_
  refine g_icmp_eq (tgt := 1823) C dL_law_1818 (by decide) (fun c => ?_) (fun c => ?_)
  · replace h := i_t c h
    refine g_iload C dL_law_1823 1 rfl ?_
    refine g_if_ne (tgt := 1840) C dL_law_1825 (by decide) (fun c => ?_) (fun c => ?_)
    · replace h := i_f c h
      refine g_sub (L' := [(0, .ref b), (1, .ref (ad 0)), (2, .ref (ad 157)), (3, .ref (ad 170)), (4, .ref (ad 171)), (5, .int x5)]) [2, 3, 4, 5, 6, 7] rfl ?_
      exact g_L_law_1840  C X Z hkc hk28 h
    · replace h := i_t c h
      refine g_aload_n C dL_law_1828 5 rfl ?_
      refine g_iconst C dL_law_1829 iv_0 ?_
      obtain ⟨hz1830, h⟩ := i_n h
      refine g_lald C ly_170 hz1830 dL_law_1830 ?_
      refine g_iload C dL_law_1831 0 rfl ?_
      refine g_i2l C dL_law_1833 ?_
      refine g_lcmp C dL_law_1834 ?_
      refine g_if_eq (tgt := 1840) C dL_law_1835 (by decide) (fun c => ?_) (fun c => ?_)
      · replace h := i_t c h
        refine g_sub (L' := [(0, .ref b), (1, .ref (ad 0)), (2, .ref (ad 157)), (3, .ref (ad 170)), (4, .ref (ad 171)), (5, .int x5)]) [2, 3, 4, 5, 6, 7] rfl ?_
        exact g_L_law_1840  C X Z hkc hk28 h
      · replace h := i_f c h
        refine g_iconst C dL_law_1838 iv_0 ?_
        cases h
  · replace h := i_f c h
    refine g_iconst C dL_law_1821 iv_0 ?_
    cases h
set_option maxHeartbeats 4000000 in
set_option maxRecDepth 100000 in
theorem g_L_law_1843 {Γ : ΓT} {ad : Nat → Nat} {b N : Nat} {xs : Nat → Int32} {μ : Mm} {k28 : Int32 → Mm → Option Unit} {kc ks n : Nat} {x5 : Int32} {r : Unit} (C : Cx Γ RL cL_law 9) (X : Ry Γ room_1) (Z : Zx Γ b N xs) (hkc : kc + 10 * (n + 1) ≤ 601024 ∧ ks + 60 * (n + 1) ≤ 7293034) (hk28 : ∀ (x5 : Int32) (ν : Mm) (kc2 ks2 : Nat), kc2 ≤ kc + 10 → ks2 ≤ ks + 60 → k28 x5 ν = some r → G Γ ad layL 9 ν 28 [(0, .ref b), (1, .ref (ad 0)), (2, .ref (ad 157)), (3, .ref (ad 170)), (4, .ref (ad 171)), (5, .int x5)] [] kc2 ks2) (h : b_L_law_1843 N xs μ k28 x5 = some r) : G Γ ad layL 9 μ 1843 [(0, .ref b), (1, .ref (ad 0)), (2, .ref (ad 157)), (3, .ref (ad 170)), (4, .ref (ad 171)), (5, .int x5)] [] kc ks := by
  unfold b_L_law_1843 at h
  refine g_aload_n C dL_law_1843 1 rfl ?_
  obtain ⟨q1844, hq1844, h⟩ := i_b h
  have hc1844 := c_X9_safestClosing (ad := ad) (sd := gsd Γ) (ry_tr X) hq1844
  refine g_callVny [] [] C X k_RL_274 hc1844 ly_0 rfl (by decide) (by first | (constructor <;> (simp only [rm_X9_safestClosing, room_1]; omega)) | omega) rfl (Nat.le_of_ble_eq_true rfl) rfl dL_law_1844 (stk2 := [.int q1844.1]) rfl rfl rfl ?_
  refine g_aload_n C dL_law_1847 2 rfl ?_
  obtain ⟨q1848, hq1848, h⟩ := i_b h
  have hc1848 := c_X10_safestClosing (ad := ad) (sd := gsd Γ) (ry_tr X) hq1848
  refine g_callVny [] [.int q1844.1] C X k_RL_277 hc1848 ly_157 rfl (by decide) (by first | (constructor <;> (simp only [rm_X10_safestClosing, room_1]; omega)) | omega) rfl (Nat.le_of_ble_eq_true rfl) rfl dL_law_1848 (stk2 := [.int q1848.1, .int q1844.1]) rfl rfl rfl ?_
  refine g_icmp_eq (tgt := 3616) C dL_law_1851 (by decide) (fun c => ?_) (fun c => ?_)
  · replace h := i_t c h
    refine g_wid (kc' := (kc + 8)) (ks' := (ks + 48)) (by first | omega | (simp only [rm_X9_safestClosing, rm_X10_safestClosing]; omega)) (by first | omega | (simp only [rm_X9_safestClosing, rm_X10_safestClosing]; omega)) ?_
    exact g_L_law_3616  C X Z hkc hk28 h
  · replace h := i_f c h
    refine g_iconst C dL_law_1854 iv_0 ?_
    cases h
set_option maxHeartbeats 4000000 in
set_option maxRecDepth 100000 in
theorem g_L_law_1897 {Γ : ΓT} {ad : Nat → Nat} {b N : Nat} {xs : Nat → Int32} {μ : Mm} {k28 : Int32 → Mm → Option Unit} {kc ks n : Nat} {x5 : Int32} {r : Unit} (C : Cx Γ RL cL_law 9) (X : Ry Γ room_1) (Z : Zx Γ b N xs) (hkc : kc + 10 * (n + 1) ≤ 601024 ∧ ks + 60 * (n + 1) ≤ 7293034) (hk28 : ∀ (x5 : Int32) (ν : Mm) (kc2 ks2 : Nat), kc2 ≤ kc + 10 → ks2 ≤ ks + 60 → k28 x5 ν = some r → G Γ ad layL 9 ν 28 [(0, .ref b), (1, .ref (ad 0)), (2, .ref (ad 157)), (3, .ref (ad 170)), (4, .ref (ad 171)), (5, .int x5)] [] kc2 ks2) (h : b_L_law_1897 N xs μ k28 x5 = some r) : G Γ ad layL 9 μ 1897 [(0, .ref b), (1, .ref (ad 0)), (2, .ref (ad 157)), (3, .ref (ad 170)), (4, .ref (ad 171)), (5, .int x5)] [] (kc + 1) (ks + 6) := by
  unfold b_L_law_1897 at h
  refine g_goto (tgt := 3616) C dL_law_1897 (by decide) ?_
  refine g_wid (kc' := (kc + 8)) (ks' := (ks + 48)) (by omega) (by omega) ?_
  exact g_L_law_3616  C X Z hkc hk28 h
set_option maxHeartbeats 4000000 in
set_option maxRecDepth 100000 in
theorem g_L_law_1856 {Γ : ΓT} {ad : Nat → Nat} {b N : Nat} {xs : Nat → Int32} {μ : Mm} {k28 : Int32 → Mm → Option Unit} {kc ks n : Nat} {x5 : Int32} {r : Unit} (C : Cx Γ RL cL_law 9) (X : Ry Γ room_1) (Z : Zx Γ b N xs) (hkc : kc + 10 * (n + 1) ≤ 601024 ∧ ks + 60 * (n + 1) ≤ 7293034) (hk28 : ∀ (x5 : Int32) (ν : Mm) (kc2 ks2 : Nat), kc2 ≤ kc + 10 → ks2 ≤ ks + 60 → k28 x5 ν = some r → G Γ ad layL 9 ν 28 [(0, .ref b), (1, .ref (ad 0)), (2, .ref (ad 157)), (3, .ref (ad 170)), (4, .ref (ad 171)), (5, .int x5)] [] kc2 ks2) (h : b_L_law_1856 N xs μ k28 x5 = some r) : G Γ ad layL 9 μ 1856 [(0, .ref b), (1, .ref (ad 0)), (2, .ref (ad 157)), (3, .ref (ad 170)), (4, .ref (ad 171)), (5, .int x5)] [] kc ks := by
  unfold b_L_law_1856 at h
  refine g_aload_n C dL_law_1856 1 rfl ?_
  refine g_aload_n C dL_law_1857 3 rfl ?_
  obtain ⟨q1858, hq1858, h⟩ := i_b h
  have hc1858 := c_L_weakest (ad := ad) (sd := gsd Γ) (ry_tr X) hq1858
  refine g_callSxy [.ref (ad 0), .ref (ad 170)] [] C X k_RL_278 hc1858 (by decide) (by first | (constructor <;> (simp only [rm_L_weakest, room_1]; omega)) | omega) rfl (Nat.le_of_ble_eq_true rfl) rfl dL_law_1858 (stk2 := [.int q1858.1]) rfl rfl rfl ?_
  refine g_istore (L' := [(6, .int q1858.1), (0, .ref b), (1, .ref (ad 0)), (2, .ref (ad 157)), (3, .ref (ad 170)), (4, .ref (ad 171)), (5, .int x5)]) C dL_law_1861 (by decide) rfl ?_
  refine g_aload_n C dL_law_1863 3 rfl ?_
  obtain ⟨q1864, hq1864, h⟩ := i_b h
  have hc1864 := c_X10_weakest (ad := ad) (sd := gsd Γ) (ry_tr X) hq1864
  refine g_callVny [] [] C X k_RL_281 hc1864 ly_157 rfl (by decide) (by first | (constructor <;> (simp only [rm_X10_weakest, room_1]; omega)) | omega) rfl (Nat.le_of_ble_eq_true rfl) rfl dL_law_1864 (stk2 := [.int q1864.1]) rfl rfl rfl ?_
  refine g_istore (L' := [(7, .int q1864.1), (6, .int q1858.1), (0, .ref b), (1, .ref (ad 0)), (2, .ref (ad 157)), (3, .ref (ad 170)), (4, .ref (ad 171)), (5, .int x5)]) C dL_law_1867 (by decide) rfl ?_
  refine g_aload_n C dL_law_1869 4 rfl ?_
  obtain ⟨q1870, hq1870, h⟩ := i_b h
  have hc1870 := c_X10_thrown (ad := ad) (sd := gsd Γ) (ry_tr X) hq1870
  refine g_callVny [] [] C X k_RL_203 hc1870 ly_157 rfl (by decide) (by first | (constructor <;> (simp only [rm_X10_thrown, room_1]; omega)) | omega) rfl (Nat.le_of_ble_eq_true rfl) rfl dL_law_1870 (stk2 := [.int q1870]) rfl rfl rfl ?_
  refine g_iload C dL_law_1873 1 rfl ?_
  refine g_icmp_eq (tgt := 1880) C dL_law_1875 (by decide) (fun c => ?_) (fun c => ?_)
  · replace h := i_t c h
    refine g_iload C dL_law_1880 1 rfl ?_
    refine g_if_ne (tgt := 1897) C dL_law_1882 (by decide) (fun c => ?_) (fun c => ?_)
    · replace h := i_f c h
      refine g_sub (L' := [(0, .ref b), (1, .ref (ad 0)), (2, .ref (ad 157)), (3, .ref (ad 170)), (4, .ref (ad 171)), (5, .int x5)]) [2, 3, 4, 5, 6, 7] rfl ?_
      exact g_L_law_1897  C X Z hkc hk28 h
    · replace h := i_t c h
      refine g_aload_n C dL_law_1885 5 rfl ?_
      refine g_iconst C dL_law_1886 iv_0 ?_
      obtain ⟨hz1887, h⟩ := i_n h
      refine g_lald C ly_170 hz1887 dL_law_1887 ?_
      refine g_iload C dL_law_1888 0 rfl ?_
      refine g_i2l C dL_law_1890 ?_
      refine g_lcmp C dL_law_1891 ?_
      refine g_if_eq (tgt := 1897) C dL_law_1892 (by decide) (fun c => ?_) (fun c => ?_)
      · replace h := i_t c h
        refine g_sub (L' := [(0, .ref b), (1, .ref (ad 0)), (2, .ref (ad 157)), (3, .ref (ad 170)), (4, .ref (ad 171)), (5, .int x5)]) [2, 3, 4, 5, 6, 7] rfl ?_
        exact g_L_law_1897  C X Z hkc hk28 h
      · replace h := i_f c h
        refine g_iconst C dL_law_1895 iv_0 ?_
        cases h
  · replace h := i_f c h
    refine g_iconst C dL_law_1878 iv_0 ?_
    cases h
set_option maxHeartbeats 4000000 in
set_option maxRecDepth 100000 in
theorem g_L_law_1953 {Γ : ΓT} {ad : Nat → Nat} {b N : Nat} {xs : Nat → Int32} {μ : Mm} {k28 : Int32 → Mm → Option Unit} {kc ks n : Nat} {x5 : Int32} {r : Unit} (C : Cx Γ RL cL_law 9) (X : Ry Γ room_1) (Z : Zx Γ b N xs) (hkc : kc + 10 * (n + 1) ≤ 601024 ∧ ks + 60 * (n + 1) ≤ 7293034) (hk28 : ∀ (x5 : Int32) (ν : Mm) (kc2 ks2 : Nat), kc2 ≤ kc + 10 → ks2 ≤ ks + 60 → k28 x5 ν = some r → G Γ ad layL 9 ν 28 [(0, .ref b), (1, .ref (ad 0)), (2, .ref (ad 157)), (3, .ref (ad 170)), (4, .ref (ad 171)), (5, .int x5)] [] kc2 ks2) (h : b_L_law_1953 N xs μ k28 x5 = some r) : G Γ ad layL 9 μ 1953 [(0, .ref b), (1, .ref (ad 0)), (2, .ref (ad 157)), (3, .ref (ad 170)), (4, .ref (ad 171)), (5, .int x5)] [] (kc + 1) (ks + 6) := by
  unfold b_L_law_1953 at h
  refine g_goto (tgt := 3616) C dL_law_1953 (by decide) ?_
  refine g_wid (kc' := (kc + 8)) (ks' := (ks + 48)) (by omega) (by omega) ?_
  exact g_L_law_3616  C X Z hkc hk28 h
set_option maxHeartbeats 4000000 in
set_option maxRecDepth 100000 in
theorem g_L_law_1900 {Γ : ΓT} {ad : Nat → Nat} {b N : Nat} {xs : Nat → Int32} {μ : Mm} {k28 : Int32 → Mm → Option Unit} {kc ks n : Nat} {x5 : Int32} {r : Unit} (C : Cx Γ RL cL_law 9) (X : Ry Γ room_1) (Z : Zx Γ b N xs) (hkc : kc + 10 * (n + 1) ≤ 601024 ∧ ks + 60 * (n + 1) ≤ 7293034) (hk28 : ∀ (x5 : Int32) (ν : Mm) (kc2 ks2 : Nat), kc2 ≤ kc + 10 → ks2 ≤ ks + 60 → k28 x5 ν = some r → G Γ ad layL 9 ν 28 [(0, .ref b), (1, .ref (ad 0)), (2, .ref (ad 157)), (3, .ref (ad 170)), (4, .ref (ad 171)), (5, .int x5)] [] kc2 ks2) (h : b_L_law_1900 N xs μ k28 x5 = some r) : G Γ ad layL 9 μ 1900 [(0, .ref b), (1, .ref (ad 0)), (2, .ref (ad 157)), (3, .ref (ad 170)), (4, .ref (ad 171)), (5, .int x5)] [] kc ks := by
  unfold b_L_law_1900 at h
  refine g_aload_n C dL_law_1900 1 rfl ?_
  refine g_aload_n C dL_law_1901 0 rfl ?_
  refine g_iload C dL_law_1902 5 rfl ?_
  refine g_iconst C dL_law_1904 iv_1 ?_
  refine g_iadd C dL_law_1905 ?_
  obtain ⟨hz1906, h⟩ := i_n h
  refine g_scr Z C hz1906 dL_law_1906 ?_
  refine g_aload_n C dL_law_1907 3 rfl ?_
  obtain ⟨q1908, hq1908, h⟩ := i_b h
  have hc1908 := c_L_discardTells (ad := ad) (sd := gsd Γ) (ry_tr X) hq1908
  refine g_callSxy [.ref (ad 0), .int (xs (Int32.toNatClampNeg (x5 + 1))), .ref (ad 170)] [] C X k_RL_282 hc1908 (by decide) (by first | (constructor <;> (simp only [rm_L_discardTells, room_1]; omega)) | omega) rfl (Nat.le_of_ble_eq_true rfl) rfl dL_law_1908 (stk2 := [.int q1908.1]) rfl rfl rfl ?_
  refine g_istore (L' := [(6, .int q1908.1), (0, .ref b), (1, .ref (ad 0)), (2, .ref (ad 157)), (3, .ref (ad 170)), (4, .ref (ad 171)), (5, .int x5)]) C dL_law_1911 (by decide) rfl ?_
  refine g_aload_n C dL_law_1913 3 rfl ?_
  refine g_aload_n C dL_law_1914 1 rfl ?_
  refine g_iload C dL_law_1915 6 rfl ?_
  refine g_iconst C dL_law_1917 iv_1 ?_
  refine g_iadd C dL_law_1918 ?_
  obtain ⟨hz1919, h⟩ := i_n h
  refine g_scr Z C hz1919 dL_law_1919 ?_
  obtain ⟨q1920, hq1920, h⟩ := i_b h
  have hc1920 := c_X10_discardTells (ad := ad) (sd := gsd Γ) (ry_tr X) hq1920
  refine g_callVny [.int (xs (Int32.toNatClampNeg (x5 + 1)))] [] C X k_RL_284 hc1920 ly_157 rfl (by decide) (by first | (constructor <;> (simp only [rm_X10_discardTells, room_1]; omega)) | omega) rfl (Nat.le_of_ble_eq_true rfl) rfl dL_law_1920 (stk2 := [.int q1920.1]) rfl rfl rfl ?_
  refine g_istore (L' := [(7, .int q1920.1), (6, .int q1908.1), (0, .ref b), (1, .ref (ad 0)), (2, .ref (ad 157)), (3, .ref (ad 170)), (4, .ref (ad 171)), (5, .int x5)]) C dL_law_1923 (by decide) rfl ?_
  refine g_aload_n C dL_law_1925 4 rfl ?_
  obtain ⟨q1926, hq1926, h⟩ := i_b h
  have hc1926 := c_X10_thrown (ad := ad) (sd := gsd Γ) (ry_tr X) hq1926
  refine g_callVny [] [] C X k_RL_203 hc1926 ly_157 rfl (by decide) (by first | (constructor <;> (simp only [rm_X10_thrown, room_1]; omega)) | omega) rfl (Nat.le_of_ble_eq_true rfl) rfl dL_law_1926 (stk2 := [.int q1926]) rfl rfl rfl ?_
  refine g_iload C dL_law_1929 1 rfl ?_
  refine g_icmp_eq (tgt := 1936) C dL_law_1931 (by decide) (fun c => ?_) (fun c => ?_)
  · replace h := i_t c h
    refine g_iload C dL_law_1936 1 rfl ?_
    refine g_if_ne (tgt := 1953) C dL_law_1938 (by decide) (fun c => ?_) (fun c => ?_)
    · replace h := i_f c h
      refine g_sub (L' := [(0, .ref b), (1, .ref (ad 0)), (2, .ref (ad 157)), (3, .ref (ad 170)), (4, .ref (ad 171)), (5, .int x5)]) [2, 3, 4, 5, 6, 7] rfl ?_
      exact g_L_law_1953  C X Z hkc hk28 h
    · replace h := i_t c h
      refine g_aload_n C dL_law_1941 5 rfl ?_
      refine g_iconst C dL_law_1942 iv_0 ?_
      obtain ⟨hz1943, h⟩ := i_n h
      refine g_lald C ly_170 hz1943 dL_law_1943 ?_
      refine g_iload C dL_law_1944 0 rfl ?_
      refine g_i2l C dL_law_1946 ?_
      refine g_lcmp C dL_law_1947 ?_
      refine g_if_eq (tgt := 1953) C dL_law_1948 (by decide) (fun c => ?_) (fun c => ?_)
      · replace h := i_t c h
        refine g_sub (L' := [(0, .ref b), (1, .ref (ad 0)), (2, .ref (ad 157)), (3, .ref (ad 170)), (4, .ref (ad 171)), (5, .int x5)]) [2, 3, 4, 5, 6, 7] rfl ?_
        exact g_L_law_1953  C X Z hkc hk28 h
      · replace h := i_f c h
        refine g_iconst C dL_law_1951 iv_0 ?_
        cases h
  · replace h := i_f c h
    refine g_iconst C dL_law_1934 iv_0 ?_
    cases h
set_option maxHeartbeats 4000000 in
set_option maxRecDepth 100000 in
theorem g_L_law_1956 {Γ : ΓT} {ad : Nat → Nat} {b N : Nat} {xs : Nat → Int32} {μ : Mm} {k28 : Int32 → Mm → Option Unit} {kc ks n : Nat} {x5 : Int32} {r : Unit} (C : Cx Γ RL cL_law 9) (X : Ry Γ room_1) (Z : Zx Γ b N xs) (hkc : kc + 10 * (n + 1) ≤ 601024 ∧ ks + 60 * (n + 1) ≤ 7293034) (hk28 : ∀ (x5 : Int32) (ν : Mm) (kc2 ks2 : Nat), kc2 ≤ kc + 10 → ks2 ≤ ks + 60 → k28 x5 ν = some r → G Γ ad layL 9 ν 28 [(0, .ref b), (1, .ref (ad 0)), (2, .ref (ad 157)), (3, .ref (ad 170)), (4, .ref (ad 171)), (5, .int x5)] [] kc2 ks2) (h : b_L_law_1956 N xs μ k28 x5 = some r) : G Γ ad layL 9 μ 1956 [(0, .ref b), (1, .ref (ad 0)), (2, .ref (ad 157)), (3, .ref (ad 170)), (4, .ref (ad 171)), (5, .int x5)] [] kc ks := by
  unfold b_L_law_1956 at h
  refine g_aload_n C dL_law_1956 1 rfl ?_
  obtain ⟨q1957, hq1957, h⟩ := i_b h
  have hc1957 := c_X9_nextCore (ad := ad) (sd := gsd Γ) (ry_tr X) hq1957
  refine g_callVny [] [] C X k_RL_285 hc1957 ly_0 rfl (by decide) (by first | (constructor <;> (simp only [rm_X9_nextCore, room_1]; omega)) | omega) rfl (Nat.le_of_ble_eq_true rfl) rfl dL_law_1957 (stk2 := [.int q1957]) rfl rfl rfl ?_
  refine g_aload_n C dL_law_1960 2 rfl ?_
  obtain ⟨q1961, hq1961, h⟩ := i_b h
  have hc1961 := c_X10_nextCore (ad := ad) (sd := gsd Γ) (ry_tr X) hq1961
  refine g_callVny [] [.int q1957] C X k_RL_288 hc1961 ly_157 rfl (by decide) (by first | (constructor <;> (simp only [rm_X10_nextCore, room_1]; omega)) | omega) rfl (Nat.le_of_ble_eq_true rfl) rfl dL_law_1961 (stk2 := [.int q1961.1, .int q1957]) rfl rfl rfl ?_
  refine g_icmp_eq (tgt := 3616) C dL_law_1964 (by decide) (fun c => ?_) (fun c => ?_)
  · replace h := i_t c h
    refine g_wid (kc' := (kc + 8)) (ks' := (ks + 48)) (by first | omega | (simp only [rm_X9_nextCore, rm_X10_nextCore]; omega)) (by first | omega | (simp only [rm_X9_nextCore, rm_X10_nextCore]; omega)) ?_
    exact g_L_law_3616  C X Z hkc hk28 h
  · replace h := i_f c h
    refine g_iconst C dL_law_1967 iv_0 ?_
    cases h
set_option maxHeartbeats 4000000 in
set_option maxRecDepth 100000 in
theorem g_L_law_2046 {Γ : ΓT} {ad : Nat → Nat} {b N : Nat} {xs : Nat → Int32} {μ : Mm} {k28 : Int32 → Mm → Option Unit} {kc ks n : Nat} {x5 : Int32} {r : Unit} (C : Cx Γ RL cL_law 9) (X : Ry Γ room_1) (Z : Zx Γ b N xs) (hkc : kc + 10 * (n + 1) ≤ 601024 ∧ ks + 60 * (n + 1) ≤ 7293034) (hk28 : ∀ (x5 : Int32) (ν : Mm) (kc2 ks2 : Nat), kc2 ≤ kc + 10 → ks2 ≤ ks + 60 → k28 x5 ν = some r → G Γ ad layL 9 ν 28 [(0, .ref b), (1, .ref (ad 0)), (2, .ref (ad 157)), (3, .ref (ad 170)), (4, .ref (ad 171)), (5, .int x5)] [] kc2 ks2) (h : b_L_law_2046 N xs μ k28 x5 = some r) : G Γ ad layL 9 μ 2046 [(0, .ref b), (1, .ref (ad 0)), (2, .ref (ad 157)), (3, .ref (ad 170)), (4, .ref (ad 171)), (5, .int x5)] [] (kc + 3) (ks + 18) := by
  unfold b_L_law_2046 at h
  refine g_goto (tgt := 3616) C dL_law_2046 (by decide) ?_
  refine g_wid (kc' := (kc + 8)) (ks' := (ks + 48)) (by omega) (by omega) ?_
  exact g_L_law_3616  C X Z hkc hk28 h
set_option maxHeartbeats 4000000 in
set_option maxRecDepth 100000 in
theorem g_L_law_1969 {Γ : ΓT} {ad : Nat → Nat} {b N : Nat} {xs : Nat → Int32} {μ : Mm} {k28 : Int32 → Mm → Option Unit} {kc ks n : Nat} {x5 : Int32} {r : Unit} (C : Cx Γ RL cL_law 9) (X : Ry Γ room_1) (Z : Zx Γ b N xs) (hkc : kc + 10 * (n + 1) ≤ 601024 ∧ ks + 60 * (n + 1) ≤ 7293034) (hk28 : ∀ (x5 : Int32) (ν : Mm) (kc2 ks2 : Nat), kc2 ≤ kc + 10 → ks2 ≤ ks + 60 → k28 x5 ν = some r → G Γ ad layL 9 ν 28 [(0, .ref b), (1, .ref (ad 0)), (2, .ref (ad 157)), (3, .ref (ad 170)), (4, .ref (ad 171)), (5, .int x5)] [] kc2 ks2) (h : b_L_law_1969 N xs μ k28 x5 = some r) : G Γ ad layL 9 μ 1969 [(0, .ref b), (1, .ref (ad 0)), (2, .ref (ad 157)), (3, .ref (ad 170)), (4, .ref (ad 171)), (5, .int x5)] [] kc ks := by
  unfold b_L_law_1969 at h
  refine g_aload_n C dL_law_1969 1 rfl ?_
  refine g_aload_n C dL_law_1970 0 rfl ?_
  refine g_iload C dL_law_1971 5 rfl ?_
  refine g_iconst C dL_law_1973 iv_1 ?_
  refine g_iadd C dL_law_1974 ?_
  obtain ⟨hz1975, h⟩ := i_n h
  refine g_scr Z C hz1975 dL_law_1975 ?_
  refine g_aload_n C dL_law_1976 0 rfl ?_
  refine g_iload C dL_law_1977 5 rfl ?_
  refine g_iconst C dL_law_1979 iv_2 ?_
  refine g_iadd C dL_law_1980 ?_
  obtain ⟨hz1981, h⟩ := i_n h
  refine g_scr Z C hz1981 dL_law_1981 ?_
  refine g_aload_n C dL_law_1982 0 rfl ?_
  refine g_iload C dL_law_1983 5 rfl ?_
  refine g_iconst C dL_law_1985 iv_3 ?_
  refine g_iadd C dL_law_1986 ?_
  obtain ⟨hz1987, h⟩ := i_n h
  refine g_scr Z C hz1987 dL_law_1987 ?_
  refine g_aload_n C dL_law_1988 3 rfl ?_
  obtain ⟨q1989, hq1989, h⟩ := i_b h
  have hc1989 := c_L_cost (ad := ad) (sd := gsd Γ) (ry_tr X) hq1989
  refine g_callSxy [.ref (ad 0), .int (xs (Int32.toNatClampNeg (x5 + 1))), .int (xs (Int32.toNatClampNeg (x5 + 2))), .int (xs (Int32.toNatClampNeg (x5 + 3))), .ref (ad 170)] [] C X k_RL_289 hc1989 (by decide) (by first | (constructor <;> (simp only [rm_L_cost, room_1]; omega)) | omega) rfl (Nat.le_of_ble_eq_true rfl) rfl dL_law_1989 (stk2 := [.int q1989.1]) rfl rfl rfl ?_
  refine g_istore (L' := [(6, .int q1989.1), (0, .ref b), (1, .ref (ad 0)), (2, .ref (ad 157)), (3, .ref (ad 170)), (4, .ref (ad 171)), (5, .int x5)]) C dL_law_1992 (by decide) rfl ?_
  refine g_aload_n C dL_law_1994 3 rfl ?_
  refine g_aload_n C dL_law_1995 1 rfl ?_
  refine g_iload C dL_law_1996 6 rfl ?_
  refine g_iconst C dL_law_1998 iv_1 ?_
  refine g_iadd C dL_law_1999 ?_
  obtain ⟨hz2000, h⟩ := i_n h
  refine g_scr Z C hz2000 dL_law_2000 ?_
  refine g_aload_n C dL_law_2001 1 rfl ?_
  refine g_iload C dL_law_2002 6 rfl ?_
  refine g_iconst C dL_law_2004 iv_2 ?_
  refine g_iadd C dL_law_2005 ?_
  obtain ⟨hz2006, h⟩ := i_n h
  refine g_scr Z C hz2006 dL_law_2006 ?_
  refine g_aload_n C dL_law_2007 1 rfl ?_
  refine g_iload C dL_law_2008 6 rfl ?_
  refine g_iconst C dL_law_2010 iv_3 ?_
  refine g_iadd C dL_law_2011 ?_
  obtain ⟨hz2012, h⟩ := i_n h
  refine g_scr Z C hz2012 dL_law_2012 ?_
  obtain ⟨q2013, hq2013, h⟩ := i_b h
  have hc2013 := c_X10_cost (ad := ad) (sd := gsd Γ) (ry_tr X) hq2013
  refine g_callVny [.int (xs (Int32.toNatClampNeg (x5 + 1))), .int (xs (Int32.toNatClampNeg (x5 + 2))), .int (xs (Int32.toNatClampNeg (x5 + 3)))] [] C X k_RL_291 hc2013 ly_157 rfl (by decide) (by first | (constructor <;> (simp only [rm_X10_cost, room_1]; omega)) | omega) rfl (Nat.le_of_ble_eq_true rfl) rfl dL_law_2013 (stk2 := [.int q2013.1]) rfl rfl rfl ?_
  refine g_istore (L' := [(7, .int q2013.1), (6, .int q1989.1), (0, .ref b), (1, .ref (ad 0)), (2, .ref (ad 157)), (3, .ref (ad 170)), (4, .ref (ad 171)), (5, .int x5)]) C dL_law_2016 (by decide) rfl ?_
  refine g_aload_n C dL_law_2018 4 rfl ?_
  obtain ⟨q2019, hq2019, h⟩ := i_b h
  have hc2019 := c_X10_thrown (ad := ad) (sd := gsd Γ) (ry_tr X) hq2019
  refine g_callVny [] [] C X k_RL_203 hc2019 ly_157 rfl (by decide) (by first | (constructor <;> (simp only [rm_X10_thrown, room_1]; omega)) | omega) rfl (Nat.le_of_ble_eq_true rfl) rfl dL_law_2019 (stk2 := [.int q2019]) rfl rfl rfl ?_
  refine g_iload C dL_law_2022 1 rfl ?_
  refine g_icmp_eq (tgt := 2029) C dL_law_2024 (by decide) (fun c => ?_) (fun c => ?_)
  · replace h := i_t c h
    refine g_iload C dL_law_2029 1 rfl ?_
    refine g_if_ne (tgt := 2046) C dL_law_2031 (by decide) (fun c => ?_) (fun c => ?_)
    · replace h := i_f c h
      refine g_sub (L' := [(0, .ref b), (1, .ref (ad 0)), (2, .ref (ad 157)), (3, .ref (ad 170)), (4, .ref (ad 171)), (5, .int x5)]) [2, 3, 4, 5, 6, 7] rfl ?_
      exact g_L_law_2046  C X Z hkc hk28 h
    · replace h := i_t c h
      refine g_aload_n C dL_law_2034 5 rfl ?_
      refine g_iconst C dL_law_2035 iv_0 ?_
      obtain ⟨hz2036, h⟩ := i_n h
      refine g_lald C ly_170 hz2036 dL_law_2036 ?_
      refine g_iload C dL_law_2037 0 rfl ?_
      refine g_i2l C dL_law_2039 ?_
      refine g_lcmp C dL_law_2040 ?_
      refine g_if_eq (tgt := 2046) C dL_law_2041 (by decide) (fun c => ?_) (fun c => ?_)
      · replace h := i_t c h
        refine g_sub (L' := [(0, .ref b), (1, .ref (ad 0)), (2, .ref (ad 157)), (3, .ref (ad 170)), (4, .ref (ad 171)), (5, .int x5)]) [2, 3, 4, 5, 6, 7] rfl ?_
        exact g_L_law_2046  C X Z hkc hk28 h
      · replace h := i_f c h
        refine g_iconst C dL_law_2044 iv_0 ?_
        cases h
  · replace h := i_f c h
    refine g_iconst C dL_law_2027 iv_0 ?_
    cases h
set_option maxHeartbeats 4000000 in
set_option maxRecDepth 100000 in
theorem g_L_law_2126 {Γ : ΓT} {ad : Nat → Nat} {b N : Nat} {xs : Nat → Int32} {μ : Mm} {k28 : Int32 → Mm → Option Unit} {kc ks n : Nat} {x5 : Int32} {r : Unit} (C : Cx Γ RL cL_law 9) (X : Ry Γ room_1) (Z : Zx Γ b N xs) (hkc : kc + 10 * (n + 1) ≤ 601024 ∧ ks + 60 * (n + 1) ≤ 7293034) (hk28 : ∀ (x5 : Int32) (ν : Mm) (kc2 ks2 : Nat), kc2 ≤ kc + 10 → ks2 ≤ ks + 60 → k28 x5 ν = some r → G Γ ad layL 9 ν 28 [(0, .ref b), (1, .ref (ad 0)), (2, .ref (ad 157)), (3, .ref (ad 170)), (4, .ref (ad 171)), (5, .int x5)] [] kc2 ks2) (h : b_L_law_2126 N xs μ k28 x5 = some r) : G Γ ad layL 9 μ 2126 [(0, .ref b), (1, .ref (ad 0)), (2, .ref (ad 157)), (3, .ref (ad 170)), (4, .ref (ad 171)), (5, .int x5)] [] (kc + 3) (ks + 18) := by
  unfold b_L_law_2126 at h
  refine g_goto (tgt := 3616) C dL_law_2126 (by decide) ?_
  refine g_wid (kc' := (kc + 8)) (ks' := (ks + 48)) (by omega) (by omega) ?_
  exact g_L_law_3616  C X Z hkc hk28 h
set_option maxHeartbeats 4000000 in
set_option maxRecDepth 100000 in
theorem g_L_law_2049 {Γ : ΓT} {ad : Nat → Nat} {b N : Nat} {xs : Nat → Int32} {μ : Mm} {k28 : Int32 → Mm → Option Unit} {kc ks n : Nat} {x5 : Int32} {r : Unit} (C : Cx Γ RL cL_law 9) (X : Ry Γ room_1) (Z : Zx Γ b N xs) (hkc : kc + 10 * (n + 1) ≤ 601024 ∧ ks + 60 * (n + 1) ≤ 7293034) (hk28 : ∀ (x5 : Int32) (ν : Mm) (kc2 ks2 : Nat), kc2 ≤ kc + 10 → ks2 ≤ ks + 60 → k28 x5 ν = some r → G Γ ad layL 9 ν 28 [(0, .ref b), (1, .ref (ad 0)), (2, .ref (ad 157)), (3, .ref (ad 170)), (4, .ref (ad 171)), (5, .int x5)] [] kc2 ks2) (h : b_L_law_2049 N xs μ k28 x5 = some r) : G Γ ad layL 9 μ 2049 [(0, .ref b), (1, .ref (ad 0)), (2, .ref (ad 157)), (3, .ref (ad 170)), (4, .ref (ad 171)), (5, .int x5)] [] kc ks := by
  unfold b_L_law_2049 at h
  refine g_aload_n C dL_law_2049 1 rfl ?_
  refine g_aload_n C dL_law_2050 0 rfl ?_
  refine g_iload C dL_law_2051 5 rfl ?_
  refine g_iconst C dL_law_2053 iv_1 ?_
  refine g_iadd C dL_law_2054 ?_
  obtain ⟨hz2055, h⟩ := i_n h
  refine g_scr Z C hz2055 dL_law_2055 ?_
  refine g_aload_n C dL_law_2056 0 rfl ?_
  refine g_iload C dL_law_2057 5 rfl ?_
  refine g_iconst C dL_law_2059 iv_2 ?_
  refine g_iadd C dL_law_2060 ?_
  obtain ⟨hz2061, h⟩ := i_n h
  refine g_scr Z C hz2061 dL_law_2061 ?_
  refine g_aload_n C dL_law_2062 0 rfl ?_
  refine g_iload C dL_law_2063 5 rfl ?_
  refine g_iconst C dL_law_2065 iv_3 ?_
  refine g_iadd C dL_law_2066 ?_
  obtain ⟨hz2067, h⟩ := i_n h
  refine g_scr Z C hz2067 dL_law_2067 ?_
  refine g_aload_n C dL_law_2068 3 rfl ?_
  obtain ⟨q2069, hq2069, h⟩ := i_b h
  have hc2069 := c_L_whyNot (ad := ad) (sd := gsd Γ) (ry_tr X) hq2069
  refine g_callSxy [.ref (ad 0), .int (xs (Int32.toNatClampNeg (x5 + 1))), .int (xs (Int32.toNatClampNeg (x5 + 2))), .int (xs (Int32.toNatClampNeg (x5 + 3))), .ref (ad 170)] [] C X k_RL_292 hc2069 (by decide) (by first | (constructor <;> (simp only [rm_L_whyNot, room_1]; omega)) | omega) rfl (Nat.le_of_ble_eq_true rfl) rfl dL_law_2069 (stk2 := [.int q2069.1]) rfl rfl rfl ?_
  refine g_istore (L' := [(6, .int q2069.1), (0, .ref b), (1, .ref (ad 0)), (2, .ref (ad 157)), (3, .ref (ad 170)), (4, .ref (ad 171)), (5, .int x5)]) C dL_law_2072 (by decide) rfl ?_
  refine g_aload_n C dL_law_2074 3 rfl ?_
  refine g_aload_n C dL_law_2075 1 rfl ?_
  refine g_iload C dL_law_2076 6 rfl ?_
  refine g_iconst C dL_law_2078 iv_1 ?_
  refine g_iadd C dL_law_2079 ?_
  obtain ⟨hz2080, h⟩ := i_n h
  refine g_scr Z C hz2080 dL_law_2080 ?_
  refine g_aload_n C dL_law_2081 1 rfl ?_
  refine g_iload C dL_law_2082 6 rfl ?_
  refine g_iconst C dL_law_2084 iv_2 ?_
  refine g_iadd C dL_law_2085 ?_
  obtain ⟨hz2086, h⟩ := i_n h
  refine g_scr Z C hz2086 dL_law_2086 ?_
  refine g_aload_n C dL_law_2087 1 rfl ?_
  refine g_iload C dL_law_2088 6 rfl ?_
  refine g_iconst C dL_law_2090 iv_3 ?_
  refine g_iadd C dL_law_2091 ?_
  obtain ⟨hz2092, h⟩ := i_n h
  refine g_scr Z C hz2092 dL_law_2092 ?_
  obtain ⟨q2093, hq2093, h⟩ := i_b h
  have hc2093 := c_X10_whyNot (ad := ad) (sd := gsd Γ) (ry_tr X) hq2093
  refine g_callVny [.int (xs (Int32.toNatClampNeg (x5 + 1))), .int (xs (Int32.toNatClampNeg (x5 + 2))), .int (xs (Int32.toNatClampNeg (x5 + 3)))] [] C X k_RL_294 hc2093 ly_157 rfl (by decide) (by first | (constructor <;> (simp only [rm_X10_whyNot, room_1]; omega)) | omega) rfl (Nat.le_of_ble_eq_true rfl) rfl dL_law_2093 (stk2 := [.int q2093.1]) rfl rfl rfl ?_
  refine g_istore (L' := [(7, .int q2093.1), (6, .int q2069.1), (0, .ref b), (1, .ref (ad 0)), (2, .ref (ad 157)), (3, .ref (ad 170)), (4, .ref (ad 171)), (5, .int x5)]) C dL_law_2096 (by decide) rfl ?_
  refine g_aload_n C dL_law_2098 4 rfl ?_
  obtain ⟨q2099, hq2099, h⟩ := i_b h
  have hc2099 := c_X10_thrown (ad := ad) (sd := gsd Γ) (ry_tr X) hq2099
  refine g_callVny [] [] C X k_RL_203 hc2099 ly_157 rfl (by decide) (by first | (constructor <;> (simp only [rm_X10_thrown, room_1]; omega)) | omega) rfl (Nat.le_of_ble_eq_true rfl) rfl dL_law_2099 (stk2 := [.int q2099]) rfl rfl rfl ?_
  refine g_iload C dL_law_2102 1 rfl ?_
  refine g_icmp_eq (tgt := 2109) C dL_law_2104 (by decide) (fun c => ?_) (fun c => ?_)
  · replace h := i_t c h
    refine g_iload C dL_law_2109 1 rfl ?_
    refine g_if_ne (tgt := 2126) C dL_law_2111 (by decide) (fun c => ?_) (fun c => ?_)
    · replace h := i_f c h
      refine g_sub (L' := [(0, .ref b), (1, .ref (ad 0)), (2, .ref (ad 157)), (3, .ref (ad 170)), (4, .ref (ad 171)), (5, .int x5)]) [2, 3, 4, 5, 6, 7] rfl ?_
      exact g_L_law_2126  C X Z hkc hk28 h
    · replace h := i_t c h
      refine g_aload_n C dL_law_2114 5 rfl ?_
      refine g_iconst C dL_law_2115 iv_0 ?_
      obtain ⟨hz2116, h⟩ := i_n h
      refine g_lald C ly_170 hz2116 dL_law_2116 ?_
      refine g_iload C dL_law_2117 0 rfl ?_
      refine g_i2l C dL_law_2119 ?_
      refine g_lcmp C dL_law_2120 ?_
      refine g_if_eq (tgt := 2126) C dL_law_2121 (by decide) (fun c => ?_) (fun c => ?_)
      · replace h := i_t c h
        refine g_sub (L' := [(0, .ref b), (1, .ref (ad 0)), (2, .ref (ad 157)), (3, .ref (ad 170)), (4, .ref (ad 171)), (5, .int x5)]) [2, 3, 4, 5, 6, 7] rfl ?_
        exact g_L_law_2126  C X Z hkc hk28 h
      · replace h := i_f c h
        refine g_iconst C dL_law_2124 iv_0 ?_
        cases h
  · replace h := i_f c h
    refine g_iconst C dL_law_2107 iv_0 ?_
    cases h
set_option maxHeartbeats 4000000 in
set_option maxRecDepth 100000 in
theorem g_L_law_2206 {Γ : ΓT} {ad : Nat → Nat} {b N : Nat} {xs : Nat → Int32} {μ : Mm} {k28 : Int32 → Mm → Option Unit} {kc ks n : Nat} {x5 : Int32} {r : Unit} (C : Cx Γ RL cL_law 9) (X : Ry Γ room_1) (Z : Zx Γ b N xs) (hkc : kc + 10 * (n + 1) ≤ 601024 ∧ ks + 60 * (n + 1) ≤ 7293034) (hk28 : ∀ (x5 : Int32) (ν : Mm) (kc2 ks2 : Nat), kc2 ≤ kc + 10 → ks2 ≤ ks + 60 → k28 x5 ν = some r → G Γ ad layL 9 ν 28 [(0, .ref b), (1, .ref (ad 0)), (2, .ref (ad 157)), (3, .ref (ad 170)), (4, .ref (ad 171)), (5, .int x5)] [] kc2 ks2) (h : b_L_law_2206 N xs μ k28 x5 = some r) : G Γ ad layL 9 μ 2206 [(0, .ref b), (1, .ref (ad 0)), (2, .ref (ad 157)), (3, .ref (ad 170)), (4, .ref (ad 171)), (5, .int x5)] [] (kc + 3) (ks + 18) := by
  unfold b_L_law_2206 at h
  refine g_goto (tgt := 3616) C dL_law_2206 (by decide) ?_
  refine g_wid (kc' := (kc + 8)) (ks' := (ks + 48)) (by omega) (by omega) ?_
  exact g_L_law_3616  C X Z hkc hk28 h
set_option maxHeartbeats 4000000 in
set_option maxRecDepth 100000 in
theorem g_L_law_2129 {Γ : ΓT} {ad : Nat → Nat} {b N : Nat} {xs : Nat → Int32} {μ : Mm} {k28 : Int32 → Mm → Option Unit} {kc ks n : Nat} {x5 : Int32} {r : Unit} (C : Cx Γ RL cL_law 9) (X : Ry Γ room_1) (Z : Zx Γ b N xs) (hkc : kc + 10 * (n + 1) ≤ 601024 ∧ ks + 60 * (n + 1) ≤ 7293034) (hk28 : ∀ (x5 : Int32) (ν : Mm) (kc2 ks2 : Nat), kc2 ≤ kc + 10 → ks2 ≤ ks + 60 → k28 x5 ν = some r → G Γ ad layL 9 ν 28 [(0, .ref b), (1, .ref (ad 0)), (2, .ref (ad 157)), (3, .ref (ad 170)), (4, .ref (ad 171)), (5, .int x5)] [] kc2 ks2) (h : b_L_law_2129 N xs μ k28 x5 = some r) : G Γ ad layL 9 μ 2129 [(0, .ref b), (1, .ref (ad 0)), (2, .ref (ad 157)), (3, .ref (ad 170)), (4, .ref (ad 171)), (5, .int x5)] [] kc ks := by
  unfold b_L_law_2129 at h
  refine g_aload_n C dL_law_2129 1 rfl ?_
  refine g_aload_n C dL_law_2130 0 rfl ?_
  refine g_iload C dL_law_2131 5 rfl ?_
  refine g_iconst C dL_law_2133 iv_1 ?_
  refine g_iadd C dL_law_2134 ?_
  obtain ⟨hz2135, h⟩ := i_n h
  refine g_scr Z C hz2135 dL_law_2135 ?_
  refine g_aload_n C dL_law_2136 0 rfl ?_
  refine g_iload C dL_law_2137 5 rfl ?_
  refine g_iconst C dL_law_2139 iv_2 ?_
  refine g_iadd C dL_law_2140 ?_
  obtain ⟨hz2141, h⟩ := i_n h
  refine g_scr Z C hz2141 dL_law_2141 ?_
  refine g_aload_n C dL_law_2142 0 rfl ?_
  refine g_iload C dL_law_2143 5 rfl ?_
  refine g_iconst C dL_law_2145 iv_3 ?_
  refine g_iadd C dL_law_2146 ?_
  obtain ⟨hz2147, h⟩ := i_n h
  refine g_scr Z C hz2147 dL_law_2147 ?_
  refine g_aload_n C dL_law_2148 3 rfl ?_
  obtain ⟨q2149, hq2149, h⟩ := i_b h
  have hc2149 := c_L_yearsBehind (ad := ad) (sd := gsd Γ) (ry_tr X) hq2149
  refine g_callSxy [.ref (ad 0), .int (xs (Int32.toNatClampNeg (x5 + 1))), .int (xs (Int32.toNatClampNeg (x5 + 2))), .int (xs (Int32.toNatClampNeg (x5 + 3))), .ref (ad 170)] [] C X k_RL_295 hc2149 (by decide) (by first | (constructor <;> (simp only [rm_L_yearsBehind, room_1]; omega)) | omega) rfl (Nat.le_of_ble_eq_true rfl) rfl dL_law_2149 (stk2 := [.int q2149.1]) rfl rfl rfl ?_
  refine g_istore (L' := [(6, .int q2149.1), (0, .ref b), (1, .ref (ad 0)), (2, .ref (ad 157)), (3, .ref (ad 170)), (4, .ref (ad 171)), (5, .int x5)]) C dL_law_2152 (by decide) rfl ?_
  refine g_aload_n C dL_law_2154 3 rfl ?_
  refine g_aload_n C dL_law_2155 1 rfl ?_
  refine g_iload C dL_law_2156 6 rfl ?_
  refine g_iconst C dL_law_2158 iv_1 ?_
  refine g_iadd C dL_law_2159 ?_
  obtain ⟨hz2160, h⟩ := i_n h
  refine g_scr Z C hz2160 dL_law_2160 ?_
  refine g_aload_n C dL_law_2161 1 rfl ?_
  refine g_iload C dL_law_2162 6 rfl ?_
  refine g_iconst C dL_law_2164 iv_2 ?_
  refine g_iadd C dL_law_2165 ?_
  obtain ⟨hz2166, h⟩ := i_n h
  refine g_scr Z C hz2166 dL_law_2166 ?_
  refine g_aload_n C dL_law_2167 1 rfl ?_
  refine g_iload C dL_law_2168 6 rfl ?_
  refine g_iconst C dL_law_2170 iv_3 ?_
  refine g_iadd C dL_law_2171 ?_
  obtain ⟨hz2172, h⟩ := i_n h
  refine g_scr Z C hz2172 dL_law_2172 ?_
  obtain ⟨q2173, hq2173, h⟩ := i_b h
  have hc2173 := c_X10_yearsBehind (ad := ad) (sd := gsd Γ) (ry_tr X) hq2173
  refine g_callVny [.int (xs (Int32.toNatClampNeg (x5 + 1))), .int (xs (Int32.toNatClampNeg (x5 + 2))), .int (xs (Int32.toNatClampNeg (x5 + 3)))] [] C X k_RL_297 hc2173 ly_157 rfl (by decide) (by first | (constructor <;> (simp only [rm_X10_yearsBehind, room_1]; omega)) | omega) rfl (Nat.le_of_ble_eq_true rfl) rfl dL_law_2173 (stk2 := [.int q2173.1]) rfl rfl rfl ?_
  refine g_istore (L' := [(7, .int q2173.1), (6, .int q2149.1), (0, .ref b), (1, .ref (ad 0)), (2, .ref (ad 157)), (3, .ref (ad 170)), (4, .ref (ad 171)), (5, .int x5)]) C dL_law_2176 (by decide) rfl ?_
  refine g_aload_n C dL_law_2178 4 rfl ?_
  obtain ⟨q2179, hq2179, h⟩ := i_b h
  have hc2179 := c_X10_thrown (ad := ad) (sd := gsd Γ) (ry_tr X) hq2179
  refine g_callVny [] [] C X k_RL_203 hc2179 ly_157 rfl (by decide) (by first | (constructor <;> (simp only [rm_X10_thrown, room_1]; omega)) | omega) rfl (Nat.le_of_ble_eq_true rfl) rfl dL_law_2179 (stk2 := [.int q2179]) rfl rfl rfl ?_
  refine g_iload C dL_law_2182 1 rfl ?_
  refine g_icmp_eq (tgt := 2189) C dL_law_2184 (by decide) (fun c => ?_) (fun c => ?_)
  · replace h := i_t c h
    refine g_iload C dL_law_2189 1 rfl ?_
    refine g_if_ne (tgt := 2206) C dL_law_2191 (by decide) (fun c => ?_) (fun c => ?_)
    · replace h := i_f c h
      refine g_sub (L' := [(0, .ref b), (1, .ref (ad 0)), (2, .ref (ad 157)), (3, .ref (ad 170)), (4, .ref (ad 171)), (5, .int x5)]) [2, 3, 4, 5, 6, 7] rfl ?_
      exact g_L_law_2206  C X Z hkc hk28 h
    · replace h := i_t c h
      refine g_aload_n C dL_law_2194 5 rfl ?_
      refine g_iconst C dL_law_2195 iv_0 ?_
      obtain ⟨hz2196, h⟩ := i_n h
      refine g_lald C ly_170 hz2196 dL_law_2196 ?_
      refine g_iload C dL_law_2197 0 rfl ?_
      refine g_i2l C dL_law_2199 ?_
      refine g_lcmp C dL_law_2200 ?_
      refine g_if_eq (tgt := 2206) C dL_law_2201 (by decide) (fun c => ?_) (fun c => ?_)
      · replace h := i_t c h
        refine g_sub (L' := [(0, .ref b), (1, .ref (ad 0)), (2, .ref (ad 157)), (3, .ref (ad 170)), (4, .ref (ad 171)), (5, .int x5)]) [2, 3, 4, 5, 6, 7] rfl ?_
        exact g_L_law_2206  C X Z hkc hk28 h
      · replace h := i_f c h
        refine g_iconst C dL_law_2204 iv_0 ?_
        cases h
  · replace h := i_f c h
    refine g_iconst C dL_law_2187 iv_0 ?_
    cases h
set_option maxHeartbeats 4000000 in
set_option maxRecDepth 100000 in
theorem g_L_law_2274 {Γ : ΓT} {ad : Nat → Nat} {b N : Nat} {xs : Nat → Int32} {μ : Mm} {k28 : Int32 → Mm → Option Unit} {kc ks n : Nat} {x5 : Int32} {r : Unit} (C : Cx Γ RL cL_law 9) (X : Ry Γ room_1) (Z : Zx Γ b N xs) (hkc : kc + 10 * (n + 1) ≤ 601024 ∧ ks + 60 * (n + 1) ≤ 7293034) (hk28 : ∀ (x5 : Int32) (ν : Mm) (kc2 ks2 : Nat), kc2 ≤ kc + 10 → ks2 ≤ ks + 60 → k28 x5 ν = some r → G Γ ad layL 9 ν 28 [(0, .ref b), (1, .ref (ad 0)), (2, .ref (ad 157)), (3, .ref (ad 170)), (4, .ref (ad 171)), (5, .int x5)] [] kc2 ks2) (h : b_L_law_2274 N xs μ k28 x5 = some r) : G Γ ad layL 9 μ 2274 [(0, .ref b), (1, .ref (ad 0)), (2, .ref (ad 157)), (3, .ref (ad 170)), (4, .ref (ad 171)), (5, .int x5)] [] (kc + 2) (ks + 12) := by
  unfold b_L_law_2274 at h
  refine g_goto (tgt := 3616) C dL_law_2274 (by decide) ?_
  refine g_wid (kc' := (kc + 8)) (ks' := (ks + 48)) (by omega) (by omega) ?_
  exact g_L_law_3616  C X Z hkc hk28 h
set_option maxHeartbeats 4000000 in
set_option maxRecDepth 100000 in
theorem g_L_law_2209 {Γ : ΓT} {ad : Nat → Nat} {b N : Nat} {xs : Nat → Int32} {μ : Mm} {k28 : Int32 → Mm → Option Unit} {kc ks n : Nat} {x5 : Int32} {r : Unit} (C : Cx Γ RL cL_law 9) (X : Ry Γ room_1) (Z : Zx Γ b N xs) (hkc : kc + 10 * (n + 1) ≤ 601024 ∧ ks + 60 * (n + 1) ≤ 7293034) (hk28 : ∀ (x5 : Int32) (ν : Mm) (kc2 ks2 : Nat), kc2 ≤ kc + 10 → ks2 ≤ ks + 60 → k28 x5 ν = some r → G Γ ad layL 9 ν 28 [(0, .ref b), (1, .ref (ad 0)), (2, .ref (ad 157)), (3, .ref (ad 170)), (4, .ref (ad 171)), (5, .int x5)] [] kc2 ks2) (h : b_L_law_2209 N xs μ k28 x5 = some r) : G Γ ad layL 9 μ 2209 [(0, .ref b), (1, .ref (ad 0)), (2, .ref (ad 157)), (3, .ref (ad 170)), (4, .ref (ad 171)), (5, .int x5)] [] kc ks := by
  unfold b_L_law_2209 at h
  refine g_aload_n C dL_law_2209 1 rfl ?_
  refine g_aload_n C dL_law_2210 0 rfl ?_
  refine g_iload C dL_law_2211 5 rfl ?_
  refine g_iconst C dL_law_2213 iv_1 ?_
  refine g_iadd C dL_law_2214 ?_
  obtain ⟨hz2215, h⟩ := i_n h
  refine g_scr Z C hz2215 dL_law_2215 ?_
  refine g_aload_n C dL_law_2216 0 rfl ?_
  refine g_iload C dL_law_2217 5 rfl ?_
  refine g_iconst C dL_law_2219 iv_2 ?_
  refine g_iadd C dL_law_2220 ?_
  obtain ⟨hz2221, h⟩ := i_n h
  refine g_scr Z C hz2221 dL_law_2221 ?_
  refine g_aload_n C dL_law_2222 3 rfl ?_
  obtain ⟨q2223, hq2223, h⟩ := i_b h
  have hc2223 := c_L_cheapest (ad := ad) (sd := gsd Γ) (ry_tr X) hq2223
  refine g_callSxy [.ref (ad 0), .int (xs (Int32.toNatClampNeg (x5 + 1))), .int (xs (Int32.toNatClampNeg (x5 + 2))), .ref (ad 170)] [] C X k_RL_298 hc2223 (by decide) (by first | (constructor <;> (simp only [rm_L_cheapest, room_1]; omega)) | omega) rfl (Nat.le_of_ble_eq_true rfl) rfl dL_law_2223 (stk2 := [.int q2223.1]) rfl rfl rfl ?_
  refine g_istore (L' := [(6, .int q2223.1), (0, .ref b), (1, .ref (ad 0)), (2, .ref (ad 157)), (3, .ref (ad 170)), (4, .ref (ad 171)), (5, .int x5)]) C dL_law_2226 (by decide) rfl ?_
  refine g_aload_n C dL_law_2228 3 rfl ?_
  refine g_aload_n C dL_law_2229 1 rfl ?_
  refine g_iload C dL_law_2230 6 rfl ?_
  refine g_iconst C dL_law_2232 iv_1 ?_
  refine g_iadd C dL_law_2233 ?_
  obtain ⟨hz2234, h⟩ := i_n h
  refine g_scr Z C hz2234 dL_law_2234 ?_
  refine g_aload_n C dL_law_2235 1 rfl ?_
  refine g_iload C dL_law_2236 6 rfl ?_
  refine g_iconst C dL_law_2238 iv_2 ?_
  refine g_iadd C dL_law_2239 ?_
  obtain ⟨hz2240, h⟩ := i_n h
  refine g_scr Z C hz2240 dL_law_2240 ?_
  obtain ⟨q2241, hq2241, h⟩ := i_b h
  have hc2241 := c_X10_cheapest (ad := ad) (sd := gsd Γ) (ry_tr X) hq2241
  refine g_callVny [.int (xs (Int32.toNatClampNeg (x5 + 1))), .int (xs (Int32.toNatClampNeg (x5 + 2)))] [] C X k_RL_300 hc2241 ly_157 rfl (by decide) (by first | (constructor <;> (simp only [rm_X10_cheapest, room_1]; omega)) | omega) rfl (Nat.le_of_ble_eq_true rfl) rfl dL_law_2241 (stk2 := [.int q2241.1]) rfl rfl rfl ?_
  refine g_istore (L' := [(7, .int q2241.1), (6, .int q2223.1), (0, .ref b), (1, .ref (ad 0)), (2, .ref (ad 157)), (3, .ref (ad 170)), (4, .ref (ad 171)), (5, .int x5)]) C dL_law_2244 (by decide) rfl ?_
  refine g_aload_n C dL_law_2246 4 rfl ?_
  obtain ⟨q2247, hq2247, h⟩ := i_b h
  have hc2247 := c_X10_thrown (ad := ad) (sd := gsd Γ) (ry_tr X) hq2247
  refine g_callVny [] [] C X k_RL_203 hc2247 ly_157 rfl (by decide) (by first | (constructor <;> (simp only [rm_X10_thrown, room_1]; omega)) | omega) rfl (Nat.le_of_ble_eq_true rfl) rfl dL_law_2247 (stk2 := [.int q2247]) rfl rfl rfl ?_
  refine g_iload C dL_law_2250 1 rfl ?_
  refine g_icmp_eq (tgt := 2257) C dL_law_2252 (by decide) (fun c => ?_) (fun c => ?_)
  · replace h := i_t c h
    refine g_iload C dL_law_2257 1 rfl ?_
    refine g_if_ne (tgt := 2274) C dL_law_2259 (by decide) (fun c => ?_) (fun c => ?_)
    · replace h := i_f c h
      refine g_sub (L' := [(0, .ref b), (1, .ref (ad 0)), (2, .ref (ad 157)), (3, .ref (ad 170)), (4, .ref (ad 171)), (5, .int x5)]) [2, 3, 4, 5, 6, 7] rfl ?_
      exact g_L_law_2274  C X Z hkc hk28 h
    · replace h := i_t c h
      refine g_aload_n C dL_law_2262 5 rfl ?_
      refine g_iconst C dL_law_2263 iv_0 ?_
      obtain ⟨hz2264, h⟩ := i_n h
      refine g_lald C ly_170 hz2264 dL_law_2264 ?_
      refine g_iload C dL_law_2265 0 rfl ?_
      refine g_i2l C dL_law_2267 ?_
      refine g_lcmp C dL_law_2268 ?_
      refine g_if_eq (tgt := 2274) C dL_law_2269 (by decide) (fun c => ?_) (fun c => ?_)
      · replace h := i_t c h
        refine g_sub (L' := [(0, .ref b), (1, .ref (ad 0)), (2, .ref (ad 157)), (3, .ref (ad 170)), (4, .ref (ad 171)), (5, .int x5)]) [2, 3, 4, 5, 6, 7] rfl ?_
        exact g_L_law_2274  C X Z hkc hk28 h
      · replace h := i_f c h
        refine g_iconst C dL_law_2272 iv_0 ?_
        cases h
  · replace h := i_f c h
    refine g_iconst C dL_law_2255 iv_0 ?_
    cases h
set_option maxHeartbeats 4000000 in
set_option maxRecDepth 100000 in
theorem g_L_law_2330 {Γ : ΓT} {ad : Nat → Nat} {b N : Nat} {xs : Nat → Int32} {μ : Mm} {k28 : Int32 → Mm → Option Unit} {kc ks n : Nat} {x5 : Int32} {r : Unit} (C : Cx Γ RL cL_law 9) (X : Ry Γ room_1) (Z : Zx Γ b N xs) (hkc : kc + 10 * (n + 1) ≤ 601024 ∧ ks + 60 * (n + 1) ≤ 7293034) (hk28 : ∀ (x5 : Int32) (ν : Mm) (kc2 ks2 : Nat), kc2 ≤ kc + 10 → ks2 ≤ ks + 60 → k28 x5 ν = some r → G Γ ad layL 9 ν 28 [(0, .ref b), (1, .ref (ad 0)), (2, .ref (ad 157)), (3, .ref (ad 170)), (4, .ref (ad 171)), (5, .int x5)] [] kc2 ks2) (h : b_L_law_2330 N xs μ k28 x5 = some r) : G Γ ad layL 9 μ 2330 [(0, .ref b), (1, .ref (ad 0)), (2, .ref (ad 157)), (3, .ref (ad 170)), (4, .ref (ad 171)), (5, .int x5)] [] (kc + 1) (ks + 6) := by
  unfold b_L_law_2330 at h
  refine g_goto (tgt := 3616) C dL_law_2330 (by decide) ?_
  refine g_wid (kc' := (kc + 8)) (ks' := (ks + 48)) (by omega) (by omega) ?_
  exact g_L_law_3616  C X Z hkc hk28 h
set_option maxHeartbeats 4000000 in
set_option maxRecDepth 100000 in
theorem g_L_law_2277 {Γ : ΓT} {ad : Nat → Nat} {b N : Nat} {xs : Nat → Int32} {μ : Mm} {k28 : Int32 → Mm → Option Unit} {kc ks n : Nat} {x5 : Int32} {r : Unit} (C : Cx Γ RL cL_law 9) (X : Ry Γ room_1) (Z : Zx Γ b N xs) (hkc : kc + 10 * (n + 1) ≤ 601024 ∧ ks + 60 * (n + 1) ≤ 7293034) (hk28 : ∀ (x5 : Int32) (ν : Mm) (kc2 ks2 : Nat), kc2 ≤ kc + 10 → ks2 ≤ ks + 60 → k28 x5 ν = some r → G Γ ad layL 9 ν 28 [(0, .ref b), (1, .ref (ad 0)), (2, .ref (ad 157)), (3, .ref (ad 170)), (4, .ref (ad 171)), (5, .int x5)] [] kc2 ks2) (h : b_L_law_2277 N xs μ k28 x5 = some r) : G Γ ad layL 9 μ 2277 [(0, .ref b), (1, .ref (ad 0)), (2, .ref (ad 157)), (3, .ref (ad 170)), (4, .ref (ad 171)), (5, .int x5)] [] kc ks := by
  unfold b_L_law_2277 at h
  refine g_aload_n C dL_law_2277 1 rfl ?_
  refine g_aload_n C dL_law_2278 0 rfl ?_
  refine g_iload C dL_law_2279 5 rfl ?_
  refine g_iconst C dL_law_2281 iv_1 ?_
  refine g_iadd C dL_law_2282 ?_
  obtain ⟨hz2283, h⟩ := i_n h
  refine g_scr Z C hz2283 dL_law_2283 ?_
  refine g_aload_n C dL_law_2284 3 rfl ?_
  obtain ⟨q2285, hq2285, h⟩ := i_b h
  have hc2285 := c_L_planCost (ad := ad) (sd := gsd Γ) (ry_tr X) hq2285
  refine g_callSxy [.ref (ad 0), .int (xs (Int32.toNatClampNeg (x5 + 1))), .ref (ad 170)] [] C X k_RL_301 hc2285 (by decide) (by first | (constructor <;> (simp only [rm_L_planCost, room_1]; omega)) | omega) rfl (Nat.le_of_ble_eq_true rfl) rfl dL_law_2285 (stk2 := [.int q2285.1]) rfl rfl rfl ?_
  refine g_istore (L' := [(6, .int q2285.1), (0, .ref b), (1, .ref (ad 0)), (2, .ref (ad 157)), (3, .ref (ad 170)), (4, .ref (ad 171)), (5, .int x5)]) C dL_law_2288 (by decide) rfl ?_
  refine g_aload_n C dL_law_2290 3 rfl ?_
  refine g_aload_n C dL_law_2291 1 rfl ?_
  refine g_iload C dL_law_2292 6 rfl ?_
  refine g_iconst C dL_law_2294 iv_1 ?_
  refine g_iadd C dL_law_2295 ?_
  obtain ⟨hz2296, h⟩ := i_n h
  refine g_scr Z C hz2296 dL_law_2296 ?_
  obtain ⟨q2297, hq2297, h⟩ := i_b h
  have hc2297 := c_X10_planCost (ad := ad) (sd := gsd Γ) (ry_tr X) hq2297
  refine g_callVny [.int (xs (Int32.toNatClampNeg (x5 + 1)))] [] C X k_RL_303 hc2297 ly_157 rfl (by decide) (by first | (constructor <;> (simp only [rm_X10_planCost, room_1]; omega)) | omega) rfl (Nat.le_of_ble_eq_true rfl) rfl dL_law_2297 (stk2 := [.int q2297.1]) rfl rfl rfl ?_
  refine g_istore (L' := [(7, .int q2297.1), (6, .int q2285.1), (0, .ref b), (1, .ref (ad 0)), (2, .ref (ad 157)), (3, .ref (ad 170)), (4, .ref (ad 171)), (5, .int x5)]) C dL_law_2300 (by decide) rfl ?_
  refine g_aload_n C dL_law_2302 4 rfl ?_
  obtain ⟨q2303, hq2303, h⟩ := i_b h
  have hc2303 := c_X10_thrown (ad := ad) (sd := gsd Γ) (ry_tr X) hq2303
  refine g_callVny [] [] C X k_RL_203 hc2303 ly_157 rfl (by decide) (by first | (constructor <;> (simp only [rm_X10_thrown, room_1]; omega)) | omega) rfl (Nat.le_of_ble_eq_true rfl) rfl dL_law_2303 (stk2 := [.int q2303]) rfl rfl rfl ?_
  refine g_iload C dL_law_2306 1 rfl ?_
  refine g_icmp_eq (tgt := 2313) C dL_law_2308 (by decide) (fun c => ?_) (fun c => ?_)
  · replace h := i_t c h
    refine g_iload C dL_law_2313 1 rfl ?_
    refine g_if_ne (tgt := 2330) C dL_law_2315 (by decide) (fun c => ?_) (fun c => ?_)
    · replace h := i_f c h
      refine g_sub (L' := [(0, .ref b), (1, .ref (ad 0)), (2, .ref (ad 157)), (3, .ref (ad 170)), (4, .ref (ad 171)), (5, .int x5)]) [2, 3, 4, 5, 6, 7] rfl ?_
      exact g_L_law_2330  C X Z hkc hk28 h
    · replace h := i_t c h
      refine g_aload_n C dL_law_2318 5 rfl ?_
      refine g_iconst C dL_law_2319 iv_0 ?_
      obtain ⟨hz2320, h⟩ := i_n h
      refine g_lald C ly_170 hz2320 dL_law_2320 ?_
      refine g_iload C dL_law_2321 0 rfl ?_
      refine g_i2l C dL_law_2323 ?_
      refine g_lcmp C dL_law_2324 ?_
      refine g_if_eq (tgt := 2330) C dL_law_2325 (by decide) (fun c => ?_) (fun c => ?_)
      · replace h := i_t c h
        refine g_sub (L' := [(0, .ref b), (1, .ref (ad 0)), (2, .ref (ad 157)), (3, .ref (ad 170)), (4, .ref (ad 171)), (5, .int x5)]) [2, 3, 4, 5, 6, 7] rfl ?_
        exact g_L_law_2330  C X Z hkc hk28 h
      · replace h := i_f c h
        refine g_iconst C dL_law_2328 iv_0 ?_
        cases h
  · replace h := i_f c h
    refine g_iconst C dL_law_2311 iv_0 ?_
    cases h
set_option maxHeartbeats 4000000 in
set_option maxRecDepth 100000 in
theorem g_L_law_2407 {Γ : ΓT} {ad : Nat → Nat} {b N : Nat} {xs : Nat → Int32} {μ : Mm} {k28 : Int32 → Mm → Option Unit} {kc ks n : Nat} {x5 : Int32} {r : Unit} (C : Cx Γ RL cL_law 9) (X : Ry Γ room_1) (Z : Zx Γ b N xs) (hkc : kc + 10 * (n + 1) ≤ 601024 ∧ ks + 60 * (n + 1) ≤ 7293034) (hk28 : ∀ (x5 : Int32) (ν : Mm) (kc2 ks2 : Nat), kc2 ≤ kc + 10 → ks2 ≤ ks + 60 → k28 x5 ν = some r → G Γ ad layL 9 ν 28 [(0, .ref b), (1, .ref (ad 0)), (2, .ref (ad 157)), (3, .ref (ad 170)), (4, .ref (ad 171)), (5, .int x5)] [] kc2 ks2) (h : b_L_law_2407 N xs μ k28 x5 = some r) : G Γ ad layL 9 μ 2407 [(0, .ref b), (1, .ref (ad 0)), (2, .ref (ad 157)), (3, .ref (ad 170)), (4, .ref (ad 171)), (5, .int x5)] [] (kc + 1) (ks + 6) := by
  unfold b_L_law_2407 at h
  refine g_goto (tgt := 3616) C dL_law_2407 (by decide) ?_
  refine g_wid (kc' := (kc + 8)) (ks' := (ks + 48)) (by omega) (by omega) ?_
  exact g_L_law_3616  C X Z hkc hk28 h
set_option maxHeartbeats 4000000 in
set_option maxRecDepth 100000 in
theorem g_L_law_2333 {Γ : ΓT} {ad : Nat → Nat} {b N : Nat} {xs : Nat → Int32} {μ : Mm} {k28 : Int32 → Mm → Option Unit} {kc ks n : Nat} {x5 : Int32} {r : Unit} (C : Cx Γ RL cL_law 9) (X : Ry Γ room_1) (Z : Zx Γ b N xs) (hkc : kc + 10 * (n + 1) ≤ 601024 ∧ ks + 60 * (n + 1) ≤ 7293034) (hk28 : ∀ (x5 : Int32) (ν : Mm) (kc2 ks2 : Nat), kc2 ≤ kc + 10 → ks2 ≤ ks + 60 → k28 x5 ν = some r → G Γ ad layL 9 ν 28 [(0, .ref b), (1, .ref (ad 0)), (2, .ref (ad 157)), (3, .ref (ad 170)), (4, .ref (ad 171)), (5, .int x5)] [] kc2 ks2) (h : b_L_law_2333 N xs μ k28 x5 = some r) : G Γ ad layL 9 μ 2333 [(0, .ref b), (1, .ref (ad 0)), (2, .ref (ad 157)), (3, .ref (ad 170)), (4, .ref (ad 171)), (5, .int x5)] [] kc ks := by
  unfold b_L_law_2333 at h
  refine g_aload_n C dL_law_2333 1 rfl ?_
  refine g_aload_n C dL_law_2334 0 rfl ?_
  refine g_iload C dL_law_2335 5 rfl ?_
  refine g_iconst C dL_law_2337 iv_1 ?_
  refine g_iadd C dL_law_2338 ?_
  obtain ⟨hz2339, h⟩ := i_n h
  refine g_scr Z C hz2339 dL_law_2339 ?_
  refine g_aload C dL_law_2340 4 rfl ?_
  obtain ⟨q2342, hq2342, h⟩ := i_b h
  have hc2342 := c_L_meanRut (ad := ad) (sd := gsd Γ) (ry_tr X) hq2342
  refine g_callSxy [.ref (ad 0), .int (xs (Int32.toNatClampNeg (x5 + 1))), .ref (ad 171)] [] C X k_RL_304 hc2342 (by decide) (by first | (constructor <;> (simp only [rm_L_meanRut, room_1]; omega)) | omega) rfl (Nat.le_of_ble_eq_true rfl) rfl dL_law_2342 (stk2 := [.int q2342.1]) rfl rfl rfl ?_
  refine g_istore (L' := [(6, .int q2342.1), (0, .ref b), (1, .ref (ad 0)), (2, .ref (ad 157)), (3, .ref (ad 170)), (4, .ref (ad 171)), (5, .int x5)]) C dL_law_2345 (by decide) rfl ?_
  refine g_aload_n C dL_law_2347 3 rfl ?_
  refine g_aload_n C dL_law_2348 1 rfl ?_
  refine g_iload C dL_law_2349 6 rfl ?_
  refine g_iconst C dL_law_2351 iv_1 ?_
  refine g_iadd C dL_law_2352 ?_
  obtain ⟨hz2353, h⟩ := i_n h
  refine g_scr Z C hz2353 dL_law_2353 ?_
  obtain ⟨q2354, hq2354, h⟩ := i_b h
  have hc2354 := c_X10_meanRut (ad := ad) (sd := gsd Γ) (ry_tr X) hq2354
  refine g_callVny [.int (xs (Int32.toNatClampNeg (x5 + 1)))] [] C X k_RL_307 hc2354 ly_157 rfl (by decide) (by first | (constructor <;> (simp only [rm_X10_meanRut, room_1]; omega)) | omega) rfl (Nat.le_of_ble_eq_true rfl) rfl dL_law_2354 (stk2 := [.double q2354.1]) rfl rfl rfl ?_
  refine g_dstore (L' := [(7, .double q2354.1), (6, .int q2342.1), (0, .ref b), (1, .ref (ad 0)), (2, .ref (ad 157)), (3, .ref (ad 170)), (4, .ref (ad 171)), (5, .int x5)]) C dL_law_2357 (by decide) rfl ?_
  refine g_aload_n C dL_law_2359 4 rfl ?_
  obtain ⟨q2360, hq2360, h⟩ := i_b h
  have hc2360 := c_X10_thrown (ad := ad) (sd := gsd Γ) (ry_tr X) hq2360
  refine g_callVny [] [] C X k_RL_203 hc2360 ly_157 rfl (by decide) (by first | (constructor <;> (simp only [rm_X10_thrown, room_1]; omega)) | omega) rfl (Nat.le_of_ble_eq_true rfl) rfl dL_law_2360 (stk2 := [.int q2360]) rfl rfl rfl ?_
  refine g_iload C dL_law_2363 1 rfl ?_
  refine g_icmp_eq (tgt := 2370) C dL_law_2365 (by decide) (fun c => ?_) (fun c => ?_)
  · replace h := i_t c h
    refine g_iload C dL_law_2370 1 rfl ?_
    refine g_if_ne (tgt := 2407) C dL_law_2372 (by decide) (fun c => ?_) (fun c => ?_)
    · replace h := i_f c h
      refine g_sub (L' := [(0, .ref b), (1, .ref (ad 0)), (2, .ref (ad 157)), (3, .ref (ad 170)), (4, .ref (ad 171)), (5, .int x5)]) [2, 3, 4, 5, 6, 7] rfl ?_
      exact g_L_law_2407  C X Z hkc hk28 h
    · replace h := i_t c h
      refine g_aload C dL_law_2375 6 rfl ?_
      refine g_iconst C dL_law_2377 iv_0 ?_
      obtain ⟨hz2378, h⟩ := i_n h
      refine g_dald C ly_171 hz2378 dL_law_2378 ?_
      refine g_dload C dL_law_2379 0 rfl ?_
      refine g_dcmp C dL_law_2381 ?_
      refine g_if_eq (tgt := 2407) C dL_law_2382 (by decide) (fun c => ?_) (fun c => ?_)
      · replace h := i_t c h
        refine g_sub (L' := [(0, .ref b), (1, .ref (ad 0)), (2, .ref (ad 157)), (3, .ref (ad 170)), (4, .ref (ad 171)), (5, .int x5)]) [2, 3, 4, 5, 6, 7] rfl ?_
        exact g_L_law_2407  C X Z hkc hk28 h
      · replace h := i_f c h
        refine g_aload C dL_law_2385 6 rfl ?_
        refine g_iconst C dL_law_2387 iv_0 ?_
        obtain ⟨hz2388, h⟩ := i_n h
        refine g_dald C ly_171 hz2388 dL_law_2388 ?_
        refine g_aload C dL_law_2389 6 rfl ?_
        refine g_iconst C dL_law_2391 iv_0 ?_
        obtain ⟨hz2392, h⟩ := i_n h
        refine g_dald C ly_171 hz2392 dL_law_2392 ?_
        refine g_dcmp C dL_law_2393 ?_
        refine g_if_eq (tgt := 2405) C dL_law_2394 (by decide) (fun c => ?_) (fun c => ?_)
        · replace h := i_t c h
          refine g_iconst C dL_law_2405 iv_0 ?_
          cases h
        · replace h := i_f c h
          refine g_dload C dL_law_2397 0 rfl ?_
          refine g_dload C dL_law_2399 0 rfl ?_
          refine g_dcmp C dL_law_2401 ?_
          refine g_if_ne (tgt := 2407) C dL_law_2402 (by decide) (fun c => ?_) (fun c => ?_)
          · replace h := i_f c h
            refine g_sub (L' := [(0, .ref b), (1, .ref (ad 0)), (2, .ref (ad 157)), (3, .ref (ad 170)), (4, .ref (ad 171)), (5, .int x5)]) [2, 3, 4, 5, 6, 7] rfl ?_
            exact g_L_law_2407  C X Z hkc hk28 h
          · replace h := i_t c h
            refine g_iconst C dL_law_2405 iv_0 ?_
            cases h
  · replace h := i_f c h
    refine g_iconst C dL_law_2368 iv_0 ?_
    cases h
set_option maxHeartbeats 4000000 in
set_option maxRecDepth 100000 in
theorem g_L_law_2485 {Γ : ΓT} {ad : Nat → Nat} {b N : Nat} {xs : Nat → Int32} {μ : Mm} {k28 : Int32 → Mm → Option Unit} {kc ks n : Nat} {x5 : Int32} {r : Unit} (C : Cx Γ RL cL_law 9) (X : Ry Γ room_1) (Z : Zx Γ b N xs) (hkc : kc + 10 * (n + 1) ≤ 601024 ∧ ks + 60 * (n + 1) ≤ 7293034) (hk28 : ∀ (x5 : Int32) (ν : Mm) (kc2 ks2 : Nat), kc2 ≤ kc + 10 → ks2 ≤ ks + 60 → k28 x5 ν = some r → G Γ ad layL 9 ν 28 [(0, .ref b), (1, .ref (ad 0)), (2, .ref (ad 157)), (3, .ref (ad 170)), (4, .ref (ad 171)), (5, .int x5)] [] kc2 ks2) (h : b_L_law_2485 N xs μ k28 x5 = some r) : G Γ ad layL 9 μ 2485 [(0, .ref b), (1, .ref (ad 0)), (2, .ref (ad 157)), (3, .ref (ad 170)), (4, .ref (ad 171)), (5, .int x5)] [] (kc + 1) (ks + 6) := by
  unfold b_L_law_2485 at h
  refine g_goto (tgt := 3616) C dL_law_2485 (by decide) ?_
  refine g_wid (kc' := (kc + 8)) (ks' := (ks + 48)) (by omega) (by omega) ?_
  exact g_L_law_3616  C X Z hkc hk28 h
set_option maxHeartbeats 4000000 in
set_option maxRecDepth 100000 in
theorem g_L_law_2410 {Γ : ΓT} {ad : Nat → Nat} {b N : Nat} {xs : Nat → Int32} {μ : Mm} {k28 : Int32 → Mm → Option Unit} {kc ks n : Nat} {x5 : Int32} {r : Unit} (C : Cx Γ RL cL_law 9) (X : Ry Γ room_1) (Z : Zx Γ b N xs) (hkc : kc + 10 * (n + 1) ≤ 601024 ∧ ks + 60 * (n + 1) ≤ 7293034) (hk28 : ∀ (x5 : Int32) (ν : Mm) (kc2 ks2 : Nat), kc2 ≤ kc + 10 → ks2 ≤ ks + 60 → k28 x5 ν = some r → G Γ ad layL 9 ν 28 [(0, .ref b), (1, .ref (ad 0)), (2, .ref (ad 157)), (3, .ref (ad 170)), (4, .ref (ad 171)), (5, .int x5)] [] kc2 ks2) (h : b_L_law_2410 N xs μ k28 x5 = some r) : G Γ ad layL 9 μ 2410 [(0, .ref b), (1, .ref (ad 0)), (2, .ref (ad 157)), (3, .ref (ad 170)), (4, .ref (ad 171)), (5, .int x5)] [] kc ks := by
  unfold b_L_law_2410 at h
  refine g_aload_n C dL_law_2410 1 rfl ?_
  refine g_aload_n C dL_law_2411 0 rfl ?_
  refine g_iload C dL_law_2412 5 rfl ?_
  refine g_iconst C dL_law_2414 iv_1 ?_
  refine g_iadd C dL_law_2415 ?_
  obtain ⟨hz2416, h⟩ := i_n h
  refine g_scr Z C hz2416 dL_law_2416 ?_
  refine g_aload C dL_law_2417 4 rfl ?_
  obtain ⟨q2419, hq2419, h⟩ := i_b h
  have hc2419 := c_L_wornShare (ad := ad) (sd := gsd Γ) (ry_tr X) hq2419
  refine g_callSxy [.ref (ad 0), .int (xs (Int32.toNatClampNeg (x5 + 1))), .ref (ad 171)] [] C X k_RL_308 hc2419 (by decide) (by first | (constructor <;> (simp only [rm_L_wornShare, room_1]; omega)) | omega) rfl (Nat.le_of_ble_eq_true rfl) rfl dL_law_2419 (stk2 := [.int q2419.1]) rfl rfl rfl ?_
  refine g_istore (L' := [(6, .int q2419.1), (0, .ref b), (1, .ref (ad 0)), (2, .ref (ad 157)), (3, .ref (ad 170)), (4, .ref (ad 171)), (5, .int x5)]) C dL_law_2422 (by decide) rfl ?_
  refine g_aload_n C dL_law_2424 3 rfl ?_
  refine g_aload_n C dL_law_2425 1 rfl ?_
  refine g_iload C dL_law_2426 6 rfl ?_
  refine g_iconst C dL_law_2428 iv_1 ?_
  refine g_iadd C dL_law_2429 ?_
  obtain ⟨hz2430, h⟩ := i_n h
  refine g_scr Z C hz2430 dL_law_2430 ?_
  obtain ⟨q2431, hq2431, h⟩ := i_b h
  have hc2431 := c_X10_wornShare (ad := ad) (sd := gsd Γ) (ry_tr X) hq2431
  refine g_callVny [.int (xs (Int32.toNatClampNeg (x5 + 1)))] [] C X k_RL_310 hc2431 ly_157 rfl (by decide) (by first | (constructor <;> (simp only [rm_X10_wornShare, room_1]; omega)) | omega) rfl (Nat.le_of_ble_eq_true rfl) rfl dL_law_2431 (stk2 := [.float q2431.1]) rfl rfl rfl ?_
  refine g_fstore (L' := [(7, .float q2431.1), (6, .int q2419.1), (0, .ref b), (1, .ref (ad 0)), (2, .ref (ad 157)), (3, .ref (ad 170)), (4, .ref (ad 171)), (5, .int x5)]) C dL_law_2434 (by decide) rfl ?_
  refine g_aload_n C dL_law_2436 4 rfl ?_
  obtain ⟨q2437, hq2437, h⟩ := i_b h
  have hc2437 := c_X10_thrown (ad := ad) (sd := gsd Γ) (ry_tr X) hq2437
  refine g_callVny [] [] C X k_RL_203 hc2437 ly_157 rfl (by decide) (by first | (constructor <;> (simp only [rm_X10_thrown, room_1]; omega)) | omega) rfl (Nat.le_of_ble_eq_true rfl) rfl dL_law_2437 (stk2 := [.int q2437]) rfl rfl rfl ?_
  refine g_iload C dL_law_2440 1 rfl ?_
  refine g_icmp_eq (tgt := 2447) C dL_law_2442 (by decide) (fun c => ?_) (fun c => ?_)
  · replace h := i_t c h
    refine g_iload C dL_law_2447 1 rfl ?_
    refine g_if_ne (tgt := 2485) C dL_law_2449 (by decide) (fun c => ?_) (fun c => ?_)
    · replace h := i_f c h
      refine g_sub (L' := [(0, .ref b), (1, .ref (ad 0)), (2, .ref (ad 157)), (3, .ref (ad 170)), (4, .ref (ad 171)), (5, .int x5)]) [2, 3, 4, 5, 6, 7] rfl ?_
      exact g_L_law_2485  C X Z hkc hk28 h
    · replace h := i_t c h
      refine g_aload C dL_law_2452 6 rfl ?_
      refine g_iconst C dL_law_2454 iv_0 ?_
      obtain ⟨hz2455, h⟩ := i_n h
      refine g_dald C ly_171 hz2455 dL_law_2455 ?_
      refine g_fload C dL_law_2456 0 rfl ?_
      obtain ⟨hz2458, h⟩ := i_n h
      refine g_f2d C dL_law_2458 (nn64_of hz2458) ?_
      refine g_dcmp C dL_law_2459 ?_
      refine g_if_eq (tgt := 2485) C dL_law_2460 (by decide) (fun c => ?_) (fun c => ?_)
      · replace h := i_t c h
        refine g_sub (L' := [(0, .ref b), (1, .ref (ad 0)), (2, .ref (ad 157)), (3, .ref (ad 170)), (4, .ref (ad 171)), (5, .int x5)]) [2, 3, 4, 5, 6, 7] rfl ?_
        exact g_L_law_2485  C X Z hkc hk28 h
      · replace h := i_f c h
        refine g_aload C dL_law_2463 6 rfl ?_
        refine g_iconst C dL_law_2465 iv_0 ?_
        obtain ⟨hz2466, h⟩ := i_n h
        refine g_dald C ly_171 hz2466 dL_law_2466 ?_
        refine g_aload C dL_law_2467 6 rfl ?_
        refine g_iconst C dL_law_2469 iv_0 ?_
        obtain ⟨hz2470, h⟩ := i_n h
        refine g_dald C ly_171 hz2470 dL_law_2470 ?_
        refine g_dcmp C dL_law_2471 ?_
        refine g_if_eq (tgt := 2483) C dL_law_2472 (by decide) (fun c => ?_) (fun c => ?_)
        · replace h := i_t c h
          refine g_iconst C dL_law_2483 iv_0 ?_
          cases h
        · replace h := i_f c h
          refine g_fload C dL_law_2475 0 rfl ?_
          refine g_fload C dL_law_2477 0 rfl ?_
          refine g_fcmp C dL_law_2479 ?_
          refine g_if_ne (tgt := 2485) C dL_law_2480 (by decide) (fun c => ?_) (fun c => ?_)
          · replace h := i_f c h
            refine g_sub (L' := [(0, .ref b), (1, .ref (ad 0)), (2, .ref (ad 157)), (3, .ref (ad 170)), (4, .ref (ad 171)), (5, .int x5)]) [2, 3, 4, 5, 6, 7] rfl ?_
            exact g_L_law_2485  C X Z hkc hk28 h
          · replace h := i_t c h
            refine g_iconst C dL_law_2483 iv_0 ?_
            cases h
  · replace h := i_f c h
    refine g_iconst C dL_law_2445 iv_0 ?_
    cases h
set_option maxHeartbeats 4000000 in
set_option maxRecDepth 100000 in
theorem g_L_law_2541 {Γ : ΓT} {ad : Nat → Nat} {b N : Nat} {xs : Nat → Int32} {μ : Mm} {k28 : Int32 → Mm → Option Unit} {kc ks n : Nat} {x5 : Int32} {r : Unit} (C : Cx Γ RL cL_law 9) (X : Ry Γ room_1) (Z : Zx Γ b N xs) (hkc : kc + 10 * (n + 1) ≤ 601024 ∧ ks + 60 * (n + 1) ≤ 7293034) (hk28 : ∀ (x5 : Int32) (ν : Mm) (kc2 ks2 : Nat), kc2 ≤ kc + 10 → ks2 ≤ ks + 60 → k28 x5 ν = some r → G Γ ad layL 9 ν 28 [(0, .ref b), (1, .ref (ad 0)), (2, .ref (ad 157)), (3, .ref (ad 170)), (4, .ref (ad 171)), (5, .int x5)] [] kc2 ks2) (h : b_L_law_2541 N xs μ k28 x5 = some r) : G Γ ad layL 9 μ 2541 [(0, .ref b), (1, .ref (ad 0)), (2, .ref (ad 157)), (3, .ref (ad 170)), (4, .ref (ad 171)), (5, .int x5)] [] (kc + 2) (ks + 12) := by
  unfold b_L_law_2541 at h
  refine g_goto (tgt := 3616) C dL_law_2541 (by decide) ?_
  refine g_wid (kc' := (kc + 8)) (ks' := (ks + 48)) (by omega) (by omega) ?_
  exact g_L_law_3616  C X Z hkc hk28 h
set_option maxHeartbeats 4000000 in
set_option maxRecDepth 100000 in
theorem g_L_law_2488 {Γ : ΓT} {ad : Nat → Nat} {b N : Nat} {xs : Nat → Int32} {μ : Mm} {k28 : Int32 → Mm → Option Unit} {kc ks n : Nat} {x5 : Int32} {r : Unit} (C : Cx Γ RL cL_law 9) (X : Ry Γ room_1) (Z : Zx Γ b N xs) (hkc : kc + 10 * (n + 1) ≤ 601024 ∧ ks + 60 * (n + 1) ≤ 7293034) (hk28 : ∀ (x5 : Int32) (ν : Mm) (kc2 ks2 : Nat), kc2 ≤ kc + 10 → ks2 ≤ ks + 60 → k28 x5 ν = some r → G Γ ad layL 9 ν 28 [(0, .ref b), (1, .ref (ad 0)), (2, .ref (ad 157)), (3, .ref (ad 170)), (4, .ref (ad 171)), (5, .int x5)] [] kc2 ks2) (h : b_L_law_2488 N xs μ k28 x5 = some r) : G Γ ad layL 9 μ 2488 [(0, .ref b), (1, .ref (ad 0)), (2, .ref (ad 157)), (3, .ref (ad 170)), (4, .ref (ad 171)), (5, .int x5)] [] kc ks := by
  unfold b_L_law_2488 at h
  refine g_aload_n C dL_law_2488 1 rfl ?_
  refine g_aload_n C dL_law_2489 0 rfl ?_
  refine g_iload C dL_law_2490 5 rfl ?_
  refine g_iconst C dL_law_2492 iv_1 ?_
  refine g_iadd C dL_law_2493 ?_
  obtain ⟨hz2494, h⟩ := i_n h
  refine g_scr Z C hz2494 dL_law_2494 ?_
  refine g_aload_n C dL_law_2495 3 rfl ?_
  obtain ⟨q2496, hq2496, h⟩ := i_b h
  have hc2496 := c_L_pass (ad := ad) (sd := gsd Γ) (ry_tr X) hq2496
  refine g_callSxy [.ref (ad 0), .int (xs (Int32.toNatClampNeg (x5 + 1))), .ref (ad 170)] [] C X k_RL_311 hc2496 (by decide) (by first | (constructor <;> (simp only [rm_L_pass, room_1]; omega)) | omega) rfl (Nat.le_of_ble_eq_true rfl) rfl dL_law_2496 (stk2 := [.int q2496.1]) rfl rfl rfl ?_
  refine g_istore (L' := [(6, .int q2496.1), (0, .ref b), (1, .ref (ad 0)), (2, .ref (ad 157)), (3, .ref (ad 170)), (4, .ref (ad 171)), (5, .int x5)]) C dL_law_2499 (by decide) rfl ?_
  refine g_aload_n C dL_law_2501 3 rfl ?_
  refine g_aload_n C dL_law_2502 1 rfl ?_
  refine g_iload C dL_law_2503 6 rfl ?_
  refine g_iconst C dL_law_2505 iv_1 ?_
  refine g_iadd C dL_law_2506 ?_
  obtain ⟨hz2507, h⟩ := i_n h
  refine g_scr Z C hz2507 dL_law_2507 ?_
  obtain ⟨q2508, hq2508, h⟩ := i_b h
  have hc2508 := c_X10_pass (ad := ad) (sd := gsd Γ) (ry_tr X) hq2508
  refine g_callVny [.int (xs (Int32.toNatClampNeg (x5 + 1)))] [] C X k_RL_313 hc2508 ly_157 rfl (by decide) (by first | (constructor <;> (simp only [rm_X10_pass, room_1]; omega)) | omega) rfl (Nat.le_of_ble_eq_true rfl) rfl dL_law_2508 (stk2 := [.int q2508.1]) rfl rfl rfl ?_
  refine g_istore (L' := [(7, .int q2508.1), (6, .int q2496.1), (0, .ref b), (1, .ref (ad 0)), (2, .ref (ad 157)), (3, .ref (ad 170)), (4, .ref (ad 171)), (5, .int x5)]) C dL_law_2511 (by decide) rfl ?_
  refine g_aload_n C dL_law_2513 4 rfl ?_
  obtain ⟨q2514, hq2514, h⟩ := i_b h
  have hc2514 := c_X10_thrown (ad := ad) (sd := gsd Γ) (ry_tr X) hq2514
  refine g_callVny [] [] C X k_RL_203 hc2514 ly_157 rfl (by decide) (by first | (constructor <;> (simp only [rm_X10_thrown, room_1]; omega)) | omega) rfl (Nat.le_of_ble_eq_true rfl) rfl dL_law_2514 (stk2 := [.int q2514]) rfl rfl rfl ?_
  refine g_iload C dL_law_2517 1 rfl ?_
  refine g_icmp_eq (tgt := 2524) C dL_law_2519 (by decide) (fun c => ?_) (fun c => ?_)
  · replace h := i_t c h
    refine g_iload C dL_law_2524 1 rfl ?_
    refine g_if_ne (tgt := 2541) C dL_law_2526 (by decide) (fun c => ?_) (fun c => ?_)
    · replace h := i_f c h
      refine g_sub (L' := [(0, .ref b), (1, .ref (ad 0)), (2, .ref (ad 157)), (3, .ref (ad 170)), (4, .ref (ad 171)), (5, .int x5)]) [2, 3, 4, 5, 6, 7] rfl ?_
      exact g_L_law_2541  C X Z hkc hk28 h
    · replace h := i_t c h
      refine g_aload_n C dL_law_2529 5 rfl ?_
      refine g_iconst C dL_law_2530 iv_0 ?_
      obtain ⟨hz2531, h⟩ := i_n h
      refine g_lald C ly_170 hz2531 dL_law_2531 ?_
      refine g_iload C dL_law_2532 0 rfl ?_
      refine g_i2l C dL_law_2534 ?_
      refine g_lcmp C dL_law_2535 ?_
      refine g_if_eq (tgt := 2541) C dL_law_2536 (by decide) (fun c => ?_) (fun c => ?_)
      · replace h := i_t c h
        refine g_sub (L' := [(0, .ref b), (1, .ref (ad 0)), (2, .ref (ad 157)), (3, .ref (ad 170)), (4, .ref (ad 171)), (5, .int x5)]) [2, 3, 4, 5, 6, 7] rfl ?_
        exact g_L_law_2541  C X Z hkc hk28 h
      · replace h := i_f c h
        refine g_iconst C dL_law_2539 iv_0 ?_
        cases h
  · replace h := i_f c h
    refine g_iconst C dL_law_2522 iv_0 ?_
    cases h
set_option maxHeartbeats 4000000 in
set_option maxRecDepth 100000 in
theorem g_L_law_2621 {Γ : ΓT} {ad : Nat → Nat} {b N : Nat} {xs : Nat → Int32} {μ : Mm} {k28 : Int32 → Mm → Option Unit} {kc ks n : Nat} {x5 : Int32} {r : Unit} (C : Cx Γ RL cL_law 9) (X : Ry Γ room_1) (Z : Zx Γ b N xs) (hkc : kc + 10 * (n + 1) ≤ 601024 ∧ ks + 60 * (n + 1) ≤ 7293034) (hk28 : ∀ (x5 : Int32) (ν : Mm) (kc2 ks2 : Nat), kc2 ≤ kc + 10 → ks2 ≤ ks + 60 → k28 x5 ν = some r → G Γ ad layL 9 ν 28 [(0, .ref b), (1, .ref (ad 0)), (2, .ref (ad 157)), (3, .ref (ad 170)), (4, .ref (ad 171)), (5, .int x5)] [] kc2 ks2) (h : b_L_law_2621 N xs μ k28 x5 = some r) : G Γ ad layL 9 μ 2621 [(0, .ref b), (1, .ref (ad 0)), (2, .ref (ad 157)), (3, .ref (ad 170)), (4, .ref (ad 171)), (5, .int x5)] [] (kc + 4) (ks + 24) := by
  unfold b_L_law_2621 at h
  refine g_goto (tgt := 3616) C dL_law_2621 (by decide) ?_
  refine g_wid (kc' := (kc + 8)) (ks' := (ks + 48)) (by omega) (by omega) ?_
  exact g_L_law_3616  C X Z hkc hk28 h
set_option maxHeartbeats 4000000 in
set_option maxRecDepth 100000 in
theorem g_L_law_2544 {Γ : ΓT} {ad : Nat → Nat} {b N : Nat} {xs : Nat → Int32} {μ : Mm} {k28 : Int32 → Mm → Option Unit} {kc ks n : Nat} {x5 : Int32} {r : Unit} (C : Cx Γ RL cL_law 9) (X : Ry Γ room_1) (Z : Zx Γ b N xs) (hkc : kc + 10 * (n + 1) ≤ 601024 ∧ ks + 60 * (n + 1) ≤ 7293034) (hk28 : ∀ (x5 : Int32) (ν : Mm) (kc2 ks2 : Nat), kc2 ≤ kc + 10 → ks2 ≤ ks + 60 → k28 x5 ν = some r → G Γ ad layL 9 ν 28 [(0, .ref b), (1, .ref (ad 0)), (2, .ref (ad 157)), (3, .ref (ad 170)), (4, .ref (ad 171)), (5, .int x5)] [] kc2 ks2) (h : b_L_law_2544 N xs μ k28 x5 = some r) : G Γ ad layL 9 μ 2544 [(0, .ref b), (1, .ref (ad 0)), (2, .ref (ad 157)), (3, .ref (ad 170)), (4, .ref (ad 171)), (5, .int x5)] [] kc ks := by
  unfold b_L_law_2544 at h
  refine g_aload_n C dL_law_2544 1 rfl ?_
  refine g_aload_n C dL_law_2545 0 rfl ?_
  refine g_iload C dL_law_2546 5 rfl ?_
  refine g_iconst C dL_law_2548 iv_1 ?_
  refine g_iadd C dL_law_2549 ?_
  obtain ⟨hz2550, h⟩ := i_n h
  refine g_scr Z C hz2550 dL_law_2550 ?_
  refine g_aload_n C dL_law_2551 0 rfl ?_
  refine g_iload C dL_law_2552 5 rfl ?_
  refine g_iconst C dL_law_2554 iv_2 ?_
  refine g_iadd C dL_law_2555 ?_
  obtain ⟨hz2556, h⟩ := i_n h
  refine g_scr Z C hz2556 dL_law_2556 ?_
  refine g_aload_n C dL_law_2557 0 rfl ?_
  refine g_iload C dL_law_2558 5 rfl ?_
  refine g_iconst C dL_law_2560 iv_3 ?_
  refine g_iadd C dL_law_2561 ?_
  obtain ⟨hz2562, h⟩ := i_n h
  refine g_scr Z C hz2562 dL_law_2562 ?_
  refine g_aload_n C dL_law_2563 3 rfl ?_
  obtain ⟨q2564, hq2564, h⟩ := i_b h
  have hc2564 := c_L_drill (ad := ad) (sd := gsd Γ) (ry_tr X) hq2564
  refine g_callSxy [.ref (ad 0), .int (xs (Int32.toNatClampNeg (x5 + 1))), .int (xs (Int32.toNatClampNeg (x5 + 2))), .int (xs (Int32.toNatClampNeg (x5 + 3))), .ref (ad 170)] [] C X k_RL_314 hc2564 (by decide) (by first | (constructor <;> (simp only [rm_L_drill, room_1]; omega)) | omega) rfl (Nat.le_of_ble_eq_true rfl) rfl dL_law_2564 (stk2 := [.int q2564.1]) rfl rfl rfl ?_
  refine g_istore (L' := [(6, .int q2564.1), (0, .ref b), (1, .ref (ad 0)), (2, .ref (ad 157)), (3, .ref (ad 170)), (4, .ref (ad 171)), (5, .int x5)]) C dL_law_2567 (by decide) rfl ?_
  refine g_aload_n C dL_law_2569 3 rfl ?_
  refine g_aload_n C dL_law_2570 1 rfl ?_
  refine g_iload C dL_law_2571 6 rfl ?_
  refine g_iconst C dL_law_2573 iv_1 ?_
  refine g_iadd C dL_law_2574 ?_
  obtain ⟨hz2575, h⟩ := i_n h
  refine g_scr Z C hz2575 dL_law_2575 ?_
  refine g_aload_n C dL_law_2576 1 rfl ?_
  refine g_iload C dL_law_2577 6 rfl ?_
  refine g_iconst C dL_law_2579 iv_2 ?_
  refine g_iadd C dL_law_2580 ?_
  obtain ⟨hz2581, h⟩ := i_n h
  refine g_scr Z C hz2581 dL_law_2581 ?_
  refine g_aload_n C dL_law_2582 1 rfl ?_
  refine g_iload C dL_law_2583 6 rfl ?_
  refine g_iconst C dL_law_2585 iv_3 ?_
  refine g_iadd C dL_law_2586 ?_
  obtain ⟨hz2587, h⟩ := i_n h
  refine g_scr Z C hz2587 dL_law_2587 ?_
  obtain ⟨q2588, hq2588, h⟩ := i_b h
  have hc2588 := c_X10_drill (ad := ad) (sd := gsd Γ) (ry_tr X) hq2588
  refine g_callVny [.int (xs (Int32.toNatClampNeg (x5 + 1))), .int (xs (Int32.toNatClampNeg (x5 + 2))), .int (xs (Int32.toNatClampNeg (x5 + 3)))] [] C X k_RL_316 hc2588 ly_157 rfl (by decide) (by first | (constructor <;> (simp only [rm_X10_drill, room_1]; omega)) | omega) rfl (Nat.le_of_ble_eq_true rfl) rfl dL_law_2588 (stk2 := [.int q2588.1]) rfl rfl rfl ?_
  refine g_istore (L' := [(7, .int q2588.1), (6, .int q2564.1), (0, .ref b), (1, .ref (ad 0)), (2, .ref (ad 157)), (3, .ref (ad 170)), (4, .ref (ad 171)), (5, .int x5)]) C dL_law_2591 (by decide) rfl ?_
  refine g_aload_n C dL_law_2593 4 rfl ?_
  obtain ⟨q2594, hq2594, h⟩ := i_b h
  have hc2594 := c_X10_thrown (ad := ad) (sd := gsd Γ) (ry_tr X) hq2594
  refine g_callVny [] [] C X k_RL_203 hc2594 ly_157 rfl (by decide) (by first | (constructor <;> (simp only [rm_X10_thrown, room_1]; omega)) | omega) rfl (Nat.le_of_ble_eq_true rfl) rfl dL_law_2594 (stk2 := [.int q2594]) rfl rfl rfl ?_
  refine g_iload C dL_law_2597 1 rfl ?_
  refine g_icmp_eq (tgt := 2604) C dL_law_2599 (by decide) (fun c => ?_) (fun c => ?_)
  · replace h := i_t c h
    refine g_iload C dL_law_2604 1 rfl ?_
    refine g_if_ne (tgt := 2621) C dL_law_2606 (by decide) (fun c => ?_) (fun c => ?_)
    · replace h := i_f c h
      refine g_sub (L' := [(0, .ref b), (1, .ref (ad 0)), (2, .ref (ad 157)), (3, .ref (ad 170)), (4, .ref (ad 171)), (5, .int x5)]) [2, 3, 4, 5, 6, 7] rfl ?_
      exact g_L_law_2621  C X Z hkc hk28 h
    · replace h := i_t c h
      refine g_aload_n C dL_law_2609 5 rfl ?_
      refine g_iconst C dL_law_2610 iv_0 ?_
      obtain ⟨hz2611, h⟩ := i_n h
      refine g_lald C ly_170 hz2611 dL_law_2611 ?_
      refine g_iload C dL_law_2612 0 rfl ?_
      refine g_i2l C dL_law_2614 ?_
      refine g_lcmp C dL_law_2615 ?_
      refine g_if_eq (tgt := 2621) C dL_law_2616 (by decide) (fun c => ?_) (fun c => ?_)
      · replace h := i_t c h
        refine g_sub (L' := [(0, .ref b), (1, .ref (ad 0)), (2, .ref (ad 157)), (3, .ref (ad 170)), (4, .ref (ad 171)), (5, .int x5)]) [2, 3, 4, 5, 6, 7] rfl ?_
        exact g_L_law_2621  C X Z hkc hk28 h
      · replace h := i_f c h
        refine g_iconst C dL_law_2619 iv_0 ?_
        cases h
  · replace h := i_f c h
    refine g_iconst C dL_law_2602 iv_0 ?_
    cases h
set_option maxHeartbeats 4000000 in
set_option maxRecDepth 100000 in
theorem g_L_law_2701 {Γ : ΓT} {ad : Nat → Nat} {b N : Nat} {xs : Nat → Int32} {μ : Mm} {k28 : Int32 → Mm → Option Unit} {kc ks n : Nat} {x5 : Int32} {r : Unit} (C : Cx Γ RL cL_law 9) (X : Ry Γ room_1) (Z : Zx Γ b N xs) (hkc : kc + 10 * (n + 1) ≤ 601024 ∧ ks + 60 * (n + 1) ≤ 7293034) (hk28 : ∀ (x5 : Int32) (ν : Mm) (kc2 ks2 : Nat), kc2 ≤ kc + 10 → ks2 ≤ ks + 60 → k28 x5 ν = some r → G Γ ad layL 9 ν 28 [(0, .ref b), (1, .ref (ad 0)), (2, .ref (ad 157)), (3, .ref (ad 170)), (4, .ref (ad 171)), (5, .int x5)] [] kc2 ks2) (h : b_L_law_2701 N xs μ k28 x5 = some r) : G Γ ad layL 9 μ 2701 [(0, .ref b), (1, .ref (ad 0)), (2, .ref (ad 157)), (3, .ref (ad 170)), (4, .ref (ad 171)), (5, .int x5)] [] (kc + 4) (ks + 24) := by
  unfold b_L_law_2701 at h
  refine g_goto (tgt := 3616) C dL_law_2701 (by decide) ?_
  refine g_wid (kc' := (kc + 8)) (ks' := (ks + 48)) (by omega) (by omega) ?_
  exact g_L_law_3616  C X Z hkc hk28 h
set_option maxHeartbeats 4000000 in
set_option maxRecDepth 100000 in
theorem g_L_law_2624 {Γ : ΓT} {ad : Nat → Nat} {b N : Nat} {xs : Nat → Int32} {μ : Mm} {k28 : Int32 → Mm → Option Unit} {kc ks n : Nat} {x5 : Int32} {r : Unit} (C : Cx Γ RL cL_law 9) (X : Ry Γ room_1) (Z : Zx Γ b N xs) (hkc : kc + 10 * (n + 1) ≤ 601024 ∧ ks + 60 * (n + 1) ≤ 7293034) (hk28 : ∀ (x5 : Int32) (ν : Mm) (kc2 ks2 : Nat), kc2 ≤ kc + 10 → ks2 ≤ ks + 60 → k28 x5 ν = some r → G Γ ad layL 9 ν 28 [(0, .ref b), (1, .ref (ad 0)), (2, .ref (ad 157)), (3, .ref (ad 170)), (4, .ref (ad 171)), (5, .int x5)] [] kc2 ks2) (h : b_L_law_2624 N xs μ k28 x5 = some r) : G Γ ad layL 9 μ 2624 [(0, .ref b), (1, .ref (ad 0)), (2, .ref (ad 157)), (3, .ref (ad 170)), (4, .ref (ad 171)), (5, .int x5)] [] kc ks := by
  unfold b_L_law_2624 at h
  refine g_aload_n C dL_law_2624 1 rfl ?_
  refine g_aload_n C dL_law_2625 0 rfl ?_
  refine g_iload C dL_law_2626 5 rfl ?_
  refine g_iconst C dL_law_2628 iv_1 ?_
  refine g_iadd C dL_law_2629 ?_
  obtain ⟨hz2630, h⟩ := i_n h
  refine g_scr Z C hz2630 dL_law_2630 ?_
  refine g_aload_n C dL_law_2631 0 rfl ?_
  refine g_iload C dL_law_2632 5 rfl ?_
  refine g_iconst C dL_law_2634 iv_2 ?_
  refine g_iadd C dL_law_2635 ?_
  obtain ⟨hz2636, h⟩ := i_n h
  refine g_scr Z C hz2636 dL_law_2636 ?_
  refine g_aload_n C dL_law_2637 0 rfl ?_
  refine g_iload C dL_law_2638 5 rfl ?_
  refine g_iconst C dL_law_2640 iv_3 ?_
  refine g_iadd C dL_law_2641 ?_
  obtain ⟨hz2642, h⟩ := i_n h
  refine g_scr Z C hz2642 dL_law_2642 ?_
  refine g_aload_n C dL_law_2643 3 rfl ?_
  obtain ⟨q2644, hq2644, h⟩ := i_b h
  have hc2644 := c_L_addLayer (ad := ad) (sd := gsd Γ) (ry_tr X) hq2644
  refine g_callSxy [.ref (ad 0), .int (xs (Int32.toNatClampNeg (x5 + 1))), .int (xs (Int32.toNatClampNeg (x5 + 2))), .int (xs (Int32.toNatClampNeg (x5 + 3))), .ref (ad 170)] [] C X k_RL_317 hc2644 (by decide) (by first | (constructor <;> (simp only [rm_L_addLayer, room_1]; omega)) | omega) rfl (Nat.le_of_ble_eq_true rfl) rfl dL_law_2644 (stk2 := [.int q2644.1]) rfl rfl rfl ?_
  refine g_istore (L' := [(6, .int q2644.1), (0, .ref b), (1, .ref (ad 0)), (2, .ref (ad 157)), (3, .ref (ad 170)), (4, .ref (ad 171)), (5, .int x5)]) C dL_law_2647 (by decide) rfl ?_
  refine g_aload_n C dL_law_2649 3 rfl ?_
  refine g_aload_n C dL_law_2650 1 rfl ?_
  refine g_iload C dL_law_2651 6 rfl ?_
  refine g_iconst C dL_law_2653 iv_1 ?_
  refine g_iadd C dL_law_2654 ?_
  obtain ⟨hz2655, h⟩ := i_n h
  refine g_scr Z C hz2655 dL_law_2655 ?_
  refine g_aload_n C dL_law_2656 1 rfl ?_
  refine g_iload C dL_law_2657 6 rfl ?_
  refine g_iconst C dL_law_2659 iv_2 ?_
  refine g_iadd C dL_law_2660 ?_
  obtain ⟨hz2661, h⟩ := i_n h
  refine g_scr Z C hz2661 dL_law_2661 ?_
  refine g_aload_n C dL_law_2662 1 rfl ?_
  refine g_iload C dL_law_2663 6 rfl ?_
  refine g_iconst C dL_law_2665 iv_3 ?_
  refine g_iadd C dL_law_2666 ?_
  obtain ⟨hz2667, h⟩ := i_n h
  refine g_scr Z C hz2667 dL_law_2667 ?_
  obtain ⟨q2668, hq2668, h⟩ := i_b h
  have hc2668 := c_X10_addLayer (ad := ad) (sd := gsd Γ) (ry_tr X) hq2668
  refine g_callVny [.int (xs (Int32.toNatClampNeg (x5 + 1))), .int (xs (Int32.toNatClampNeg (x5 + 2))), .int (xs (Int32.toNatClampNeg (x5 + 3)))] [] C X k_RL_319 hc2668 ly_157 rfl (by decide) (by first | (constructor <;> (simp only [rm_X10_addLayer, room_1]; omega)) | omega) rfl (Nat.le_of_ble_eq_true rfl) rfl dL_law_2668 (stk2 := [.int q2668.1]) rfl rfl rfl ?_
  refine g_istore (L' := [(7, .int q2668.1), (6, .int q2644.1), (0, .ref b), (1, .ref (ad 0)), (2, .ref (ad 157)), (3, .ref (ad 170)), (4, .ref (ad 171)), (5, .int x5)]) C dL_law_2671 (by decide) rfl ?_
  refine g_aload_n C dL_law_2673 4 rfl ?_
  obtain ⟨q2674, hq2674, h⟩ := i_b h
  have hc2674 := c_X10_thrown (ad := ad) (sd := gsd Γ) (ry_tr X) hq2674
  refine g_callVny [] [] C X k_RL_203 hc2674 ly_157 rfl (by decide) (by first | (constructor <;> (simp only [rm_X10_thrown, room_1]; omega)) | omega) rfl (Nat.le_of_ble_eq_true rfl) rfl dL_law_2674 (stk2 := [.int q2674]) rfl rfl rfl ?_
  refine g_iload C dL_law_2677 1 rfl ?_
  refine g_icmp_eq (tgt := 2684) C dL_law_2679 (by decide) (fun c => ?_) (fun c => ?_)
  · replace h := i_t c h
    refine g_iload C dL_law_2684 1 rfl ?_
    refine g_if_ne (tgt := 2701) C dL_law_2686 (by decide) (fun c => ?_) (fun c => ?_)
    · replace h := i_f c h
      refine g_sub (L' := [(0, .ref b), (1, .ref (ad 0)), (2, .ref (ad 157)), (3, .ref (ad 170)), (4, .ref (ad 171)), (5, .int x5)]) [2, 3, 4, 5, 6, 7] rfl ?_
      exact g_L_law_2701  C X Z hkc hk28 h
    · replace h := i_t c h
      refine g_aload_n C dL_law_2689 5 rfl ?_
      refine g_iconst C dL_law_2690 iv_0 ?_
      obtain ⟨hz2691, h⟩ := i_n h
      refine g_lald C ly_170 hz2691 dL_law_2691 ?_
      refine g_iload C dL_law_2692 0 rfl ?_
      refine g_i2l C dL_law_2694 ?_
      refine g_lcmp C dL_law_2695 ?_
      refine g_if_eq (tgt := 2701) C dL_law_2696 (by decide) (fun c => ?_) (fun c => ?_)
      · replace h := i_t c h
        refine g_sub (L' := [(0, .ref b), (1, .ref (ad 0)), (2, .ref (ad 157)), (3, .ref (ad 170)), (4, .ref (ad 171)), (5, .int x5)]) [2, 3, 4, 5, 6, 7] rfl ?_
        exact g_L_law_2701  C X Z hkc hk28 h
      · replace h := i_f c h
        refine g_iconst C dL_law_2699 iv_0 ?_
        cases h
  · replace h := i_f c h
    refine g_iconst C dL_law_2682 iv_0 ?_
    cases h
set_option maxHeartbeats 4000000 in
set_option maxRecDepth 100000 in
theorem g_L_law_2757 {Γ : ΓT} {ad : Nat → Nat} {b N : Nat} {xs : Nat → Int32} {μ : Mm} {k28 : Int32 → Mm → Option Unit} {kc ks n : Nat} {x5 : Int32} {r : Unit} (C : Cx Γ RL cL_law 9) (X : Ry Γ room_1) (Z : Zx Γ b N xs) (hkc : kc + 10 * (n + 1) ≤ 601024 ∧ ks + 60 * (n + 1) ≤ 7293034) (hk28 : ∀ (x5 : Int32) (ν : Mm) (kc2 ks2 : Nat), kc2 ≤ kc + 10 → ks2 ≤ ks + 60 → k28 x5 ν = some r → G Γ ad layL 9 ν 28 [(0, .ref b), (1, .ref (ad 0)), (2, .ref (ad 157)), (3, .ref (ad 170)), (4, .ref (ad 171)), (5, .int x5)] [] kc2 ks2) (h : b_L_law_2757 N xs μ k28 x5 = some r) : G Γ ad layL 9 μ 2757 [(0, .ref b), (1, .ref (ad 0)), (2, .ref (ad 157)), (3, .ref (ad 170)), (4, .ref (ad 171)), (5, .int x5)] [] (kc + 1) (ks + 6) := by
  unfold b_L_law_2757 at h
  refine g_goto (tgt := 3616) C dL_law_2757 (by decide) ?_
  refine g_wid (kc' := (kc + 8)) (ks' := (ks + 48)) (by omega) (by omega) ?_
  exact g_L_law_3616  C X Z hkc hk28 h
set_option maxHeartbeats 4000000 in
set_option maxRecDepth 100000 in
theorem g_L_law_2704 {Γ : ΓT} {ad : Nat → Nat} {b N : Nat} {xs : Nat → Int32} {μ : Mm} {k28 : Int32 → Mm → Option Unit} {kc ks n : Nat} {x5 : Int32} {r : Unit} (C : Cx Γ RL cL_law 9) (X : Ry Γ room_1) (Z : Zx Γ b N xs) (hkc : kc + 10 * (n + 1) ≤ 601024 ∧ ks + 60 * (n + 1) ≤ 7293034) (hk28 : ∀ (x5 : Int32) (ν : Mm) (kc2 ks2 : Nat), kc2 ≤ kc + 10 → ks2 ≤ ks + 60 → k28 x5 ν = some r → G Γ ad layL 9 ν 28 [(0, .ref b), (1, .ref (ad 0)), (2, .ref (ad 157)), (3, .ref (ad 170)), (4, .ref (ad 171)), (5, .int x5)] [] kc2 ks2) (h : b_L_law_2704 N xs μ k28 x5 = some r) : G Γ ad layL 9 μ 2704 [(0, .ref b), (1, .ref (ad 0)), (2, .ref (ad 157)), (3, .ref (ad 170)), (4, .ref (ad 171)), (5, .int x5)] [] kc ks := by
  unfold b_L_law_2704 at h
  refine g_aload_n C dL_law_2704 1 rfl ?_
  refine g_aload_n C dL_law_2705 0 rfl ?_
  refine g_iload C dL_law_2706 5 rfl ?_
  refine g_iconst C dL_law_2708 iv_1 ?_
  refine g_iadd C dL_law_2709 ?_
  obtain ⟨hz2710, h⟩ := i_n h
  refine g_scr Z C hz2710 dL_law_2710 ?_
  refine g_aload_n C dL_law_2711 3 rfl ?_
  obtain ⟨q2712, hq2712, h⟩ := i_b h
  have hc2712 := c_L_discard (ad := ad) (sd := gsd Γ) (ry_tr X) hq2712
  refine g_callSxy [.ref (ad 0), .int (xs (Int32.toNatClampNeg (x5 + 1))), .ref (ad 170)] [] C X k_RL_320 hc2712 (by decide) (by first | (constructor <;> (simp only [rm_L_discard, room_1]; omega)) | omega) rfl (Nat.le_of_ble_eq_true rfl) rfl dL_law_2712 (stk2 := [.int q2712.1]) rfl rfl rfl ?_
  refine g_istore (L' := [(6, .int q2712.1), (0, .ref b), (1, .ref (ad 0)), (2, .ref (ad 157)), (3, .ref (ad 170)), (4, .ref (ad 171)), (5, .int x5)]) C dL_law_2715 (by decide) rfl ?_
  refine g_aload_n C dL_law_2717 3 rfl ?_
  refine g_aload_n C dL_law_2718 1 rfl ?_
  refine g_iload C dL_law_2719 6 rfl ?_
  refine g_iconst C dL_law_2721 iv_1 ?_
  refine g_iadd C dL_law_2722 ?_
  obtain ⟨hz2723, h⟩ := i_n h
  refine g_scr Z C hz2723 dL_law_2723 ?_
  obtain ⟨q2724, hq2724, h⟩ := i_b h
  have hc2724 := c_X10_discard (ad := ad) (sd := gsd Γ) (ry_tr X) hq2724
  refine g_callVny [.int (xs (Int32.toNatClampNeg (x5 + 1)))] [] C X k_RL_322 hc2724 ly_157 rfl (by decide) (by first | (constructor <;> (simp only [rm_X10_discard, room_1]; omega)) | omega) rfl (Nat.le_of_ble_eq_true rfl) rfl dL_law_2724 (stk2 := [.int q2724.1]) rfl rfl rfl ?_
  refine g_istore (L' := [(7, .int q2724.1), (6, .int q2712.1), (0, .ref b), (1, .ref (ad 0)), (2, .ref (ad 157)), (3, .ref (ad 170)), (4, .ref (ad 171)), (5, .int x5)]) C dL_law_2727 (by decide) rfl ?_
  refine g_aload_n C dL_law_2729 4 rfl ?_
  obtain ⟨q2730, hq2730, h⟩ := i_b h
  have hc2730 := c_X10_thrown (ad := ad) (sd := gsd Γ) (ry_tr X) hq2730
  refine g_callVny [] [] C X k_RL_203 hc2730 ly_157 rfl (by decide) (by first | (constructor <;> (simp only [rm_X10_thrown, room_1]; omega)) | omega) rfl (Nat.le_of_ble_eq_true rfl) rfl dL_law_2730 (stk2 := [.int q2730]) rfl rfl rfl ?_
  refine g_iload C dL_law_2733 1 rfl ?_
  refine g_icmp_eq (tgt := 2740) C dL_law_2735 (by decide) (fun c => ?_) (fun c => ?_)
  · replace h := i_t c h
    refine g_iload C dL_law_2740 1 rfl ?_
    refine g_if_ne (tgt := 2757) C dL_law_2742 (by decide) (fun c => ?_) (fun c => ?_)
    · replace h := i_f c h
      refine g_sub (L' := [(0, .ref b), (1, .ref (ad 0)), (2, .ref (ad 157)), (3, .ref (ad 170)), (4, .ref (ad 171)), (5, .int x5)]) [2, 3, 4, 5, 6, 7] rfl ?_
      exact g_L_law_2757  C X Z hkc hk28 h
    · replace h := i_t c h
      refine g_aload_n C dL_law_2745 5 rfl ?_
      refine g_iconst C dL_law_2746 iv_0 ?_
      obtain ⟨hz2747, h⟩ := i_n h
      refine g_lald C ly_170 hz2747 dL_law_2747 ?_
      refine g_iload C dL_law_2748 0 rfl ?_
      refine g_i2l C dL_law_2750 ?_
      refine g_lcmp C dL_law_2751 ?_
      refine g_if_eq (tgt := 2757) C dL_law_2752 (by decide) (fun c => ?_) (fun c => ?_)
      · replace h := i_t c h
        refine g_sub (L' := [(0, .ref b), (1, .ref (ad 0)), (2, .ref (ad 157)), (3, .ref (ad 170)), (4, .ref (ad 171)), (5, .int x5)]) [2, 3, 4, 5, 6, 7] rfl ?_
        exact g_L_law_2757  C X Z hkc hk28 h
      · replace h := i_f c h
        refine g_iconst C dL_law_2755 iv_0 ?_
        cases h
  · replace h := i_f c h
    refine g_iconst C dL_law_2738 iv_0 ?_
    cases h
set_option maxHeartbeats 4000000 in
set_option maxRecDepth 100000 in
theorem g_L_law_2825 {Γ : ΓT} {ad : Nat → Nat} {b N : Nat} {xs : Nat → Int32} {μ : Mm} {k28 : Int32 → Mm → Option Unit} {kc ks n : Nat} {x5 : Int32} {r : Unit} (C : Cx Γ RL cL_law 9) (X : Ry Γ room_1) (Z : Zx Γ b N xs) (hkc : kc + 10 * (n + 1) ≤ 601024 ∧ ks + 60 * (n + 1) ≤ 7293034) (hk28 : ∀ (x5 : Int32) (ν : Mm) (kc2 ks2 : Nat), kc2 ≤ kc + 10 → ks2 ≤ ks + 60 → k28 x5 ν = some r → G Γ ad layL 9 ν 28 [(0, .ref b), (1, .ref (ad 0)), (2, .ref (ad 157)), (3, .ref (ad 170)), (4, .ref (ad 171)), (5, .int x5)] [] kc2 ks2) (h : b_L_law_2825 N xs μ k28 x5 = some r) : G Γ ad layL 9 μ 2825 [(0, .ref b), (1, .ref (ad 0)), (2, .ref (ad 157)), (3, .ref (ad 170)), (4, .ref (ad 171)), (5, .int x5)] [] (kc + 2) (ks + 12) := by
  unfold b_L_law_2825 at h
  refine g_goto (tgt := 3616) C dL_law_2825 (by decide) ?_
  refine g_wid (kc' := (kc + 8)) (ks' := (ks + 48)) (by omega) (by omega) ?_
  exact g_L_law_3616  C X Z hkc hk28 h
set_option maxHeartbeats 4000000 in
set_option maxRecDepth 100000 in
theorem g_L_law_2760 {Γ : ΓT} {ad : Nat → Nat} {b N : Nat} {xs : Nat → Int32} {μ : Mm} {k28 : Int32 → Mm → Option Unit} {kc ks n : Nat} {x5 : Int32} {r : Unit} (C : Cx Γ RL cL_law 9) (X : Ry Γ room_1) (Z : Zx Γ b N xs) (hkc : kc + 10 * (n + 1) ≤ 601024 ∧ ks + 60 * (n + 1) ≤ 7293034) (hk28 : ∀ (x5 : Int32) (ν : Mm) (kc2 ks2 : Nat), kc2 ≤ kc + 10 → ks2 ≤ ks + 60 → k28 x5 ν = some r → G Γ ad layL 9 ν 28 [(0, .ref b), (1, .ref (ad 0)), (2, .ref (ad 157)), (3, .ref (ad 170)), (4, .ref (ad 171)), (5, .int x5)] [] kc2 ks2) (h : b_L_law_2760 N xs μ k28 x5 = some r) : G Γ ad layL 9 μ 2760 [(0, .ref b), (1, .ref (ad 0)), (2, .ref (ad 157)), (3, .ref (ad 170)), (4, .ref (ad 171)), (5, .int x5)] [] kc ks := by
  unfold b_L_law_2760 at h
  refine g_aload_n C dL_law_2760 1 rfl ?_
  refine g_aload_n C dL_law_2761 0 rfl ?_
  refine g_iload C dL_law_2762 5 rfl ?_
  refine g_iconst C dL_law_2764 iv_1 ?_
  refine g_iadd C dL_law_2765 ?_
  obtain ⟨hz2766, h⟩ := i_n h
  refine g_scr Z C hz2766 dL_law_2766 ?_
  refine g_aload_n C dL_law_2767 0 rfl ?_
  refine g_iload C dL_law_2768 5 rfl ?_
  refine g_iconst C dL_law_2770 iv_2 ?_
  refine g_iadd C dL_law_2771 ?_
  obtain ⟨hz2772, h⟩ := i_n h
  refine g_scr Z C hz2772 dL_law_2772 ?_
  refine g_aload_n C dL_law_2773 3 rfl ?_
  obtain ⟨q2774, hq2774, h⟩ := i_b h
  have hc2774 := c_L_measure (ad := ad) (sd := gsd Γ) (ry_tr X) hq2774
  refine g_callSxy [.ref (ad 0), .int (xs (Int32.toNatClampNeg (x5 + 1))), .int (xs (Int32.toNatClampNeg (x5 + 2))), .ref (ad 170)] [] C X k_RL_323 hc2774 (by decide) (by first | (constructor <;> (simp only [rm_L_measure, room_1]; omega)) | omega) rfl (Nat.le_of_ble_eq_true rfl) rfl dL_law_2774 (stk2 := [.int q2774.1]) rfl rfl rfl ?_
  refine g_istore (L' := [(6, .int q2774.1), (0, .ref b), (1, .ref (ad 0)), (2, .ref (ad 157)), (3, .ref (ad 170)), (4, .ref (ad 171)), (5, .int x5)]) C dL_law_2777 (by decide) rfl ?_
  refine g_aload_n C dL_law_2779 3 rfl ?_
  refine g_aload_n C dL_law_2780 1 rfl ?_
  refine g_iload C dL_law_2781 6 rfl ?_
  refine g_iconst C dL_law_2783 iv_1 ?_
  refine g_iadd C dL_law_2784 ?_
  obtain ⟨hz2785, h⟩ := i_n h
  refine g_scr Z C hz2785 dL_law_2785 ?_
  refine g_aload_n C dL_law_2786 1 rfl ?_
  refine g_iload C dL_law_2787 6 rfl ?_
  refine g_iconst C dL_law_2789 iv_2 ?_
  refine g_iadd C dL_law_2790 ?_
  obtain ⟨hz2791, h⟩ := i_n h
  refine g_scr Z C hz2791 dL_law_2791 ?_
  obtain ⟨q2792, hq2792, h⟩ := i_b h
  have hc2792 := c_X10_measure (ad := ad) (sd := gsd Γ) (ry_tr X) hq2792
  refine g_callVny [.int (xs (Int32.toNatClampNeg (x5 + 1))), .int (xs (Int32.toNatClampNeg (x5 + 2)))] [] C X k_RL_325 hc2792 ly_157 rfl (by decide) (by first | (constructor <;> (simp only [rm_X10_measure, room_1]; omega)) | omega) rfl (Nat.le_of_ble_eq_true rfl) rfl dL_law_2792 (stk2 := [.int q2792.1]) rfl rfl rfl ?_
  refine g_istore (L' := [(7, .int q2792.1), (6, .int q2774.1), (0, .ref b), (1, .ref (ad 0)), (2, .ref (ad 157)), (3, .ref (ad 170)), (4, .ref (ad 171)), (5, .int x5)]) C dL_law_2795 (by decide) rfl ?_
  refine g_aload_n C dL_law_2797 4 rfl ?_
  obtain ⟨q2798, hq2798, h⟩ := i_b h
  have hc2798 := c_X10_thrown (ad := ad) (sd := gsd Γ) (ry_tr X) hq2798
  refine g_callVny [] [] C X k_RL_203 hc2798 ly_157 rfl (by decide) (by first | (constructor <;> (simp only [rm_X10_thrown, room_1]; omega)) | omega) rfl (Nat.le_of_ble_eq_true rfl) rfl dL_law_2798 (stk2 := [.int q2798]) rfl rfl rfl ?_
  refine g_iload C dL_law_2801 1 rfl ?_
  refine g_icmp_eq (tgt := 2808) C dL_law_2803 (by decide) (fun c => ?_) (fun c => ?_)
  · replace h := i_t c h
    refine g_iload C dL_law_2808 1 rfl ?_
    refine g_if_ne (tgt := 2825) C dL_law_2810 (by decide) (fun c => ?_) (fun c => ?_)
    · replace h := i_f c h
      refine g_sub (L' := [(0, .ref b), (1, .ref (ad 0)), (2, .ref (ad 157)), (3, .ref (ad 170)), (4, .ref (ad 171)), (5, .int x5)]) [2, 3, 4, 5, 6, 7] rfl ?_
      exact g_L_law_2825  C X Z hkc hk28 h
    · replace h := i_t c h
      refine g_aload_n C dL_law_2813 5 rfl ?_
      refine g_iconst C dL_law_2814 iv_0 ?_
      obtain ⟨hz2815, h⟩ := i_n h
      refine g_lald C ly_170 hz2815 dL_law_2815 ?_
      refine g_iload C dL_law_2816 0 rfl ?_
      refine g_i2l C dL_law_2818 ?_
      refine g_lcmp C dL_law_2819 ?_
      refine g_if_eq (tgt := 2825) C dL_law_2820 (by decide) (fun c => ?_) (fun c => ?_)
      · replace h := i_t c h
        refine g_sub (L' := [(0, .ref b), (1, .ref (ad 0)), (2, .ref (ad 157)), (3, .ref (ad 170)), (4, .ref (ad 171)), (5, .int x5)]) [2, 3, 4, 5, 6, 7] rfl ?_
        exact g_L_law_2825  C X Z hkc hk28 h
      · replace h := i_f c h
        refine g_iconst C dL_law_2823 iv_0 ?_
        cases h
  · replace h := i_f c h
    refine g_iconst C dL_law_2806 iv_0 ?_
    cases h
set_option maxHeartbeats 4000000 in
set_option maxRecDepth 100000 in
theorem g_L_law_2943 {Γ : ΓT} {ad : Nat → Nat} {b N : Nat} {xs : Nat → Int32} {μ : Mm} {k28 : Int32 → Mm → Option Unit} {kc ks n : Nat} {x5 : Int32} {r : Unit} (C : Cx Γ RL cL_law 9) (X : Ry Γ room_1) (Z : Zx Γ b N xs) (hkc : kc + 10 * (n + 1) ≤ 601024 ∧ ks + 60 * (n + 1) ≤ 7293034) (hk28 : ∀ (x5 : Int32) (ν : Mm) (kc2 ks2 : Nat), kc2 ≤ kc + 10 → ks2 ≤ ks + 60 → k28 x5 ν = some r → G Γ ad layL 9 ν 28 [(0, .ref b), (1, .ref (ad 0)), (2, .ref (ad 157)), (3, .ref (ad 170)), (4, .ref (ad 171)), (5, .int x5)] [] kc2 ks2) (h : b_L_law_2943 N xs μ k28 x5 = some r) : G Γ ad layL 9 μ 2943 [(0, .ref b), (1, .ref (ad 0)), (2, .ref (ad 157)), (3, .ref (ad 170)), (4, .ref (ad 171)), (5, .int x5)] [] (kc + 8) (ks + 48) := by
  unfold b_L_law_2943 at h
  refine g_goto (tgt := 3616) C dL_law_2943 (by decide) ?_
  exact g_L_law_3616  C X Z hkc hk28 h
set_option maxHeartbeats 4000000 in
set_option maxRecDepth 100000 in
theorem g_L_law_2828 {Γ : ΓT} {ad : Nat → Nat} {b N : Nat} {xs : Nat → Int32} {μ : Mm} {k28 : Int32 → Mm → Option Unit} {kc ks n : Nat} {x5 : Int32} {r : Unit} (C : Cx Γ RL cL_law 9) (X : Ry Γ room_1) (Z : Zx Γ b N xs) (hkc : kc + 10 * (n + 1) ≤ 601024 ∧ ks + 60 * (n + 1) ≤ 7293034) (hk28 : ∀ (x5 : Int32) (ν : Mm) (kc2 ks2 : Nat), kc2 ≤ kc + 10 → ks2 ≤ ks + 60 → k28 x5 ν = some r → G Γ ad layL 9 ν 28 [(0, .ref b), (1, .ref (ad 0)), (2, .ref (ad 157)), (3, .ref (ad 170)), (4, .ref (ad 171)), (5, .int x5)] [] kc2 ks2) (h : b_L_law_2828 N xs μ k28 x5 = some r) : G Γ ad layL 9 μ 2828 [(0, .ref b), (1, .ref (ad 0)), (2, .ref (ad 157)), (3, .ref (ad 170)), (4, .ref (ad 171)), (5, .int x5)] [] kc ks := by
  unfold b_L_law_2828 at h
  refine g_aload_n C dL_law_2828 1 rfl ?_
  refine g_aload_n C dL_law_2829 0 rfl ?_
  refine g_iload C dL_law_2830 5 rfl ?_
  refine g_iconst C dL_law_2832 iv_1 ?_
  refine g_iadd C dL_law_2833 ?_
  obtain ⟨hz2834, h⟩ := i_n h
  refine g_scr Z C hz2834 dL_law_2834 ?_
  refine g_aload_n C dL_law_2835 0 rfl ?_
  refine g_iload C dL_law_2836 5 rfl ?_
  refine g_iconst C dL_law_2838 iv_2 ?_
  refine g_iadd C dL_law_2839 ?_
  obtain ⟨hz2840, h⟩ := i_n h
  refine g_scr Z C hz2840 dL_law_2840 ?_
  refine g_aload_n C dL_law_2841 0 rfl ?_
  refine g_iload C dL_law_2842 5 rfl ?_
  refine g_iconst C dL_law_2844 iv_3 ?_
  refine g_iadd C dL_law_2845 ?_
  obtain ⟨hz2846, h⟩ := i_n h
  refine g_scr Z C hz2846 dL_law_2846 ?_
  refine g_aload_n C dL_law_2847 0 rfl ?_
  refine g_iload C dL_law_2848 5 rfl ?_
  refine g_iconst C dL_law_2850 iv_4 ?_
  refine g_iadd C dL_law_2851 ?_
  obtain ⟨hz2852, h⟩ := i_n h
  refine g_scr Z C hz2852 dL_law_2852 ?_
  refine g_aload_n C dL_law_2853 0 rfl ?_
  refine g_iload C dL_law_2854 5 rfl ?_
  refine g_iconst C dL_law_2856 iv_5 ?_
  refine g_iadd C dL_law_2857 ?_
  obtain ⟨hz2858, h⟩ := i_n h
  refine g_scr Z C hz2858 dL_law_2858 ?_
  refine g_aload_n C dL_law_2859 0 rfl ?_
  refine g_iload C dL_law_2860 5 rfl ?_
  refine g_bipush C dL_law_2862 bv_6 ?_
  refine g_iadd C dL_law_2864 ?_
  obtain ⟨hz2865, h⟩ := i_n h
  refine g_scr Z C hz2865 dL_law_2865 ?_
  refine g_aload_n C dL_law_2866 3 rfl ?_
  obtain ⟨q2867, hq2867, h⟩ := i_b h
  have hc2867 := c_L_addLoad (ad := ad) (sd := gsd Γ) (ry_tr X) hq2867
  refine g_callSxy [.ref (ad 0), .int (xs (Int32.toNatClampNeg (x5 + 1))), .int (xs (Int32.toNatClampNeg (x5 + 2))), .int (xs (Int32.toNatClampNeg (x5 + 3))), .int (xs (Int32.toNatClampNeg (x5 + 4))), .int (xs (Int32.toNatClampNeg (x5 + 5))), .int (xs (Int32.toNatClampNeg (x5 + 6))), .ref (ad 170)] [] C X k_RL_326 hc2867 (by decide) (by first | (constructor <;> (simp only [rm_L_addLoad, room_1]; omega)) | omega) rfl (Nat.le_of_ble_eq_true rfl) rfl dL_law_2867 (stk2 := [.int q2867.1]) rfl rfl rfl ?_
  refine g_istore (L' := [(6, .int q2867.1), (0, .ref b), (1, .ref (ad 0)), (2, .ref (ad 157)), (3, .ref (ad 170)), (4, .ref (ad 171)), (5, .int x5)]) C dL_law_2870 (by decide) rfl ?_
  refine g_aload_n C dL_law_2872 3 rfl ?_
  refine g_aload_n C dL_law_2873 1 rfl ?_
  refine g_iload C dL_law_2874 6 rfl ?_
  refine g_iconst C dL_law_2876 iv_1 ?_
  refine g_iadd C dL_law_2877 ?_
  obtain ⟨hz2878, h⟩ := i_n h
  refine g_scr Z C hz2878 dL_law_2878 ?_
  refine g_aload_n C dL_law_2879 1 rfl ?_
  refine g_iload C dL_law_2880 6 rfl ?_
  refine g_iconst C dL_law_2882 iv_2 ?_
  refine g_iadd C dL_law_2883 ?_
  obtain ⟨hz2884, h⟩ := i_n h
  refine g_scr Z C hz2884 dL_law_2884 ?_
  refine g_aload_n C dL_law_2885 1 rfl ?_
  refine g_iload C dL_law_2886 6 rfl ?_
  refine g_iconst C dL_law_2888 iv_3 ?_
  refine g_iadd C dL_law_2889 ?_
  obtain ⟨hz2890, h⟩ := i_n h
  refine g_scr Z C hz2890 dL_law_2890 ?_
  refine g_aload_n C dL_law_2891 1 rfl ?_
  refine g_iload C dL_law_2892 6 rfl ?_
  refine g_iconst C dL_law_2894 iv_4 ?_
  refine g_iadd C dL_law_2895 ?_
  obtain ⟨hz2896, h⟩ := i_n h
  refine g_scr Z C hz2896 dL_law_2896 ?_
  refine g_aload_n C dL_law_2897 1 rfl ?_
  refine g_iload C dL_law_2898 6 rfl ?_
  refine g_iconst C dL_law_2900 iv_5 ?_
  refine g_iadd C dL_law_2901 ?_
  obtain ⟨hz2902, h⟩ := i_n h
  refine g_scr Z C hz2902 dL_law_2902 ?_
  refine g_aload_n C dL_law_2903 1 rfl ?_
  refine g_iload C dL_law_2904 6 rfl ?_
  refine g_bipush C dL_law_2906 bv_6 ?_
  refine g_iadd C dL_law_2908 ?_
  obtain ⟨hz2909, h⟩ := i_n h
  refine g_scr Z C hz2909 dL_law_2909 ?_
  obtain ⟨q2910, hq2910, h⟩ := i_b h
  have hc2910 := c_X10_addLoad (ad := ad) (sd := gsd Γ) (ry_tr X) hq2910
  refine g_callVny [.int (xs (Int32.toNatClampNeg (x5 + 1))), .int (xs (Int32.toNatClampNeg (x5 + 2))), .int (xs (Int32.toNatClampNeg (x5 + 3))), .int (xs (Int32.toNatClampNeg (x5 + 4))), .int (xs (Int32.toNatClampNeg (x5 + 5))), .int (xs (Int32.toNatClampNeg (x5 + 6)))] [] C X k_RL_329 hc2910 ly_157 rfl (by decide) (by first | (constructor <;> (simp only [rm_X10_addLoad, room_1]; omega)) | omega) rfl (Nat.le_of_ble_eq_true rfl) rfl dL_law_2910 (stk2 := [.int q2910.1]) rfl rfl rfl ?_
  refine g_istore (L' := [(7, .int q2910.1), (6, .int q2867.1), (0, .ref b), (1, .ref (ad 0)), (2, .ref (ad 157)), (3, .ref (ad 170)), (4, .ref (ad 171)), (5, .int x5)]) C dL_law_2913 (by decide) rfl ?_
  refine g_aload_n C dL_law_2915 4 rfl ?_
  obtain ⟨q2916, hq2916, h⟩ := i_b h
  have hc2916 := c_X10_thrown (ad := ad) (sd := gsd Γ) (ry_tr X) hq2916
  refine g_callVny [] [] C X k_RL_203 hc2916 ly_157 rfl (by decide) (by first | (constructor <;> (simp only [rm_X10_thrown, room_1]; omega)) | omega) rfl (Nat.le_of_ble_eq_true rfl) rfl dL_law_2916 (stk2 := [.int q2916]) rfl rfl rfl ?_
  refine g_iload C dL_law_2919 1 rfl ?_
  refine g_icmp_eq (tgt := 2926) C dL_law_2921 (by decide) (fun c => ?_) (fun c => ?_)
  · replace h := i_t c h
    refine g_iload C dL_law_2926 1 rfl ?_
    refine g_if_ne (tgt := 2943) C dL_law_2928 (by decide) (fun c => ?_) (fun c => ?_)
    · replace h := i_f c h
      refine g_sub (L' := [(0, .ref b), (1, .ref (ad 0)), (2, .ref (ad 157)), (3, .ref (ad 170)), (4, .ref (ad 171)), (5, .int x5)]) [2, 3, 4, 5, 6, 7] rfl ?_
      exact g_L_law_2943  C X Z hkc hk28 h
    · replace h := i_t c h
      refine g_aload_n C dL_law_2931 5 rfl ?_
      refine g_iconst C dL_law_2932 iv_0 ?_
      obtain ⟨hz2933, h⟩ := i_n h
      refine g_lald C ly_170 hz2933 dL_law_2933 ?_
      refine g_iload C dL_law_2934 0 rfl ?_
      refine g_i2l C dL_law_2936 ?_
      refine g_lcmp C dL_law_2937 ?_
      refine g_if_eq (tgt := 2943) C dL_law_2938 (by decide) (fun c => ?_) (fun c => ?_)
      · replace h := i_t c h
        refine g_sub (L' := [(0, .ref b), (1, .ref (ad 0)), (2, .ref (ad 157)), (3, .ref (ad 170)), (4, .ref (ad 171)), (5, .int x5)]) [2, 3, 4, 5, 6, 7] rfl ?_
        exact g_L_law_2943  C X Z hkc hk28 h
      · replace h := i_f c h
        refine g_iconst C dL_law_2941 iv_0 ?_
        cases h
  · replace h := i_f c h
    refine g_iconst C dL_law_2924 iv_0 ?_
    cases h
set_option maxHeartbeats 4000000 in
set_option maxRecDepth 100000 in
theorem g_L_law_2999 {Γ : ΓT} {ad : Nat → Nat} {b N : Nat} {xs : Nat → Int32} {μ : Mm} {k28 : Int32 → Mm → Option Unit} {kc ks n : Nat} {x5 : Int32} {r : Unit} (C : Cx Γ RL cL_law 9) (X : Ry Γ room_1) (Z : Zx Γ b N xs) (hkc : kc + 10 * (n + 1) ≤ 601024 ∧ ks + 60 * (n + 1) ≤ 7293034) (hk28 : ∀ (x5 : Int32) (ν : Mm) (kc2 ks2 : Nat), kc2 ≤ kc + 10 → ks2 ≤ ks + 60 → k28 x5 ν = some r → G Γ ad layL 9 ν 28 [(0, .ref b), (1, .ref (ad 0)), (2, .ref (ad 157)), (3, .ref (ad 170)), (4, .ref (ad 171)), (5, .int x5)] [] kc2 ks2) (h : b_L_law_2999 N xs μ k28 x5 = some r) : G Γ ad layL 9 μ 2999 [(0, .ref b), (1, .ref (ad 0)), (2, .ref (ad 157)), (3, .ref (ad 170)), (4, .ref (ad 171)), (5, .int x5)] [] (kc + 1) (ks + 6) := by
  unfold b_L_law_2999 at h
  refine g_goto (tgt := 3616) C dL_law_2999 (by decide) ?_
  refine g_wid (kc' := (kc + 8)) (ks' := (ks + 48)) (by omega) (by omega) ?_
  exact g_L_law_3616  C X Z hkc hk28 h
set_option maxHeartbeats 4000000 in
set_option maxRecDepth 100000 in
theorem g_L_law_2946 {Γ : ΓT} {ad : Nat → Nat} {b N : Nat} {xs : Nat → Int32} {μ : Mm} {k28 : Int32 → Mm → Option Unit} {kc ks n : Nat} {x5 : Int32} {r : Unit} (C : Cx Γ RL cL_law 9) (X : Ry Γ room_1) (Z : Zx Γ b N xs) (hkc : kc + 10 * (n + 1) ≤ 601024 ∧ ks + 60 * (n + 1) ≤ 7293034) (hk28 : ∀ (x5 : Int32) (ν : Mm) (kc2 ks2 : Nat), kc2 ≤ kc + 10 → ks2 ≤ ks + 60 → k28 x5 ν = some r → G Γ ad layL 9 ν 28 [(0, .ref b), (1, .ref (ad 0)), (2, .ref (ad 157)), (3, .ref (ad 170)), (4, .ref (ad 171)), (5, .int x5)] [] kc2 ks2) (h : b_L_law_2946 N xs μ k28 x5 = some r) : G Γ ad layL 9 μ 2946 [(0, .ref b), (1, .ref (ad 0)), (2, .ref (ad 157)), (3, .ref (ad 170)), (4, .ref (ad 171)), (5, .int x5)] [] kc ks := by
  unfold b_L_law_2946 at h
  refine g_aload_n C dL_law_2946 1 rfl ?_
  refine g_aload_n C dL_law_2947 0 rfl ?_
  refine g_iload C dL_law_2948 5 rfl ?_
  refine g_iconst C dL_law_2950 iv_1 ?_
  refine g_iadd C dL_law_2951 ?_
  obtain ⟨hz2952, h⟩ := i_n h
  refine g_scr Z C hz2952 dL_law_2952 ?_
  refine g_aload_n C dL_law_2953 3 rfl ?_
  obtain ⟨q2954, hq2954, h⟩ := i_b h
  have hc2954 := c_L_removeLoad (ad := ad) (sd := gsd Γ) (ry_tr X) hq2954
  refine g_callSxy [.ref (ad 0), .int (xs (Int32.toNatClampNeg (x5 + 1))), .ref (ad 170)] [] C X k_RL_330 hc2954 (by decide) (by first | (constructor <;> (simp only [rm_L_removeLoad, room_1]; omega)) | omega) rfl (Nat.le_of_ble_eq_true rfl) rfl dL_law_2954 (stk2 := [.int q2954.1]) rfl rfl rfl ?_
  refine g_istore (L' := [(6, .int q2954.1), (0, .ref b), (1, .ref (ad 0)), (2, .ref (ad 157)), (3, .ref (ad 170)), (4, .ref (ad 171)), (5, .int x5)]) C dL_law_2957 (by decide) rfl ?_
  refine g_aload_n C dL_law_2959 3 rfl ?_
  refine g_aload_n C dL_law_2960 1 rfl ?_
  refine g_iload C dL_law_2961 6 rfl ?_
  refine g_iconst C dL_law_2963 iv_1 ?_
  refine g_iadd C dL_law_2964 ?_
  obtain ⟨hz2965, h⟩ := i_n h
  refine g_scr Z C hz2965 dL_law_2965 ?_
  obtain ⟨q2966, hq2966, h⟩ := i_b h
  have hc2966 := c_X10_removeLoad (ad := ad) (sd := gsd Γ) (ry_tr X) hq2966
  refine g_callVny [.int (xs (Int32.toNatClampNeg (x5 + 1)))] [] C X k_RL_332 hc2966 ly_157 rfl (by decide) (by first | (constructor <;> (simp only [rm_X10_removeLoad, room_1]; omega)) | omega) rfl (Nat.le_of_ble_eq_true rfl) rfl dL_law_2966 (stk2 := [.int q2966.1]) rfl rfl rfl ?_
  refine g_istore (L' := [(7, .int q2966.1), (6, .int q2954.1), (0, .ref b), (1, .ref (ad 0)), (2, .ref (ad 157)), (3, .ref (ad 170)), (4, .ref (ad 171)), (5, .int x5)]) C dL_law_2969 (by decide) rfl ?_
  refine g_aload_n C dL_law_2971 4 rfl ?_
  obtain ⟨q2972, hq2972, h⟩ := i_b h
  have hc2972 := c_X10_thrown (ad := ad) (sd := gsd Γ) (ry_tr X) hq2972
  refine g_callVny [] [] C X k_RL_203 hc2972 ly_157 rfl (by decide) (by first | (constructor <;> (simp only [rm_X10_thrown, room_1]; omega)) | omega) rfl (Nat.le_of_ble_eq_true rfl) rfl dL_law_2972 (stk2 := [.int q2972]) rfl rfl rfl ?_
  refine g_iload C dL_law_2975 1 rfl ?_
  refine g_icmp_eq (tgt := 2982) C dL_law_2977 (by decide) (fun c => ?_) (fun c => ?_)
  · replace h := i_t c h
    refine g_iload C dL_law_2982 1 rfl ?_
    refine g_if_ne (tgt := 2999) C dL_law_2984 (by decide) (fun c => ?_) (fun c => ?_)
    · replace h := i_f c h
      refine g_sub (L' := [(0, .ref b), (1, .ref (ad 0)), (2, .ref (ad 157)), (3, .ref (ad 170)), (4, .ref (ad 171)), (5, .int x5)]) [2, 3, 4, 5, 6, 7] rfl ?_
      exact g_L_law_2999  C X Z hkc hk28 h
    · replace h := i_t c h
      refine g_aload_n C dL_law_2987 5 rfl ?_
      refine g_iconst C dL_law_2988 iv_0 ?_
      obtain ⟨hz2989, h⟩ := i_n h
      refine g_lald C ly_170 hz2989 dL_law_2989 ?_
      refine g_iload C dL_law_2990 0 rfl ?_
      refine g_i2l C dL_law_2992 ?_
      refine g_lcmp C dL_law_2993 ?_
      refine g_if_eq (tgt := 2999) C dL_law_2994 (by decide) (fun c => ?_) (fun c => ?_)
      · replace h := i_t c h
        refine g_sub (L' := [(0, .ref b), (1, .ref (ad 0)), (2, .ref (ad 157)), (3, .ref (ad 170)), (4, .ref (ad 171)), (5, .int x5)]) [2, 3, 4, 5, 6, 7] rfl ?_
        exact g_L_law_2999  C X Z hkc hk28 h
      · replace h := i_f c h
        refine g_iconst C dL_law_2997 iv_0 ?_
        cases h
  · replace h := i_f c h
    refine g_iconst C dL_law_2980 iv_0 ?_
    cases h
set_option maxHeartbeats 4000000 in
set_option maxRecDepth 100000 in
theorem g_L_law_3067 {Γ : ΓT} {ad : Nat → Nat} {b N : Nat} {xs : Nat → Int32} {μ : Mm} {k28 : Int32 → Mm → Option Unit} {kc ks n : Nat} {x5 : Int32} {r : Unit} (C : Cx Γ RL cL_law 9) (X : Ry Γ room_1) (Z : Zx Γ b N xs) (hkc : kc + 10 * (n + 1) ≤ 601024 ∧ ks + 60 * (n + 1) ≤ 7293034) (hk28 : ∀ (x5 : Int32) (ν : Mm) (kc2 ks2 : Nat), kc2 ≤ kc + 10 → ks2 ≤ ks + 60 → k28 x5 ν = some r → G Γ ad layL 9 ν 28 [(0, .ref b), (1, .ref (ad 0)), (2, .ref (ad 157)), (3, .ref (ad 170)), (4, .ref (ad 171)), (5, .int x5)] [] kc2 ks2) (h : b_L_law_3067 N xs μ k28 x5 = some r) : G Γ ad layL 9 μ 3067 [(0, .ref b), (1, .ref (ad 0)), (2, .ref (ad 157)), (3, .ref (ad 170)), (4, .ref (ad 171)), (5, .int x5)] [] (kc + 2) (ks + 12) := by
  unfold b_L_law_3067 at h
  refine g_goto (tgt := 3616) C dL_law_3067 (by decide) ?_
  refine g_wid (kc' := (kc + 8)) (ks' := (ks + 48)) (by omega) (by omega) ?_
  exact g_L_law_3616  C X Z hkc hk28 h
set_option maxHeartbeats 4000000 in
set_option maxRecDepth 100000 in
theorem g_L_law_3002 {Γ : ΓT} {ad : Nat → Nat} {b N : Nat} {xs : Nat → Int32} {μ : Mm} {k28 : Int32 → Mm → Option Unit} {kc ks n : Nat} {x5 : Int32} {r : Unit} (C : Cx Γ RL cL_law 9) (X : Ry Γ room_1) (Z : Zx Γ b N xs) (hkc : kc + 10 * (n + 1) ≤ 601024 ∧ ks + 60 * (n + 1) ≤ 7293034) (hk28 : ∀ (x5 : Int32) (ν : Mm) (kc2 ks2 : Nat), kc2 ≤ kc + 10 → ks2 ≤ ks + 60 → k28 x5 ν = some r → G Γ ad layL 9 ν 28 [(0, .ref b), (1, .ref (ad 0)), (2, .ref (ad 157)), (3, .ref (ad 170)), (4, .ref (ad 171)), (5, .int x5)] [] kc2 ks2) (h : b_L_law_3002 N xs μ k28 x5 = some r) : G Γ ad layL 9 μ 3002 [(0, .ref b), (1, .ref (ad 0)), (2, .ref (ad 157)), (3, .ref (ad 170)), (4, .ref (ad 171)), (5, .int x5)] [] kc ks := by
  unfold b_L_law_3002 at h
  refine g_aload_n C dL_law_3002 1 rfl ?_
  refine g_aload_n C dL_law_3003 0 rfl ?_
  refine g_iload C dL_law_3004 5 rfl ?_
  refine g_iconst C dL_law_3006 iv_1 ?_
  refine g_iadd C dL_law_3007 ?_
  obtain ⟨hz3008, h⟩ := i_n h
  refine g_scr Z C hz3008 dL_law_3008 ?_
  refine g_aload_n C dL_law_3009 0 rfl ?_
  refine g_iload C dL_law_3010 5 rfl ?_
  refine g_iconst C dL_law_3012 iv_2 ?_
  refine g_iadd C dL_law_3013 ?_
  obtain ⟨hz3014, h⟩ := i_n h
  refine g_scr Z C hz3014 dL_law_3014 ?_
  refine g_aload_n C dL_law_3015 3 rfl ?_
  obtain ⟨q3016, hq3016, h⟩ := i_b h
  have hc3016 := c_L_setCount (ad := ad) (sd := gsd Γ) (ry_tr X) hq3016
  refine g_callSxy [.ref (ad 0), .int (xs (Int32.toNatClampNeg (x5 + 1))), .int (xs (Int32.toNatClampNeg (x5 + 2))), .ref (ad 170)] [] C X k_RL_333 hc3016 (by decide) (by first | (constructor <;> (simp only [rm_L_setCount, room_1]; omega)) | omega) rfl (Nat.le_of_ble_eq_true rfl) rfl dL_law_3016 (stk2 := [.int q3016.1]) rfl rfl rfl ?_
  refine g_istore (L' := [(6, .int q3016.1), (0, .ref b), (1, .ref (ad 0)), (2, .ref (ad 157)), (3, .ref (ad 170)), (4, .ref (ad 171)), (5, .int x5)]) C dL_law_3019 (by decide) rfl ?_
  refine g_aload_n C dL_law_3021 3 rfl ?_
  refine g_aload_n C dL_law_3022 1 rfl ?_
  refine g_iload C dL_law_3023 6 rfl ?_
  refine g_iconst C dL_law_3025 iv_1 ?_
  refine g_iadd C dL_law_3026 ?_
  obtain ⟨hz3027, h⟩ := i_n h
  refine g_scr Z C hz3027 dL_law_3027 ?_
  refine g_aload_n C dL_law_3028 1 rfl ?_
  refine g_iload C dL_law_3029 6 rfl ?_
  refine g_iconst C dL_law_3031 iv_2 ?_
  refine g_iadd C dL_law_3032 ?_
  obtain ⟨hz3033, h⟩ := i_n h
  refine g_scr Z C hz3033 dL_law_3033 ?_
  obtain ⟨q3034, hq3034, h⟩ := i_b h
  have hc3034 := c_X10_setCount (ad := ad) (sd := gsd Γ) (ry_tr X) hq3034
  refine g_callVny [.int (xs (Int32.toNatClampNeg (x5 + 1))), .int (xs (Int32.toNatClampNeg (x5 + 2)))] [] C X k_RL_335 hc3034 ly_157 rfl (by decide) (by first | (constructor <;> (simp only [rm_X10_setCount, room_1]; omega)) | omega) rfl (Nat.le_of_ble_eq_true rfl) rfl dL_law_3034 (stk2 := [.int q3034.1]) rfl rfl rfl ?_
  refine g_istore (L' := [(7, .int q3034.1), (6, .int q3016.1), (0, .ref b), (1, .ref (ad 0)), (2, .ref (ad 157)), (3, .ref (ad 170)), (4, .ref (ad 171)), (5, .int x5)]) C dL_law_3037 (by decide) rfl ?_
  refine g_aload_n C dL_law_3039 4 rfl ?_
  obtain ⟨q3040, hq3040, h⟩ := i_b h
  have hc3040 := c_X10_thrown (ad := ad) (sd := gsd Γ) (ry_tr X) hq3040
  refine g_callVny [] [] C X k_RL_203 hc3040 ly_157 rfl (by decide) (by first | (constructor <;> (simp only [rm_X10_thrown, room_1]; omega)) | omega) rfl (Nat.le_of_ble_eq_true rfl) rfl dL_law_3040 (stk2 := [.int q3040]) rfl rfl rfl ?_
  refine g_iload C dL_law_3043 1 rfl ?_
  refine g_icmp_eq (tgt := 3050) C dL_law_3045 (by decide) (fun c => ?_) (fun c => ?_)
  · replace h := i_t c h
    refine g_iload C dL_law_3050 1 rfl ?_
    refine g_if_ne (tgt := 3067) C dL_law_3052 (by decide) (fun c => ?_) (fun c => ?_)
    · replace h := i_f c h
      refine g_sub (L' := [(0, .ref b), (1, .ref (ad 0)), (2, .ref (ad 157)), (3, .ref (ad 170)), (4, .ref (ad 171)), (5, .int x5)]) [2, 3, 4, 5, 6, 7] rfl ?_
      exact g_L_law_3067  C X Z hkc hk28 h
    · replace h := i_t c h
      refine g_aload_n C dL_law_3055 5 rfl ?_
      refine g_iconst C dL_law_3056 iv_0 ?_
      obtain ⟨hz3057, h⟩ := i_n h
      refine g_lald C ly_170 hz3057 dL_law_3057 ?_
      refine g_iload C dL_law_3058 0 rfl ?_
      refine g_i2l C dL_law_3060 ?_
      refine g_lcmp C dL_law_3061 ?_
      refine g_if_eq (tgt := 3067) C dL_law_3062 (by decide) (fun c => ?_) (fun c => ?_)
      · replace h := i_t c h
        refine g_sub (L' := [(0, .ref b), (1, .ref (ad 0)), (2, .ref (ad 157)), (3, .ref (ad 170)), (4, .ref (ad 171)), (5, .int x5)]) [2, 3, 4, 5, 6, 7] rfl ?_
        exact g_L_law_3067  C X Z hkc hk28 h
      · replace h := i_f c h
        refine g_iconst C dL_law_3065 iv_0 ?_
        cases h
  · replace h := i_f c h
    refine g_iconst C dL_law_3048 iv_0 ?_
    cases h
set_option maxHeartbeats 4000000 in
set_option maxRecDepth 100000 in
theorem g_L_law_3158 {Γ : ΓT} {ad : Nat → Nat} {b N : Nat} {xs : Nat → Int32} {μ : Mm} {k28 : Int32 → Mm → Option Unit} {kc ks n : Nat} {x5 : Int32} {r : Unit} (C : Cx Γ RL cL_law 9) (X : Ry Γ room_1) (Z : Zx Γ b N xs) (hkc : kc + 10 * (n + 1) ≤ 601024 ∧ ks + 60 * (n + 1) ≤ 7293034) (hk28 : ∀ (x5 : Int32) (ν : Mm) (kc2 ks2 : Nat), kc2 ≤ kc + 10 → ks2 ≤ ks + 60 → k28 x5 ν = some r → G Γ ad layL 9 ν 28 [(0, .ref b), (1, .ref (ad 0)), (2, .ref (ad 157)), (3, .ref (ad 170)), (4, .ref (ad 171)), (5, .int x5)] [] kc2 ks2) (h : b_L_law_3158 N xs μ k28 x5 = some r) : G Γ ad layL 9 μ 3158 [(0, .ref b), (1, .ref (ad 0)), (2, .ref (ad 157)), (3, .ref (ad 170)), (4, .ref (ad 171)), (5, .int x5)] [] (kc + 1) (ks + 6) := by
  unfold b_L_law_3158 at h
  refine g_goto (tgt := 3616) C dL_law_3158 (by decide) ?_
  refine g_wid (kc' := (kc + 8)) (ks' := (ks + 48)) (by omega) (by omega) ?_
  exact g_L_law_3616  C X Z hkc hk28 h
set_option maxHeartbeats 4000000 in
set_option maxRecDepth 100000 in
theorem g_L_law_3152 {Γ : ΓT} {ad : Nat → Nat} {b N : Nat} {xs : Nat → Int32} {μ : Mm} {k28 : Int32 → Mm → Option Unit} {kc ks n : Nat} {x5 : Int32} {s0 : Int64} {s1 : Int64} {r : Unit} (C : Cx Γ RL cL_law 9) (X : Ry Γ room_1) (Z : Zx Γ b N xs) (hkc : kc + 10 * (n + 1) ≤ 601024 ∧ ks + 60 * (n + 1) ≤ 7293034) (hk28 : ∀ (x5 : Int32) (ν : Mm) (kc2 ks2 : Nat), kc2 ≤ kc + 10 → ks2 ≤ ks + 60 → k28 x5 ν = some r → G Γ ad layL 9 ν 28 [(0, .ref b), (1, .ref (ad 0)), (2, .ref (ad 157)), (3, .ref (ad 170)), (4, .ref (ad 171)), (5, .int x5)] [] kc2 ks2) (h : b_L_law_3152 N xs μ k28 x5 s0 s1 = some r) : G Γ ad layL 9 μ 3152 [(0, .ref b), (1, .ref (ad 0)), (2, .ref (ad 157)), (3, .ref (ad 170)), (4, .ref (ad 171)), (5, .int x5)] [.long s0, .long s1] (kc + 1) (ks + 6) := by
  unfold b_L_law_3152 at h
  refine g_lcmp C dL_law_3152 ?_
  refine g_if_eq (tgt := 3158) C dL_law_3153 (by decide) (fun c => ?_) (fun c => ?_)
  · replace h := i_t c h
    exact g_L_law_3158  C X Z hkc hk28 h
  · replace h := i_f c h
    refine g_iconst C dL_law_3156 iv_0 ?_
    cases h
set_option maxHeartbeats 4000000 in
set_option maxRecDepth 100000 in
theorem g_L_law_3118 {Γ : ΓT} {ad : Nat → Nat} {b N : Nat} {xs : Nat → Int32} {μ : Mm} {k28 : Int32 → Mm → Option Unit} {kc ks n : Nat} {x5 : Int32} {x6 : Int32} {s0 : Int32} {s1 : Int32} {r : Unit} (C : Cx Γ RL cL_law 9) (X : Ry Γ room_1) (Z : Zx Γ b N xs) (hkc : kc + 10 * (n + 1) ≤ 601024 ∧ ks + 60 * (n + 1) ≤ 7293034) (hk28 : ∀ (x5 : Int32) (ν : Mm) (kc2 ks2 : Nat), kc2 ≤ kc + 10 → ks2 ≤ ks + 60 → k28 x5 ν = some r → G Γ ad layL 9 ν 28 [(0, .ref b), (1, .ref (ad 0)), (2, .ref (ad 157)), (3, .ref (ad 170)), (4, .ref (ad 171)), (5, .int x5)] [] kc2 ks2) (h : b_L_law_3118 N xs μ k28 x5 x6 s0 s1 = some r) : G Γ ad layL 9 μ 3118 [(0, .ref b), (1, .ref (ad 0)), (2, .ref (ad 157)), (3, .ref (ad 170)), (4, .ref (ad 171)), (5, .int x5), (6, .int x6)] [.int s0, .int s1, .ref (ad 157)] (kc + 1) (ks + 6) := by
  unfold b_L_law_3118 at h
  obtain ⟨q3118, hq3118, h⟩ := i_b h
  have hc3118 := c_X10_close (ad := ad) (sd := gsd Γ) (ry_tr X) hq3118
  refine g_callVny [.int s1, .int s0] [] C X k_RL_339 hc3118 ly_157 rfl (by decide) (by first | (constructor <;> (simp only [rm_X10_close, room_1]; omega)) | omega) rfl (Nat.le_of_ble_eq_true rfl) rfl dL_law_3118 (stk2 := [.int q3118.1]) rfl rfl rfl ?_
  refine g_istore (L' := [(7, .int q3118.1), (0, .ref b), (1, .ref (ad 0)), (2, .ref (ad 157)), (3, .ref (ad 170)), (4, .ref (ad 171)), (5, .int x5), (6, .int x6)]) C dL_law_3121 (by decide) rfl ?_
  refine g_aload_n C dL_law_3123 3 rfl ?_
  obtain ⟨q3124, hq3124, h⟩ := i_b h
  have hc3124 := c_X10_thrown (ad := ad) (sd := gsd Γ) (ry_tr X) hq3124
  refine g_callVny [] [] C X k_RL_203 hc3124 ly_157 rfl (by decide) (by first | (constructor <;> (simp only [rm_X10_thrown, room_1]; omega)) | omega) rfl (Nat.le_of_ble_eq_true rfl) rfl dL_law_3124 (stk2 := [.int q3124]) rfl rfl rfl ?_
  refine g_iload C dL_law_3127 7 rfl ?_
  refine g_icmp_eq (tgt := 3134) C dL_law_3129 (by decide) (fun c => ?_) (fun c => ?_)
  · replace h := i_t c h
    refine g_iload C dL_law_3134 7 rfl ?_
    refine g_if_ne (tgt := 3158) C dL_law_3136 (by decide) (fun c => ?_) (fun c => ?_)
    · replace h := i_f c h
      refine g_sub (L' := [(0, .ref b), (1, .ref (ad 0)), (2, .ref (ad 157)), (3, .ref (ad 170)), (4, .ref (ad 171)), (5, .int x5)]) [1, 2, 3, 4, 5, 6] rfl ?_
      exact g_L_law_3158  C X Z hkc hk28 h
    · replace h := i_t c h
      refine g_aload_n C dL_law_3139 4 rfl ?_
      refine g_iconst C dL_law_3140 iv_0 ?_
      obtain ⟨hz3141, h⟩ := i_n h
      refine g_lald C ly_170 hz3141 dL_law_3141 ?_
      refine g_iload C dL_law_3142 0 rfl ?_
      refine g_if_eq (tgt := 3151) C dL_law_3144 (by decide) (fun c => ?_) (fun c => ?_)
      · replace h := i_t c h
        refine g_lconst (v := 0) C dL_law_3151 rfl ?_
        refine g_sub (L' := [(0, .ref b), (1, .ref (ad 0)), (2, .ref (ad 157)), (3, .ref (ad 170)), (4, .ref (ad 171)), (5, .int x5)]) [1, 2, 3, 4, 5, 6] rfl ?_
        exact g_L_law_3152  C X Z hkc hk28 h
      · replace h := i_f c h
        refine g_lconst (v := 1) C dL_law_3147 rfl ?_
        refine g_goto (tgt := 3152) C dL_law_3148 (by decide) ?_
        refine g_sub (L' := [(0, .ref b), (1, .ref (ad 0)), (2, .ref (ad 157)), (3, .ref (ad 170)), (4, .ref (ad 171)), (5, .int x5)]) [1, 2, 3, 4, 5, 6] rfl ?_
        exact g_L_law_3152  C X Z hkc hk28 h
  · replace h := i_f c h
    refine g_iconst C dL_law_3132 iv_0 ?_
    cases h
set_option maxHeartbeats 4000000 in
set_option maxRecDepth 100000 in
theorem g_L_law_3091 {Γ : ΓT} {ad : Nat → Nat} {b N : Nat} {xs : Nat → Int32} {μ : Mm} {k28 : Int32 → Mm → Option Unit} {kc ks n : Nat} {x5 : Int32} {s0 : Int32} {s1 : Int32} {r : Unit} (C : Cx Γ RL cL_law 9) (X : Ry Γ room_1) (Z : Zx Γ b N xs) (hkc : kc + 10 * (n + 1) ≤ 601024 ∧ ks + 60 * (n + 1) ≤ 7293034) (hk28 : ∀ (x5 : Int32) (ν : Mm) (kc2 ks2 : Nat), kc2 ≤ kc + 10 → ks2 ≤ ks + 60 → k28 x5 ν = some r → G Γ ad layL 9 ν 28 [(0, .ref b), (1, .ref (ad 0)), (2, .ref (ad 157)), (3, .ref (ad 170)), (4, .ref (ad 171)), (5, .int x5)] [] kc2 ks2) (h : b_L_law_3091 N xs μ k28 x5 s0 s1 = some r) : G Γ ad layL 9 μ 3091 [(0, .ref b), (1, .ref (ad 0)), (2, .ref (ad 157)), (3, .ref (ad 170)), (4, .ref (ad 171)), (5, .int x5)] [.int s0, .int s1, .ref (ad 0)] kc ks := by
  unfold b_L_law_3091 at h
  refine g_aload_n C dL_law_3091 3 rfl ?_
  obtain ⟨q3092, hq3092, h⟩ := i_b h
  have hc3092 := c_L_close (ad := ad) (sd := gsd Γ) (ry_tr X) hq3092
  refine g_callSxy [.ref (ad 0), .int s1, .int s0, .ref (ad 170)] [] C X k_RL_336 hc3092 (by decide) (by first | (constructor <;> (simp only [rm_L_close, room_1]; omega)) | omega) rfl (Nat.le_of_ble_eq_true rfl) rfl dL_law_3092 (stk2 := [.int q3092.1]) rfl rfl rfl ?_
  refine g_istore (L' := [(6, .int q3092.1), (0, .ref b), (1, .ref (ad 0)), (2, .ref (ad 157)), (3, .ref (ad 170)), (4, .ref (ad 171)), (5, .int x5)]) C dL_law_3095 (by decide) rfl ?_
  refine g_aload_n C dL_law_3097 3 rfl ?_
  refine g_aload_n C dL_law_3098 1 rfl ?_
  refine g_iload C dL_law_3099 6 rfl ?_
  refine g_iconst C dL_law_3101 iv_1 ?_
  refine g_iadd C dL_law_3102 ?_
  obtain ⟨hz3103, h⟩ := i_n h
  refine g_scr Z C hz3103 dL_law_3103 ?_
  refine g_aload_n C dL_law_3104 1 rfl ?_
  refine g_iload C dL_law_3105 6 rfl ?_
  refine g_iconst C dL_law_3107 iv_2 ?_
  refine g_iadd C dL_law_3108 ?_
  obtain ⟨hz3109, h⟩ := i_n h
  refine g_scr Z C hz3109 dL_law_3109 ?_
  refine g_if_eq (tgt := 3117) C dL_law_3110 (by decide) (fun c => ?_) (fun c => ?_)
  · replace h := i_t c h
    refine g_iconst C dL_law_3117 iv_0 ?_
    refine g_sub (L' := [(0, .ref b), (1, .ref (ad 0)), (2, .ref (ad 157)), (3, .ref (ad 170)), (4, .ref (ad 171)), (5, .int x5), (6, .int q3092.1)]) [1, 2, 3, 4, 5, 6, 0] rfl ?_
    exact g_L_law_3118  C X Z hkc hk28 h
  · replace h := i_f c h
    refine g_iconst C dL_law_3113 iv_1 ?_
    refine g_goto (tgt := 3118) C dL_law_3114 (by decide) ?_
    refine g_sub (L' := [(0, .ref b), (1, .ref (ad 0)), (2, .ref (ad 157)), (3, .ref (ad 170)), (4, .ref (ad 171)), (5, .int x5), (6, .int q3092.1)]) [1, 2, 3, 4, 5, 6, 0] rfl ?_
    exact g_L_law_3118  C X Z hkc hk28 h
set_option maxHeartbeats 4000000 in
set_option maxRecDepth 100000 in
theorem g_L_law_3070 {Γ : ΓT} {ad : Nat → Nat} {b N : Nat} {xs : Nat → Int32} {μ : Mm} {k28 : Int32 → Mm → Option Unit} {kc ks n : Nat} {x5 : Int32} {r : Unit} (C : Cx Γ RL cL_law 9) (X : Ry Γ room_1) (Z : Zx Γ b N xs) (hkc : kc + 10 * (n + 1) ≤ 601024 ∧ ks + 60 * (n + 1) ≤ 7293034) (hk28 : ∀ (x5 : Int32) (ν : Mm) (kc2 ks2 : Nat), kc2 ≤ kc + 10 → ks2 ≤ ks + 60 → k28 x5 ν = some r → G Γ ad layL 9 ν 28 [(0, .ref b), (1, .ref (ad 0)), (2, .ref (ad 157)), (3, .ref (ad 170)), (4, .ref (ad 171)), (5, .int x5)] [] kc2 ks2) (h : b_L_law_3070 N xs μ k28 x5 = some r) : G Γ ad layL 9 μ 3070 [(0, .ref b), (1, .ref (ad 0)), (2, .ref (ad 157)), (3, .ref (ad 170)), (4, .ref (ad 171)), (5, .int x5)] [] kc ks := by
  unfold b_L_law_3070 at h
  refine g_aload_n C dL_law_3070 1 rfl ?_
  refine g_aload_n C dL_law_3071 0 rfl ?_
  refine g_iload C dL_law_3072 5 rfl ?_
  refine g_iconst C dL_law_3074 iv_1 ?_
  refine g_iadd C dL_law_3075 ?_
  obtain ⟨hz3076, h⟩ := i_n h
  refine g_scr Z C hz3076 dL_law_3076 ?_
  refine g_aload_n C dL_law_3077 0 rfl ?_
  refine g_iload C dL_law_3078 5 rfl ?_
  refine g_iconst C dL_law_3080 iv_2 ?_
  refine g_iadd C dL_law_3081 ?_
  obtain ⟨hz3082, h⟩ := i_n h
  refine g_scr Z C hz3082 dL_law_3082 ?_
  refine g_if_eq (tgt := 3090) C dL_law_3083 (by decide) (fun c => ?_) (fun c => ?_)
  · replace h := i_t c h
    refine g_iconst C dL_law_3090 iv_0 ?_
    exact g_L_law_3091  C X Z hkc hk28 h
  · replace h := i_f c h
    refine g_iconst C dL_law_3086 iv_1 ?_
    refine g_goto (tgt := 3091) C dL_law_3087 (by decide) ?_
    exact g_L_law_3091  C X Z hkc hk28 h
set_option maxHeartbeats 4000000 in
set_option maxRecDepth 100000 in
theorem g_L_law_3238 {Γ : ΓT} {ad : Nat → Nat} {b N : Nat} {xs : Nat → Int32} {μ : Mm} {k28 : Int32 → Mm → Option Unit} {kc ks n : Nat} {x5 : Int32} {r : Unit} (C : Cx Γ RL cL_law 9) (X : Ry Γ room_1) (Z : Zx Γ b N xs) (hkc : kc + 10 * (n + 1) ≤ 601024 ∧ ks + 60 * (n + 1) ≤ 7293034) (hk28 : ∀ (x5 : Int32) (ν : Mm) (kc2 ks2 : Nat), kc2 ≤ kc + 10 → ks2 ≤ ks + 60 → k28 x5 ν = some r → G Γ ad layL 9 ν 28 [(0, .ref b), (1, .ref (ad 0)), (2, .ref (ad 157)), (3, .ref (ad 170)), (4, .ref (ad 171)), (5, .int x5)] [] kc2 ks2) (h : b_L_law_3238 N xs μ k28 x5 = some r) : G Γ ad layL 9 μ 3238 [(0, .ref b), (1, .ref (ad 0)), (2, .ref (ad 157)), (3, .ref (ad 170)), (4, .ref (ad 171)), (5, .int x5)] [] (kc + 3) (ks + 18) := by
  unfold b_L_law_3238 at h
  refine g_goto (tgt := 3616) C dL_law_3238 (by decide) ?_
  refine g_wid (kc' := (kc + 8)) (ks' := (ks + 48)) (by omega) (by omega) ?_
  exact g_L_law_3616  C X Z hkc hk28 h
set_option maxHeartbeats 4000000 in
set_option maxRecDepth 100000 in
theorem g_L_law_3161 {Γ : ΓT} {ad : Nat → Nat} {b N : Nat} {xs : Nat → Int32} {μ : Mm} {k28 : Int32 → Mm → Option Unit} {kc ks n : Nat} {x5 : Int32} {r : Unit} (C : Cx Γ RL cL_law 9) (X : Ry Γ room_1) (Z : Zx Γ b N xs) (hkc : kc + 10 * (n + 1) ≤ 601024 ∧ ks + 60 * (n + 1) ≤ 7293034) (hk28 : ∀ (x5 : Int32) (ν : Mm) (kc2 ks2 : Nat), kc2 ≤ kc + 10 → ks2 ≤ ks + 60 → k28 x5 ν = some r → G Γ ad layL 9 ν 28 [(0, .ref b), (1, .ref (ad 0)), (2, .ref (ad 157)), (3, .ref (ad 170)), (4, .ref (ad 171)), (5, .int x5)] [] kc2 ks2) (h : b_L_law_3161 N xs μ k28 x5 = some r) : G Γ ad layL 9 μ 3161 [(0, .ref b), (1, .ref (ad 0)), (2, .ref (ad 157)), (3, .ref (ad 170)), (4, .ref (ad 171)), (5, .int x5)] [] kc ks := by
  unfold b_L_law_3161 at h
  refine g_aload_n C dL_law_3161 1 rfl ?_
  refine g_aload_n C dL_law_3162 0 rfl ?_
  refine g_iload C dL_law_3163 5 rfl ?_
  refine g_iconst C dL_law_3165 iv_1 ?_
  refine g_iadd C dL_law_3166 ?_
  obtain ⟨hz3167, h⟩ := i_n h
  refine g_scr Z C hz3167 dL_law_3167 ?_
  refine g_aload_n C dL_law_3168 0 rfl ?_
  refine g_iload C dL_law_3169 5 rfl ?_
  refine g_iconst C dL_law_3171 iv_2 ?_
  refine g_iadd C dL_law_3172 ?_
  obtain ⟨hz3173, h⟩ := i_n h
  refine g_scr Z C hz3173 dL_law_3173 ?_
  refine g_aload_n C dL_law_3174 0 rfl ?_
  refine g_iload C dL_law_3175 5 rfl ?_
  refine g_iconst C dL_law_3177 iv_3 ?_
  refine g_iadd C dL_law_3178 ?_
  obtain ⟨hz3179, h⟩ := i_n h
  refine g_scr Z C hz3179 dL_law_3179 ?_
  refine g_aload_n C dL_law_3180 3 rfl ?_
  obtain ⟨q3181, hq3181, h⟩ := i_b h
  have hc3181 := c_L_patch (ad := ad) (sd := gsd Γ) (ry_tr X) hq3181
  refine g_callSxy [.ref (ad 0), .int (xs (Int32.toNatClampNeg (x5 + 1))), .int (xs (Int32.toNatClampNeg (x5 + 2))), .int (xs (Int32.toNatClampNeg (x5 + 3))), .ref (ad 170)] [] C X k_RL_340 hc3181 (by decide) (by first | (constructor <;> (simp only [rm_L_patch, room_1]; omega)) | omega) rfl (Nat.le_of_ble_eq_true rfl) rfl dL_law_3181 (stk2 := [.int q3181.1]) rfl rfl rfl ?_
  refine g_istore (L' := [(6, .int q3181.1), (0, .ref b), (1, .ref (ad 0)), (2, .ref (ad 157)), (3, .ref (ad 170)), (4, .ref (ad 171)), (5, .int x5)]) C dL_law_3184 (by decide) rfl ?_
  refine g_aload_n C dL_law_3186 3 rfl ?_
  refine g_aload_n C dL_law_3187 1 rfl ?_
  refine g_iload C dL_law_3188 6 rfl ?_
  refine g_iconst C dL_law_3190 iv_1 ?_
  refine g_iadd C dL_law_3191 ?_
  obtain ⟨hz3192, h⟩ := i_n h
  refine g_scr Z C hz3192 dL_law_3192 ?_
  refine g_aload_n C dL_law_3193 1 rfl ?_
  refine g_iload C dL_law_3194 6 rfl ?_
  refine g_iconst C dL_law_3196 iv_2 ?_
  refine g_iadd C dL_law_3197 ?_
  obtain ⟨hz3198, h⟩ := i_n h
  refine g_scr Z C hz3198 dL_law_3198 ?_
  refine g_aload_n C dL_law_3199 1 rfl ?_
  refine g_iload C dL_law_3200 6 rfl ?_
  refine g_iconst C dL_law_3202 iv_3 ?_
  refine g_iadd C dL_law_3203 ?_
  obtain ⟨hz3204, h⟩ := i_n h
  refine g_scr Z C hz3204 dL_law_3204 ?_
  obtain ⟨q3205, hq3205, h⟩ := i_b h
  have hc3205 := c_X10_patch (ad := ad) (sd := gsd Γ) (ry_tr X) hq3205
  refine g_callVny [.int (xs (Int32.toNatClampNeg (x5 + 1))), .int (xs (Int32.toNatClampNeg (x5 + 2))), .int (xs (Int32.toNatClampNeg (x5 + 3)))] [] C X k_RL_342 hc3205 ly_157 rfl (by decide) (by first | (constructor <;> (simp only [rm_X10_patch, room_1]; omega)) | omega) rfl (Nat.le_of_ble_eq_true rfl) rfl dL_law_3205 (stk2 := [.int q3205.1]) rfl rfl rfl ?_
  refine g_istore (L' := [(7, .int q3205.1), (6, .int q3181.1), (0, .ref b), (1, .ref (ad 0)), (2, .ref (ad 157)), (3, .ref (ad 170)), (4, .ref (ad 171)), (5, .int x5)]) C dL_law_3208 (by decide) rfl ?_
  refine g_aload_n C dL_law_3210 4 rfl ?_
  obtain ⟨q3211, hq3211, h⟩ := i_b h
  have hc3211 := c_X10_thrown (ad := ad) (sd := gsd Γ) (ry_tr X) hq3211
  refine g_callVny [] [] C X k_RL_203 hc3211 ly_157 rfl (by decide) (by first | (constructor <;> (simp only [rm_X10_thrown, room_1]; omega)) | omega) rfl (Nat.le_of_ble_eq_true rfl) rfl dL_law_3211 (stk2 := [.int q3211]) rfl rfl rfl ?_
  refine g_iload C dL_law_3214 1 rfl ?_
  refine g_icmp_eq (tgt := 3221) C dL_law_3216 (by decide) (fun c => ?_) (fun c => ?_)
  · replace h := i_t c h
    refine g_iload C dL_law_3221 1 rfl ?_
    refine g_if_ne (tgt := 3238) C dL_law_3223 (by decide) (fun c => ?_) (fun c => ?_)
    · replace h := i_f c h
      refine g_sub (L' := [(0, .ref b), (1, .ref (ad 0)), (2, .ref (ad 157)), (3, .ref (ad 170)), (4, .ref (ad 171)), (5, .int x5)]) [2, 3, 4, 5, 6, 7] rfl ?_
      exact g_L_law_3238  C X Z hkc hk28 h
    · replace h := i_t c h
      refine g_aload_n C dL_law_3226 5 rfl ?_
      refine g_iconst C dL_law_3227 iv_0 ?_
      obtain ⟨hz3228, h⟩ := i_n h
      refine g_lald C ly_170 hz3228 dL_law_3228 ?_
      refine g_iload C dL_law_3229 0 rfl ?_
      refine g_i2l C dL_law_3231 ?_
      refine g_lcmp C dL_law_3232 ?_
      refine g_if_eq (tgt := 3238) C dL_law_3233 (by decide) (fun c => ?_) (fun c => ?_)
      · replace h := i_t c h
        refine g_sub (L' := [(0, .ref b), (1, .ref (ad 0)), (2, .ref (ad 157)), (3, .ref (ad 170)), (4, .ref (ad 171)), (5, .int x5)]) [2, 3, 4, 5, 6, 7] rfl ?_
        exact g_L_law_3238  C X Z hkc hk28 h
      · replace h := i_f c h
        refine g_iconst C dL_law_3236 iv_0 ?_
        cases h
  · replace h := i_f c h
    refine g_iconst C dL_law_3219 iv_0 ?_
    cases h
set_option maxHeartbeats 4000000 in
set_option maxRecDepth 100000 in
theorem g_L_law_3306 {Γ : ΓT} {ad : Nat → Nat} {b N : Nat} {xs : Nat → Int32} {μ : Mm} {k28 : Int32 → Mm → Option Unit} {kc ks n : Nat} {x5 : Int32} {r : Unit} (C : Cx Γ RL cL_law 9) (X : Ry Γ room_1) (Z : Zx Γ b N xs) (hkc : kc + 10 * (n + 1) ≤ 601024 ∧ ks + 60 * (n + 1) ≤ 7293034) (hk28 : ∀ (x5 : Int32) (ν : Mm) (kc2 ks2 : Nat), kc2 ≤ kc + 10 → ks2 ≤ ks + 60 → k28 x5 ν = some r → G Γ ad layL 9 ν 28 [(0, .ref b), (1, .ref (ad 0)), (2, .ref (ad 157)), (3, .ref (ad 170)), (4, .ref (ad 171)), (5, .int x5)] [] kc2 ks2) (h : b_L_law_3306 N xs μ k28 x5 = some r) : G Γ ad layL 9 μ 3306 [(0, .ref b), (1, .ref (ad 0)), (2, .ref (ad 157)), (3, .ref (ad 170)), (4, .ref (ad 171)), (5, .int x5)] [] (kc + 2) (ks + 12) := by
  unfold b_L_law_3306 at h
  refine g_goto (tgt := 3616) C dL_law_3306 (by decide) ?_
  refine g_wid (kc' := (kc + 8)) (ks' := (ks + 48)) (by omega) (by omega) ?_
  exact g_L_law_3616  C X Z hkc hk28 h
set_option maxHeartbeats 4000000 in
set_option maxRecDepth 100000 in
theorem g_L_law_3241 {Γ : ΓT} {ad : Nat → Nat} {b N : Nat} {xs : Nat → Int32} {μ : Mm} {k28 : Int32 → Mm → Option Unit} {kc ks n : Nat} {x5 : Int32} {r : Unit} (C : Cx Γ RL cL_law 9) (X : Ry Γ room_1) (Z : Zx Γ b N xs) (hkc : kc + 10 * (n + 1) ≤ 601024 ∧ ks + 60 * (n + 1) ≤ 7293034) (hk28 : ∀ (x5 : Int32) (ν : Mm) (kc2 ks2 : Nat), kc2 ≤ kc + 10 → ks2 ≤ ks + 60 → k28 x5 ν = some r → G Γ ad layL 9 ν 28 [(0, .ref b), (1, .ref (ad 0)), (2, .ref (ad 157)), (3, .ref (ad 170)), (4, .ref (ad 171)), (5, .int x5)] [] kc2 ks2) (h : b_L_law_3241 N xs μ k28 x5 = some r) : G Γ ad layL 9 μ 3241 [(0, .ref b), (1, .ref (ad 0)), (2, .ref (ad 157)), (3, .ref (ad 170)), (4, .ref (ad 171)), (5, .int x5)] [] kc ks := by
  unfold b_L_law_3241 at h
  refine g_aload_n C dL_law_3241 1 rfl ?_
  refine g_aload_n C dL_law_3242 0 rfl ?_
  refine g_iload C dL_law_3243 5 rfl ?_
  refine g_iconst C dL_law_3245 iv_1 ?_
  refine g_iadd C dL_law_3246 ?_
  obtain ⟨hz3247, h⟩ := i_n h
  refine g_scr Z C hz3247 dL_law_3247 ?_
  refine g_aload_n C dL_law_3248 0 rfl ?_
  refine g_iload C dL_law_3249 5 rfl ?_
  refine g_iconst C dL_law_3251 iv_2 ?_
  refine g_iadd C dL_law_3252 ?_
  obtain ⟨hz3253, h⟩ := i_n h
  refine g_scr Z C hz3253 dL_law_3253 ?_
  refine g_aload_n C dL_law_3254 3 rfl ?_
  obtain ⟨q3255, hq3255, h⟩ := i_b h
  have hc3255 := c_L_set (ad := ad) (sd := gsd Γ) (ry_tr X) hq3255
  refine g_callSxy [.ref (ad 0), .int (xs (Int32.toNatClampNeg (x5 + 1))), .int (xs (Int32.toNatClampNeg (x5 + 2))), .ref (ad 170)] [] C X k_RL_343 hc3255 (by decide) (by first | (constructor <;> (simp only [rm_L_set, room_1]; omega)) | omega) rfl (Nat.le_of_ble_eq_true rfl) rfl dL_law_3255 (stk2 := [.int q3255.1]) rfl rfl rfl ?_
  refine g_istore (L' := [(6, .int q3255.1), (0, .ref b), (1, .ref (ad 0)), (2, .ref (ad 157)), (3, .ref (ad 170)), (4, .ref (ad 171)), (5, .int x5)]) C dL_law_3258 (by decide) rfl ?_
  refine g_aload_n C dL_law_3260 3 rfl ?_
  refine g_aload_n C dL_law_3261 1 rfl ?_
  refine g_iload C dL_law_3262 6 rfl ?_
  refine g_iconst C dL_law_3264 iv_1 ?_
  refine g_iadd C dL_law_3265 ?_
  obtain ⟨hz3266, h⟩ := i_n h
  refine g_scr Z C hz3266 dL_law_3266 ?_
  refine g_aload_n C dL_law_3267 1 rfl ?_
  refine g_iload C dL_law_3268 6 rfl ?_
  refine g_iconst C dL_law_3270 iv_2 ?_
  refine g_iadd C dL_law_3271 ?_
  obtain ⟨hz3272, h⟩ := i_n h
  refine g_scr Z C hz3272 dL_law_3272 ?_
  obtain ⟨q3273, hq3273, h⟩ := i_b h
  have hc3273 := c_X10_set (ad := ad) (sd := gsd Γ) (ry_tr X) hq3273
  refine g_callVny [.int (xs (Int32.toNatClampNeg (x5 + 1))), .int (xs (Int32.toNatClampNeg (x5 + 2)))] [] C X k_RL_345 hc3273 ly_157 rfl (by decide) (by first | (constructor <;> (simp only [rm_X10_set, room_1]; omega)) | omega) rfl (Nat.le_of_ble_eq_true rfl) rfl dL_law_3273 (stk2 := [.int q3273.1]) rfl rfl rfl ?_
  refine g_istore (L' := [(7, .int q3273.1), (6, .int q3255.1), (0, .ref b), (1, .ref (ad 0)), (2, .ref (ad 157)), (3, .ref (ad 170)), (4, .ref (ad 171)), (5, .int x5)]) C dL_law_3276 (by decide) rfl ?_
  refine g_aload_n C dL_law_3278 4 rfl ?_
  obtain ⟨q3279, hq3279, h⟩ := i_b h
  have hc3279 := c_X10_thrown (ad := ad) (sd := gsd Γ) (ry_tr X) hq3279
  refine g_callVny [] [] C X k_RL_203 hc3279 ly_157 rfl (by decide) (by first | (constructor <;> (simp only [rm_X10_thrown, room_1]; omega)) | omega) rfl (Nat.le_of_ble_eq_true rfl) rfl dL_law_3279 (stk2 := [.int q3279]) rfl rfl rfl ?_
  refine g_iload C dL_law_3282 1 rfl ?_
  refine g_icmp_eq (tgt := 3289) C dL_law_3284 (by decide) (fun c => ?_) (fun c => ?_)
  · replace h := i_t c h
    refine g_iload C dL_law_3289 1 rfl ?_
    refine g_if_ne (tgt := 3306) C dL_law_3291 (by decide) (fun c => ?_) (fun c => ?_)
    · replace h := i_f c h
      refine g_sub (L' := [(0, .ref b), (1, .ref (ad 0)), (2, .ref (ad 157)), (3, .ref (ad 170)), (4, .ref (ad 171)), (5, .int x5)]) [2, 3, 4, 5, 6, 7] rfl ?_
      exact g_L_law_3306  C X Z hkc hk28 h
    · replace h := i_t c h
      refine g_aload_n C dL_law_3294 5 rfl ?_
      refine g_iconst C dL_law_3295 iv_0 ?_
      obtain ⟨hz3296, h⟩ := i_n h
      refine g_lald C ly_170 hz3296 dL_law_3296 ?_
      refine g_iload C dL_law_3297 0 rfl ?_
      refine g_i2l C dL_law_3299 ?_
      refine g_lcmp C dL_law_3300 ?_
      refine g_if_eq (tgt := 3306) C dL_law_3301 (by decide) (fun c => ?_) (fun c => ?_)
      · replace h := i_t c h
        refine g_sub (L' := [(0, .ref b), (1, .ref (ad 0)), (2, .ref (ad 157)), (3, .ref (ad 170)), (4, .ref (ad 171)), (5, .int x5)]) [2, 3, 4, 5, 6, 7] rfl ?_
        exact g_L_law_3306  C X Z hkc hk28 h
      · replace h := i_f c h
        refine g_iconst C dL_law_3304 iv_0 ?_
        cases h
  · replace h := i_f c h
    refine g_iconst C dL_law_3287 iv_0 ?_
    cases h
set_option maxHeartbeats 4000000 in
set_option maxRecDepth 100000 in
theorem g_L_law_3362 {Γ : ΓT} {ad : Nat → Nat} {b N : Nat} {xs : Nat → Int32} {μ : Mm} {k28 : Int32 → Mm → Option Unit} {kc ks n : Nat} {x5 : Int32} {r : Unit} (C : Cx Γ RL cL_law 9) (X : Ry Γ room_1) (Z : Zx Γ b N xs) (hkc : kc + 10 * (n + 1) ≤ 601024 ∧ ks + 60 * (n + 1) ≤ 7293034) (hk28 : ∀ (x5 : Int32) (ν : Mm) (kc2 ks2 : Nat), kc2 ≤ kc + 10 → ks2 ≤ ks + 60 → k28 x5 ν = some r → G Γ ad layL 9 ν 28 [(0, .ref b), (1, .ref (ad 0)), (2, .ref (ad 157)), (3, .ref (ad 170)), (4, .ref (ad 171)), (5, .int x5)] [] kc2 ks2) (h : b_L_law_3362 N xs μ k28 x5 = some r) : G Γ ad layL 9 μ 3362 [(0, .ref b), (1, .ref (ad 0)), (2, .ref (ad 157)), (3, .ref (ad 170)), (4, .ref (ad 171)), (5, .int x5)] [] (kc + 1) (ks + 6) := by
  unfold b_L_law_3362 at h
  refine g_goto (tgt := 3616) C dL_law_3362 (by decide) ?_
  refine g_wid (kc' := (kc + 8)) (ks' := (ks + 48)) (by omega) (by omega) ?_
  exact g_L_law_3616  C X Z hkc hk28 h
set_option maxHeartbeats 4000000 in
set_option maxRecDepth 100000 in
theorem g_L_law_3309 {Γ : ΓT} {ad : Nat → Nat} {b N : Nat} {xs : Nat → Int32} {μ : Mm} {k28 : Int32 → Mm → Option Unit} {kc ks n : Nat} {x5 : Int32} {r : Unit} (C : Cx Γ RL cL_law 9) (X : Ry Γ room_1) (Z : Zx Γ b N xs) (hkc : kc + 10 * (n + 1) ≤ 601024 ∧ ks + 60 * (n + 1) ≤ 7293034) (hk28 : ∀ (x5 : Int32) (ν : Mm) (kc2 ks2 : Nat), kc2 ≤ kc + 10 → ks2 ≤ ks + 60 → k28 x5 ν = some r → G Γ ad layL 9 ν 28 [(0, .ref b), (1, .ref (ad 0)), (2, .ref (ad 157)), (3, .ref (ad 170)), (4, .ref (ad 171)), (5, .int x5)] [] kc2 ks2) (h : b_L_law_3309 N xs μ k28 x5 = some r) : G Γ ad layL 9 μ 3309 [(0, .ref b), (1, .ref (ad 0)), (2, .ref (ad 157)), (3, .ref (ad 170)), (4, .ref (ad 171)), (5, .int x5)] [] kc ks := by
  unfold b_L_law_3309 at h
  refine g_aload_n C dL_law_3309 1 rfl ?_
  refine g_aload_n C dL_law_3310 0 rfl ?_
  refine g_iload C dL_law_3311 5 rfl ?_
  refine g_iconst C dL_law_3313 iv_1 ?_
  refine g_iadd C dL_law_3314 ?_
  obtain ⟨hz3315, h⟩ := i_n h
  refine g_scr Z C hz3315 dL_law_3315 ?_
  refine g_aload_n C dL_law_3316 3 rfl ?_
  obtain ⟨q3317, hq3317, h⟩ := i_b h
  have hc3317 := c_L_give (ad := ad) (sd := gsd Γ) (ry_tr X) hq3317
  refine g_callSxy [.ref (ad 0), .int (xs (Int32.toNatClampNeg (x5 + 1))), .ref (ad 170)] [] C X k_RL_346 hc3317 (by decide) (by first | (constructor <;> (simp only [rm_L_give, room_1]; omega)) | omega) rfl (Nat.le_of_ble_eq_true rfl) rfl dL_law_3317 (stk2 := [.int q3317.1]) rfl rfl rfl ?_
  refine g_istore (L' := [(6, .int q3317.1), (0, .ref b), (1, .ref (ad 0)), (2, .ref (ad 157)), (3, .ref (ad 170)), (4, .ref (ad 171)), (5, .int x5)]) C dL_law_3320 (by decide) rfl ?_
  refine g_aload_n C dL_law_3322 3 rfl ?_
  refine g_aload_n C dL_law_3323 1 rfl ?_
  refine g_iload C dL_law_3324 6 rfl ?_
  refine g_iconst C dL_law_3326 iv_1 ?_
  refine g_iadd C dL_law_3327 ?_
  obtain ⟨hz3328, h⟩ := i_n h
  refine g_scr Z C hz3328 dL_law_3328 ?_
  obtain ⟨q3329, hq3329, h⟩ := i_b h
  have hc3329 := c_X10_give (ad := ad) (sd := gsd Γ) (ry_tr X) hq3329
  refine g_callVny [.int (xs (Int32.toNatClampNeg (x5 + 1)))] [] C X k_RL_348 hc3329 ly_157 rfl (by decide) (by first | (constructor <;> (simp only [rm_X10_give, room_1]; omega)) | omega) rfl (Nat.le_of_ble_eq_true rfl) rfl dL_law_3329 (stk2 := [.int q3329.1]) rfl rfl rfl ?_
  refine g_istore (L' := [(7, .int q3329.1), (6, .int q3317.1), (0, .ref b), (1, .ref (ad 0)), (2, .ref (ad 157)), (3, .ref (ad 170)), (4, .ref (ad 171)), (5, .int x5)]) C dL_law_3332 (by decide) rfl ?_
  refine g_aload_n C dL_law_3334 4 rfl ?_
  obtain ⟨q3335, hq3335, h⟩ := i_b h
  have hc3335 := c_X10_thrown (ad := ad) (sd := gsd Γ) (ry_tr X) hq3335
  refine g_callVny [] [] C X k_RL_203 hc3335 ly_157 rfl (by decide) (by first | (constructor <;> (simp only [rm_X10_thrown, room_1]; omega)) | omega) rfl (Nat.le_of_ble_eq_true rfl) rfl dL_law_3335 (stk2 := [.int q3335]) rfl rfl rfl ?_
  refine g_iload C dL_law_3338 1 rfl ?_
  refine g_icmp_eq (tgt := 3345) C dL_law_3340 (by decide) (fun c => ?_) (fun c => ?_)
  · replace h := i_t c h
    refine g_iload C dL_law_3345 1 rfl ?_
    refine g_if_ne (tgt := 3362) C dL_law_3347 (by decide) (fun c => ?_) (fun c => ?_)
    · replace h := i_f c h
      refine g_sub (L' := [(0, .ref b), (1, .ref (ad 0)), (2, .ref (ad 157)), (3, .ref (ad 170)), (4, .ref (ad 171)), (5, .int x5)]) [2, 3, 4, 5, 6, 7] rfl ?_
      exact g_L_law_3362  C X Z hkc hk28 h
    · replace h := i_t c h
      refine g_aload_n C dL_law_3350 5 rfl ?_
      refine g_iconst C dL_law_3351 iv_0 ?_
      obtain ⟨hz3352, h⟩ := i_n h
      refine g_lald C ly_170 hz3352 dL_law_3352 ?_
      refine g_iload C dL_law_3353 0 rfl ?_
      refine g_i2l C dL_law_3355 ?_
      refine g_lcmp C dL_law_3356 ?_
      refine g_if_eq (tgt := 3362) C dL_law_3357 (by decide) (fun c => ?_) (fun c => ?_)
      · replace h := i_t c h
        refine g_sub (L' := [(0, .ref b), (1, .ref (ad 0)), (2, .ref (ad 157)), (3, .ref (ad 170)), (4, .ref (ad 171)), (5, .int x5)]) [2, 3, 4, 5, 6, 7] rfl ?_
        exact g_L_law_3362  C X Z hkc hk28 h
      · replace h := i_f c h
        refine g_iconst C dL_law_3360 iv_0 ?_
        cases h
  · replace h := i_f c h
    refine g_iconst C dL_law_3343 iv_0 ?_
    cases h
set_option maxHeartbeats 4000000 in
set_option maxRecDepth 100000 in
theorem g_L_law_3406 {Γ : ΓT} {ad : Nat → Nat} {b N : Nat} {xs : Nat → Int32} {μ : Mm} {k28 : Int32 → Mm → Option Unit} {kc ks n : Nat} {x5 : Int32} {r : Unit} (C : Cx Γ RL cL_law 9) (X : Ry Γ room_1) (Z : Zx Γ b N xs) (hkc : kc + 10 * (n + 1) ≤ 601024 ∧ ks + 60 * (n + 1) ≤ 7293034) (hk28 : ∀ (x5 : Int32) (ν : Mm) (kc2 ks2 : Nat), kc2 ≤ kc + 10 → ks2 ≤ ks + 60 → k28 x5 ν = some r → G Γ ad layL 9 ν 28 [(0, .ref b), (1, .ref (ad 0)), (2, .ref (ad 157)), (3, .ref (ad 170)), (4, .ref (ad 171)), (5, .int x5)] [] kc2 ks2) (h : b_L_law_3406 N xs μ k28 x5 = some r) : G Γ ad layL 9 μ 3406 [(0, .ref b), (1, .ref (ad 0)), (2, .ref (ad 157)), (3, .ref (ad 170)), (4, .ref (ad 171)), (5, .int x5)] [] (kc + 1) (ks + 6) := by
  unfold b_L_law_3406 at h
  refine g_goto (tgt := 3616) C dL_law_3406 (by decide) ?_
  refine g_wid (kc' := (kc + 8)) (ks' := (ks + 48)) (by omega) (by omega) ?_
  exact g_L_law_3616  C X Z hkc hk28 h
set_option maxHeartbeats 4000000 in
set_option maxRecDepth 100000 in
theorem g_L_law_3365 {Γ : ΓT} {ad : Nat → Nat} {b N : Nat} {xs : Nat → Int32} {μ : Mm} {k28 : Int32 → Mm → Option Unit} {kc ks n : Nat} {x5 : Int32} {r : Unit} (C : Cx Γ RL cL_law 9) (X : Ry Γ room_1) (Z : Zx Γ b N xs) (hkc : kc + 10 * (n + 1) ≤ 601024 ∧ ks + 60 * (n + 1) ≤ 7293034) (hk28 : ∀ (x5 : Int32) (ν : Mm) (kc2 ks2 : Nat), kc2 ≤ kc + 10 → ks2 ≤ ks + 60 → k28 x5 ν = some r → G Γ ad layL 9 ν 28 [(0, .ref b), (1, .ref (ad 0)), (2, .ref (ad 157)), (3, .ref (ad 170)), (4, .ref (ad 171)), (5, .int x5)] [] kc2 ks2) (h : b_L_law_3365 N xs μ k28 x5 = some r) : G Γ ad layL 9 μ 3365 [(0, .ref b), (1, .ref (ad 0)), (2, .ref (ad 157)), (3, .ref (ad 170)), (4, .ref (ad 171)), (5, .int x5)] [] kc ks := by
  unfold b_L_law_3365 at h
  refine g_aload_n C dL_law_3365 1 rfl ?_
  refine g_aload_n C dL_law_3366 3 rfl ?_
  obtain ⟨q3367, hq3367, h⟩ := i_b h
  have hc3367 := c_L_undo (ad := ad) (sd := gsd Γ) (ry_tr X) hq3367
  refine g_callSxy [.ref (ad 0), .ref (ad 170)] [] C X k_RL_349 hc3367 (by decide) (by first | (constructor <;> (simp only [rm_L_undo, room_1]; omega)) | omega) rfl (Nat.le_of_ble_eq_true rfl) rfl dL_law_3367 (stk2 := [.int q3367.1]) rfl rfl rfl ?_
  refine g_istore (L' := [(6, .int q3367.1), (0, .ref b), (1, .ref (ad 0)), (2, .ref (ad 157)), (3, .ref (ad 170)), (4, .ref (ad 171)), (5, .int x5)]) C dL_law_3370 (by decide) rfl ?_
  refine g_aload_n C dL_law_3372 3 rfl ?_
  obtain ⟨q3373, hq3373, h⟩ := i_b h
  have hc3373 := c_X10_undo (ad := ad) (sd := gsd Γ) (ry_tr X) hq3373
  refine g_callVny [] [] C X k_RL_351 hc3373 ly_157 rfl (by decide) (by first | (constructor <;> (simp only [rm_X10_undo, room_1]; omega)) | omega) rfl (Nat.le_of_ble_eq_true rfl) rfl dL_law_3373 (stk2 := [.int q3373.1]) rfl rfl rfl ?_
  refine g_istore (L' := [(7, .int q3373.1), (6, .int q3367.1), (0, .ref b), (1, .ref (ad 0)), (2, .ref (ad 157)), (3, .ref (ad 170)), (4, .ref (ad 171)), (5, .int x5)]) C dL_law_3376 (by decide) rfl ?_
  refine g_aload_n C dL_law_3378 4 rfl ?_
  obtain ⟨q3379, hq3379, h⟩ := i_b h
  have hc3379 := c_X10_thrown (ad := ad) (sd := gsd Γ) (ry_tr X) hq3379
  refine g_callVny [] [] C X k_RL_203 hc3379 ly_157 rfl (by decide) (by first | (constructor <;> (simp only [rm_X10_thrown, room_1]; omega)) | omega) rfl (Nat.le_of_ble_eq_true rfl) rfl dL_law_3379 (stk2 := [.int q3379]) rfl rfl rfl ?_
  refine g_iload C dL_law_3382 1 rfl ?_
  refine g_icmp_eq (tgt := 3389) C dL_law_3384 (by decide) (fun c => ?_) (fun c => ?_)
  · replace h := i_t c h
    refine g_iload C dL_law_3389 1 rfl ?_
    refine g_if_ne (tgt := 3406) C dL_law_3391 (by decide) (fun c => ?_) (fun c => ?_)
    · replace h := i_f c h
      refine g_sub (L' := [(0, .ref b), (1, .ref (ad 0)), (2, .ref (ad 157)), (3, .ref (ad 170)), (4, .ref (ad 171)), (5, .int x5)]) [2, 3, 4, 5, 6, 7] rfl ?_
      exact g_L_law_3406  C X Z hkc hk28 h
    · replace h := i_t c h
      refine g_aload_n C dL_law_3394 5 rfl ?_
      refine g_iconst C dL_law_3395 iv_0 ?_
      obtain ⟨hz3396, h⟩ := i_n h
      refine g_lald C ly_170 hz3396 dL_law_3396 ?_
      refine g_iload C dL_law_3397 0 rfl ?_
      refine g_i2l C dL_law_3399 ?_
      refine g_lcmp C dL_law_3400 ?_
      refine g_if_eq (tgt := 3406) C dL_law_3401 (by decide) (fun c => ?_) (fun c => ?_)
      · replace h := i_t c h
        refine g_sub (L' := [(0, .ref b), (1, .ref (ad 0)), (2, .ref (ad 157)), (3, .ref (ad 170)), (4, .ref (ad 171)), (5, .int x5)]) [2, 3, 4, 5, 6, 7] rfl ?_
        exact g_L_law_3406  C X Z hkc hk28 h
      · replace h := i_f c h
        refine g_iconst C dL_law_3404 iv_0 ?_
        cases h
  · replace h := i_f c h
    refine g_iconst C dL_law_3387 iv_0 ?_
    cases h
set_option maxHeartbeats 4000000 in
set_option maxRecDepth 100000 in
theorem g_L_law_3462 {Γ : ΓT} {ad : Nat → Nat} {b N : Nat} {xs : Nat → Int32} {μ : Mm} {k28 : Int32 → Mm → Option Unit} {kc ks n : Nat} {x5 : Int32} {r : Unit} (C : Cx Γ RL cL_law 9) (X : Ry Γ room_1) (Z : Zx Γ b N xs) (hkc : kc + 10 * (n + 1) ≤ 601024 ∧ ks + 60 * (n + 1) ≤ 7293034) (hk28 : ∀ (x5 : Int32) (ν : Mm) (kc2 ks2 : Nat), kc2 ≤ kc + 10 → ks2 ≤ ks + 60 → k28 x5 ν = some r → G Γ ad layL 9 ν 28 [(0, .ref b), (1, .ref (ad 0)), (2, .ref (ad 157)), (3, .ref (ad 170)), (4, .ref (ad 171)), (5, .int x5)] [] kc2 ks2) (h : b_L_law_3462 N xs μ k28 x5 = some r) : G Γ ad layL 9 μ 3462 [(0, .ref b), (1, .ref (ad 0)), (2, .ref (ad 157)), (3, .ref (ad 170)), (4, .ref (ad 171)), (5, .int x5)] [] (kc + 1) (ks + 6) := by
  unfold b_L_law_3462 at h
  refine g_goto (tgt := 3616) C dL_law_3462 (by decide) ?_
  refine g_wid (kc' := (kc + 8)) (ks' := (ks + 48)) (by omega) (by omega) ?_
  exact g_L_law_3616  C X Z hkc hk28 h
set_option maxHeartbeats 4000000 in
set_option maxRecDepth 100000 in
theorem g_L_law_3409 {Γ : ΓT} {ad : Nat → Nat} {b N : Nat} {xs : Nat → Int32} {μ : Mm} {k28 : Int32 → Mm → Option Unit} {kc ks n : Nat} {x5 : Int32} {r : Unit} (C : Cx Γ RL cL_law 9) (X : Ry Γ room_1) (Z : Zx Γ b N xs) (hkc : kc + 10 * (n + 1) ≤ 601024 ∧ ks + 60 * (n + 1) ≤ 7293034) (hk28 : ∀ (x5 : Int32) (ν : Mm) (kc2 ks2 : Nat), kc2 ≤ kc + 10 → ks2 ≤ ks + 60 → k28 x5 ν = some r → G Γ ad layL 9 ν 28 [(0, .ref b), (1, .ref (ad 0)), (2, .ref (ad 157)), (3, .ref (ad 170)), (4, .ref (ad 171)), (5, .int x5)] [] kc2 ks2) (h : b_L_law_3409 N xs μ k28 x5 = some r) : G Γ ad layL 9 μ 3409 [(0, .ref b), (1, .ref (ad 0)), (2, .ref (ad 157)), (3, .ref (ad 170)), (4, .ref (ad 171)), (5, .int x5)] [] kc ks := by
  unfold b_L_law_3409 at h
  refine g_aload_n C dL_law_3409 1 rfl ?_
  refine g_aload_n C dL_law_3410 0 rfl ?_
  refine g_iload C dL_law_3411 5 rfl ?_
  refine g_iconst C dL_law_3413 iv_1 ?_
  refine g_iadd C dL_law_3414 ?_
  obtain ⟨hz3415, h⟩ := i_n h
  refine g_scr Z C hz3415 dL_law_3415 ?_
  refine g_aload_n C dL_law_3416 3 rfl ?_
  obtain ⟨q3417, hq3417, h⟩ := i_b h
  have hc3417 := c_L_printCell (ad := ad) (sd := gsd Γ) (ry_tr X) hq3417
  refine g_callSxy [.ref (ad 0), .int (xs (Int32.toNatClampNeg (x5 + 1))), .ref (ad 170)] [] C X k_RL_352 hc3417 (by decide) (by first | (constructor <;> (simp only [rm_L_printCell, room_1]; omega)) | omega) rfl (Nat.le_of_ble_eq_true rfl) rfl dL_law_3417 (stk2 := [.int q3417.1]) rfl rfl rfl ?_
  refine g_istore (L' := [(6, .int q3417.1), (0, .ref b), (1, .ref (ad 0)), (2, .ref (ad 157)), (3, .ref (ad 170)), (4, .ref (ad 171)), (5, .int x5)]) C dL_law_3420 (by decide) rfl ?_
  refine g_aload_n C dL_law_3422 3 rfl ?_
  refine g_aload_n C dL_law_3423 1 rfl ?_
  refine g_iload C dL_law_3424 6 rfl ?_
  refine g_iconst C dL_law_3426 iv_1 ?_
  refine g_iadd C dL_law_3427 ?_
  obtain ⟨hz3428, h⟩ := i_n h
  refine g_scr Z C hz3428 dL_law_3428 ?_
  obtain ⟨q3429, hq3429, h⟩ := i_b h
  have hc3429 := c_X10_printCell (ad := ad) (sd := gsd Γ) (ry_tr X) hq3429
  refine g_callVny [.int (xs (Int32.toNatClampNeg (x5 + 1)))] [] C X k_RL_354 hc3429 ly_157 rfl (by decide) (by first | (constructor <;> (simp only [rm_X10_printCell, room_1]; omega)) | omega) rfl (Nat.le_of_ble_eq_true rfl) rfl dL_law_3429 (stk2 := [.int q3429.1]) rfl rfl rfl ?_
  refine g_istore (L' := [(7, .int q3429.1), (6, .int q3417.1), (0, .ref b), (1, .ref (ad 0)), (2, .ref (ad 157)), (3, .ref (ad 170)), (4, .ref (ad 171)), (5, .int x5)]) C dL_law_3432 (by decide) rfl ?_
  refine g_aload_n C dL_law_3434 4 rfl ?_
  obtain ⟨q3435, hq3435, h⟩ := i_b h
  have hc3435 := c_X10_thrown (ad := ad) (sd := gsd Γ) (ry_tr X) hq3435
  refine g_callVny [] [] C X k_RL_203 hc3435 ly_157 rfl (by decide) (by first | (constructor <;> (simp only [rm_X10_thrown, room_1]; omega)) | omega) rfl (Nat.le_of_ble_eq_true rfl) rfl dL_law_3435 (stk2 := [.int q3435]) rfl rfl rfl ?_
  refine g_iload C dL_law_3438 1 rfl ?_
  refine g_icmp_eq (tgt := 3445) C dL_law_3440 (by decide) (fun c => ?_) (fun c => ?_)
  · replace h := i_t c h
    refine g_iload C dL_law_3445 1 rfl ?_
    refine g_if_ne (tgt := 3462) C dL_law_3447 (by decide) (fun c => ?_) (fun c => ?_)
    · replace h := i_f c h
      refine g_sub (L' := [(0, .ref b), (1, .ref (ad 0)), (2, .ref (ad 157)), (3, .ref (ad 170)), (4, .ref (ad 171)), (5, .int x5)]) [2, 3, 4, 5, 6, 7] rfl ?_
      exact g_L_law_3462  C X Z hkc hk28 h
    · replace h := i_t c h
      refine g_aload_n C dL_law_3450 5 rfl ?_
      refine g_iconst C dL_law_3451 iv_0 ?_
      obtain ⟨hz3452, h⟩ := i_n h
      refine g_lald C ly_170 hz3452 dL_law_3452 ?_
      refine g_iload C dL_law_3453 0 rfl ?_
      refine g_i2l C dL_law_3455 ?_
      refine g_lcmp C dL_law_3456 ?_
      refine g_if_eq (tgt := 3462) C dL_law_3457 (by decide) (fun c => ?_) (fun c => ?_)
      · replace h := i_t c h
        refine g_sub (L' := [(0, .ref b), (1, .ref (ad 0)), (2, .ref (ad 157)), (3, .ref (ad 170)), (4, .ref (ad 171)), (5, .int x5)]) [2, 3, 4, 5, 6, 7] rfl ?_
        exact g_L_law_3462  C X Z hkc hk28 h
      · replace h := i_f c h
        refine g_iconst C dL_law_3460 iv_0 ?_
        cases h
  · replace h := i_f c h
    refine g_iconst C dL_law_3443 iv_0 ?_
    cases h
set_option maxHeartbeats 4000000 in
set_option maxRecDepth 100000 in
theorem g_L_law_3518 {Γ : ΓT} {ad : Nat → Nat} {b N : Nat} {xs : Nat → Int32} {μ : Mm} {k28 : Int32 → Mm → Option Unit} {kc ks n : Nat} {x5 : Int32} {r : Unit} (C : Cx Γ RL cL_law 9) (X : Ry Γ room_1) (Z : Zx Γ b N xs) (hkc : kc + 10 * (n + 1) ≤ 601024 ∧ ks + 60 * (n + 1) ≤ 7293034) (hk28 : ∀ (x5 : Int32) (ν : Mm) (kc2 ks2 : Nat), kc2 ≤ kc + 10 → ks2 ≤ ks + 60 → k28 x5 ν = some r → G Γ ad layL 9 ν 28 [(0, .ref b), (1, .ref (ad 0)), (2, .ref (ad 157)), (3, .ref (ad 170)), (4, .ref (ad 171)), (5, .int x5)] [] kc2 ks2) (h : b_L_law_3518 N xs μ k28 x5 = some r) : G Γ ad layL 9 μ 3518 [(0, .ref b), (1, .ref (ad 0)), (2, .ref (ad 157)), (3, .ref (ad 170)), (4, .ref (ad 171)), (5, .int x5)] [] (kc + 1) (ks + 6) := by
  unfold b_L_law_3518 at h
  refine g_goto (tgt := 3616) C dL_law_3518 (by decide) ?_
  refine g_wid (kc' := (kc + 8)) (ks' := (ks + 48)) (by omega) (by omega) ?_
  exact g_L_law_3616  C X Z hkc hk28 h
set_option maxHeartbeats 4000000 in
set_option maxRecDepth 100000 in
theorem g_L_law_3465 {Γ : ΓT} {ad : Nat → Nat} {b N : Nat} {xs : Nat → Int32} {μ : Mm} {k28 : Int32 → Mm → Option Unit} {kc ks n : Nat} {x5 : Int32} {r : Unit} (C : Cx Γ RL cL_law 9) (X : Ry Γ room_1) (Z : Zx Γ b N xs) (hkc : kc + 10 * (n + 1) ≤ 601024 ∧ ks + 60 * (n + 1) ≤ 7293034) (hk28 : ∀ (x5 : Int32) (ν : Mm) (kc2 ks2 : Nat), kc2 ≤ kc + 10 → ks2 ≤ ks + 60 → k28 x5 ν = some r → G Γ ad layL 9 ν 28 [(0, .ref b), (1, .ref (ad 0)), (2, .ref (ad 157)), (3, .ref (ad 170)), (4, .ref (ad 171)), (5, .int x5)] [] kc2 ks2) (h : b_L_law_3465 N xs μ k28 x5 = some r) : G Γ ad layL 9 μ 3465 [(0, .ref b), (1, .ref (ad 0)), (2, .ref (ad 157)), (3, .ref (ad 170)), (4, .ref (ad 171)), (5, .int x5)] [] kc ks := by
  unfold b_L_law_3465 at h
  refine g_aload_n C dL_law_3465 1 rfl ?_
  refine g_aload_n C dL_law_3466 0 rfl ?_
  refine g_iload C dL_law_3467 5 rfl ?_
  refine g_iconst C dL_law_3469 iv_1 ?_
  refine g_iadd C dL_law_3470 ?_
  obtain ⟨hz3471, h⟩ := i_n h
  refine g_scr Z C hz3471 dL_law_3471 ?_
  refine g_aload_n C dL_law_3472 3 rfl ?_
  obtain ⟨q3473, hq3473, h⟩ := i_b h
  have hc3473 := c_L_printLane (ad := ad) (sd := gsd Γ) (ry_tr X) hq3473
  refine g_callSxy [.ref (ad 0), .int (xs (Int32.toNatClampNeg (x5 + 1))), .ref (ad 170)] [] C X k_RL_355 hc3473 (by decide) (by first | (constructor <;> (simp only [rm_L_printLane, room_1]; omega)) | omega) rfl (Nat.le_of_ble_eq_true rfl) rfl dL_law_3473 (stk2 := [.int q3473.1]) rfl rfl rfl ?_
  refine g_istore (L' := [(6, .int q3473.1), (0, .ref b), (1, .ref (ad 0)), (2, .ref (ad 157)), (3, .ref (ad 170)), (4, .ref (ad 171)), (5, .int x5)]) C dL_law_3476 (by decide) rfl ?_
  refine g_aload_n C dL_law_3478 3 rfl ?_
  refine g_aload_n C dL_law_3479 1 rfl ?_
  refine g_iload C dL_law_3480 6 rfl ?_
  refine g_iconst C dL_law_3482 iv_1 ?_
  refine g_iadd C dL_law_3483 ?_
  obtain ⟨hz3484, h⟩ := i_n h
  refine g_scr Z C hz3484 dL_law_3484 ?_
  obtain ⟨q3485, hq3485, h⟩ := i_b h
  have hc3485 := c_X10_printLane (ad := ad) (sd := gsd Γ) (ry_tr X) hq3485
  refine g_callVny [.int (xs (Int32.toNatClampNeg (x5 + 1)))] [] C X k_RL_357 hc3485 ly_157 rfl (by decide) (by first | (constructor <;> (simp only [rm_X10_printLane, room_1]; omega)) | omega) rfl (Nat.le_of_ble_eq_true rfl) rfl dL_law_3485 (stk2 := [.int q3485.1]) rfl rfl rfl ?_
  refine g_istore (L' := [(7, .int q3485.1), (6, .int q3473.1), (0, .ref b), (1, .ref (ad 0)), (2, .ref (ad 157)), (3, .ref (ad 170)), (4, .ref (ad 171)), (5, .int x5)]) C dL_law_3488 (by decide) rfl ?_
  refine g_aload_n C dL_law_3490 4 rfl ?_
  obtain ⟨q3491, hq3491, h⟩ := i_b h
  have hc3491 := c_X10_thrown (ad := ad) (sd := gsd Γ) (ry_tr X) hq3491
  refine g_callVny [] [] C X k_RL_203 hc3491 ly_157 rfl (by decide) (by first | (constructor <;> (simp only [rm_X10_thrown, room_1]; omega)) | omega) rfl (Nat.le_of_ble_eq_true rfl) rfl dL_law_3491 (stk2 := [.int q3491]) rfl rfl rfl ?_
  refine g_iload C dL_law_3494 1 rfl ?_
  refine g_icmp_eq (tgt := 3501) C dL_law_3496 (by decide) (fun c => ?_) (fun c => ?_)
  · replace h := i_t c h
    refine g_iload C dL_law_3501 1 rfl ?_
    refine g_if_ne (tgt := 3518) C dL_law_3503 (by decide) (fun c => ?_) (fun c => ?_)
    · replace h := i_f c h
      refine g_sub (L' := [(0, .ref b), (1, .ref (ad 0)), (2, .ref (ad 157)), (3, .ref (ad 170)), (4, .ref (ad 171)), (5, .int x5)]) [2, 3, 4, 5, 6, 7] rfl ?_
      exact g_L_law_3518  C X Z hkc hk28 h
    · replace h := i_t c h
      refine g_aload_n C dL_law_3506 5 rfl ?_
      refine g_iconst C dL_law_3507 iv_0 ?_
      obtain ⟨hz3508, h⟩ := i_n h
      refine g_lald C ly_170 hz3508 dL_law_3508 ?_
      refine g_iload C dL_law_3509 0 rfl ?_
      refine g_i2l C dL_law_3511 ?_
      refine g_lcmp C dL_law_3512 ?_
      refine g_if_eq (tgt := 3518) C dL_law_3513 (by decide) (fun c => ?_) (fun c => ?_)
      · replace h := i_t c h
        refine g_sub (L' := [(0, .ref b), (1, .ref (ad 0)), (2, .ref (ad 157)), (3, .ref (ad 170)), (4, .ref (ad 171)), (5, .int x5)]) [2, 3, 4, 5, 6, 7] rfl ?_
        exact g_L_law_3518  C X Z hkc hk28 h
      · replace h := i_f c h
        refine g_iconst C dL_law_3516 iv_0 ?_
        cases h
  · replace h := i_f c h
    refine g_iconst C dL_law_3499 iv_0 ?_
    cases h
set_option maxHeartbeats 4000000 in
set_option maxRecDepth 100000 in
theorem g_L_law_3521 {Γ : ΓT} {ad : Nat → Nat} {b N : Nat} {xs : Nat → Int32} {μ : Mm} {k28 : Int32 → Mm → Option Unit} {kc ks n : Nat} {x5 : Int32} {r : Unit} (C : Cx Γ RL cL_law 9) (X : Ry Γ room_1) (Z : Zx Γ b N xs) (hkc : kc + 10 * (n + 1) ≤ 601024 ∧ ks + 60 * (n + 1) ≤ 7293034) (hk28 : ∀ (x5 : Int32) (ν : Mm) (kc2 ks2 : Nat), kc2 ≤ kc + 10 → ks2 ≤ ks + 60 → k28 x5 ν = some r → G Γ ad layL 9 ν 28 [(0, .ref b), (1, .ref (ad 0)), (2, .ref (ad 157)), (3, .ref (ad 170)), (4, .ref (ad 171)), (5, .int x5)] [] kc2 ks2) (h : b_L_law_3521 N xs μ k28 x5 = some r) : G Γ ad layL 9 μ 3521 [(0, .ref b), (1, .ref (ad 0)), (2, .ref (ad 157)), (3, .ref (ad 170)), (4, .ref (ad 171)), (5, .int x5)] [] kc ks := by
  unfold b_L_law_3521 at h
  refine g_aload_n C dL_law_3521 1 rfl ?_
  obtain ⟨q3522, hq3522, h⟩ := i_b h
  have hc3522 := c_X9_printLoads (ad := ad) (sd := gsd Γ) (ry_tr X) hq3522
  refine g_callVny [] [] C X k_RL_358 hc3522 ly_0 rfl (by decide) (by first | (constructor <;> (simp only [rm_X9_printLoads, room_1]; omega)) | omega) rfl (Nat.le_of_ble_eq_true rfl) rfl dL_law_3522 (stk2 := [.int q3522.1]) rfl rfl rfl ?_
  refine g_aload_n C dL_law_3525 2 rfl ?_
  obtain ⟨q3526, hq3526, h⟩ := i_b h
  have hc3526 := c_X10_printLoads (ad := ad) (sd := gsd Γ) (ry_tr X) hq3526
  refine g_callVny [] [.int q3522.1] C X k_RL_361 hc3526 ly_157 rfl (by decide) (by first | (constructor <;> (simp only [rm_X10_printLoads, room_1]; omega)) | omega) rfl (Nat.le_of_ble_eq_true rfl) rfl dL_law_3526 (stk2 := [.int q3526.1, .int q3522.1]) rfl rfl rfl ?_
  refine g_icmp_eq (tgt := 3616) C dL_law_3529 (by decide) (fun c => ?_) (fun c => ?_)
  · replace h := i_t c h
    refine g_wid (kc' := (kc + 8)) (ks' := (ks + 48)) (by first | omega | (simp only [rm_X9_printLoads, rm_X10_printLoads]; omega)) (by first | omega | (simp only [rm_X9_printLoads, rm_X10_printLoads]; omega)) ?_
    exact g_L_law_3616  C X Z hkc hk28 h
  · replace h := i_f c h
    refine g_iconst C dL_law_3532 iv_0 ?_
    cases h
set_option maxHeartbeats 4000000 in
set_option maxRecDepth 100000 in
theorem g_L_law_3534 {Γ : ΓT} {ad : Nat → Nat} {b N : Nat} {xs : Nat → Int32} {μ : Mm} {k28 : Int32 → Mm → Option Unit} {kc ks n : Nat} {x5 : Int32} {r : Unit} (C : Cx Γ RL cL_law 9) (X : Ry Γ room_1) (Z : Zx Γ b N xs) (hkc : kc + 10 * (n + 1) ≤ 601024 ∧ ks + 60 * (n + 1) ≤ 7293034) (hk28 : ∀ (x5 : Int32) (ν : Mm) (kc2 ks2 : Nat), kc2 ≤ kc + 10 → ks2 ≤ ks + 60 → k28 x5 ν = some r → G Γ ad layL 9 ν 28 [(0, .ref b), (1, .ref (ad 0)), (2, .ref (ad 157)), (3, .ref (ad 170)), (4, .ref (ad 171)), (5, .int x5)] [] kc2 ks2) (h : b_L_law_3534 N xs μ k28 x5 = some r) : G Γ ad layL 9 μ 3534 [(0, .ref b), (1, .ref (ad 0)), (2, .ref (ad 157)), (3, .ref (ad 170)), (4, .ref (ad 171)), (5, .int x5)] [] kc ks := by
  unfold b_L_law_3534 at h
  refine g_aload_n C dL_law_3534 1 rfl ?_
  refine g_aload_n C dL_law_3535 0 rfl ?_
  refine g_iload C dL_law_3536 5 rfl ?_
  refine g_iconst C dL_law_3538 iv_1 ?_
  refine g_iadd C dL_law_3539 ?_
  obtain ⟨hz3540, h⟩ := i_n h
  refine g_scr Z C hz3540 dL_law_3540 ?_
  obtain ⟨q3541, hq3541, h⟩ := i_b h
  have hc3541 := c_X9_outputByte (ad := ad) (sd := gsd Γ) (ry_tr X) hq3541
  refine g_callVny [.int (xs (Int32.toNatClampNeg (x5 + 1)))] [] C X k_RL_362 hc3541 ly_0 rfl (by decide) (by first | (constructor <;> (simp only [rm_X9_outputByte, room_1]; omega)) | omega) rfl (Nat.le_of_ble_eq_true rfl) rfl dL_law_3541 (stk2 := [.int q3541]) rfl rfl rfl ?_
  refine g_aload_n C dL_law_3544 2 rfl ?_
  refine g_aload_n C dL_law_3545 0 rfl ?_
  refine g_iload C dL_law_3546 5 rfl ?_
  refine g_iconst C dL_law_3548 iv_1 ?_
  refine g_iadd C dL_law_3549 ?_
  obtain ⟨hz3550, h⟩ := i_n h
  refine g_scr Z C hz3550 dL_law_3550 ?_
  obtain ⟨q3551, hq3551, h⟩ := i_b h
  have hc3551 := c_X10_outputByte (ad := ad) (sd := gsd Γ) (ry_tr X) hq3551
  refine g_callVny [.int (xs (Int32.toNatClampNeg (x5 + 1)))] [.int q3541] C X k_RL_365 hc3551 ly_157 rfl (by decide) (by first | (constructor <;> (simp only [rm_X10_outputByte, room_1]; omega)) | omega) rfl (Nat.le_of_ble_eq_true rfl) rfl dL_law_3551 (stk2 := [.int q3551.1, .int q3541]) rfl rfl rfl ?_
  refine g_icmp_eq (tgt := 3616) C dL_law_3554 (by decide) (fun c => ?_) (fun c => ?_)
  · replace h := i_t c h
    refine g_wid (kc' := (kc + 8)) (ks' := (ks + 48)) (by first | omega | (simp only [rm_X9_outputByte, rm_X10_outputByte]; omega)) (by first | omega | (simp only [rm_X9_outputByte, rm_X10_outputByte]; omega)) ?_
    exact g_L_law_3616  C X Z hkc hk28 h
  · replace h := i_f c h
    refine g_iconst C dL_law_3557 iv_0 ?_
    cases h
set_option maxHeartbeats 4000000 in
set_option maxRecDepth 100000 in
theorem g_L_law_3559 {Γ : ΓT} {ad : Nat → Nat} {b N : Nat} {xs : Nat → Int32} {μ : Mm} {k28 : Int32 → Mm → Option Unit} {kc ks n : Nat} {x5 : Int32} {r : Unit} (C : Cx Γ RL cL_law 9) (X : Ry Γ room_1) (Z : Zx Γ b N xs) (hkc : kc + 10 * (n + 1) ≤ 601024 ∧ ks + 60 * (n + 1) ≤ 7293034) (hk28 : ∀ (x5 : Int32) (ν : Mm) (kc2 ks2 : Nat), kc2 ≤ kc + 10 → ks2 ≤ ks + 60 → k28 x5 ν = some r → G Γ ad layL 9 ν 28 [(0, .ref b), (1, .ref (ad 0)), (2, .ref (ad 157)), (3, .ref (ad 170)), (4, .ref (ad 171)), (5, .int x5)] [] kc2 ks2) (h : b_L_law_3559 N xs μ k28 x5 = some r) : G Γ ad layL 9 μ 3559 [(0, .ref b), (1, .ref (ad 0)), (2, .ref (ad 157)), (3, .ref (ad 170)), (4, .ref (ad 171)), (5, .int x5)] [] kc ks := by
  unfold b_L_law_3559 at h
  refine g_aload_n C dL_law_3559 1 rfl ?_
  obtain ⟨q3560, hq3560, h⟩ := i_b h
  have hc3560 := c_X9_saveState (ad := ad) (sd := gsd Γ) (ry_tr X) hq3560
  refine g_callVny [] [] C X k_RL_366 hc3560 ly_0 rfl (by decide) (by first | (constructor <;> (simp only [rm_X9_saveState, room_1]; omega)) | omega) rfl (Nat.le_of_ble_eq_true rfl) rfl dL_law_3560 (stk2 := [.int q3560.1]) rfl rfl rfl ?_
  refine g_aload_n C dL_law_3563 2 rfl ?_
  obtain ⟨q3564, hq3564, h⟩ := i_b h
  have hc3564 := c_X10_saveState (ad := ad) (sd := gsd Γ) (ry_tr X) hq3564
  refine g_callVny [] [.int q3560.1] C X k_RL_369 hc3564 ly_157 rfl (by decide) (by first | (constructor <;> (simp only [rm_X10_saveState, room_1]; omega)) | omega) rfl (Nat.le_of_ble_eq_true rfl) rfl dL_law_3564 (stk2 := [.int q3564.1, .int q3560.1]) rfl rfl rfl ?_
  refine g_icmp_eq (tgt := 3616) C dL_law_3567 (by decide) (fun c => ?_) (fun c => ?_)
  · replace h := i_t c h
    refine g_wid (kc' := (kc + 8)) (ks' := (ks + 48)) (by first | omega | (simp only [rm_X9_saveState, rm_X10_saveState]; omega)) (by first | omega | (simp only [rm_X9_saveState, rm_X10_saveState]; omega)) ?_
    exact g_L_law_3616  C X Z hkc hk28 h
  · replace h := i_f c h
    refine g_iconst C dL_law_3570 iv_0 ?_
    cases h
set_option maxHeartbeats 4000000 in
set_option maxRecDepth 100000 in
theorem g_L_law_3613 {Γ : ΓT} {ad : Nat → Nat} {b N : Nat} {xs : Nat → Int32} {μ : Mm} {k28 : Int32 → Mm → Option Unit} {kc ks n : Nat} {x5 : Int32} {r : Unit} (C : Cx Γ RL cL_law 9) (X : Ry Γ room_1) (Z : Zx Γ b N xs) (hkc : kc + 10 * (n + 1) ≤ 601024 ∧ ks + 60 * (n + 1) ≤ 7293034) (hk28 : ∀ (x5 : Int32) (ν : Mm) (kc2 ks2 : Nat), kc2 ≤ kc + 10 → ks2 ≤ ks + 60 → k28 x5 ν = some r → G Γ ad layL 9 ν 28 [(0, .ref b), (1, .ref (ad 0)), (2, .ref (ad 157)), (3, .ref (ad 170)), (4, .ref (ad 171)), (5, .int x5)] [] kc2 ks2) (h : b_L_law_3613 N xs μ k28 x5 = some r) : G Γ ad layL 9 μ 3613 [(0, .ref b), (1, .ref (ad 0)), (2, .ref (ad 157)), (3, .ref (ad 170)), (4, .ref (ad 171)), (5, .int x5)] [] (kc + 1) (ks + 6) := by
  unfold b_L_law_3613 at h
  refine g_goto (tgt := 3616) C dL_law_3613 (by decide) ?_
  refine g_wid (kc' := (kc + 8)) (ks' := (ks + 48)) (by omega) (by omega) ?_
  exact g_L_law_3616  C X Z hkc hk28 h
set_option maxHeartbeats 4000000 in
set_option maxRecDepth 100000 in
theorem g_L_law_3572 {Γ : ΓT} {ad : Nat → Nat} {b N : Nat} {xs : Nat → Int32} {μ : Mm} {k28 : Int32 → Mm → Option Unit} {kc ks n : Nat} {x5 : Int32} {r : Unit} (C : Cx Γ RL cL_law 9) (X : Ry Γ room_1) (Z : Zx Γ b N xs) (hkc : kc + 10 * (n + 1) ≤ 601024 ∧ ks + 60 * (n + 1) ≤ 7293034) (hk28 : ∀ (x5 : Int32) (ν : Mm) (kc2 ks2 : Nat), kc2 ≤ kc + 10 → ks2 ≤ ks + 60 → k28 x5 ν = some r → G Γ ad layL 9 ν 28 [(0, .ref b), (1, .ref (ad 0)), (2, .ref (ad 157)), (3, .ref (ad 170)), (4, .ref (ad 171)), (5, .int x5)] [] kc2 ks2) (h : b_L_law_3572 N xs μ k28 x5 = some r) : G Γ ad layL 9 μ 3572 [(0, .ref b), (1, .ref (ad 0)), (2, .ref (ad 157)), (3, .ref (ad 170)), (4, .ref (ad 171)), (5, .int x5)] [] kc ks := by
  unfold b_L_law_3572 at h
  refine g_aload_n C dL_law_3572 1 rfl ?_
  refine g_aload_n C dL_law_3573 3 rfl ?_
  obtain ⟨q3574, hq3574, h⟩ := i_b h
  have hc3574 := c_L_restoreState (ad := ad) (sd := gsd Γ) (ry_tr X) hq3574
  refine g_callSxy [.ref (ad 0), .ref (ad 170)] [] C X k_RL_370 hc3574 (by decide) (by first | (constructor <;> (simp only [rm_L_restoreState, room_1]; omega)) | omega) rfl (Nat.le_of_ble_eq_true rfl) rfl dL_law_3574 (stk2 := [.int q3574.1]) rfl rfl rfl ?_
  refine g_istore (L' := [(6, .int q3574.1), (0, .ref b), (1, .ref (ad 0)), (2, .ref (ad 157)), (3, .ref (ad 170)), (4, .ref (ad 171)), (5, .int x5)]) C dL_law_3577 (by decide) rfl ?_
  refine g_aload_n C dL_law_3579 3 rfl ?_
  obtain ⟨q3580, hq3580, h⟩ := i_b h
  have hc3580 := c_X10_restoreState (ad := ad) (sd := gsd Γ) (ry_tr X) hq3580
  refine g_callVny [] [] C X k_RL_372 hc3580 ly_157 rfl (by decide) (by first | (constructor <;> (simp only [rm_X10_restoreState, room_1]; omega)) | omega) rfl (Nat.le_of_ble_eq_true rfl) rfl dL_law_3580 (stk2 := [.int q3580.1]) rfl rfl rfl ?_
  refine g_istore (L' := [(7, .int q3580.1), (6, .int q3574.1), (0, .ref b), (1, .ref (ad 0)), (2, .ref (ad 157)), (3, .ref (ad 170)), (4, .ref (ad 171)), (5, .int x5)]) C dL_law_3583 (by decide) rfl ?_
  refine g_aload_n C dL_law_3585 4 rfl ?_
  obtain ⟨q3586, hq3586, h⟩ := i_b h
  have hc3586 := c_X10_thrown (ad := ad) (sd := gsd Γ) (ry_tr X) hq3586
  refine g_callVny [] [] C X k_RL_203 hc3586 ly_157 rfl (by decide) (by first | (constructor <;> (simp only [rm_X10_thrown, room_1]; omega)) | omega) rfl (Nat.le_of_ble_eq_true rfl) rfl dL_law_3586 (stk2 := [.int q3586]) rfl rfl rfl ?_
  refine g_iload C dL_law_3589 1 rfl ?_
  refine g_icmp_eq (tgt := 3596) C dL_law_3591 (by decide) (fun c => ?_) (fun c => ?_)
  · replace h := i_t c h
    refine g_iload C dL_law_3596 1 rfl ?_
    refine g_if_ne (tgt := 3613) C dL_law_3598 (by decide) (fun c => ?_) (fun c => ?_)
    · replace h := i_f c h
      refine g_sub (L' := [(0, .ref b), (1, .ref (ad 0)), (2, .ref (ad 157)), (3, .ref (ad 170)), (4, .ref (ad 171)), (5, .int x5)]) [2, 3, 4, 5, 6, 7] rfl ?_
      exact g_L_law_3613  C X Z hkc hk28 h
    · replace h := i_t c h
      refine g_aload_n C dL_law_3601 5 rfl ?_
      refine g_iconst C dL_law_3602 iv_0 ?_
      obtain ⟨hz3603, h⟩ := i_n h
      refine g_lald C ly_170 hz3603 dL_law_3603 ?_
      refine g_iload C dL_law_3604 0 rfl ?_
      refine g_i2l C dL_law_3606 ?_
      refine g_lcmp C dL_law_3607 ?_
      refine g_if_eq (tgt := 3613) C dL_law_3608 (by decide) (fun c => ?_) (fun c => ?_)
      · replace h := i_t c h
        refine g_sub (L' := [(0, .ref b), (1, .ref (ad 0)), (2, .ref (ad 157)), (3, .ref (ad 170)), (4, .ref (ad 171)), (5, .int x5)]) [2, 3, 4, 5, 6, 7] rfl ?_
        exact g_L_law_3613  C X Z hkc hk28 h
      · replace h := i_f c h
        refine g_iconst C dL_law_3611 iv_0 ?_
        cases h
  · replace h := i_f c h
    refine g_iconst C dL_law_3594 iv_0 ?_
    cases h
set_option maxHeartbeats 4000000 in
set_option maxRecDepth 100000 in
theorem g_L_law_28 {Γ : ΓT} {ad : Nat → Nat} {b N : Nat} {xs : Nat → Int32} {μ : Mm} {k28 : Int32 → Mm → Option Unit} {kc ks n : Nat} {x5 : Int32} {r : Unit} (C : Cx Γ RL cL_law 9) (X : Ry Γ room_1) (Z : Zx Γ b N xs) (hkc : kc + 10 * (n + 1) ≤ 601024 ∧ ks + 60 * (n + 1) ≤ 7293034) (hk28 : ∀ (x5 : Int32) (ν : Mm) (kc2 ks2 : Nat), kc2 ≤ kc + 10 → ks2 ≤ ks + 60 → k28 x5 ν = some r → G Γ ad layL 9 ν 28 [(0, .ref b), (1, .ref (ad 0)), (2, .ref (ad 157)), (3, .ref (ad 170)), (4, .ref (ad 171)), (5, .int x5)] [] kc2 ks2) (h : b_L_law_28 N xs μ k28 x5 = some r) : G Γ ad layL 9 μ 28 [(0, .ref b), (1, .ref (ad 0)), (2, .ref (ad 157)), (3, .ref (ad 170)), (4, .ref (ad 171)), (5, .int x5)] [] kc ks := by
  unfold b_L_law_28 at h
  refine g_iload C dL_law_28 5 rfl ?_
  refine g_aload_n C dL_law_30 0 rfl ?_
  refine g_scl Z C dL_law_31 ?_
  refine g_bipush C dL_law_32 bv_7 ?_
  refine g_isub C dL_law_34 ?_
  refine g_icmp_gt (tgt := 3622) C dL_law_35 (by decide) (fun c => ?_) (fun c => ?_)
  · replace h := i_t c h
    refine g_iconst C dL_law_3622 iv_1 ?_
    exact g_lawret (a := 0) (c := 0) Z C hkc dL_law_3623
  · replace h := i_f c h
    refine g_aload_n C dL_law_38 0 rfl ?_
    refine g_iload C dL_law_39 5 rfl ?_
    obtain ⟨hz41, h⟩ := i_n h
    refine g_scr Z C hz41 dL_law_41 ?_
    refine g_bipush C dL_law_42 bv_63 ?_
    refine g_iand C dL_law_44 ?_
    by_cases e45_0 : ((xs (Int32.toNatClampNeg x5)) &&& 63) = 0
    · replace h := i_t e45_0 h
      refine g_tsIn (tgt := 292) C e45_0 dL_law_45 (by decide) (by decide) rfl (by decide) ?_
      exact g_L_law_292  C X Z hkc hk28 h
    · replace h := i_f e45_0 h
      by_cases e45_1 : ((xs (Int32.toNatClampNeg x5)) &&& 63) = 1
      · replace h := i_t e45_1 h
        refine g_tsIn (tgt := 365) C e45_1 dL_law_45 (by decide) (by decide) rfl (by decide) ?_
        exact g_L_law_365  C X Z hkc hk28 h
      · replace h := i_f e45_1 h
        by_cases e45_2 : ((xs (Int32.toNatClampNeg x5)) &&& 63) = 2
        · replace h := i_t e45_2 h
          refine g_tsIn (tgt := 390) C e45_2 dL_law_45 (by decide) (by decide) rfl (by decide) ?_
          exact g_L_law_390  C X Z hkc hk28 h
        · replace h := i_f e45_2 h
          by_cases e45_3 : ((xs (Int32.toNatClampNeg x5)) &&& 63) = 3
          · replace h := i_t e45_3 h
            refine g_tsIn (tgt := 403) C e45_3 dL_law_45 (by decide) (by decide) rfl (by decide) ?_
            exact g_L_law_403  C X Z hkc hk28 h
          · replace h := i_f e45_3 h
            by_cases e45_4 : ((xs (Int32.toNatClampNeg x5)) &&& 63) = 4
            · replace h := i_t e45_4 h
              refine g_tsIn (tgt := 416) C e45_4 dL_law_45 (by decide) (by decide) rfl (by decide) ?_
              exact g_L_law_416  C X Z hkc hk28 h
            · replace h := i_f e45_4 h
              by_cases e45_5 : ((xs (Int32.toNatClampNeg x5)) &&& 63) = 5
              · replace h := i_t e45_5 h
                refine g_tsIn (tgt := 429) C e45_5 dL_law_45 (by decide) (by decide) rfl (by decide) ?_
                exact g_L_law_429  C X Z hkc hk28 h
              · replace h := i_f e45_5 h
                by_cases e45_6 : ((xs (Int32.toNatClampNeg x5)) &&& 63) = 6
                · replace h := i_t e45_6 h
                  refine g_tsIn (tgt := 485) C e45_6 dL_law_45 (by decide) (by decide) rfl (by decide) ?_
                  exact g_L_law_485  C X Z hkc hk28 h
                · replace h := i_f e45_6 h
                  by_cases e45_7 : ((xs (Int32.toNatClampNeg x5)) &&& 63) = 7
                  · replace h := i_t e45_7 h
                    refine g_tsIn (tgt := 541) C e45_7 dL_law_45 (by decide) (by decide) rfl (by decide) ?_
                    exact g_L_law_541  C X Z hkc hk28 h
                  · replace h := i_f e45_7 h
                    by_cases e45_8 : ((xs (Int32.toNatClampNeg x5)) &&& 63) = 8
                    · replace h := i_t e45_8 h
                      refine g_tsIn (tgt := 609) C e45_8 dL_law_45 (by decide) (by decide) rfl (by decide) ?_
                      exact g_L_law_609  C X Z hkc hk28 h
                    · replace h := i_f e45_8 h
                      by_cases e45_9 : ((xs (Int32.toNatClampNeg x5)) &&& 63) = 9
                      · replace h := i_t e45_9 h
                        refine g_tsIn (tgt := 664) C e45_9 dL_law_45 (by decide) (by decide) rfl (by decide) ?_
                        exact g_L_law_664  C X Z hkc hk28 h
                      · replace h := i_f e45_9 h
                        by_cases e45_10 : ((xs (Int32.toNatClampNeg x5)) &&& 63) = 10
                        · replace h := i_t e45_10 h
                          refine g_tsIn (tgt := 719) C e45_10 dL_law_45 (by decide) (by decide) rfl (by decide) ?_
                          exact g_L_law_719  C X Z hkc hk28 h
                        · replace h := i_f e45_10 h
                          by_cases e45_11 : ((xs (Int32.toNatClampNeg x5)) &&& 63) = 11
                          · replace h := i_t e45_11 h
                            refine g_tsIn (tgt := 799) C e45_11 dL_law_45 (by decide) (by decide) rfl (by decide) ?_
                            exact g_L_law_799  C X Z hkc hk28 h
                          · replace h := i_f e45_11 h
                            by_cases e45_12 : ((xs (Int32.toNatClampNeg x5)) &&& 63) = 12
                            · replace h := i_t e45_12 h
                              refine g_tsIn (tgt := 867) C e45_12 dL_law_45 (by decide) (by decide) rfl (by decide) ?_
                              exact g_L_law_867  C X Z hkc hk28 h
                            · replace h := i_f e45_12 h
                              by_cases e45_13 : ((xs (Int32.toNatClampNeg x5)) &&& 63) = 13
                              · replace h := i_t e45_13 h
                                refine g_tsIn (tgt := 935) C e45_13 dL_law_45 (by decide) (by decide) rfl (by decide) ?_
                                exact g_L_law_935  C X Z hkc hk28 h
                              · replace h := i_f e45_13 h
                                by_cases e45_14 : ((xs (Int32.toNatClampNeg x5)) &&& 63) = 14
                                · replace h := i_t e45_14 h
                                  refine g_tsIn (tgt := 990) C e45_14 dL_law_45 (by decide) (by decide) rfl (by decide) ?_
                                  exact g_L_law_990  C X Z hkc hk28 h
                                · replace h := i_f e45_14 h
                                  by_cases e45_15 : ((xs (Int32.toNatClampNeg x5)) &&& 63) = 15
                                  · replace h := i_t e45_15 h
                                    refine g_tsIn (tgt := 1057) C e45_15 dL_law_45 (by decide) (by decide) rfl (by decide) ?_
                                    exact g_L_law_1057  C X Z hkc hk28 h
                                  · replace h := i_f e45_15 h
                                    by_cases e45_16 : ((xs (Int32.toNatClampNeg x5)) &&& 63) = 16
                                    · replace h := i_t e45_16 h
                                      refine g_tsIn (tgt := 1113) C e45_16 dL_law_45 (by decide) (by decide) rfl (by decide) ?_
                                      exact g_L_law_1113  C X Z hkc hk28 h
                                    · replace h := i_f e45_16 h
                                      by_cases e45_17 : ((xs (Int32.toNatClampNeg x5)) &&& 63) = 17
                                      · replace h := i_t e45_17 h
                                        refine g_tsIn (tgt := 1168) C e45_17 dL_law_45 (by decide) (by decide) rfl (by decide) ?_
                                        exact g_L_law_1168  C X Z hkc hk28 h
                                      · replace h := i_f e45_17 h
                                        by_cases e45_18 : ((xs (Int32.toNatClampNeg x5)) &&& 63) = 18
                                        · replace h := i_t e45_18 h
                                          refine g_tsIn (tgt := 1224) C e45_18 dL_law_45 (by decide) (by decide) rfl (by decide) ?_
                                          exact g_L_law_1224  C X Z hkc hk28 h
                                        · replace h := i_f e45_18 h
                                          by_cases e45_19 : ((xs (Int32.toNatClampNeg x5)) &&& 63) = 19
                                          · replace h := i_t e45_19 h
                                            refine g_tsIn (tgt := 1280) C e45_19 dL_law_45 (by decide) (by decide) rfl (by decide) ?_
                                            exact g_L_law_1280  C X Z hkc hk28 h
                                          · replace h := i_f e45_19 h
                                            by_cases e45_20 : ((xs (Int32.toNatClampNeg x5)) &&& 63) = 20
                                            · replace h := i_t e45_20 h
                                              refine g_tsIn (tgt := 1336) C e45_20 dL_law_45 (by decide) (by decide) rfl (by decide) ?_
                                              exact g_L_law_1336  C X Z hkc hk28 h
                                            · replace h := i_f e45_20 h
                                              by_cases e45_21 : ((xs (Int32.toNatClampNeg x5)) &&& 63) = 21
                                              · replace h := i_t e45_21 h
                                                refine g_tsIn (tgt := 1392) C e45_21 dL_law_45 (by decide) (by decide) rfl (by decide) ?_
                                                exact g_L_law_1392  C X Z hkc hk28 h
                                              · replace h := i_f e45_21 h
                                                by_cases e45_22 : ((xs (Int32.toNatClampNeg x5)) &&& 63) = 22
                                                · replace h := i_t e45_22 h
                                                  refine g_tsIn (tgt := 1448) C e45_22 dL_law_45 (by decide) (by decide) rfl (by decide) ?_
                                                  exact g_L_law_1448  C X Z hkc hk28 h
                                                · replace h := i_f e45_22 h
                                                  by_cases e45_23 : ((xs (Int32.toNatClampNeg x5)) &&& 63) = 23
                                                  · replace h := i_t e45_23 h
                                                    refine g_tsIn (tgt := 1504) C e45_23 dL_law_45 (by decide) (by decide) rfl (by decide) ?_
                                                    exact g_L_law_1504  C X Z hkc hk28 h
                                                  · replace h := i_f e45_23 h
                                                    by_cases e45_24 : ((xs (Int32.toNatClampNeg x5)) &&& 63) = 24
                                                    · replace h := i_t e45_24 h
                                                      refine g_tsIn (tgt := 1572) C e45_24 dL_law_45 (by decide) (by decide) rfl (by decide) ?_
                                                      exact g_L_law_1572  C X Z hkc hk28 h
                                                    · replace h := i_f e45_24 h
                                                      by_cases e45_25 : ((xs (Int32.toNatClampNeg x5)) &&& 63) = 25
                                                      · replace h := i_t e45_25 h
                                                        refine g_tsIn (tgt := 1639) C e45_25 dL_law_45 (by decide) (by decide) rfl (by decide) ?_
                                                        exact g_L_law_1639  C X Z hkc hk28 h
                                                      · replace h := i_f e45_25 h
                                                        by_cases e45_26 : ((xs (Int32.toNatClampNeg x5)) &&& 63) = 26
                                                        · replace h := i_t e45_26 h
                                                          refine g_tsIn (tgt := 1707) C e45_26 dL_law_45 (by decide) (by decide) rfl (by decide) ?_
                                                          exact g_L_law_1707  C X Z hkc hk28 h
                                                        · replace h := i_f e45_26 h
                                                          by_cases e45_27 : ((xs (Int32.toNatClampNeg x5)) &&& 63) = 27
                                                          · replace h := i_t e45_27 h
                                                            refine g_tsIn (tgt := 1775) C e45_27 dL_law_45 (by decide) (by decide) rfl (by decide) ?_
                                                            exact g_L_law_1775  C X Z hkc hk28 h
                                                          · replace h := i_f e45_27 h
                                                            by_cases e45_28 : ((xs (Int32.toNatClampNeg x5)) &&& 63) = 28
                                                            · replace h := i_t e45_28 h
                                                              refine g_tsIn (tgt := 1843) C e45_28 dL_law_45 (by decide) (by decide) rfl (by decide) ?_
                                                              exact g_L_law_1843  C X Z hkc hk28 h
                                                            · replace h := i_f e45_28 h
                                                              by_cases e45_29 : ((xs (Int32.toNatClampNeg x5)) &&& 63) = 29
                                                              · replace h := i_t e45_29 h
                                                                refine g_tsIn (tgt := 1856) C e45_29 dL_law_45 (by decide) (by decide) rfl (by decide) ?_
                                                                exact g_L_law_1856  C X Z hkc hk28 h
                                                              · replace h := i_f e45_29 h
                                                                by_cases e45_30 : ((xs (Int32.toNatClampNeg x5)) &&& 63) = 30
                                                                · replace h := i_t e45_30 h
                                                                  refine g_tsIn (tgt := 1900) C e45_30 dL_law_45 (by decide) (by decide) rfl (by decide) ?_
                                                                  exact g_L_law_1900  C X Z hkc hk28 h
                                                                · replace h := i_f e45_30 h
                                                                  by_cases e45_31 : ((xs (Int32.toNatClampNeg x5)) &&& 63) = 31
                                                                  · replace h := i_t e45_31 h
                                                                    refine g_tsIn (tgt := 1956) C e45_31 dL_law_45 (by decide) (by decide) rfl (by decide) ?_
                                                                    exact g_L_law_1956  C X Z hkc hk28 h
                                                                  · replace h := i_f e45_31 h
                                                                    by_cases e45_32 : ((xs (Int32.toNatClampNeg x5)) &&& 63) = 32
                                                                    · replace h := i_t e45_32 h
                                                                      refine g_tsIn (tgt := 1969) C e45_32 dL_law_45 (by decide) (by decide) rfl (by decide) ?_
                                                                      exact g_L_law_1969  C X Z hkc hk28 h
                                                                    · replace h := i_f e45_32 h
                                                                      by_cases e45_33 : ((xs (Int32.toNatClampNeg x5)) &&& 63) = 33
                                                                      · replace h := i_t e45_33 h
                                                                        refine g_tsIn (tgt := 2049) C e45_33 dL_law_45 (by decide) (by decide) rfl (by decide) ?_
                                                                        exact g_L_law_2049  C X Z hkc hk28 h
                                                                      · replace h := i_f e45_33 h
                                                                        by_cases e45_34 : ((xs (Int32.toNatClampNeg x5)) &&& 63) = 34
                                                                        · replace h := i_t e45_34 h
                                                                          refine g_tsIn (tgt := 2129) C e45_34 dL_law_45 (by decide) (by decide) rfl (by decide) ?_
                                                                          exact g_L_law_2129  C X Z hkc hk28 h
                                                                        · replace h := i_f e45_34 h
                                                                          by_cases e45_35 : ((xs (Int32.toNatClampNeg x5)) &&& 63) = 35
                                                                          · replace h := i_t e45_35 h
                                                                            refine g_tsIn (tgt := 2209) C e45_35 dL_law_45 (by decide) (by decide) rfl (by decide) ?_
                                                                            exact g_L_law_2209  C X Z hkc hk28 h
                                                                          · replace h := i_f e45_35 h
                                                                            by_cases e45_36 : ((xs (Int32.toNatClampNeg x5)) &&& 63) = 36
                                                                            · replace h := i_t e45_36 h
                                                                              refine g_tsIn (tgt := 2277) C e45_36 dL_law_45 (by decide) (by decide) rfl (by decide) ?_
                                                                              exact g_L_law_2277  C X Z hkc hk28 h
                                                                            · replace h := i_f e45_36 h
                                                                              by_cases e45_37 : ((xs (Int32.toNatClampNeg x5)) &&& 63) = 37
                                                                              · replace h := i_t e45_37 h
                                                                                refine g_tsIn (tgt := 2333) C e45_37 dL_law_45 (by decide) (by decide) rfl (by decide) ?_
                                                                                exact g_L_law_2333  C X Z hkc hk28 h
                                                                              · replace h := i_f e45_37 h
                                                                                by_cases e45_38 : ((xs (Int32.toNatClampNeg x5)) &&& 63) = 38
                                                                                · replace h := i_t e45_38 h
                                                                                  refine g_tsIn (tgt := 2410) C e45_38 dL_law_45 (by decide) (by decide) rfl (by decide) ?_
                                                                                  exact g_L_law_2410  C X Z hkc hk28 h
                                                                                · replace h := i_f e45_38 h
                                                                                  by_cases e45_39 : ((xs (Int32.toNatClampNeg x5)) &&& 63) = 39
                                                                                  · replace h := i_t e45_39 h
                                                                                    refine g_tsIn (tgt := 2488) C e45_39 dL_law_45 (by decide) (by decide) rfl (by decide) ?_
                                                                                    exact g_L_law_2488  C X Z hkc hk28 h
                                                                                  · replace h := i_f e45_39 h
                                                                                    by_cases e45_40 : ((xs (Int32.toNatClampNeg x5)) &&& 63) = 40
                                                                                    · replace h := i_t e45_40 h
                                                                                      refine g_tsIn (tgt := 2544) C e45_40 dL_law_45 (by decide) (by decide) rfl (by decide) ?_
                                                                                      exact g_L_law_2544  C X Z hkc hk28 h
                                                                                    · replace h := i_f e45_40 h
                                                                                      by_cases e45_41 : ((xs (Int32.toNatClampNeg x5)) &&& 63) = 41
                                                                                      · replace h := i_t e45_41 h
                                                                                        refine g_tsIn (tgt := 2624) C e45_41 dL_law_45 (by decide) (by decide) rfl (by decide) ?_
                                                                                        exact g_L_law_2624  C X Z hkc hk28 h
                                                                                      · replace h := i_f e45_41 h
                                                                                        by_cases e45_42 : ((xs (Int32.toNatClampNeg x5)) &&& 63) = 42
                                                                                        · replace h := i_t e45_42 h
                                                                                          refine g_tsIn (tgt := 2704) C e45_42 dL_law_45 (by decide) (by decide) rfl (by decide) ?_
                                                                                          exact g_L_law_2704  C X Z hkc hk28 h
                                                                                        · replace h := i_f e45_42 h
                                                                                          by_cases e45_43 : ((xs (Int32.toNatClampNeg x5)) &&& 63) = 43
                                                                                          · replace h := i_t e45_43 h
                                                                                            refine g_tsIn (tgt := 2760) C e45_43 dL_law_45 (by decide) (by decide) rfl (by decide) ?_
                                                                                            exact g_L_law_2760  C X Z hkc hk28 h
                                                                                          · replace h := i_f e45_43 h
                                                                                            by_cases e45_44 : ((xs (Int32.toNatClampNeg x5)) &&& 63) = 44
                                                                                            · replace h := i_t e45_44 h
                                                                                              refine g_tsIn (tgt := 2828) C e45_44 dL_law_45 (by decide) (by decide) rfl (by decide) ?_
                                                                                              exact g_L_law_2828  C X Z hkc hk28 h
                                                                                            · replace h := i_f e45_44 h
                                                                                              by_cases e45_45 : ((xs (Int32.toNatClampNeg x5)) &&& 63) = 45
                                                                                              · replace h := i_t e45_45 h
                                                                                                refine g_tsIn (tgt := 2946) C e45_45 dL_law_45 (by decide) (by decide) rfl (by decide) ?_
                                                                                                exact g_L_law_2946  C X Z hkc hk28 h
                                                                                              · replace h := i_f e45_45 h
                                                                                                by_cases e45_46 : ((xs (Int32.toNatClampNeg x5)) &&& 63) = 46
                                                                                                · replace h := i_t e45_46 h
                                                                                                  refine g_tsIn (tgt := 3002) C e45_46 dL_law_45 (by decide) (by decide) rfl (by decide) ?_
                                                                                                  exact g_L_law_3002  C X Z hkc hk28 h
                                                                                                · replace h := i_f e45_46 h
                                                                                                  by_cases e45_47 : ((xs (Int32.toNatClampNeg x5)) &&& 63) = 47
                                                                                                  · replace h := i_t e45_47 h
                                                                                                    refine g_tsIn (tgt := 3070) C e45_47 dL_law_45 (by decide) (by decide) rfl (by decide) ?_
                                                                                                    exact g_L_law_3070  C X Z hkc hk28 h
                                                                                                  · replace h := i_f e45_47 h
                                                                                                    by_cases e45_48 : ((xs (Int32.toNatClampNeg x5)) &&& 63) = 48
                                                                                                    · replace h := i_t e45_48 h
                                                                                                      refine g_tsIn (tgt := 3161) C e45_48 dL_law_45 (by decide) (by decide) rfl (by decide) ?_
                                                                                                      exact g_L_law_3161  C X Z hkc hk28 h
                                                                                                    · replace h := i_f e45_48 h
                                                                                                      by_cases e45_49 : ((xs (Int32.toNatClampNeg x5)) &&& 63) = 49
                                                                                                      · replace h := i_t e45_49 h
                                                                                                        refine g_tsIn (tgt := 3241) C e45_49 dL_law_45 (by decide) (by decide) rfl (by decide) ?_
                                                                                                        exact g_L_law_3241  C X Z hkc hk28 h
                                                                                                      · replace h := i_f e45_49 h
                                                                                                        by_cases e45_50 : ((xs (Int32.toNatClampNeg x5)) &&& 63) = 50
                                                                                                        · replace h := i_t e45_50 h
                                                                                                          refine g_tsIn (tgt := 3309) C e45_50 dL_law_45 (by decide) (by decide) rfl (by decide) ?_
                                                                                                          exact g_L_law_3309  C X Z hkc hk28 h
                                                                                                        · replace h := i_f e45_50 h
                                                                                                          by_cases e45_51 : ((xs (Int32.toNatClampNeg x5)) &&& 63) = 51
                                                                                                          · replace h := i_t e45_51 h
                                                                                                            refine g_tsIn (tgt := 3365) C e45_51 dL_law_45 (by decide) (by decide) rfl (by decide) ?_
                                                                                                            exact g_L_law_3365  C X Z hkc hk28 h
                                                                                                          · replace h := i_f e45_51 h
                                                                                                            by_cases e45_52 : ((xs (Int32.toNatClampNeg x5)) &&& 63) = 52
                                                                                                            · replace h := i_t e45_52 h
                                                                                                              refine g_tsIn (tgt := 3409) C e45_52 dL_law_45 (by decide) (by decide) rfl (by decide) ?_
                                                                                                              exact g_L_law_3409  C X Z hkc hk28 h
                                                                                                            · replace h := i_f e45_52 h
                                                                                                              by_cases e45_53 : ((xs (Int32.toNatClampNeg x5)) &&& 63) = 53
                                                                                                              · replace h := i_t e45_53 h
                                                                                                                refine g_tsIn (tgt := 3465) C e45_53 dL_law_45 (by decide) (by decide) rfl (by decide) ?_
                                                                                                                exact g_L_law_3465  C X Z hkc hk28 h
                                                                                                              · replace h := i_f e45_53 h
                                                                                                                by_cases e45_54 : ((xs (Int32.toNatClampNeg x5)) &&& 63) = 54
                                                                                                                · replace h := i_t e45_54 h
                                                                                                                  refine g_tsIn (tgt := 3521) C e45_54 dL_law_45 (by decide) (by decide) rfl (by decide) ?_
                                                                                                                  exact g_L_law_3521  C X Z hkc hk28 h
                                                                                                                · replace h := i_f e45_54 h
                                                                                                                  by_cases e45_55 : ((xs (Int32.toNatClampNeg x5)) &&& 63) = 55
                                                                                                                  · replace h := i_t e45_55 h
                                                                                                                    refine g_tsIn (tgt := 3534) C e45_55 dL_law_45 (by decide) (by decide) rfl (by decide) ?_
                                                                                                                    exact g_L_law_3534  C X Z hkc hk28 h
                                                                                                                  · replace h := i_f e45_55 h
                                                                                                                    by_cases e45_56 : ((xs (Int32.toNatClampNeg x5)) &&& 63) = 56
                                                                                                                    · replace h := i_t e45_56 h
                                                                                                                      refine g_tsIn (tgt := 3559) C e45_56 dL_law_45 (by decide) (by decide) rfl (by decide) ?_
                                                                                                                      exact g_L_law_3559  C X Z hkc hk28 h
                                                                                                                    · replace h := i_f e45_56 h
                                                                                                                      by_cases e45_57 : ((xs (Int32.toNatClampNeg x5)) &&& 63) = 57
                                                                                                                      · replace h := i_t e45_57 h
                                                                                                                        refine g_tsIn (tgt := 3572) C e45_57 dL_law_45 (by decide) (by decide) rfl (by decide) ?_
                                                                                                                        exact g_L_law_3572  C X Z hkc hk28 h
                                                                                                                      · replace h := i_f e45_57 h
                                                                                                                        refine g_tsOut (tgt := 3616) C dL_law_45 (ts_out (lo := 0) (n := 58) (by decide) (lt_s (lt_s (lt_s (lt_s (lt_s (lt_s (lt_s (lt_s (lt_s (lt_s (lt_s (lt_s (lt_s (lt_s (lt_s (lt_s (lt_s (lt_s (lt_s (lt_s (lt_s (lt_s (lt_s (lt_s (lt_s (lt_s (lt_s (lt_s (lt_s (lt_s (lt_s (lt_s (lt_s (lt_s (lt_s (lt_s (lt_s (lt_s (lt_s (lt_s (lt_s (lt_s (lt_s (lt_s (lt_s (lt_s (lt_s (lt_s (lt_s (lt_s (lt_s (lt_s (lt_s (lt_s (lt_s (lt_s (lt_s (lt_s lt_0 e45_0) e45_1) e45_2) e45_3) e45_4) e45_5) e45_6) e45_7) e45_8) e45_9) e45_10) e45_11) e45_12) e45_13) e45_14) e45_15) e45_16) e45_17) e45_18) e45_19) e45_20) e45_21) e45_22) e45_23) e45_24) e45_25) e45_26) e45_27) e45_28) e45_29) e45_30) e45_31) e45_32) e45_33) e45_34) e45_35) e45_36) e45_37) e45_38) e45_39) e45_40) e45_41) e45_42) e45_43) e45_44) e45_45) e45_46) e45_47) e45_48) e45_49) e45_50) e45_51) e45_52) e45_53) e45_54) e45_55) e45_56) e45_57)) (by decide) ?_
                                                                                                                        refine g_wid (kc' := (kc + 8)) (ks' := (ks + 48)) (by omega) (by omega) ?_
                                                                                                                        exact g_L_law_3616  C X Z hkc hk28 h
theorem gl_L_law_28 {Γ : ΓT} {ad : Nat → Nat} {b N : Nat} {xs : Nat → Int32} {r : Unit} (C : Cx Γ RL cL_law 9) (X : Ry Γ room_1) (Z : Zx Γ b N xs) : ∀ (n : Nat) (x5 : Int32) (μ : Mm) (kc ks : Nat), kc + 10 * n ≤ 601024 ∧ ks + 60 * n ≤ 7293034 → l_L_law_28 N xs n x5 μ = some r → G Γ ad layL 9 μ 28 [(0, .ref b), (1, .ref (ad 0)), (2, .ref (ad 157)), (3, .ref (ad 170)), (4, .ref (ad 171)), (5, .int x5)] [] kc ks := by
  intro n
  induction n with
  | zero => intro x5 μ kc ks hkc h; simp [l_L_law_28] at h
  | succ n ih => intro x5 μ kc ks hkc h; exact g_L_law_28 C X Z (n := n) (by omega) (fun x5 ν kc2 ks2 h1 h2 h => ih x5 ν kc2 ks2 (by omega) h) h
