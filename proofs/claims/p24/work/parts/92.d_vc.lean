set_option maxHeartbeats 2000000 in
set_option maxRecDepth 100000 in
theorem v_law_1214 {n L : Nat} {xs : Nat → Int32} {J : Nat → List qV → List qV → qW → Prop} {i : Int} {γ : qG} {w : qW} (hi : 0 ≤ i ∧ i + 6 ≤ L ∧ L ≤ 3072) (hR : REL2 γ) (hW : PN γ n w) (hk : ∀ (j : Int) (γ' : qG) (w' : qW), j = i + 6 → PN γ' n w' → REL2 γ' → J 18 [q2 900, q2 0, q2 85, q1 j] [] w') : b_law_1214 n L xs J [(0, q2 900), (1, q2 0), (2, q2 85), (3, q1 i)] [] w := by
  intro z1218 h1218
  replace h1218 := e_add h1218 (by omega)
  apply And.intro
  · exact ⟨rfl, by omega, by omega⟩
  intro z1219 h1219
  have q1219 : z1219 = (xs (i + 1).toNat).toInt := by rw [h1219, show z1218 = i + 1 by omega]
  intro z1223 h1223
  replace h1223 := e_add h1223 (by omega)
  apply And.intro
  · exact ⟨rfl, by omega, by omega⟩
  intro z1224 h1224
  have q1224 : z1224 = (xs (i + 2).toNat).toInt := by rw [h1224, show z1223 = i + 2 by omega]
  intro z1228 h1228
  replace h1228 := e_add h1228 (by omega)
  apply And.intro
  · exact ⟨rfl, by omega, by omega⟩
  intro z1229 h1229
  have q1229 : z1229 = (xs (i + 3).toNat).toInt := by rw [h1229, show z1228 = i + 3 by omega]
  obtain ⟨_, e1230, rfl⟩ := hW.1 0 _ rfl
  refine p_callN (a := 0) (As := [q1 z1219, q1 z1224, q1 z1229]) (rest := []) hW rfl e1230 (Nat.le_of_ble_eq_true rfl) ⟨_, _, _, rfl⟩ (fun r w hW hr => ?_)
  obtain ⟨r1230, rfl⟩ := hr
  intro z1238 h1238
  replace h1238 := e_add h1238 (by omega)
  apply And.intro
  · exact ⟨rfl, by omega, by omega⟩
  intro z1239 h1239
  have q1239 : z1239 = (xs (i + 1).toNat).toInt := by rw [h1239, show z1238 = i + 1 by omega]
  intro z1243 h1243
  replace h1243 := e_add h1243 (by omega)
  apply And.intro
  · exact ⟨rfl, by omega, by omega⟩
  intro z1244 h1244
  have q1244 : z1244 = (xs (i + 2).toNat).toInt := by rw [h1244, show z1243 = i + 2 by omega]
  intro z1248 h1248
  replace h1248 := e_add h1248 (by omega)
  apply And.intro
  · exact ⟨rfl, by omega, by omega⟩
  intro z1249 h1249
  have q1249 : z1249 = (xs (i + 3).toNat).toInt := by rw [h1249, show z1248 = i + 3 by omega]
  obtain ⟨_, e1250, mco_1250, mre_1250, mle_1250, mbe_1250, mso_1250, mva_1250, mwo_1250, mwr_1250, mlf_1250, mlp_1250, mfp_1250, mfd_1250, mgo_1250, mbo_1250, mpe_1250, mye_1250, mpr_1250, mld_1250, msi_1250, mse_1250, rfl⟩ := hW.1 85 _ rfl
  refine p_callN (a := 85) (As := [q1 z1239, q1 z1244, q1 z1249]) (rest := []) hW rfl e1250 (Nat.le_of_ble_eq_true rfl) ⟨_, _, _, rfl⟩ (fun r w hW hr => ?_)
  obtain ⟨r1250, rfl⟩ := hr
  intro z1369 h1369
  replace h1369 := e_add h1369 (by omega)
  exact hk _ _ _ (by omega) hW hR

set_option maxHeartbeats 2000000 in
set_option maxRecDepth 100000 in
theorem v_law_1257 {n L : Nat} {xs : Nat → Int32} {J : Nat → List qV → List qV → qW → Prop} {i : Int} {γ : qG} {w : qW} (hi : 0 ≤ i ∧ i + 6 ≤ L ∧ L ≤ 3072) (hR : REL2 γ) (hW : PN γ n w) (hk : ∀ (j : Int) (γ' : qG) (w' : qW), j = i + 6 → PN γ' n w' → REL2 γ' → J 18 [q2 900, q2 0, q2 85, q1 j] [] w') : b_law_1257 n L xs J [(0, q2 900), (1, q2 0), (2, q2 85), (3, q1 i)] [] w := by
  intro z1261 h1261
  replace h1261 := e_add h1261 (by omega)
  apply And.intro
  · exact ⟨rfl, by omega, by omega⟩
  intro z1262 h1262
  have q1262 : z1262 = (xs (i + 1).toNat).toInt := by rw [h1262, show z1261 = i + 1 by omega]
  intro z1266 h1266
  replace h1266 := e_add h1266 (by omega)
  apply And.intro
  · exact ⟨rfl, by omega, by omega⟩
  intro z1267 h1267
  have q1267 : z1267 = (xs (i + 2).toNat).toInt := by rw [h1267, show z1266 = i + 2 by omega]
  intro z1271 h1271
  replace h1271 := e_add h1271 (by omega)
  apply And.intro
  · exact ⟨rfl, by omega, by omega⟩
  intro z1272 h1272
  have q1272 : z1272 = (xs (i + 3).toNat).toInt := by rw [h1272, show z1271 = i + 3 by omega]
  obtain ⟨_, e1273, rfl⟩ := hW.1 0 _ rfl
  refine p_callN (a := 0) (As := [q1 z1262, q1 z1267, q1 z1272]) (rest := []) hW rfl e1273 (Nat.le_of_ble_eq_true rfl) ⟨_, _, _, rfl⟩ (fun r w hW hr => ?_)
  obtain ⟨r1273, rfl⟩ := hr
  intro z1281 h1281
  replace h1281 := e_add h1281 (by omega)
  apply And.intro
  · exact ⟨rfl, by omega, by omega⟩
  intro z1282 h1282
  have q1282 : z1282 = (xs (i + 1).toNat).toInt := by rw [h1282, show z1281 = i + 1 by omega]
  intro z1286 h1286
  replace h1286 := e_add h1286 (by omega)
  apply And.intro
  · exact ⟨rfl, by omega, by omega⟩
  intro z1287 h1287
  have q1287 : z1287 = (xs (i + 2).toNat).toInt := by rw [h1287, show z1286 = i + 2 by omega]
  intro z1291 h1291
  replace h1291 := e_add h1291 (by omega)
  apply And.intro
  · exact ⟨rfl, by omega, by omega⟩
  intro z1292 h1292
  have q1292 : z1292 = (xs (i + 3).toNat).toInt := by rw [h1292, show z1291 = i + 3 by omega]
  obtain ⟨_, e1293, mco_1293, mre_1293, mle_1293, mbe_1293, mso_1293, mva_1293, mwo_1293, mwr_1293, mlf_1293, mlp_1293, mfp_1293, mfd_1293, mgo_1293, mbo_1293, mpe_1293, mye_1293, mpr_1293, mld_1293, msi_1293, mse_1293, rfl⟩ := hW.1 85 _ rfl
  refine p_callN (a := 85) (As := [q1 z1282, q1 z1287, q1 z1292]) (rest := []) hW rfl e1293 (Nat.le_of_ble_eq_true rfl) ⟨_, _, _, rfl⟩ (fun r w hW hr => ?_)
  obtain ⟨r1293, rfl⟩ := hr
  intro z1369 h1369
  replace h1369 := e_add h1369 (by omega)
  exact hk _ _ _ (by omega) hW hR

set_option maxHeartbeats 2000000 in
set_option maxRecDepth 100000 in
theorem v_law_1300 {n L : Nat} {xs : Nat → Int32} {J : Nat → List qV → List qV → qW → Prop} {i : Int} {γ : qG} {w : qW} (hi : 0 ≤ i ∧ i + 6 ≤ L ∧ L ≤ 3072) (hR : REL2 γ) (hW : PN γ n w) (hk : ∀ (j : Int) (γ' : qG) (w' : qW), j = i + 6 → PN γ' n w' → REL2 γ' → J 18 [q2 900, q2 0, q2 85, q1 j] [] w') : b_law_1300 n L xs J [(0, q2 900), (1, q2 0), (2, q2 85), (3, q1 i)] [] w := by
  intro z1304 h1304
  replace h1304 := e_add h1304 (by omega)
  apply And.intro
  · exact ⟨rfl, by omega, by omega⟩
  intro z1305 h1305
  have q1305 : z1305 = (xs (i + 1).toNat).toInt := by rw [h1305, show z1304 = i + 1 by omega]
  obtain ⟨_, e1306, rfl⟩ := hW.1 0 _ rfl
  refine p_callM (a := 0) (As := [q1 z1305]) (rest := []) hW rfl e1306 (Nat.le_of_ble_eq_true rfl) ⟨_, rfl⟩ (fun r γ1306 w hW hr1306 => ?_)
  obtain ⟨r1306, rfl⟩ := rlCoC_z hr1306
  intro z1314 h1314
  replace h1314 := e_add h1314 (by omega)
  apply And.intro
  · exact ⟨rfl, by omega, by omega⟩
  intro z1315 h1315
  have q1315 : z1315 = (xs (i + 1).toNat).toInt := by rw [h1315, show z1314 = i + 1 by omega]
  obtain ⟨_, e1316, mco_1316, mre_1316, mle_1316, mbe_1316, mso_1316, mva_1316, mwo_1316, mwr_1316, mlf_1316, mlp_1316, mfp_1316, mfd_1316, mgo_1316, mbo_1316, mpe_1316, mye_1316, mpr_1316, mld_1316, msi_1316, mse_1316, rfl⟩ := hW.1 85 _ rfl
  refine p_callM (a := 85) (As := [q1 z1315]) (rest := []) hW rfl e1316 (Nat.le_of_ble_eq_true rfl) ⟨_, rfl⟩ (fun r γ1316 w hW hr1316 => ?_)
  obtain ⟨r1316, rfl⟩ := rlCoM_z hr1316
  have R9 := RL2Co (q1305.trans q1315.symm) hR hr1306 hr1316
  intro z1369 h1369
  replace h1369 := e_add h1369 (by omega)
  exact hk _ _ _ (by omega) hW R9.1

set_option maxHeartbeats 2000000 in
set_option maxRecDepth 100000 in
theorem v_law_1346 {n L : Nat} {xs : Nat → Int32} {J : Nat → List qV → List qV → qW → Prop} {i : Int} {γ : qG} {w : qW} (hi : 0 ≤ i ∧ i + 6 ≤ L ∧ L ≤ 3072) (hR : REL2 γ) (hW : PN γ n w) (hk : ∀ (j : Int) (γ' : qG) (w' : qW), j = i + 6 → PN γ' n w' → REL2 γ' → J 18 [q2 900, q2 0, q2 85, q1 j] [] w') : b_law_1346 n L xs J [(0, q2 900), (1, q2 0), (2, q2 85), (3, q1 i)] [] w := by
  intro z1350 h1350
  replace h1350 := e_add h1350 (by omega)
  apply And.intro
  · exact ⟨rfl, by omega, by omega⟩
  intro z1351 h1351
  have q1351 : z1351 = (xs (i + 1).toNat).toInt := by rw [h1351, show z1350 = i + 1 by omega]
  obtain ⟨_, e1352, rfl⟩ := hW.1 0 _ rfl
  refine p_callM (a := 0) (As := [q1 z1351]) (rest := []) hW rfl e1352 (Nat.le_of_ble_eq_true rfl) ⟨_, rfl⟩ (fun r γ1352 w hW hr1352 => ?_)
  obtain ⟨r1352, rfl⟩ := rlAgC_z hr1352
  intro z1360 h1360
  replace h1360 := e_add h1360 (by omega)
  apply And.intro
  · exact ⟨rfl, by omega, by omega⟩
  intro z1361 h1361
  have q1361 : z1361 = (xs (i + 1).toNat).toInt := by rw [h1361, show z1360 = i + 1 by omega]
  obtain ⟨_, e1362, mco_1362, mre_1362, mle_1362, mbe_1362, mso_1362, mva_1362, mwo_1362, mwr_1362, mlf_1362, mlp_1362, mfp_1362, mfd_1362, mgo_1362, mbo_1362, mpe_1362, mye_1362, mpr_1362, mld_1362, msi_1362, mse_1362, rfl⟩ := hW.1 85 _ rfl
  refine p_callM (a := 85) (As := [q1 z1361]) (rest := []) hW rfl e1362 (Nat.le_of_ble_eq_true rfl) ⟨_, rfl⟩ (fun r γ1362 w hW hr1362 => ?_)
  obtain ⟨r1362, rfl⟩ := rlAgM_z hr1362
  have R9 := RL2Ag (q1351.trans q1361.symm) hR hr1352 hr1362
  intro z1369 h1369
  replace h1369 := e_add h1369 (by omega)
  exact hk _ _ _ (by omega) hW R9.1

set_option maxHeartbeats 2000000 in
set_option maxRecDepth 100000 in
theorem v_law_1369 {n L : Nat} {xs : Nat → Int32} {J : Nat → List qV → List qV → qW → Prop} {i : Int} {γ : qG} {w : qW} (hi : 0 ≤ i ∧ i + 6 ≤ L ∧ L ≤ 3072) (hR : REL2 γ) (hW : PN γ n w) (hk : ∀ (j : Int) (γ' : qG) (w' : qW), j = i + 6 → PN γ' n w' → REL2 γ' → J 18 [q2 900, q2 0, q2 85, q1 j] [] w') : b_law_1369 n L xs J [(0, q2 900), (1, q2 0), (2, q2 85), (3, q1 i)] [] w := by
  intro z1369 h1369
  replace h1369 := e_add h1369 (by omega)
  exact hk _ _ _ (by omega) hW hR

set_option maxHeartbeats 2000000 in
set_option maxRecDepth 100000 in
theorem v_img1 {n L : Nat} {xs : Nat → Int32} {J : Nat → List qV → List qV → qW → Prop} {i : Int} {w : qW} (hi : 0 ≤ i ∧ i + 6 ≤ L ∧ L ≤ 3072) (hm : ∀ z : Int, z = (xs (i + 1).toNat).toInt → J 1329 [q2 900, q2 0, q2 85, q1 i] [q1 z, q2 0] w) : b_law_1323 n L xs J [(0, q2 900), (1, q2 0), (2, q2 85), (3, q1 i)] [] w := by
  intro z1327 h1327
  replace h1327 := e_add h1327 (by omega)
  apply And.intro
  · exact ⟨rfl, by omega, by omega⟩
  intro z1328 h1328
  have q1328 : z1328 = (xs (i + 1).toNat).toInt := by rw [h1328, show z1327 = i + 1 by omega]
  exact hm z1328 q1328

set_option maxHeartbeats 2000000 in
set_option maxRecDepth 100000 in
theorem v_img2 {n L : Nat} {xs : Nat → Int32} {J : Nat → List qV → List qV → qW → Prop} {i z r9 : Int} {γ : qG} {w : qW} (hi : 0 ≤ i ∧ i + 6 ≤ L ∧ L ≤ 3072) (hz : z = (xs (i + 1).toNat).toInt) (hF : ∀ (a2 z2 : Int) (γ2 : qG), z = a2 → rlImM γ [q2 85, q1 a2] (some (q1 z2)) γ2 → REL2 γ2 ∧ r9 = z2) (hW : PN γ n w) (hk : ∀ (j : Int) (γ' : qG) (w' : qW), j = i + 6 → PN γ' n w' → REL2 γ' → J 18 [q2 900, q2 0, q2 85, q1 j] [] w') : b_law_1332 n L xs J [(0, q2 900), (1, q2 0), (2, q2 85), (3, q1 i)] [q1 r9] w := by
  intro z1337 h1337
  replace h1337 := e_add h1337 (by omega)
  apply And.intro
  · exact ⟨rfl, by omega, by omega⟩
  intro z1338 h1338
  have q1338 : z1338 = (xs (i + 1).toNat).toInt := by rw [h1338, show z1337 = i + 1 by omega]
  obtain ⟨_, e1339, mco_1339, mre_1339, mle_1339, mbe_1339, mso_1339, mva_1339, mwo_1339, mwr_1339, mlf_1339, mlp_1339, mfp_1339, mfd_1339, mgo_1339, mbo_1339, mpe_1339, mye_1339, mpr_1339, mld_1339, msi_1339, mse_1339, rfl⟩ := hW.1 85 _ rfl
  refine p_callM (a := 85) (As := [q1 z1338]) (rest := []) hW rfl e1339 (Nat.le_of_ble_eq_true rfl) ⟨_, rfl⟩ (fun r γ1339 w hW hr1339 => ?_)
  obtain ⟨r1339, rfl⟩ := rlImM_z hr1339
  have R9 := hF _ _ _ (hz.trans q1338.symm) hr1339
  intro z1369 h1369
  replace h1369 := e_add h1369 (by omega)
  exact hk _ _ _ (by omega) hW R9.1
