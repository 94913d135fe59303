set_option maxHeartbeats 2000000 in
set_option maxRecDepth 100000 in
theorem v_law_164 {n L : Nat} {xs : Nat → Int32} {J : Nat → List qV → List qV → qW → Prop} {i : Int} {γ : qG} {w : qW} (hi : 0 ≤ i ∧ i + 6 ≤ L ∧ L ≤ 3072) (hR : REL2 γ) (hW : PN γ n w) (hk : ∀ (j : Int) (γ' : qG) (w' : qW), j = i + 6 → PN γ' n w' → REL2 γ' → J 18 [q2 900, q2 0, q2 85, q1 j] [] w') : b_law_164 n L xs J [(0, q2 900), (1, q2 0), (2, q2 85), (3, q1 i)] [] w := by
  intro z168 h168
  replace h168 := e_add h168 (by omega)
  apply And.intro
  · exact ⟨rfl, by omega, by omega⟩
  intro z169 h169
  have q169 : z169 = (xs (i + 1).toNat).toInt := by rw [h169, show z168 = i + 1 by omega]
  intro z173 h173
  replace h173 := e_add h173 (by omega)
  apply And.intro
  · exact ⟨rfl, by omega, by omega⟩
  intro z174 h174
  have q174 : z174 = (xs (i + 2).toNat).toInt := by rw [h174, show z173 = i + 2 by omega]
  intro z178 h178
  replace h178 := e_add h178 (by omega)
  apply And.intro
  · exact ⟨rfl, by omega, by omega⟩
  intro z179 h179
  have q179 : z179 = (xs (i + 3).toNat).toInt := by rw [h179, show z178 = i + 3 by omega]
  intro z183 h183
  replace h183 := e_add h183 (by omega)
  apply And.intro
  · exact ⟨rfl, by omega, by omega⟩
  intro z184 h184
  have q184 : z184 = (xs (i + 4).toNat).toInt := by rw [h184, show z183 = i + 4 by omega]
  intro z188 h188
  replace h188 := e_add h188 (by omega)
  apply And.intro
  · exact ⟨rfl, by omega, by omega⟩
  intro z189 h189
  have q189 : z189 = (xs (i + 5).toNat).toInt := by rw [h189, show z188 = i + 5 by omega]
  obtain ⟨_, e190, rfl⟩ := hW.1 0 _ rfl
  refine p_callM (a := 0) (As := [q1 z169, q1 z174, q1 z179, q1 z184, q1 z189]) (rest := []) hW rfl e190 (Nat.le_of_ble_eq_true rfl) ⟨_, _, _, _, _, rfl⟩ (fun r γ190 w hW hr190 => ?_)
  obtain ⟨r190, rfl⟩ := rlFeC_z hr190
  intro z198 h198
  replace h198 := e_add h198 (by omega)
  apply And.intro
  · exact ⟨rfl, by omega, by omega⟩
  intro z199 h199
  have q199 : z199 = (xs (i + 1).toNat).toInt := by rw [h199, show z198 = i + 1 by omega]
  intro z203 h203
  replace h203 := e_add h203 (by omega)
  apply And.intro
  · exact ⟨rfl, by omega, by omega⟩
  intro z204 h204
  have q204 : z204 = (xs (i + 2).toNat).toInt := by rw [h204, show z203 = i + 2 by omega]
  intro z208 h208
  replace h208 := e_add h208 (by omega)
  apply And.intro
  · exact ⟨rfl, by omega, by omega⟩
  intro z209 h209
  have q209 : z209 = (xs (i + 3).toNat).toInt := by rw [h209, show z208 = i + 3 by omega]
  intro z213 h213
  replace h213 := e_add h213 (by omega)
  apply And.intro
  · exact ⟨rfl, by omega, by omega⟩
  intro z214 h214
  have q214 : z214 = (xs (i + 4).toNat).toInt := by rw [h214, show z213 = i + 4 by omega]
  intro z218 h218
  replace h218 := e_add h218 (by omega)
  apply And.intro
  · exact ⟨rfl, by omega, by omega⟩
  intro z219 h219
  have q219 : z219 = (xs (i + 5).toNat).toInt := by rw [h219, show z218 = i + 5 by omega]
  obtain ⟨_, e220, mco_220, mre_220, mle_220, mbe_220, mso_220, mva_220, mwo_220, mwr_220, mlf_220, mlp_220, mfp_220, mfd_220, mgo_220, mbo_220, mpe_220, mye_220, mpr_220, mld_220, msi_220, mse_220, rfl⟩ := hW.1 85 _ rfl
  refine p_callM (a := 85) (As := [q1 z199, q1 z204, q1 z209, q1 z214, q1 z219]) (rest := []) hW rfl e220 (Nat.le_of_ble_eq_true rfl) ⟨_, _, _, _, _, rfl⟩ (fun r γ220 w hW hr220 => ?_)
  obtain ⟨r220, rfl⟩ := rlFeM_z hr220
  have R9 := RL2Fe (q169.trans q199.symm) (q174.trans q204.symm) (q179.trans q209.symm) (q184.trans q214.symm) (q189.trans q219.symm) hR hr190 hr220
  intro z1369 h1369
  replace h1369 := e_add h1369 (by omega)
  exact hk _ _ _ (by omega) hW R9.1

set_option maxHeartbeats 2000000 in
set_option maxRecDepth 100000 in
theorem v_law_227 {n L : Nat} {xs : Nat → Int32} {J : Nat → List qV → List qV → qW → Prop} {i : Int} {γ : qG} {w : qW} (hi : 0 ≤ i ∧ i + 6 ≤ L ∧ L ≤ 3072) (hR : REL2 γ) (hW : PN γ n w) (hk : ∀ (j : Int) (γ' : qG) (w' : qW), j = i + 6 → PN γ' n w' → REL2 γ' → J 18 [q2 900, q2 0, q2 85, q1 j] [] w') : b_law_227 n L xs J [(0, q2 900), (1, q2 0), (2, q2 85), (3, q1 i)] [] w := by
  intro z231 h231
  replace h231 := e_add h231 (by omega)
  apply And.intro
  · exact ⟨rfl, by omega, by omega⟩
  intro z232 h232
  have q232 : z232 = (xs (i + 1).toNat).toInt := by rw [h232, show z231 = i + 1 by omega]
  obtain ⟨_, e233, rfl⟩ := hW.1 0 _ rfl
  refine p_callM (a := 0) (As := [q1 z232]) (rest := []) hW rfl e233 (Nat.le_of_ble_eq_true rfl) ⟨_, rfl⟩ (fun r γ233 w hW hr233 => ?_)
  obtain ⟨r233, rfl⟩ := rlEnC_z hr233
  intro z241 h241
  replace h241 := e_add h241 (by omega)
  apply And.intro
  · exact ⟨rfl, by omega, by omega⟩
  intro z242 h242
  have q242 : z242 = (xs (i + 1).toNat).toInt := by rw [h242, show z241 = i + 1 by omega]
  obtain ⟨_, e243, mco_243, mre_243, mle_243, mbe_243, mso_243, mva_243, mwo_243, mwr_243, mlf_243, mlp_243, mfp_243, mfd_243, mgo_243, mbo_243, mpe_243, mye_243, mpr_243, mld_243, msi_243, mse_243, rfl⟩ := hW.1 85 _ rfl
  refine p_callM (a := 85) (As := [q1 z242]) (rest := []) hW rfl e243 (Nat.le_of_ble_eq_true rfl) ⟨_, rfl⟩ (fun r γ243 w hW hr243 => ?_)
  obtain ⟨r243, rfl⟩ := rlEnM_z hr243
  have R9 := RL2En (q232.trans q242.symm) hR hr233 hr243
  intro z1369 h1369
  replace h1369 := e_add h1369 (by omega)
  exact hk _ _ _ (by omega) hW R9.1

set_option maxHeartbeats 2000000 in
set_option maxRecDepth 100000 in
theorem v_law_250 {n L : Nat} {xs : Nat → Int32} {J : Nat → List qV → List qV → qW → Prop} {i : Int} {γ : qG} {w : qW} (hi : 0 ≤ i ∧ i + 6 ≤ L ∧ L ≤ 3072) (hR : REL2 γ) (hW : PN γ n w) (hk : ∀ (j : Int) (γ' : qG) (w' : qW), j = i + 6 → PN γ' n w' → REL2 γ' → J 18 [q2 900, q2 0, q2 85, q1 j] [] w') : b_law_250 n L xs J [(0, q2 900), (1, q2 0), (2, q2 85), (3, q1 i)] [] w := by
  intro z254 h254
  replace h254 := e_add h254 (by omega)
  apply And.intro
  · exact ⟨rfl, by omega, by omega⟩
  intro z255 h255
  have q255 : z255 = (xs (i + 1).toNat).toInt := by rw [h255, show z254 = i + 1 by omega]
  intro z259 h259
  replace h259 := e_add h259 (by omega)
  apply And.intro
  · exact ⟨rfl, by omega, by omega⟩
  intro z260 h260
  have q260 : z260 = (xs (i + 2).toNat).toInt := by rw [h260, show z259 = i + 2 by omega]
  obtain ⟨_, e261, rfl⟩ := hW.1 0 _ rfl
  refine p_callM (a := 0) (As := [q1 z255, q1 z260]) (rest := []) hW rfl e261 (Nat.le_of_ble_eq_true rfl) ⟨_, _, rfl⟩ (fun r γ261 w hW hr261 => ?_)
  obtain ⟨r261, rfl⟩ := rlTxC_z hr261
  intro z269 h269
  replace h269 := e_add h269 (by omega)
  apply And.intro
  · exact ⟨rfl, by omega, by omega⟩
  intro z270 h270
  have q270 : z270 = (xs (i + 1).toNat).toInt := by rw [h270, show z269 = i + 1 by omega]
  intro z274 h274
  replace h274 := e_add h274 (by omega)
  apply And.intro
  · exact ⟨rfl, by omega, by omega⟩
  intro z275 h275
  have q275 : z275 = (xs (i + 2).toNat).toInt := by rw [h275, show z274 = i + 2 by omega]
  obtain ⟨_, e276, mco_276, mre_276, mle_276, mbe_276, mso_276, mva_276, mwo_276, mwr_276, mlf_276, mlp_276, mfp_276, mfd_276, mgo_276, mbo_276, mpe_276, mye_276, mpr_276, mld_276, msi_276, mse_276, rfl⟩ := hW.1 85 _ rfl
  refine p_callM (a := 85) (As := [q1 z270, q1 z275]) (rest := []) hW rfl e276 (Nat.le_of_ble_eq_true rfl) ⟨_, _, rfl⟩ (fun r γ276 w hW hr276 => ?_)
  obtain ⟨r276, rfl⟩ := rlTxM_z hr276
  have R9 := RL2Tx (q255.trans q270.symm) (q260.trans q275.symm) hR hr261 hr276
  intro z1369 h1369
  replace h1369 := e_add h1369 (by omega)
  exact hk _ _ _ (by omega) hW R9.1

set_option maxHeartbeats 2000000 in
set_option maxRecDepth 100000 in
theorem v_law_283 {n L : Nat} {xs : Nat → Int32} {J : Nat → List qV → List qV → qW → Prop} {i : Int} {γ : qG} {w : qW} (hi : 0 ≤ i ∧ i + 6 ≤ L ∧ L ≤ 3072) (hR : REL2 γ) (hW : PN γ n w) (hk : ∀ (j : Int) (γ' : qG) (w' : qW), j = i + 6 → PN γ' n w' → REL2 γ' → J 18 [q2 900, q2 0, q2 85, q1 j] [] w') : b_law_283 n L xs J [(0, q2 900), (1, q2 0), (2, q2 85), (3, q1 i)] [] w := by
  intro z287 h287
  replace h287 := e_add h287 (by omega)
  apply And.intro
  · exact ⟨rfl, by omega, by omega⟩
  intro z288 h288
  have q288 : z288 = (xs (i + 1).toNat).toInt := by rw [h288, show z287 = i + 1 by omega]
  obtain ⟨_, e289, rfl⟩ := hW.1 0 _ rfl
  refine p_callM (a := 0) (As := [q1 z288]) (rest := []) hW rfl e289 (Nat.le_of_ble_eq_true rfl) ⟨_, rfl⟩ (fun r γ289 w hW hr289 => ?_)
  obtain ⟨r289, rfl⟩ := rlFaC_z hr289
  intro z297 h297
  replace h297 := e_add h297 (by omega)
  apply And.intro
  · exact ⟨rfl, by omega, by omega⟩
  intro z298 h298
  have q298 : z298 = (xs (i + 1).toNat).toInt := by rw [h298, show z297 = i + 1 by omega]
  obtain ⟨_, e299, mco_299, mre_299, mle_299, mbe_299, mso_299, mva_299, mwo_299, mwr_299, mlf_299, mlp_299, mfp_299, mfd_299, mgo_299, mbo_299, mpe_299, mye_299, mpr_299, mld_299, msi_299, mse_299, rfl⟩ := hW.1 85 _ rfl
  refine p_callM (a := 85) (As := [q1 z298]) (rest := []) hW rfl e299 (Nat.le_of_ble_eq_true rfl) ⟨_, rfl⟩ (fun r γ299 w hW hr299 => ?_)
  obtain ⟨r299, rfl⟩ := rlFaM_z hr299
  have R9 := RL2Fa (q288.trans q298.symm) hR hr289 hr299
  intro z1369 h1369
  replace h1369 := e_add h1369 (by omega)
  exact hk _ _ _ (by omega) hW R9.1

set_option maxHeartbeats 2000000 in
set_option maxRecDepth 100000 in
theorem v_law_306 {n L : Nat} {xs : Nat → Int32} {J : Nat → List qV → List qV → qW → Prop} {i : Int} {γ : qG} {w : qW} (hi : 0 ≤ i ∧ i + 6 ≤ L ∧ L ≤ 3072) (hR : REL2 γ) (hW : PN γ n w) (hk : ∀ (j : Int) (γ' : qG) (w' : qW), j = i + 6 → PN γ' n w' → REL2 γ' → J 18 [q2 900, q2 0, q2 85, q1 j] [] w') : b_law_306 n L xs J [(0, q2 900), (1, q2 0), (2, q2 85), (3, q1 i)] [] w := by
  intro z310 h310
  replace h310 := e_add h310 (by omega)
  apply And.intro
  · exact ⟨rfl, by omega, by omega⟩
  intro z311 h311
  have q311 : z311 = (xs (i + 1).toNat).toInt := by rw [h311, show z310 = i + 1 by omega]
  intro z315 h315
  replace h315 := e_add h315 (by omega)
  apply And.intro
  · exact ⟨rfl, by omega, by omega⟩
  intro z316 h316
  have q316 : z316 = (xs (i + 2).toNat).toInt := by rw [h316, show z315 = i + 2 by omega]
  obtain ⟨_, e317, rfl⟩ := hW.1 0 _ rfl
  refine p_callM (a := 0) (As := [q1 z311, q1 z316]) (rest := []) hW rfl e317 (Nat.le_of_ble_eq_true rfl) ⟨_, _, rfl⟩ (fun r γ317 w hW hr317 => ?_)
  obtain ⟨r317, rfl⟩ := rlBoC_z hr317
  intro z325 h325
  replace h325 := e_add h325 (by omega)
  apply And.intro
  · exact ⟨rfl, by omega, by omega⟩
  intro z326 h326
  have q326 : z326 = (xs (i + 1).toNat).toInt := by rw [h326, show z325 = i + 1 by omega]
  intro z330 h330
  replace h330 := e_add h330 (by omega)
  apply And.intro
  · exact ⟨rfl, by omega, by omega⟩
  intro z331 h331
  have q331 : z331 = (xs (i + 2).toNat).toInt := by rw [h331, show z330 = i + 2 by omega]
  obtain ⟨_, e332, mco_332, mre_332, mle_332, mbe_332, mso_332, mva_332, mwo_332, mwr_332, mlf_332, mlp_332, mfp_332, mfd_332, mgo_332, mbo_332, mpe_332, mye_332, mpr_332, mld_332, msi_332, mse_332, rfl⟩ := hW.1 85 _ rfl
  refine p_callM (a := 85) (As := [q1 z326, q1 z331]) (rest := []) hW rfl e332 (Nat.le_of_ble_eq_true rfl) ⟨_, _, rfl⟩ (fun r γ332 w hW hr332 => ?_)
  obtain ⟨r332, rfl⟩ := rlBoM_z hr332
  have R9 := RL2Bo (q311.trans q326.symm) (q316.trans q331.symm) hR hr317 hr332
  intro z1369 h1369
  replace h1369 := e_add h1369 (by omega)
  exact hk _ _ _ (by omega) hW R9.1

set_option maxHeartbeats 2000000 in
set_option maxRecDepth 100000 in
theorem v_law_339 {n L : Nat} {xs : Nat → Int32} {J : Nat → List qV → List qV → qW → Prop} {i : Int} {γ : qG} {w : qW} (hi : 0 ≤ i ∧ i + 6 ≤ L ∧ L ≤ 3072) (hR : REL2 γ) (hW : PN γ n w) (hk : ∀ (j : Int) (γ' : qG) (w' : qW), j = i + 6 → PN γ' n w' → REL2 γ' → J 18 [q2 900, q2 0, q2 85, q1 j] [] w') : b_law_339 n L xs J [(0, q2 900), (1, q2 0), (2, q2 85), (3, q1 i)] [] w := by
  intro z343 h343
  replace h343 := e_add h343 (by omega)
  apply And.intro
  · exact ⟨rfl, by omega, by omega⟩
  intro z344 h344
  have q344 : z344 = (xs (i + 1).toNat).toInt := by rw [h344, show z343 = i + 1 by omega]
  intro z348 h348
  replace h348 := e_add h348 (by omega)
  apply And.intro
  · exact ⟨rfl, by omega, by omega⟩
  intro z349 h349
  have q349 : z349 = (xs (i + 2).toNat).toInt := by rw [h349, show z348 = i + 2 by omega]
  intro z353 h353
  replace h353 := e_add h353 (by omega)
  apply And.intro
  · exact ⟨rfl, by omega, by omega⟩
  intro z354 h354
  have q354 : z354 = (xs (i + 3).toNat).toInt := by rw [h354, show z353 = i + 3 by omega]
  obtain ⟨_, e355, rfl⟩ := hW.1 0 _ rfl
  refine p_callM (a := 0) (As := [q1 z344, q1 z349, q1 z354]) (rest := []) hW rfl e355 (Nat.le_of_ble_eq_true rfl) ⟨_, _, _, rfl⟩ (fun r γ355 w hW hr355 => ?_)
  obtain ⟨r355, rfl⟩ := rlDeC_z hr355
  intro z363 h363
  replace h363 := e_add h363 (by omega)
  apply And.intro
  · exact ⟨rfl, by omega, by omega⟩
  intro z364 h364
  have q364 : z364 = (xs (i + 1).toNat).toInt := by rw [h364, show z363 = i + 1 by omega]
  intro z368 h368
  replace h368 := e_add h368 (by omega)
  apply And.intro
  · exact ⟨rfl, by omega, by omega⟩
  intro z369 h369
  have q369 : z369 = (xs (i + 2).toNat).toInt := by rw [h369, show z368 = i + 2 by omega]
  intro z373 h373
  replace h373 := e_add h373 (by omega)
  apply And.intro
  · exact ⟨rfl, by omega, by omega⟩
  intro z374 h374
  have q374 : z374 = (xs (i + 3).toNat).toInt := by rw [h374, show z373 = i + 3 by omega]
  obtain ⟨_, e375, mco_375, mre_375, mle_375, mbe_375, mso_375, mva_375, mwo_375, mwr_375, mlf_375, mlp_375, mfp_375, mfd_375, mgo_375, mbo_375, mpe_375, mye_375, mpr_375, mld_375, msi_375, mse_375, rfl⟩ := hW.1 85 _ rfl
  refine p_callM (a := 85) (As := [q1 z364, q1 z369, q1 z374]) (rest := []) hW rfl e375 (Nat.le_of_ble_eq_true rfl) ⟨_, _, _, rfl⟩ (fun r γ375 w hW hr375 => ?_)
  obtain ⟨r375, rfl⟩ := rlDeM_z hr375
  have R9 := RL2De (q344.trans q364.symm) (q349.trans q369.symm) (q354.trans q374.symm) hR hr355 hr375
  intro z1369 h1369
  replace h1369 := e_add h1369 (by omega)
  exact hk _ _ _ (by omega) hW R9.1

set_option maxHeartbeats 2000000 in
set_option maxRecDepth 100000 in
theorem v_law_382 {n L : Nat} {xs : Nat → Int32} {J : Nat → List qV → List qV → qW → Prop} {i : Int} {γ : qG} {w : qW} (hi : 0 ≤ i ∧ i + 6 ≤ L ∧ L ≤ 3072) (hR : REL2 γ) (hW : PN γ n w) (hk : ∀ (j : Int) (γ' : qG) (w' : qW), j = i + 6 → PN γ' n w' → REL2 γ' → J 18 [q2 900, q2 0, q2 85, q1 j] [] w') : b_law_382 n L xs J [(0, q2 900), (1, q2 0), (2, q2 85), (3, q1 i)] [] w := by
  intro z386 h386
  replace h386 := e_add h386 (by omega)
  apply And.intro
  · exact ⟨rfl, by omega, by omega⟩
  intro z387 h387
  have q387 : z387 = (xs (i + 1).toNat).toInt := by rw [h387, show z386 = i + 1 by omega]
  intro z391 h391
  replace h391 := e_add h391 (by omega)
  apply And.intro
  · exact ⟨rfl, by omega, by omega⟩
  intro z392 h392
  have q392 : z392 = (xs (i + 2).toNat).toInt := by rw [h392, show z391 = i + 2 by omega]
  obtain ⟨_, e393, rfl⟩ := hW.1 0 _ rfl
  refine p_callN (a := 0) (As := [q1 z387, q1 z392]) (rest := []) hW rfl e393 (Nat.le_of_ble_eq_true rfl) ⟨_, _, rfl⟩ (fun r w hW hr => ?_)
  obtain ⟨r393, rfl⟩ := hr
  intro z401 h401
  replace h401 := e_add h401 (by omega)
  apply And.intro
  · exact ⟨rfl, by omega, by omega⟩
  intro z402 h402
  have q402 : z402 = (xs (i + 1).toNat).toInt := by rw [h402, show z401 = i + 1 by omega]
  intro z406 h406
  replace h406 := e_add h406 (by omega)
  apply And.intro
  · exact ⟨rfl, by omega, by omega⟩
  intro z407 h407
  have q407 : z407 = (xs (i + 2).toNat).toInt := by rw [h407, show z406 = i + 2 by omega]
  obtain ⟨_, e408, mco_408, mre_408, mle_408, mbe_408, mso_408, mva_408, mwo_408, mwr_408, mlf_408, mlp_408, mfp_408, mfd_408, mgo_408, mbo_408, mpe_408, mye_408, mpr_408, mld_408, msi_408, mse_408, rfl⟩ := hW.1 85 _ rfl
  refine p_callN (a := 85) (As := [q1 z402, q1 z407]) (rest := []) hW rfl e408 (Nat.le_of_ble_eq_true rfl) ⟨_, _, rfl⟩ (fun r w hW hr => ?_)
  obtain ⟨r408, rfl⟩ := hr
  intro z1369 h1369
  replace h1369 := e_add h1369 (by omega)
  exact hk _ _ _ (by omega) hW hR

set_option maxHeartbeats 2000000 in
set_option maxRecDepth 100000 in
theorem v_law_415 {n L : Nat} {xs : Nat → Int32} {J : Nat → List qV → List qV → qW → Prop} {i : Int} {γ : qG} {w : qW} (hi : 0 ≤ i ∧ i + 6 ≤ L ∧ L ≤ 3072) (hR : REL2 γ) (hW : PN γ n w) (hk : ∀ (j : Int) (γ' : qG) (w' : qW), j = i + 6 → PN γ' n w' → REL2 γ' → J 18 [q2 900, q2 0, q2 85, q1 j] [] w') : b_law_415 n L xs J [(0, q2 900), (1, q2 0), (2, q2 85), (3, q1 i)] [] w := by
  intro z419 h419
  replace h419 := e_add h419 (by omega)
  apply And.intro
  · exact ⟨rfl, by omega, by omega⟩
  intro z420 h420
  have q420 : z420 = (xs (i + 1).toNat).toInt := by rw [h420, show z419 = i + 1 by omega]
  intro z424 h424
  replace h424 := e_add h424 (by omega)
  apply And.intro
  · exact ⟨rfl, by omega, by omega⟩
  intro z425 h425
  have q425 : z425 = (xs (i + 2).toNat).toInt := by rw [h425, show z424 = i + 2 by omega]
  intro z429 h429
  replace h429 := e_add h429 (by omega)
  apply And.intro
  · exact ⟨rfl, by omega, by omega⟩
  intro z430 h430
  have q430 : z430 = (xs (i + 3).toNat).toInt := by rw [h430, show z429 = i + 3 by omega]
  intro z434 h434
  replace h434 := e_add h434 (by omega)
  apply And.intro
  · exact ⟨rfl, by omega, by omega⟩
  intro z435 h435
  have q435 : z435 = (xs (i + 4).toNat).toInt := by rw [h435, show z434 = i + 4 by omega]
  obtain ⟨_, e436, rfl⟩ := hW.1 0 _ rfl
  refine p_callN (a := 0) (As := [q1 z420, q1 z425, q1 z430, q1 z435]) (rest := []) hW rfl e436 (Nat.le_of_ble_eq_true rfl) ⟨_, _, _, _, rfl⟩ (fun r w hW hr => ?_)
  obtain ⟨r436, rfl⟩ := hr
  intro z444 h444
  replace h444 := e_add h444 (by omega)
  apply And.intro
  · exact ⟨rfl, by omega, by omega⟩
  intro z445 h445
  have q445 : z445 = (xs (i + 1).toNat).toInt := by rw [h445, show z444 = i + 1 by omega]
  intro z449 h449
  replace h449 := e_add h449 (by omega)
  apply And.intro
  · exact ⟨rfl, by omega, by omega⟩
  intro z450 h450
  have q450 : z450 = (xs (i + 2).toNat).toInt := by rw [h450, show z449 = i + 2 by omega]
  intro z454 h454
  replace h454 := e_add h454 (by omega)
  apply And.intro
  · exact ⟨rfl, by omega, by omega⟩
  intro z455 h455
  have q455 : z455 = (xs (i + 3).toNat).toInt := by rw [h455, show z454 = i + 3 by omega]
  intro z459 h459
  replace h459 := e_add h459 (by omega)
  apply And.intro
  · exact ⟨rfl, by omega, by omega⟩
  intro z460 h460
  have q460 : z460 = (xs (i + 4).toNat).toInt := by rw [h460, show z459 = i + 4 by omega]
  obtain ⟨_, e461, mco_461, mre_461, mle_461, mbe_461, mso_461, mva_461, mwo_461, mwr_461, mlf_461, mlp_461, mfp_461, mfd_461, mgo_461, mbo_461, mpe_461, mye_461, mpr_461, mld_461, msi_461, mse_461, rfl⟩ := hW.1 85 _ rfl
  refine p_callN (a := 85) (As := [q1 z445, q1 z450, q1 z455, q1 z460]) (rest := []) hW rfl e461 (Nat.le_of_ble_eq_true rfl) ⟨_, _, _, _, rfl⟩ (fun r w hW hr => ?_)
  obtain ⟨r461, rfl⟩ := hr
  intro z1369 h1369
  replace h1369 := e_add h1369 (by omega)
  exact hk _ _ _ (by omega) hW hR
