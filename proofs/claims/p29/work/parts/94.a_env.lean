theorem zz_Xof {args : Array Value} {s : State} {tm : Term} {N : Nat} {f : Nat → Int32} (hN : N < 2 ^ 31) (harr : (Cond.arrayOf tm .int).before args s = true) (hlen : (Term.length tm).eval args s none [] s = some (.int (Int32.ofNat N))) (hel : ∀ j : Nat, j < N → (Term.elem tm (.int (Int32.ofNat j))).eval args s none [] s = some (.int (f j))) : ∃ t : Nat, tm.eval args s none [] s = some (.ref t) ∧ va_X t N f s s.heap ∧ t < s.heap.size := by
  obtain ⟨t, ht, cell, hc, hof, hkn, -, hsz, hel2, -⟩ := va_Tof (A := fun _ => False) (f := fun j => .int (f j)) hN harr hlen hel (fun _ _ h => h)
  obtain ⟨t2, cell2, ht2, hat, -⟩ := Term.length_spec hlen
  cases ht.symm.trans ht2
  obtain ⟨hcell, -, -, -⟩ := State.arrayAt?_spec hat
  cases hc.symm.trans hcell
  have hlt : cell.slots.size < 2 ^ 31 := by
    simp only [Term.eval, ht, hat, Option.bind_eq_bind, Option.bind_some] at hlen
    by_cases hlt : cell.slots.size < 2147483648
    · exact hlt
    · simp [hlt] at hlen
  have hN2 : cell.slots.size = N := (nI_eq hlt hN).mp hsz
  exact ⟨t, ht, ⟨cell, hc, hof, hkn, hN2, hel2⟩, (Array.getElem?_eq_some_iff.mp hc).1⟩

set_option maxRecDepth 20000 in
theorem in_law_0 : ∀ w ∈ u_ws RX0 TX0 12, w ∈ lw_tbl := fun w h => ((goodIn_r (big := lw_tbl) (u_ws RX0 TX0 12) (250 :: 252 :: 254 :: 256 :: 258 :: 260 :: 262 :: 264 :: 266 :: 268 :: 270 :: 272 :: []) (by decide +kernel) (by decide +kernel)) w h).1
set_option maxRecDepth 20000 in
theorem in_law_1 : ∀ w ∈ u_ws RX1 TX1 3, w ∈ lw_tbl := fun w h => ((goodIn_r (big := lw_tbl) (u_ws RX1 TX1 3) (540 :: 542 :: 544 :: []) (by decide +kernel) (by decide +kernel)) w h).1
set_option maxRecDepth 20000 in
theorem in_law_2 : ∀ w ∈ u_ws RX2 TX2 5, w ∈ lw_tbl := fun w h => ((goodIn_r (big := lw_tbl) (u_ws RX2 TX2 5) (519 :: 521 :: 523 :: 525 :: 527 :: []) (by decide +kernel) (by decide +kernel)) w h).1
set_option maxRecDepth 20000 in
theorem in_law_3 : ∀ w ∈ u_ws RX3 TX3 2, w ∈ lw_tbl := fun w h => ((goodIn_r (big := lw_tbl) (u_ws RX3 TX3 2) (322 :: 324 :: []) (by decide +kernel) (by decide +kernel)) w h).1
set_option maxRecDepth 20000 in
theorem in_law_4 : ∀ w ∈ u_ws RX4 TX4 4, w ∈ lw_tbl := fun w h => ((goodIn_r (big := lw_tbl) (u_ws RX4 TX4 4) (499 :: 501 :: 503 :: 505 :: []) (by decide +kernel) (by decide +kernel)) w h).1
set_option maxRecDepth 20000 in
theorem in_law_5 : ∀ w ∈ u_ws RX5 TX5 3, w ∈ lw_tbl := fun w h => ((goodIn_r (big := lw_tbl) (u_ws RX5 TX5 3) (482 :: 484 :: 486 :: []) (by decide +kernel) (by decide +kernel)) w h).1
set_option maxRecDepth 20000 in
theorem in_law_6 : ∀ w ∈ u_ws RX6 TX6 15, w ∈ lw_tbl := fun w h => ((goodIn_r (big := lw_tbl) (u_ws RX6 TX6 15) (418 :: 420 :: 422 :: 424 :: 426 :: 428 :: 430 :: 432 :: 434 :: 436 :: 438 :: 440 :: 442 :: 444 :: 446 :: []) (by decide +kernel) (by decide +kernel)) w h).1
set_option maxRecDepth 20000 in
theorem in_law_7 : ∀ w ∈ u_ws RX7 TX7 3, w ∈ lw_tbl := fun w h => ((goodIn_r (big := lw_tbl) (u_ws RX7 TX7 3) (342 :: 344 :: 346 :: []) (by decide +kernel) (by decide +kernel)) w h).1
set_option maxRecDepth 20000 in
theorem in_law_8 : ∀ w ∈ u_ws RX8 TX8 9, w ∈ lw_tbl := fun w h => ((goodIn_r (big := lw_tbl) (u_ws RX8 TX8 9) (363 :: 365 :: 367 :: 369 :: 371 :: 373 :: 375 :: 377 :: 379 :: []) (by decide +kernel) (by decide +kernel)) w h).1
set_option maxRecDepth 20000 in
theorem in_law_9 : ∀ w ∈ u_ws RX9 TX9 5, w ∈ lw_tbl := fun w h => ((goodIn_r (big := lw_tbl) (u_ws RX9 TX9 5) (460 :: 462 :: 464 :: 466 :: 468 :: []) (by decide +kernel) (by decide +kernel)) w h).1
set_option maxRecDepth 20000 in
theorem in_law_10 : ∀ w ∈ u_ws RX10 TX10 5, w ∈ lw_tbl := fun w h => ((goodIn_r (big := lw_tbl) (u_ws RX10 TX10 5) (296 :: 298 :: 300 :: 302 :: 304 :: []) (by decide +kernel) (by decide +kernel)) w h).1
set_option maxRecDepth 20000 in
theorem in_law_11 : ∀ w ∈ u_ws RX11 TX11 8, w ∈ lw_tbl := fun w h => ((goodIn_r (big := lw_tbl) (u_ws RX11 TX11 8) (555 :: 557 :: 559 :: 561 :: 563 :: 565 :: 567 :: 569 :: []) (by decide +kernel) (by decide +kernel)) w h).1
set_option maxRecDepth 20000 in
theorem in_law_12 : ∀ w ∈ u_ws RX12 TX12 45, w ∈ lw_tbl := fun w h => ((goodIn_r (big := lw_tbl) (u_ws RX12 TX12 45) (1376 :: 1378 :: 1380 :: 1382 :: 1384 :: 1386 :: 1388 :: 1390 :: 1392 :: 1394 :: 1396 :: 1398 :: 1400 :: 1402 :: 1404 :: 1406 :: 1408 :: 1410 :: 1412 :: 1414 :: 1416 :: 1418 :: 1420 :: 1422 :: 1424 :: 1426 :: 1428 :: 1430 :: 1432 :: 1434 :: 1436 :: 1438 :: 1440 :: 1442 :: 1444 :: 1446 :: 1448 :: 1450 :: 1452 :: 1454 :: 1456 :: 1458 :: 1460 :: 1462 :: 1464 :: []) (by decide +kernel) (by decide +kernel)) w h).1
set_option maxHeartbeats 4000000 in
set_option maxRecDepth 100000 in
theorem law_env {s : State} {b : Nat} (hts : ∀ w ∈ lw_tbl, w.before #[Value.ref b] s = true) (hgv : (Jvm.Cond.and given_1 narrow_1).before #[Value.ref b] s = true) : ∃ (dC : Nat → ClassId) (dI : Nat → Nat → Nat) (k : Nat → ClassId) (tF : Nat), va_K (dC, dI) vwCl (tyL k) s ∧ ev tF (fun q => s.heap.size ≤ q) s := by
  obtain ⟨c0, iS0, hKn0⟩ := u_known (C := RX0) (T := TX0) (N := 12) (n := 12) hts in_law_0 (hts (.instantiable RX0 12) (List.mem_of_getElem? (i := 187) (by decide +kernel)))
  obtain ⟨c1, iS1, hKn1⟩ := u_known (C := RX1) (T := TX1) (N := 3) (n := 3) hts in_law_1 (hts (.instantiable RX1 3) (List.mem_of_getElem? (i := 532) (by decide +kernel)))
  obtain ⟨c2, iS2, hKn2⟩ := u_known (C := RX2) (T := TX2) (N := 5) (n := 5) hts in_law_2 (hts (.instantiable RX2 5) (List.mem_of_getElem? (i := 509) (by decide +kernel)))
  obtain ⟨c3, iS3, hKn3⟩ := u_known (C := RX3) (T := TX3) (N := 2) (n := 2) hts in_law_3 (hts (.instantiable RX3 2) (List.mem_of_getElem? (i := 309) (by decide +kernel)))
  obtain ⟨c4, iS4, hKn4⟩ := u_known (C := RX4) (T := TX4) (N := 4) (n := 4) hts in_law_4 (hts (.instantiable RX4 4) (List.mem_of_getElem? (i := 490) (by decide +kernel)))
  obtain ⟨c5, iS5, hKn5⟩ := u_known (C := RX5) (T := TX5) (N := 3) (n := 3) hts in_law_5 (hts (.instantiable RX5 3) (List.mem_of_getElem? (i := 472) (by decide +kernel)))
  obtain ⟨c6, iS6, hKn6⟩ := u_known (C := RX6) (T := TX6) (N := 15) (n := 15) hts in_law_6 (hts (.instantiable RX6 15) (List.mem_of_getElem? (i := 384) (by decide +kernel)))
  obtain ⟨c7, iS7, hKn7⟩ := u_known (C := RX7) (T := TX7) (N := 3) (n := 3) hts in_law_7 (hts (.instantiable RX7 3) (List.mem_of_getElem? (i := 329) (by decide +kernel)))
  obtain ⟨c8, iS8, hKn8⟩ := u_known (C := RX8) (T := TX8) (N := 9) (n := 9) hts in_law_8 (hts (.instantiable RX8 9) (List.mem_of_getElem? (i := 180) (by decide +kernel)))
  obtain ⟨c9, iS9, hKn9⟩ := u_known (C := RX9) (T := TX9) (N := 5) (n := 5) hts in_law_9 (hts (.instantiable RX9 5) (List.mem_of_getElem? (i := 450) (by decide +kernel)))
  obtain ⟨c10, iS10, hKn10⟩ := u_known (C := RX10) (T := TX10) (N := 5) (n := 5) hts in_law_10 (hts (.instantiable RX10 5) (List.mem_of_getElem? (i := 279) (by decide +kernel)))
  obtain ⟨c11, iS11, hKn11⟩ := u_known (C := RX11) (T := TX11) (N := 8) (n := 8) hts in_law_11 (hts (.instantiable RX11 8) (List.mem_of_getElem? (i := 172) (by decide +kernel)))
  obtain ⟨c12, iS12, hKn12⟩ := u_known (C := RX12) (T := TX12) (N := 45) (n := 45) hts in_law_12 (hts (.instantiable RX12 45) (List.mem_of_getElem? (i := 1326) (by decide +kernel)))
  obtain ⟨t0, kk0, cm0, f01, f02, f03⟩ := Cond.arrayClass_spec (hts (.arrayClass .int) (List.mem_of_getElem? (i := 276) (by decide +kernel)))
  obtain ⟨t1, kk1, cm1, f11, f12, f13⟩ := Cond.arrayClass_spec (hts (.arrayClass .byte) (List.mem_of_getElem? (i := 275) (by decide +kernel)))
  obtain ⟨t2, kk2, cm2, f21, f22, f23⟩ := Cond.arrayClass_spec (hts (.arrayClass .boolean) (List.mem_of_getElem? (i := 1467) (by decide +kernel)))
  obtain ⟨t3, kk3, cm3, f31, f32, f33⟩ := Cond.arrayClass_spec (hts (.arrayClass .long) (List.mem_of_getElem? (i := 530) (by decide +kernel)))
  have ho4 : (Cond.arrayOver (.object "HeightFine$Borough")).before #[Value.ref b] s = true := hts _ (List.mem_of_getElem? (i := 186) (by decide +kernel))
  obtain ⟨cm4, t4, kk4, f41, -, f42, f43, f44⟩ := Cond.arrayOver_spec ho4
  have ho5 : (Cond.arrayOver (.object "HeightFine$Year")).before #[Value.ref b] s = true := hts _ (List.mem_of_getElem? (i := 278) (by decide +kernel))
  obtain ⟨cm5, t5, kk5, f51, -, f52, f53, f54⟩ := Cond.arrayOver_spec ho5
  have ho6 : (Cond.arrayOver (.object "HeightFine$Ledger")).before #[Value.ref b] s = true := hts _ (List.mem_of_getElem? (i := 308) (by decide +kernel))
  obtain ⟨cm6, t6, kk6, f61, -, f62, f63, f64⟩ := Cond.arrayOver_spec ho6
  have ho7 : (Cond.arrayOver (.object "HeightFine$Sight")).before #[Value.ref b] s = true := hts _ (List.mem_of_getElem? (i := 328) (by decide +kernel))
  obtain ⟨cm7, t7, kk7, f71, -, f72, f73, f74⟩ := Cond.arrayOver_spec ho7
  have ho8 : (Cond.arrayOver (.object "HeightFine$Told")).before #[Value.ref b] s = true := hts _ (List.mem_of_getElem? (i := 382) (by decide +kernel))
  obtain ⟨cm8, t8, kk8, f81, -, f82, f83, f84⟩ := Cond.arrayOver_spec ho8
  have hq := flat_of_before _ hgv
  have harr : (Cond.arrayOf (.static "HeightFine" "FIRST_FINES" "[I") .int).before #[Value.ref b] s = true := hq _ (by decide +kernel)
  have hlen := va_eqt (t := .length (.static "HeightFine" "FIRST_FINES" "[I")) (z := 4) (hq _ (by decide +kernel))
  have h0 := va_eqt (t := .elem (.static "HeightFine" "FIRST_FINES" "[I") (.int 0)) (z := 6) (hq _ (by decide +kernel))
  have h1 := va_eqt (t := .elem (.static "HeightFine" "FIRST_FINES" "[I") (.int 1)) (z := 3) (hq _ (by decide +kernel))
  have h2 := va_eqt (t := .elem (.static "HeightFine" "FIRST_FINES" "[I") (.int 2)) (z := 1) (hq _ (by decide +kernel))
  have h3 := va_eqt (t := .elem (.static "HeightFine" "FIRST_FINES" "[I") (.int 3)) (z := 2) (hq _ (by decide +kernel))
  obtain ⟨tF, htF, hX, hlt⟩ := zz_Xof (N := 4) (f := fun j => if j = 0 then 6 else if j = 1 then 3 else if j = 2 then 1 else 2) (by decide) harr hlen (fun j hj => by
    rcases (show j = 0 ∨ j = 1 ∨ j = 2 ∨ j = 3 by omega) with rfl | rfl | rfl | rfl
    · exact h0
    · exact h1
    · exact h2
    · exact h3)
  have hZ : va_Z "HeightFine" "FIRST_FINES" "[I" (.ref tF) (fun q => s.heap.size ≤ q) s s.heap := va_Zof (hts (.laysStatic "HeightFine" "FIRST_FINES" "[I") (List.mem_of_getElem? (i := 200) (by decide +kernel))) (hts (.initialized "HeightFine") (List.mem_of_getElem? (i := 150) (by decide +kernel))) htF (fun q h => Nat.not_le.mpr h)
  refine ⟨fun j => if j = 0 then c0 else if j = 1 then c1 else if j = 2 then c2 else if j = 3 then c3 else if j = 4 then c4 else if j = 5 then c5 else if j = 6 then c6 else if j = 7 then c7 else if j = 8 then c8 else if j = 9 then c9 else if j = 10 then c10 else if j = 11 then c11 else c12, fun j => if j = 0 then iS0 else if j = 1 then iS1 else if j = 2 then iS2 else if j = 3 then iS3 else if j = 4 then iS4 else if j = 5 then iS5 else if j = 6 then iS6 else if j = 7 then iS7 else if j = 8 then iS8 else if j = 9 then iS9 else if j = 10 then iS10 else if j = 11 then iS11 else iS12, fun j => if j = 0 then t0 else if j = 1 then t1 else if j = 2 then t2 else if j = 3 then t3 else if j = 4 then t4 else if j = 5 then t5 else if j = 6 then t6 else if j = 7 then t7 else t8, tF, ⟨?_, ?_⟩, ⟨?_, va_AO.of ho4, va_AO.of ho5, va_AO.of ho6, va_AO.of ho7, va_AO.of ho8⟩, hZ, ⟨_, hX⟩, hlt, Nat.not_le.mpr hlt⟩
  · intro c q hq
    match c, hq with
    | 0, hq => cases hq; exact hKn0
    | 1, hq => cases hq; exact hKn1
    | 2, hq => cases hq; exact hKn2
    | 3, hq => cases hq; exact hKn3
    | 4, hq => cases hq; exact hKn4
    | 5, hq => cases hq; exact hKn5
    | 6, hq => cases hq; exact hKn6
    | 7, hq => cases hq; exact hKn7
    | 8, hq => cases hq; exact hKn8
    | 9, hq => cases hq; exact hKn9
    | 10, hq => cases hq; exact hKn10
    | 11, hq => cases hq; exact hKn11
    | 12, hq => cases hq; exact hKn12
    | c + 13, hq =>
      rw [List.getElem?_eq_none (show vwCl.length ≤ c + 13 from Nat.le_add_left 13 c)] at hq
      cases hq
  · intro i q hq
    match i, hq with
    | 0, hq => cases hq; exact ⟨fun N z => ⟨fun _ h => (by cases h), kk0, f02, cm0, f03⟩, f01⟩
    | 1, hq => cases hq; exact ⟨fun N z => ⟨fun _ h => (by cases h), kk1, f12, cm1, f13⟩, f11⟩
    | 2, hq => cases hq; exact ⟨fun N z => ⟨fun _ h => (by cases h), kk2, f22, cm2, f23⟩, f21⟩
    | 3, hq => cases hq; exact ⟨fun N z => ⟨fun _ h => (by cases h), kk3, f32, cm3, f33⟩, f31⟩
    | 4, hq => cases hq; exact ⟨fun N z => ⟨fun _ h => (by cases h), kk4, f42, cm4, f43⟩, kk4, cm4, f42, f43, f41, f44⟩
    | 5, hq => cases hq; exact ⟨fun N z => ⟨fun _ h => (by cases h), kk5, f52, cm5, f53⟩, kk5, cm5, f52, f53, f51, f54⟩
    | 6, hq => cases hq; exact ⟨fun N z => ⟨fun _ h => (by cases h), kk6, f62, cm6, f63⟩, kk6, cm6, f62, f63, f61, f64⟩
    | 7, hq => cases hq; exact ⟨fun N z => ⟨fun _ h => (by cases h), kk7, f72, cm7, f73⟩, kk7, cm7, f72, f73, f71, f74⟩
    | 8, hq => cases hq; exact ⟨fun N z => ⟨fun _ h => (by cases h), kk8, f82, cm8, f83⟩, kk8, cm8, f82, f83, f81, f84⟩
    | i + 9, hq =>
      rw [List.getElem?_eq_none (show 9 ≤ i + 9 from Nat.le_add_left 9 i)] at hq
      cases hq
  · intro w hw
    have hm : w ∈ lw_tbl := by
      rw [show evM = ((181 :: 385 :: 451 :: 473 :: 491 :: 510 :: 533 :: 392 :: 394 :: 396 :: 280 :: 310 :: 330 :: 199 :: []) : List Nat).filterMap (fun i => lw_tbl[i]?) by decide +kernel] at hw
      obtain ⟨i, -, hi⟩ := List.mem_filterMap.mp hw
      exact List.mem_of_getElem? hi
    have h1 := hts w hm
    simp only [evM, List.mem_cons, List.not_mem_nil, or_false] at hw
    rcases hw with rfl | rfl | rfl | rfl | rfl | rfl | rfl | rfl | rfl | rfl | rfl | rfl | rfl | rfl
    all_goals exact va_Nw.of rfl h1

def flT : List Cond := flatC (Jvm.Cond.and given_1 narrow_1)
set_option maxRecDepth 100000 in
theorem env_s0 {s : State} {b : Nat} (hts : ∀ w ∈ lw_tbl, w.before #[Value.ref b] s = true) (hq : ∀ c ∈ flT, c.before #[Value.ref b] s = true) : ∃ t : Nat, va_Z "HeightFine" "FIRST_FINES" "[I" (.ref t) (fun q => s.heap.size ≤ q) s s.heap ∧ va_X t 4 (fun i => Int32.ofInt (qs_0.getD i 0)) s s.heap ∧ t < s.heap.size := by
  have hm : ∀ j : Fin 4, Cond.eq (.elem (.static "HeightFine" "FIRST_FINES" "[I") (.int (Int32.ofNat j.val))) (.int (Int32.ofInt (qs_0.getD j.val 0))) ∈ flT := by decide +kernel
  obtain ⟨t, ht, hX, hlt⟩ := zz_Xof (args := #[Value.ref b]) (tm := (.static "HeightFine" "FIRST_FINES" "[I")) (N := 4) (f := fun i => Int32.ofInt (qs_0.getD i 0)) (by decide) (hq (Cond.arrayOf (.static "HeightFine" "FIRST_FINES" "[I") .int) (by decide +kernel)) (va_eqt (hq (Cond.eq (.length (.static "HeightFine" "FIRST_FINES" "[I")) (.int 4)) (by decide +kernel))) (fun j hj => va_eqt (hq _ (hm ⟨j, hj⟩)))
  exact ⟨t, va_Zof (hts (.laysStatic "HeightFine" "FIRST_FINES" "[I") (List.mem_of_getElem? (i := 200) (by decide +kernel))) (hts (.initialized "HeightFine") (List.mem_of_getElem? (i := 150) (by decide +kernel))) ht (fun q h => Nat.not_le.mpr h), hX, hlt⟩
set_option maxRecDepth 100000 in
theorem env_s1 {s : State} {b : Nat} (hts : ∀ w ∈ lw_tbl, w.before #[Value.ref b] s = true) (hq : ∀ c ∈ flT, c.before #[Value.ref b] s = true) : ∃ t : Nat, va_Z "HeightFine" "SLOT" "[I" (.ref t) (fun q => s.heap.size ≤ q) s s.heap ∧ va_X t 51 (fun i => Int32.ofInt (qs_1.getD i 0)) s s.heap ∧ t < s.heap.size := by
  have hm : ∀ j : Fin 51, Cond.eq (.elem (.static "HeightFine" "SLOT" "[I") (.int (Int32.ofNat j.val))) (.int (Int32.ofInt (qs_1.getD j.val 0))) ∈ flT := by decide +kernel
  obtain ⟨t, ht, hX, hlt⟩ := zz_Xof (args := #[Value.ref b]) (tm := (.static "HeightFine" "SLOT" "[I")) (N := 51) (f := fun i => Int32.ofInt (qs_1.getD i 0)) (by decide) (hq (Cond.arrayOf (.static "HeightFine" "SLOT" "[I") .int) (by decide +kernel)) (va_eqt (hq (Cond.eq (.length (.static "HeightFine" "SLOT" "[I")) (.int 51)) (by decide +kernel))) (fun j hj => va_eqt (hq _ (hm ⟨j, hj⟩)))
  exact ⟨t, va_Zof (hts (.laysStatic "HeightFine" "SLOT" "[I") (List.mem_of_getElem? (i := 737) (by decide +kernel))) (hts (.initialized "HeightFine") (List.mem_of_getElem? (i := 150) (by decide +kernel))) ht (fun q h => Nat.not_le.mpr h), hX, hlt⟩
set_option maxRecDepth 100000 in
theorem env_s2 {s : State} {b : Nat} (hts : ∀ w ∈ lw_tbl, w.before #[Value.ref b] s = true) (hq : ∀ c ∈ flT, c.before #[Value.ref b] s = true) : ∃ t : Nat, va_Z "HeightFine" "LEAST" "[I" (.ref t) (fun q => s.heap.size ≤ q) s s.heap ∧ va_X t 51 (fun i => Int32.ofInt (qs_2.getD i 0)) s s.heap ∧ t < s.heap.size := by
  have hm : ∀ j : Fin 51, Cond.eq (.elem (.static "HeightFine" "LEAST" "[I") (.int (Int32.ofNat j.val))) (.int (Int32.ofInt (qs_2.getD j.val 0))) ∈ flT := by decide +kernel
  obtain ⟨t, ht, hX, hlt⟩ := zz_Xof (args := #[Value.ref b]) (tm := (.static "HeightFine" "LEAST" "[I")) (N := 51) (f := fun i => Int32.ofInt (qs_2.getD i 0)) (by decide) (hq (Cond.arrayOf (.static "HeightFine" "LEAST" "[I") .int) (by decide +kernel)) (va_eqt (hq (Cond.eq (.length (.static "HeightFine" "LEAST" "[I")) (.int 51)) (by decide +kernel))) (fun j hj => va_eqt (hq _ (hm ⟨j, hj⟩)))
  exact ⟨t, va_Zof (hts (.laysStatic "HeightFine" "LEAST" "[I") (List.mem_of_getElem? (i := 751) (by decide +kernel))) (hts (.initialized "HeightFine") (List.mem_of_getElem? (i := 150) (by decide +kernel))) ht (fun q h => Nat.not_le.mpr h), hX, hlt⟩
set_option maxRecDepth 100000 in
theorem env_s3 {s : State} {b : Nat} (hts : ∀ w ∈ lw_tbl, w.before #[Value.ref b] s = true) (hq : ∀ c ∈ flT, c.before #[Value.ref b] s = true) : ∃ t : Nat, va_Z "HeightFine" "GREATEST" "[I" (.ref t) (fun q => s.heap.size ≤ q) s s.heap ∧ va_X t 51 (fun i => Int32.ofInt (qs_3.getD i 0)) s s.heap ∧ t < s.heap.size := by
  have hm : ∀ j : Fin 51, Cond.eq (.elem (.static "HeightFine" "GREATEST" "[I") (.int (Int32.ofNat j.val))) (.int (Int32.ofInt (qs_3.getD j.val 0))) ∈ flT := by decide +kernel
  obtain ⟨t, ht, hX, hlt⟩ := zz_Xof (args := #[Value.ref b]) (tm := (.static "HeightFine" "GREATEST" "[I")) (N := 51) (f := fun i => Int32.ofInt (qs_3.getD i 0)) (by decide) (hq (Cond.arrayOf (.static "HeightFine" "GREATEST" "[I") .int) (by decide +kernel)) (va_eqt (hq (Cond.eq (.length (.static "HeightFine" "GREATEST" "[I")) (.int 51)) (by decide +kernel))) (fun j hj => va_eqt (hq _ (hm ⟨j, hj⟩)))
  exact ⟨t, va_Zof (hts (.laysStatic "HeightFine" "GREATEST" "[I") (List.mem_of_getElem? (i := 753) (by decide +kernel))) (hts (.initialized "HeightFine") (List.mem_of_getElem? (i := 150) (by decide +kernel))) ht (fun q h => Nat.not_le.mpr h), hX, hlt⟩
set_option maxRecDepth 100000 in
theorem env_s4 {s : State} {b : Nat} (hts : ∀ w ∈ lw_tbl, w.before #[Value.ref b] s = true) (hq : ∀ c ∈ flT, c.before #[Value.ref b] s = true) : ∃ t : Nat, va_Z "HeightFine" "FACTORIAL" "[I" (.ref t) (fun q => s.heap.size ≤ q) s s.heap ∧ va_X t 9 (fun i => Int32.ofInt (qs_4.getD i 0)) s s.heap ∧ t < s.heap.size := by
  have hm : ∀ j : Fin 9, Cond.eq (.elem (.static "HeightFine" "FACTORIAL" "[I") (.int (Int32.ofNat j.val))) (.int (Int32.ofInt (qs_4.getD j.val 0))) ∈ flT := by decide +kernel
  obtain ⟨t, ht, hX, hlt⟩ := zz_Xof (args := #[Value.ref b]) (tm := (.static "HeightFine" "FACTORIAL" "[I")) (N := 9) (f := fun i => Int32.ofInt (qs_4.getD i 0)) (by decide) (hq (Cond.arrayOf (.static "HeightFine" "FACTORIAL" "[I") .int) (by decide +kernel)) (va_eqt (hq (Cond.eq (.length (.static "HeightFine" "FACTORIAL" "[I")) (.int 9)) (by decide +kernel))) (fun j hj => va_eqt (hq _ (hm ⟨j, hj⟩)))
  exact ⟨t, va_Zof (hts (.laysStatic "HeightFine" "FACTORIAL" "[I") (List.mem_of_getElem? (i := 1169) (by decide +kernel))) (hts (.initialized "HeightFine") (List.mem_of_getElem? (i := 150) (by decide +kernel))) ht (fun q h => Nat.not_le.mpr h), hX, hlt⟩
def txI : List Nat := [158, 160, 162, 164, 166, 168, 170, 172, 174, 176, 178, 180, 182, 184, 148, 154, 156, 186, 188, 190, 192]
set_option maxRecDepth 100000 in
set_option maxHeartbeats 2000000 in
theorem env_tx {s : State} {b : Nat} (hq : ∀ c ∈ flT, c.before #[Value.ref b] s = true) : ∃ adK adV : Nat → Nat, vk_S 21 qTn qTb adK adV (fun q => s.heap.size ≤ q) s s.heap ∧ ∀ i : Nat, i < 21 → (Term.string "HeightFine$Reader" (txI.getD i 0)).eval #[Value.ref b] s none [] s = some (.ref (adK i)) := by
  have h1 : ∀ i : Fin 21, qTn.getD i.val 0 < 2 ^ 31 ∧ Cond.exactly (Term.string "HeightFine$Reader" (txI.getD i.val 0)) "java/lang/String" ∈ flT ∧ Cond.eq (.field (Term.string "HeightFine$Reader" (txI.getD i.val 0)) "java/lang/String" "coder" "B") (.int 0) ∈ flT ∧ Cond.arrayOf (.field (Term.string "HeightFine$Reader" (txI.getD i.val 0)) "java/lang/String" "value" "[B") .byte ∈ flT ∧ Cond.eq (.length (.field (Term.string "HeightFine$Reader" (txI.getD i.val 0)) "java/lang/String" "value" "[B")) (.int (Int32.ofNat (qTn.getD i.val 0))) ∈ flT := by decide +kernel
  have h2 : ∀ (i : Fin 21) (j : Fin 8), j.val < qTn.getD i.val 0 → Cond.eq (.elem (.field (Term.string "HeightFine$Reader" (txI.getD i.val 0)) "java/lang/String" "value" "[B") (.int (Int32.ofNat j.val))) (.int ((qTb.getD i.val []).getD j.val 0)) ∈ flT := by decide +kernel
  have h3 : ∀ i : Fin 21, qTn.getD i.val 0 ≤ 8 := by decide +kernel
  have h4 : ∀ i j : Fin 21, i ≠ j → (Cond.not (Cond.eq (Term.string "HeightFine$Reader" (txI.getD i.val 0)) (Term.string "HeightFine$Reader" (txI.getD j.val 0))) ∈ flT ∨ Cond.not (Cond.eq (Term.string "HeightFine$Reader" (txI.getD j.val 0)) (Term.string "HeightFine$Reader" (txI.getD i.val 0))) ∈ flT) := by decide +kernel
  exact vk_Sof (tm := fun i => Term.string "HeightFine$Reader" (txI.getD i 0)) (fun i hi => (h1 ⟨i, hi⟩).1) (fun i hi => hq _ (h1 ⟨i, hi⟩).2.1) (fun i hi => hq _ (h1 ⟨i, hi⟩).2.2.1) (fun i hi => hq _ (h1 ⟨i, hi⟩).2.2.2.1) (fun i hi => hq _ (h1 ⟨i, hi⟩).2.2.2.2) (fun i hi j hj => hq _ (h2 ⟨i, hi⟩ ⟨j, Nat.lt_of_lt_of_le hj (h3 ⟨i, hi⟩)⟩ hj)) (fun i j hi hj hn => (h4 ⟨i, hi⟩ ⟨j, hj⟩ (fun e => hn (congrArg Fin.val e))).imp (fun h => hq _ h) (fun h => hq _ h)) (fun a h => Nat.not_le.mpr h)
