theorem zz_Xof {args : Array Value} {s : State} {tm : Term} {N : Nat} {f : Nat → Int32} (hN : N < 2 ^ 31) (harr : (Cond.arrayOf tm .int).before args s = true) (hlen : (Term.length tm).eval args s none [] s = some (.int (Int32.ofNat N))) (hel : ∀ j : Nat, j < N → (Term.elem tm (.int (Int32.ofNat j))).eval args s none [] s = some (.int (f j))) : ∃ t : Nat, tm.eval args s none [] s = some (.ref t) ∧ va_X t N f s s.heap ∧ t < s.heap.size := by
  obtain ⟨t, ht, cell, hc, hof, hkn, -, hsz, hel2, -⟩ := va_Tof (A := fun _ => False) (f := fun j => .int (f j)) hN harr hlen hel (fun _ _ h => h)
  obtain ⟨t2, cell2, ht2, hat, -⟩ := Term.length_spec hlen
  cases ht.symm.trans ht2
  obtain ⟨hcell, -, -, -⟩ := State.arrayAt?_spec hat
  cases hc.symm.trans hcell
  have hlt : cell.slots.size < 2 ^ 31 := by
    simp only [Term.eval, ht, hat, Option.bind_eq_bind, Option.bind_some] at hlen
    by_cases hlt : cell.slots.size < 2147483648
    · exact hlt
    · simp [hlt] at hlen
  have hN2 : cell.slots.size = N := (nI_eq hlt hN).mp hsz
  exact ⟨t, ht, ⟨cell, hc, hof, hkn, hN2, hel2⟩, (Array.getElem?_eq_some_iff.mp hc).1⟩

set_option maxRecDepth 20000 in
theorem in_law_0 : ∀ w ∈ u_ws RX0 TX0 12, w ∈ lw_tbl := fun w h => ((goodIn_r (big := lw_tbl) (u_ws RX0 TX0 12) (250 :: 252 :: 254 :: 256 :: 258 :: 260 :: 262 :: 264 :: 266 :: 268 :: 270 :: 272 :: []) (by decide +kernel) (by decide +kernel)) w h).1
set_option maxRecDepth 20000 in
theorem in_law_1 : ∀ w ∈ u_ws RX1 TX1 3, w ∈ lw_tbl := fun w h => ((goodIn_r (big := lw_tbl) (u_ws RX1 TX1 3) (540 :: 542 :: 544 :: []) (by decide +kernel) (by decide +kernel)) w h).1
set_option maxRecDepth 20000 in
theorem in_law_2 : ∀ w ∈ u_ws RX2 TX2 5, w ∈ lw_tbl := fun w h => ((goodIn_r (big := lw_tbl) (u_ws RX2 TX2 5) (519 :: 521 :: 523 :: 525 :: 527 :: []) (by decide +kernel) (by decide +kernel)) w h).1
set_option maxRecDepth 20000 in
theorem in_law_3 : ∀ w ∈ u_ws RX3 TX3 2, w ∈ lw_tbl := fun w h => ((goodIn_r (big := lw_tbl) (u_ws RX3 TX3 2) (322 :: 324 :: []) (by decide +kernel) (by decide +kernel)) w h).1
set_option maxRecDepth 20000 in
theorem in_law_4 : ∀ w ∈ u_ws RX4 TX4 4, w ∈ lw_tbl := fun w h => ((goodIn_r (big := lw_tbl) (u_ws RX4 TX4 4) (499 :: 501 :: 503 :: 505 :: []) (by decide +kernel) (by decide +kernel)) w h).1
set_option maxRecDepth 20000 in
theorem in_law_5 : ∀ w ∈ u_ws RX5 TX5 3, w ∈ lw_tbl := fun w h => ((goodIn_r (big := lw_tbl) (u_ws RX5 TX5 3) (482 :: 484 :: 486 :: []) (by decide +kernel) (by decide +kernel)) w h).1
set_option maxRecDepth 20000 in
theorem in_law_6 : ∀ w ∈ u_ws RX6 TX6 15, w ∈ lw_tbl := fun w h => ((goodIn_r (big := lw_tbl) (u_ws RX6 TX6 15) (418 :: 420 :: 422 :: 424 :: 426 :: 428 :: 430 :: 432 :: 434 :: 436 :: 438 :: 440 :: 442 :: 444 :: 446 :: []) (by decide +kernel) (by decide +kernel)) w h).1
set_option maxRecDepth 20000 in
theorem in_law_7 : ∀ w ∈ u_ws RX7 TX7 3, w ∈ lw_tbl := fun w h => ((goodIn_r (big := lw_tbl) (u_ws RX7 TX7 3) (342 :: 344 :: 346 :: []) (by decide +kernel) (by decide +kernel)) w h).1
set_option maxRecDepth 20000 in
theorem in_law_8 : ∀ w ∈ u_ws RX8 TX8 9, w ∈ lw_tbl := fun w h => ((goodIn_r (big := lw_tbl) (u_ws RX8 TX8 9) (363 :: 365 :: 367 :: 369 :: 371 :: 373 :: 375 :: 377 :: 379 :: []) (by decide +kernel) (by decide +kernel)) w h).1
set_option maxRecDepth 20000 in
theorem in_law_9 : ∀ w ∈ u_ws RX9 TX9 5, w ∈ lw_tbl := fun w h => ((goodIn_r (big := lw_tbl) (u_ws RX9 TX9 5) (460 :: 462 :: 464 :: 466 :: 468 :: []) (by decide +kernel) (by decide +kernel)) w h).1
set_option maxRecDepth 20000 in
theorem in_law_10 : ∀ w ∈ u_ws RX10 TX10 5, w ∈ lw_tbl := fun w h => ((goodIn_r (big := lw_tbl) (u_ws RX10 TX10 5) (296 :: 298 :: 300 :: 302 :: 304 :: []) (by decide +kernel) (by decide +kernel)) w h).1
set_option maxRecDepth 20000 in
theorem in_law_11 : ∀ w ∈ u_ws RX11 TX11 8, w ∈ lw_tbl := fun w h => ((goodIn_r (big := lw_tbl) (u_ws RX11 TX11 8) (555 :: 557 :: 559 :: 561 :: 563 :: 565 :: 567 :: 569 :: []) (by decide +kernel) (by decide +kernel)) w h).1
set_option maxRecDepth 20000 in
theorem in_law_12 : ∀ w ∈ u_ws RX12 TX12 45, w ∈ lw_tbl := fun w h => ((goodIn_r (big := lw_tbl) (u_ws RX12 TX12 45) (1376 :: 1378 :: 1380 :: 1382 :: 1384 :: 1386 :: 1388 :: 1390 :: 1392 :: 1394 :: 1396 :: 1398 :: 1400 :: 1402 :: 1404 :: 1406 :: 1408 :: 1410 :: 1412 :: 1414 :: 1416 :: 1418 :: 1420 :: 1422 :: 1424 :: 1426 :: 1428 :: 1430 :: 1432 :: 1434 :: 1436 :: 1438 :: 1440 :: 1442 :: 1444 :: 1446 :: 1448 :: 1450 :: 1452 :: 1454 :: 1456 :: 1458 :: 1460 :: 1462 :: 1464 :: []) (by decide +kernel) (by decide +kernel)) w h).1
set_option maxHeartbeats 4000000 in
set_option maxRecDepth 100000 in
theorem law_env {s : State} {b : Nat} (hts : ∀ w ∈ lw_tbl, w.before #[Value.ref b] s = true) (hgv : (Jvm.Cond.and given_1 narrow_1).before #[Value.ref b] s = true) : ∃ (dC : Nat → ClassId) (dI : Nat → Nat → Nat) (k : Nat → ClassId) (tF : Nat), va_K (dC, dI) vwCl (tyL k) s ∧ ev tF (fun q => s.heap.size ≤ q) s := by
  obtain ⟨c0, iS0, hKn0⟩ := u_known (C := RX0) (T := TX0) (N := 12) (n := 12) hts in_law_0 (hts (.instantiable RX0 12) (List.mem_of_getElem? (i := 187) (by decide +kernel)))
  obtain ⟨c1, iS1, hKn1⟩ := u_known (C := RX1) (T := TX1) (N := 3) (n := 3) hts in_law_1 (hts (.instantiable RX1 3) (List.mem_of_getElem? (i := 532) (by decide +kernel)))
  obtain ⟨c2, iS2, hKn2⟩ := u_known (C := RX2) (T := TX2) (N := 5) (n := 5) hts in_law_2 (hts (.instantiable RX2 5) (List.mem_of_getElem? (i := 509) (by decide +kernel)))
  obtain ⟨c3, iS3, hKn3⟩ := u_known (C := RX3) (T := TX3) (N := 2) (n := 2) hts in_law_3 (hts (.instantiable RX3 2) (List.mem_of_getElem? (i := 309) (by decide +kernel)))
  obtain ⟨c4, iS4, hKn4⟩ := u_known (C := RX4) (T := TX4) (N := 4) (n := 4) hts in_law_4 (hts (.instantiable RX4 4) (List.mem_of_getElem? (i := 490) (by decide +kernel)))
  obtain ⟨c5, iS5, hKn5⟩ := u_known (C := RX5) (T := TX5) (N := 3) (n := 3) hts in_law_5 (hts (.instantiable RX5 3) (List.mem_of_getElem? (i := 472) (by decide +kernel)))
  obtain ⟨c6, iS6, hKn6⟩ := u_known (C := RX6) (T := TX6) (N := 15) (n := 15) hts in_law_6 (hts (.instantiable RX6 15) (List.mem_of_getElem? (i := 384) (by decide +kernel)))
  obtain ⟨c7, iS7, hKn7⟩ := u_known (C := RX7) (T := TX7) (N := 3) (n := 3) hts in_law_7 (hts (.instantiable RX7 3) (List.mem_of_getElem? (i := 329) (by decide +kernel)))
  obtain ⟨c8, iS8, hKn8⟩ := u_known (C := RX8) (T := TX8) (N := 9) (n := 9) hts in_law_8 (hts (.instantiable RX8 9) (List.mem_of_getElem? (i := 180) (by decide +kernel)))
  obtain ⟨c9, iS9, hKn9⟩ := u_known (C := RX9) (T := TX9) (N := 5) (n := 5) hts in_law_9 (hts (.instantiable RX9 5) (List.mem_of_getElem? (i := 450) (by decide +kernel)))
  obtain ⟨c10, iS10, hKn10⟩ := u_known (C := RX10) (T := TX10) (N := 5) (n := 5) hts in_law_10 (hts (.instantiable RX10 5) (List.mem_of_getElem? (i := 279) (by decide +kernel)))
  obtain ⟨c11, iS11, hKn11⟩ := u_known (C := RX11) (T := TX11) (N := 8) (n := 8) hts in_law_11 (hts (.instantiable RX11 8) (List.mem_of_getElem? (i := 172) (by decide +kernel)))
  obtain ⟨c12, iS12, hKn12⟩ := u_known (C := RX12) (T := TX12) (N := 45) (n := 45) hts in_law_12 (hts (.instantiable RX12 45) (List.mem_of_getElem? (i := 1326) (by decide +kernel)))
  obtain ⟨t0, kk0, cm0, f01, f02, f03⟩ := Cond.arrayClass_spec (hts (.arrayClass .int) (List.mem_of_getElem? (i := 276) (by decide +kernel)))
  obtain ⟨t1, kk1, cm1, f11, f12, f13⟩ := Cond.arrayClass_spec (hts (.arrayClass .byte) (List.mem_of_getElem? (i := 275) (by decide +kernel)))
  obtain ⟨t2, kk2, cm2, f21, f22, f23⟩ := Cond.arrayClass_spec (hts (.arrayClass .boolean) (List.mem_of_getElem? (i := 1467) (by decide +kernel)))
  obtain ⟨t3, kk3, cm3, f31, f32, f33⟩ := Cond.arrayClass_spec (hts (.arrayClass .long) (List.mem_of_getElem? (i := 530) (by decide +kernel)))
  have ho4 : (Cond.arrayOver (.object "HeightFine$Borough")).before #[Value.ref b] s = true := hts _ (List.mem_of_getElem? (i := 186) (by decide +kernel))
  obtain ⟨cm4, t4, kk4, f41, -, f42, f43, f44⟩ := Cond.arrayOver_spec ho4
  have ho5 : (Cond.arrayOver (.object "HeightFine$Year")).before #[Value.ref b] s = true := hts _ (List.mem_of_getElem? (i := 278) (by decide +kernel))
  obtain ⟨cm5, t5, kk5, f51, -, f52, f53, f54⟩ := Cond.arrayOver_spec ho5
  have ho6 : (Cond.arrayOver (.object "HeightFine$Ledger")).before #[Value.ref b] s = true := hts _ (List.mem_of_getElem? (i := 308) (by decide +kernel))
  obtain ⟨cm6, t6, kk6, f61, -, f62, f63, f64⟩ := Cond.arrayOver_spec ho6
  have ho7 : (Cond.arrayOver (.object "HeightFine$Sight")).before #[Value.ref b] s = true := hts _ (List.mem_of_getElem? (i := 328) (by decide +kernel))
  obtain ⟨cm7, t7, kk7, f71, -, f72, f73, f74⟩ := Cond.arrayOver_spec ho7
  have ho8 : (Cond.arrayOver (.object "HeightFine$Told")).before #[Value.ref b] s = true := hts _ (List.mem_of_getElem? (i := 382) (by decide +kernel))
  obtain ⟨cm8, t8, kk8, f81, -, f82, f83, f84⟩ := Cond.arrayOver_spec ho8
  have hq := flat_of_before _ hgv
  have harr : (Cond.arrayOf (.static "HeightFine" "FIRST_FINES" "[I") .int).before #[Value.ref b] s = true := hq _ (by decide +kernel)
  have hlen := va_eqt (t := .length (.static "HeightFine" "FIRST_FINES" "[I")) (z := 4) (hq _ (by decide +kernel))
  have h0 := va_eqt (t := .elem (.static "HeightFine" "FIRST_FINES" "[I") (.int 0)) (z := 6) (hq _ (by decide +kernel))
  have h1 := va_eqt (t := .elem (.static "HeightFine" "FIRST_FINES" "[I") (.int 1)) (z := 3) (hq _ (by decide +kernel))
  have h2 := va_eqt (t := .elem (.static "HeightFine" "FIRST_FINES" "[I") (.int 2)) (z := 1) (hq _ (by decide +kernel))
  have h3 := va_eqt (t := .elem (.static "HeightFine" "FIRST_FINES" "[I") (.int 3)) (z := 2) (hq _ (by decide +kernel))
  obtain ⟨tF, htF, hX, hlt⟩ := zz_Xof (N := 4) (f := fun j => if j = 0 then 6 else if j = 1 then 3 else if j = 2 then 1 else 2) (by decide) harr hlen (fun j hj => by
    rcases (show j = 0 ∨ j = 1 ∨ j = 2 ∨ j = 3 by omega) with rfl | rfl | rfl | rfl
    · exact h0
    · exact h1
    · exact h2
    · exact h3)
  have hZ : va_Z "HeightFine" "FIRST_FINES" "[I" (.ref tF) (fun q => s.heap.size ≤ q) s s.heap := va_Zof (hts (.laysStatic "HeightFine" "FIRST_FINES" "[I") (List.mem_of_getElem? (i := 200) (by decide +kernel))) (hts (.initialized "HeightFine") (List.mem_of_getElem? (i := 150) (by decide +kernel))) htF (fun q h => Nat.not_le.mpr h)
  refine ⟨fun j => if j = 0 then c0 else if j = 1 then c1 else if j = 2 then c2 else if j = 3 then c3 else if j = 4 then c4 else if j = 5 then c5 else if j = 6 then c6 else if j = 7 then c7 else if j = 8 then c8 else if j = 9 then c9 else if j = 10 then c10 else if j = 11 then c11 else c12, fun j => if j = 0 then iS0 else if j = 1 then iS1 else if j = 2 then iS2 else if j = 3 then iS3 else if j = 4 then iS4 else if j = 5 then iS5 else if j = 6 then iS6 else if j = 7 then iS7 else if j = 8 then iS8 else if j = 9 then iS9 else if j = 10 then iS10 else if j = 11 then iS11 else iS12, fun j => if j = 0 then t0 else if j = 1 then t1 else if j = 2 then t2 else if j = 3 then t3 else if j = 4 then t4 else if j = 5 then t5 else if j = 6 then t6 else if j = 7 then t7 else t8, tF, ⟨?_, ?_⟩, ⟨?_, va_AO.of ho4, va_AO.of ho5, va_AO.of ho6, va_AO.of ho7, va_AO.of ho8⟩, hZ, ⟨_, hX⟩, hlt, Nat.not_le.mpr hlt⟩
  · intro c q hq
    match c, hq with
    | 0, hq => cases hq; exact hKn0
    | 1, hq => cases hq; exact hKn1
    | 2, hq => cases hq; exact hKn2
    | 3, hq => cases hq; exact hKn3
    | 4, hq => cases hq; exact hKn4
    | 5, hq => cases hq; exact hKn5
    | 6, hq => cases hq; exact hKn6
    | 7, hq => cases hq; exact hKn7
    | 8, hq => cases hq; exact hKn8
    | 9, hq => cases hq; exact hKn9
    | 10, hq => cases hq; exact hKn10
    | 11, hq => cases hq; exact hKn11
    | 12, hq => cases hq; exact hKn12
    | c + 13, hq =>
      rw [List.getElem?_eq_none (show vwCl.length ≤ c + 13 from Nat.le_add_left 13 c)] at hq
      cases hq
  · intro i q hq
    match i, hq with
    | 0, hq => cases hq; exact ⟨fun N z => ⟨fun _ h => (by cases h), kk0, f02, cm0, f03⟩, f01⟩
    | 1, hq => cases hq; exact ⟨fun N z => ⟨fun _ h => (by cases h), kk1, f12, cm1, f13⟩, f11⟩
    | 2, hq => cases hq; exact ⟨fun N z => ⟨fun _ h => (by cases h), kk2, f22, cm2, f23⟩, f21⟩
    | 3, hq => cases hq; exact ⟨fun N z => ⟨fun _ h => (by cases h), kk3, f32, cm3, f33⟩, f31⟩
    | 4, hq => cases hq; exact ⟨fun N z => ⟨fun _ h => (by cases h), kk4, f42, cm4, f43⟩, kk4, cm4, f42, f43, f41, f44⟩
    | 5, hq => cases hq; exact ⟨fun N z => ⟨fun _ h => (by cases h), kk5, f52, cm5, f53⟩, kk5, cm5, f52, f53, f51, f54⟩
    | 6, hq => cases hq; exact ⟨fun N z => ⟨fun _ h => (by cases h), kk6, f62, cm6, f63⟩, kk6, cm6, f62, f63, f61, f64⟩
    | 7, hq => cases hq; exact ⟨fun N z => ⟨fun _ h => (by cases h), kk7, f72, cm7, f73⟩, kk7, cm7, f72, f73, f71, f74⟩
    | 8, hq => cases hq; exact ⟨fun N z => ⟨fun _ h => (by cases h), kk8, f82, cm8, f83⟩, kk8, cm8, f82, f83, f81, f84⟩
    | i + 9, hq =>
      rw [List.getElem?_eq_none (show 9 ≤ i + 9 from Nat.le_add_left 9 i)] at hq
      cases hq
  · intro w hw
    have hm : w ∈ lw_tbl := by
      rw [show evM = ((181 :: 385 :: 451 :: 473 :: 491 :: 510 :: 533 :: 392 :: 394 :: 396 :: 280 :: 310 :: 330 :: 199 :: []) : List Nat).filterMap (fun i => lw_tbl[i]?) by decide +kernel] at hw
      obtain ⟨i, -, hi⟩ := List.mem_filterMap.mp hw
      exact List.mem_of_getElem? hi
    have h1 := hts w hm
    simp only [evM, List.mem_cons, List.not_mem_nil, or_false] at hw
    rcases hw with rfl | rfl | rfl | rfl | rfl | rfl | rfl | rfl | rfl | rfl | rfl | rfl | rfl | rfl
    all_goals exact va_Nw.of rfl h1

def flT : List Cond := flatC (Jvm.Cond.and given_1 narrow_1)
theorem mem_pos {big ws : List Cond} (ps : List Nat) (hp : ws = ps.filterMap (fun i => big[i]?)) : ∀ w ∈ ws, w ∈ big := by
  intro w hw
  rw [hp] at hw
  obtain ⟨i, -, hi⟩ := List.mem_filterMap.mp hw
  exact List.mem_of_getElem? hi
set_option maxRecDepth 100000 in
theorem env_s0 {s : State} {b : Nat} (hts : ∀ w ∈ lw_tbl, w.before #[Value.ref b] s = true) (hq : ∀ c ∈ flT, c.before #[Value.ref b] s = true) : ∃ t : Nat, va_Z "HeightFine" "FIRST_FINES" "[I" (.ref t) (fun q => s.heap.size ≤ q) s s.heap ∧ va_X t 4 (fun i => Int32.ofInt (qs_0.getD i 0)) s s.heap ∧ t < s.heap.size := by
  have hm := mem_pos (big := flT) (ws := (List.range 4).map (fun i => Cond.eq (.elem (.static "HeightFine" "FIRST_FINES" "[I") (.int (Int32.ofNat i))) (.int (Int32.ofInt (qs_0.getD i 0))))) (7 :: 8 :: 9 :: 10 :: []) (by decide +kernel)
  obtain ⟨t, ht, hX, hlt⟩ := zz_Xof (args := #[Value.ref b]) (tm := (.static "HeightFine" "FIRST_FINES" "[I")) (N := 4) (f := fun i => Int32.ofInt (qs_0.getD i 0)) (by decide) (hq (Cond.arrayOf (.static "HeightFine" "FIRST_FINES" "[I") .int) (List.mem_of_getElem? (i := 5) (by decide +kernel))) (va_eqt (hq (Cond.eq (.length (.static "HeightFine" "FIRST_FINES" "[I")) (.int 4)) (List.mem_of_getElem? (i := 6) (by decide +kernel)))) (fun j hj => va_eqt (hq _ (hm _ (List.mem_map.mpr ⟨j, List.mem_range.mpr hj, rfl⟩))))
  exact ⟨t, va_Zof (hts (.laysStatic "HeightFine" "FIRST_FINES" "[I") (List.mem_of_getElem? (i := 200) (by decide +kernel))) (hts (.initialized "HeightFine") (List.mem_of_getElem? (i := 150) (by decide +kernel))) ht (fun q h => Nat.not_le.mpr h), hX, hlt⟩
set_option maxRecDepth 100000 in
theorem env_s1 {s : State} {b : Nat} (hts : ∀ w ∈ lw_tbl, w.before #[Value.ref b] s = true) (hq : ∀ c ∈ flT, c.before #[Value.ref b] s = true) : ∃ t : Nat, va_Z "HeightFine" "SLOT" "[I" (.ref t) (fun q => s.heap.size ≤ q) s s.heap ∧ va_X t 51 (fun i => Int32.ofInt (qs_1.getD i 0)) s s.heap ∧ t < s.heap.size := by
  have hm := mem_pos (big := flT) (ws := (List.range 51).map (fun i => Cond.eq (.elem (.static "HeightFine" "SLOT" "[I") (.int (Int32.ofNat i))) (.int (Int32.ofInt (qs_1.getD i 0))))) (19 :: 20 :: 21 :: 22 :: 23 :: 24 :: 25 :: 26 :: 27 :: 28 :: 29 :: 30 :: 31 :: 32 :: 33 :: 34 :: 35 :: 36 :: 37 :: 38 :: 39 :: 40 :: 41 :: 42 :: 43 :: 44 :: 45 :: 46 :: 47 :: 48 :: 49 :: 50 :: 51 :: 52 :: 53 :: 54 :: 55 :: 56 :: 57 :: 58 :: 59 :: 60 :: 61 :: 62 :: 63 :: 64 :: 65 :: 66 :: 67 :: 68 :: 69 :: []) (by decide +kernel)
  obtain ⟨t, ht, hX, hlt⟩ := zz_Xof (args := #[Value.ref b]) (tm := (.static "HeightFine" "SLOT" "[I")) (N := 51) (f := fun i => Int32.ofInt (qs_1.getD i 0)) (by decide) (hq (Cond.arrayOf (.static "HeightFine" "SLOT" "[I") .int) (List.mem_of_getElem? (i := 17) (by decide +kernel))) (va_eqt (hq (Cond.eq (.length (.static "HeightFine" "SLOT" "[I")) (.int 51)) (List.mem_of_getElem? (i := 18) (by decide +kernel)))) (fun j hj => va_eqt (hq _ (hm _ (List.mem_map.mpr ⟨j, List.mem_range.mpr hj, rfl⟩))))
  exact ⟨t, va_Zof (hts (.laysStatic "HeightFine" "SLOT" "[I") (List.mem_of_getElem? (i := 737) (by decide +kernel))) (hts (.initialized "HeightFine") (List.mem_of_getElem? (i := 150) (by decide +kernel))) ht (fun q h => Nat.not_le.mpr h), hX, hlt⟩
set_option maxRecDepth 100000 in
theorem env_s2 {s : State} {b : Nat} (hts : ∀ w ∈ lw_tbl, w.before #[Value.ref b] s = true) (hq : ∀ c ∈ flT, c.before #[Value.ref b] s = true) : ∃ t : Nat, va_Z "HeightFine" "LEAST" "[I" (.ref t) (fun q => s.heap.size ≤ q) s s.heap ∧ va_X t 51 (fun i => Int32.ofInt (qs_2.getD i 0)) s s.heap ∧ t < s.heap.size := by
  have hm := mem_pos (big := flT) (ws := (List.range 51).map (fun i => Cond.eq (.elem (.static "HeightFine" "LEAST" "[I") (.int (Int32.ofNat i))) (.int (Int32.ofInt (qs_2.getD i 0))))) (73 :: 74 :: 75 :: 76 :: 77 :: 78 :: 79 :: 80 :: 81 :: 82 :: 83 :: 84 :: 85 :: 86 :: 87 :: 88 :: 89 :: 90 :: 91 :: 92 :: 93 :: 94 :: 95 :: 96 :: 97 :: 98 :: 99 :: 100 :: 101 :: 102 :: 103 :: 104 :: 105 :: 106 :: 107 :: 108 :: 109 :: 110 :: 111 :: 112 :: 113 :: 114 :: 115 :: 116 :: 117 :: 118 :: 119 :: 120 :: 121 :: 122 :: 123 :: []) (by decide +kernel)
  obtain ⟨t, ht, hX, hlt⟩ := zz_Xof (args := #[Value.ref b]) (tm := (.static "HeightFine" "LEAST" "[I")) (N := 51) (f := fun i => Int32.ofInt (qs_2.getD i 0)) (by decide) (hq (Cond.arrayOf (.static "HeightFine" "LEAST" "[I") .int) (List.mem_of_getElem? (i := 71) (by decide +kernel))) (va_eqt (hq (Cond.eq (.length (.static "HeightFine" "LEAST" "[I")) (.int 51)) (List.mem_of_getElem? (i := 72) (by decide +kernel)))) (fun j hj => va_eqt (hq _ (hm _ (List.mem_map.mpr ⟨j, List.mem_range.mpr hj, rfl⟩))))
  exact ⟨t, va_Zof (hts (.laysStatic "HeightFine" "LEAST" "[I") (List.mem_of_getElem? (i := 751) (by decide +kernel))) (hts (.initialized "HeightFine") (List.mem_of_getElem? (i := 150) (by decide +kernel))) ht (fun q h => Nat.not_le.mpr h), hX, hlt⟩
set_option maxRecDepth 100000 in
theorem env_s3 {s : State} {b : Nat} (hts : ∀ w ∈ lw_tbl, w.before #[Value.ref b] s = true) (hq : ∀ c ∈ flT, c.before #[Value.ref b] s = true) : ∃ t : Nat, va_Z "HeightFine" "GREATEST" "[I" (.ref t) (fun q => s.heap.size ≤ q) s s.heap ∧ va_X t 51 (fun i => Int32.ofInt (qs_3.getD i 0)) s s.heap ∧ t < s.heap.size := by
  have hm := mem_pos (big := flT) (ws := (List.range 51).map (fun i => Cond.eq (.elem (.static "HeightFine" "GREATEST" "[I") (.int (Int32.ofNat i))) (.int (Int32.ofInt (qs_3.getD i 0))))) (127 :: 128 :: 129 :: 130 :: 131 :: 132 :: 133 :: 134 :: 135 :: 136 :: 137 :: 138 :: 139 :: 140 :: 141 :: 142 :: 143 :: 144 :: 145 :: 146 :: 147 :: 148 :: 149 :: 150 :: 151 :: 152 :: 153 :: 154 :: 155 :: 156 :: 157 :: 158 :: 159 :: 160 :: 161 :: 162 :: 163 :: 164 :: 165 :: 166 :: 167 :: 168 :: 169 :: 170 :: 171 :: 172 :: 173 :: 174 :: 175 :: 176 :: 177 :: []) (by decide +kernel)
  obtain ⟨t, ht, hX, hlt⟩ := zz_Xof (args := #[Value.ref b]) (tm := (.static "HeightFine" "GREATEST" "[I")) (N := 51) (f := fun i => Int32.ofInt (qs_3.getD i 0)) (by decide) (hq (Cond.arrayOf (.static "HeightFine" "GREATEST" "[I") .int) (List.mem_of_getElem? (i := 125) (by decide +kernel))) (va_eqt (hq (Cond.eq (.length (.static "HeightFine" "GREATEST" "[I")) (.int 51)) (List.mem_of_getElem? (i := 126) (by decide +kernel)))) (fun j hj => va_eqt (hq _ (hm _ (List.mem_map.mpr ⟨j, List.mem_range.mpr hj, rfl⟩))))
  exact ⟨t, va_Zof (hts (.laysStatic "HeightFine" "GREATEST" "[I") (List.mem_of_getElem? (i := 753) (by decide +kernel))) (hts (.initialized "HeightFine") (List.mem_of_getElem? (i := 150) (by decide +kernel))) ht (fun q h => Nat.not_le.mpr h), hX, hlt⟩
set_option maxRecDepth 100000 in
theorem env_s4 {s : State} {b : Nat} (hts : ∀ w ∈ lw_tbl, w.before #[Value.ref b] s = true) (hq : ∀ c ∈ flT, c.before #[Value.ref b] s = true) : ∃ t : Nat, va_Z "HeightFine" "FACTORIAL" "[I" (.ref t) (fun q => s.heap.size ≤ q) s s.heap ∧ va_X t 9 (fun i => Int32.ofInt (qs_4.getD i 0)) s s.heap ∧ t < s.heap.size := by
  have hm := mem_pos (big := flT) (ws := (List.range 9).map (fun i => Cond.eq (.elem (.static "HeightFine" "FACTORIAL" "[I") (.int (Int32.ofNat i))) (.int (Int32.ofInt (qs_4.getD i 0))))) (181 :: 182 :: 183 :: 184 :: 185 :: 186 :: 187 :: 188 :: 189 :: []) (by decide +kernel)
  obtain ⟨t, ht, hX, hlt⟩ := zz_Xof (args := #[Value.ref b]) (tm := (.static "HeightFine" "FACTORIAL" "[I")) (N := 9) (f := fun i => Int32.ofInt (qs_4.getD i 0)) (by decide) (hq (Cond.arrayOf (.static "HeightFine" "FACTORIAL" "[I") .int) (List.mem_of_getElem? (i := 179) (by decide +kernel))) (va_eqt (hq (Cond.eq (.length (.static "HeightFine" "FACTORIAL" "[I")) (.int 9)) (List.mem_of_getElem? (i := 180) (by decide +kernel)))) (fun j hj => va_eqt (hq _ (hm _ (List.mem_map.mpr ⟨j, List.mem_range.mpr hj, rfl⟩))))
  exact ⟨t, va_Zof (hts (.laysStatic "HeightFine" "FACTORIAL" "[I") (List.mem_of_getElem? (i := 1169) (by decide +kernel))) (hts (.initialized "HeightFine") (List.mem_of_getElem? (i := 150) (by decide +kernel))) ht (fun q h => Nat.not_le.mpr h), hX, hlt⟩
def txI : List Nat := [158, 160, 162, 164, 166, 168, 170, 172, 174, 176, 178, 180, 182, 184, 148, 154, 156, 186, 188, 190, 192]
abbrev txT (i : Nat) : Term := .string "HeightFine$Reader" (txI.getD i 0)
abbrev txV (i : Nat) : Term := .field (txT i) "java/lang/String" "value" "[B"
set_option maxRecDepth 100000 in
theorem env_t1 : ∀ c ∈ (List.range 21).map (fun i => Cond.exactly (txT i) "java/lang/String"), c ∈ flT := mem_pos (255 :: 265 :: 274 :: 286 :: 297 :: 309 :: 323 :: 337 :: 353 :: 369 :: 386 :: 404 :: 423 :: 446 :: 467 :: 488 :: 511 :: 535 :: 561 :: 586 :: 614 :: []) (by decide +kernel)
set_option maxRecDepth 100000 in
theorem env_t2 : ∀ c ∈ (List.range 21).map (fun i => Cond.eq (.field (txT i) "java/lang/String" "coder" "B") (.int 0)), c ∈ flT := mem_pos (256 :: 266 :: 275 :: 287 :: 298 :: 310 :: 324 :: 338 :: 354 :: 370 :: 387 :: 405 :: 424 :: 447 :: 468 :: 489 :: 512 :: 536 :: 562 :: 587 :: 615 :: []) (by decide +kernel)
set_option maxRecDepth 100000 in
theorem env_t3 : ∀ c ∈ (List.range 21).map (fun i => Cond.arrayOf (txV i) .byte), c ∈ flT := mem_pos (257 :: 267 :: 276 :: 288 :: 299 :: 311 :: 325 :: 339 :: 355 :: 371 :: 388 :: 406 :: 425 :: 448 :: 469 :: 490 :: 513 :: 537 :: 563 :: 588 :: 616 :: []) (by decide +kernel)
set_option maxRecDepth 100000 in
theorem env_t4 : ∀ c ∈ (List.range 21).map (fun i => Cond.eq (.length (txV i)) (.int (Int32.ofNat (qTn.getD i 0)))), c ∈ flT := mem_pos (258 :: 268 :: 277 :: 289 :: 300 :: 312 :: 326 :: 340 :: 356 :: 372 :: 389 :: 407 :: 426 :: 449 :: 470 :: 491 :: 514 :: 538 :: 564 :: 589 :: 617 :: []) (by decide +kernel)
set_option maxRecDepth 100000 in
theorem env_t5 : ∀ c ∈ (List.range 21).flatMap (fun i => (List.range (qTn.getD i 0)).map (fun j => Cond.eq (.elem (txV i) (.int (Int32.ofNat j))) (.int ((qTb.getD i []).getD j 0)))), c ∈ flT := mem_pos (259 :: 260 :: 261 :: 262 :: 263 :: 264 :: 269 :: 270 :: 271 :: 272 :: 278 :: 279 :: 280 :: 281 :: 282 :: 283 :: 290 :: 291 :: 292 :: 293 :: 301 :: 302 :: 303 :: 304 :: 313 :: 314 :: 315 :: 316 :: 317 :: 327 :: 328 :: 329 :: 330 :: 341 :: 342 :: 343 :: 344 :: 345 :: 357 :: 358 :: 359 :: 360 :: 373 :: 374 :: 375 :: 376 :: 390 :: 391 :: 392 :: 393 :: 408 :: 409 :: 410 :: 411 :: 427 :: 428 :: 429 :: 430 :: 431 :: 432 :: 433 :: 450 :: 451 :: 452 :: 453 :: 471 :: 472 :: 473 :: 492 :: 493 :: 494 :: 495 :: 515 :: 516 :: 517 :: 518 :: 539 :: 540 :: 541 :: 542 :: 543 :: 565 :: 566 :: 567 :: 590 :: 591 :: 592 :: 593 :: 594 :: 618 :: 619 :: 620 :: 621 :: 622 :: 623 :: []) (by decide +kernel)
set_option maxRecDepth 100000 in
theorem env_t6 : ∀ c ∈ (List.range 21).flatMap (fun i => ((List.range 21).filter (fun j => Nat.blt i j)).map (fun j => Cond.not (Cond.eq (txT i) (txT j)))), c ∈ flT := mem_pos (273 :: 284 :: 294 :: 305 :: 318 :: 331 :: 346 :: 361 :: 377 :: 394 :: 412 :: 434 :: 454 :: 474 :: 496 :: 519 :: 544 :: 568 :: 595 :: 624 :: 285 :: 295 :: 306 :: 319 :: 332 :: 347 :: 362 :: 378 :: 395 :: 413 :: 435 :: 455 :: 475 :: 497 :: 520 :: 545 :: 569 :: 596 :: 625 :: 296 :: 307 :: 320 :: 333 :: 348 :: 363 :: 379 :: 396 :: 414 :: 436 :: 456 :: 476 :: 498 :: 521 :: 546 :: 570 :: 597 :: 626 :: 308 :: 321 :: 334 :: 349 :: 364 :: 380 :: 397 :: 415 :: 437 :: 457 :: 477 :: 499 :: 522 :: 547 :: 571 :: 598 :: 627 :: 322 :: 335 :: 350 :: 365 :: 381 :: 398 :: 416 :: 438 :: 458 :: 478 :: 500 :: 523 :: 548 :: 572 :: 599 :: 628 :: 336 :: 351 :: 366 :: 382 :: 399 :: 417 :: 439 :: 459 :: 479 :: 501 :: 524 :: 549 :: 573 :: 600 :: 629 :: 352 :: 367 :: 383 :: 400 :: 418 :: 440 :: 460 :: 480 :: 502 :: 525 :: 550 :: 574 :: 601 :: 630 :: 368 :: 384 :: 401 :: 419 :: 441 :: 461 :: 481 :: 503 :: 526 :: 551 :: 575 :: 602 :: 631 :: 385 :: 402 :: 420 :: 442 :: 462 :: 482 :: 504 :: 527 :: 552 :: 576 :: 603 :: 632 :: 403 :: 421 :: 443 :: 463 :: 483 :: 505 :: 528 :: 553 :: 577 :: 604 :: 633 :: 422 :: 444 :: 464 :: 484 :: 506 :: 529 :: 554 :: 578 :: 605 :: 634 :: 445 :: 465 :: 485 :: 507 :: 530 :: 555 :: 579 :: 606 :: 635 :: 466 :: 486 :: 508 :: 531 :: 556 :: 580 :: 607 :: 636 :: 487 :: 509 :: 532 :: 557 :: 581 :: 608 :: 637 :: 510 :: 533 :: 558 :: 582 :: 609 :: 638 :: 534 :: 559 :: 583 :: 610 :: 639 :: 560 :: 584 :: 611 :: 640 :: 585 :: 612 :: 641 :: 613 :: 642 :: 643 :: []) (by decide +kernel)
theorem env_tx {s : State} {b : Nat} (hq : ∀ c ∈ flT, c.before #[Value.ref b] s = true) : ∃ adK adV : Nat → Nat, vk_S 21 qTn qTb adK adV (fun q => s.heap.size ≤ q) s s.heap ∧ ∀ i : Nat, i < 21 → (txT i).eval #[Value.ref b] s none [] s = some (.ref (adK i)) := by
  have h3 : ∀ i : Fin 21, qTn.getD i.val 0 < 2 ^ 31 := by decide +kernel
  have r : ∀ {i : Nat}, i < 21 → i ∈ List.range 21 := fun h => List.mem_range.mpr h
  have p6 : ∀ {i j : Nat}, i < 21 → j < 21 → i < j → (Cond.not (Cond.eq (txT i) (txT j))).before #[Value.ref b] s = true := fun hi hj h => hq _ (env_t6 _ (List.mem_flatMap.mpr ⟨_, r hi, List.mem_map.mpr ⟨_, List.mem_filter.mpr ⟨r hj, Nat.ble_eq_true_of_le h⟩, rfl⟩⟩))
  exact vk_Sof (tm := txT) (fun i hi => h3 ⟨i, hi⟩) (fun i hi => hq _ (env_t1 _ (List.mem_map.mpr ⟨i, r hi, rfl⟩))) (fun i hi => hq _ (env_t2 _ (List.mem_map.mpr ⟨i, r hi, rfl⟩))) (fun i hi => hq _ (env_t3 _ (List.mem_map.mpr ⟨i, r hi, rfl⟩))) (fun i hi => hq _ (env_t4 _ (List.mem_map.mpr ⟨i, r hi, rfl⟩))) (fun i hi j hj => hq _ (env_t5 _ (List.mem_flatMap.mpr ⟨i, r hi, List.mem_map.mpr ⟨j, List.mem_range.mpr hj, rfl⟩⟩))) (fun i j hi hj hn => by
    rcases Nat.lt_or_gt_of_ne hn with h | h
    · exact Or.inl (p6 hi hj h)
    · exact Or.inr (p6 hj hi h)) (fun a h => Nat.not_le.mpr h)
