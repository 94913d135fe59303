theorem dX10_init_0 : decode cX10_init 0 = .ok (.aload_n 0, 1) := by decide +kernel
theorem dX10_init_1 : decode cX10_init 1 = .ok (.invokespecial 3, 3) := by decide +kernel
theorem dX10_init_4 : decode cX10_init 4 = .ok (.aload_n 0, 1) := by decide +kernel
theorem dX10_init_5 : decode cX10_init 5 = .ok (.bipush 40, 2) := by decide +kernel
theorem dX10_init_7 : decode cX10_init 7 = .ok (.newarray .int, 2) := by decide +kernel
theorem dX10_init_9 : decode cX10_init 9 = .ok (.putfield 9, 3) := by decide +kernel
theorem dX10_init_12 : decode cX10_init 12 = .ok (.aload_n 0, 1) := by decide +kernel
theorem dX10_init_13 : decode cX10_init 13 = .ok (.bipush 40, 2) := by decide +kernel
theorem dX10_init_15 : decode cX10_init 15 = .ok (.newarray .int, 2) := by decide +kernel
theorem dX10_init_17 : decode cX10_init 17 = .ok (.putfield 15, 3) := by decide +kernel
theorem dX10_init_20 : decode cX10_init 20 = .ok (.aload_n 0, 1) := by decide +kernel
theorem dX10_init_21 : decode cX10_init 21 = .ok (.bipush 40, 2) := by decide +kernel
theorem dX10_init_23 : decode cX10_init 23 = .ok (.newarray .int, 2) := by decide +kernel
theorem dX10_init_25 : decode cX10_init 25 = .ok (.putfield 18, 3) := by decide +kernel
theorem dX10_init_28 : decode cX10_init 28 = .ok (.aload_n 0, 1) := by decide +kernel
theorem dX10_init_29 : decode cX10_init 29 = .ok (.bipush 40, 2) := by decide +kernel
theorem dX10_init_31 : decode cX10_init 31 = .ok (.newarray .int, 2) := by decide +kernel
theorem dX10_init_33 : decode cX10_init 33 = .ok (.putfield 21, 3) := by decide +kernel
theorem dX10_init_36 : decode cX10_init 36 = .ok (.return_, 1) := by decide +kernel
theorem dX3_init_0 : decode cX3_init 0 = .ok (.aload_n 0, 1) := by decide +kernel
theorem dX3_init_1 : decode cX3_init 1 = .ok (.invokespecial 3, 3) := by decide +kernel
theorem dX3_init_4 : decode cX3_init 4 = .ok (.aload_n 0, 1) := by decide +kernel
theorem dX3_init_5 : decode cX3_init 5 = .ok (.bipush 8, 2) := by decide +kernel
theorem dX3_init_7 : decode cX3_init 7 = .ok (.newarray .int, 2) := by decide +kernel
theorem dX3_init_9 : decode cX3_init 9 = .ok (.putfield 9, 3) := by decide +kernel
theorem dX3_init_12 : decode cX3_init 12 = .ok (.return_, 1) := by decide +kernel
theorem dX7_init_0 : decode cX7_init 0 = .ok (.aload_n 0, 1) := by decide +kernel
theorem dX7_init_1 : decode cX7_init 1 = .ok (.invokespecial 3, 3) := by decide +kernel
theorem dX7_init_4 : decode cX7_init 4 = .ok (.aload_n 0, 1) := by decide +kernel
theorem dX7_init_5 : decode cX7_init 5 = .ok (.bipush 10, 2) := by decide +kernel
theorem dX7_init_7 : decode cX7_init 7 = .ok (.newarray .int, 2) := by decide +kernel
theorem dX7_init_9 : decode cX7_init 9 = .ok (.putfield 9, 3) := by decide +kernel
theorem dX7_init_12 : decode cX7_init 12 = .ok (.aload_n 0, 1) := by decide +kernel
theorem dX7_init_13 : decode cX7_init 13 = .ok (.bipush 10, 2) := by decide +kernel
theorem dX7_init_15 : decode cX7_init 15 = .ok (.newarray .int, 2) := by decide +kernel
theorem dX7_init_17 : decode cX7_init 17 = .ok (.putfield 15, 3) := by decide +kernel
theorem dX7_init_20 : decode cX7_init 20 = .ok (.return_, 1) := by decide +kernel
theorem dX9_init_0 : decode cX9_init 0 = .ok (.aload_n 0, 1) := by decide +kernel
theorem dX9_init_1 : decode cX9_init 1 = .ok (.invokespecial 3, 3) := by decide +kernel
theorem dX9_init_4 : decode cX9_init 4 = .ok (.aload_n 0, 1) := by decide +kernel
theorem dX9_init_5 : decode cX9_init 5 = .ok (.bipush 8, 2) := by decide +kernel
theorem dX9_init_7 : decode cX9_init 7 = .ok (.newarray .int, 2) := by decide +kernel
theorem dX9_init_9 : decode cX9_init 9 = .ok (.putfield 9, 3) := by decide +kernel
theorem dX9_init_12 : decode cX9_init 12 = .ok (.aload_n 0, 1) := by decide +kernel
theorem dX9_init_13 : decode cX9_init 13 = .ok (.sipush 512, 3) := by decide +kernel
theorem dX9_init_16 : decode cX9_init 16 = .ok (.newarray .int, 2) := by decide +kernel
theorem dX9_init_18 : decode cX9_init 18 = .ok (.putfield 15, 3) := by decide +kernel
theorem dX9_init_21 : decode cX9_init 21 = .ok (.aload_n 0, 1) := by decide +kernel
theorem dX9_init_22 : decode cX9_init 22 = .ok (.sipush 512, 3) := by decide +kernel
theorem dX9_init_25 : decode cX9_init 25 = .ok (.newarray .int, 2) := by decide +kernel
theorem dX9_init_27 : decode cX9_init 27 = .ok (.putfield 18, 3) := by decide +kernel
theorem dX9_init_30 : decode cX9_init 30 = .ok (.return_, 1) := by decide +kernel
theorem dX5_init_0 : decode cX5_init 0 = .ok (.aload_n 0, 1) := by decide +kernel
theorem dX5_init_1 : decode cX5_init 1 = .ok (.invokespecial 3, 3) := by decide +kernel
theorem dX5_init_4 : decode cX5_init 4 = .ok (.aload_n 0, 1) := by decide +kernel
theorem dX5_init_5 : decode cX5_init 5 = .ok (.sipush 1792, 3) := by decide +kernel
theorem dX5_init_8 : decode cX5_init 8 = .ok (.newarray .int, 2) := by decide +kernel
theorem dX5_init_10 : decode cX5_init 10 = .ok (.putfield 9, 3) := by decide +kernel
theorem dX5_init_13 : decode cX5_init 13 = .ok (.return_, 1) := by decide +kernel
theorem dX4_init_0 : decode cX4_init 0 = .ok (.aload_n 0, 1) := by decide +kernel
theorem dX4_init_1 : decode cX4_init 1 = .ok (.invokespecial 3, 3) := by decide +kernel
theorem dX4_init_4 : decode cX4_init 4 = .ok (.aload_n 0, 1) := by decide +kernel
theorem dX4_init_5 : decode cX4_init 5 = .ok (.sipush 700, 3) := by decide +kernel
theorem dX4_init_8 : decode cX4_init 8 = .ok (.newarray .int, 2) := by decide +kernel
theorem dX4_init_10 : decode cX4_init 10 = .ok (.putfield 11, 3) := by decide +kernel
theorem dX4_init_13 : decode cX4_init 13 = .ok (.aload_n 0, 1) := by decide +kernel
theorem dX4_init_14 : decode cX4_init 14 = .ok (.bipush 9, 2) := by decide +kernel
theorem dX4_init_16 : decode cX4_init 16 = .ok (.newarray .int, 2) := by decide +kernel
theorem dX4_init_18 : decode cX4_init 18 = .ok (.putfield 15, 3) := by decide +kernel
theorem dX4_init_21 : decode cX4_init 21 = .ok (.aload_n 0, 1) := by decide +kernel
theorem dX4_init_22 : decode cX4_init 22 = .ok (.bipush 9, 2) := by decide +kernel
theorem dX4_init_24 : decode cX4_init 24 = .ok (.newarray .int, 2) := by decide +kernel
theorem dX4_init_26 : decode cX4_init 26 = .ok (.putfield 18, 3) := by decide +kernel
theorem dX4_init_29 : decode cX4_init 29 = .ok (.return_, 1) := by decide +kernel
theorem dX2_init_0 : decode cX2_init 0 = .ok (.aload_n 0, 1) := by decide +kernel
theorem dX2_init_1 : decode cX2_init 1 = .ok (.invokespecial 3, 3) := by decide +kernel
theorem dX2_init_4 : decode cX2_init 4 = .ok (.aload_n 0, 1) := by decide +kernel
theorem dX2_init_5 : decode cX2_init 5 = .ok (.sipush 657, 3) := by decide +kernel
theorem dX2_init_8 : decode cX2_init 8 = .ok (.newarray .long, 2) := by decide +kernel
theorem dX2_init_10 : decode cX2_init 10 = .ok (.putfield 11, 3) := by decide +kernel
theorem dX2_init_13 : decode cX2_init 13 = .ok (.aload_n 0, 1) := by decide +kernel
theorem dX2_init_14 : decode cX2_init 14 = .ok (.bipush 72, 2) := by decide +kernel
theorem dX2_init_16 : decode cX2_init 16 = .ok (.newarray .long, 2) := by decide +kernel
theorem dX2_init_18 : decode cX2_init 18 = .ok (.putfield 15, 3) := by decide +kernel
theorem dX2_init_21 : decode cX2_init 21 = .ok (.aload_n 0, 1) := by decide +kernel
theorem dX2_init_22 : decode cX2_init 22 = .ok (.bipush 9, 2) := by decide +kernel
theorem dX2_init_24 : decode cX2_init 24 = .ok (.newarray .long, 2) := by decide +kernel
theorem dX2_init_26 : decode cX2_init 26 = .ok (.putfield 18, 3) := by decide +kernel
theorem dX2_init_29 : decode cX2_init 29 = .ok (.aload_n 0, 1) := by decide +kernel
theorem dX2_init_30 : decode cX2_init 30 = .ok (.bipush 8, 2) := by decide +kernel
theorem dX2_init_32 : decode cX2_init 32 = .ok (.newarray .int, 2) := by decide +kernel
theorem dX2_init_34 : decode cX2_init 34 = .ok (.putfield 21, 3) := by decide +kernel
theorem dX2_init_37 : decode cX2_init 37 = .ok (.return_, 1) := by decide +kernel
theorem dX1_init_0 : decode cX1_init 0 = .ok (.aload_n 0, 1) := by decide +kernel
theorem dX1_init_1 : decode cX1_init 1 = .ok (.invokespecial 3, 3) := by decide +kernel
theorem dX1_init_4 : decode cX1_init 4 = .ok (.aload_n 0, 1) := by decide +kernel
theorem dX1_init_5 : decode cX1_init 5 = .ok (.bipush 8, 2) := by decide +kernel
theorem dX1_init_7 : decode cX1_init 7 = .ok (.newarray .int, 2) := by decide +kernel
theorem dX1_init_9 : decode cX1_init 9 = .ok (.putfield 9, 3) := by decide +kernel
theorem dX1_init_12 : decode cX1_init 12 = .ok (.aload_n 0, 1) := by decide +kernel
theorem dX1_init_13 : decode cX1_init 13 = .ok (.sipush 256, 3) := by decide +kernel
theorem dX1_init_16 : decode cX1_init 16 = .ok (.newarray .int, 2) := by decide +kernel
theorem dX1_init_18 : decode cX1_init 18 = .ok (.putfield 15, 3) := by decide +kernel
theorem dX1_init_21 : decode cX1_init 21 = .ok (.aload_n 0, 1) := by decide +kernel
theorem dX1_init_22 : decode cX1_init 22 = .ok (.bipush 9, 2) := by decide +kernel
theorem dX1_init_24 : decode cX1_init 24 = .ok (.newarray .long, 2) := by decide +kernel
theorem dX1_init_26 : decode cX1_init 26 = .ok (.putfield 18, 3) := by decide +kernel
theorem dX1_init_29 : decode cX1_init 29 = .ok (.return_, 1) := by decide +kernel
def ws_c_Yinit : List Cond := .code yX10_init cX10_init 1 none :: ([.methodLink RX10 3 objectInit, .instanceMethod objectInit, .code objectInit ⟨#[0xb1]⟩ 1 none, .arrayClass .int, .fieldLink RX10 9 "HeightFine$Year" "kind" "[I", .fieldLink RX10 15 "HeightFine$Year" "first" "[I", .fieldLink RX10 18 "HeightFine$Year" "second" "[I", .fieldLink RX10 21 "HeightFine$Year" "third" "[I"] ++ u_ws RX10 TX10 5)
set_option maxRecDepth 20000 in
theorem in_c_Yinit_10 : ∀ w ∈ u_ws RX10 TX10 5, w ∈ ws_c_Yinit := by decide +kernel
set_option maxHeartbeats 4000000 in
set_option maxRecDepth 100000 in
theorem c_Yinit (l : Launch) (dC : Nat → ClassId) (dI : Nat → Nat → Nat) (k : Nat → ClassId) (h : Nat) (sz : Nat) : Met l yX10_init ws_c_Yinit ({ frames := 1, cells := 4, slots := 160, locals := 20 }) (va_Pc [.ref h] (prW dC dI k [(h, .inr (10, [.null, .null, .null, .null, .int 0]))] sz)) (va_Qv (fun (_ : (Nat → Nat)) => True) (fun (b : (Nat → Nat)) (t : State) => po (dC, dI) (va_A [(h, .inr (10, [.null, .null, .null, .null, .int 0]))] sz) [(h, .inr (10, [.ref (b 0), .ref (b 1), .ref (b 2), .ref (b 3), .int 0])), ((b 0), .inl (k 0, 40, .inl (fun _ => 0))), ((b 1), .inl (k 0, 40, .inl (fun _ => 0))), ((b 2), .inl (k 0, 40, .inl (fun _ => 0))), ((b 3), .inl (k 0, 40, .inl (fun _ => 0)))] t) (va_A [(h, .inr (10, [.null, .null, .null, .null, .int 0]))] sz)) 4 160 (va_A [(h, .inr (10, [.null, .null, .null, .null, .int 0]))] sz) := by
  refine Met.ofW (cc := cX10_init) (maxL := 1) (ret := none) (by decide) rfl ?_
  intro p e s m args below meth c s₁ B hml hv
  obtain ⟨rfl, hsz, hP, hK, hD0⟩ := hv
  have hx := B.exec
  have hb := B.bytes
  have hr := B.returns
  have hts := atoms_spec (ws := ws_c_Yinit) B.pre
  have hown : s.vm.findClass RX10 = some m.cls := findClass_of_methodNamed B.named
  have hin : meth.name = "<init>" := (name_of_methodNamed B.named B.method).1
  have hi10 := in_c_Yinit_10
  have hobj : Cond.code objectInit ⟨#[0xb1]⟩ 1 none ∈ ws_c_Yinit := List.mem_of_getElem? (i := 3) rfl
  subst hsz
  have hD := hD0.self (sz := s.heap.size)
  generalize hAe : va_A [(h, .inr (10, [.null, .null, .null, .null, .int 0]))] s.heap.size = A at hD ⊢
  have hA : ∀ q : Nat, s.heap.size ≤ q → A q := fun q h => by rw [← hAe]; exact Or.inr h
  have hS : va_S A s.heap s.heap [] := va_S.rf
  have hP : va_P (dC, dI) vwCl [(h, .inr (10, [.null, .null, .null, .null, .int 0]))] s.heap := hP
  have hl := lv_entry ([.ref h]) (n := 1) (Nat.le_of_ble_eq_true rfl)
  rw [lg_entry_eq]
  generalize (lg_sl ([.ref h]) ++ List.replicate (1 - (lg_sl ([.ref h])).length) Slot.unset).toArray = ls at hl ⊢
  have hl : lv_has ls 1 [(0, .ref h)] := hl
  refine lv_aload_n hx hb dX10_init_0 rfl (lv_at hl 0 rfl) ?_
  refine W.objInit hx hb hown (hts (.methodLink RX10 3 objectInit) (by decide +kernel)) (hts (.instanceMethod objectInit) (by decide +kernel)) (hts _ hobj) rfl (by rw [hml]; exact hl.1) rfl dX10_init_1 (Nat.le_of_ble_eq_true rfl) (Nat.le_of_ble_eq_true rfl) ?_
  refine W.eq (g2 := F0 m 4 ls []) rfl ?_
  refine lv_aload_n hx hb dX10_init_4 rfl (lv_at hl 0 rfl) ?_
  refine lv_bipush (v := 40) hx hb dX10_init_5 (by decide) ?_
  refine zz_newa (atype := .int) (t0 := 0) (cA := k 0) (ty := .int) (a0 := (40, (.inl (fun _ => 0)))) hx hb (hts (.arrayClass .int) (by decide +kernel)) rfl rfl rfl hK hP hD hS hA (n := 40) (N' := 40) (fun _ => rfl) (by decide +kernel) (by decide +kernel) (by decide +kernel) (by decide +kernel) (by decide +kernel) dX10_init_7 (fun q_1 H hP hD hS => ?_)
  have hP : va_P (dC, dI) vwCl [(h, .inr (10, [.null, .null, .null, .null, .int 0])), (q_1, .inl (k 0, 40, .inl (fun _ => 0)))] H := hP
  have hD : va_D A [(h, .inr (10, [.null, .null, .null, .null, .int 0])), (q_1, .inl (k 0, 40, .inl (fun _ => 0)))] := hD
  refine va_putF (D := (dC, dI)) (ci := 10) (v := .ref q_1) (ty := .array .int) (C := RX10) (T := TX10) (N := 5) hx hb hts hi10 tyX10 tyX10_ok nmX10 hown hK hP hD hS 0 rfl rfl 0 (by decide) (hts (.fieldLink RX10 9 "HeightFine$Year" "kind" "[I") (by decide +kernel)) (fun _ h9 => h9) rfl hin rfl (by decide +kernel) rfl rfl (Nat.le_of_ble_eq_true rfl) dX10_init_9 (fun H locs hP hD hS => ?_)
  have hP : va_P (dC, dI) vwCl [(h, .inr (10, [.ref q_1, .null, .null, .null, .int 0])), (q_1, .inl (k 0, 40, .inl (fun _ => 0)))] H := hP
  have hD : va_D A [(h, .inr (10, [.ref q_1, .null, .null, .null, .int 0])), (q_1, .inl (k 0, 40, .inl (fun _ => 0)))] := hD
  refine lv_aload_n hx hb dX10_init_12 rfl (lv_at hl 0 rfl) ?_
  refine lv_bipush (v := 40) hx hb dX10_init_13 (by decide) ?_
  refine zz_newa (atype := .int) (t0 := 0) (cA := k 0) (ty := .int) (a0 := (40, (.inl (fun _ => 0)))) hx hb (hts (.arrayClass .int) (by decide +kernel)) rfl rfl rfl hK hP hD hS hA (n := 40) (N' := 40) (fun _ => rfl) (by decide +kernel) (by decide +kernel) (by decide +kernel) (by decide +kernel) (by decide +kernel) dX10_init_15 (fun q_2 H hP hD hS => ?_)
  have hP : va_P (dC, dI) vwCl [(h, .inr (10, [.ref q_1, .null, .null, .null, .int 0])), (q_1, .inl (k 0, 40, .inl (fun _ => 0))), (q_2, .inl (k 0, 40, .inl (fun _ => 0)))] H := hP
  have hD : va_D A [(h, .inr (10, [.ref q_1, .null, .null, .null, .int 0])), (q_1, .inl (k 0, 40, .inl (fun _ => 0))), (q_2, .inl (k 0, 40, .inl (fun _ => 0)))] := hD
  refine va_putF (D := (dC, dI)) (ci := 10) (v := .ref q_2) (ty := .array .int) (C := RX10) (T := TX10) (N := 5) hx hb hts hi10 tyX10 tyX10_ok nmX10 hown hK hP hD hS 0 rfl rfl 1 (by decide) (hts (.fieldLink RX10 15 "HeightFine$Year" "first" "[I") (by decide +kernel)) (fun _ h9 => h9) rfl hin rfl (by decide +kernel) rfl rfl (Nat.le_of_ble_eq_true rfl) dX10_init_17 (fun H locs hP hD hS => ?_)
  have hP : va_P (dC, dI) vwCl [(h, .inr (10, [.ref q_1, .ref q_2, .null, .null, .int 0])), (q_1, .inl (k 0, 40, .inl (fun _ => 0))), (q_2, .inl (k 0, 40, .inl (fun _ => 0)))] H := hP
  have hD : va_D A [(h, .inr (10, [.ref q_1, .ref q_2, .null, .null, .int 0])), (q_1, .inl (k 0, 40, .inl (fun _ => 0))), (q_2, .inl (k 0, 40, .inl (fun _ => 0)))] := hD
  refine lv_aload_n hx hb dX10_init_20 rfl (lv_at hl 0 rfl) ?_
  refine lv_bipush (v := 40) hx hb dX10_init_21 (by decide) ?_
  refine zz_newa (atype := .int) (t0 := 0) (cA := k 0) (ty := .int) (a0 := (40, (.inl (fun _ => 0)))) hx hb (hts (.arrayClass .int) (by decide +kernel)) rfl rfl rfl hK hP hD hS hA (n := 40) (N' := 40) (fun _ => rfl) (by decide +kernel) (by decide +kernel) (by decide +kernel) (by decide +kernel) (by decide +kernel) dX10_init_23 (fun q_3 H hP hD hS => ?_)
  have hP : va_P (dC, dI) vwCl [(h, .inr (10, [.ref q_1, .ref q_2, .null, .null, .int 0])), (q_1, .inl (k 0, 40, .inl (fun _ => 0))), (q_2, .inl (k 0, 40, .inl (fun _ => 0))), (q_3, .inl (k 0, 40, .inl (fun _ => 0)))] H := hP
  have hD : va_D A [(h, .inr (10, [.ref q_1, .ref q_2, .null, .null, .int 0])), (q_1, .inl (k 0, 40, .inl (fun _ => 0))), (q_2, .inl (k 0, 40, .inl (fun _ => 0))), (q_3, .inl (k 0, 40, .inl (fun _ => 0)))] := hD
  refine va_putF (D := (dC, dI)) (ci := 10) (v := .ref q_3) (ty := .array .int) (C := RX10) (T := TX10) (N := 5) hx hb hts hi10 tyX10 tyX10_ok nmX10 hown hK hP hD hS 0 rfl rfl 2 (by decide) (hts (.fieldLink RX10 18 "HeightFine$Year" "second" "[I") (by decide +kernel)) (fun _ h9 => h9) rfl hin rfl (by decide +kernel) rfl rfl (Nat.le_of_ble_eq_true rfl) dX10_init_25 (fun H locs hP hD hS => ?_)
  have hP : va_P (dC, dI) vwCl [(h, .inr (10, [.ref q_1, .ref q_2, .ref q_3, .null, .int 0])), (q_1, .inl (k 0, 40, .inl (fun _ => 0))), (q_2, .inl (k 0, 40, .inl (fun _ => 0))), (q_3, .inl (k 0, 40, .inl (fun _ => 0)))] H := hP
  have hD : va_D A [(h, .inr (10, [.ref q_1, .ref q_2, .ref q_3, .null, .int 0])), (q_1, .inl (k 0, 40, .inl (fun _ => 0))), (q_2, .inl (k 0, 40, .inl (fun _ => 0))), (q_3, .inl (k 0, 40, .inl (fun _ => 0)))] := hD
  refine lv_aload_n hx hb dX10_init_28 rfl (lv_at hl 0 rfl) ?_
  refine lv_bipush (v := 40) hx hb dX10_init_29 (by decide) ?_
  refine zz_newa (atype := .int) (t0 := 0) (cA := k 0) (ty := .int) (a0 := (40, (.inl (fun _ => 0)))) hx hb (hts (.arrayClass .int) (by decide +kernel)) rfl rfl rfl hK hP hD hS hA (n := 40) (N' := 40) (fun _ => rfl) (by decide +kernel) (by decide +kernel) (by decide +kernel) (by decide +kernel) (by decide +kernel) dX10_init_31 (fun q_4 H hP hD hS => ?_)
  have hP : va_P (dC, dI) vwCl [(h, .inr (10, [.ref q_1, .ref q_2, .ref q_3, .null, .int 0])), (q_1, .inl (k 0, 40, .inl (fun _ => 0))), (q_2, .inl (k 0, 40, .inl (fun _ => 0))), (q_3, .inl (k 0, 40, .inl (fun _ => 0))), (q_4, .inl (k 0, 40, .inl (fun _ => 0)))] H := hP
  have hD : va_D A [(h, .inr (10, [.ref q_1, .ref q_2, .ref q_3, .null, .int 0])), (q_1, .inl (k 0, 40, .inl (fun _ => 0))), (q_2, .inl (k 0, 40, .inl (fun _ => 0))), (q_3, .inl (k 0, 40, .inl (fun _ => 0))), (q_4, .inl (k 0, 40, .inl (fun _ => 0)))] := hD
  refine va_putF (D := (dC, dI)) (ci := 10) (v := .ref q_4) (ty := .array .int) (C := RX10) (T := TX10) (N := 5) hx hb hts hi10 tyX10 tyX10_ok nmX10 hown hK hP hD hS 0 rfl rfl 3 (by decide) (hts (.fieldLink RX10 21 "HeightFine$Year" "third" "[I") (by decide +kernel)) (fun _ h9 => h9) rfl hin rfl (by decide +kernel) rfl rfl (Nat.le_of_ble_eq_true rfl) dX10_init_33 (fun H locs hP hD hS => ?_)
  have hP : va_P (dC, dI) vwCl [(h, .inr (10, [.ref q_1, .ref q_2, .ref q_3, .ref q_4, .int 0])), (q_1, .inl (k 0, 40, .inl (fun _ => 0))), (q_2, .inl (k 0, 40, .inl (fun _ => 0))), (q_3, .inl (k 0, 40, .inl (fun _ => 0))), (q_4, .inl (k 0, 40, .inl (fun _ => 0)))] H := hP
  have hD : va_D A [(h, .inr (10, [.ref q_1, .ref q_2, .ref q_3, .ref q_4, .int 0])), (q_1, .inl (k 0, 40, .inl (fun _ => 0))), (q_2, .inl (k 0, 40, .inl (fun _ => 0))), (q_3, .inl (k 0, 40, .inl (fun _ => 0))), (q_4, .inl (k 0, 40, .inl (fun _ => 0)))] := hD
  have hP9 : va_P (dC, dI) vwCl [(h, .inr (10, [.ref ((fs [q_1, q_2, q_3, q_4]) 0), .ref ((fs [q_1, q_2, q_3, q_4]) 1), .ref ((fs [q_1, q_2, q_3, q_4]) 2), .ref ((fs [q_1, q_2, q_3, q_4]) 3), .int 0])), (((fs [q_1, q_2, q_3, q_4]) 0), .inl (k 0, 40, .inl (fun _ => 0))), (((fs [q_1, q_2, q_3, q_4]) 1), .inl (k 0, 40, .inl (fun _ => 0))), (((fs [q_1, q_2, q_3, q_4]) 2), .inl (k 0, 40, .inl (fun _ => 0))), (((fs [q_1, q_2, q_3, q_4]) 3), .inl (k 0, 40, .inl (fun _ => 0)))] H := hP.sub (ws' := [(h, .inr (10, [.ref q_1, .ref q_2, .ref q_3, .ref q_4, .int 0])), (q_1, .inl (k 0, 40, .inl (fun _ => 0))), (q_2, .inl (k 0, 40, .inl (fun _ => 0))), (q_3, .inl (k 0, 40, .inl (fun _ => 0))), (q_4, .inl (k 0, 40, .inl (fun _ => 0)))]) [0, 1, 2, 3, 4] rfl
  have hD9 : va_D A [(h, .inr (10, [.ref ((fs [q_1, q_2, q_3, q_4]) 0), .ref ((fs [q_1, q_2, q_3, q_4]) 1), .ref ((fs [q_1, q_2, q_3, q_4]) 2), .ref ((fs [q_1, q_2, q_3, q_4]) 3), .int 0])), (((fs [q_1, q_2, q_3, q_4]) 0), .inl (k 0, 40, .inl (fun _ => 0))), (((fs [q_1, q_2, q_3, q_4]) 1), .inl (k 0, 40, .inl (fun _ => 0))), (((fs [q_1, q_2, q_3, q_4]) 2), .inl (k 0, 40, .inl (fun _ => 0))), (((fs [q_1, q_2, q_3, q_4]) 3), .inl (k 0, 40, .inl (fun _ => 0)))] := hD.sub (ws' := [(h, .inr (10, [.ref q_1, .ref q_2, .ref q_3, .ref q_4, .int 0])), (q_1, .inl (k 0, 40, .inl (fun _ => 0))), (q_2, .inl (k 0, 40, .inl (fun _ => 0))), (q_3, .inl (k 0, 40, .inl (fun _ => 0))), (q_4, .inl (k 0, 40, .inl (fun _ => 0)))]) [0, 1, 2, 3, 4] (by decide) rfl
  refine W.widen (k := 4) (n := 160) (by decide +kernel) (by decide +kernel) ?_
  exact W.vret hx hb hr (fun t ht hW => ⟨⟨(fs [q_1, q_2, q_3, q_4]), rfl, trivial, by rw [ht]; exact hP9, hD9⟩, hS.F ht⟩) hS.2.2 dX10_init_36

def ws_c_Linit : List Cond := .code yX3_init cX3_init 1 none :: ([.methodLink RX3 3 objectInit, .instanceMethod objectInit, .code objectInit ⟨#[0xb1]⟩ 1 none, .arrayClass .int, .fieldLink RX3 9 "HeightFine$Ledger" "got" "[I"] ++ u_ws RX3 TX3 2)
set_option maxRecDepth 20000 in
theorem in_c_Linit_3 : ∀ w ∈ u_ws RX3 TX3 2, w ∈ ws_c_Linit := by decide +kernel
set_option maxHeartbeats 4000000 in
set_option maxRecDepth 100000 in
theorem c_Linit (l : Launch) (dC : Nat → ClassId) (dI : Nat → Nat → Nat) (k : Nat → ClassId) (h : Nat) (sz : Nat) : Met l yX3_init ws_c_Linit ({ frames := 1, cells := 1, slots := 8, locals := 20 }) (va_Pc [.ref h] (prW dC dI k [(h, .inr (3, [.null, .int 0]))] sz)) (va_Qv (fun (_ : (Nat → Nat)) => True) (fun (b : (Nat → Nat)) (t : State) => po (dC, dI) (va_A [(h, .inr (3, [.null, .int 0]))] sz) [(h, .inr (3, [.ref (b 0), .int 0])), ((b 0), .inl (k 0, 8, .inl (fun _ => 0)))] t) (va_A [(h, .inr (3, [.null, .int 0]))] sz)) 1 8 (va_A [(h, .inr (3, [.null, .int 0]))] sz) := by
  refine Met.ofW (cc := cX3_init) (maxL := 1) (ret := none) (by decide) rfl ?_
  intro p e s m args below meth c s₁ B hml hv
  obtain ⟨rfl, hsz, hP, hK, hD0⟩ := hv
  have hx := B.exec
  have hb := B.bytes
  have hr := B.returns
  have hts := atoms_spec (ws := ws_c_Linit) B.pre
  have hown : s.vm.findClass RX3 = some m.cls := findClass_of_methodNamed B.named
  have hin : meth.name = "<init>" := (name_of_methodNamed B.named B.method).1
  have hi3 := in_c_Linit_3
  have hobj : Cond.code objectInit ⟨#[0xb1]⟩ 1 none ∈ ws_c_Linit := List.mem_of_getElem? (i := 3) rfl
  subst hsz
  have hD := hD0.self (sz := s.heap.size)
  generalize hAe : va_A [(h, .inr (3, [.null, .int 0]))] s.heap.size = A at hD ⊢
  have hA : ∀ q : Nat, s.heap.size ≤ q → A q := fun q h => by rw [← hAe]; exact Or.inr h
  have hS : va_S A s.heap s.heap [] := va_S.rf
  have hP : va_P (dC, dI) vwCl [(h, .inr (3, [.null, .int 0]))] s.heap := hP
  have hl := lv_entry ([.ref h]) (n := 1) (Nat.le_of_ble_eq_true rfl)
  rw [lg_entry_eq]
  generalize (lg_sl ([.ref h]) ++ List.replicate (1 - (lg_sl ([.ref h])).length) Slot.unset).toArray = ls at hl ⊢
  have hl : lv_has ls 1 [(0, .ref h)] := hl
  refine lv_aload_n hx hb dX3_init_0 rfl (lv_at hl 0 rfl) ?_
  refine W.objInit hx hb hown (hts (.methodLink RX3 3 objectInit) (by decide +kernel)) (hts (.instanceMethod objectInit) (by decide +kernel)) (hts _ hobj) rfl (by rw [hml]; exact hl.1) rfl dX3_init_1 (Nat.le_of_ble_eq_true rfl) (Nat.le_of_ble_eq_true rfl) ?_
  refine W.eq (g2 := F0 m 4 ls []) rfl ?_
  refine lv_aload_n hx hb dX3_init_4 rfl (lv_at hl 0 rfl) ?_
  refine lv_bipush (v := 8) hx hb dX3_init_5 (by decide) ?_
  refine zz_newa (atype := .int) (t0 := 0) (cA := k 0) (ty := .int) (a0 := (8, (.inl (fun _ => 0)))) hx hb (hts (.arrayClass .int) (by decide +kernel)) rfl rfl rfl hK hP hD hS hA (n := 8) (N' := 8) (fun _ => rfl) (by decide +kernel) (by decide +kernel) (by decide +kernel) (by decide +kernel) (by decide +kernel) dX3_init_7 (fun q_1 H hP hD hS => ?_)
  have hP : va_P (dC, dI) vwCl [(h, .inr (3, [.null, .int 0])), (q_1, .inl (k 0, 8, .inl (fun _ => 0)))] H := hP
  have hD : va_D A [(h, .inr (3, [.null, .int 0])), (q_1, .inl (k 0, 8, .inl (fun _ => 0)))] := hD
  refine va_putF (D := (dC, dI)) (ci := 3) (v := .ref q_1) (ty := .array .int) (C := RX3) (T := TX3) (N := 2) hx hb hts hi3 tyX3 tyX3_ok nmX3 hown hK hP hD hS 0 rfl rfl 0 (by decide) (hts (.fieldLink RX3 9 "HeightFine$Ledger" "got" "[I") (by decide +kernel)) (fun _ h9 => h9) rfl hin rfl (by decide +kernel) rfl rfl (Nat.le_of_ble_eq_true rfl) dX3_init_9 (fun H locs hP hD hS => ?_)
  have hP : va_P (dC, dI) vwCl [(h, .inr (3, [.ref q_1, .int 0])), (q_1, .inl (k 0, 8, .inl (fun _ => 0)))] H := hP
  have hD : va_D A [(h, .inr (3, [.ref q_1, .int 0])), (q_1, .inl (k 0, 8, .inl (fun _ => 0)))] := hD
  have hP9 : va_P (dC, dI) vwCl [(h, .inr (3, [.ref ((fs [q_1]) 0), .int 0])), (((fs [q_1]) 0), .inl (k 0, 8, .inl (fun _ => 0)))] H := hP.sub (ws' := [(h, .inr (3, [.ref q_1, .int 0])), (q_1, .inl (k 0, 8, .inl (fun _ => 0)))]) [0, 1] rfl
  have hD9 : va_D A [(h, .inr (3, [.ref ((fs [q_1]) 0), .int 0])), (((fs [q_1]) 0), .inl (k 0, 8, .inl (fun _ => 0)))] := hD.sub (ws' := [(h, .inr (3, [.ref q_1, .int 0])), (q_1, .inl (k 0, 8, .inl (fun _ => 0)))]) [0, 1] (by decide) rfl
  refine W.widen (k := 1) (n := 8) (by decide +kernel) (by decide +kernel) ?_
  exact W.vret hx hb hr (fun t ht hW => ⟨⟨(fs [q_1]), rfl, trivial, by rw [ht]; exact hP9, hD9⟩, hS.F ht⟩) hS.2.2 dX3_init_12

def ws_c_Sinit : List Cond := .code yX7_init cX7_init 1 none :: ([.methodLink RX7 3 objectInit, .instanceMethod objectInit, .code objectInit ⟨#[0xb1]⟩ 1 none, .arrayClass .int, .fieldLink RX7 9 "HeightFine$Sight" "person" "[I", .fieldLink RX7 15 "HeightFine$Sight" "tall" "[I"] ++ u_ws RX7 TX7 3)
set_option maxRecDepth 20000 in
theorem in_c_Sinit_7 : ∀ w ∈ u_ws RX7 TX7 3, w ∈ ws_c_Sinit := by decide +kernel
set_option maxHeartbeats 4000000 in
set_option maxRecDepth 100000 in
theorem c_Sinit (l : Launch) (dC : Nat → ClassId) (dI : Nat → Nat → Nat) (k : Nat → ClassId) (h : Nat) (sz : Nat) : Met l yX7_init ws_c_Sinit ({ frames := 1, cells := 2, slots := 20, locals := 20 }) (va_Pc [.ref h] (prW dC dI k [(h, .inr (7, [.null, .null, .int 0]))] sz)) (va_Qv (fun (_ : (Nat → Nat)) => True) (fun (b : (Nat → Nat)) (t : State) => po (dC, dI) (va_A [(h, .inr (7, [.null, .null, .int 0]))] sz) [(h, .inr (7, [.ref (b 0), .ref (b 1), .int 0])), ((b 0), .inl (k 0, 10, .inl (fun _ => 0))), ((b 1), .inl (k 0, 10, .inl (fun _ => 0)))] t) (va_A [(h, .inr (7, [.null, .null, .int 0]))] sz)) 2 20 (va_A [(h, .inr (7, [.null, .null, .int 0]))] sz) := by
  refine Met.ofW (cc := cX7_init) (maxL := 1) (ret := none) (by decide) rfl ?_
  intro p e s m args below meth c s₁ B hml hv
  obtain ⟨rfl, hsz, hP, hK, hD0⟩ := hv
  have hx := B.exec
  have hb := B.bytes
  have hr := B.returns
  have hts := atoms_spec (ws := ws_c_Sinit) B.pre
  have hown : s.vm.findClass RX7 = some m.cls := findClass_of_methodNamed B.named
  have hin : meth.name = "<init>" := (name_of_methodNamed B.named B.method).1
  have hi7 := in_c_Sinit_7
  have hobj : Cond.code objectInit ⟨#[0xb1]⟩ 1 none ∈ ws_c_Sinit := List.mem_of_getElem? (i := 3) rfl
  subst hsz
  have hD := hD0.self (sz := s.heap.size)
  generalize hAe : va_A [(h, .inr (7, [.null, .null, .int 0]))] s.heap.size = A at hD ⊢
  have hA : ∀ q : Nat, s.heap.size ≤ q → A q := fun q h => by rw [← hAe]; exact Or.inr h
  have hS : va_S A s.heap s.heap [] := va_S.rf
  have hP : va_P (dC, dI) vwCl [(h, .inr (7, [.null, .null, .int 0]))] s.heap := hP
  have hl := lv_entry ([.ref h]) (n := 1) (Nat.le_of_ble_eq_true rfl)
  rw [lg_entry_eq]
  generalize (lg_sl ([.ref h]) ++ List.replicate (1 - (lg_sl ([.ref h])).length) Slot.unset).toArray = ls at hl ⊢
  have hl : lv_has ls 1 [(0, .ref h)] := hl
  refine lv_aload_n hx hb dX7_init_0 rfl (lv_at hl 0 rfl) ?_
  refine W.objInit hx hb hown (hts (.methodLink RX7 3 objectInit) (by decide +kernel)) (hts (.instanceMethod objectInit) (by decide +kernel)) (hts _ hobj) rfl (by rw [hml]; exact hl.1) rfl dX7_init_1 (Nat.le_of_ble_eq_true rfl) (Nat.le_of_ble_eq_true rfl) ?_
  refine W.eq (g2 := F0 m 4 ls []) rfl ?_
  refine lv_aload_n hx hb dX7_init_4 rfl (lv_at hl 0 rfl) ?_
  refine lv_bipush (v := 10) hx hb dX7_init_5 (by decide) ?_
  refine zz_newa (atype := .int) (t0 := 0) (cA := k 0) (ty := .int) (a0 := (10, (.inl (fun _ => 0)))) hx hb (hts (.arrayClass .int) (by decide +kernel)) rfl rfl rfl hK hP hD hS hA (n := 10) (N' := 10) (fun _ => rfl) (by decide +kernel) (by decide +kernel) (by decide +kernel) (by decide +kernel) (by decide +kernel) dX7_init_7 (fun q_1 H hP hD hS => ?_)
  have hP : va_P (dC, dI) vwCl [(h, .inr (7, [.null, .null, .int 0])), (q_1, .inl (k 0, 10, .inl (fun _ => 0)))] H := hP
  have hD : va_D A [(h, .inr (7, [.null, .null, .int 0])), (q_1, .inl (k 0, 10, .inl (fun _ => 0)))] := hD
  refine va_putF (D := (dC, dI)) (ci := 7) (v := .ref q_1) (ty := .array .int) (C := RX7) (T := TX7) (N := 3) hx hb hts hi7 tyX7 tyX7_ok nmX7 hown hK hP hD hS 0 rfl rfl 0 (by decide) (hts (.fieldLink RX7 9 "HeightFine$Sight" "person" "[I") (by decide +kernel)) (fun _ h9 => h9) rfl hin rfl (by decide +kernel) rfl rfl (Nat.le_of_ble_eq_true rfl) dX7_init_9 (fun H locs hP hD hS => ?_)
  have hP : va_P (dC, dI) vwCl [(h, .inr (7, [.ref q_1, .null, .int 0])), (q_1, .inl (k 0, 10, .inl (fun _ => 0)))] H := hP
  have hD : va_D A [(h, .inr (7, [.ref q_1, .null, .int 0])), (q_1, .inl (k 0, 10, .inl (fun _ => 0)))] := hD
  refine lv_aload_n hx hb dX7_init_12 rfl (lv_at hl 0 rfl) ?_
  refine lv_bipush (v := 10) hx hb dX7_init_13 (by decide) ?_
  refine zz_newa (atype := .int) (t0 := 0) (cA := k 0) (ty := .int) (a0 := (10, (.inl (fun _ => 0)))) hx hb (hts (.arrayClass .int) (by decide +kernel)) rfl rfl rfl hK hP hD hS hA (n := 10) (N' := 10) (fun _ => rfl) (by decide +kernel) (by decide +kernel) (by decide +kernel) (by decide +kernel) (by decide +kernel) dX7_init_15 (fun q_2 H hP hD hS => ?_)
  have hP : va_P (dC, dI) vwCl [(h, .inr (7, [.ref q_1, .null, .int 0])), (q_1, .inl (k 0, 10, .inl (fun _ => 0))), (q_2, .inl (k 0, 10, .inl (fun _ => 0)))] H := hP
  have hD : va_D A [(h, .inr (7, [.ref q_1, .null, .int 0])), (q_1, .inl (k 0, 10, .inl (fun _ => 0))), (q_2, .inl (k 0, 10, .inl (fun _ => 0)))] := hD
  refine va_putF (D := (dC, dI)) (ci := 7) (v := .ref q_2) (ty := .array .int) (C := RX7) (T := TX7) (N := 3) hx hb hts hi7 tyX7 tyX7_ok nmX7 hown hK hP hD hS 0 rfl rfl 1 (by decide) (hts (.fieldLink RX7 15 "HeightFine$Sight" "tall" "[I") (by decide +kernel)) (fun _ h9 => h9) rfl hin rfl (by decide +kernel) rfl rfl (Nat.le_of_ble_eq_true rfl) dX7_init_17 (fun H locs hP hD hS => ?_)
  have hP : va_P (dC, dI) vwCl [(h, .inr (7, [.ref q_1, .ref q_2, .int 0])), (q_1, .inl (k 0, 10, .inl (fun _ => 0))), (q_2, .inl (k 0, 10, .inl (fun _ => 0)))] H := hP
  have hD : va_D A [(h, .inr (7, [.ref q_1, .ref q_2, .int 0])), (q_1, .inl (k 0, 10, .inl (fun _ => 0))), (q_2, .inl (k 0, 10, .inl (fun _ => 0)))] := hD
  have hP9 : va_P (dC, dI) vwCl [(h, .inr (7, [.ref ((fs [q_1, q_2]) 0), .ref ((fs [q_1, q_2]) 1), .int 0])), (((fs [q_1, q_2]) 0), .inl (k 0, 10, .inl (fun _ => 0))), (((fs [q_1, q_2]) 1), .inl (k 0, 10, .inl (fun _ => 0)))] H := hP.sub (ws' := [(h, .inr (7, [.ref q_1, .ref q_2, .int 0])), (q_1, .inl (k 0, 10, .inl (fun _ => 0))), (q_2, .inl (k 0, 10, .inl (fun _ => 0)))]) [0, 1, 2] rfl
  have hD9 : va_D A [(h, .inr (7, [.ref ((fs [q_1, q_2]) 0), .ref ((fs [q_1, q_2]) 1), .int 0])), (((fs [q_1, q_2]) 0), .inl (k 0, 10, .inl (fun _ => 0))), (((fs [q_1, q_2]) 1), .inl (k 0, 10, .inl (fun _ => 0)))] := hD.sub (ws' := [(h, .inr (7, [.ref q_1, .ref q_2, .int 0])), (q_1, .inl (k 0, 10, .inl (fun _ => 0))), (q_2, .inl (k 0, 10, .inl (fun _ => 0)))]) [0, 1, 2] (by decide) rfl
  refine W.widen (k := 2) (n := 20) (by decide +kernel) (by decide +kernel) ?_
  exact W.vret hx hb hr (fun t ht hW => ⟨⟨(fs [q_1, q_2]), rfl, trivial, by rw [ht]; exact hP9, hD9⟩, hS.F ht⟩) hS.2.2 dX7_init_20

def ws_c_Winit : List Cond := .code yX9_init cX9_init 1 none :: ([.methodLink RX9 3 objectInit, .instanceMethod objectInit, .code objectInit ⟨#[0xb1]⟩ 1 none, .arrayClass .int, .fieldLink RX9 9 "HeightFine$Walk" "inches" "[I", .fieldLink RX9 15 "HeightFine$Walk" "over" "[I", .fieldLink RX9 18 "HeightFine$Walk" "groups" "[I"] ++ u_ws RX9 TX9 5)
set_option maxRecDepth 20000 in
theorem in_c_Winit_9 : ∀ w ∈ u_ws RX9 TX9 5, w ∈ ws_c_Winit := by decide +kernel
set_option maxHeartbeats 4000000 in
set_option maxRecDepth 100000 in
theorem c_Winit (l : Launch) (dC : Nat → ClassId) (dI : Nat → Nat → Nat) (k : Nat → ClassId) (h : Nat) (sz : Nat) : Met l yX9_init ws_c_Winit ({ frames := 1, cells := 3, slots := 1032, locals := 20 }) (va_Pc [.ref h] (prW dC dI k [(h, .inr (9, [.null, .null, .null, .int 0, .int 0]))] sz)) (va_Qv (fun (_ : (Nat → Nat)) => True) (fun (b : (Nat → Nat)) (t : State) => po (dC, dI) (va_A [(h, .inr (9, [.null, .null, .null, .int 0, .int 0]))] sz) [(h, .inr (9, [.ref (b 0), .ref (b 1), .ref (b 2), .int 0, .int 0])), ((b 0), .inl (k 0, 8, .inl (fun _ => 0))), ((b 1), .inl (k 0, 512, .inl (fun _ => 0))), ((b 2), .inl (k 0, 512, .inl (fun _ => 0)))] t) (va_A [(h, .inr (9, [.null, .null, .null, .int 0, .int 0]))] sz)) 3 1032 (va_A [(h, .inr (9, [.null, .null, .null, .int 0, .int 0]))] sz) := by
  refine Met.ofW (cc := cX9_init) (maxL := 1) (ret := none) (by decide) rfl ?_
  intro p e s m args below meth c s₁ B hml hv
  obtain ⟨rfl, hsz, hP, hK, hD0⟩ := hv
  have hx := B.exec
  have hb := B.bytes
  have hr := B.returns
  have hts := atoms_spec (ws := ws_c_Winit) B.pre
  have hown : s.vm.findClass RX9 = some m.cls := findClass_of_methodNamed B.named
  have hin : meth.name = "<init>" := (name_of_methodNamed B.named B.method).1
  have hi9 := in_c_Winit_9
  have hobj : Cond.code objectInit ⟨#[0xb1]⟩ 1 none ∈ ws_c_Winit := List.mem_of_getElem? (i := 3) rfl
  subst hsz
  have hD := hD0.self (sz := s.heap.size)
  generalize hAe : va_A [(h, .inr (9, [.null, .null, .null, .int 0, .int 0]))] s.heap.size = A at hD ⊢
  have hA : ∀ q : Nat, s.heap.size ≤ q → A q := fun q h => by rw [← hAe]; exact Or.inr h
  have hS : va_S A s.heap s.heap [] := va_S.rf
  have hP : va_P (dC, dI) vwCl [(h, .inr (9, [.null, .null, .null, .int 0, .int 0]))] s.heap := hP
  have hl := lv_entry ([.ref h]) (n := 1) (Nat.le_of_ble_eq_true rfl)
  rw [lg_entry_eq]
  generalize (lg_sl ([.ref h]) ++ List.replicate (1 - (lg_sl ([.ref h])).length) Slot.unset).toArray = ls at hl ⊢
  have hl : lv_has ls 1 [(0, .ref h)] := hl
  refine lv_aload_n hx hb dX9_init_0 rfl (lv_at hl 0 rfl) ?_
  refine W.objInit hx hb hown (hts (.methodLink RX9 3 objectInit) (by decide +kernel)) (hts (.instanceMethod objectInit) (by decide +kernel)) (hts _ hobj) rfl (by rw [hml]; exact hl.1) rfl dX9_init_1 (Nat.le_of_ble_eq_true rfl) (Nat.le_of_ble_eq_true rfl) ?_
  refine W.eq (g2 := F0 m 4 ls []) rfl ?_
  refine lv_aload_n hx hb dX9_init_4 rfl (lv_at hl 0 rfl) ?_
  refine lv_bipush (v := 8) hx hb dX9_init_5 (by decide) ?_
  refine zz_newa (atype := .int) (t0 := 0) (cA := k 0) (ty := .int) (a0 := (8, (.inl (fun _ => 0)))) hx hb (hts (.arrayClass .int) (by decide +kernel)) rfl rfl rfl hK hP hD hS hA (n := 8) (N' := 8) (fun _ => rfl) (by decide +kernel) (by decide +kernel) (by decide +kernel) (by decide +kernel) (by decide +kernel) dX9_init_7 (fun q_1 H hP hD hS => ?_)
  have hP : va_P (dC, dI) vwCl [(h, .inr (9, [.null, .null, .null, .int 0, .int 0])), (q_1, .inl (k 0, 8, .inl (fun _ => 0)))] H := hP
  have hD : va_D A [(h, .inr (9, [.null, .null, .null, .int 0, .int 0])), (q_1, .inl (k 0, 8, .inl (fun _ => 0)))] := hD
  refine va_putF (D := (dC, dI)) (ci := 9) (v := .ref q_1) (ty := .array .int) (C := RX9) (T := TX9) (N := 5) hx hb hts hi9 tyX9 tyX9_ok nmX9 hown hK hP hD hS 0 rfl rfl 0 (by decide) (hts (.fieldLink RX9 9 "HeightFine$Walk" "inches" "[I") (by decide +kernel)) (fun _ h9 => h9) rfl hin rfl (by decide +kernel) rfl rfl (Nat.le_of_ble_eq_true rfl) dX9_init_9 (fun H locs hP hD hS => ?_)
  have hP : va_P (dC, dI) vwCl [(h, .inr (9, [.ref q_1, .null, .null, .int 0, .int 0])), (q_1, .inl (k 0, 8, .inl (fun _ => 0)))] H := hP
  have hD : va_D A [(h, .inr (9, [.ref q_1, .null, .null, .int 0, .int 0])), (q_1, .inl (k 0, 8, .inl (fun _ => 0)))] := hD
  refine lv_aload_n hx hb dX9_init_12 rfl (lv_at hl 0 rfl) ?_
  refine lv_sipush (v := 512) hx hb dX9_init_13 (by decide) ?_
  refine zz_newa (atype := .int) (t0 := 0) (cA := k 0) (ty := .int) (a0 := (512, (.inl (fun _ => 0)))) hx hb (hts (.arrayClass .int) (by decide +kernel)) rfl rfl rfl hK hP hD hS hA (n := 512) (N' := 512) (fun _ => rfl) (by decide +kernel) (by decide +kernel) (by decide +kernel) (by decide +kernel) (by decide +kernel) dX9_init_16 (fun q_2 H hP hD hS => ?_)
  have hP : va_P (dC, dI) vwCl [(h, .inr (9, [.ref q_1, .null, .null, .int 0, .int 0])), (q_1, .inl (k 0, 8, .inl (fun _ => 0))), (q_2, .inl (k 0, 512, .inl (fun _ => 0)))] H := hP
  have hD : va_D A [(h, .inr (9, [.ref q_1, .null, .null, .int 0, .int 0])), (q_1, .inl (k 0, 8, .inl (fun _ => 0))), (q_2, .inl (k 0, 512, .inl (fun _ => 0)))] := hD
  refine va_putF (D := (dC, dI)) (ci := 9) (v := .ref q_2) (ty := .array .int) (C := RX9) (T := TX9) (N := 5) hx hb hts hi9 tyX9 tyX9_ok nmX9 hown hK hP hD hS 0 rfl rfl 1 (by decide) (hts (.fieldLink RX9 15 "HeightFine$Walk" "over" "[I") (by decide +kernel)) (fun _ h9 => h9) rfl hin rfl (by decide +kernel) rfl rfl (Nat.le_of_ble_eq_true rfl) dX9_init_18 (fun H locs hP hD hS => ?_)
  have hP : va_P (dC, dI) vwCl [(h, .inr (9, [.ref q_1, .ref q_2, .null, .int 0, .int 0])), (q_1, .inl (k 0, 8, .inl (fun _ => 0))), (q_2, .inl (k 0, 512, .inl (fun _ => 0)))] H := hP
  have hD : va_D A [(h, .inr (9, [.ref q_1, .ref q_2, .null, .int 0, .int 0])), (q_1, .inl (k 0, 8, .inl (fun _ => 0))), (q_2, .inl (k 0, 512, .inl (fun _ => 0)))] := hD
  refine lv_aload_n hx hb dX9_init_21 rfl (lv_at hl 0 rfl) ?_
  refine lv_sipush (v := 512) hx hb dX9_init_22 (by decide) ?_
  refine zz_newa (atype := .int) (t0 := 0) (cA := k 0) (ty := .int) (a0 := (512, (.inl (fun _ => 0)))) hx hb (hts (.arrayClass .int) (by decide +kernel)) rfl rfl rfl hK hP hD hS hA (n := 512) (N' := 512) (fun _ => rfl) (by decide +kernel) (by decide +kernel) (by decide +kernel) (by decide +kernel) (by decide +kernel) dX9_init_25 (fun q_3 H hP hD hS => ?_)
  have hP : va_P (dC, dI) vwCl [(h, .inr (9, [.ref q_1, .ref q_2, .null, .int 0, .int 0])), (q_1, .inl (k 0, 8, .inl (fun _ => 0))), (q_2, .inl (k 0, 512, .inl (fun _ => 0))), (q_3, .inl (k 0, 512, .inl (fun _ => 0)))] H := hP
  have hD : va_D A [(h, .inr (9, [.ref q_1, .ref q_2, .null, .int 0, .int 0])), (q_1, .inl (k 0, 8, .inl (fun _ => 0))), (q_2, .inl (k 0, 512, .inl (fun _ => 0))), (q_3, .inl (k 0, 512, .inl (fun _ => 0)))] := hD
  refine va_putF (D := (dC, dI)) (ci := 9) (v := .ref q_3) (ty := .array .int) (C := RX9) (T := TX9) (N := 5) hx hb hts hi9 tyX9 tyX9_ok nmX9 hown hK hP hD hS 0 rfl rfl 2 (by decide) (hts (.fieldLink RX9 18 "HeightFine$Walk" "groups" "[I") (by decide +kernel)) (fun _ h9 => h9) rfl hin rfl (by decide +kernel) rfl rfl (Nat.le_of_ble_eq_true rfl) dX9_init_27 (fun H locs hP hD hS => ?_)
  have hP : va_P (dC, dI) vwCl [(h, .inr (9, [.ref q_1, .ref q_2, .ref q_3, .int 0, .int 0])), (q_1, .inl (k 0, 8, .inl (fun _ => 0))), (q_2, .inl (k 0, 512, .inl (fun _ => 0))), (q_3, .inl (k 0, 512, .inl (fun _ => 0)))] H := hP
  have hD : va_D A [(h, .inr (9, [.ref q_1, .ref q_2, .ref q_3, .int 0, .int 0])), (q_1, .inl (k 0, 8, .inl (fun _ => 0))), (q_2, .inl (k 0, 512, .inl (fun _ => 0))), (q_3, .inl (k 0, 512, .inl (fun _ => 0)))] := hD
  have hP9 : va_P (dC, dI) vwCl [(h, .inr (9, [.ref ((fs [q_1, q_2, q_3]) 0), .ref ((fs [q_1, q_2, q_3]) 1), .ref ((fs [q_1, q_2, q_3]) 2), .int 0, .int 0])), (((fs [q_1, q_2, q_3]) 0), .inl (k 0, 8, .inl (fun _ => 0))), (((fs [q_1, q_2, q_3]) 1), .inl (k 0, 512, .inl (fun _ => 0))), (((fs [q_1, q_2, q_3]) 2), .inl (k 0, 512, .inl (fun _ => 0)))] H := hP.sub (ws' := [(h, .inr (9, [.ref q_1, .ref q_2, .ref q_3, .int 0, .int 0])), (q_1, .inl (k 0, 8, .inl (fun _ => 0))), (q_2, .inl (k 0, 512, .inl (fun _ => 0))), (q_3, .inl (k 0, 512, .inl (fun _ => 0)))]) [0, 1, 2, 3] rfl
  have hD9 : va_D A [(h, .inr (9, [.ref ((fs [q_1, q_2, q_3]) 0), .ref ((fs [q_1, q_2, q_3]) 1), .ref ((fs [q_1, q_2, q_3]) 2), .int 0, .int 0])), (((fs [q_1, q_2, q_3]) 0), .inl (k 0, 8, .inl (fun _ => 0))), (((fs [q_1, q_2, q_3]) 1), .inl (k 0, 512, .inl (fun _ => 0))), (((fs [q_1, q_2, q_3]) 2), .inl (k 0, 512, .inl (fun _ => 0)))] := hD.sub (ws' := [(h, .inr (9, [.ref q_1, .ref q_2, .ref q_3, .int 0, .int 0])), (q_1, .inl (k 0, 8, .inl (fun _ => 0))), (q_2, .inl (k 0, 512, .inl (fun _ => 0))), (q_3, .inl (k 0, 512, .inl (fun _ => 0)))]) [0, 1, 2, 3] (by decide) rfl
  refine W.widen (k := 3) (n := 1032) (by decide +kernel) (by decide +kernel) ?_
  exact W.vret hx hb hr (fun t ht hW => ⟨⟨(fs [q_1, q_2, q_3]), rfl, trivial, by rw [ht]; exact hP9, hD9⟩, hS.F ht⟩) hS.2.2 dX9_init_30

def ws_c_Einit : List Cond := .code yX5_init cX5_init 1 none :: ([.methodLink RX5 3 objectInit, .instanceMethod objectInit, .code objectInit ⟨#[0xb1]⟩ 1 none, .arrayClass .int, .fieldLink RX5 9 "HeightFine$Reach" "cost" "[I"] ++ u_ws RX5 TX5 3)
set_option maxRecDepth 20000 in
theorem in_c_Einit_5 : ∀ w ∈ u_ws RX5 TX5 3, w ∈ ws_c_Einit := by decide +kernel
set_option maxHeartbeats 4000000 in
set_option maxRecDepth 100000 in
theorem c_Einit (l : Launch) (dC : Nat → ClassId) (dI : Nat → Nat → Nat) (k : Nat → ClassId) (h : Nat) (sz : Nat) : Met l yX5_init ws_c_Einit ({ frames := 1, cells := 1, slots := 1792, locals := 20 }) (va_Pc [.ref h] (prW dC dI k [(h, .inr (5, [.null, .int 0, .int 0]))] sz)) (va_Qv (fun (_ : (Nat → Nat)) => True) (fun (b : (Nat → Nat)) (t : State) => po (dC, dI) (va_A [(h, .inr (5, [.null, .int 0, .int 0]))] sz) [(h, .inr (5, [.ref (b 0), .int 0, .int 0])), ((b 0), .inl (k 0, 1792, .inl (fun _ => 0)))] t) (va_A [(h, .inr (5, [.null, .int 0, .int 0]))] sz)) 1 1792 (va_A [(h, .inr (5, [.null, .int 0, .int 0]))] sz) := by
  refine Met.ofW (cc := cX5_init) (maxL := 1) (ret := none) (by decide) rfl ?_
  intro p e s m args below meth c s₁ B hml hv
  obtain ⟨rfl, hsz, hP, hK, hD0⟩ := hv
  have hx := B.exec
  have hb := B.bytes
  have hr := B.returns
  have hts := atoms_spec (ws := ws_c_Einit) B.pre
  have hown : s.vm.findClass RX5 = some m.cls := findClass_of_methodNamed B.named
  have hin : meth.name = "<init>" := (name_of_methodNamed B.named B.method).1
  have hi5 := in_c_Einit_5
  have hobj : Cond.code objectInit ⟨#[0xb1]⟩ 1 none ∈ ws_c_Einit := List.mem_of_getElem? (i := 3) rfl
  subst hsz
  have hD := hD0.self (sz := s.heap.size)
  generalize hAe : va_A [(h, .inr (5, [.null, .int 0, .int 0]))] s.heap.size = A at hD ⊢
  have hA : ∀ q : Nat, s.heap.size ≤ q → A q := fun q h => by rw [← hAe]; exact Or.inr h
  have hS : va_S A s.heap s.heap [] := va_S.rf
  have hP : va_P (dC, dI) vwCl [(h, .inr (5, [.null, .int 0, .int 0]))] s.heap := hP
  have hl := lv_entry ([.ref h]) (n := 1) (Nat.le_of_ble_eq_true rfl)
  rw [lg_entry_eq]
  generalize (lg_sl ([.ref h]) ++ List.replicate (1 - (lg_sl ([.ref h])).length) Slot.unset).toArray = ls at hl ⊢
  have hl : lv_has ls 1 [(0, .ref h)] := hl
  refine lv_aload_n hx hb dX5_init_0 rfl (lv_at hl 0 rfl) ?_
  refine W.objInit hx hb hown (hts (.methodLink RX5 3 objectInit) (by decide +kernel)) (hts (.instanceMethod objectInit) (by decide +kernel)) (hts _ hobj) rfl (by rw [hml]; exact hl.1) rfl dX5_init_1 (Nat.le_of_ble_eq_true rfl) (Nat.le_of_ble_eq_true rfl) ?_
  refine W.eq (g2 := F0 m 4 ls []) rfl ?_
  refine lv_aload_n hx hb dX5_init_4 rfl (lv_at hl 0 rfl) ?_
  refine lv_sipush (v := 1792) hx hb dX5_init_5 (by decide) ?_
  refine zz_newa (atype := .int) (t0 := 0) (cA := k 0) (ty := .int) (a0 := (1792, (.inl (fun _ => 0)))) hx hb (hts (.arrayClass .int) (by decide +kernel)) rfl rfl rfl hK hP hD hS hA (n := 1792) (N' := 1792) (fun _ => rfl) (by decide +kernel) (by decide +kernel) (by decide +kernel) (by decide +kernel) (by decide +kernel) dX5_init_8 (fun q_1 H hP hD hS => ?_)
  have hP : va_P (dC, dI) vwCl [(h, .inr (5, [.null, .int 0, .int 0])), (q_1, .inl (k 0, 1792, .inl (fun _ => 0)))] H := hP
  have hD : va_D A [(h, .inr (5, [.null, .int 0, .int 0])), (q_1, .inl (k 0, 1792, .inl (fun _ => 0)))] := hD
  refine va_putF (D := (dC, dI)) (ci := 5) (v := .ref q_1) (ty := .array .int) (C := RX5) (T := TX5) (N := 3) hx hb hts hi5 tyX5 tyX5_ok nmX5 hown hK hP hD hS 0 rfl rfl 0 (by decide) (hts (.fieldLink RX5 9 "HeightFine$Reach" "cost" "[I") (by decide +kernel)) (fun _ h9 => h9) rfl hin rfl (by decide +kernel) rfl rfl (Nat.le_of_ble_eq_true rfl) dX5_init_10 (fun H locs hP hD hS => ?_)
  have hP : va_P (dC, dI) vwCl [(h, .inr (5, [.ref q_1, .int 0, .int 0])), (q_1, .inl (k 0, 1792, .inl (fun _ => 0)))] H := hP
  have hD : va_D A [(h, .inr (5, [.ref q_1, .int 0, .int 0])), (q_1, .inl (k 0, 1792, .inl (fun _ => 0)))] := hD
  have hP9 : va_P (dC, dI) vwCl [(h, .inr (5, [.ref ((fs [q_1]) 0), .int 0, .int 0])), (((fs [q_1]) 0), .inl (k 0, 1792, .inl (fun _ => 0)))] H := hP.sub (ws' := [(h, .inr (5, [.ref q_1, .int 0, .int 0])), (q_1, .inl (k 0, 1792, .inl (fun _ => 0)))]) [0, 1] rfl
  have hD9 : va_D A [(h, .inr (5, [.ref ((fs [q_1]) 0), .int 0, .int 0])), (((fs [q_1]) 0), .inl (k 0, 1792, .inl (fun _ => 0)))] := hD.sub (ws' := [(h, .inr (5, [.ref q_1, .int 0, .int 0])), (q_1, .inl (k 0, 1792, .inl (fun _ => 0)))]) [0, 1] (by decide) rfl
  refine W.widen (k := 1) (n := 1792) (by decide +kernel) (by decide +kernel) ?_
  exact W.vret hx hb hr (fun t ht hW => ⟨⟨(fs [q_1]), rfl, trivial, by rw [ht]; exact hP9, hD9⟩, hS.F ht⟩) hS.2.2 dX5_init_13

def ws_c_Rinit : List Cond := .code yX4_init cX4_init 1 none :: ([.methodLink RX4 3 objectInit, .instanceMethod objectInit, .code objectInit ⟨#[0xb1]⟩ 1 none, .arrayClass .int, .fieldLink RX4 11 "HeightFine$Raises" "best" "[I", .fieldLink RX4 15 "HeightFine$Raises" "step" "[I", .fieldLink RX4 18 "HeightFine$Raises" "gain" "[I"] ++ u_ws RX4 TX4 4)
set_option maxRecDepth 20000 in
theorem in_c_Rinit_4 : ∀ w ∈ u_ws RX4 TX4 4, w ∈ ws_c_Rinit := by decide +kernel
set_option maxHeartbeats 4000000 in
set_option maxRecDepth 100000 in
theorem c_Rinit (l : Launch) (dC : Nat → ClassId) (dI : Nat → Nat → Nat) (k : Nat → ClassId) (h : Nat) (sz : Nat) : Met l yX4_init ws_c_Rinit ({ frames := 1, cells := 3, slots := 718, locals := 20 }) (va_Pc [.ref h] (prW dC dI k [(h, .inr (4, [.null, .null, .null, .int 0]))] sz)) (va_Qv (fun (_ : (Nat → Nat)) => True) (fun (b : (Nat → Nat)) (t : State) => po (dC, dI) (va_A [(h, .inr (4, [.null, .null, .null, .int 0]))] sz) [(h, .inr (4, [.ref (b 0), .ref (b 1), .ref (b 2), .int 0])), ((b 0), .inl (k 0, 700, .inl (fun _ => 0))), ((b 1), .inl (k 0, 9, .inl (fun _ => 0))), ((b 2), .inl (k 0, 9, .inl (fun _ => 0)))] t) (va_A [(h, .inr (4, [.null, .null, .null, .int 0]))] sz)) 3 718 (va_A [(h, .inr (4, [.null, .null, .null, .int 0]))] sz) := by
  refine Met.ofW (cc := cX4_init) (maxL := 1) (ret := none) (by decide) rfl ?_
  intro p e s m args below meth c s₁ B hml hv
  obtain ⟨rfl, hsz, hP, hK, hD0⟩ := hv
  have hx := B.exec
  have hb := B.bytes
  have hr := B.returns
  have hts := atoms_spec (ws := ws_c_Rinit) B.pre
  have hown : s.vm.findClass RX4 = some m.cls := findClass_of_methodNamed B.named
  have hin : meth.name = "<init>" := (name_of_methodNamed B.named B.method).1
  have hi4 := in_c_Rinit_4
  have hobj : Cond.code objectInit ⟨#[0xb1]⟩ 1 none ∈ ws_c_Rinit := List.mem_of_getElem? (i := 3) rfl
  subst hsz
  have hD := hD0.self (sz := s.heap.size)
  generalize hAe : va_A [(h, .inr (4, [.null, .null, .null, .int 0]))] s.heap.size = A at hD ⊢
  have hA : ∀ q : Nat, s.heap.size ≤ q → A q := fun q h => by rw [← hAe]; exact Or.inr h
  have hS : va_S A s.heap s.heap [] := va_S.rf
  have hP : va_P (dC, dI) vwCl [(h, .inr (4, [.null, .null, .null, .int 0]))] s.heap := hP
  have hl := lv_entry ([.ref h]) (n := 1) (Nat.le_of_ble_eq_true rfl)
  rw [lg_entry_eq]
  generalize (lg_sl ([.ref h]) ++ List.replicate (1 - (lg_sl ([.ref h])).length) Slot.unset).toArray = ls at hl ⊢
  have hl : lv_has ls 1 [(0, .ref h)] := hl
  refine lv_aload_n hx hb dX4_init_0 rfl (lv_at hl 0 rfl) ?_
  refine W.objInit hx hb hown (hts (.methodLink RX4 3 objectInit) (by decide +kernel)) (hts (.instanceMethod objectInit) (by decide +kernel)) (hts _ hobj) rfl (by rw [hml]; exact hl.1) rfl dX4_init_1 (Nat.le_of_ble_eq_true rfl) (Nat.le_of_ble_eq_true rfl) ?_
  refine W.eq (g2 := F0 m 4 ls []) rfl ?_
  refine lv_aload_n hx hb dX4_init_4 rfl (lv_at hl 0 rfl) ?_
  refine lv_sipush (v := 700) hx hb dX4_init_5 (by decide) ?_
  refine zz_newa (atype := .int) (t0 := 0) (cA := k 0) (ty := .int) (a0 := (700, (.inl (fun _ => 0)))) hx hb (hts (.arrayClass .int) (by decide +kernel)) rfl rfl rfl hK hP hD hS hA (n := 700) (N' := 700) (fun _ => rfl) (by decide +kernel) (by decide +kernel) (by decide +kernel) (by decide +kernel) (by decide +kernel) dX4_init_8 (fun q_1 H hP hD hS => ?_)
  have hP : va_P (dC, dI) vwCl [(h, .inr (4, [.null, .null, .null, .int 0])), (q_1, .inl (k 0, 700, .inl (fun _ => 0)))] H := hP
  have hD : va_D A [(h, .inr (4, [.null, .null, .null, .int 0])), (q_1, .inl (k 0, 700, .inl (fun _ => 0)))] := hD
  refine va_putF (D := (dC, dI)) (ci := 4) (v := .ref q_1) (ty := .array .int) (C := RX4) (T := TX4) (N := 4) hx hb hts hi4 tyX4 tyX4_ok nmX4 hown hK hP hD hS 0 rfl rfl 0 (by decide) (hts (.fieldLink RX4 11 "HeightFine$Raises" "best" "[I") (by decide +kernel)) (fun _ h9 => h9) rfl hin rfl (by decide +kernel) rfl rfl (Nat.le_of_ble_eq_true rfl) dX4_init_10 (fun H locs hP hD hS => ?_)
  have hP : va_P (dC, dI) vwCl [(h, .inr (4, [.ref q_1, .null, .null, .int 0])), (q_1, .inl (k 0, 700, .inl (fun _ => 0)))] H := hP
  have hD : va_D A [(h, .inr (4, [.ref q_1, .null, .null, .int 0])), (q_1, .inl (k 0, 700, .inl (fun _ => 0)))] := hD
  refine lv_aload_n hx hb dX4_init_13 rfl (lv_at hl 0 rfl) ?_
  refine lv_bipush (v := 9) hx hb dX4_init_14 (by decide) ?_
  refine zz_newa (atype := .int) (t0 := 0) (cA := k 0) (ty := .int) (a0 := (9, (.inl (fun _ => 0)))) hx hb (hts (.arrayClass .int) (by decide +kernel)) rfl rfl rfl hK hP hD hS hA (n := 9) (N' := 9) (fun _ => rfl) (by decide +kernel) (by decide +kernel) (by decide +kernel) (by decide +kernel) (by decide +kernel) dX4_init_16 (fun q_2 H hP hD hS => ?_)
  have hP : va_P (dC, dI) vwCl [(h, .inr (4, [.ref q_1, .null, .null, .int 0])), (q_1, .inl (k 0, 700, .inl (fun _ => 0))), (q_2, .inl (k 0, 9, .inl (fun _ => 0)))] H := hP
  have hD : va_D A [(h, .inr (4, [.ref q_1, .null, .null, .int 0])), (q_1, .inl (k 0, 700, .inl (fun _ => 0))), (q_2, .inl (k 0, 9, .inl (fun _ => 0)))] := hD
  refine va_putF (D := (dC, dI)) (ci := 4) (v := .ref q_2) (ty := .array .int) (C := RX4) (T := TX4) (N := 4) hx hb hts hi4 tyX4 tyX4_ok nmX4 hown hK hP hD hS 0 rfl rfl 1 (by decide) (hts (.fieldLink RX4 15 "HeightFine$Raises" "step" "[I") (by decide +kernel)) (fun _ h9 => h9) rfl hin rfl (by decide +kernel) rfl rfl (Nat.le_of_ble_eq_true rfl) dX4_init_18 (fun H locs hP hD hS => ?_)
  have hP : va_P (dC, dI) vwCl [(h, .inr (4, [.ref q_1, .ref q_2, .null, .int 0])), (q_1, .inl (k 0, 700, .inl (fun _ => 0))), (q_2, .inl (k 0, 9, .inl (fun _ => 0)))] H := hP
  have hD : va_D A [(h, .inr (4, [.ref q_1, .ref q_2, .null, .int 0])), (q_1, .inl (k 0, 700, .inl (fun _ => 0))), (q_2, .inl (k 0, 9, .inl (fun _ => 0)))] := hD
  refine lv_aload_n hx hb dX4_init_21 rfl (lv_at hl 0 rfl) ?_
  refine lv_bipush (v := 9) hx hb dX4_init_22 (by decide) ?_
  refine zz_newa (atype := .int) (t0 := 0) (cA := k 0) (ty := .int) (a0 := (9, (.inl (fun _ => 0)))) hx hb (hts (.arrayClass .int) (by decide +kernel)) rfl rfl rfl hK hP hD hS hA (n := 9) (N' := 9) (fun _ => rfl) (by decide +kernel) (by decide +kernel) (by decide +kernel) (by decide +kernel) (by decide +kernel) dX4_init_24 (fun q_3 H hP hD hS => ?_)
  have hP : va_P (dC, dI) vwCl [(h, .inr (4, [.ref q_1, .ref q_2, .null, .int 0])), (q_1, .inl (k 0, 700, .inl (fun _ => 0))), (q_2, .inl (k 0, 9, .inl (fun _ => 0))), (q_3, .inl (k 0, 9, .inl (fun _ => 0)))] H := hP
  have hD : va_D A [(h, .inr (4, [.ref q_1, .ref q_2, .null, .int 0])), (q_1, .inl (k 0, 700, .inl (fun _ => 0))), (q_2, .inl (k 0, 9, .inl (fun _ => 0))), (q_3, .inl (k 0, 9, .inl (fun _ => 0)))] := hD
  refine va_putF (D := (dC, dI)) (ci := 4) (v := .ref q_3) (ty := .array .int) (C := RX4) (T := TX4) (N := 4) hx hb hts hi4 tyX4 tyX4_ok nmX4 hown hK hP hD hS 0 rfl rfl 2 (by decide) (hts (.fieldLink RX4 18 "HeightFine$Raises" "gain" "[I") (by decide +kernel)) (fun _ h9 => h9) rfl hin rfl (by decide +kernel) rfl rfl (Nat.le_of_ble_eq_true rfl) dX4_init_26 (fun H locs hP hD hS => ?_)
  have hP : va_P (dC, dI) vwCl [(h, .inr (4, [.ref q_1, .ref q_2, .ref q_3, .int 0])), (q_1, .inl (k 0, 700, .inl (fun _ => 0))), (q_2, .inl (k 0, 9, .inl (fun _ => 0))), (q_3, .inl (k 0, 9, .inl (fun _ => 0)))] H := hP
  have hD : va_D A [(h, .inr (4, [.ref q_1, .ref q_2, .ref q_3, .int 0])), (q_1, .inl (k 0, 700, .inl (fun _ => 0))), (q_2, .inl (k 0, 9, .inl (fun _ => 0))), (q_3, .inl (k 0, 9, .inl (fun _ => 0)))] := hD
  have hP9 : va_P (dC, dI) vwCl [(h, .inr (4, [.ref ((fs [q_1, q_2, q_3]) 0), .ref ((fs [q_1, q_2, q_3]) 1), .ref ((fs [q_1, q_2, q_3]) 2), .int 0])), (((fs [q_1, q_2, q_3]) 0), .inl (k 0, 700, .inl (fun _ => 0))), (((fs [q_1, q_2, q_3]) 1), .inl (k 0, 9, .inl (fun _ => 0))), (((fs [q_1, q_2, q_3]) 2), .inl (k 0, 9, .inl (fun _ => 0)))] H := hP.sub (ws' := [(h, .inr (4, [.ref q_1, .ref q_2, .ref q_3, .int 0])), (q_1, .inl (k 0, 700, .inl (fun _ => 0))), (q_2, .inl (k 0, 9, .inl (fun _ => 0))), (q_3, .inl (k 0, 9, .inl (fun _ => 0)))]) [0, 1, 2, 3] rfl
  have hD9 : va_D A [(h, .inr (4, [.ref ((fs [q_1, q_2, q_3]) 0), .ref ((fs [q_1, q_2, q_3]) 1), .ref ((fs [q_1, q_2, q_3]) 2), .int 0])), (((fs [q_1, q_2, q_3]) 0), .inl (k 0, 700, .inl (fun _ => 0))), (((fs [q_1, q_2, q_3]) 1), .inl (k 0, 9, .inl (fun _ => 0))), (((fs [q_1, q_2, q_3]) 2), .inl (k 0, 9, .inl (fun _ => 0)))] := hD.sub (ws' := [(h, .inr (4, [.ref q_1, .ref q_2, .ref q_3, .int 0])), (q_1, .inl (k 0, 700, .inl (fun _ => 0))), (q_2, .inl (k 0, 9, .inl (fun _ => 0))), (q_3, .inl (k 0, 9, .inl (fun _ => 0)))]) [0, 1, 2, 3] (by decide) rfl
  refine W.widen (k := 3) (n := 718) (by decide +kernel) (by decide +kernel) ?_
  exact W.vret hx hb hr (fun t ht hW => ⟨⟨(fs [q_1, q_2, q_3]), rfl, trivial, by rw [ht]; exact hP9, hD9⟩, hS.F ht⟩) hS.2.2 dX4_init_29

def ws_c_Ginit : List Cond := .code yX2_init cX2_init 1 none :: ([.methodLink RX2 3 objectInit, .instanceMethod objectInit, .code objectInit ⟨#[0xb1]⟩ 1 none, .arrayClass .long, .fieldLink RX2 11 "HeightFine$Guess" "orders" "[J", .fieldLink RX2 15 "HeightFine$Guess" "alone" "[J", .fieldLink RX2 18 "HeightFine$Guess" "mixed" "[J", .arrayClass .int, .fieldLink RX2 21 "HeightFine$Guess" "seen" "[I"] ++ u_ws RX2 TX2 5)
set_option maxRecDepth 20000 in
theorem in_c_Ginit_2 : ∀ w ∈ u_ws RX2 TX2 5, w ∈ ws_c_Ginit := by decide +kernel
set_option maxHeartbeats 4000000 in
set_option maxRecDepth 100000 in
theorem c_Ginit (l : Launch) (dC : Nat → ClassId) (dI : Nat → Nat → Nat) (k : Nat → ClassId) (h : Nat) (sz : Nat) : Met l yX2_init ws_c_Ginit ({ frames := 1, cells := 4, slots := 746, locals := 20 }) (va_Pc [.ref h] (prW dC dI k [(h, .inr (2, [.null, .null, .null, .null, .int 0]))] sz)) (va_Qv (fun (_ : (Nat → Nat)) => True) (fun (b : (Nat → Nat)) (t : State) => po (dC, dI) (va_A [(h, .inr (2, [.null, .null, .null, .null, .int 0]))] sz) [(h, .inr (2, [.ref (b 0), .ref (b 1), .ref (b 2), .ref (b 3), .int 0])), ((b 0), .inl (k 3, 657, .inr (.inl (fun _ => 0)))), ((b 1), .inl (k 3, 72, .inr (.inl (fun _ => 0)))), ((b 2), .inl (k 3, 9, .inr (.inl (fun _ => 0)))), ((b 3), .inl (k 0, 8, .inl (fun _ => 0)))] t) (va_A [(h, .inr (2, [.null, .null, .null, .null, .int 0]))] sz)) 4 746 (va_A [(h, .inr (2, [.null, .null, .null, .null, .int 0]))] sz) := by
  refine Met.ofW (cc := cX2_init) (maxL := 1) (ret := none) (by decide) rfl ?_
  intro p e s m args below meth c s₁ B hml hv
  obtain ⟨rfl, hsz, hP, hK, hD0⟩ := hv
  have hx := B.exec
  have hb := B.bytes
  have hr := B.returns
  have hts := atoms_spec (ws := ws_c_Ginit) B.pre
  have hown : s.vm.findClass RX2 = some m.cls := findClass_of_methodNamed B.named
  have hin : meth.name = "<init>" := (name_of_methodNamed B.named B.method).1
  have hi2 := in_c_Ginit_2
  have hobj : Cond.code objectInit ⟨#[0xb1]⟩ 1 none ∈ ws_c_Ginit := List.mem_of_getElem? (i := 3) rfl
  subst hsz
  have hD := hD0.self (sz := s.heap.size)
  generalize hAe : va_A [(h, .inr (2, [.null, .null, .null, .null, .int 0]))] s.heap.size = A at hD ⊢
  have hA : ∀ q : Nat, s.heap.size ≤ q → A q := fun q h => by rw [← hAe]; exact Or.inr h
  have hS : va_S A s.heap s.heap [] := va_S.rf
  have hP : va_P (dC, dI) vwCl [(h, .inr (2, [.null, .null, .null, .null, .int 0]))] s.heap := hP
  have hl := lv_entry ([.ref h]) (n := 1) (Nat.le_of_ble_eq_true rfl)
  rw [lg_entry_eq]
  generalize (lg_sl ([.ref h]) ++ List.replicate (1 - (lg_sl ([.ref h])).length) Slot.unset).toArray = ls at hl ⊢
  have hl : lv_has ls 1 [(0, .ref h)] := hl
  refine lv_aload_n hx hb dX2_init_0 rfl (lv_at hl 0 rfl) ?_
  refine W.objInit hx hb hown (hts (.methodLink RX2 3 objectInit) (by decide +kernel)) (hts (.instanceMethod objectInit) (by decide +kernel)) (hts _ hobj) rfl (by rw [hml]; exact hl.1) rfl dX2_init_1 (Nat.le_of_ble_eq_true rfl) (Nat.le_of_ble_eq_true rfl) ?_
  refine W.eq (g2 := F0 m 4 ls []) rfl ?_
  refine lv_aload_n hx hb dX2_init_4 rfl (lv_at hl 0 rfl) ?_
  refine lv_sipush (v := 657) hx hb dX2_init_5 (by decide) ?_
  refine zz_newa (atype := .long) (t0 := 3) (cA := k 3) (ty := .long) (a0 := (657, (.inr (.inl (fun _ => 0))))) hx hb (hts (.arrayClass .long) (by decide +kernel)) rfl rfl rfl hK hP hD hS hA (n := 657) (N' := 657) (fun _ => rfl) (by decide +kernel) (by decide +kernel) (by decide +kernel) (by decide +kernel) (by decide +kernel) dX2_init_8 (fun q_1 H hP hD hS => ?_)
  have hP : va_P (dC, dI) vwCl [(h, .inr (2, [.null, .null, .null, .null, .int 0])), (q_1, .inl (k 3, 657, .inr (.inl (fun _ => 0))))] H := hP
  have hD : va_D A [(h, .inr (2, [.null, .null, .null, .null, .int 0])), (q_1, .inl (k 3, 657, .inr (.inl (fun _ => 0))))] := hD
  refine va_putF (D := (dC, dI)) (ci := 2) (v := .ref q_1) (ty := .array .long) (C := RX2) (T := TX2) (N := 5) hx hb hts hi2 tyX2 tyX2_ok nmX2 hown hK hP hD hS 0 rfl rfl 0 (by decide) (hts (.fieldLink RX2 11 "HeightFine$Guess" "orders" "[J") (by decide +kernel)) (fun _ h9 => h9) rfl hin rfl (by decide +kernel) rfl rfl (Nat.le_of_ble_eq_true rfl) dX2_init_10 (fun H locs hP hD hS => ?_)
  have hP : va_P (dC, dI) vwCl [(h, .inr (2, [.ref q_1, .null, .null, .null, .int 0])), (q_1, .inl (k 3, 657, .inr (.inl (fun _ => 0))))] H := hP
  have hD : va_D A [(h, .inr (2, [.ref q_1, .null, .null, .null, .int 0])), (q_1, .inl (k 3, 657, .inr (.inl (fun _ => 0))))] := hD
  refine lv_aload_n hx hb dX2_init_13 rfl (lv_at hl 0 rfl) ?_
  refine lv_bipush (v := 72) hx hb dX2_init_14 (by decide) ?_
  refine zz_newa (atype := .long) (t0 := 3) (cA := k 3) (ty := .long) (a0 := (72, (.inr (.inl (fun _ => 0))))) hx hb (hts (.arrayClass .long) (by decide +kernel)) rfl rfl rfl hK hP hD hS hA (n := 72) (N' := 72) (fun _ => rfl) (by decide +kernel) (by decide +kernel) (by decide +kernel) (by decide +kernel) (by decide +kernel) dX2_init_16 (fun q_2 H hP hD hS => ?_)
  have hP : va_P (dC, dI) vwCl [(h, .inr (2, [.ref q_1, .null, .null, .null, .int 0])), (q_1, .inl (k 3, 657, .inr (.inl (fun _ => 0)))), (q_2, .inl (k 3, 72, .inr (.inl (fun _ => 0))))] H := hP
  have hD : va_D A [(h, .inr (2, [.ref q_1, .null, .null, .null, .int 0])), (q_1, .inl (k 3, 657, .inr (.inl (fun _ => 0)))), (q_2, .inl (k 3, 72, .inr (.inl (fun _ => 0))))] := hD
  refine va_putF (D := (dC, dI)) (ci := 2) (v := .ref q_2) (ty := .array .long) (C := RX2) (T := TX2) (N := 5) hx hb hts hi2 tyX2 tyX2_ok nmX2 hown hK hP hD hS 0 rfl rfl 1 (by decide) (hts (.fieldLink RX2 15 "HeightFine$Guess" "alone" "[J") (by decide +kernel)) (fun _ h9 => h9) rfl hin rfl (by decide +kernel) rfl rfl (Nat.le_of_ble_eq_true rfl) dX2_init_18 (fun H locs hP hD hS => ?_)
  have hP : va_P (dC, dI) vwCl [(h, .inr (2, [.ref q_1, .ref q_2, .null, .null, .int 0])), (q_1, .inl (k 3, 657, .inr (.inl (fun _ => 0)))), (q_2, .inl (k 3, 72, .inr (.inl (fun _ => 0))))] H := hP
  have hD : va_D A [(h, .inr (2, [.ref q_1, .ref q_2, .null, .null, .int 0])), (q_1, .inl (k 3, 657, .inr (.inl (fun _ => 0)))), (q_2, .inl (k 3, 72, .inr (.inl (fun _ => 0))))] := hD
  refine lv_aload_n hx hb dX2_init_21 rfl (lv_at hl 0 rfl) ?_
  refine lv_bipush (v := 9) hx hb dX2_init_22 (by decide) ?_
  refine zz_newa (atype := .long) (t0 := 3) (cA := k 3) (ty := .long) (a0 := (9, (.inr (.inl (fun _ => 0))))) hx hb (hts (.arrayClass .long) (by decide +kernel)) rfl rfl rfl hK hP hD hS hA (n := 9) (N' := 9) (fun _ => rfl) (by decide +kernel) (by decide +kernel) (by decide +kernel) (by decide +kernel) (by decide +kernel) dX2_init_24 (fun q_3 H hP hD hS => ?_)
  have hP : va_P (dC, dI) vwCl [(h, .inr (2, [.ref q_1, .ref q_2, .null, .null, .int 0])), (q_1, .inl (k 3, 657, .inr (.inl (fun _ => 0)))), (q_2, .inl (k 3, 72, .inr (.inl (fun _ => 0)))), (q_3, .inl (k 3, 9, .inr (.inl (fun _ => 0))))] H := hP
  have hD : va_D A [(h, .inr (2, [.ref q_1, .ref q_2, .null, .null, .int 0])), (q_1, .inl (k 3, 657, .inr (.inl (fun _ => 0)))), (q_2, .inl (k 3, 72, .inr (.inl (fun _ => 0)))), (q_3, .inl (k 3, 9, .inr (.inl (fun _ => 0))))] := hD
  refine va_putF (D := (dC, dI)) (ci := 2) (v := .ref q_3) (ty := .array .long) (C := RX2) (T := TX2) (N := 5) hx hb hts hi2 tyX2 tyX2_ok nmX2 hown hK hP hD hS 0 rfl rfl 2 (by decide) (hts (.fieldLink RX2 18 "HeightFine$Guess" "mixed" "[J") (by decide +kernel)) (fun _ h9 => h9) rfl hin rfl (by decide +kernel) rfl rfl (Nat.le_of_ble_eq_true rfl) dX2_init_26 (fun H locs hP hD hS => ?_)
  have hP : va_P (dC, dI) vwCl [(h, .inr (2, [.ref q_1, .ref q_2, .ref q_3, .null, .int 0])), (q_1, .inl (k 3, 657, .inr (.inl (fun _ => 0)))), (q_2, .inl (k 3, 72, .inr (.inl (fun _ => 0)))), (q_3, .inl (k 3, 9, .inr (.inl (fun _ => 0))))] H := hP
  have hD : va_D A [(h, .inr (2, [.ref q_1, .ref q_2, .ref q_3, .null, .int 0])), (q_1, .inl (k 3, 657, .inr (.inl (fun _ => 0)))), (q_2, .inl (k 3, 72, .inr (.inl (fun _ => 0)))), (q_3, .inl (k 3, 9, .inr (.inl (fun _ => 0))))] := hD
  refine lv_aload_n hx hb dX2_init_29 rfl (lv_at hl 0 rfl) ?_
  refine lv_bipush (v := 8) hx hb dX2_init_30 (by decide) ?_
  refine zz_newa (atype := .int) (t0 := 0) (cA := k 0) (ty := .int) (a0 := (8, (.inl (fun _ => 0)))) hx hb (hts (.arrayClass .int) (by decide +kernel)) rfl rfl rfl hK hP hD hS hA (n := 8) (N' := 8) (fun _ => rfl) (by decide +kernel) (by decide +kernel) (by decide +kernel) (by decide +kernel) (by decide +kernel) dX2_init_32 (fun q_4 H hP hD hS => ?_)
  have hP : va_P (dC, dI) vwCl [(h, .inr (2, [.ref q_1, .ref q_2, .ref q_3, .null, .int 0])), (q_1, .inl (k 3, 657, .inr (.inl (fun _ => 0)))), (q_2, .inl (k 3, 72, .inr (.inl (fun _ => 0)))), (q_3, .inl (k 3, 9, .inr (.inl (fun _ => 0)))), (q_4, .inl (k 0, 8, .inl (fun _ => 0)))] H := hP
  have hD : va_D A [(h, .inr (2, [.ref q_1, .ref q_2, .ref q_3, .null, .int 0])), (q_1, .inl (k 3, 657, .inr (.inl (fun _ => 0)))), (q_2, .inl (k 3, 72, .inr (.inl (fun _ => 0)))), (q_3, .inl (k 3, 9, .inr (.inl (fun _ => 0)))), (q_4, .inl (k 0, 8, .inl (fun _ => 0)))] := hD
  refine va_putF (D := (dC, dI)) (ci := 2) (v := .ref q_4) (ty := .array .int) (C := RX2) (T := TX2) (N := 5) hx hb hts hi2 tyX2 tyX2_ok nmX2 hown hK hP hD hS 0 rfl rfl 3 (by decide) (hts (.fieldLink RX2 21 "HeightFine$Guess" "seen" "[I") (by decide +kernel)) (fun _ h9 => h9) rfl hin rfl (by decide +kernel) rfl rfl (Nat.le_of_ble_eq_true rfl) dX2_init_34 (fun H locs hP hD hS => ?_)
  have hP : va_P (dC, dI) vwCl [(h, .inr (2, [.ref q_1, .ref q_2, .ref q_3, .ref q_4, .int 0])), (q_1, .inl (k 3, 657, .inr (.inl (fun _ => 0)))), (q_2, .inl (k 3, 72, .inr (.inl (fun _ => 0)))), (q_3, .inl (k 3, 9, .inr (.inl (fun _ => 0)))), (q_4, .inl (k 0, 8, .inl (fun _ => 0)))] H := hP
  have hD : va_D A [(h, .inr (2, [.ref q_1, .ref q_2, .ref q_3, .ref q_4, .int 0])), (q_1, .inl (k 3, 657, .inr (.inl (fun _ => 0)))), (q_2, .inl (k 3, 72, .inr (.inl (fun _ => 0)))), (q_3, .inl (k 3, 9, .inr (.inl (fun _ => 0)))), (q_4, .inl (k 0, 8, .inl (fun _ => 0)))] := hD
  have hP9 : va_P (dC, dI) vwCl [(h, .inr (2, [.ref ((fs [q_1, q_2, q_3, q_4]) 0), .ref ((fs [q_1, q_2, q_3, q_4]) 1), .ref ((fs [q_1, q_2, q_3, q_4]) 2), .ref ((fs [q_1, q_2, q_3, q_4]) 3), .int 0])), (((fs [q_1, q_2, q_3, q_4]) 0), .inl (k 3, 657, .inr (.inl (fun _ => 0)))), (((fs [q_1, q_2, q_3, q_4]) 1), .inl (k 3, 72, .inr (.inl (fun _ => 0)))), (((fs [q_1, q_2, q_3, q_4]) 2), .inl (k 3, 9, .inr (.inl (fun _ => 0)))), (((fs [q_1, q_2, q_3, q_4]) 3), .inl (k 0, 8, .inl (fun _ => 0)))] H := hP.sub (ws' := [(h, .inr (2, [.ref q_1, .ref q_2, .ref q_3, .ref q_4, .int 0])), (q_1, .inl (k 3, 657, .inr (.inl (fun _ => 0)))), (q_2, .inl (k 3, 72, .inr (.inl (fun _ => 0)))), (q_3, .inl (k 3, 9, .inr (.inl (fun _ => 0)))), (q_4, .inl (k 0, 8, .inl (fun _ => 0)))]) [0, 1, 2, 3, 4] rfl
  have hD9 : va_D A [(h, .inr (2, [.ref ((fs [q_1, q_2, q_3, q_4]) 0), .ref ((fs [q_1, q_2, q_3, q_4]) 1), .ref ((fs [q_1, q_2, q_3, q_4]) 2), .ref ((fs [q_1, q_2, q_3, q_4]) 3), .int 0])), (((fs [q_1, q_2, q_3, q_4]) 0), .inl (k 3, 657, .inr (.inl (fun _ => 0)))), (((fs [q_1, q_2, q_3, q_4]) 1), .inl (k 3, 72, .inr (.inl (fun _ => 0)))), (((fs [q_1, q_2, q_3, q_4]) 2), .inl (k 3, 9, .inr (.inl (fun _ => 0)))), (((fs [q_1, q_2, q_3, q_4]) 3), .inl (k 0, 8, .inl (fun _ => 0)))] := hD.sub (ws' := [(h, .inr (2, [.ref q_1, .ref q_2, .ref q_3, .ref q_4, .int 0])), (q_1, .inl (k 3, 657, .inr (.inl (fun _ => 0)))), (q_2, .inl (k 3, 72, .inr (.inl (fun _ => 0)))), (q_3, .inl (k 3, 9, .inr (.inl (fun _ => 0)))), (q_4, .inl (k 0, 8, .inl (fun _ => 0)))]) [0, 1, 2, 3, 4] (by decide) rfl
  refine W.widen (k := 4) (n := 746) (by decide +kernel) (by decide +kernel) ?_
  exact W.vret hx hb hr (fun t ht hW => ⟨⟨(fs [q_1, q_2, q_3, q_4]), rfl, trivial, by rw [ht]; exact hP9, hD9⟩, hS.F ht⟩) hS.2.2 dX2_init_37

def ws_c_Cinit : List Cond := .code yX1_init cX1_init 1 none :: ([.methodLink RX1 3 objectInit, .instanceMethod objectInit, .code objectInit ⟨#[0xb1]⟩ 1 none, .arrayClass .int, .fieldLink RX1 9 "HeightFine$Crowd" "rising" "[I", .fieldLink RX1 15 "HeightFine$Crowd" "sum" "[I", .arrayClass .long, .fieldLink RX1 18 "HeightFine$Crowd" "viewed" "[J"] ++ u_ws RX1 TX1 3)
set_option maxRecDepth 20000 in
theorem in_c_Cinit_1 : ∀ w ∈ u_ws RX1 TX1 3, w ∈ ws_c_Cinit := by decide +kernel
set_option maxHeartbeats 4000000 in
set_option maxRecDepth 100000 in
theorem c_Cinit (l : Launch) (dC : Nat → ClassId) (dI : Nat → Nat → Nat) (k : Nat → ClassId) (h : Nat) (sz : Nat) : Met l yX1_init ws_c_Cinit ({ frames := 1, cells := 3, slots := 273, locals := 20 }) (va_Pc [.ref h] (prW dC dI k [(h, .inr (1, [.null, .null, .null]))] sz)) (va_Qv (fun (_ : (Nat → Nat)) => True) (fun (b : (Nat → Nat)) (t : State) => po (dC, dI) (va_A [(h, .inr (1, [.null, .null, .null]))] sz) [(h, .inr (1, [.ref (b 0), .ref (b 1), .ref (b 2)])), ((b 0), .inl (k 0, 8, .inl (fun _ => 0))), ((b 1), .inl (k 0, 256, .inl (fun _ => 0))), ((b 2), .inl (k 3, 9, .inr (.inl (fun _ => 0))))] t) (va_A [(h, .inr (1, [.null, .null, .null]))] sz)) 3 273 (va_A [(h, .inr (1, [.null, .null, .null]))] sz) := by
  refine Met.ofW (cc := cX1_init) (maxL := 1) (ret := none) (by decide) rfl ?_
  intro p e s m args below meth c s₁ B hml hv
  obtain ⟨rfl, hsz, hP, hK, hD0⟩ := hv
  have hx := B.exec
  have hb := B.bytes
  have hr := B.returns
  have hts := atoms_spec (ws := ws_c_Cinit) B.pre
  have hown : s.vm.findClass RX1 = some m.cls := findClass_of_methodNamed B.named
  have hin : meth.name = "<init>" := (name_of_methodNamed B.named B.method).1
  have hi1 := in_c_Cinit_1
  have hobj : Cond.code objectInit ⟨#[0xb1]⟩ 1 none ∈ ws_c_Cinit := List.mem_of_getElem? (i := 3) rfl
  subst hsz
  have hD := hD0.self (sz := s.heap.size)
  generalize hAe : va_A [(h, .inr (1, [.null, .null, .null]))] s.heap.size = A at hD ⊢
  have hA : ∀ q : Nat, s.heap.size ≤ q → A q := fun q h => by rw [← hAe]; exact Or.inr h
  have hS : va_S A s.heap s.heap [] := va_S.rf
  have hP : va_P (dC, dI) vwCl [(h, .inr (1, [.null, .null, .null]))] s.heap := hP
  have hl := lv_entry ([.ref h]) (n := 1) (Nat.le_of_ble_eq_true rfl)
  rw [lg_entry_eq]
  generalize (lg_sl ([.ref h]) ++ List.replicate (1 - (lg_sl ([.ref h])).length) Slot.unset).toArray = ls at hl ⊢
  have hl : lv_has ls 1 [(0, .ref h)] := hl
  refine lv_aload_n hx hb dX1_init_0 rfl (lv_at hl 0 rfl) ?_
  refine W.objInit hx hb hown (hts (.methodLink RX1 3 objectInit) (by decide +kernel)) (hts (.instanceMethod objectInit) (by decide +kernel)) (hts _ hobj) rfl (by rw [hml]; exact hl.1) rfl dX1_init_1 (Nat.le_of_ble_eq_true rfl) (Nat.le_of_ble_eq_true rfl) ?_
  refine W.eq (g2 := F0 m 4 ls []) rfl ?_
  refine lv_aload_n hx hb dX1_init_4 rfl (lv_at hl 0 rfl) ?_
  refine lv_bipush (v := 8) hx hb dX1_init_5 (by decide) ?_
  refine zz_newa (atype := .int) (t0 := 0) (cA := k 0) (ty := .int) (a0 := (8, (.inl (fun _ => 0)))) hx hb (hts (.arrayClass .int) (by decide +kernel)) rfl rfl rfl hK hP hD hS hA (n := 8) (N' := 8) (fun _ => rfl) (by decide +kernel) (by decide +kernel) (by decide +kernel) (by decide +kernel) (by decide +kernel) dX1_init_7 (fun q_1 H hP hD hS => ?_)
  have hP : va_P (dC, dI) vwCl [(h, .inr (1, [.null, .null, .null])), (q_1, .inl (k 0, 8, .inl (fun _ => 0)))] H := hP
  have hD : va_D A [(h, .inr (1, [.null, .null, .null])), (q_1, .inl (k 0, 8, .inl (fun _ => 0)))] := hD
  refine va_putF (D := (dC, dI)) (ci := 1) (v := .ref q_1) (ty := .array .int) (C := RX1) (T := TX1) (N := 3) hx hb hts hi1 tyX1 tyX1_ok nmX1 hown hK hP hD hS 0 rfl rfl 0 (by decide) (hts (.fieldLink RX1 9 "HeightFine$Crowd" "rising" "[I") (by decide +kernel)) (fun _ h9 => h9) rfl hin rfl (by decide +kernel) rfl rfl (Nat.le_of_ble_eq_true rfl) dX1_init_9 (fun H locs hP hD hS => ?_)
  have hP : va_P (dC, dI) vwCl [(h, .inr (1, [.ref q_1, .null, .null])), (q_1, .inl (k 0, 8, .inl (fun _ => 0)))] H := hP
  have hD : va_D A [(h, .inr (1, [.ref q_1, .null, .null])), (q_1, .inl (k 0, 8, .inl (fun _ => 0)))] := hD
  refine lv_aload_n hx hb dX1_init_12 rfl (lv_at hl 0 rfl) ?_
  refine lv_sipush (v := 256) hx hb dX1_init_13 (by decide) ?_
  refine zz_newa (atype := .int) (t0 := 0) (cA := k 0) (ty := .int) (a0 := (256, (.inl (fun _ => 0)))) hx hb (hts (.arrayClass .int) (by decide +kernel)) rfl rfl rfl hK hP hD hS hA (n := 256) (N' := 256) (fun _ => rfl) (by decide +kernel) (by decide +kernel) (by decide +kernel) (by decide +kernel) (by decide +kernel) dX1_init_16 (fun q_2 H hP hD hS => ?_)
  have hP : va_P (dC, dI) vwCl [(h, .inr (1, [.ref q_1, .null, .null])), (q_1, .inl (k 0, 8, .inl (fun _ => 0))), (q_2, .inl (k 0, 256, .inl (fun _ => 0)))] H := hP
  have hD : va_D A [(h, .inr (1, [.ref q_1, .null, .null])), (q_1, .inl (k 0, 8, .inl (fun _ => 0))), (q_2, .inl (k 0, 256, .inl (fun _ => 0)))] := hD
  refine va_putF (D := (dC, dI)) (ci := 1) (v := .ref q_2) (ty := .array .int) (C := RX1) (T := TX1) (N := 3) hx hb hts hi1 tyX1 tyX1_ok nmX1 hown hK hP hD hS 0 rfl rfl 1 (by decide) (hts (.fieldLink RX1 15 "HeightFine$Crowd" "sum" "[I") (by decide +kernel)) (fun _ h9 => h9) rfl hin rfl (by decide +kernel) rfl rfl (Nat.le_of_ble_eq_true rfl) dX1_init_18 (fun H locs hP hD hS => ?_)
  have hP : va_P (dC, dI) vwCl [(h, .inr (1, [.ref q_1, .ref q_2, .null])), (q_1, .inl (k 0, 8, .inl (fun _ => 0))), (q_2, .inl (k 0, 256, .inl (fun _ => 0)))] H := hP
  have hD : va_D A [(h, .inr (1, [.ref q_1, .ref q_2, .null])), (q_1, .inl (k 0, 8, .inl (fun _ => 0))), (q_2, .inl (k 0, 256, .inl (fun _ => 0)))] := hD
  refine lv_aload_n hx hb dX1_init_21 rfl (lv_at hl 0 rfl) ?_
  refine lv_bipush (v := 9) hx hb dX1_init_22 (by decide) ?_
  refine zz_newa (atype := .long) (t0 := 3) (cA := k 3) (ty := .long) (a0 := (9, (.inr (.inl (fun _ => 0))))) hx hb (hts (.arrayClass .long) (by decide +kernel)) rfl rfl rfl hK hP hD hS hA (n := 9) (N' := 9) (fun _ => rfl) (by decide +kernel) (by decide +kernel) (by decide +kernel) (by decide +kernel) (by decide +kernel) dX1_init_24 (fun q_3 H hP hD hS => ?_)
  have hP : va_P (dC, dI) vwCl [(h, .inr (1, [.ref q_1, .ref q_2, .null])), (q_1, .inl (k 0, 8, .inl (fun _ => 0))), (q_2, .inl (k 0, 256, .inl (fun _ => 0))), (q_3, .inl (k 3, 9, .inr (.inl (fun _ => 0))))] H := hP
  have hD : va_D A [(h, .inr (1, [.ref q_1, .ref q_2, .null])), (q_1, .inl (k 0, 8, .inl (fun _ => 0))), (q_2, .inl (k 0, 256, .inl (fun _ => 0))), (q_3, .inl (k 3, 9, .inr (.inl (fun _ => 0))))] := hD
  refine va_putF (D := (dC, dI)) (ci := 1) (v := .ref q_3) (ty := .array .long) (C := RX1) (T := TX1) (N := 3) hx hb hts hi1 tyX1 tyX1_ok nmX1 hown hK hP hD hS 0 rfl rfl 2 (by decide) (hts (.fieldLink RX1 18 "HeightFine$Crowd" "viewed" "[J") (by decide +kernel)) (fun _ h9 => h9) rfl hin rfl (by decide +kernel) rfl rfl (Nat.le_of_ble_eq_true rfl) dX1_init_26 (fun H locs hP hD hS => ?_)
  have hP : va_P (dC, dI) vwCl [(h, .inr (1, [.ref q_1, .ref q_2, .ref q_3])), (q_1, .inl (k 0, 8, .inl (fun _ => 0))), (q_2, .inl (k 0, 256, .inl (fun _ => 0))), (q_3, .inl (k 3, 9, .inr (.inl (fun _ => 0))))] H := hP
  have hD : va_D A [(h, .inr (1, [.ref q_1, .ref q_2, .ref q_3])), (q_1, .inl (k 0, 8, .inl (fun _ => 0))), (q_2, .inl (k 0, 256, .inl (fun _ => 0))), (q_3, .inl (k 3, 9, .inr (.inl (fun _ => 0))))] := hD
  have hP9 : va_P (dC, dI) vwCl [(h, .inr (1, [.ref ((fs [q_1, q_2, q_3]) 0), .ref ((fs [q_1, q_2, q_3]) 1), .ref ((fs [q_1, q_2, q_3]) 2)])), (((fs [q_1, q_2, q_3]) 0), .inl (k 0, 8, .inl (fun _ => 0))), (((fs [q_1, q_2, q_3]) 1), .inl (k 0, 256, .inl (fun _ => 0))), (((fs [q_1, q_2, q_3]) 2), .inl (k 3, 9, .inr (.inl (fun _ => 0))))] H := hP.sub (ws' := [(h, .inr (1, [.ref q_1, .ref q_2, .ref q_3])), (q_1, .inl (k 0, 8, .inl (fun _ => 0))), (q_2, .inl (k 0, 256, .inl (fun _ => 0))), (q_3, .inl (k 3, 9, .inr (.inl (fun _ => 0))))]) [0, 1, 2, 3] rfl
  have hD9 : va_D A [(h, .inr (1, [.ref ((fs [q_1, q_2, q_3]) 0), .ref ((fs [q_1, q_2, q_3]) 1), .ref ((fs [q_1, q_2, q_3]) 2)])), (((fs [q_1, q_2, q_3]) 0), .inl (k 0, 8, .inl (fun _ => 0))), (((fs [q_1, q_2, q_3]) 1), .inl (k 0, 256, .inl (fun _ => 0))), (((fs [q_1, q_2, q_3]) 2), .inl (k 3, 9, .inr (.inl (fun _ => 0))))] := hD.sub (ws' := [(h, .inr (1, [.ref q_1, .ref q_2, .ref q_3])), (q_1, .inl (k 0, 8, .inl (fun _ => 0))), (q_2, .inl (k 0, 256, .inl (fun _ => 0))), (q_3, .inl (k 3, 9, .inr (.inl (fun _ => 0))))]) [0, 1, 2, 3] (by decide) rfl
  refine W.widen (k := 3) (n := 273) (by decide +kernel) (by decide +kernel) ?_
  exact W.vret hx hb hr (fun t ht hW => ⟨⟨(fs [q_1, q_2, q_3]), rfl, trivial, by rw [ht]; exact hP9, hD9⟩, hS.F ht⟩) hS.2.2 dX1_init_29
