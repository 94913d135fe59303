theorem dX12_count_0 : decode cX12_count 0 = .ok (.aload_n 0, 1) := by decide +kernel
theorem dX12_count_1 : decode cX12_count 1 = .ok (.iconst 0, 1) := by decide +kernel
theorem dX12_count_2 : decode cX12_count 2 = .ok (.putfield 88, 3) := by decide +kernel
theorem dX12_count_5 : decode cX12_count 5 = .ok (.iload_n 1, 1) := by decide +kernel
theorem dX12_count_6 : decode cX12_count 6 = .ok (.iconst 0, 1) := by decide +kernel
theorem dX12_count_7 : decode cX12_count 7 = .ok (.iconst 3, 1) := by decide +kernel
theorem dX12_count_8 : decode cX12_count 8 = .ok (.invokestatic 100, 3) := by decide +kernel
theorem dX12_count_11 : decode cX12_count 11 = .ok (.ifCond .eq 12, 3) := by decide +kernel
theorem dX12_count_14 : decode cX12_count 14 = .ok (.aload_n 0, 1) := by decide +kernel
theorem dX12_count_15 : decode cX12_count 15 = .ok (.getfield 23, 3) := by decide +kernel
theorem dX12_count_18 : decode cX12_count 18 = .ok (.iload_n 1, 1) := by decide +kernel
theorem dX12_count_19 : decode cX12_count 19 = .ok (.iaload, 1) := by decide +kernel
theorem dX12_count_20 : decode cX12_count 20 = .ok (.goto 5, 3) := by decide +kernel
theorem dX12_count_23 : decode cX12_count 23 = .ok (.bipush (-2), 2) := by decide +kernel
theorem dX12_count_25 : decode cX12_count 25 = .ok (.ireturn, 1) := by decide +kernel
theorem dX12_fault_0 : decode cX12_fault 0 = .ok (.aload_n 0, 1) := by decide +kernel
theorem dX12_fault_1 : decode cX12_fault 1 = .ok (.iconst 0, 1) := by decide +kernel
theorem dX12_fault_2 : decode cX12_fault 2 = .ok (.putfield 88, 3) := by decide +kernel
theorem dX12_fault_5 : decode cX12_fault 5 = .ok (.iload_n 1, 1) := by decide +kernel
theorem dX12_fault_6 : decode cX12_fault 6 = .ok (.ifCond .ne 12, 3) := by decide +kernel
theorem dX12_fault_9 : decode cX12_fault 9 = .ok (.aload_n 0, 1) := by decide +kernel
theorem dX12_fault_10 : decode cX12_fault 10 = .ok (.getfield 17, 3) := by decide +kernel
theorem dX12_fault_13 : decode cX12_fault 13 = .ok (.iconst 0, 1) := by decide +kernel
theorem dX12_fault_14 : decode cX12_fault 14 = .ok (.iaload, 1) := by decide +kernel
theorem dX12_fault_15 : decode cX12_fault 15 = .ok (.goto 18, 3) := by decide +kernel
theorem dX12_fault_18 : decode cX12_fault 18 = .ok (.iload_n 1, 1) := by decide +kernel
theorem dX12_fault_19 : decode cX12_fault 19 = .ok (.iconst 1, 1) := by decide +kernel
theorem dX12_fault_20 : decode cX12_fault 20 = .ok (.if_icmp .ne 12, 3) := by decide +kernel
theorem dX12_fault_23 : decode cX12_fault 23 = .ok (.aload_n 0, 1) := by decide +kernel
theorem dX12_fault_24 : decode cX12_fault 24 = .ok (.getfield 20, 3) := by decide +kernel
theorem dX12_fault_27 : decode cX12_fault 27 = .ok (.iconst 0, 1) := by decide +kernel
theorem dX12_fault_28 : decode cX12_fault 28 = .ok (.iaload, 1) := by decide +kernel
theorem dX12_fault_29 : decode cX12_fault 29 = .ok (.goto 4, 3) := by decide +kernel
theorem dX12_fault_32 : decode cX12_fault 32 = .ok (.iconst (-1), 1) := by decide +kernel
theorem dX12_fault_33 : decode cX12_fault 33 = .ok (.ireturn, 1) := by decide +kernel
theorem dX12_end_0 : decode cX12_end 0 = .ok (.aload_n 0, 1) := by decide +kernel
theorem dX12_end_1 : decode cX12_end 1 = .ok (.iconst 0, 1) := by decide +kernel
theorem dX12_end_2 : decode cX12_end 2 = .ok (.putfield 88, 3) := by decide +kernel
theorem dX12_end_5 : decode cX12_end 5 = .ok (.iload_n 1, 1) := by decide +kernel
theorem dX12_end_6 : decode cX12_end 6 = .ok (.iconst 0, 1) := by decide +kernel
theorem dX12_end_7 : decode cX12_end 7 = .ok (.aload_n 0, 1) := by decide +kernel
theorem dX12_end_8 : decode cX12_end 8 = .ok (.getfield 13, 3) := by decide +kernel
theorem dX12_end_11 : decode cX12_end 11 = .ok (.iconst 0, 1) := by decide +kernel
theorem dX12_end_12 : decode cX12_end 12 = .ok (.iaload, 1) := by decide +kernel
theorem dX12_end_13 : decode cX12_end 13 = .ok (.invokestatic 100, 3) := by decide +kernel
theorem dX12_end_16 : decode cX12_end 16 = .ok (.ifCond .ne 5, 3) := by decide +kernel
theorem dX12_end_19 : decode cX12_end 19 = .ok (.iconst (-1), 1) := by decide +kernel
theorem dX12_end_20 : decode cX12_end 20 = .ok (.ireturn, 1) := by decide +kernel
theorem dX12_end_21 : decode cX12_end 21 = .ok (.aload_n 0, 1) := by decide +kernel
theorem dX12_end_22 : decode cX12_end 22 = .ok (.getfield 13, 3) := by decide +kernel
theorem dX12_end_25 : decode cX12_end 25 = .ok (.iconst 0, 1) := by decide +kernel
theorem dX12_end_26 : decode cX12_end 26 = .ok (.iload_n 1, 1) := by decide +kernel
theorem dX12_end_27 : decode cX12_end 27 = .ok (.iastore, 1) := by decide +kernel
theorem dX12_end_28 : decode cX12_end 28 = .ok (.iload_n 1, 1) := by decide +kernel
theorem dX12_end_29 : decode cX12_end 29 = .ok (.ireturn, 1) := by decide +kernel
theorem dX12_again_0 : decode cX12_again 0 = .ok (.aload_n 0, 1) := by decide +kernel
theorem dX12_again_1 : decode cX12_again 1 = .ok (.iconst 0, 1) := by decide +kernel
theorem dX12_again_2 : decode cX12_again 2 = .ok (.putfield 88, 3) := by decide +kernel
theorem dX12_again_5 : decode cX12_again 5 = .ok (.iload_n 1, 1) := by decide +kernel
theorem dX12_again_6 : decode cX12_again 6 = .ok (.iconst 0, 1) := by decide +kernel
theorem dX12_again_7 : decode cX12_again 7 = .ok (.iconst 2, 1) := by decide +kernel
theorem dX12_again_8 : decode cX12_again 8 = .ok (.invokestatic 100, 3) := by decide +kernel
theorem dX12_again_11 : decode cX12_again 11 = .ok (.ifCond .eq 12, 3) := by decide +kernel
theorem dX12_again_14 : decode cX12_again 14 = .ok (.aload_n 0, 1) := by decide +kernel
theorem dX12_again_15 : decode cX12_again 15 = .ok (.getfield 84, 3) := by decide +kernel
theorem dX12_again_18 : decode cX12_again 18 = .ok (.iload_n 1, 1) := by decide +kernel
theorem dX12_again_19 : decode cX12_again 19 = .ok (.baload, 1) := by decide +kernel
theorem dX12_again_20 : decode cX12_again 20 = .ok (.ifCond .ne 5, 3) := by decide +kernel
theorem dX12_again_23 : decode cX12_again 23 = .ok (.iconst 0, 1) := by decide +kernel
theorem dX12_again_24 : decode cX12_again 24 = .ok (.ireturn, 1) := by decide +kernel
theorem dX12_four_0 : decode cX12_four 0 = .ok (.bipush 24, 2) := by decide +kernel
theorem dX12_four_2 : decode cX12_four 2 = .ok (.istore_n 2, 1) := by decide +kernel
theorem dX12_four_3 : decode cX12_four 3 = .ok (.iload_n 2, 1) := by decide +kernel
theorem dX12_four_4 : decode cX12_four 4 = .ok (.ifCond .lt 34, 3) := by decide +kernel
theorem dX12_four_7 : decode cX12_four 7 = .ok (.aload_n 0, 1) := by decide +kernel
theorem dX12_four_8 : decode cX12_four 8 = .ok (.getfield 7, 3) := by decide +kernel
theorem dX12_four_11 : decode cX12_four 11 = .ok (.aload_n 0, 1) := by decide +kernel
theorem dX12_four_12 : decode cX12_four 12 = .ok (.getfield 13, 3) := by decide +kernel
theorem dX12_four_15 : decode cX12_four 15 = .ok (.iconst 0, 1) := by decide +kernel
theorem dX12_four_16 : decode cX12_four 16 = .ok (.iaload, 1) := by decide +kernel
theorem dX12_four_17 : decode cX12_four 17 = .ok (.iload_n 1, 1) := by decide +kernel
theorem dX12_four_18 : decode cX12_four 18 = .ok (.iload_n 2, 1) := by decide +kernel
theorem dX12_four_19 : decode cX12_four 19 = .ok (.ishr, 1) := by decide +kernel
theorem dX12_four_20 : decode cX12_four 20 = .ok (.i2b, 1) := by decide +kernel
theorem dX12_four_21 : decode cX12_four 21 = .ok (.bastore, 1) := by decide +kernel
theorem dX12_four_22 : decode cX12_four 22 = .ok (.aload_n 0, 1) := by decide +kernel
theorem dX12_four_23 : decode cX12_four 23 = .ok (.getfield 13, 3) := by decide +kernel
theorem dX12_four_26 : decode cX12_four 26 = .ok (.iconst 0, 1) := by decide +kernel
theorem dX12_four_27 : decode cX12_four 27 = .ok (.dup2, 1) := by decide +kernel
theorem dX12_four_28 : decode cX12_four 28 = .ok (.iaload, 1) := by decide +kernel
theorem dX12_four_29 : decode cX12_four 29 = .ok (.iconst 1, 1) := by decide +kernel
theorem dX12_four_30 : decode cX12_four 30 = .ok (.iadd, 1) := by decide +kernel
theorem dX12_four_31 : decode cX12_four 31 = .ok (.iastore, 1) := by decide +kernel
theorem dX12_four_32 : decode cX12_four 32 = .ok (.iinc 2 (-8), 3) := by decide +kernel
theorem dX12_four_35 : decode cX12_four 35 = .ok (.goto (-32), 3) := by decide +kernel
theorem dX12_four_38 : decode cX12_four 38 = .ok (.return_, 1) := by decide +kernel
theorem dX12_feed_0 : decode cX12_feed 0 = .ok (.aload_n 0, 1) := by decide +kernel
theorem dX12_feed_1 : decode cX12_feed 1 = .ok (.iconst 0, 1) := by decide +kernel
theorem dX12_feed_2 : decode cX12_feed 2 = .ok (.putfield 88, 3) := by decide +kernel
theorem dX12_feed_5 : decode cX12_feed 5 = .ok (.aload_n 0, 1) := by decide +kernel
theorem dX12_feed_6 : decode cX12_feed 6 = .ok (.getfield 13, 3) := by decide +kernel
theorem dX12_feed_9 : decode cX12_feed 9 = .ok (.iconst 0, 1) := by decide +kernel
theorem dX12_feed_10 : decode cX12_feed 10 = .ok (.iaload, 1) := by decide +kernel
theorem dX12_feed_11 : decode cX12_feed 11 = .ok (.bipush 20, 2) := by decide +kernel
theorem dX12_feed_13 : decode cX12_feed 13 = .ok (.iadd, 1) := by decide +kernel
theorem dX12_feed_14 : decode cX12_feed 14 = .ok (.sipush 600, 3) := by decide +kernel
theorem dX12_feed_17 : decode cX12_feed 17 = .ok (.if_icmp .le 5, 3) := by decide +kernel
theorem dX12_feed_22 : decode cX12_feed 22 = .ok (.aload_n 0, 1) := by decide +kernel
theorem dX12_feed_23 : decode cX12_feed 23 = .ok (.iload_n 1, 1) := by decide +kernel
theorem dX12_feed_24 : decode cX12_feed 24 = .ok (.invokevirtual 104, 3) := by decide +kernel
theorem dX12_feed_27 : decode cX12_feed 27 = .ok (.aload_n 0, 1) := by decide +kernel
theorem dX12_feed_28 : decode cX12_feed 28 = .ok (.iload_n 2, 1) := by decide +kernel
theorem dX12_feed_29 : decode cX12_feed 29 = .ok (.invokevirtual 104, 3) := by decide +kernel
theorem dX12_feed_32 : decode cX12_feed 32 = .ok (.aload_n 0, 1) := by decide +kernel
theorem dX12_feed_33 : decode cX12_feed 33 = .ok (.iload_n 3, 1) := by decide +kernel
theorem dX12_feed_34 : decode cX12_feed 34 = .ok (.invokevirtual 104, 3) := by decide +kernel
theorem dX12_feed_37 : decode cX12_feed 37 = .ok (.aload_n 0, 1) := by decide +kernel
theorem dX12_feed_38 : decode cX12_feed 38 = .ok (.iload 4, 2) := by decide +kernel
theorem dX12_feed_40 : decode cX12_feed 40 = .ok (.invokevirtual 104, 3) := by decide +kernel
theorem dX12_feed_43 : decode cX12_feed 43 = .ok (.aload_n 0, 1) := by decide +kernel
theorem dX12_feed_44 : decode cX12_feed 44 = .ok (.iload 5, 2) := by decide +kernel
theorem dX12_feed_46 : decode cX12_feed 46 = .ok (.invokevirtual 104, 3) := by decide +kernel
theorem dX12_feed_49 : decode cX12_feed 49 = .ok (.aload_n 0, 1) := by decide +kernel
theorem dX12_feed_50 : decode cX12_feed 50 = .ok (.getfield 13, 3) := by decide +kernel
theorem dX12_feed_53 : decode cX12_feed 53 = .ok (.iconst 0, 1) := by decide +kernel
theorem dX12_feed_54 : decode cX12_feed 54 = .ok (.iaload, 1) := by decide +kernel
theorem dX12_feed_55 : decode cX12_feed 55 = .ok (.ireturn, 1) := by decide +kernel

def ws_m_count : List Cond := .code yX12_count cX12_count 2 (some .int) :: ([.fieldLink RX12 88 "HeightFineModel" "code" "I", .methodLink RX12 100 yX12_in, .static yX12_in, .initialized RX12, .code yX12_in cX12_in 3 (some .boolean), .fieldLink RX12 23 "HeightFineModel" "many" "[I"] ++ u_ws RX12 TX12 45)
set_option maxRecDepth 20000 in
theorem in_m_count_12 : ∀ w ∈ u_ws RX12 TX12 45, w ∈ ws_m_count := by decide +kernel
set_option maxRecDepth 20000 in
theorem gm_count_m_in : GoodIn ws_m_count (va_wsS RX12 100 yX12_in ws_m_in) := goodIn_app (goodIn_of _ (by decide +kernel)) (goodIn_r _ [5] (by decide +kernel) (by decide +kernel))
set_option maxHeartbeats 4000000 in
set_option maxRecDepth 100000 in
theorem m_count (l : Launch) (dC : Nat → ClassId) (dI : Nat → Nat → Nat) (k : Nat → ClassId) (h : Nat) (v0 : Int32) (m1 : Nat) (m2 : Nat) (m3 : Nat) (m4 : Nat) (m5 : Nat) (m6 : Nat) (m7 : Nat) (m8 : Nat) (m9 : Nat) (v10 : Int32) (v11 : Int32) (v12 : Int32) (v13 : Int32) (v14 : Int32) (v15 : Int64) (v16 : Int32) (v17 : Int32) (v18 : Int32) (m19 : Nat) (m20 : Nat) (v21 : Int32) (v22 : Int32) (v23 : Int32) (v24 : Int32) (v25 : Int32) (v26 : Int32) (m27 : Nat) (v28 : Int32) (m29 : Nat) (m30 : Nat) (m31 : Nat) (m32 : Nat) (v33 : Int32) (m34 : Nat) (v35 : Int32) (m36 : Nat) (m37 : Nat) (m38 : Nat) (m39 : Nat) (m40 : Nat) (v41 : Int32) (m42 : Nat) (m43 : Nat) (m44 : Nat) (p0 : Int32) (sz : Nat) : Met l yX12_count ws_m_count ({ frames := 1, cells := 0, slots := 0, locals := 22 }) (va_Pc [.ref h, .int p0] (prW dC dI k [(h, .inr (12, [.int v0, .ref m1, .ref m2, .ref m3, .ref m4, .ref m5, .ref m6, .ref m7, .ref m8, .ref m9, .int v10, .int v11, .int v12, .int v13, .int v14, .long v15, .int v16, .int v17, .int v18, .ref m19, .ref m20, .int v21, .int v22, .int v23, .int v24, .int v25, .int v26, .ref m27, .int v28, .ref m29, .ref m30, .ref m31, .ref m32, .int v33, .ref m34, .int v35, .ref m36, .ref m37, .ref m38, .ref m39, .ref m40, .int v41, .ref m42, .ref m43, .ref m44])), (m5, .inl (k 0, 16, .inl (fun _ => 0)))] sz)) (va_Qi (fun (r : Int32) (_ : Unit) => r = if inR p0 0 3 = 0 then -2 else 0) (fun (u : Unit) (t : State) => po (dC, dI) (va_A [(h, .inr (12, [.int v0, .ref m1, .ref m2, .ref m3, .ref m4, .ref m5, .ref m6, .ref m7, .ref m8, .ref m9, .int v10, .int v11, .int v12, .int v13, .int v14, .long v15, .int v16, .int v17, .int v18, .ref m19, .ref m20, .int v21, .int v22, .int v23, .int v24, .int v25, .int v26, .ref m27, .int v28, .ref m29, .ref m30, .ref m31, .ref m32, .int v33, .ref m34, .int v35, .ref m36, .ref m37, .ref m38, .ref m39, .ref m40, .int v41, .ref m42, .ref m43, .ref m44])), (m5, .inl (k 0, 16, .inl (fun _ => 0)))] sz) [] t) (va_A [(h, .inr (12, [.int v0, .ref m1, .ref m2, .ref m3, .ref m4, .ref m5, .ref m6, .ref m7, .ref m8, .ref m9, .int v10, .int v11, .int v12, .int v13, .int v14, .long v15, .int v16, .int v17, .int v18, .ref m19, .ref m20, .int v21, .int v22, .int v23, .int v24, .int v25, .int v26, .ref m27, .int v28, .ref m29, .ref m30, .ref m31, .ref m32, .int v33, .ref m34, .int v35, .ref m36, .ref m37, .ref m38, .ref m39, .ref m40, .int v41, .ref m42, .ref m43, .ref m44])), (m5, .inl (k 0, 16, .inl (fun _ => 0)))] sz)) 0 0 (va_A [(h, .inr (12, [.int v0, .ref m1, .ref m2, .ref m3, .ref m4, .ref m5, .ref m6, .ref m7, .ref m8, .ref m9, .int v10, .int v11, .int v12, .int v13, .int v14, .long v15, .int v16, .int v17, .int v18, .ref m19, .ref m20, .int v21, .int v22, .int v23, .int v24, .int v25, .int v26, .ref m27, .int v28, .ref m29, .ref m30, .ref m31, .ref m32, .int v33, .ref m34, .int v35, .ref m36, .ref m37, .ref m38, .ref m39, .ref m40, .int v41, .ref m42, .ref m43, .ref m44])), (m5, .inl (k 0, 16, .inl (fun _ => 0)))] sz) := by
  refine Met.ofW (cc := cX12_count) (maxL := 2) (ret := (some .int)) (by decide) rfl ?_
  intro p e s m args below meth c s₁ B hml hv
  obtain ⟨rfl, hsz, hP, hK, hD0⟩ := hv
  have hx := B.exec
  have hb := B.bytes
  have hr := B.returns
  have hts := atoms_spec (ws := ws_m_count) B.pre
  have hown : s.vm.findClass RX12 = some m.cls := findClass_of_methodNamed B.named
  have hi12 := in_m_count_12
  subst hsz
  have hD := hD0.self (sz := s.heap.size)
  generalize hAe : va_A [(h, .inr (12, [.int v0, .ref m1, .ref m2, .ref m3, .ref m4, .ref m5, .ref m6, .ref m7, .ref m8, .ref m9, .int v10, .int v11, .int v12, .int v13, .int v14, .long v15, .int v16, .int v17, .int v18, .ref m19, .ref m20, .int v21, .int v22, .int v23, .int v24, .int v25, .int v26, .ref m27, .int v28, .ref m29, .ref m30, .ref m31, .ref m32, .int v33, .ref m34, .int v35, .ref m36, .ref m37, .ref m38, .ref m39, .ref m40, .int v41, .ref m42, .ref m43, .ref m44])), (m5, .inl (k 0, 16, .inl (fun _ => 0)))] s.heap.size = A at hD ⊢
  have hA : ∀ q : Nat, s.heap.size ≤ q → A q := fun q h => by rw [← hAe]; exact Or.inr h
  have hS : va_S A s.heap s.heap [] := va_S.rf
  have hP : va_P (dC, dI) vwCl [(h, .inr (12, [.int v0, .ref m1, .ref m2, .ref m3, .ref m4, .ref m5, .ref m6, .ref m7, .ref m8, .ref m9, .int v10, .int v11, .int v12, .int v13, .int v14, .long v15, .int v16, .int v17, .int v18, .ref m19, .ref m20, .int v21, .int v22, .int v23, .int v24, .int v25, .int v26, .ref m27, .int v28, .ref m29, .ref m30, .ref m31, .ref m32, .int v33, .ref m34, .int v35, .ref m36, .ref m37, .ref m38, .ref m39, .ref m40, .int v41, .ref m42, .ref m43, .ref m44])), (m5, .inl (k 0, 16, .inl (fun _ => 0)))] s.heap := hP
  have hl := lv_entry ([.ref h, .int p0]) (n := 2) (Nat.le_of_ble_eq_true rfl)
  rw [lg_entry_eq]
  generalize (lg_sl ([.ref h, .int p0]) ++ List.replicate (2 - (lg_sl ([.ref h, .int p0])).length) Slot.unset).toArray = ls at hl ⊢
  have hl : lv_has ls 2 [(0, .ref h), (1, .int p0)] := hl
  refine lv_aload_n hx hb dX12_count_0 rfl (lv_at hl 0 rfl) ?_
  refine lv_iconst (v := 0) hx hb dX12_count_1 (by decide) ?_
  refine va_put (D := (dC, dI)) (ci := 12) (v := .int 0) (ty := .int) (C := RX12) (T := TX12) (N := 45) hx hb hts hi12 tyX12 tyX12_ok nmX12 hown hK hP hD hS 0 rfl rfl 0 (by decide) (hts (.fieldLink RX12 88 "HeightFineModel" "code" "I") (by decide +kernel)) (fun _ h9 => h9) rfl (by decide +kernel) rfl rfl (Nat.le_of_ble_eq_true rfl) dX12_count_2 (fun H locs hP hD hS => ?_)
  have hP : va_P (dC, dI) vwCl [(h, .inr (12, [.int 0, .ref m1, .ref m2, .ref m3, .ref m4, .ref m5, .ref m6, .ref m7, .ref m8, .ref m9, .int v10, .int v11, .int v12, .int v13, .int v14, .long v15, .int v16, .int v17, .int v18, .ref m19, .ref m20, .int v21, .int v22, .int v23, .int v24, .int v25, .int v26, .ref m27, .int v28, .ref m29, .ref m30, .ref m31, .ref m32, .int v33, .ref m34, .int v35, .ref m36, .ref m37, .ref m38, .ref m39, .ref m40, .int v41, .ref m42, .ref m43, .ref m44])), (m5, .inl (k 0, 16, .inl (fun _ => 0)))] H := hP
  have hD : va_D A [(h, .inr (12, [.int 0, .ref m1, .ref m2, .ref m3, .ref m4, .ref m5, .ref m6, .ref m7, .ref m8, .ref m9, .int v10, .int v11, .int v12, .int v13, .int v14, .long v15, .int v16, .int v17, .int v18, .ref m19, .ref m20, .int v21, .int v22, .int v23, .int v24, .int v25, .int v26, .ref m27, .int v28, .ref m29, .ref m30, .ref m31, .ref m32, .int v33, .ref m34, .int v35, .ref m36, .ref m37, .ref m38, .ref m39, .ref m40, .int v41, .ref m42, .ref m43, .ref m44])), (m5, .inl (k 0, 16, .inl (fun _ => 0)))] := hD
  refine lv_iload_n hx hb dX12_count_5 rfl (lv_at hl 1 rfl) ?_
  refine lv_iconst (v := 0) hx hb dX12_count_6 (by decide) ?_
  refine lv_iconst (v := 3) hx hb dX12_count_7 (by decide) ?_
  refine vp_callSi (W.runS (As := [.int p0, .int 0, .int 3]) (rest := []) ⟨hx, hb, hml, hown, hts⟩ (m_in l p0 0 3) (va_cwS 3 hts gm_count_m_in rfl rfl rfl (by decide +kernel) ⟨Nat.le_of_ble_eq_true rfl, Nat.le_of_ble_eq_true rfl⟩) ⟨prN_blind, fun U hU hW => ⟨rfl, trivial⟩⟩ rfl rfl hl.1 rfl (lv_room (Nat.le_of_ble_eq_true rfl)) dX12_count_8 ⟨by decide +kernel, by decide +kernel⟩) (fun r_1 er_1 => ?_)
  subst er_1
  refine W.eq (g2 := F0 m 11 ls [.int (inR p0 0 3)]) rfl ?_
  refine lv_if_eq (tgt := 23) hx hb dX12_count_11 (by decide) (fun c_2 => ?_) (fun c_2 => ?_)
  · refine lv_bipush (v := (-2)) hx hb dX12_count_23 (by decide) ?_
    have hP9 : va_P (dC, dI) vwCl [] H := hP.sub (ws' := []) [] rfl
    have hD9 : va_D A [] := hD.sub (ws' := []) [] (by decide) rfl
    refine W.widen (k := 0) (n := 0) (by decide +kernel) (by decide +kernel) ?_
    exact W.iret (v := (-2)) hx hb hr (fun t ht hW => ⟨⟨(-2), (), rfl, by simp [inR_e, c_2], by rw [ht]; exact hP9, hD9⟩, hS.F ht⟩) hS.2.2 dX12_count_25
  · refine lv_aload_n hx hb dX12_count_14 rfl (lv_at hl 0 rfl) ?_
    refine va_get (D := (dC, dI)) (ci := 12) (v := .ref m5) (C := RX12) (T := TX12) (N := 45) hx hb hts hi12 hown hK hP 0 rfl rfl 5 (by decide) (hts (.fieldLink RX12 23 "HeightFineModel" "many" "[I") (by decide +kernel)) (fun _ h9 => h9) rfl dX12_count_15 ?_
    refine lv_iload_n hx hb dX12_count_18 rfl (lv_at hl 1 rfl) ?_
    refine va_iald hx hb hK hP 1 0 rfl rfl (i := p0) (zz_inI 16 c_2 (by decide) (by decide)) dX12_count_19 ?_
    refine W.eq (g2 := F0 m 20 ls [.int 0]) rfl ?_
    refine lv_goto (tgt := 25) hx hb dX12_count_20 (by decide) ?_
    have hP9 : va_P (dC, dI) vwCl [] H := hP.sub (ws' := []) [] rfl
    have hD9 : va_D A [] := hD.sub (ws' := []) [] (by decide) rfl
    refine W.widen (k := 0) (n := 0) (by decide +kernel) (by decide +kernel) ?_
    exact W.iret (v := 0) hx hb hr (fun t ht hW => ⟨⟨0, (), rfl, by simp [inR_e, c_2], by rw [ht]; exact hP9, hD9⟩, hS.F ht⟩) hS.2.2 dX12_count_25

def ws_m_fault : List Cond := .code yX12_fault cX12_fault 2 (some .int) :: ([.fieldLink RX12 88 "HeightFineModel" "code" "I", .fieldLink RX12 20 "HeightFineModel" "faultPlace" "[I", .fieldLink RX12 17 "HeightFineModel" "fault" "[I"] ++ u_ws RX12 TX12 45)
set_option maxRecDepth 20000 in
theorem in_m_fault_12 : ∀ w ∈ u_ws RX12 TX12 45, w ∈ ws_m_fault := by decide +kernel
set_option maxHeartbeats 4000000 in
set_option maxRecDepth 100000 in
theorem m_fault (l : Launch) (dC : Nat → ClassId) (dI : Nat → Nat → Nat) (k : Nat → ClassId) (h : Nat) (v0 : Int32) (m1 : Nat) (m2 : Nat) (m3 : Nat) (m4 : Nat) (m5 : Nat) (m6 : Nat) (m7 : Nat) (m8 : Nat) (m9 : Nat) (v10 : Int32) (v11 : Int32) (v12 : Int32) (v13 : Int32) (v14 : Int32) (v15 : Int64) (v16 : Int32) (v17 : Int32) (v18 : Int32) (m19 : Nat) (m20 : Nat) (v21 : Int32) (v22 : Int32) (v23 : Int32) (v24 : Int32) (v25 : Int32) (v26 : Int32) (m27 : Nat) (v28 : Int32) (m29 : Nat) (m30 : Nat) (m31 : Nat) (m32 : Nat) (v33 : Int32) (m34 : Nat) (v35 : Int32) (m36 : Nat) (m37 : Nat) (m38 : Nat) (m39 : Nat) (m40 : Nat) (v41 : Int32) (m42 : Nat) (m43 : Nat) (m44 : Nat) (p0 : Int32) (sz : Nat) : Met l yX12_fault ws_m_fault ({ frames := 0, cells := 0, slots := 0, locals := 0 }) (va_Pc [.ref h, .int p0] (prW dC dI k [(h, .inr (12, [.int v0, .ref m1, .ref m2, .ref m3, .ref m4, .ref m5, .ref m6, .ref m7, .ref m8, .ref m9, .int v10, .int v11, .int v12, .int v13, .int v14, .long v15, .int v16, .int v17, .int v18, .ref m19, .ref m20, .int v21, .int v22, .int v23, .int v24, .int v25, .int v26, .ref m27, .int v28, .ref m29, .ref m30, .ref m31, .ref m32, .int v33, .ref m34, .int v35, .ref m36, .ref m37, .ref m38, .ref m39, .ref m40, .int v41, .ref m42, .ref m43, .ref m44])), (m3, .inl (k 0, 4, .inl (fun _ => 0))), (m4, .inl (k 0, 4, .inl (upd (fun _ => 0) 0 (-1))))] sz)) (va_Qi (fun (r : Int32) (_ : Unit) => r = faR p0 0 (-1)) (fun (u : Unit) (t : State) => po (dC, dI) (va_A [(h, .inr (12, [.int v0, .ref m1, .ref m2, .ref m3, .ref m4, .ref m5, .ref m6, .ref m7, .ref m8, .ref m9, .int v10, .int v11, .int v12, .int v13, .int v14, .long v15, .int v16, .int v17, .int v18, .ref m19, .ref m20, .int v21, .int v22, .int v23, .int v24, .int v25, .int v26, .ref m27, .int v28, .ref m29, .ref m30, .ref m31, .ref m32, .int v33, .ref m34, .int v35, .ref m36, .ref m37, .ref m38, .ref m39, .ref m40, .int v41, .ref m42, .ref m43, .ref m44])), (m3, .inl (k 0, 4, .inl (fun _ => 0))), (m4, .inl (k 0, 4, .inl (upd (fun _ => 0) 0 (-1))))] sz) [] t) (va_A [(h, .inr (12, [.int v0, .ref m1, .ref m2, .ref m3, .ref m4, .ref m5, .ref m6, .ref m7, .ref m8, .ref m9, .int v10, .int v11, .int v12, .int v13, .int v14, .long v15, .int v16, .int v17, .int v18, .ref m19, .ref m20, .int v21, .int v22, .int v23, .int v24, .int v25, .int v26, .ref m27, .int v28, .ref m29, .ref m30, .ref m31, .ref m32, .int v33, .ref m34, .int v35, .ref m36, .ref m37, .ref m38, .ref m39, .ref m40, .int v41, .ref m42, .ref m43, .ref m44])), (m3, .inl (k 0, 4, .inl (fun _ => 0))), (m4, .inl (k 0, 4, .inl (upd (fun _ => 0) 0 (-1))))] sz)) 0 0 (va_A [(h, .inr (12, [.int v0, .ref m1, .ref m2, .ref m3, .ref m4, .ref m5, .ref m6, .ref m7, .ref m8, .ref m9, .int v10, .int v11, .int v12, .int v13, .int v14, .long v15, .int v16, .int v17, .int v18, .ref m19, .ref m20, .int v21, .int v22, .int v23, .int v24, .int v25, .int v26, .ref m27, .int v28, .ref m29, .ref m30, .ref m31, .ref m32, .int v33, .ref m34, .int v35, .ref m36, .ref m37, .ref m38, .ref m39, .ref m40, .int v41, .ref m42, .ref m43, .ref m44])), (m3, .inl (k 0, 4, .inl (fun _ => 0))), (m4, .inl (k 0, 4, .inl (upd (fun _ => 0) 0 (-1))))] sz) := by
  refine Met.ofW (cc := cX12_fault) (maxL := 2) (ret := (some .int)) (by decide) rfl ?_
  intro p e s m args below meth c s₁ B hml hv
  obtain ⟨rfl, hsz, hP, hK, hD0⟩ := hv
  have hx := B.exec
  have hb := B.bytes
  have hr := B.returns
  have hts := atoms_spec (ws := ws_m_fault) B.pre
  have hown : s.vm.findClass RX12 = some m.cls := findClass_of_methodNamed B.named
  have hi12 := in_m_fault_12
  subst hsz
  have hD := hD0.self (sz := s.heap.size)
  generalize hAe : va_A [(h, .inr (12, [.int v0, .ref m1, .ref m2, .ref m3, .ref m4, .ref m5, .ref m6, .ref m7, .ref m8, .ref m9, .int v10, .int v11, .int v12, .int v13, .int v14, .long v15, .int v16, .int v17, .int v18, .ref m19, .ref m20, .int v21, .int v22, .int v23, .int v24, .int v25, .int v26, .ref m27, .int v28, .ref m29, .ref m30, .ref m31, .ref m32, .int v33, .ref m34, .int v35, .ref m36, .ref m37, .ref m38, .ref m39, .ref m40, .int v41, .ref m42, .ref m43, .ref m44])), (m3, .inl (k 0, 4, .inl (fun _ => 0))), (m4, .inl (k 0, 4, .inl (upd (fun _ => 0) 0 (-1))))] s.heap.size = A at hD ⊢
  have hA : ∀ q : Nat, s.heap.size ≤ q → A q := fun q h => by rw [← hAe]; exact Or.inr h
  have hS : va_S A s.heap s.heap [] := va_S.rf
  have hP : va_P (dC, dI) vwCl [(h, .inr (12, [.int v0, .ref m1, .ref m2, .ref m3, .ref m4, .ref m5, .ref m6, .ref m7, .ref m8, .ref m9, .int v10, .int v11, .int v12, .int v13, .int v14, .long v15, .int v16, .int v17, .int v18, .ref m19, .ref m20, .int v21, .int v22, .int v23, .int v24, .int v25, .int v26, .ref m27, .int v28, .ref m29, .ref m30, .ref m31, .ref m32, .int v33, .ref m34, .int v35, .ref m36, .ref m37, .ref m38, .ref m39, .ref m40, .int v41, .ref m42, .ref m43, .ref m44])), (m3, .inl (k 0, 4, .inl (fun _ => 0))), (m4, .inl (k 0, 4, .inl (upd (fun _ => 0) 0 (-1))))] s.heap := hP
  have hl := lv_entry ([.ref h, .int p0]) (n := 2) (Nat.le_of_ble_eq_true rfl)
  rw [lg_entry_eq]
  generalize (lg_sl ([.ref h, .int p0]) ++ List.replicate (2 - (lg_sl ([.ref h, .int p0])).length) Slot.unset).toArray = ls at hl ⊢
  have hl : lv_has ls 2 [(0, .ref h), (1, .int p0)] := hl
  refine lv_aload_n hx hb dX12_fault_0 rfl (lv_at hl 0 rfl) ?_
  refine lv_iconst (v := 0) hx hb dX12_fault_1 (by decide) ?_
  refine va_put (D := (dC, dI)) (ci := 12) (v := .int 0) (ty := .int) (C := RX12) (T := TX12) (N := 45) hx hb hts hi12 tyX12 tyX12_ok nmX12 hown hK hP hD hS 0 rfl rfl 0 (by decide) (hts (.fieldLink RX12 88 "HeightFineModel" "code" "I") (by decide +kernel)) (fun _ h9 => h9) rfl (by decide +kernel) rfl rfl (Nat.le_of_ble_eq_true rfl) dX12_fault_2 (fun H locs hP hD hS => ?_)
  have hP : va_P (dC, dI) vwCl [(h, .inr (12, [.int 0, .ref m1, .ref m2, .ref m3, .ref m4, .ref m5, .ref m6, .ref m7, .ref m8, .ref m9, .int v10, .int v11, .int v12, .int v13, .int v14, .long v15, .int v16, .int v17, .int v18, .ref m19, .ref m20, .int v21, .int v22, .int v23, .int v24, .int v25, .int v26, .ref m27, .int v28, .ref m29, .ref m30, .ref m31, .ref m32, .int v33, .ref m34, .int v35, .ref m36, .ref m37, .ref m38, .ref m39, .ref m40, .int v41, .ref m42, .ref m43, .ref m44])), (m3, .inl (k 0, 4, .inl (fun _ => 0))), (m4, .inl (k 0, 4, .inl (upd (fun _ => 0) 0 (-1))))] H := hP
  have hD : va_D A [(h, .inr (12, [.int 0, .ref m1, .ref m2, .ref m3, .ref m4, .ref m5, .ref m6, .ref m7, .ref m8, .ref m9, .int v10, .int v11, .int v12, .int v13, .int v14, .long v15, .int v16, .int v17, .int v18, .ref m19, .ref m20, .int v21, .int v22, .int v23, .int v24, .int v25, .int v26, .ref m27, .int v28, .ref m29, .ref m30, .ref m31, .ref m32, .int v33, .ref m34, .int v35, .ref m36, .ref m37, .ref m38, .ref m39, .ref m40, .int v41, .ref m42, .ref m43, .ref m44])), (m3, .inl (k 0, 4, .inl (fun _ => 0))), (m4, .inl (k 0, 4, .inl (upd (fun _ => 0) 0 (-1))))] := hD
  refine lv_iload_n hx hb dX12_fault_5 rfl (lv_at hl 1 rfl) ?_
  refine lv_if_ne (tgt := 18) hx hb dX12_fault_6 (by decide) (fun c_1 => ?_) (fun c_1 => ?_)
  · refine lv_iload_n hx hb dX12_fault_18 rfl (lv_at hl 1 rfl) ?_
    refine lv_iconst (v := 1) hx hb dX12_fault_19 (by decide) ?_
    refine lv_icmp_ne (tgt := 32) hx hb dX12_fault_20 (by decide) (fun c_2 => ?_) (fun c_2 => ?_)
    · refine lv_iconst (v := (-1)) hx hb dX12_fault_32 (by decide) ?_
      have hP9 : va_P (dC, dI) vwCl [] H := hP.sub (ws' := []) [] rfl
      have hD9 : va_D A [] := hD.sub (ws' := []) [] (by decide) rfl
      refine W.widen (k := 0) (n := 0) (by decide +kernel) (by decide +kernel) ?_
      exact W.iret (v := (-1)) hx hb hr (fun t ht hW => ⟨⟨(-1), (), rfl, by simp [faR, c_1, c_2], by rw [ht]; exact hP9, hD9⟩, hS.F ht⟩) hS.2.2 dX12_fault_33
    · refine lv_aload_n hx hb dX12_fault_23 rfl (lv_at hl 0 rfl) ?_
      refine va_get (D := (dC, dI)) (ci := 12) (v := .ref m4) (C := RX12) (T := TX12) (N := 45) hx hb hts hi12 hown hK hP 0 rfl rfl 4 (by decide) (hts (.fieldLink RX12 20 "HeightFineModel" "faultPlace" "[I") (by decide +kernel)) (fun _ h9 => h9) rfl dX12_fault_24 ?_
      refine lv_iconst (v := 0) hx hb dX12_fault_27 (by decide) ?_
      refine va_iald hx hb hK hP 2 0 rfl rfl (i := 0) (zz_in (by decide)) dX12_fault_28 ?_
      refine W.eq (g2 := F0 m 29 ls [.int (-1)]) rfl ?_
      refine lv_goto (tgt := 33) hx hb dX12_fault_29 (by decide) ?_
      have hP9 : va_P (dC, dI) vwCl [] H := hP.sub (ws' := []) [] rfl
      have hD9 : va_D A [] := hD.sub (ws' := []) [] (by decide) rfl
      refine W.widen (k := 0) (n := 0) (by decide +kernel) (by decide +kernel) ?_
      exact W.iret (v := (-1)) hx hb hr (fun t ht hW => ⟨⟨(-1), (), rfl, by simp [faR, c_1, c_2], by rw [ht]; exact hP9, hD9⟩, hS.F ht⟩) hS.2.2 dX12_fault_33
  · refine lv_aload_n hx hb dX12_fault_9 rfl (lv_at hl 0 rfl) ?_
    refine va_get (D := (dC, dI)) (ci := 12) (v := .ref m3) (C := RX12) (T := TX12) (N := 45) hx hb hts hi12 hown hK hP 0 rfl rfl 3 (by decide) (hts (.fieldLink RX12 17 "HeightFineModel" "fault" "[I") (by decide +kernel)) (fun _ h9 => h9) rfl dX12_fault_10 ?_
    refine lv_iconst (v := 0) hx hb dX12_fault_13 (by decide) ?_
    refine va_iald hx hb hK hP 1 0 rfl rfl (i := 0) (zz_in (by decide)) dX12_fault_14 ?_
    refine W.eq (g2 := F0 m 15 ls [.int 0]) rfl ?_
    refine lv_goto (tgt := 33) hx hb dX12_fault_15 (by decide) ?_
    have hP9 : va_P (dC, dI) vwCl [] H := hP.sub (ws' := []) [] rfl
    have hD9 : va_D A [] := hD.sub (ws' := []) [] (by decide) rfl
    refine W.widen (k := 0) (n := 0) (by decide +kernel) (by decide +kernel) ?_
    exact W.iret (v := 0) hx hb hr (fun t ht hW => ⟨⟨0, (), rfl, by simp [faR, c_1], by rw [ht]; exact hP9, hD9⟩, hS.F ht⟩) hS.2.2 dX12_fault_33

def ws_m_end : List Cond := .code yX12_end cX12_end 2 (some .int) :: ([.fieldLink RX12 88 "HeightFineModel" "code" "I", .fieldLink RX12 13 "HeightFineModel" "size" "[I", .methodLink RX12 100 yX12_in, .static yX12_in, .initialized RX12, .code yX12_in cX12_in 3 (some .boolean)] ++ u_ws RX12 TX12 45)
set_option maxRecDepth 20000 in
theorem in_m_end_12 : ∀ w ∈ u_ws RX12 TX12 45, w ∈ ws_m_end := by decide +kernel
set_option maxRecDepth 20000 in
theorem gm_end_m_in : GoodIn ws_m_end (va_wsS RX12 100 yX12_in ws_m_in) := goodIn_app (goodIn_of _ (by decide +kernel)) (goodIn_r _ [6] (by decide +kernel) (by decide +kernel))
set_option maxHeartbeats 4000000 in
set_option maxRecDepth 100000 in
theorem m_end (l : Launch) (dC : Nat → ClassId) (dI : Nat → Nat → Nat) (k : Nat → ClassId) (h : Nat) (v0 : Int32) (m1 : Nat) (m2 : Nat) (m3 : Nat) (m4 : Nat) (m5 : Nat) (m6 : Nat) (m7 : Nat) (m8 : Nat) (m9 : Nat) (v10 : Int32) (v11 : Int32) (v12 : Int32) (v13 : Int32) (v14 : Int32) (v15 : Int64) (v16 : Int32) (v17 : Int32) (v18 : Int32) (m19 : Nat) (m20 : Nat) (v21 : Int32) (v22 : Int32) (v23 : Int32) (v24 : Int32) (v25 : Int32) (v26 : Int32) (m27 : Nat) (v28 : Int32) (m29 : Nat) (m30 : Nat) (m31 : Nat) (m32 : Nat) (v33 : Int32) (m34 : Nat) (v35 : Int32) (m36 : Nat) (m37 : Nat) (m38 : Nat) (m39 : Nat) (m40 : Nat) (v41 : Int32) (m42 : Nat) (m43 : Nat) (m44 : Nat) (p0 : Int32) (sz : Nat) : Met l yX12_end ws_m_end ({ frames := 1, cells := 0, slots := 0, locals := 22 }) (va_Pc [.ref h, .int p0] (prW dC dI k [(h, .inr (12, [.int v0, .ref m1, .ref m2, .ref m3, .ref m4, .ref m5, .ref m6, .ref m7, .ref m8, .ref m9, .int v10, .int v11, .int v12, .int v13, .int v14, .long v15, .int v16, .int v17, .int v18, .ref m19, .ref m20, .int v21, .int v22, .int v23, .int v24, .int v25, .int v26, .ref m27, .int v28, .ref m29, .ref m30, .ref m31, .ref m32, .int v33, .ref m34, .int v35, .ref m36, .ref m37, .ref m38, .ref m39, .ref m40, .int v41, .ref m42, .ref m43, .ref m44])), (m2, .inl (k 0, 4, .inl (fun _ => 0)))] sz)) (va_Qi (fun (r : Int32) (_ : Unit) => r = if inR p0 0 0 = 0 then -1 else p0) (fun (u : Unit) (t : State) => po (dC, dI) (va_A [(h, .inr (12, [.int v0, .ref m1, .ref m2, .ref m3, .ref m4, .ref m5, .ref m6, .ref m7, .ref m8, .ref m9, .int v10, .int v11, .int v12, .int v13, .int v14, .long v15, .int v16, .int v17, .int v18, .ref m19, .ref m20, .int v21, .int v22, .int v23, .int v24, .int v25, .int v26, .ref m27, .int v28, .ref m29, .ref m30, .ref m31, .ref m32, .int v33, .ref m34, .int v35, .ref m36, .ref m37, .ref m38, .ref m39, .ref m40, .int v41, .ref m42, .ref m43, .ref m44])), (m2, .inl (k 0, 4, .inl (fun _ => 0)))] sz) [] t) (va_A [(h, .inr (12, [.int v0, .ref m1, .ref m2, .ref m3, .ref m4, .ref m5, .ref m6, .ref m7, .ref m8, .ref m9, .int v10, .int v11, .int v12, .int v13, .int v14, .long v15, .int v16, .int v17, .int v18, .ref m19, .ref m20, .int v21, .int v22, .int v23, .int v24, .int v25, .int v26, .ref m27, .int v28, .ref m29, .ref m30, .ref m31, .ref m32, .int v33, .ref m34, .int v35, .ref m36, .ref m37, .ref m38, .ref m39, .ref m40, .int v41, .ref m42, .ref m43, .ref m44])), (m2, .inl (k 0, 4, .inl (fun _ => 0)))] sz)) 0 0 (va_A [(h, .inr (12, [.int v0, .ref m1, .ref m2, .ref m3, .ref m4, .ref m5, .ref m6, .ref m7, .ref m8, .ref m9, .int v10, .int v11, .int v12, .int v13, .int v14, .long v15, .int v16, .int v17, .int v18, .ref m19, .ref m20, .int v21, .int v22, .int v23, .int v24, .int v25, .int v26, .ref m27, .int v28, .ref m29, .ref m30, .ref m31, .ref m32, .int v33, .ref m34, .int v35, .ref m36, .ref m37, .ref m38, .ref m39, .ref m40, .int v41, .ref m42, .ref m43, .ref m44])), (m2, .inl (k 0, 4, .inl (fun _ => 0)))] sz) := by
  refine Met.ofW (cc := cX12_end) (maxL := 2) (ret := (some .int)) (by decide) rfl ?_
  intro p e s m args below meth c s₁ B hml hv
  obtain ⟨rfl, hsz, hP, hK, hD0⟩ := hv
  have hx := B.exec
  have hb := B.bytes
  have hr := B.returns
  have hts := atoms_spec (ws := ws_m_end) B.pre
  have hown : s.vm.findClass RX12 = some m.cls := findClass_of_methodNamed B.named
  have hi12 := in_m_end_12
  subst hsz
  have hD := hD0.self (sz := s.heap.size)
  generalize hAe : va_A [(h, .inr (12, [.int v0, .ref m1, .ref m2, .ref m3, .ref m4, .ref m5, .ref m6, .ref m7, .ref m8, .ref m9, .int v10, .int v11, .int v12, .int v13, .int v14, .long v15, .int v16, .int v17, .int v18, .ref m19, .ref m20, .int v21, .int v22, .int v23, .int v24, .int v25, .int v26, .ref m27, .int v28, .ref m29, .ref m30, .ref m31, .ref m32, .int v33, .ref m34, .int v35, .ref m36, .ref m37, .ref m38, .ref m39, .ref m40, .int v41, .ref m42, .ref m43, .ref m44])), (m2, .inl (k 0, 4, .inl (fun _ => 0)))] s.heap.size = A at hD ⊢
  have hA : ∀ q : Nat, s.heap.size ≤ q → A q := fun q h => by rw [← hAe]; exact Or.inr h
  have hS : va_S A s.heap s.heap [] := va_S.rf
  have hP : va_P (dC, dI) vwCl [(h, .inr (12, [.int v0, .ref m1, .ref m2, .ref m3, .ref m4, .ref m5, .ref m6, .ref m7, .ref m8, .ref m9, .int v10, .int v11, .int v12, .int v13, .int v14, .long v15, .int v16, .int v17, .int v18, .ref m19, .ref m20, .int v21, .int v22, .int v23, .int v24, .int v25, .int v26, .ref m27, .int v28, .ref m29, .ref m30, .ref m31, .ref m32, .int v33, .ref m34, .int v35, .ref m36, .ref m37, .ref m38, .ref m39, .ref m40, .int v41, .ref m42, .ref m43, .ref m44])), (m2, .inl (k 0, 4, .inl (fun _ => 0)))] s.heap := hP
  have hl := lv_entry ([.ref h, .int p0]) (n := 2) (Nat.le_of_ble_eq_true rfl)
  rw [lg_entry_eq]
  generalize (lg_sl ([.ref h, .int p0]) ++ List.replicate (2 - (lg_sl ([.ref h, .int p0])).length) Slot.unset).toArray = ls at hl ⊢
  have hl : lv_has ls 2 [(0, .ref h), (1, .int p0)] := hl
  refine lv_aload_n hx hb dX12_end_0 rfl (lv_at hl 0 rfl) ?_
  refine lv_iconst (v := 0) hx hb dX12_end_1 (by decide) ?_
  refine va_put (D := (dC, dI)) (ci := 12) (v := .int 0) (ty := .int) (C := RX12) (T := TX12) (N := 45) hx hb hts hi12 tyX12 tyX12_ok nmX12 hown hK hP hD hS 0 rfl rfl 0 (by decide) (hts (.fieldLink RX12 88 "HeightFineModel" "code" "I") (by decide +kernel)) (fun _ h9 => h9) rfl (by decide +kernel) rfl rfl (Nat.le_of_ble_eq_true rfl) dX12_end_2 (fun H locs hP hD hS => ?_)
  have hP : va_P (dC, dI) vwCl [(h, .inr (12, [.int 0, .ref m1, .ref m2, .ref m3, .ref m4, .ref m5, .ref m6, .ref m7, .ref m8, .ref m9, .int v10, .int v11, .int v12, .int v13, .int v14, .long v15, .int v16, .int v17, .int v18, .ref m19, .ref m20, .int v21, .int v22, .int v23, .int v24, .int v25, .int v26, .ref m27, .int v28, .ref m29, .ref m30, .ref m31, .ref m32, .int v33, .ref m34, .int v35, .ref m36, .ref m37, .ref m38, .ref m39, .ref m40, .int v41, .ref m42, .ref m43, .ref m44])), (m2, .inl (k 0, 4, .inl (fun _ => 0)))] H := hP
  have hD : va_D A [(h, .inr (12, [.int 0, .ref m1, .ref m2, .ref m3, .ref m4, .ref m5, .ref m6, .ref m7, .ref m8, .ref m9, .int v10, .int v11, .int v12, .int v13, .int v14, .long v15, .int v16, .int v17, .int v18, .ref m19, .ref m20, .int v21, .int v22, .int v23, .int v24, .int v25, .int v26, .ref m27, .int v28, .ref m29, .ref m30, .ref m31, .ref m32, .int v33, .ref m34, .int v35, .ref m36, .ref m37, .ref m38, .ref m39, .ref m40, .int v41, .ref m42, .ref m43, .ref m44])), (m2, .inl (k 0, 4, .inl (fun _ => 0)))] := hD
  refine lv_iload_n hx hb dX12_end_5 rfl (lv_at hl 1 rfl) ?_
  refine lv_iconst (v := 0) hx hb dX12_end_6 (by decide) ?_
  refine lv_aload_n hx hb dX12_end_7 rfl (lv_at hl 0 rfl) ?_
  refine va_get (D := (dC, dI)) (ci := 12) (v := .ref m2) (C := RX12) (T := TX12) (N := 45) hx hb hts hi12 hown hK hP 0 rfl rfl 2 (by decide) (hts (.fieldLink RX12 13 "HeightFineModel" "size" "[I") (by decide +kernel)) (fun _ h9 => h9) rfl dX12_end_8 ?_
  refine lv_iconst (v := 0) hx hb dX12_end_11 (by decide) ?_
  refine va_iald hx hb hK hP 1 0 rfl rfl (i := 0) (zz_in (by decide)) dX12_end_12 ?_
  refine W.eq (g2 := F0 m 13 ls [.int 0, .int 0, .int p0]) rfl ?_
  refine vp_callSi (W.runS (As := [.int p0, .int 0, .int 0]) (rest := []) ⟨hx, hb, hml, hown, hts⟩ (m_in l p0 0 0) (va_cwS 3 hts gm_end_m_in rfl rfl rfl (by decide +kernel) ⟨Nat.le_of_ble_eq_true rfl, Nat.le_of_ble_eq_true rfl⟩) ⟨prN_blind, fun U hU hW => ⟨rfl, trivial⟩⟩ rfl rfl hl.1 rfl (lv_room (Nat.le_of_ble_eq_true rfl)) dX12_end_13 ⟨by decide +kernel, by decide +kernel⟩) (fun r_1 er_1 => ?_)
  subst er_1
  refine W.eq (g2 := F0 m 16 ls [.int (inR p0 0 0)]) rfl ?_
  refine lv_if_ne (tgt := 21) hx hb dX12_end_16 (by decide) (fun c_2 => ?_) (fun c_2 => ?_)
  · refine lv_aload_n hx hb dX12_end_21 rfl (lv_at hl 0 rfl) ?_
    refine va_get (D := (dC, dI)) (ci := 12) (v := .ref m2) (C := RX12) (T := TX12) (N := 45) hx hb hts hi12 hown hK hP 0 rfl rfl 2 (by decide) (hts (.fieldLink RX12 13 "HeightFineModel" "size" "[I") (by decide +kernel)) (fun _ h9 => h9) rfl dX12_end_22 ?_
    refine lv_iconst (v := 0) hx hb dX12_end_25 (by decide) ?_
    refine lv_iload_n hx hb dX12_end_26 rfl (lv_at hl 1 rfl) ?_
    refine va_iast hx hb hK hP hD hS 1 0 rfl rfl (i := 0) (x := p0) (zz_in (by decide)) dX12_end_27 (fun H locs hP hD hS => ?_)
    have hP : va_P (dC, dI) vwCl [(h, .inr (12, [.int 0, .ref m1, .ref m2, .ref m3, .ref m4, .ref m5, .ref m6, .ref m7, .ref m8, .ref m9, .int v10, .int v11, .int v12, .int v13, .int v14, .long v15, .int v16, .int v17, .int v18, .ref m19, .ref m20, .int v21, .int v22, .int v23, .int v24, .int v25, .int v26, .ref m27, .int v28, .ref m29, .ref m30, .ref m31, .ref m32, .int v33, .ref m34, .int v35, .ref m36, .ref m37, .ref m38, .ref m39, .ref m40, .int v41, .ref m42, .ref m43, .ref m44])), (m2, .inl (k 0, 4, .inl (upd (fun _ => 0) 0 p0)))] H := hP
    have hD : va_D A [(h, .inr (12, [.int 0, .ref m1, .ref m2, .ref m3, .ref m4, .ref m5, .ref m6, .ref m7, .ref m8, .ref m9, .int v10, .int v11, .int v12, .int v13, .int v14, .long v15, .int v16, .int v17, .int v18, .ref m19, .ref m20, .int v21, .int v22, .int v23, .int v24, .int v25, .int v26, .ref m27, .int v28, .ref m29, .ref m30, .ref m31, .ref m32, .int v33, .ref m34, .int v35, .ref m36, .ref m37, .ref m38, .ref m39, .ref m40, .int v41, .ref m42, .ref m43, .ref m44])), (m2, .inl (k 0, 4, .inl (upd (fun _ => 0) 0 p0)))] := hD
    refine lv_iload_n hx hb dX12_end_28 rfl (lv_at hl 1 rfl) ?_
    have hP9 : va_P (dC, dI) vwCl [] H := hP.sub (ws' := []) [] rfl
    have hD9 : va_D A [] := hD.sub (ws' := []) [] (by decide) rfl
    refine W.widen (k := 0) (n := 0) (by decide +kernel) (by decide +kernel) ?_
    exact W.iret (v := p0) hx hb hr (fun t ht hW => ⟨⟨p0, (), rfl, by simp [inR_e, c_2], by rw [ht]; exact hP9, hD9⟩, hS.F ht⟩) hS.2.2 dX12_end_29
  · refine lv_iconst (v := (-1)) hx hb dX12_end_19 (by decide) ?_
    have hP9 : va_P (dC, dI) vwCl [] H := hP.sub (ws' := []) [] rfl
    have hD9 : va_D A [] := hD.sub (ws' := []) [] (by decide) rfl
    refine W.widen (k := 0) (n := 0) (by decide +kernel) (by decide +kernel) ?_
    exact W.iret (v := (-1)) hx hb hr (fun t ht hW => ⟨⟨(-1), (), rfl, by simp [inR_e, c_2], by rw [ht]; exact hP9, hD9⟩, hS.F ht⟩) hS.2.2 dX12_end_20

def ws_m_again : List Cond := .code yX12_again cX12_again 2 (some .boolean) :: ([.fieldLink RX12 88 "HeightFineModel" "code" "I", .methodLink RX12 100 yX12_in, .static yX12_in, .initialized RX12, .code yX12_in cX12_in 3 (some .boolean), .fieldLink RX12 84 "HeightFineModel" "kept" "[Z"] ++ u_ws RX12 TX12 45)
set_option maxRecDepth 20000 in
theorem in_m_again_12 : ∀ w ∈ u_ws RX12 TX12 45, w ∈ ws_m_again := by decide +kernel
set_option maxRecDepth 20000 in
theorem gm_again_m_in : GoodIn ws_m_again (va_wsS RX12 100 yX12_in ws_m_in) := goodIn_app (goodIn_of _ (by decide +kernel)) (goodIn_r _ [5] (by decide +kernel) (by decide +kernel))
set_option maxHeartbeats 4000000 in
set_option maxRecDepth 100000 in
theorem m_again (l : Launch) (dC : Nat → ClassId) (dI : Nat → Nat → Nat) (k : Nat → ClassId) (h : Nat) (v0 : Int32) (m1 : Nat) (m2 : Nat) (m3 : Nat) (m4 : Nat) (m5 : Nat) (m6 : Nat) (m7 : Nat) (m8 : Nat) (m9 : Nat) (v10 : Int32) (v11 : Int32) (v12 : Int32) (v13 : Int32) (v14 : Int32) (v15 : Int64) (v16 : Int32) (v17 : Int32) (v18 : Int32) (m19 : Nat) (m20 : Nat) (v21 : Int32) (v22 : Int32) (v23 : Int32) (v24 : Int32) (v25 : Int32) (v26 : Int32) (m27 : Nat) (v28 : Int32) (m29 : Nat) (m30 : Nat) (m31 : Nat) (m32 : Nat) (v33 : Int32) (m34 : Nat) (v35 : Int32) (m36 : Nat) (m37 : Nat) (m38 : Nat) (m39 : Nat) (m40 : Nat) (v41 : Int32) (m42 : Nat) (m43 : Nat) (m44 : Nat) (p0 : Int32) (sz : Nat) : Met l yX12_again ws_m_again ({ frames := 1, cells := 0, slots := 0, locals := 22 }) (va_Pc [.ref h, .int p0] (prW dC dI k [(h, .inr (12, [.int v0, .ref m1, .ref m2, .ref m3, .ref m4, .ref m5, .ref m6, .ref m7, .ref m8, .ref m9, .int v10, .int v11, .int v12, .int v13, .int v14, .long v15, .int v16, .int v17, .int v18, .ref m19, .ref m20, .int v21, .int v22, .int v23, .int v24, .int v25, .int v26, .ref m27, .int v28, .ref m29, .ref m30, .ref m31, .ref m32, .int v33, .ref m34, .int v35, .ref m36, .ref m37, .ref m38, .ref m39, .ref m40, .int v41, .ref m42, .ref m43, .ref m44])), (m44, .inl (k 2, 3, .inl (fun _ => 0)))] sz)) (va_Qi (fun (r : Int32) (_ : Unit) => r = 0) (fun (u : Unit) (t : State) => po (dC, dI) (va_A [(h, .inr (12, [.int v0, .ref m1, .ref m2, .ref m3, .ref m4, .ref m5, .ref m6, .ref m7, .ref m8, .ref m9, .int v10, .int v11, .int v12, .int v13, .int v14, .long v15, .int v16, .int v17, .int v18, .ref m19, .ref m20, .int v21, .int v22, .int v23, .int v24, .int v25, .int v26, .ref m27, .int v28, .ref m29, .ref m30, .ref m31, .ref m32, .int v33, .ref m34, .int v35, .ref m36, .ref m37, .ref m38, .ref m39, .ref m40, .int v41, .ref m42, .ref m43, .ref m44])), (m44, .inl (k 2, 3, .inl (fun _ => 0)))] sz) [] t) (va_A [(h, .inr (12, [.int v0, .ref m1, .ref m2, .ref m3, .ref m4, .ref m5, .ref m6, .ref m7, .ref m8, .ref m9, .int v10, .int v11, .int v12, .int v13, .int v14, .long v15, .int v16, .int v17, .int v18, .ref m19, .ref m20, .int v21, .int v22, .int v23, .int v24, .int v25, .int v26, .ref m27, .int v28, .ref m29, .ref m30, .ref m31, .ref m32, .int v33, .ref m34, .int v35, .ref m36, .ref m37, .ref m38, .ref m39, .ref m40, .int v41, .ref m42, .ref m43, .ref m44])), (m44, .inl (k 2, 3, .inl (fun _ => 0)))] sz)) 0 0 (va_A [(h, .inr (12, [.int v0, .ref m1, .ref m2, .ref m3, .ref m4, .ref m5, .ref m6, .ref m7, .ref m8, .ref m9, .int v10, .int v11, .int v12, .int v13, .int v14, .long v15, .int v16, .int v17, .int v18, .ref m19, .ref m20, .int v21, .int v22, .int v23, .int v24, .int v25, .int v26, .ref m27, .int v28, .ref m29, .ref m30, .ref m31, .ref m32, .int v33, .ref m34, .int v35, .ref m36, .ref m37, .ref m38, .ref m39, .ref m40, .int v41, .ref m42, .ref m43, .ref m44])), (m44, .inl (k 2, 3, .inl (fun _ => 0)))] sz) := by
  refine Met.ofW (cc := cX12_again) (maxL := 2) (ret := (some .boolean)) (by decide) rfl ?_
  intro p e s m args below meth c s₁ B hml hv
  obtain ⟨rfl, hsz, hP, hK, hD0⟩ := hv
  have hx := B.exec
  have hb := B.bytes
  have hr := B.returns
  have hts := atoms_spec (ws := ws_m_again) B.pre
  have hown : s.vm.findClass RX12 = some m.cls := findClass_of_methodNamed B.named
  have hi12 := in_m_again_12
  subst hsz
  have hD := hD0.self (sz := s.heap.size)
  generalize hAe : va_A [(h, .inr (12, [.int v0, .ref m1, .ref m2, .ref m3, .ref m4, .ref m5, .ref m6, .ref m7, .ref m8, .ref m9, .int v10, .int v11, .int v12, .int v13, .int v14, .long v15, .int v16, .int v17, .int v18, .ref m19, .ref m20, .int v21, .int v22, .int v23, .int v24, .int v25, .int v26, .ref m27, .int v28, .ref m29, .ref m30, .ref m31, .ref m32, .int v33, .ref m34, .int v35, .ref m36, .ref m37, .ref m38, .ref m39, .ref m40, .int v41, .ref m42, .ref m43, .ref m44])), (m44, .inl (k 2, 3, .inl (fun _ => 0)))] s.heap.size = A at hD ⊢
  have hA : ∀ q : Nat, s.heap.size ≤ q → A q := fun q h => by rw [← hAe]; exact Or.inr h
  have hS : va_S A s.heap s.heap [] := va_S.rf
  have hP : va_P (dC, dI) vwCl [(h, .inr (12, [.int v0, .ref m1, .ref m2, .ref m3, .ref m4, .ref m5, .ref m6, .ref m7, .ref m8, .ref m9, .int v10, .int v11, .int v12, .int v13, .int v14, .long v15, .int v16, .int v17, .int v18, .ref m19, .ref m20, .int v21, .int v22, .int v23, .int v24, .int v25, .int v26, .ref m27, .int v28, .ref m29, .ref m30, .ref m31, .ref m32, .int v33, .ref m34, .int v35, .ref m36, .ref m37, .ref m38, .ref m39, .ref m40, .int v41, .ref m42, .ref m43, .ref m44])), (m44, .inl (k 2, 3, .inl (fun _ => 0)))] s.heap := hP
  have hl := lv_entry ([.ref h, .int p0]) (n := 2) (Nat.le_of_ble_eq_true rfl)
  rw [lg_entry_eq]
  generalize (lg_sl ([.ref h, .int p0]) ++ List.replicate (2 - (lg_sl ([.ref h, .int p0])).length) Slot.unset).toArray = ls at hl ⊢
  have hl : lv_has ls 2 [(0, .ref h), (1, .int p0)] := hl
  refine lv_aload_n hx hb dX12_again_0 rfl (lv_at hl 0 rfl) ?_
  refine lv_iconst (v := 0) hx hb dX12_again_1 (by decide) ?_
  refine va_put (D := (dC, dI)) (ci := 12) (v := .int 0) (ty := .int) (C := RX12) (T := TX12) (N := 45) hx hb hts hi12 tyX12 tyX12_ok nmX12 hown hK hP hD hS 0 rfl rfl 0 (by decide) (hts (.fieldLink RX12 88 "HeightFineModel" "code" "I") (by decide +kernel)) (fun _ h9 => h9) rfl (by decide +kernel) rfl rfl (Nat.le_of_ble_eq_true rfl) dX12_again_2 (fun H locs hP hD hS => ?_)
  have hP : va_P (dC, dI) vwCl [(h, .inr (12, [.int 0, .ref m1, .ref m2, .ref m3, .ref m4, .ref m5, .ref m6, .ref m7, .ref m8, .ref m9, .int v10, .int v11, .int v12, .int v13, .int v14, .long v15, .int v16, .int v17, .int v18, .ref m19, .ref m20, .int v21, .int v22, .int v23, .int v24, .int v25, .int v26, .ref m27, .int v28, .ref m29, .ref m30, .ref m31, .ref m32, .int v33, .ref m34, .int v35, .ref m36, .ref m37, .ref m38, .ref m39, .ref m40, .int v41, .ref m42, .ref m43, .ref m44])), (m44, .inl (k 2, 3, .inl (fun _ => 0)))] H := hP
  have hD : va_D A [(h, .inr (12, [.int 0, .ref m1, .ref m2, .ref m3, .ref m4, .ref m5, .ref m6, .ref m7, .ref m8, .ref m9, .int v10, .int v11, .int v12, .int v13, .int v14, .long v15, .int v16, .int v17, .int v18, .ref m19, .ref m20, .int v21, .int v22, .int v23, .int v24, .int v25, .int v26, .ref m27, .int v28, .ref m29, .ref m30, .ref m31, .ref m32, .int v33, .ref m34, .int v35, .ref m36, .ref m37, .ref m38, .ref m39, .ref m40, .int v41, .ref m42, .ref m43, .ref m44])), (m44, .inl (k 2, 3, .inl (fun _ => 0)))] := hD
  refine lv_iload_n hx hb dX12_again_5 rfl (lv_at hl 1 rfl) ?_
  refine lv_iconst (v := 0) hx hb dX12_again_6 (by decide) ?_
  refine lv_iconst (v := 2) hx hb dX12_again_7 (by decide) ?_
  refine vp_callSi (W.runS (As := [.int p0, .int 0, .int 2]) (rest := []) ⟨hx, hb, hml, hown, hts⟩ (m_in l p0 0 2) (va_cwS 3 hts gm_again_m_in rfl rfl rfl (by decide +kernel) ⟨Nat.le_of_ble_eq_true rfl, Nat.le_of_ble_eq_true rfl⟩) ⟨prN_blind, fun U hU hW => ⟨rfl, trivial⟩⟩ rfl rfl hl.1 rfl (lv_room (Nat.le_of_ble_eq_true rfl)) dX12_again_8 ⟨by decide +kernel, by decide +kernel⟩) (fun r_1 er_1 => ?_)
  subst er_1
  refine W.eq (g2 := F0 m 11 ls [.int (inR p0 0 2)]) rfl ?_
  refine lv_if_eq (tgt := 23) hx hb dX12_again_11 (by decide) (fun c_2 => ?_) (fun c_2 => ?_)
  · refine lv_iconst (v := 0) hx hb dX12_again_23 (by decide) ?_
    have hP9 : va_P (dC, dI) vwCl [] H := hP.sub (ws' := []) [] rfl
    have hD9 : va_D A [] := hD.sub (ws' := []) [] (by decide) rfl
    refine W.widen (k := 0) (n := 0) (by decide +kernel) (by decide +kernel) ?_
    exact W.zret (v := 0) hx hb hr rfl (fun t ht hW => ⟨⟨0, (), rfl, rfl, by rw [ht]; exact hP9, hD9⟩, hS.F ht⟩) hS.2.2 dX12_again_24
  · refine lv_aload_n hx hb dX12_again_14 rfl (lv_at hl 0 rfl) ?_
    refine va_get (D := (dC, dI)) (ci := 12) (v := .ref m44) (C := RX12) (T := TX12) (N := 45) hx hb hts hi12 hown hK hP 0 rfl rfl 44 (by decide) (hts (.fieldLink RX12 84 "HeightFineModel" "kept" "[Z") (by decide +kernel)) (fun _ h9 => h9) rfl dX12_again_15 ?_
    refine lv_iload_n hx hb dX12_again_18 rfl (lv_at hl 1 rfl) ?_
    refine va_zald hx hb hK hP 1 2 rfl rfl (i := p0) (zz_inI 3 c_2 (by decide) (by decide)) dX12_again_19 ?_
    refine W.eq (g2 := F0 m 20 ls [.int 0]) rfl ?_
    refine lv_if_ne (tgt := 25) hx hb dX12_again_20 (by decide) (fun c_3 => absurd (by decide) c_3) (fun _ => ?_)
    refine lv_iconst (v := 0) hx hb dX12_again_23 (by decide) ?_
    have hP9 : va_P (dC, dI) vwCl [] H := hP.sub (ws' := []) [] rfl
    have hD9 : va_D A [] := hD.sub (ws' := []) [] (by decide) rfl
    refine W.widen (k := 0) (n := 0) (by decide +kernel) (by decide +kernel) ?_
    exact W.zret (v := 0) hx hb hr rfl (fun t ht hW => ⟨⟨0, (), rfl, rfl, by rw [ht]; exact hP9, hD9⟩, hS.F ht⟩) hS.2.2 dX12_again_24

def ws_m_four : List Cond := .code yX12_four cX12_four 3 none :: ([.fieldLink RX12 7 "HeightFineModel" "tape" "[B", .fieldLink RX12 13 "HeightFineModel" "size" "[I"] ++ u_ws RX12 TX12 45)
set_option maxRecDepth 20000 in
theorem in_m_four_12 : ∀ w ∈ u_ws RX12 TX12 45, w ∈ ws_m_four := by decide +kernel
set_option maxHeartbeats 4000000 in
set_option maxRecDepth 100000 in
theorem m_four (l : Launch) (dC : Nat → ClassId) (dI : Nat → Nat → Nat) (k : Nat → ClassId) (h : Nat) (v0 : Int32) (m1 : Nat) (m2 : Nat) (m3 : Nat) (m4 : Nat) (m5 : Nat) (m6 : Nat) (m7 : Nat) (m8 : Nat) (m9 : Nat) (v10 : Int32) (v11 : Int32) (v12 : Int32) (v13 : Int32) (v14 : Int32) (v15 : Int64) (v16 : Int32) (v17 : Int32) (v18 : Int32) (m19 : Nat) (m20 : Nat) (v21 : Int32) (v22 : Int32) (v23 : Int32) (v24 : Int32) (v25 : Int32) (v26 : Int32) (m27 : Nat) (v28 : Int32) (m29 : Nat) (m30 : Nat) (m31 : Nat) (m32 : Nat) (v33 : Int32) (m34 : Nat) (v35 : Int32) (m36 : Nat) (m37 : Nat) (m38 : Nat) (m39 : Nat) (m40 : Nat) (v41 : Int32) (m42 : Nat) (m43 : Nat) (m44 : Nat) (f1 : Nat → Int32) (f2 : Nat → Int32) (v : Int32) (x : Int32) (hx0 : f2 0 = x) (i0 : vp_in x 2400) (i1 : vp_in (x + 1) 2400) (i2 : vp_in ((x + 1) + 1) 2400) (i3 : vp_in (((x + 1) + 1) + 1) 2400) (sz : Nat) : Met l yX12_four ws_m_four ({ frames := 0, cells := 0, slots := 0, locals := 0 }) (va_Pc [.ref h, .int v] (prW dC dI k [(h, .inr (12, [.int v0, .ref m1, .ref m2, .ref m3, .ref m4, .ref m5, .ref m6, .ref m7, .ref m8, .ref m9, .int v10, .int v11, .int v12, .int v13, .int v14, .long v15, .int v16, .int v17, .int v18, .ref m19, .ref m20, .int v21, .int v22, .int v23, .int v24, .int v25, .int v26, .ref m27, .int v28, .ref m29, .ref m30, .ref m31, .ref m32, .int v33, .ref m34, .int v35, .ref m36, .ref m37, .ref m38, .ref m39, .ref m40, .int v41, .ref m42, .ref m43, .ref m44])), (m1, .inl (k 1, 2400, .inl f1)), (m2, .inl (k 0, 4, .inl f2))] sz)) (va_Qv (fun (u : (Nat → Int32) × (Nat → Int32)) => match u with | ⟨g, s2⟩ => s2 0 = ((((x + 1) + 1) + 1) + 1)) (fun (u : (Nat → Int32) × (Nat → Int32)) (t : State) => match u with | ⟨g, s2⟩ => po (dC, dI) (va_A [(h, .inr (12, [.int v0, .ref m1, .ref m2, .ref m3, .ref m4, .ref m5, .ref m6, .ref m7, .ref m8, .ref m9, .int v10, .int v11, .int v12, .int v13, .int v14, .long v15, .int v16, .int v17, .int v18, .ref m19, .ref m20, .int v21, .int v22, .int v23, .int v24, .int v25, .int v26, .ref m27, .int v28, .ref m29, .ref m30, .ref m31, .ref m32, .int v33, .ref m34, .int v35, .ref m36, .ref m37, .ref m38, .ref m39, .ref m40, .int v41, .ref m42, .ref m43, .ref m44])), (m1, .inl (k 1, 2400, .inl f1)), (m2, .inl (k 0, 4, .inl f2))] sz) [(h, .inr (12, [.int v0, .ref m1, .ref m2, .ref m3, .ref m4, .ref m5, .ref m6, .ref m7, .ref m8, .ref m9, .int v10, .int v11, .int v12, .int v13, .int v14, .long v15, .int v16, .int v17, .int v18, .ref m19, .ref m20, .int v21, .int v22, .int v23, .int v24, .int v25, .int v26, .ref m27, .int v28, .ref m29, .ref m30, .ref m31, .ref m32, .int v33, .ref m34, .int v35, .ref m36, .ref m37, .ref m38, .ref m39, .ref m40, .int v41, .ref m42, .ref m43, .ref m44])), (m1, .inl (k 1, 2400, .inl g)), (m2, .inl (k 0, 4, .inl s2))] t) (va_A [(h, .inr (12, [.int v0, .ref m1, .ref m2, .ref m3, .ref m4, .ref m5, .ref m6, .ref m7, .ref m8, .ref m9, .int v10, .int v11, .int v12, .int v13, .int v14, .long v15, .int v16, .int v17, .int v18, .ref m19, .ref m20, .int v21, .int v22, .int v23, .int v24, .int v25, .int v26, .ref m27, .int v28, .ref m29, .ref m30, .ref m31, .ref m32, .int v33, .ref m34, .int v35, .ref m36, .ref m37, .ref m38, .ref m39, .ref m40, .int v41, .ref m42, .ref m43, .ref m44])), (m1, .inl (k 1, 2400, .inl f1)), (m2, .inl (k 0, 4, .inl f2))] sz)) 0 0 (va_A [(h, .inr (12, [.int v0, .ref m1, .ref m2, .ref m3, .ref m4, .ref m5, .ref m6, .ref m7, .ref m8, .ref m9, .int v10, .int v11, .int v12, .int v13, .int v14, .long v15, .int v16, .int v17, .int v18, .ref m19, .ref m20, .int v21, .int v22, .int v23, .int v24, .int v25, .int v26, .ref m27, .int v28, .ref m29, .ref m30, .ref m31, .ref m32, .int v33, .ref m34, .int v35, .ref m36, .ref m37, .ref m38, .ref m39, .ref m40, .int v41, .ref m42, .ref m43, .ref m44])), (m1, .inl (k 1, 2400, .inl f1)), (m2, .inl (k 0, 4, .inl f2))] sz) := by
  refine Met.ofW (cc := cX12_four) (maxL := 3) (ret := none) (by decide) rfl ?_
  intro p e s m args below meth c s₁ B hml hv
  obtain ⟨rfl, hsz, hP, hK, hD0⟩ := hv
  have hx := B.exec
  have hb := B.bytes
  have hr := B.returns
  have hts := atoms_spec (ws := ws_m_four) B.pre
  have hown : s.vm.findClass RX12 = some m.cls := findClass_of_methodNamed B.named
  have hi12 := in_m_four_12
  subst hsz
  have hD := hD0.self (sz := s.heap.size)
  generalize hAe : va_A [(h, .inr (12, [.int v0, .ref m1, .ref m2, .ref m3, .ref m4, .ref m5, .ref m6, .ref m7, .ref m8, .ref m9, .int v10, .int v11, .int v12, .int v13, .int v14, .long v15, .int v16, .int v17, .int v18, .ref m19, .ref m20, .int v21, .int v22, .int v23, .int v24, .int v25, .int v26, .ref m27, .int v28, .ref m29, .ref m30, .ref m31, .ref m32, .int v33, .ref m34, .int v35, .ref m36, .ref m37, .ref m38, .ref m39, .ref m40, .int v41, .ref m42, .ref m43, .ref m44])), (m1, .inl (k 1, 2400, .inl f1)), (m2, .inl (k 0, 4, .inl f2))] s.heap.size = A at hD ⊢
  have hA : ∀ q : Nat, s.heap.size ≤ q → A q := fun q h => by rw [← hAe]; exact Or.inr h
  have hS : va_S A s.heap s.heap [] := va_S.rf
  have hP : va_P (dC, dI) vwCl [(h, .inr (12, [.int v0, .ref m1, .ref m2, .ref m3, .ref m4, .ref m5, .ref m6, .ref m7, .ref m8, .ref m9, .int v10, .int v11, .int v12, .int v13, .int v14, .long v15, .int v16, .int v17, .int v18, .ref m19, .ref m20, .int v21, .int v22, .int v23, .int v24, .int v25, .int v26, .ref m27, .int v28, .ref m29, .ref m30, .ref m31, .ref m32, .int v33, .ref m34, .int v35, .ref m36, .ref m37, .ref m38, .ref m39, .ref m40, .int v41, .ref m42, .ref m43, .ref m44])), (m1, .inl (k 1, 2400, .inl f1)), (m2, .inl (k 0, 4, .inl f2))] s.heap := hP
  have hl := lv_entry ([.ref h, .int v]) (n := 3) (Nat.le_of_ble_eq_true rfl)
  rw [lg_entry_eq]
  generalize (lg_sl ([.ref h, .int v]) ++ List.replicate (3 - (lg_sl ([.ref h, .int v])).length) Slot.unset).toArray = ls at hl ⊢
  have hl : lv_has ls 3 [(0, .ref h), (1, .int v)] := hl
  refine lv_bipush (v := 24) hx hb dX12_four_0 (by decide) ?_
  refine lv_istore_n (lv' := [(2, .int 24), (0, .ref h), (1, .int v)]) hx hb dX12_four_2 rfl hl (by decide) rfl (fun ls hl => ?_)
  refine lv_iload_n hx hb dX12_four_3 rfl (lv_at hl 0 rfl) ?_
  refine lv_if_lt (tgt := 38) hx hb dX12_four_4 (by decide) (fun c_1 => absurd c_1 (by decide)) (fun _ => ?_)
  refine lv_aload_n hx hb dX12_four_7 rfl (lv_at hl 1 rfl) ?_
  refine va_get (D := (dC, dI)) (ci := 12) (v := .ref m1) (C := RX12) (T := TX12) (N := 45) hx hb hts hi12 hown hK hP 0 rfl rfl 1 (by decide) (hts (.fieldLink RX12 7 "HeightFineModel" "tape" "[B") (by decide +kernel)) (fun _ h9 => h9) rfl dX12_four_8 ?_
  refine lv_aload_n hx hb dX12_four_11 rfl (lv_at hl 1 rfl) ?_
  refine va_get (D := (dC, dI)) (ci := 12) (v := .ref m2) (C := RX12) (T := TX12) (N := 45) hx hb hts hi12 hown hK hP 0 rfl rfl 2 (by decide) (hts (.fieldLink RX12 13 "HeightFineModel" "size" "[I") (by decide +kernel)) (fun _ h9 => h9) rfl dX12_four_12 ?_
  refine lv_iconst (v := 0) hx hb dX12_four_15 (by decide) ?_
  refine va_iald hx hb hK hP 2 0 rfl rfl (i := 0) (zz_in (by decide)) dX12_four_16 ?_
  refine W.eq (g2 := F0 m 17 ls [.int x, .ref m1]) (congrArg (fun z => F0 m 17 ls (.int z :: [.ref m1])) hx0) ?_
  refine lv_iload_n hx hb dX12_four_17 rfl (lv_at hl 2 rfl) ?_
  refine lv_iload_n hx hb dX12_four_18 rfl (lv_at hl 0 rfl) ?_
  refine lv_ishr hx hb dX12_four_19 ?_
  refine lv_topi (fun z_2 _ => ?_)
  refine lv_i2b (v := (z_2).toInt8.toInt32) hx hb dX12_four_20 rfl ?_
  refine lv_topi (fun z_3 _ => ?_)
  refine va_bast hx hb hK hP hD hS 1 1 rfl rfl (i := x) (x := z_3) i0 dX12_four_21 (fun H locs hP hD hS => ?_)
  obtain ⟨f_4, hP, hD⟩ := zz_anyc hP hD
  have hP : va_P (dC, dI) vwCl [(h, .inr (12, [.int v0, .ref m1, .ref m2, .ref m3, .ref m4, .ref m5, .ref m6, .ref m7, .ref m8, .ref m9, .int v10, .int v11, .int v12, .int v13, .int v14, .long v15, .int v16, .int v17, .int v18, .ref m19, .ref m20, .int v21, .int v22, .int v23, .int v24, .int v25, .int v26, .ref m27, .int v28, .ref m29, .ref m30, .ref m31, .ref m32, .int v33, .ref m34, .int v35, .ref m36, .ref m37, .ref m38, .ref m39, .ref m40, .int v41, .ref m42, .ref m43, .ref m44])), (m1, .inl (k 1, 2400, .inl f_4)), (m2, .inl (k 0, 4, .inl f2))] H := hP
  have hD : va_D A [(h, .inr (12, [.int v0, .ref m1, .ref m2, .ref m3, .ref m4, .ref m5, .ref m6, .ref m7, .ref m8, .ref m9, .int v10, .int v11, .int v12, .int v13, .int v14, .long v15, .int v16, .int v17, .int v18, .ref m19, .ref m20, .int v21, .int v22, .int v23, .int v24, .int v25, .int v26, .ref m27, .int v28, .ref m29, .ref m30, .ref m31, .ref m32, .int v33, .ref m34, .int v35, .ref m36, .ref m37, .ref m38, .ref m39, .ref m40, .int v41, .ref m42, .ref m43, .ref m44])), (m1, .inl (k 1, 2400, .inl f_4)), (m2, .inl (k 0, 4, .inl f2))] := hD
  refine lv_aload_n hx hb dX12_four_22 rfl (lv_at hl 1 rfl) ?_
  refine va_get (D := (dC, dI)) (ci := 12) (v := .ref m2) (C := RX12) (T := TX12) (N := 45) hx hb hts hi12 hown hK hP 0 rfl rfl 2 (by decide) (hts (.fieldLink RX12 13 "HeightFineModel" "size" "[I") (by decide +kernel)) (fun _ h9 => h9) rfl dX12_four_23 ?_
  refine lv_iconst (v := 0) hx hb dX12_four_26 (by decide) ?_
  refine lv_dup2_11 hx hb dX12_four_27 rfl rfl ?_
  refine va_iald hx hb hK hP 2 0 rfl rfl (i := 0) (zz_in (by decide)) dX12_four_28 ?_
  refine W.eq (g2 := F0 m 29 ls [.int x, .int 0, .ref m2]) (congrArg (fun z => F0 m 29 ls (.int z :: [.int 0, .ref m2])) hx0) ?_
  refine lv_iconst (v := 1) hx hb dX12_four_29 (by decide) ?_
  refine lv_iadd hx hb dX12_four_30 ?_
  refine va_iast hx hb hK hP hD hS 2 0 rfl rfl (i := 0) (x := x + 1) (zz_in (by decide)) dX12_four_31 (fun H locs hP hD hS => ?_)
  have hP : va_P (dC, dI) vwCl [(h, .inr (12, [.int v0, .ref m1, .ref m2, .ref m3, .ref m4, .ref m5, .ref m6, .ref m7, .ref m8, .ref m9, .int v10, .int v11, .int v12, .int v13, .int v14, .long v15, .int v16, .int v17, .int v18, .ref m19, .ref m20, .int v21, .int v22, .int v23, .int v24, .int v25, .int v26, .ref m27, .int v28, .ref m29, .ref m30, .ref m31, .ref m32, .int v33, .ref m34, .int v35, .ref m36, .ref m37, .ref m38, .ref m39, .ref m40, .int v41, .ref m42, .ref m43, .ref m44])), (m1, .inl (k 1, 2400, .inl f_4)), (m2, .inl (k 0, 4, .inl (upd f2 0 (x + 1))))] H := hP
  have hD : va_D A [(h, .inr (12, [.int v0, .ref m1, .ref m2, .ref m3, .ref m4, .ref m5, .ref m6, .ref m7, .ref m8, .ref m9, .int v10, .int v11, .int v12, .int v13, .int v14, .long v15, .int v16, .int v17, .int v18, .ref m19, .ref m20, .int v21, .int v22, .int v23, .int v24, .int v25, .int v26, .ref m27, .int v28, .ref m29, .ref m30, .ref m31, .ref m32, .int v33, .ref m34, .int v35, .ref m36, .ref m37, .ref m38, .ref m39, .ref m40, .int v41, .ref m42, .ref m43, .ref m44])), (m1, .inl (k 1, 2400, .inl f_4)), (m2, .inl (k 0, 4, .inl (upd f2 0 (x + 1))))] := hD
  refine lv_iinc (v := 16) (lv' := [(2, .int 16), (0, .ref h), (1, .int v)]) hx hb dX12_four_32 hl (k := 0) rfl (by decide) (by decide) rfl (fun ls hl => ?_)
  refine lv_goto (tgt := 3) hx hb dX12_four_35 (by decide) ?_
  refine lv_iload_n hx hb dX12_four_3 rfl (lv_at hl 0 rfl) ?_
  refine lv_if_lt (tgt := 38) hx hb dX12_four_4 (by decide) (fun c_5 => absurd c_5 (by decide)) (fun _ => ?_)
  refine lv_aload_n hx hb dX12_four_7 rfl (lv_at hl 1 rfl) ?_
  refine va_get (D := (dC, dI)) (ci := 12) (v := .ref m1) (C := RX12) (T := TX12) (N := 45) hx hb hts hi12 hown hK hP 0 rfl rfl 1 (by decide) (hts (.fieldLink RX12 7 "HeightFineModel" "tape" "[B") (by decide +kernel)) (fun _ h9 => h9) rfl dX12_four_8 ?_
  refine lv_aload_n hx hb dX12_four_11 rfl (lv_at hl 1 rfl) ?_
  refine va_get (D := (dC, dI)) (ci := 12) (v := .ref m2) (C := RX12) (T := TX12) (N := 45) hx hb hts hi12 hown hK hP 0 rfl rfl 2 (by decide) (hts (.fieldLink RX12 13 "HeightFineModel" "size" "[I") (by decide +kernel)) (fun _ h9 => h9) rfl dX12_four_12 ?_
  refine lv_iconst (v := 0) hx hb dX12_four_15 (by decide) ?_
  refine va_iald hx hb hK hP 2 0 rfl rfl (i := 0) (zz_in (by decide)) dX12_four_16 ?_
  refine W.eq (g2 := F0 m 17 ls [.int (x + 1), .ref m1]) rfl ?_
  refine lv_iload_n hx hb dX12_four_17 rfl (lv_at hl 2 rfl) ?_
  refine lv_iload_n hx hb dX12_four_18 rfl (lv_at hl 0 rfl) ?_
  refine lv_ishr hx hb dX12_four_19 ?_
  refine lv_topi (fun z_6 _ => ?_)
  refine lv_i2b (v := (z_6).toInt8.toInt32) hx hb dX12_four_20 rfl ?_
  refine lv_topi (fun z_7 _ => ?_)
  refine va_bast hx hb hK hP hD hS 1 1 rfl rfl (i := x + 1) (x := z_7) i1 dX12_four_21 (fun H locs hP hD hS => ?_)
  obtain ⟨f_8, hP, hD⟩ := zz_anyc hP hD
  have hP : va_P (dC, dI) vwCl [(h, .inr (12, [.int v0, .ref m1, .ref m2, .ref m3, .ref m4, .ref m5, .ref m6, .ref m7, .ref m8, .ref m9, .int v10, .int v11, .int v12, .int v13, .int v14, .long v15, .int v16, .int v17, .int v18, .ref m19, .ref m20, .int v21, .int v22, .int v23, .int v24, .int v25, .int v26, .ref m27, .int v28, .ref m29, .ref m30, .ref m31, .ref m32, .int v33, .ref m34, .int v35, .ref m36, .ref m37, .ref m38, .ref m39, .ref m40, .int v41, .ref m42, .ref m43, .ref m44])), (m1, .inl (k 1, 2400, .inl f_8)), (m2, .inl (k 0, 4, .inl (upd f2 0 (x + 1))))] H := hP
  have hD : va_D A [(h, .inr (12, [.int v0, .ref m1, .ref m2, .ref m3, .ref m4, .ref m5, .ref m6, .ref m7, .ref m8, .ref m9, .int v10, .int v11, .int v12, .int v13, .int v14, .long v15, .int v16, .int v17, .int v18, .ref m19, .ref m20, .int v21, .int v22, .int v23, .int v24, .int v25, .int v26, .ref m27, .int v28, .ref m29, .ref m30, .ref m31, .ref m32, .int v33, .ref m34, .int v35, .ref m36, .ref m37, .ref m38, .ref m39, .ref m40, .int v41, .ref m42, .ref m43, .ref m44])), (m1, .inl (k 1, 2400, .inl f_8)), (m2, .inl (k 0, 4, .inl (upd f2 0 (x + 1))))] := hD
  refine lv_aload_n hx hb dX12_four_22 rfl (lv_at hl 1 rfl) ?_
  refine va_get (D := (dC, dI)) (ci := 12) (v := .ref m2) (C := RX12) (T := TX12) (N := 45) hx hb hts hi12 hown hK hP 0 rfl rfl 2 (by decide) (hts (.fieldLink RX12 13 "HeightFineModel" "size" "[I") (by decide +kernel)) (fun _ h9 => h9) rfl dX12_four_23 ?_
  refine lv_iconst (v := 0) hx hb dX12_four_26 (by decide) ?_
  refine lv_dup2_11 hx hb dX12_four_27 rfl rfl ?_
  refine va_iald hx hb hK hP 2 0 rfl rfl (i := 0) (zz_in (by decide)) dX12_four_28 ?_
  refine W.eq (g2 := F0 m 29 ls [.int (x + 1), .int 0, .ref m2]) rfl ?_
  refine lv_iconst (v := 1) hx hb dX12_four_29 (by decide) ?_
  refine lv_iadd hx hb dX12_four_30 ?_
  refine va_iast hx hb hK hP hD hS 2 0 rfl rfl (i := 0) (x := (x + 1) + 1) (zz_in (by decide)) dX12_four_31 (fun H locs hP hD hS => ?_)
  have hP : va_P (dC, dI) vwCl [(h, .inr (12, [.int v0, .ref m1, .ref m2, .ref m3, .ref m4, .ref m5, .ref m6, .ref m7, .ref m8, .ref m9, .int v10, .int v11, .int v12, .int v13, .int v14, .long v15, .int v16, .int v17, .int v18, .ref m19, .ref m20, .int v21, .int v22, .int v23, .int v24, .int v25, .int v26, .ref m27, .int v28, .ref m29, .ref m30, .ref m31, .ref m32, .int v33, .ref m34, .int v35, .ref m36, .ref m37, .ref m38, .ref m39, .ref m40, .int v41, .ref m42, .ref m43, .ref m44])), (m1, .inl (k 1, 2400, .inl f_8)), (m2, .inl (k 0, 4, .inl (upd (upd f2 0 (x + 1)) 0 ((x + 1) + 1))))] H := hP
  have hD : va_D A [(h, .inr (12, [.int v0, .ref m1, .ref m2, .ref m3, .ref m4, .ref m5, .ref m6, .ref m7, .ref m8, .ref m9, .int v10, .int v11, .int v12, .int v13, .int v14, .long v15, .int v16, .int v17, .int v18, .ref m19, .ref m20, .int v21, .int v22, .int v23, .int v24, .int v25, .int v26, .ref m27, .int v28, .ref m29, .ref m30, .ref m31, .ref m32, .int v33, .ref m34, .int v35, .ref m36, .ref m37, .ref m38, .ref m39, .ref m40, .int v41, .ref m42, .ref m43, .ref m44])), (m1, .inl (k 1, 2400, .inl f_8)), (m2, .inl (k 0, 4, .inl (upd (upd f2 0 (x + 1)) 0 ((x + 1) + 1))))] := hD
  refine lv_iinc (v := 8) (lv' := [(2, .int 8), (0, .ref h), (1, .int v)]) hx hb dX12_four_32 hl (k := 0) rfl (by decide) (by decide) rfl (fun ls hl => ?_)
  refine lv_goto (tgt := 3) hx hb dX12_four_35 (by decide) ?_
  refine lv_iload_n hx hb dX12_four_3 rfl (lv_at hl 0 rfl) ?_
  refine lv_if_lt (tgt := 38) hx hb dX12_four_4 (by decide) (fun c_9 => absurd c_9 (by decide)) (fun _ => ?_)
  refine lv_aload_n hx hb dX12_four_7 rfl (lv_at hl 1 rfl) ?_
  refine va_get (D := (dC, dI)) (ci := 12) (v := .ref m1) (C := RX12) (T := TX12) (N := 45) hx hb hts hi12 hown hK hP 0 rfl rfl 1 (by decide) (hts (.fieldLink RX12 7 "HeightFineModel" "tape" "[B") (by decide +kernel)) (fun _ h9 => h9) rfl dX12_four_8 ?_
  refine lv_aload_n hx hb dX12_four_11 rfl (lv_at hl 1 rfl) ?_
  refine va_get (D := (dC, dI)) (ci := 12) (v := .ref m2) (C := RX12) (T := TX12) (N := 45) hx hb hts hi12 hown hK hP 0 rfl rfl 2 (by decide) (hts (.fieldLink RX12 13 "HeightFineModel" "size" "[I") (by decide +kernel)) (fun _ h9 => h9) rfl dX12_four_12 ?_
  refine lv_iconst (v := 0) hx hb dX12_four_15 (by decide) ?_
  refine va_iald hx hb hK hP 2 0 rfl rfl (i := 0) (zz_in (by decide)) dX12_four_16 ?_
  refine W.eq (g2 := F0 m 17 ls [.int ((x + 1) + 1), .ref m1]) rfl ?_
  refine lv_iload_n hx hb dX12_four_17 rfl (lv_at hl 2 rfl) ?_
  refine lv_iload_n hx hb dX12_four_18 rfl (lv_at hl 0 rfl) ?_
  refine lv_ishr hx hb dX12_four_19 ?_
  refine lv_topi (fun z_10 _ => ?_)
  refine lv_i2b (v := (z_10).toInt8.toInt32) hx hb dX12_four_20 rfl ?_
  refine lv_topi (fun z_11 _ => ?_)
  refine va_bast hx hb hK hP hD hS 1 1 rfl rfl (i := (x + 1) + 1) (x := z_11) i2 dX12_four_21 (fun H locs hP hD hS => ?_)
  obtain ⟨f_12, hP, hD⟩ := zz_anyc hP hD
  have hP : va_P (dC, dI) vwCl [(h, .inr (12, [.int v0, .ref m1, .ref m2, .ref m3, .ref m4, .ref m5, .ref m6, .ref m7, .ref m8, .ref m9, .int v10, .int v11, .int v12, .int v13, .int v14, .long v15, .int v16, .int v17, .int v18, .ref m19, .ref m20, .int v21, .int v22, .int v23, .int v24, .int v25, .int v26, .ref m27, .int v28, .ref m29, .ref m30, .ref m31, .ref m32, .int v33, .ref m34, .int v35, .ref m36, .ref m37, .ref m38, .ref m39, .ref m40, .int v41, .ref m42, .ref m43, .ref m44])), (m1, .inl (k 1, 2400, .inl f_12)), (m2, .inl (k 0, 4, .inl (upd (upd f2 0 (x + 1)) 0 ((x + 1) + 1))))] H := hP
  have hD : va_D A [(h, .inr (12, [.int v0, .ref m1, .ref m2, .ref m3, .ref m4, .ref m5, .ref m6, .ref m7, .ref m8, .ref m9, .int v10, .int v11, .int v12, .int v13, .int v14, .long v15, .int v16, .int v17, .int v18, .ref m19, .ref m20, .int v21, .int v22, .int v23, .int v24, .int v25, .int v26, .ref m27, .int v28, .ref m29, .ref m30, .ref m31, .ref m32, .int v33, .ref m34, .int v35, .ref m36, .ref m37, .ref m38, .ref m39, .ref m40, .int v41, .ref m42, .ref m43, .ref m44])), (m1, .inl (k 1, 2400, .inl f_12)), (m2, .inl (k 0, 4, .inl (upd (upd f2 0 (x + 1)) 0 ((x + 1) + 1))))] := hD
  refine lv_aload_n hx hb dX12_four_22 rfl (lv_at hl 1 rfl) ?_
  refine va_get (D := (dC, dI)) (ci := 12) (v := .ref m2) (C := RX12) (T := TX12) (N := 45) hx hb hts hi12 hown hK hP 0 rfl rfl 2 (by decide) (hts (.fieldLink RX12 13 "HeightFineModel" "size" "[I") (by decide +kernel)) (fun _ h9 => h9) rfl dX12_four_23 ?_
  refine lv_iconst (v := 0) hx hb dX12_four_26 (by decide) ?_
  refine lv_dup2_11 hx hb dX12_four_27 rfl rfl ?_
  refine va_iald hx hb hK hP 2 0 rfl rfl (i := 0) (zz_in (by decide)) dX12_four_28 ?_
  refine W.eq (g2 := F0 m 29 ls [.int ((x + 1) + 1), .int 0, .ref m2]) rfl ?_
  refine lv_iconst (v := 1) hx hb dX12_four_29 (by decide) ?_
  refine lv_iadd hx hb dX12_four_30 ?_
  refine va_iast hx hb hK hP hD hS 2 0 rfl rfl (i := 0) (x := ((x + 1) + 1) + 1) (zz_in (by decide)) dX12_four_31 (fun H locs hP hD hS => ?_)
  have hP : va_P (dC, dI) vwCl [(h, .inr (12, [.int v0, .ref m1, .ref m2, .ref m3, .ref m4, .ref m5, .ref m6, .ref m7, .ref m8, .ref m9, .int v10, .int v11, .int v12, .int v13, .int v14, .long v15, .int v16, .int v17, .int v18, .ref m19, .ref m20, .int v21, .int v22, .int v23, .int v24, .int v25, .int v26, .ref m27, .int v28, .ref m29, .ref m30, .ref m31, .ref m32, .int v33, .ref m34, .int v35, .ref m36, .ref m37, .ref m38, .ref m39, .ref m40, .int v41, .ref m42, .ref m43, .ref m44])), (m1, .inl (k 1, 2400, .inl f_12)), (m2, .inl (k 0, 4, .inl (upd (upd (upd f2 0 (x + 1)) 0 ((x + 1) + 1)) 0 (((x + 1) + 1) + 1))))] H := hP
  have hD : va_D A [(h, .inr (12, [.int v0, .ref m1, .ref m2, .ref m3, .ref m4, .ref m5, .ref m6, .ref m7, .ref m8, .ref m9, .int v10, .int v11, .int v12, .int v13, .int v14, .long v15, .int v16, .int v17, .int v18, .ref m19, .ref m20, .int v21, .int v22, .int v23, .int v24, .int v25, .int v26, .ref m27, .int v28, .ref m29, .ref m30, .ref m31, .ref m32, .int v33, .ref m34, .int v35, .ref m36, .ref m37, .ref m38, .ref m39, .ref m40, .int v41, .ref m42, .ref m43, .ref m44])), (m1, .inl (k 1, 2400, .inl f_12)), (m2, .inl (k 0, 4, .inl (upd (upd (upd f2 0 (x + 1)) 0 ((x + 1) + 1)) 0 (((x + 1) + 1) + 1))))] := hD
  refine lv_iinc (v := 0) (lv' := [(2, .int 0), (0, .ref h), (1, .int v)]) hx hb dX12_four_32 hl (k := 0) rfl (by decide) (by decide) rfl (fun ls hl => ?_)
  refine lv_goto (tgt := 3) hx hb dX12_four_35 (by decide) ?_
  refine lv_iload_n hx hb dX12_four_3 rfl (lv_at hl 0 rfl) ?_
  refine lv_if_lt (tgt := 38) hx hb dX12_four_4 (by decide) (fun c_13 => absurd c_13 (by decide)) (fun _ => ?_)
  refine lv_aload_n hx hb dX12_four_7 rfl (lv_at hl 1 rfl) ?_
  refine va_get (D := (dC, dI)) (ci := 12) (v := .ref m1) (C := RX12) (T := TX12) (N := 45) hx hb hts hi12 hown hK hP 0 rfl rfl 1 (by decide) (hts (.fieldLink RX12 7 "HeightFineModel" "tape" "[B") (by decide +kernel)) (fun _ h9 => h9) rfl dX12_four_8 ?_
  refine lv_aload_n hx hb dX12_four_11 rfl (lv_at hl 1 rfl) ?_
  refine va_get (D := (dC, dI)) (ci := 12) (v := .ref m2) (C := RX12) (T := TX12) (N := 45) hx hb hts hi12 hown hK hP 0 rfl rfl 2 (by decide) (hts (.fieldLink RX12 13 "HeightFineModel" "size" "[I") (by decide +kernel)) (fun _ h9 => h9) rfl dX12_four_12 ?_
  refine lv_iconst (v := 0) hx hb dX12_four_15 (by decide) ?_
  refine va_iald hx hb hK hP 2 0 rfl rfl (i := 0) (zz_in (by decide)) dX12_four_16 ?_
  refine W.eq (g2 := F0 m 17 ls [.int (((x + 1) + 1) + 1), .ref m1]) rfl ?_
  refine lv_iload_n hx hb dX12_four_17 rfl (lv_at hl 2 rfl) ?_
  refine lv_iload_n hx hb dX12_four_18 rfl (lv_at hl 0 rfl) ?_
  refine lv_ishr hx hb dX12_four_19 ?_
  refine lv_topi (fun z_14 _ => ?_)
  refine lv_i2b (v := (z_14).toInt8.toInt32) hx hb dX12_four_20 rfl ?_
  refine lv_topi (fun z_15 _ => ?_)
  refine va_bast hx hb hK hP hD hS 1 1 rfl rfl (i := ((x + 1) + 1) + 1) (x := z_15) i3 dX12_four_21 (fun H locs hP hD hS => ?_)
  obtain ⟨f_16, hP, hD⟩ := zz_anyc hP hD
  have hP : va_P (dC, dI) vwCl [(h, .inr (12, [.int v0, .ref m1, .ref m2, .ref m3, .ref m4, .ref m5, .ref m6, .ref m7, .ref m8, .ref m9, .int v10, .int v11, .int v12, .int v13, .int v14, .long v15, .int v16, .int v17, .int v18, .ref m19, .ref m20, .int v21, .int v22, .int v23, .int v24, .int v25, .int v26, .ref m27, .int v28, .ref m29, .ref m30, .ref m31, .ref m32, .int v33, .ref m34, .int v35, .ref m36, .ref m37, .ref m38, .ref m39, .ref m40, .int v41, .ref m42, .ref m43, .ref m44])), (m1, .inl (k 1, 2400, .inl f_16)), (m2, .inl (k 0, 4, .inl (upd (upd (upd f2 0 (x + 1)) 0 ((x + 1) + 1)) 0 (((x + 1) + 1) + 1))))] H := hP
  have hD : va_D A [(h, .inr (12, [.int v0, .ref m1, .ref m2, .ref m3, .ref m4, .ref m5, .ref m6, .ref m7, .ref m8, .ref m9, .int v10, .int v11, .int v12, .int v13, .int v14, .long v15, .int v16, .int v17, .int v18, .ref m19, .ref m20, .int v21, .int v22, .int v23, .int v24, .int v25, .int v26, .ref m27, .int v28, .ref m29, .ref m30, .ref m31, .ref m32, .int v33, .ref m34, .int v35, .ref m36, .ref m37, .ref m38, .ref m39, .ref m40, .int v41, .ref m42, .ref m43, .ref m44])), (m1, .inl (k 1, 2400, .inl f_16)), (m2, .inl (k 0, 4, .inl (upd (upd (upd f2 0 (x + 1)) 0 ((x + 1) + 1)) 0 (((x + 1) + 1) + 1))))] := hD
  refine lv_aload_n hx hb dX12_four_22 rfl (lv_at hl 1 rfl) ?_
  refine va_get (D := (dC, dI)) (ci := 12) (v := .ref m2) (C := RX12) (T := TX12) (N := 45) hx hb hts hi12 hown hK hP 0 rfl rfl 2 (by decide) (hts (.fieldLink RX12 13 "HeightFineModel" "size" "[I") (by decide +kernel)) (fun _ h9 => h9) rfl dX12_four_23 ?_
  refine lv_iconst (v := 0) hx hb dX12_four_26 (by decide) ?_
  refine lv_dup2_11 hx hb dX12_four_27 rfl rfl ?_
  refine va_iald hx hb hK hP 2 0 rfl rfl (i := 0) (zz_in (by decide)) dX12_four_28 ?_
  refine W.eq (g2 := F0 m 29 ls [.int (((x + 1) + 1) + 1), .int 0, .ref m2]) rfl ?_
  refine lv_iconst (v := 1) hx hb dX12_four_29 (by decide) ?_
  refine lv_iadd hx hb dX12_four_30 ?_
  refine va_iast hx hb hK hP hD hS 2 0 rfl rfl (i := 0) (x := (((x + 1) + 1) + 1) + 1) (zz_in (by decide)) dX12_four_31 (fun H locs hP hD hS => ?_)
  have hP : va_P (dC, dI) vwCl [(h, .inr (12, [.int v0, .ref m1, .ref m2, .ref m3, .ref m4, .ref m5, .ref m6, .ref m7, .ref m8, .ref m9, .int v10, .int v11, .int v12, .int v13, .int v14, .long v15, .int v16, .int v17, .int v18, .ref m19, .ref m20, .int v21, .int v22, .int v23, .int v24, .int v25, .int v26, .ref m27, .int v28, .ref m29, .ref m30, .ref m31, .ref m32, .int v33, .ref m34, .int v35, .ref m36, .ref m37, .ref m38, .ref m39, .ref m40, .int v41, .ref m42, .ref m43, .ref m44])), (m1, .inl (k 1, 2400, .inl f_16)), (m2, .inl (k 0, 4, .inl (upd (upd (upd (upd f2 0 (x + 1)) 0 ((x + 1) + 1)) 0 (((x + 1) + 1) + 1)) 0 ((((x + 1) + 1) + 1) + 1))))] H := hP
  have hD : va_D A [(h, .inr (12, [.int v0, .ref m1, .ref m2, .ref m3, .ref m4, .ref m5, .ref m6, .ref m7, .ref m8, .ref m9, .int v10, .int v11, .int v12, .int v13, .int v14, .long v15, .int v16, .int v17, .int v18, .ref m19, .ref m20, .int v21, .int v22, .int v23, .int v24, .int v25, .int v26, .ref m27, .int v28, .ref m29, .ref m30, .ref m31, .ref m32, .int v33, .ref m34, .int v35, .ref m36, .ref m37, .ref m38, .ref m39, .ref m40, .int v41, .ref m42, .ref m43, .ref m44])), (m1, .inl (k 1, 2400, .inl f_16)), (m2, .inl (k 0, 4, .inl (upd (upd (upd (upd f2 0 (x + 1)) 0 ((x + 1) + 1)) 0 (((x + 1) + 1) + 1)) 0 ((((x + 1) + 1) + 1) + 1))))] := hD
  refine lv_iinc (v := (-8)) (lv' := [(2, .int (-8)), (0, .ref h), (1, .int v)]) hx hb dX12_four_32 hl (k := 0) rfl (by decide) (by decide) rfl (fun ls hl => ?_)
  refine lv_goto (tgt := 3) hx hb dX12_four_35 (by decide) ?_
  refine lv_iload_n hx hb dX12_four_3 rfl (lv_at hl 0 rfl) ?_
  refine lv_if_lt (tgt := 38) hx hb dX12_four_4 (by decide) (fun _ => ?_) (fun c_17 => absurd (by decide) c_17)
  have hP9 : va_P (dC, dI) vwCl [(h, .inr (12, [.int v0, .ref m1, .ref m2, .ref m3, .ref m4, .ref m5, .ref m6, .ref m7, .ref m8, .ref m9, .int v10, .int v11, .int v12, .int v13, .int v14, .long v15, .int v16, .int v17, .int v18, .ref m19, .ref m20, .int v21, .int v22, .int v23, .int v24, .int v25, .int v26, .ref m27, .int v28, .ref m29, .ref m30, .ref m31, .ref m32, .int v33, .ref m34, .int v35, .ref m36, .ref m37, .ref m38, .ref m39, .ref m40, .int v41, .ref m42, .ref m43, .ref m44])), (m1, .inl (k 1, 2400, .inl f_16)), (m2, .inl (k 0, 4, .inl (upd (upd (upd (upd f2 0 (x + 1)) 0 ((x + 1) + 1)) 0 (((x + 1) + 1) + 1)) 0 ((((x + 1) + 1) + 1) + 1))))] H := hP.sub (ws' := [(h, .inr (12, [.int v0, .ref m1, .ref m2, .ref m3, .ref m4, .ref m5, .ref m6, .ref m7, .ref m8, .ref m9, .int v10, .int v11, .int v12, .int v13, .int v14, .long v15, .int v16, .int v17, .int v18, .ref m19, .ref m20, .int v21, .int v22, .int v23, .int v24, .int v25, .int v26, .ref m27, .int v28, .ref m29, .ref m30, .ref m31, .ref m32, .int v33, .ref m34, .int v35, .ref m36, .ref m37, .ref m38, .ref m39, .ref m40, .int v41, .ref m42, .ref m43, .ref m44])), (m1, .inl (k 1, 2400, .inl f_16)), (m2, .inl (k 0, 4, .inl (upd (upd (upd (upd f2 0 (x + 1)) 0 ((x + 1) + 1)) 0 (((x + 1) + 1) + 1)) 0 ((((x + 1) + 1) + 1) + 1))))]) [0, 1, 2] rfl
  have hD9 : va_D A [(h, .inr (12, [.int v0, .ref m1, .ref m2, .ref m3, .ref m4, .ref m5, .ref m6, .ref m7, .ref m8, .ref m9, .int v10, .int v11, .int v12, .int v13, .int v14, .long v15, .int v16, .int v17, .int v18, .ref m19, .ref m20, .int v21, .int v22, .int v23, .int v24, .int v25, .int v26, .ref m27, .int v28, .ref m29, .ref m30, .ref m31, .ref m32, .int v33, .ref m34, .int v35, .ref m36, .ref m37, .ref m38, .ref m39, .ref m40, .int v41, .ref m42, .ref m43, .ref m44])), (m1, .inl (k 1, 2400, .inl f_16)), (m2, .inl (k 0, 4, .inl (upd (upd (upd (upd f2 0 (x + 1)) 0 ((x + 1) + 1)) 0 (((x + 1) + 1) + 1)) 0 ((((x + 1) + 1) + 1) + 1))))] := hD.sub (ws' := [(h, .inr (12, [.int v0, .ref m1, .ref m2, .ref m3, .ref m4, .ref m5, .ref m6, .ref m7, .ref m8, .ref m9, .int v10, .int v11, .int v12, .int v13, .int v14, .long v15, .int v16, .int v17, .int v18, .ref m19, .ref m20, .int v21, .int v22, .int v23, .int v24, .int v25, .int v26, .ref m27, .int v28, .ref m29, .ref m30, .ref m31, .ref m32, .int v33, .ref m34, .int v35, .ref m36, .ref m37, .ref m38, .ref m39, .ref m40, .int v41, .ref m42, .ref m43, .ref m44])), (m1, .inl (k 1, 2400, .inl f_16)), (m2, .inl (k 0, 4, .inl (upd (upd (upd (upd f2 0 (x + 1)) 0 ((x + 1) + 1)) 0 (((x + 1) + 1) + 1)) 0 ((((x + 1) + 1) + 1) + 1))))]) [0, 1, 2] (by decide) rfl
  refine W.widen (k := 0) (n := 0) (by decide +kernel) (by decide +kernel) ?_
  exact W.vret hx hb hr (fun t ht hW => ⟨⟨(f_16, (upd (upd (upd (upd f2 0 (x + 1)) 0 ((x + 1) + 1)) 0 (((x + 1) + 1) + 1)) 0 ((((x + 1) + 1) + 1) + 1))), rfl, rfl, by rw [ht]; exact hP9, hD9⟩, hS.F ht⟩) hS.2.2 dX12_four_38

def ws_m_feed : List Cond := .code yX12_feed cX12_feed 6 (some .int) :: ([.fieldLink RX12 88 "HeightFineModel" "code" "I", .fieldLink RX12 13 "HeightFineModel" "size" "[I", .methodLink RX12 104 yX12_four, .instanceMethod yX12_four, .selects RX12 yX12_four yX12_four, .initialized RX12, .code yX12_four cX12_four 3 none, .fieldLink RX12 7 "HeightFineModel" "tape" "[B"] ++ u_ws RX12 TX12 45)
set_option maxRecDepth 20000 in
theorem in_m_feed_12 : ∀ w ∈ u_ws RX12 TX12 45, w ∈ ws_m_feed := by decide +kernel
set_option maxRecDepth 20000 in
theorem gm_feed_m_four : GoodIn ws_m_feed (wsV RX12 104 RX12 yX12_four ws_m_four) := goodIn_app (goodIn_of _ (by decide +kernel)) (goodIn_r _ [7, 8, 2, 9, 10, 11, 12, 13, 14, 15, 16, 17, 18, 19, 20, 21, 22, 23, 24, 25, 26, 27, 28, 29, 30, 31, 32, 33, 34, 35, 36, 37, 38, 39, 40, 41, 42, 43, 44, 45, 46, 47, 48, 49, 50, 51, 52, 53] (by decide +kernel) (by decide +kernel))
set_option maxHeartbeats 4000000 in
set_option maxRecDepth 100000 in
theorem m_feed (l : Launch) (dC : Nat → ClassId) (dI : Nat → Nat → Nat) (k : Nat → ClassId) (h : Nat) (v0 : Int32) (m1 : Nat) (m2 : Nat) (m3 : Nat) (m4 : Nat) (m5 : Nat) (m6 : Nat) (m7 : Nat) (m8 : Nat) (m9 : Nat) (v10 : Int32) (v11 : Int32) (v12 : Int32) (v13 : Int32) (v14 : Int32) (v15 : Int64) (v16 : Int32) (v17 : Int32) (v18 : Int32) (m19 : Nat) (m20 : Nat) (v21 : Int32) (v22 : Int32) (v23 : Int32) (v24 : Int32) (v25 : Int32) (v26 : Int32) (m27 : Nat) (v28 : Int32) (m29 : Nat) (m30 : Nat) (m31 : Nat) (m32 : Nat) (v33 : Int32) (m34 : Nat) (v35 : Int32) (m36 : Nat) (m37 : Nat) (m38 : Nat) (m39 : Nat) (m40 : Nat) (v41 : Int32) (m42 : Nat) (m43 : Nat) (m44 : Nat) (p0 : Int32) (p1 : Int32) (p2 : Int32) (p3 : Int32) (p4 : Int32) (f1 : Nat → Int32) (sz : Nat) : Met l yX12_feed ws_m_feed ({ frames := 1, cells := 0, slots := 0, locals := 22 }) (va_Pc [.ref h, .int p0, .int p1, .int p2, .int p3, .int p4] (prW dC dI k [(h, .inr (12, [.int v0, .ref m1, .ref m2, .ref m3, .ref m4, .ref m5, .ref m6, .ref m7, .ref m8, .ref m9, .int v10, .int v11, .int v12, .int v13, .int v14, .long v15, .int v16, .int v17, .int v18, .ref m19, .ref m20, .int v21, .int v22, .int v23, .int v24, .int v25, .int v26, .ref m27, .int v28, .ref m29, .ref m30, .ref m31, .ref m32, .int v33, .ref m34, .int v35, .ref m36, .ref m37, .ref m38, .ref m39, .ref m40, .int v41, .ref m42, .ref m43, .ref m44])), (m1, .inl (k 1, 2400, .inl f1)), (m2, .inl (k 0, 4, .inl (fun _ => 0)))] sz)) (va_Qi (fun (r : Int32) (_ : Unit) => r = 20) (fun (u : Unit) (t : State) => po (dC, dI) (va_A [(h, .inr (12, [.int v0, .ref m1, .ref m2, .ref m3, .ref m4, .ref m5, .ref m6, .ref m7, .ref m8, .ref m9, .int v10, .int v11, .int v12, .int v13, .int v14, .long v15, .int v16, .int v17, .int v18, .ref m19, .ref m20, .int v21, .int v22, .int v23, .int v24, .int v25, .int v26, .ref m27, .int v28, .ref m29, .ref m30, .ref m31, .ref m32, .int v33, .ref m34, .int v35, .ref m36, .ref m37, .ref m38, .ref m39, .ref m40, .int v41, .ref m42, .ref m43, .ref m44])), (m1, .inl (k 1, 2400, .inl f1)), (m2, .inl (k 0, 4, .inl (fun _ => 0)))] sz) [] t) (va_A [(h, .inr (12, [.int v0, .ref m1, .ref m2, .ref m3, .ref m4, .ref m5, .ref m6, .ref m7, .ref m8, .ref m9, .int v10, .int v11, .int v12, .int v13, .int v14, .long v15, .int v16, .int v17, .int v18, .ref m19, .ref m20, .int v21, .int v22, .int v23, .int v24, .int v25, .int v26, .ref m27, .int v28, .ref m29, .ref m30, .ref m31, .ref m32, .int v33, .ref m34, .int v35, .ref m36, .ref m37, .ref m38, .ref m39, .ref m40, .int v41, .ref m42, .ref m43, .ref m44])), (m1, .inl (k 1, 2400, .inl f1)), (m2, .inl (k 0, 4, .inl (fun _ => 0)))] sz)) 0 0 (va_A [(h, .inr (12, [.int v0, .ref m1, .ref m2, .ref m3, .ref m4, .ref m5, .ref m6, .ref m7, .ref m8, .ref m9, .int v10, .int v11, .int v12, .int v13, .int v14, .long v15, .int v16, .int v17, .int v18, .ref m19, .ref m20, .int v21, .int v22, .int v23, .int v24, .int v25, .int v26, .ref m27, .int v28, .ref m29, .ref m30, .ref m31, .ref m32, .int v33, .ref m34, .int v35, .ref m36, .ref m37, .ref m38, .ref m39, .ref m40, .int v41, .ref m42, .ref m43, .ref m44])), (m1, .inl (k 1, 2400, .inl f1)), (m2, .inl (k 0, 4, .inl (fun _ => 0)))] sz) := by
  refine Met.ofW (cc := cX12_feed) (maxL := 6) (ret := (some .int)) (by decide) rfl ?_
  intro p e s m args below meth c s₁ B hml hv
  obtain ⟨rfl, hsz, hP, hK, hD0⟩ := hv
  have hx := B.exec
  have hb := B.bytes
  have hr := B.returns
  have hts := atoms_spec (ws := ws_m_feed) B.pre
  have hown : s.vm.findClass RX12 = some m.cls := findClass_of_methodNamed B.named
  have hi12 := in_m_feed_12
  subst hsz
  have hD := hD0.self (sz := s.heap.size)
  generalize hAe : va_A [(h, .inr (12, [.int v0, .ref m1, .ref m2, .ref m3, .ref m4, .ref m5, .ref m6, .ref m7, .ref m8, .ref m9, .int v10, .int v11, .int v12, .int v13, .int v14, .long v15, .int v16, .int v17, .int v18, .ref m19, .ref m20, .int v21, .int v22, .int v23, .int v24, .int v25, .int v26, .ref m27, .int v28, .ref m29, .ref m30, .ref m31, .ref m32, .int v33, .ref m34, .int v35, .ref m36, .ref m37, .ref m38, .ref m39, .ref m40, .int v41, .ref m42, .ref m43, .ref m44])), (m1, .inl (k 1, 2400, .inl f1)), (m2, .inl (k 0, 4, .inl (fun _ => 0)))] s.heap.size = A at hD ⊢
  have hA : ∀ q : Nat, s.heap.size ≤ q → A q := fun q h => by rw [← hAe]; exact Or.inr h
  have hS : va_S A s.heap s.heap [] := va_S.rf
  have hP : va_P (dC, dI) vwCl [(h, .inr (12, [.int v0, .ref m1, .ref m2, .ref m3, .ref m4, .ref m5, .ref m6, .ref m7, .ref m8, .ref m9, .int v10, .int v11, .int v12, .int v13, .int v14, .long v15, .int v16, .int v17, .int v18, .ref m19, .ref m20, .int v21, .int v22, .int v23, .int v24, .int v25, .int v26, .ref m27, .int v28, .ref m29, .ref m30, .ref m31, .ref m32, .int v33, .ref m34, .int v35, .ref m36, .ref m37, .ref m38, .ref m39, .ref m40, .int v41, .ref m42, .ref m43, .ref m44])), (m1, .inl (k 1, 2400, .inl f1)), (m2, .inl (k 0, 4, .inl (fun _ => 0)))] s.heap := hP
  have hl := lv_entry ([.ref h, .int p0, .int p1, .int p2, .int p3, .int p4]) (n := 6) (Nat.le_of_ble_eq_true rfl)
  rw [lg_entry_eq]
  generalize (lg_sl ([.ref h, .int p0, .int p1, .int p2, .int p3, .int p4]) ++ List.replicate (6 - (lg_sl ([.ref h, .int p0, .int p1, .int p2, .int p3, .int p4])).length) Slot.unset).toArray = ls at hl ⊢
  have hl : lv_has ls 6 [(0, .ref h), (1, .int p0), (2, .int p1), (3, .int p2), (4, .int p3), (5, .int p4)] := hl
  refine lv_aload_n hx hb dX12_feed_0 rfl (lv_at hl 0 rfl) ?_
  refine lv_iconst (v := 0) hx hb dX12_feed_1 (by decide) ?_
  refine va_put (D := (dC, dI)) (ci := 12) (v := .int 0) (ty := .int) (C := RX12) (T := TX12) (N := 45) hx hb hts hi12 tyX12 tyX12_ok nmX12 hown hK hP hD hS 0 rfl rfl 0 (by decide) (hts (.fieldLink RX12 88 "HeightFineModel" "code" "I") (by decide +kernel)) (fun _ h9 => h9) rfl (by decide +kernel) rfl rfl (Nat.le_of_ble_eq_true rfl) dX12_feed_2 (fun H locs hP hD hS => ?_)
  have hP : va_P (dC, dI) vwCl [(h, .inr (12, [.int 0, .ref m1, .ref m2, .ref m3, .ref m4, .ref m5, .ref m6, .ref m7, .ref m8, .ref m9, .int v10, .int v11, .int v12, .int v13, .int v14, .long v15, .int v16, .int v17, .int v18, .ref m19, .ref m20, .int v21, .int v22, .int v23, .int v24, .int v25, .int v26, .ref m27, .int v28, .ref m29, .ref m30, .ref m31, .ref m32, .int v33, .ref m34, .int v35, .ref m36, .ref m37, .ref m38, .ref m39, .ref m40, .int v41, .ref m42, .ref m43, .ref m44])), (m1, .inl (k 1, 2400, .inl f1)), (m2, .inl (k 0, 4, .inl (fun _ => 0)))] H := hP
  have hD : va_D A [(h, .inr (12, [.int 0, .ref m1, .ref m2, .ref m3, .ref m4, .ref m5, .ref m6, .ref m7, .ref m8, .ref m9, .int v10, .int v11, .int v12, .int v13, .int v14, .long v15, .int v16, .int v17, .int v18, .ref m19, .ref m20, .int v21, .int v22, .int v23, .int v24, .int v25, .int v26, .ref m27, .int v28, .ref m29, .ref m30, .ref m31, .ref m32, .int v33, .ref m34, .int v35, .ref m36, .ref m37, .ref m38, .ref m39, .ref m40, .int v41, .ref m42, .ref m43, .ref m44])), (m1, .inl (k 1, 2400, .inl f1)), (m2, .inl (k 0, 4, .inl (fun _ => 0)))] := hD
  refine lv_aload_n hx hb dX12_feed_5 rfl (lv_at hl 0 rfl) ?_
  refine va_get (D := (dC, dI)) (ci := 12) (v := .ref m2) (C := RX12) (T := TX12) (N := 45) hx hb hts hi12 hown hK hP 0 rfl rfl 2 (by decide) (hts (.fieldLink RX12 13 "HeightFineModel" "size" "[I") (by decide +kernel)) (fun _ h9 => h9) rfl dX12_feed_6 ?_
  refine lv_iconst (v := 0) hx hb dX12_feed_9 (by decide) ?_
  refine va_iald hx hb hK hP 2 0 rfl rfl (i := 0) (zz_in (by decide)) dX12_feed_10 ?_
  refine W.eq (g2 := F0 m 11 ls [.int 0]) rfl ?_
  refine lv_bipush (v := 20) hx hb dX12_feed_11 (by decide) ?_
  refine lv_iadd hx hb dX12_feed_13 ?_
  refine W.eq (g2 := F0 m 14 ls [.int 20]) rfl ?_
  refine lv_sipush (v := 600) hx hb dX12_feed_14 (by decide) ?_
  refine lv_icmp_le (tgt := 22) hx hb dX12_feed_17 (by decide) (fun _ => ?_) (fun c_1 => absurd (by decide) c_1)
  refine lv_aload_n hx hb dX12_feed_22 rfl (lv_at hl 0 rfl) ?_
  refine lv_iload_n hx hb dX12_feed_23 rfl (lv_at hl 1 rfl) ?_
  have hPc := hP.sub (ws' := [(h, .inr (12, [.int 0, .ref m1, .ref m2, .ref m3, .ref m4, .ref m5, .ref m6, .ref m7, .ref m8, .ref m9, .int v10, .int v11, .int v12, .int v13, .int v14, .long v15, .int v16, .int v17, .int v18, .ref m19, .ref m20, .int v21, .int v22, .int v23, .int v24, .int v25, .int v26, .ref m27, .int v28, .ref m29, .ref m30, .ref m31, .ref m32, .int v33, .ref m34, .int v35, .ref m36, .ref m37, .ref m38, .ref m39, .ref m40, .int v41, .ref m42, .ref m43, .ref m44])), (m1, .inl (k 1, 2400, .inl f1)), (m2, .inl (k 0, 4, .inl (fun _ => 0)))]) [0, 1, 2] rfl
  have hDc := hD.sub (ws' := [(h, .inr (12, [.int 0, .ref m1, .ref m2, .ref m3, .ref m4, .ref m5, .ref m6, .ref m7, .ref m8, .ref m9, .int v10, .int v11, .int v12, .int v13, .int v14, .long v15, .int v16, .int v17, .int v18, .ref m19, .ref m20, .int v21, .int v22, .int v23, .int v24, .int v25, .int v26, .ref m27, .int v28, .ref m29, .ref m30, .ref m31, .ref m32, .int v33, .ref m34, .int v35, .ref m36, .ref m37, .ref m38, .ref m39, .ref m40, .int v41, .ref m42, .ref m43, .ref m44])), (m1, .inl (k 1, 2400, .inl f1)), (m2, .inl (k 0, 4, .inl (fun _ => 0)))]) [0, 1, 2] (by decide) rfl
  have hFc := va_free (wc := [(h, .inr (12, [.int 0, .ref m1, .ref m2, .ref m3, .ref m4, .ref m5, .ref m6, .ref m7, .ref m8, .ref m9, .int v10, .int v11, .int v12, .int v13, .int v14, .long v15, .int v16, .int v17, .int v18, .ref m19, .ref m20, .int v21, .int v22, .int v23, .int v24, .int v25, .int v26, .ref m27, .int v28, .ref m29, .ref m30, .ref m31, .ref m32, .int v33, .ref m34, .int v35, .ref m36, .ref m37, .ref m38, .ref m39, .ref m40, .int v41, .ref m42, .ref m43, .ref m44])), (m1, .inl (k 1, 2400, .inl f1)), (m2, .inl (k 0, 4, .inl (fun _ => 0)))]) hD hS hA [0, 1, 2] rfl
  refine va_callv (va_runV (As := [.int p0]) (rest := []) ⟨hx, hb, hml, hown, hts⟩ (m_four l dC dI k h 0 m1 m2 m3 m4 m5 m6 m7 m8 m9 v10 v11 v12 v13 v14 v15 v16 v17 v18 m19 m20 v21 v22 v23 v24 v25 v26 m27 v28 m29 m30 m31 m32 v33 m34 v35 m36 m37 m38 m39 m40 v41 m42 m43 m44 f1 (fun _ => 0) p0 0 rfl (zz_in (by decide)) (zz_in (by decide)) (zz_in (by decide)) (zz_in (by decide)) H.size) (cwV 1 hts gm_feed_m_four rfl rfl rfl (by decide +kernel) ⟨Nat.le_of_ble_eq_true rfl, Nat.le_of_ble_eq_true rfl⟩) ⟨prW_blind, va_recv hK hPc (ci := 12) (q0 := 0) rfl rfl, fun U hU hW => ⟨rfl, prW_go hPc hDc hK hU hW⟩⟩ rfl rfl hl.1 rfl (lv_room (Nat.le_of_ble_eq_true rfl)) dX12_feed_24 ⟨by decide +kernel, by decide +kernel⟩) hS (fun q _ h => hFc q h) hFc (fun u t H1 locs ht hvm hw hB hz1 hk1 hS => ?_)
  obtain ⟨g_2, s2_3⟩ := u
  have hw_4 : s2_3 0 = ((((0 + 1) + 1) + 1) + 1) := hw
  obtain ⟨hP1, hD1⟩ := hB
  rw [ht] at hP1
  obtain ⟨hP, hD⟩ := va_join (wr := []) (w1 := [(h, .inr (12, [.int 0, .ref m1, .ref m2, .ref m3, .ref m4, .ref m5, .ref m6, .ref m7, .ref m8, .ref m9, .int v10, .int v11, .int v12, .int v13, .int v14, .long v15, .int v16, .int v17, .int v18, .ref m19, .ref m20, .int v21, .int v22, .int v23, .int v24, .int v25, .int v26, .ref m27, .int v28, .ref m29, .ref m30, .ref m31, .ref m32, .int v33, .ref m34, .int v35, .ref m36, .ref m37, .ref m38, .ref m39, .ref m40, .int v41, .ref m42, .ref m43, .ref m44])), (m1, .inl (k 1, 2400, .inl g_2)), (m2, .inl (k 0, 4, .inl s2_3))]) hP hD [0, 1, 2] [] rfl rfl (by decide) (by decide) hk1 hFc hP1 hD1
  clear hk1 hz1 ht hPc hDc hP1 hD1 hvm
  generalize H1 = H at hP hS ⊢
  have hP : va_P (dC, dI) vwCl [(h, .inr (12, [.int 0, .ref m1, .ref m2, .ref m3, .ref m4, .ref m5, .ref m6, .ref m7, .ref m8, .ref m9, .int v10, .int v11, .int v12, .int v13, .int v14, .long v15, .int v16, .int v17, .int v18, .ref m19, .ref m20, .int v21, .int v22, .int v23, .int v24, .int v25, .int v26, .ref m27, .int v28, .ref m29, .ref m30, .ref m31, .ref m32, .int v33, .ref m34, .int v35, .ref m36, .ref m37, .ref m38, .ref m39, .ref m40, .int v41, .ref m42, .ref m43, .ref m44])), (m1, .inl (k 1, 2400, .inl g_2)), (m2, .inl (k 0, 4, .inl s2_3))] H := hP
  have hD : va_D A [(h, .inr (12, [.int 0, .ref m1, .ref m2, .ref m3, .ref m4, .ref m5, .ref m6, .ref m7, .ref m8, .ref m9, .int v10, .int v11, .int v12, .int v13, .int v14, .long v15, .int v16, .int v17, .int v18, .ref m19, .ref m20, .int v21, .int v22, .int v23, .int v24, .int v25, .int v26, .ref m27, .int v28, .ref m29, .ref m30, .ref m31, .ref m32, .int v33, .ref m34, .int v35, .ref m36, .ref m37, .ref m38, .ref m39, .ref m40, .int v41, .ref m42, .ref m43, .ref m44])), (m1, .inl (k 1, 2400, .inl g_2)), (m2, .inl (k 0, 4, .inl s2_3))] := hD
  refine lv_aload_n hx hb dX12_feed_27 rfl (lv_at hl 0 rfl) ?_
  refine lv_iload_n hx hb dX12_feed_28 rfl (lv_at hl 2 rfl) ?_
  have hPc := hP.sub (ws' := [(h, .inr (12, [.int 0, .ref m1, .ref m2, .ref m3, .ref m4, .ref m5, .ref m6, .ref m7, .ref m8, .ref m9, .int v10, .int v11, .int v12, .int v13, .int v14, .long v15, .int v16, .int v17, .int v18, .ref m19, .ref m20, .int v21, .int v22, .int v23, .int v24, .int v25, .int v26, .ref m27, .int v28, .ref m29, .ref m30, .ref m31, .ref m32, .int v33, .ref m34, .int v35, .ref m36, .ref m37, .ref m38, .ref m39, .ref m40, .int v41, .ref m42, .ref m43, .ref m44])), (m1, .inl (k 1, 2400, .inl g_2)), (m2, .inl (k 0, 4, .inl s2_3))]) [0, 1, 2] rfl
  have hDc := hD.sub (ws' := [(h, .inr (12, [.int 0, .ref m1, .ref m2, .ref m3, .ref m4, .ref m5, .ref m6, .ref m7, .ref m8, .ref m9, .int v10, .int v11, .int v12, .int v13, .int v14, .long v15, .int v16, .int v17, .int v18, .ref m19, .ref m20, .int v21, .int v22, .int v23, .int v24, .int v25, .int v26, .ref m27, .int v28, .ref m29, .ref m30, .ref m31, .ref m32, .int v33, .ref m34, .int v35, .ref m36, .ref m37, .ref m38, .ref m39, .ref m40, .int v41, .ref m42, .ref m43, .ref m44])), (m1, .inl (k 1, 2400, .inl g_2)), (m2, .inl (k 0, 4, .inl s2_3))]) [0, 1, 2] (by decide) rfl
  have hFc := va_free (wc := [(h, .inr (12, [.int 0, .ref m1, .ref m2, .ref m3, .ref m4, .ref m5, .ref m6, .ref m7, .ref m8, .ref m9, .int v10, .int v11, .int v12, .int v13, .int v14, .long v15, .int v16, .int v17, .int v18, .ref m19, .ref m20, .int v21, .int v22, .int v23, .int v24, .int v25, .int v26, .ref m27, .int v28, .ref m29, .ref m30, .ref m31, .ref m32, .int v33, .ref m34, .int v35, .ref m36, .ref m37, .ref m38, .ref m39, .ref m40, .int v41, .ref m42, .ref m43, .ref m44])), (m1, .inl (k 1, 2400, .inl g_2)), (m2, .inl (k 0, 4, .inl s2_3))]) hD hS hA [0, 1, 2] rfl
  refine va_callv (va_runV (As := [.int p1]) (rest := []) ⟨hx, hb, hml, hown, hts⟩ (m_four l dC dI k h 0 m1 m2 m3 m4 m5 m6 m7 m8 m9 v10 v11 v12 v13 v14 v15 v16 v17 v18 m19 m20 v21 v22 v23 v24 v25 v26 m27 v28 m29 m30 m31 m32 v33 m34 v35 m36 m37 m38 m39 m40 v41 m42 m43 m44 g_2 s2_3 p1 ((((0 + 1) + 1) + 1) + 1) hw_4 (zz_in (by decide)) (zz_in (by decide)) (zz_in (by decide)) (zz_in (by decide)) H.size) (cwV 1 hts gm_feed_m_four rfl rfl rfl (by decide +kernel) ⟨Nat.le_of_ble_eq_true rfl, Nat.le_of_ble_eq_true rfl⟩) ⟨prW_blind, va_recv hK hPc (ci := 12) (q0 := 0) rfl rfl, fun U hU hW => ⟨rfl, prW_go hPc hDc hK hU hW⟩⟩ rfl rfl hl.1 rfl (lv_room (Nat.le_of_ble_eq_true rfl)) dX12_feed_29 ⟨by decide +kernel, by decide +kernel⟩) hS (fun q _ h => hFc q h) hFc (fun u t H1 locs ht hvm hw hB hz1 hk1 hS => ?_)
  obtain ⟨g_5, s2_6⟩ := u
  have hw_7 : s2_6 0 = ((((((((0 + 1) + 1) + 1) + 1) + 1) + 1) + 1) + 1) := hw
  obtain ⟨hP1, hD1⟩ := hB
  rw [ht] at hP1
  obtain ⟨hP, hD⟩ := va_join (wr := []) (w1 := [(h, .inr (12, [.int 0, .ref m1, .ref m2, .ref m3, .ref m4, .ref m5, .ref m6, .ref m7, .ref m8, .ref m9, .int v10, .int v11, .int v12, .int v13, .int v14, .long v15, .int v16, .int v17, .int v18, .ref m19, .ref m20, .int v21, .int v22, .int v23, .int v24, .int v25, .int v26, .ref m27, .int v28, .ref m29, .ref m30, .ref m31, .ref m32, .int v33, .ref m34, .int v35, .ref m36, .ref m37, .ref m38, .ref m39, .ref m40, .int v41, .ref m42, .ref m43, .ref m44])), (m1, .inl (k 1, 2400, .inl g_5)), (m2, .inl (k 0, 4, .inl s2_6))]) hP hD [0, 1, 2] [] rfl rfl (by decide) (by decide) hk1 hFc hP1 hD1
  clear hk1 hz1 ht hPc hDc hP1 hD1 hvm
  generalize H1 = H at hP hS ⊢
  have hP : va_P (dC, dI) vwCl [(h, .inr (12, [.int 0, .ref m1, .ref m2, .ref m3, .ref m4, .ref m5, .ref m6, .ref m7, .ref m8, .ref m9, .int v10, .int v11, .int v12, .int v13, .int v14, .long v15, .int v16, .int v17, .int v18, .ref m19, .ref m20, .int v21, .int v22, .int v23, .int v24, .int v25, .int v26, .ref m27, .int v28, .ref m29, .ref m30, .ref m31, .ref m32, .int v33, .ref m34, .int v35, .ref m36, .ref m37, .ref m38, .ref m39, .ref m40, .int v41, .ref m42, .ref m43, .ref m44])), (m1, .inl (k 1, 2400, .inl g_5)), (m2, .inl (k 0, 4, .inl s2_6))] H := hP
  have hD : va_D A [(h, .inr (12, [.int 0, .ref m1, .ref m2, .ref m3, .ref m4, .ref m5, .ref m6, .ref m7, .ref m8, .ref m9, .int v10, .int v11, .int v12, .int v13, .int v14, .long v15, .int v16, .int v17, .int v18, .ref m19, .ref m20, .int v21, .int v22, .int v23, .int v24, .int v25, .int v26, .ref m27, .int v28, .ref m29, .ref m30, .ref m31, .ref m32, .int v33, .ref m34, .int v35, .ref m36, .ref m37, .ref m38, .ref m39, .ref m40, .int v41, .ref m42, .ref m43, .ref m44])), (m1, .inl (k 1, 2400, .inl g_5)), (m2, .inl (k 0, 4, .inl s2_6))] := hD
  refine lv_aload_n hx hb dX12_feed_32 rfl (lv_at hl 0 rfl) ?_
  refine lv_iload_n hx hb dX12_feed_33 rfl (lv_at hl 3 rfl) ?_
  have hPc := hP.sub (ws' := [(h, .inr (12, [.int 0, .ref m1, .ref m2, .ref m3, .ref m4, .ref m5, .ref m6, .ref m7, .ref m8, .ref m9, .int v10, .int v11, .int v12, .int v13, .int v14, .long v15, .int v16, .int v17, .int v18, .ref m19, .ref m20, .int v21, .int v22, .int v23, .int v24, .int v25, .int v26, .ref m27, .int v28, .ref m29, .ref m30, .ref m31, .ref m32, .int v33, .ref m34, .int v35, .ref m36, .ref m37, .ref m38, .ref m39, .ref m40, .int v41, .ref m42, .ref m43, .ref m44])), (m1, .inl (k 1, 2400, .inl g_5)), (m2, .inl (k 0, 4, .inl s2_6))]) [0, 1, 2] rfl
  have hDc := hD.sub (ws' := [(h, .inr (12, [.int 0, .ref m1, .ref m2, .ref m3, .ref m4, .ref m5, .ref m6, .ref m7, .ref m8, .ref m9, .int v10, .int v11, .int v12, .int v13, .int v14, .long v15, .int v16, .int v17, .int v18, .ref m19, .ref m20, .int v21, .int v22, .int v23, .int v24, .int v25, .int v26, .ref m27, .int v28, .ref m29, .ref m30, .ref m31, .ref m32, .int v33, .ref m34, .int v35, .ref m36, .ref m37, .ref m38, .ref m39, .ref m40, .int v41, .ref m42, .ref m43, .ref m44])), (m1, .inl (k 1, 2400, .inl g_5)), (m2, .inl (k 0, 4, .inl s2_6))]) [0, 1, 2] (by decide) rfl
  have hFc := va_free (wc := [(h, .inr (12, [.int 0, .ref m1, .ref m2, .ref m3, .ref m4, .ref m5, .ref m6, .ref m7, .ref m8, .ref m9, .int v10, .int v11, .int v12, .int v13, .int v14, .long v15, .int v16, .int v17, .int v18, .ref m19, .ref m20, .int v21, .int v22, .int v23, .int v24, .int v25, .int v26, .ref m27, .int v28, .ref m29, .ref m30, .ref m31, .ref m32, .int v33, .ref m34, .int v35, .ref m36, .ref m37, .ref m38, .ref m39, .ref m40, .int v41, .ref m42, .ref m43, .ref m44])), (m1, .inl (k 1, 2400, .inl g_5)), (m2, .inl (k 0, 4, .inl s2_6))]) hD hS hA [0, 1, 2] rfl
  refine va_callv (va_runV (As := [.int p2]) (rest := []) ⟨hx, hb, hml, hown, hts⟩ (m_four l dC dI k h 0 m1 m2 m3 m4 m5 m6 m7 m8 m9 v10 v11 v12 v13 v14 v15 v16 v17 v18 m19 m20 v21 v22 v23 v24 v25 v26 m27 v28 m29 m30 m31 m32 v33 m34 v35 m36 m37 m38 m39 m40 v41 m42 m43 m44 g_5 s2_6 p2 ((((((((0 + 1) + 1) + 1) + 1) + 1) + 1) + 1) + 1) hw_7 (zz_in (by decide)) (zz_in (by decide)) (zz_in (by decide)) (zz_in (by decide)) H.size) (cwV 1 hts gm_feed_m_four rfl rfl rfl (by decide +kernel) ⟨Nat.le_of_ble_eq_true rfl, Nat.le_of_ble_eq_true rfl⟩) ⟨prW_blind, va_recv hK hPc (ci := 12) (q0 := 0) rfl rfl, fun U hU hW => ⟨rfl, prW_go hPc hDc hK hU hW⟩⟩ rfl rfl hl.1 rfl (lv_room (Nat.le_of_ble_eq_true rfl)) dX12_feed_34 ⟨by decide +kernel, by decide +kernel⟩) hS (fun q _ h => hFc q h) hFc (fun u t H1 locs ht hvm hw hB hz1 hk1 hS => ?_)
  obtain ⟨g_8, s2_9⟩ := u
  have hw_10 : s2_9 0 = ((((((((((((0 + 1) + 1) + 1) + 1) + 1) + 1) + 1) + 1) + 1) + 1) + 1) + 1) := hw
  obtain ⟨hP1, hD1⟩ := hB
  rw [ht] at hP1
  obtain ⟨hP, hD⟩ := va_join (wr := []) (w1 := [(h, .inr (12, [.int 0, .ref m1, .ref m2, .ref m3, .ref m4, .ref m5, .ref m6, .ref m7, .ref m8, .ref m9, .int v10, .int v11, .int v12, .int v13, .int v14, .long v15, .int v16, .int v17, .int v18, .ref m19, .ref m20, .int v21, .int v22, .int v23, .int v24, .int v25, .int v26, .ref m27, .int v28, .ref m29, .ref m30, .ref m31, .ref m32, .int v33, .ref m34, .int v35, .ref m36, .ref m37, .ref m38, .ref m39, .ref m40, .int v41, .ref m42, .ref m43, .ref m44])), (m1, .inl (k 1, 2400, .inl g_8)), (m2, .inl (k 0, 4, .inl s2_9))]) hP hD [0, 1, 2] [] rfl rfl (by decide) (by decide) hk1 hFc hP1 hD1
  clear hk1 hz1 ht hPc hDc hP1 hD1 hvm
  generalize H1 = H at hP hS ⊢
  have hP : va_P (dC, dI) vwCl [(h, .inr (12, [.int 0, .ref m1, .ref m2, .ref m3, .ref m4, .ref m5, .ref m6, .ref m7, .ref m8, .ref m9, .int v10, .int v11, .int v12, .int v13, .int v14, .long v15, .int v16, .int v17, .int v18, .ref m19, .ref m20, .int v21, .int v22, .int v23, .int v24, .int v25, .int v26, .ref m27, .int v28, .ref m29, .ref m30, .ref m31, .ref m32, .int v33, .ref m34, .int v35, .ref m36, .ref m37, .ref m38, .ref m39, .ref m40, .int v41, .ref m42, .ref m43, .ref m44])), (m1, .inl (k 1, 2400, .inl g_8)), (m2, .inl (k 0, 4, .inl s2_9))] H := hP
  have hD : va_D A [(h, .inr (12, [.int 0, .ref m1, .ref m2, .ref m3, .ref m4, .ref m5, .ref m6, .ref m7, .ref m8, .ref m9, .int v10, .int v11, .int v12, .int v13, .int v14, .long v15, .int v16, .int v17, .int v18, .ref m19, .ref m20, .int v21, .int v22, .int v23, .int v24, .int v25, .int v26, .ref m27, .int v28, .ref m29, .ref m30, .ref m31, .ref m32, .int v33, .ref m34, .int v35, .ref m36, .ref m37, .ref m38, .ref m39, .ref m40, .int v41, .ref m42, .ref m43, .ref m44])), (m1, .inl (k 1, 2400, .inl g_8)), (m2, .inl (k 0, 4, .inl s2_9))] := hD
  refine lv_aload_n hx hb dX12_feed_37 rfl (lv_at hl 0 rfl) ?_
  refine lv_iload hx hb dX12_feed_38 (lv_at hl 4 rfl) ?_
  have hPc := hP.sub (ws' := [(h, .inr (12, [.int 0, .ref m1, .ref m2, .ref m3, .ref m4, .ref m5, .ref m6, .ref m7, .ref m8, .ref m9, .int v10, .int v11, .int v12, .int v13, .int v14, .long v15, .int v16, .int v17, .int v18, .ref m19, .ref m20, .int v21, .int v22, .int v23, .int v24, .int v25, .int v26, .ref m27, .int v28, .ref m29, .ref m30, .ref m31, .ref m32, .int v33, .ref m34, .int v35, .ref m36, .ref m37, .ref m38, .ref m39, .ref m40, .int v41, .ref m42, .ref m43, .ref m44])), (m1, .inl (k 1, 2400, .inl g_8)), (m2, .inl (k 0, 4, .inl s2_9))]) [0, 1, 2] rfl
  have hDc := hD.sub (ws' := [(h, .inr (12, [.int 0, .ref m1, .ref m2, .ref m3, .ref m4, .ref m5, .ref m6, .ref m7, .ref m8, .ref m9, .int v10, .int v11, .int v12, .int v13, .int v14, .long v15, .int v16, .int v17, .int v18, .ref m19, .ref m20, .int v21, .int v22, .int v23, .int v24, .int v25, .int v26, .ref m27, .int v28, .ref m29, .ref m30, .ref m31, .ref m32, .int v33, .ref m34, .int v35, .ref m36, .ref m37, .ref m38, .ref m39, .ref m40, .int v41, .ref m42, .ref m43, .ref m44])), (m1, .inl (k 1, 2400, .inl g_8)), (m2, .inl (k 0, 4, .inl s2_9))]) [0, 1, 2] (by decide) rfl
  have hFc := va_free (wc := [(h, .inr (12, [.int 0, .ref m1, .ref m2, .ref m3, .ref m4, .ref m5, .ref m6, .ref m7, .ref m8, .ref m9, .int v10, .int v11, .int v12, .int v13, .int v14, .long v15, .int v16, .int v17, .int v18, .ref m19, .ref m20, .int v21, .int v22, .int v23, .int v24, .int v25, .int v26, .ref m27, .int v28, .ref m29, .ref m30, .ref m31, .ref m32, .int v33, .ref m34, .int v35, .ref m36, .ref m37, .ref m38, .ref m39, .ref m40, .int v41, .ref m42, .ref m43, .ref m44])), (m1, .inl (k 1, 2400, .inl g_8)), (m2, .inl (k 0, 4, .inl s2_9))]) hD hS hA [0, 1, 2] rfl
  refine va_callv (va_runV (As := [.int p3]) (rest := []) ⟨hx, hb, hml, hown, hts⟩ (m_four l dC dI k h 0 m1 m2 m3 m4 m5 m6 m7 m8 m9 v10 v11 v12 v13 v14 v15 v16 v17 v18 m19 m20 v21 v22 v23 v24 v25 v26 m27 v28 m29 m30 m31 m32 v33 m34 v35 m36 m37 m38 m39 m40 v41 m42 m43 m44 g_8 s2_9 p3 ((((((((((((0 + 1) + 1) + 1) + 1) + 1) + 1) + 1) + 1) + 1) + 1) + 1) + 1) hw_10 (zz_in (by decide)) (zz_in (by decide)) (zz_in (by decide)) (zz_in (by decide)) H.size) (cwV 1 hts gm_feed_m_four rfl rfl rfl (by decide +kernel) ⟨Nat.le_of_ble_eq_true rfl, Nat.le_of_ble_eq_true rfl⟩) ⟨prW_blind, va_recv hK hPc (ci := 12) (q0 := 0) rfl rfl, fun U hU hW => ⟨rfl, prW_go hPc hDc hK hU hW⟩⟩ rfl rfl hl.1 rfl (lv_room (Nat.le_of_ble_eq_true rfl)) dX12_feed_40 ⟨by decide +kernel, by decide +kernel⟩) hS (fun q _ h => hFc q h) hFc (fun u t H1 locs ht hvm hw hB hz1 hk1 hS => ?_)
  obtain ⟨g_11, s2_12⟩ := u
  have hw_13 : s2_12 0 = ((((((((((((((((0 + 1) + 1) + 1) + 1) + 1) + 1) + 1) + 1) + 1) + 1) + 1) + 1) + 1) + 1) + 1) + 1) := hw
  obtain ⟨hP1, hD1⟩ := hB
  rw [ht] at hP1
  obtain ⟨hP, hD⟩ := va_join (wr := []) (w1 := [(h, .inr (12, [.int 0, .ref m1, .ref m2, .ref m3, .ref m4, .ref m5, .ref m6, .ref m7, .ref m8, .ref m9, .int v10, .int v11, .int v12, .int v13, .int v14, .long v15, .int v16, .int v17, .int v18, .ref m19, .ref m20, .int v21, .int v22, .int v23, .int v24, .int v25, .int v26, .ref m27, .int v28, .ref m29, .ref m30, .ref m31, .ref m32, .int v33, .ref m34, .int v35, .ref m36, .ref m37, .ref m38, .ref m39, .ref m40, .int v41, .ref m42, .ref m43, .ref m44])), (m1, .inl (k 1, 2400, .inl g_11)), (m2, .inl (k 0, 4, .inl s2_12))]) hP hD [0, 1, 2] [] rfl rfl (by decide) (by decide) hk1 hFc hP1 hD1
  clear hk1 hz1 ht hPc hDc hP1 hD1 hvm
  generalize H1 = H at hP hS ⊢
  have hP : va_P (dC, dI) vwCl [(h, .inr (12, [.int 0, .ref m1, .ref m2, .ref m3, .ref m4, .ref m5, .ref m6, .ref m7, .ref m8, .ref m9, .int v10, .int v11, .int v12, .int v13, .int v14, .long v15, .int v16, .int v17, .int v18, .ref m19, .ref m20, .int v21, .int v22, .int v23, .int v24, .int v25, .int v26, .ref m27, .int v28, .ref m29, .ref m30, .ref m31, .ref m32, .int v33, .ref m34, .int v35, .ref m36, .ref m37, .ref m38, .ref m39, .ref m40, .int v41, .ref m42, .ref m43, .ref m44])), (m1, .inl (k 1, 2400, .inl g_11)), (m2, .inl (k 0, 4, .inl s2_12))] H := hP
  have hD : va_D A [(h, .inr (12, [.int 0, .ref m1, .ref m2, .ref m3, .ref m4, .ref m5, .ref m6, .ref m7, .ref m8, .ref m9, .int v10, .int v11, .int v12, .int v13, .int v14, .long v15, .int v16, .int v17, .int v18, .ref m19, .ref m20, .int v21, .int v22, .int v23, .int v24, .int v25, .int v26, .ref m27, .int v28, .ref m29, .ref m30, .ref m31, .ref m32, .int v33, .ref m34, .int v35, .ref m36, .ref m37, .ref m38, .ref m39, .ref m40, .int v41, .ref m42, .ref m43, .ref m44])), (m1, .inl (k 1, 2400, .inl g_11)), (m2, .inl (k 0, 4, .inl s2_12))] := hD
  refine lv_aload_n hx hb dX12_feed_43 rfl (lv_at hl 0 rfl) ?_
  refine lv_iload hx hb dX12_feed_44 (lv_at hl 5 rfl) ?_
  have hPc := hP.sub (ws' := [(h, .inr (12, [.int 0, .ref m1, .ref m2, .ref m3, .ref m4, .ref m5, .ref m6, .ref m7, .ref m8, .ref m9, .int v10, .int v11, .int v12, .int v13, .int v14, .long v15, .int v16, .int v17, .int v18, .ref m19, .ref m20, .int v21, .int v22, .int v23, .int v24, .int v25, .int v26, .ref m27, .int v28, .ref m29, .ref m30, .ref m31, .ref m32, .int v33, .ref m34, .int v35, .ref m36, .ref m37, .ref m38, .ref m39, .ref m40, .int v41, .ref m42, .ref m43, .ref m44])), (m1, .inl (k 1, 2400, .inl g_11)), (m2, .inl (k 0, 4, .inl s2_12))]) [0, 1, 2] rfl
  have hDc := hD.sub (ws' := [(h, .inr (12, [.int 0, .ref m1, .ref m2, .ref m3, .ref m4, .ref m5, .ref m6, .ref m7, .ref m8, .ref m9, .int v10, .int v11, .int v12, .int v13, .int v14, .long v15, .int v16, .int v17, .int v18, .ref m19, .ref m20, .int v21, .int v22, .int v23, .int v24, .int v25, .int v26, .ref m27, .int v28, .ref m29, .ref m30, .ref m31, .ref m32, .int v33, .ref m34, .int v35, .ref m36, .ref m37, .ref m38, .ref m39, .ref m40, .int v41, .ref m42, .ref m43, .ref m44])), (m1, .inl (k 1, 2400, .inl g_11)), (m2, .inl (k 0, 4, .inl s2_12))]) [0, 1, 2] (by decide) rfl
  have hFc := va_free (wc := [(h, .inr (12, [.int 0, .ref m1, .ref m2, .ref m3, .ref m4, .ref m5, .ref m6, .ref m7, .ref m8, .ref m9, .int v10, .int v11, .int v12, .int v13, .int v14, .long v15, .int v16, .int v17, .int v18, .ref m19, .ref m20, .int v21, .int v22, .int v23, .int v24, .int v25, .int v26, .ref m27, .int v28, .ref m29, .ref m30, .ref m31, .ref m32, .int v33, .ref m34, .int v35, .ref m36, .ref m37, .ref m38, .ref m39, .ref m40, .int v41, .ref m42, .ref m43, .ref m44])), (m1, .inl (k 1, 2400, .inl g_11)), (m2, .inl (k 0, 4, .inl s2_12))]) hD hS hA [0, 1, 2] rfl
  refine va_callv (va_runV (As := [.int p4]) (rest := []) ⟨hx, hb, hml, hown, hts⟩ (m_four l dC dI k h 0 m1 m2 m3 m4 m5 m6 m7 m8 m9 v10 v11 v12 v13 v14 v15 v16 v17 v18 m19 m20 v21 v22 v23 v24 v25 v26 m27 v28 m29 m30 m31 m32 v33 m34 v35 m36 m37 m38 m39 m40 v41 m42 m43 m44 g_11 s2_12 p4 ((((((((((((((((0 + 1) + 1) + 1) + 1) + 1) + 1) + 1) + 1) + 1) + 1) + 1) + 1) + 1) + 1) + 1) + 1) hw_13 (zz_in (by decide)) (zz_in (by decide)) (zz_in (by decide)) (zz_in (by decide)) H.size) (cwV 1 hts gm_feed_m_four rfl rfl rfl (by decide +kernel) ⟨Nat.le_of_ble_eq_true rfl, Nat.le_of_ble_eq_true rfl⟩) ⟨prW_blind, va_recv hK hPc (ci := 12) (q0 := 0) rfl rfl, fun U hU hW => ⟨rfl, prW_go hPc hDc hK hU hW⟩⟩ rfl rfl hl.1 rfl (lv_room (Nat.le_of_ble_eq_true rfl)) dX12_feed_46 ⟨by decide +kernel, by decide +kernel⟩) hS (fun q _ h => hFc q h) hFc (fun u t H1 locs ht hvm hw hB hz1 hk1 hS => ?_)
  obtain ⟨g_14, s2_15⟩ := u
  have hw_16 : s2_15 0 = ((((((((((((((((((((0 + 1) + 1) + 1) + 1) + 1) + 1) + 1) + 1) + 1) + 1) + 1) + 1) + 1) + 1) + 1) + 1) + 1) + 1) + 1) + 1) := hw
  obtain ⟨hP1, hD1⟩ := hB
  rw [ht] at hP1
  obtain ⟨hP, hD⟩ := va_join (wr := []) (w1 := [(h, .inr (12, [.int 0, .ref m1, .ref m2, .ref m3, .ref m4, .ref m5, .ref m6, .ref m7, .ref m8, .ref m9, .int v10, .int v11, .int v12, .int v13, .int v14, .long v15, .int v16, .int v17, .int v18, .ref m19, .ref m20, .int v21, .int v22, .int v23, .int v24, .int v25, .int v26, .ref m27, .int v28, .ref m29, .ref m30, .ref m31, .ref m32, .int v33, .ref m34, .int v35, .ref m36, .ref m37, .ref m38, .ref m39, .ref m40, .int v41, .ref m42, .ref m43, .ref m44])), (m1, .inl (k 1, 2400, .inl g_14)), (m2, .inl (k 0, 4, .inl s2_15))]) hP hD [0, 1, 2] [] rfl rfl (by decide) (by decide) hk1 hFc hP1 hD1
  clear hk1 hz1 ht hPc hDc hP1 hD1 hvm
  generalize H1 = H at hP hS ⊢
  have hP : va_P (dC, dI) vwCl [(h, .inr (12, [.int 0, .ref m1, .ref m2, .ref m3, .ref m4, .ref m5, .ref m6, .ref m7, .ref m8, .ref m9, .int v10, .int v11, .int v12, .int v13, .int v14, .long v15, .int v16, .int v17, .int v18, .ref m19, .ref m20, .int v21, .int v22, .int v23, .int v24, .int v25, .int v26, .ref m27, .int v28, .ref m29, .ref m30, .ref m31, .ref m32, .int v33, .ref m34, .int v35, .ref m36, .ref m37, .ref m38, .ref m39, .ref m40, .int v41, .ref m42, .ref m43, .ref m44])), (m1, .inl (k 1, 2400, .inl g_14)), (m2, .inl (k 0, 4, .inl s2_15))] H := hP
  have hD : va_D A [(h, .inr (12, [.int 0, .ref m1, .ref m2, .ref m3, .ref m4, .ref m5, .ref m6, .ref m7, .ref m8, .ref m9, .int v10, .int v11, .int v12, .int v13, .int v14, .long v15, .int v16, .int v17, .int v18, .ref m19, .ref m20, .int v21, .int v22, .int v23, .int v24, .int v25, .int v26, .ref m27, .int v28, .ref m29, .ref m30, .ref m31, .ref m32, .int v33, .ref m34, .int v35, .ref m36, .ref m37, .ref m38, .ref m39, .ref m40, .int v41, .ref m42, .ref m43, .ref m44])), (m1, .inl (k 1, 2400, .inl g_14)), (m2, .inl (k 0, 4, .inl s2_15))] := hD
  refine lv_aload_n hx hb dX12_feed_49 rfl (lv_at hl 0 rfl) ?_
  refine va_get (D := (dC, dI)) (ci := 12) (v := .ref m2) (C := RX12) (T := TX12) (N := 45) hx hb hts hi12 hown hK hP 0 rfl rfl 2 (by decide) (hts (.fieldLink RX12 13 "HeightFineModel" "size" "[I") (by decide +kernel)) (fun _ h9 => h9) rfl dX12_feed_50 ?_
  refine lv_iconst (v := 0) hx hb dX12_feed_53 (by decide) ?_
  refine va_iald hx hb hK hP 2 0 rfl rfl (i := 0) (zz_in (by decide)) dX12_feed_54 ?_
  refine W.eq (g2 := F0 m 55 ls [.int ((((((((((((((((((((0 + 1) + 1) + 1) + 1) + 1) + 1) + 1) + 1) + 1) + 1) + 1) + 1) + 1) + 1) + 1) + 1) + 1) + 1) + 1) + 1)]) (congrArg (fun z => F0 m 55 ls (.int z :: [])) hw_16) ?_
  have hP9 : va_P (dC, dI) vwCl [] H := hP.sub (ws' := []) [] rfl
  have hD9 : va_D A [] := hD.sub (ws' := []) [] (by decide) rfl
  refine W.widen (k := 0) (n := 0) (by decide +kernel) (by decide +kernel) ?_
  exact W.iret (v := ((((((((((((((((((((0 + 1) + 1) + 1) + 1) + 1) + 1) + 1) + 1) + 1) + 1) + 1) + 1) + 1) + 1) + 1) + 1) + 1) + 1) + 1) + 1)) hx hb hr (fun t ht hW => ⟨⟨((((((((((((((((((((0 + 1) + 1) + 1) + 1) + 1) + 1) + 1) + 1) + 1) + 1) + 1) + 1) + 1) + 1) + 1) + 1) + 1) + 1) + 1) + 1), (), rfl, (by decide), by rw [ht]; exact hP9, hD9⟩, hS.F ht⟩) hS.2.2 dX12_feed_55
