theorem dX11_count_0 : decode cX11_count 0 = .ok (.iload_n 1, 1) := by decide +kernel
theorem dX11_count_1 : decode cX11_count 1 = .ok (.ifCond .lt 8, 3) := by decide +kernel
theorem dX11_count_4 : decode cX11_count 4 = .ok (.iload_n 1, 1) := by decide +kernel
theorem dX11_count_5 : decode cX11_count 5 = .ok (.iconst 4, 1) := by decide +kernel
theorem dX11_count_6 : decode cX11_count 6 = .ok (.if_icmp .lt 8, 3) := by decide +kernel
theorem dX11_count_9 : decode cX11_count 9 = .ok (.bipush (-2), 2) := by decide +kernel
theorem dX11_count_11 : decode cX11_count 11 = .ok (.goto 12, 3) := by decide +kernel
theorem dX11_count_14 : decode cX11_count 14 = .ok (.aload_n 0, 1) := by decide +kernel
theorem dX11_count_15 : decode cX11_count 15 = .ok (.getfield 10, 3) := by decide +kernel
theorem dX11_count_18 : decode cX11_count 18 = .ok (.getfield 290, 3) := by decide +kernel
theorem dX11_count_21 : decode cX11_count 21 = .ok (.iload_n 1, 1) := by decide +kernel
theorem dX11_count_22 : decode cX11_count 22 = .ok (.iaload, 1) := by decide +kernel
theorem dX11_count_23 : decode cX11_count 23 = .ok (.ireturn, 1) := by decide +kernel
theorem dX11_fault_0 : decode cX11_fault 0 = .ok (.iload_n 1, 1) := by decide +kernel
theorem dX11_fault_1 : decode cX11_fault 1 = .ok (.ifCond .ne 11, 3) := by decide +kernel
theorem dX11_fault_4 : decode cX11_fault 4 = .ok (.aload_n 0, 1) := by decide +kernel
theorem dX11_fault_5 : decode cX11_fault 5 = .ok (.getfield 10, 3) := by decide +kernel
theorem dX11_fault_8 : decode cX11_fault 8 = .ok (.getfield 70, 3) := by decide +kernel
theorem dX11_fault_11 : decode cX11_fault 11 = .ok (.ireturn, 1) := by decide +kernel
theorem dX11_fault_12 : decode cX11_fault 12 = .ok (.iload_n 1, 1) := by decide +kernel
theorem dX11_fault_13 : decode cX11_fault 13 = .ok (.iconst 1, 1) := by decide +kernel
theorem dX11_fault_14 : decode cX11_fault 14 = .ok (.if_icmp .ne 13, 3) := by decide +kernel
theorem dX11_fault_17 : decode cX11_fault 17 = .ok (.aload_n 0, 1) := by decide +kernel
theorem dX11_fault_18 : decode cX11_fault 18 = .ok (.getfield 10, 3) := by decide +kernel
theorem dX11_fault_21 : decode cX11_fault 21 = .ok (.getfield 73, 3) := by decide +kernel
theorem dX11_fault_24 : decode cX11_fault 24 = .ok (.goto 4, 3) := by decide +kernel
theorem dX11_fault_27 : decode cX11_fault 27 = .ok (.iconst (-1), 1) := by decide +kernel
theorem dX11_fault_28 : decode cX11_fault 28 = .ok (.ireturn, 1) := by decide +kernel
theorem dX11_again_0 : decode cX11_again 0 = .ok (.iload_n 1, 1) := by decide +kernel
theorem dX11_again_1 : decode cX11_again 1 = .ok (.ifCond .lt 17, 3) := by decide +kernel
theorem dX11_again_4 : decode cX11_again 4 = .ok (.iload_n 1, 1) := by decide +kernel
theorem dX11_again_5 : decode cX11_again 5 = .ok (.iconst 3, 1) := by decide +kernel
theorem dX11_again_6 : decode cX11_again 6 = .ok (.if_icmp .ge 12, 3) := by decide +kernel
theorem dX11_again_9 : decode cX11_again 9 = .ok (.aload_n 0, 1) := by decide +kernel
theorem dX11_again_10 : decode cX11_again 10 = .ok (.getfield 16, 3) := by decide +kernel
theorem dX11_again_13 : decode cX11_again 13 = .ok (.iload_n 1, 1) := by decide +kernel
theorem dX11_again_14 : decode cX11_again 14 = .ok (.aaload, 1) := by decide +kernel
theorem dX11_again_15 : decode cX11_again 15 = .ok (.ifnonnull 5, 3) := by decide +kernel
theorem dX11_again_18 : decode cX11_again 18 = .ok (.iconst 0, 1) := by decide +kernel
theorem dX11_again_19 : decode cX11_again 19 = .ok (.ireturn, 1) := by decide +kernel
theorem dX8_placeFor_0 : decode cX8_placeFor 0 = .ok (.iload_n 1, 1) := by decide +kernel
theorem dX8_placeFor_1 : decode cX8_placeFor 1 = .ok (.ifCond .lt 8, 3) := by decide +kernel
theorem dX8_placeFor_4 : decode cX8_placeFor 4 = .ok (.iload_n 1, 1) := by decide +kernel
theorem dX8_placeFor_5 : decode cX8_placeFor 5 = .ok (.iconst 4, 1) := by decide +kernel
theorem dX8_placeFor_6 : decode cX8_placeFor 6 = .ok (.if_icmp .lt 5, 3) := by decide +kernel
theorem dX8_placeFor_9 : decode cX8_placeFor 9 = .ok (.iconst (-1), 1) := by decide +kernel
theorem dX8_placeFor_10 : decode cX8_placeFor 10 = .ok (.ireturn, 1) := by decide +kernel
theorem dX8_placeFor_11 : decode cX8_placeFor 11 = .ok (.iload_n 2, 1) := by decide +kernel
theorem dX8_placeFor_12 : decode cX8_placeFor 12 = .ok (.iconst (-1), 1) := by decide +kernel
theorem dX8_placeFor_13 : decode cX8_placeFor 13 = .ok (.if_icmp .ne 24, 3) := by decide +kernel
theorem dX8_placeFor_16 : decode cX8_placeFor 16 = .ok (.aload_n 0, 1) := by decide +kernel
theorem dX8_placeFor_17 : decode cX8_placeFor 17 = .ok (.getfield 15, 3) := by decide +kernel
theorem dX8_placeFor_20 : decode cX8_placeFor 20 = .ok (.iload_n 1, 1) := by decide +kernel
theorem dX8_placeFor_21 : decode cX8_placeFor 21 = .ok (.iaload, 1) := by decide +kernel
theorem dX8_placeFor_22 : decode cX8_placeFor 22 = .ok (.iconst 2, 1) := by decide +kernel
theorem dX8_placeFor_23 : decode cX8_placeFor 23 = .ok (.if_icmp .ge 12, 3) := by decide +kernel
theorem dX8_placeFor_26 : decode cX8_placeFor 26 = .ok (.aload_n 0, 1) := by decide +kernel
theorem dX8_placeFor_27 : decode cX8_placeFor 27 = .ok (.getfield 15, 3) := by decide +kernel
theorem dX8_placeFor_30 : decode cX8_placeFor 30 = .ok (.iload_n 1, 1) := by decide +kernel
theorem dX8_placeFor_31 : decode cX8_placeFor 31 = .ok (.iaload, 1) := by decide +kernel
theorem dX8_placeFor_32 : decode cX8_placeFor 32 = .ok (.goto 4, 3) := by decide +kernel
theorem dX8_placeFor_36 : decode cX8_placeFor 36 = .ok (.ireturn, 1) := by decide +kernel
theorem dX8_placeFor_37 : decode cX8_placeFor 37 = .ok (.aload_n 0, 1) := by decide +kernel
theorem dX8_placeFor_38 : decode cX8_placeFor 38 = .ok (.iload_n 1, 1) := by decide +kernel
theorem dX8_placeFor_39 : decode cX8_placeFor 39 = .ok (.iload_n 2, 1) := by decide +kernel
theorem dX8_placeFor_40 : decode cX8_placeFor 40 = .ok (.invokevirtual 76, 3) := by decide +kernel
theorem dX8_placeFor_43 : decode cX8_placeFor 43 = .ok (.ifCond .eq 7, 3) := by decide +kernel
theorem dX8_placeFor_50 : decode cX8_placeFor 50 = .ok (.iconst (-1), 1) := by decide +kernel
theorem dX8_placeFor_51 : decode cX8_placeFor 51 = .ok (.ireturn, 1) := by decide +kernel
theorem dX11_end_0 : decode cX11_end 0 = .ok (.iload_n 1, 1) := by decide +kernel
theorem dX11_end_1 : decode cX11_end 1 = .ok (.ifCond .lt 14, 3) := by decide +kernel
theorem dX11_end_4 : decode cX11_end 4 = .ok (.iload_n 1, 1) := by decide +kernel
theorem dX11_end_5 : decode cX11_end 5 = .ok (.aload_n 0, 1) := by decide +kernel
theorem dX11_end_6 : decode cX11_end 6 = .ok (.getfield 10, 3) := by decide +kernel
theorem dX11_end_9 : decode cX11_end 9 = .ok (.getfield 62, 3) := by decide +kernel
theorem dX11_end_12 : decode cX11_end 12 = .ok (.if_icmp .le 5, 3) := by decide +kernel
theorem dX11_end_15 : decode cX11_end 15 = .ok (.iconst (-1), 1) := by decide +kernel
theorem dX11_end_16 : decode cX11_end 16 = .ok (.ireturn, 1) := by decide +kernel
theorem dX11_end_17 : decode cX11_end 17 = .ok (.aload_n 0, 1) := by decide +kernel
theorem dX11_end_18 : decode cX11_end 18 = .ok (.getfield 10, 3) := by decide +kernel
theorem dX11_end_21 : decode cX11_end 21 = .ok (.iload_n 1, 1) := by decide +kernel
theorem dX11_end_22 : decode cX11_end 22 = .ok (.putfield 62, 3) := by decide +kernel
theorem dX11_end_25 : decode cX11_end 25 = .ok (.iload_n 1, 1) := by decide +kernel
theorem dX11_end_26 : decode cX11_end 26 = .ok (.ireturn, 1) := by decide +kernel
theorem dX8_put_0 : decode cX8_put 0 = .ok (.bipush 24, 2) := by decide +kernel
theorem dX8_put_2 : decode cX8_put 2 = .ok (.istore_n 2, 1) := by decide +kernel
theorem dX8_put_3 : decode cX8_put 3 = .ok (.iload_n 2, 1) := by decide +kernel
theorem dX8_put_4 : decode cX8_put 4 = .ok (.ifCond .lt 42, 3) := by decide +kernel
theorem dX8_put_7 : decode cX8_put 7 = .ok (.aload_n 0, 1) := by decide +kernel
theorem dX8_put_8 : decode cX8_put 8 = .ok (.getfield 70, 3) := by decide +kernel
theorem dX8_put_11 : decode cX8_put 11 = .ok (.sipush 600, 3) := by decide +kernel
theorem dX8_put_14 : decode cX8_put 14 = .ok (.if_icmp .ge 32, 3) := by decide +kernel
theorem dX8_put_17 : decode cX8_put 17 = .ok (.aload_n 0, 1) := by decide +kernel
theorem dX8_put_18 : decode cX8_put 18 = .ok (.getfield 9, 3) := by decide +kernel
theorem dX8_put_21 : decode cX8_put 21 = .ok (.aload_n 0, 1) := by decide +kernel
theorem dX8_put_22 : decode cX8_put 22 = .ok (.getfield 70, 3) := by decide +kernel
theorem dX8_put_25 : decode cX8_put 25 = .ok (.iload_n 1, 1) := by decide +kernel
theorem dX8_put_26 : decode cX8_put 26 = .ok (.iload_n 2, 1) := by decide +kernel
theorem dX8_put_27 : decode cX8_put 27 = .ok (.ishr, 1) := by decide +kernel
theorem dX8_put_28 : decode cX8_put 28 = .ok (.i2b, 1) := by decide +kernel
theorem dX8_put_29 : decode cX8_put 29 = .ok (.bastore, 1) := by decide +kernel
theorem dX8_put_30 : decode cX8_put 30 = .ok (.aload_n 0, 1) := by decide +kernel
theorem dX8_put_31 : decode cX8_put 31 = .ok (.dup, 1) := by decide +kernel
theorem dX8_put_32 : decode cX8_put 32 = .ok (.getfield 70, 3) := by decide +kernel
theorem dX8_put_35 : decode cX8_put 35 = .ok (.iconst 1, 1) := by decide +kernel
theorem dX8_put_36 : decode cX8_put 36 = .ok (.iadd, 1) := by decide +kernel
theorem dX8_put_37 : decode cX8_put 37 = .ok (.putfield 70, 3) := by decide +kernel
theorem dX8_put_40 : decode cX8_put 40 = .ok (.iinc 2 (-8), 3) := by decide +kernel
theorem dX8_put_43 : decode cX8_put 43 = .ok (.goto (-40), 3) := by decide +kernel
theorem dX8_put_46 : decode cX8_put 46 = .ok (.return_, 1) := by decide +kernel
theorem dX11_feed_0 : decode cX11_feed 0 = .ok (.aload_n 0, 1) := by decide +kernel
theorem dX11_feed_1 : decode cX11_feed 1 = .ok (.getfield 10, 3) := by decide +kernel
theorem dX11_feed_4 : decode cX11_feed 4 = .ok (.getfield 62, 3) := by decide +kernel
theorem dX11_feed_7 : decode cX11_feed 7 = .ok (.bipush 20, 2) := by decide +kernel
theorem dX11_feed_9 : decode cX11_feed 9 = .ok (.iadd, 1) := by decide +kernel
theorem dX11_feed_10 : decode cX11_feed 10 = .ok (.sipush 600, 3) := by decide +kernel
theorem dX11_feed_13 : decode cX11_feed 13 = .ok (.if_icmp .le 5, 3) := by decide +kernel
theorem dX11_feed_18 : decode cX11_feed 18 = .ok (.aload_n 0, 1) := by decide +kernel
theorem dX11_feed_19 : decode cX11_feed 19 = .ok (.getfield 10, 3) := by decide +kernel
theorem dX11_feed_22 : decode cX11_feed 22 = .ok (.iload_n 1, 1) := by decide +kernel
theorem dX11_feed_23 : decode cX11_feed 23 = .ok (.invokevirtual 66, 3) := by decide +kernel
theorem dX11_feed_26 : decode cX11_feed 26 = .ok (.aload_n 0, 1) := by decide +kernel
theorem dX11_feed_27 : decode cX11_feed 27 = .ok (.getfield 10, 3) := by decide +kernel
theorem dX11_feed_30 : decode cX11_feed 30 = .ok (.iload_n 2, 1) := by decide +kernel
theorem dX11_feed_31 : decode cX11_feed 31 = .ok (.invokevirtual 66, 3) := by decide +kernel
theorem dX11_feed_34 : decode cX11_feed 34 = .ok (.aload_n 0, 1) := by decide +kernel
theorem dX11_feed_35 : decode cX11_feed 35 = .ok (.getfield 10, 3) := by decide +kernel
theorem dX11_feed_38 : decode cX11_feed 38 = .ok (.iload_n 3, 1) := by decide +kernel
theorem dX11_feed_39 : decode cX11_feed 39 = .ok (.invokevirtual 66, 3) := by decide +kernel
theorem dX11_feed_42 : decode cX11_feed 42 = .ok (.aload_n 0, 1) := by decide +kernel
theorem dX11_feed_43 : decode cX11_feed 43 = .ok (.getfield 10, 3) := by decide +kernel
theorem dX11_feed_46 : decode cX11_feed 46 = .ok (.iload 4, 2) := by decide +kernel
theorem dX11_feed_48 : decode cX11_feed 48 = .ok (.invokevirtual 66, 3) := by decide +kernel
theorem dX11_feed_51 : decode cX11_feed 51 = .ok (.aload_n 0, 1) := by decide +kernel
theorem dX11_feed_52 : decode cX11_feed 52 = .ok (.getfield 10, 3) := by decide +kernel
theorem dX11_feed_55 : decode cX11_feed 55 = .ok (.iload 5, 2) := by decide +kernel
theorem dX11_feed_57 : decode cX11_feed 57 = .ok (.invokevirtual 66, 3) := by decide +kernel
theorem dX11_feed_60 : decode cX11_feed 60 = .ok (.aload_n 0, 1) := by decide +kernel
theorem dX11_feed_61 : decode cX11_feed 61 = .ok (.getfield 10, 3) := by decide +kernel
theorem dX11_feed_64 : decode cX11_feed 64 = .ok (.getfield 62, 3) := by decide +kernel
theorem dX11_feed_67 : decode cX11_feed 67 = .ok (.ireturn, 1) := by decide +kernel

def ws_c_count : List Cond := .code yX11_count cX11_count 2 (some .int) :: ([.fieldLink RX11 10 "HeightFine" "told" "LHeightFine$Told;", .fieldLink RX11 290 "HeightFine$Told" "counts" "[I"] ++ u_ws RX8 TX8 9 ++ u_ws RX11 TX11 8)
set_option maxRecDepth 20000 in
theorem in_c_count_8 : ∀ w ∈ u_ws RX8 TX8 9, w ∈ ws_c_count := by decide +kernel
set_option maxRecDepth 20000 in
theorem in_c_count_11 : ∀ w ∈ u_ws RX11 TX11 8, w ∈ ws_c_count := by decide +kernel
set_option maxHeartbeats 4000000 in
set_option maxRecDepth 100000 in
theorem c_count (l : Launch) (dC : Nat → ClassId) (dI : Nat → Nat → Nat) (k : Nat → ClassId) (h : Nat) (g0 : Nat) (g1 : Nat) (g2 : Nat) (g3 : Nat) (g4 : Nat) (g5 : Nat) (g6 : Nat) (g7 : Nat) (t0 : Nat) (t1 : Nat) (t2 : Nat) (t3 : Nat) (t4 : Nat) (t5 : Nat) (x6 : Int32) (x7 : Int32) (x8 : Int32) (p0 : Int32) : Met l yX11_count ws_c_count ({ frames := 0, cells := 0, slots := 0, locals := 0 }) (va_Pc [.ref h, .int p0] (prR dC dI k [(h, .inr (11, [.ref g0, .ref g1, .ref g2, .ref g3, .ref g4, .ref g5, .ref g6, .ref g7])), (g0, .inr (8, [.ref t0, .ref t1, .ref t2, .ref t3, .ref t4, .ref t5, .int x6, .int x7, .int x8])), (t1, .inl (k 0, 4, .inl (fun _ => 0)))])) (vp_Si (fun r => r = cnR p0)) 0 0 (fun _ => False) := by
  refine Met.ofW (cc := cX11_count) (maxL := 2) (ret := (some .int)) (by decide) rfl ?_
  intro p e s m args below meth c s₁ B hml hv
  obtain ⟨rfl, hP, hK⟩ := hv
  have hx := B.exec
  have hb := B.bytes
  have hr := B.returns
  have hts := atoms_spec (ws := ws_c_count) B.pre
  have hown : s.vm.findClass RX11 = some m.cls := findClass_of_methodNamed B.named
  have hi8 := in_c_count_8
  have hi11 := in_c_count_11
  have hP : va_P (dC, dI) vwCl [(h, .inr (11, [.ref g0, .ref g1, .ref g2, .ref g3, .ref g4, .ref g5, .ref g6, .ref g7])), (g0, .inr (8, [.ref t0, .ref t1, .ref t2, .ref t3, .ref t4, .ref t5, .int x6, .int x7, .int x8])), (t1, .inl (k 0, 4, .inl (fun _ => 0)))] s.heap := hP
  have hl := lv_entry ([.ref h, .int p0]) (n := 2) (Nat.le_of_ble_eq_true rfl)
  rw [lg_entry_eq]
  generalize (lg_sl ([.ref h, .int p0]) ++ List.replicate (2 - (lg_sl ([.ref h, .int p0])).length) Slot.unset).toArray = ls at hl ⊢
  have hl : lv_has ls 2 [(0, .ref h), (1, .int p0)] := hl
  refine lv_iload_n hx hb dX11_count_0 rfl (lv_at hl 1 rfl) ?_
  refine lv_if_lt (tgt := 9) hx hb dX11_count_1 (by decide) (fun c_1 => ?_) (fun c_1 => ?_)
  · refine lv_bipush (v := (-2)) hx hb dX11_count_9 (by decide) ?_
    refine lv_goto (tgt := 23) hx hb dX11_count_11 (by decide) ?_
    exact W.iret (v := (-2)) hx hb hr (fun t ht hW => ⟨(-2), rfl, by simp [cnR, c_1, Int32.not_le.mpr c_1], ht⟩) (fun q h => absurd h List.not_mem_nil) dX11_count_23
  · refine lv_iload_n hx hb dX11_count_4 rfl (lv_at hl 1 rfl) ?_
    refine lv_iconst (v := 4) hx hb dX11_count_5 (by decide) ?_
    refine lv_icmp_lt (tgt := 14) hx hb dX11_count_6 (by decide) (fun c_2 => ?_) (fun c_2 => ?_)
    · refine lv_aload_n hx hb dX11_count_14 rfl (lv_at hl 0 rfl) ?_
      refine va_get (D := (dC, dI)) (ci := 11) (v := .ref g0) (C := RX11) (T := TX11) (N := 8) hx hb hts hi11 hown hK hP 0 rfl rfl 0 (by decide) (hts (.fieldLink RX11 10 "HeightFine" "told" "LHeightFine$Told;") (by decide +kernel)) (fun _ h9 => h9) rfl dX11_count_15 ?_
      refine va_get (D := (dC, dI)) (ci := 8) (v := .ref t1) (C := RX8) (T := TX8) (N := 9) hx hb hts hi8 hown hK hP 1 rfl rfl 1 (by decide) (hts (.fieldLink RX11 290 "HeightFine$Told" "counts" "[I") (by decide +kernel)) (fun _ h9 => h9) rfl dX11_count_18 ?_
      refine lv_iload_n hx hb dX11_count_21 rfl (lv_at hl 1 rfl) ?_
      refine va_iald hx hb hK hP 2 0 rfl rfl (i := p0) (zz_inr 4 (by decide) c_1 (fun h9 => absurd c_2 (Int32.not_lt.mpr h9))) dX11_count_22 ?_
      refine W.eq (g2 := F0 m 23 ls [.int 0]) rfl ?_
      exact W.iret (v := 0) hx hb hr (fun t ht hW => ⟨0, rfl, by simp [cnR, c_1, c_2, Int32.not_le.mpr c_2, Int32.not_lt.mp c_1], ht⟩) (fun q h => absurd h List.not_mem_nil) dX11_count_23
    · refine lv_bipush (v := (-2)) hx hb dX11_count_9 (by decide) ?_
      refine lv_goto (tgt := 23) hx hb dX11_count_11 (by decide) ?_
      exact W.iret (v := (-2)) hx hb hr (fun t ht hW => ⟨(-2), rfl, by simp [cnR, c_1, c_2, Int32.not_lt.mp c_1, Int32.not_lt.mp c_2], ht⟩) (fun q h => absurd h List.not_mem_nil) dX11_count_23

def ws_c_fault : List Cond := .code yX11_fault cX11_fault 2 (some .int) :: ([.fieldLink RX11 10 "HeightFine" "told" "LHeightFine$Told;", .fieldLink RX11 73 "HeightFine$Told" "place" "I", .fieldLink RX11 70 "HeightFine$Told" "fault" "I"] ++ u_ws RX8 TX8 9 ++ u_ws RX11 TX11 8)
set_option maxRecDepth 20000 in
theorem in_c_fault_8 : ∀ w ∈ u_ws RX8 TX8 9, w ∈ ws_c_fault := by decide +kernel
set_option maxRecDepth 20000 in
theorem in_c_fault_11 : ∀ w ∈ u_ws RX11 TX11 8, w ∈ ws_c_fault := by decide +kernel
set_option maxHeartbeats 4000000 in
set_option maxRecDepth 100000 in
theorem c_fault (l : Launch) (dC : Nat → ClassId) (dI : Nat → Nat → Nat) (k : Nat → ClassId) (h : Nat) (g0 : Nat) (g1 : Nat) (g2 : Nat) (g3 : Nat) (g4 : Nat) (g5 : Nat) (g6 : Nat) (g7 : Nat) (t0 : Nat) (t1 : Nat) (t2 : Nat) (t3 : Nat) (t4 : Nat) (t5 : Nat) (x6 : Int32) (x7 : Int32) (x8 : Int32) (p0 : Int32) : Met l yX11_fault ws_c_fault ({ frames := 0, cells := 0, slots := 0, locals := 0 }) (va_Pc [.ref h, .int p0] (prR dC dI k [(h, .inr (11, [.ref g0, .ref g1, .ref g2, .ref g3, .ref g4, .ref g5, .ref g6, .ref g7])), (g0, .inr (8, [.ref t0, .ref t1, .ref t2, .ref t3, .ref t4, .ref t5, .int x6, .int x7, .int x8])), (t1, .inl (k 0, 4, .inl (fun _ => 0)))])) (vp_Si (fun r => r = faR p0 x7 x8)) 0 0 (fun _ => False) := by
  refine Met.ofW (cc := cX11_fault) (maxL := 2) (ret := (some .int)) (by decide) rfl ?_
  intro p e s m args below meth c s₁ B hml hv
  obtain ⟨rfl, hP, hK⟩ := hv
  have hx := B.exec
  have hb := B.bytes
  have hr := B.returns
  have hts := atoms_spec (ws := ws_c_fault) B.pre
  have hown : s.vm.findClass RX11 = some m.cls := findClass_of_methodNamed B.named
  have hi8 := in_c_fault_8
  have hi11 := in_c_fault_11
  have hP : va_P (dC, dI) vwCl [(h, .inr (11, [.ref g0, .ref g1, .ref g2, .ref g3, .ref g4, .ref g5, .ref g6, .ref g7])), (g0, .inr (8, [.ref t0, .ref t1, .ref t2, .ref t3, .ref t4, .ref t5, .int x6, .int x7, .int x8])), (t1, .inl (k 0, 4, .inl (fun _ => 0)))] s.heap := hP
  have hl := lv_entry ([.ref h, .int p0]) (n := 2) (Nat.le_of_ble_eq_true rfl)
  rw [lg_entry_eq]
  generalize (lg_sl ([.ref h, .int p0]) ++ List.replicate (2 - (lg_sl ([.ref h, .int p0])).length) Slot.unset).toArray = ls at hl ⊢
  have hl : lv_has ls 2 [(0, .ref h), (1, .int p0)] := hl
  refine lv_iload_n hx hb dX11_fault_0 rfl (lv_at hl 1 rfl) ?_
  refine lv_if_ne (tgt := 12) hx hb dX11_fault_1 (by decide) (fun c_1 => ?_) (fun c_1 => ?_)
  · refine lv_iload_n hx hb dX11_fault_12 rfl (lv_at hl 1 rfl) ?_
    refine lv_iconst (v := 1) hx hb dX11_fault_13 (by decide) ?_
    refine lv_icmp_ne (tgt := 27) hx hb dX11_fault_14 (by decide) (fun c_2 => ?_) (fun c_2 => ?_)
    · refine lv_iconst (v := (-1)) hx hb dX11_fault_27 (by decide) ?_
      exact W.iret (v := (-1)) hx hb hr (fun t ht hW => ⟨(-1), rfl, by simp [faR, c_1, c_2], ht⟩) (fun q h => absurd h List.not_mem_nil) dX11_fault_28
    · refine lv_aload_n hx hb dX11_fault_17 rfl (lv_at hl 0 rfl) ?_
      refine va_get (D := (dC, dI)) (ci := 11) (v := .ref g0) (C := RX11) (T := TX11) (N := 8) hx hb hts hi11 hown hK hP 0 rfl rfl 0 (by decide) (hts (.fieldLink RX11 10 "HeightFine" "told" "LHeightFine$Told;") (by decide +kernel)) (fun _ h9 => h9) rfl dX11_fault_18 ?_
      refine va_get (D := (dC, dI)) (ci := 8) (v := .int x8) (C := RX8) (T := TX8) (N := 9) hx hb hts hi8 hown hK hP 1 rfl rfl 8 (by decide) (hts (.fieldLink RX11 73 "HeightFine$Told" "place" "I") (by decide +kernel)) (fun _ h9 => h9) rfl dX11_fault_21 ?_
      refine lv_goto (tgt := 28) hx hb dX11_fault_24 (by decide) ?_
      exact W.iret (v := x8) hx hb hr (fun t ht hW => ⟨x8, rfl, by simp [faR, c_1, c_2], ht⟩) (fun q h => absurd h List.not_mem_nil) dX11_fault_28
  · refine lv_aload_n hx hb dX11_fault_4 rfl (lv_at hl 0 rfl) ?_
    refine va_get (D := (dC, dI)) (ci := 11) (v := .ref g0) (C := RX11) (T := TX11) (N := 8) hx hb hts hi11 hown hK hP 0 rfl rfl 0 (by decide) (hts (.fieldLink RX11 10 "HeightFine" "told" "LHeightFine$Told;") (by decide +kernel)) (fun _ h9 => h9) rfl dX11_fault_5 ?_
    refine va_get (D := (dC, dI)) (ci := 8) (v := .int x7) (C := RX8) (T := TX8) (N := 9) hx hb hts hi8 hown hK hP 1 rfl rfl 7 (by decide) (hts (.fieldLink RX11 70 "HeightFine$Told" "fault" "I") (by decide +kernel)) (fun _ h9 => h9) rfl dX11_fault_8 ?_
    exact W.iret (v := x7) hx hb hr (fun t ht hW => ⟨x7, rfl, by simp [faR, c_1], ht⟩) (fun q h => absurd h List.not_mem_nil) dX11_fault_11

def ws_c_again : List Cond := .code yX11_again cX11_again 2 (some .boolean) :: ([.fieldLink RX11 16 "HeightFine" "images" "[LHeightFine$Told;"] ++ u_ws RX11 TX11 8)
set_option maxRecDepth 20000 in
theorem in_c_again_11 : ∀ w ∈ u_ws RX11 TX11 8, w ∈ ws_c_again := by decide +kernel
set_option maxHeartbeats 4000000 in
set_option maxRecDepth 100000 in
theorem c_again (l : Launch) (dC : Nat → ClassId) (dI : Nat → Nat → Nat) (k : Nat → ClassId) (h : Nat) (g0 : Nat) (g1 : Nat) (g2 : Nat) (g3 : Nat) (g4 : Nat) (g5 : Nat) (g6 : Nat) (g7 : Nat) (p0 : Int32) : Met l yX11_again ws_c_again ({ frames := 0, cells := 0, slots := 0, locals := 0 }) (va_Pc [.ref h, .int p0] (prR dC dI k [(h, .inr (11, [.ref g0, .ref g1, .ref g2, .ref g3, .ref g4, .ref g5, .ref g6, .ref g7])), (g1, .inl (k 8, 3, .inr (.inr (.inr (.inr (fun _ => none))))))])) (vp_Si (fun r => r = 0)) 0 0 (fun _ => False) := by
  refine Met.ofW (cc := cX11_again) (maxL := 2) (ret := (some .boolean)) (by decide) rfl ?_
  intro p e s m args below meth c s₁ B hml hv
  obtain ⟨rfl, hP, hK⟩ := hv
  have hx := B.exec
  have hb := B.bytes
  have hr := B.returns
  have hts := atoms_spec (ws := ws_c_again) B.pre
  have hown : s.vm.findClass RX11 = some m.cls := findClass_of_methodNamed B.named
  have hi11 := in_c_again_11
  have hP : va_P (dC, dI) vwCl [(h, .inr (11, [.ref g0, .ref g1, .ref g2, .ref g3, .ref g4, .ref g5, .ref g6, .ref g7])), (g1, .inl (k 8, 3, .inr (.inr (.inr (.inr (fun _ => none))))))] s.heap := hP
  have hl := lv_entry ([.ref h, .int p0]) (n := 2) (Nat.le_of_ble_eq_true rfl)
  rw [lg_entry_eq]
  generalize (lg_sl ([.ref h, .int p0]) ++ List.replicate (2 - (lg_sl ([.ref h, .int p0])).length) Slot.unset).toArray = ls at hl ⊢
  have hl : lv_has ls 2 [(0, .ref h), (1, .int p0)] := hl
  refine lv_iload_n hx hb dX11_again_0 rfl (lv_at hl 1 rfl) ?_
  refine lv_if_lt (tgt := 18) hx hb dX11_again_1 (by decide) (fun c_1 => ?_) (fun c_1 => ?_)
  · refine lv_iconst (v := 0) hx hb dX11_again_18 (by decide) ?_
    exact W.zret (v := 0) hx hb hr rfl (fun t ht hW => ⟨0, rfl, rfl, ht⟩) (fun q h => absurd h List.not_mem_nil) dX11_again_19
  · refine lv_iload_n hx hb dX11_again_4 rfl (lv_at hl 1 rfl) ?_
    refine lv_iconst (v := 3) hx hb dX11_again_5 (by decide) ?_
    refine lv_icmp_ge (tgt := 18) hx hb dX11_again_6 (by decide) (fun c_2 => ?_) (fun c_2 => ?_)
    · refine lv_iconst (v := 0) hx hb dX11_again_18 (by decide) ?_
      exact W.zret (v := 0) hx hb hr rfl (fun t ht hW => ⟨0, rfl, rfl, ht⟩) (fun q h => absurd h List.not_mem_nil) dX11_again_19
    · refine lv_aload_n hx hb dX11_again_9 rfl (lv_at hl 0 rfl) ?_
      refine va_get (D := (dC, dI)) (ci := 11) (v := .ref g1) (C := RX11) (T := TX11) (N := 8) hx hb hts hi11 hown hK hP 0 rfl rfl 1 (by decide) (hts (.fieldLink RX11 16 "HeightFine" "images" "[LHeightFine$Told;") (by decide +kernel)) (fun _ h9 => h9) rfl dX11_again_10 ?_
      refine lv_iload_n hx hb dX11_again_13 rfl (lv_at hl 1 rfl) ?_
      refine va_aldq hx hb hK hP 1 8 rfl rfl (i := p0) (zz_inr 3 (by decide) c_1 c_2) dX11_again_14 ?_
      refine W.eq (g2 := F0 m 15 ls [.null]) rfl ?_
      refine lv_ifnonnullN hx hb dX11_again_15 ?_
      refine lv_iconst (v := 0) hx hb dX11_again_18 (by decide) ?_
      exact W.zret (v := 0) hx hb hr rfl (fun t ht hW => ⟨0, rfl, rfl, ht⟩) (fun q h => absurd h List.not_mem_nil) dX11_again_19

def ws_c_placeFor : List Cond := .code yX8_placeFor cX8_placeFor 3 (some .int) :: ([.methodLink RX8 76 yX8_holds, .instanceMethod yX8_holds, .selects RX8 yX8_holds yX8_holds, .initialized RX8, .code yX8_holds cX8_holds 3 (some .boolean), .fieldLink RX8 15 "HeightFine$Told" "counts" "[I"] ++ u_ws RX8 TX8 9)
set_option maxRecDepth 20000 in
theorem in_c_placeFor_8 : ∀ w ∈ u_ws RX8 TX8 9, w ∈ ws_c_placeFor := by decide +kernel
set_option maxRecDepth 20000 in
theorem gc_placeFor_c_holds : GoodIn ws_c_placeFor (wsV RX8 76 RX8 yX8_holds ws_c_holds) := goodIn_app (goodIn_of _ (by decide +kernel)) (goodIn_r _ [5, 6, 7, 8, 9, 10, 11, 12, 13, 14, 15] (by decide +kernel) (by decide +kernel))
set_option maxHeartbeats 4000000 in
set_option maxRecDepth 100000 in
theorem c_placeFor (l : Launch) (dC : Nat → ClassId) (dI : Nat → Nat → Nat) (k : Nat → ClassId) (h : Nat) (t0 : Nat) (t1 : Nat) (t2 : Nat) (t3 : Nat) (t4 : Nat) (t5 : Nat) (x6 : Int32) (x7 : Int32) (x8 : Int32) (p0 : Int32) (p1 : Int32) : Met l yX8_placeFor ws_c_placeFor ({ frames := 1, cells := 0, slots := 0, locals := 22 }) (va_Pc [.ref h, .int p0, .int p1] (prR dC dI k [(h, .inr (8, [.ref t0, .ref t1, .ref t2, .ref t3, .ref t4, .ref t5, .int x6, .int x7, .int x8])), (t1, .inl (k 0, 4, .inl (fun _ => 0)))])) (vp_Si (fun r => r = pfR p0 p1)) 0 0 (fun _ => False) := by
  refine Met.ofW (cc := cX8_placeFor) (maxL := 3) (ret := (some .int)) (by decide) rfl ?_
  intro p e s m args below meth c s₁ B hml hv
  obtain ⟨rfl, hP, hK⟩ := hv
  have hx := B.exec
  have hb := B.bytes
  have hr := B.returns
  have hts := atoms_spec (ws := ws_c_placeFor) B.pre
  have hown : s.vm.findClass RX8 = some m.cls := findClass_of_methodNamed B.named
  have hi8 := in_c_placeFor_8
  have hP : va_P (dC, dI) vwCl [(h, .inr (8, [.ref t0, .ref t1, .ref t2, .ref t3, .ref t4, .ref t5, .int x6, .int x7, .int x8])), (t1, .inl (k 0, 4, .inl (fun _ => 0)))] s.heap := hP
  have hl := lv_entry ([.ref h, .int p0, .int p1]) (n := 3) (Nat.le_of_ble_eq_true rfl)
  rw [lg_entry_eq]
  generalize (lg_sl ([.ref h, .int p0, .int p1]) ++ List.replicate (3 - (lg_sl ([.ref h, .int p0, .int p1])).length) Slot.unset).toArray = ls at hl ⊢
  have hl : lv_has ls 3 [(0, .ref h), (1, .int p0), (2, .int p1)] := hl
  refine lv_iload_n hx hb dX8_placeFor_0 rfl (lv_at hl 1 rfl) ?_
  refine lv_if_lt (tgt := 9) hx hb dX8_placeFor_1 (by decide) (fun c_1 => ?_) (fun c_1 => ?_)
  · refine lv_iconst (v := (-1)) hx hb dX8_placeFor_9 (by decide) ?_
    exact W.iret (v := (-1)) hx hb hr (fun t ht hW => ⟨(-1), rfl, by simp [pfR, c_1, Int32.not_le.mpr c_1], ht⟩) (fun q h => absurd h List.not_mem_nil) dX8_placeFor_10
  · refine lv_iload_n hx hb dX8_placeFor_4 rfl (lv_at hl 1 rfl) ?_
    refine lv_iconst (v := 4) hx hb dX8_placeFor_5 (by decide) ?_
    refine lv_icmp_lt (tgt := 11) hx hb dX8_placeFor_6 (by decide) (fun c_2 => ?_) (fun c_2 => ?_)
    · refine lv_iload_n hx hb dX8_placeFor_11 rfl (lv_at hl 2 rfl) ?_
      refine lv_iconst (v := (-1)) hx hb dX8_placeFor_12 (by decide) ?_
      refine lv_icmp_ne (tgt := 37) hx hb dX8_placeFor_13 (by decide) (fun c_3 => ?_) (fun c_3 => ?_)
      · refine lv_aload_n hx hb dX8_placeFor_37 rfl (lv_at hl 0 rfl) ?_
        refine lv_iload_n hx hb dX8_placeFor_38 rfl (lv_at hl 1 rfl) ?_
        refine lv_iload_n hx hb dX8_placeFor_39 rfl (lv_at hl 2 rfl) ?_
        have hPc := hP.sub (ws' := [(h, .inr (8, [.ref t0, .ref t1, .ref t2, .ref t3, .ref t4, .ref t5, .int x6, .int x7, .int x8])), (t1, .inl (k 0, 4, .inl (fun _ => 0)))]) [0, 1] rfl
        refine vp_callSi (W.runV (As := [.int p0, .int p1]) (rest := []) ⟨hx, hb, hml, hown, hts⟩ (c_holds l dC dI k h t0 t1 t2 t3 t4 t5 x6 x7 x8 p0 p1 (zz_inr 4 (by decide) c_1 (fun h9 => absurd c_2 (Int32.not_lt.mpr h9)))) (cwV 2 hts gc_placeFor_c_holds rfl rfl rfl (by decide +kernel) ⟨Nat.le_of_ble_eq_true rfl, Nat.le_of_ble_eq_true rfl⟩) ⟨prR_blind, va_recv hK hPc (ci := 8) (q0 := 0) rfl rfl, fun U hU hW => ⟨rfl, prR_go hPc hK hU hW⟩⟩ rfl rfl hl.1 rfl (lv_room (Nat.le_of_ble_eq_true rfl)) dX8_placeFor_40 ⟨by decide +kernel, by decide +kernel⟩) (fun r_4 er_4 => ?_)
        subst er_4
        refine W.eq (g2 := F0 m 43 ls [.int 0]) rfl ?_
        refine lv_if_eq (tgt := 50) hx hb dX8_placeFor_43 (by decide) (fun _ => ?_) (fun c_5 => absurd (by decide) c_5)
        refine lv_iconst (v := (-1)) hx hb dX8_placeFor_50 (by decide) ?_
        exact W.iret (v := (-1)) hx hb hr (fun t ht hW => ⟨(-1), rfl, by simp [pfR, c_1, c_2, c_3, Int32.not_le.mpr c_2, Int32.not_lt.mp c_1], ht⟩) (fun q h => absurd h List.not_mem_nil) dX8_placeFor_51
      · refine lv_aload_n hx hb dX8_placeFor_16 rfl (lv_at hl 0 rfl) ?_
        refine va_get (D := (dC, dI)) (ci := 8) (v := .ref t1) (C := RX8) (T := TX8) (N := 9) hx hb hts hi8 hown hK hP 0 rfl rfl 1 (by decide) (hts (.fieldLink RX8 15 "HeightFine$Told" "counts" "[I") (by decide +kernel)) (fun _ h9 => h9) rfl dX8_placeFor_17 ?_
        refine lv_iload_n hx hb dX8_placeFor_20 rfl (lv_at hl 1 rfl) ?_
        refine va_iald hx hb hK hP 1 0 rfl rfl (i := p0) (zz_inr 4 (by decide) c_1 (fun h9 => absurd c_2 (Int32.not_lt.mpr h9))) dX8_placeFor_21 ?_
        refine W.eq (g2 := F0 m 22 ls [.int 0]) rfl ?_
        refine lv_iconst (v := 2) hx hb dX8_placeFor_22 (by decide) ?_
        refine lv_icmp_ge (tgt := 35) hx hb dX8_placeFor_23 (by decide) (fun c_6 => absurd c_6 (by decide)) (fun _ => ?_)
        refine lv_aload_n hx hb dX8_placeFor_26 rfl (lv_at hl 0 rfl) ?_
        refine va_get (D := (dC, dI)) (ci := 8) (v := .ref t1) (C := RX8) (T := TX8) (N := 9) hx hb hts hi8 hown hK hP 0 rfl rfl 1 (by decide) (hts (.fieldLink RX8 15 "HeightFine$Told" "counts" "[I") (by decide +kernel)) (fun _ h9 => h9) rfl dX8_placeFor_27 ?_
        refine lv_iload_n hx hb dX8_placeFor_30 rfl (lv_at hl 1 rfl) ?_
        refine va_iald hx hb hK hP 1 0 rfl rfl (i := p0) (zz_inr 4 (by decide) c_1 (fun h9 => absurd c_2 (Int32.not_lt.mpr h9))) dX8_placeFor_31 ?_
        refine W.eq (g2 := F0 m 32 ls [.int 0]) rfl ?_
        refine lv_goto (tgt := 36) hx hb dX8_placeFor_32 (by decide) ?_
        exact W.iret (v := 0) hx hb hr (fun t ht hW => ⟨0, rfl, by simp [pfR, c_1, c_2, c_3, Int32.not_le.mpr c_2, Int32.not_lt.mp c_1], ht⟩) (fun q h => absurd h List.not_mem_nil) dX8_placeFor_36
    · refine lv_iconst (v := (-1)) hx hb dX8_placeFor_9 (by decide) ?_
      exact W.iret (v := (-1)) hx hb hr (fun t ht hW => ⟨(-1), rfl, by simp [pfR, c_1, c_2, Int32.not_lt.mp c_1, Int32.not_lt.mp c_2], ht⟩) (fun q h => absurd h List.not_mem_nil) dX8_placeFor_10

def ws_c_end : List Cond := .code yX11_end cX11_end 2 (some .int) :: ([.fieldLink RX11 10 "HeightFine" "told" "LHeightFine$Told;", .fieldLink RX11 62 "HeightFine$Told" "length" "I"] ++ u_ws RX8 TX8 9 ++ u_ws RX11 TX11 8)
set_option maxRecDepth 20000 in
theorem in_c_end_8 : ∀ w ∈ u_ws RX8 TX8 9, w ∈ ws_c_end := by decide +kernel
set_option maxRecDepth 20000 in
theorem in_c_end_11 : ∀ w ∈ u_ws RX11 TX11 8, w ∈ ws_c_end := by decide +kernel
set_option maxHeartbeats 4000000 in
set_option maxRecDepth 100000 in
theorem c_end (l : Launch) (dC : Nat → ClassId) (dI : Nat → Nat → Nat) (k : Nat → ClassId) (h : Nat) (g0 : Nat) (g1 : Nat) (g2 : Nat) (g3 : Nat) (g4 : Nat) (g5 : Nat) (g6 : Nat) (g7 : Nat) (t0 : Nat) (t1 : Nat) (t2 : Nat) (t3 : Nat) (t4 : Nat) (t5 : Nat) (x6 : Int32) (x7 : Int32) (x8 : Int32) (p0 : Int32) (sz : Nat) : Met l yX11_end ws_c_end ({ frames := 0, cells := 0, slots := 0, locals := 0 }) (va_Pc [.ref h, .int p0] (prW dC dI k [(h, .inr (11, [.ref g0, .ref g1, .ref g2, .ref g3, .ref g4, .ref g5, .ref g6, .ref g7])), (g0, .inr (8, [.ref t0, .ref t1, .ref t2, .ref t3, .ref t4, .ref t5, .int x6, .int x7, .int x8]))] sz)) (va_Qi (fun (r : Int32) (_ : Unit) => r = enR p0 x6) (fun (u : Unit) (t : State) => po (dC, dI) (va_A [(h, .inr (11, [.ref g0, .ref g1, .ref g2, .ref g3, .ref g4, .ref g5, .ref g6, .ref g7])), (g0, .inr (8, [.ref t0, .ref t1, .ref t2, .ref t3, .ref t4, .ref t5, .int x6, .int x7, .int x8]))] sz) [] t) (va_A [(h, .inr (11, [.ref g0, .ref g1, .ref g2, .ref g3, .ref g4, .ref g5, .ref g6, .ref g7])), (g0, .inr (8, [.ref t0, .ref t1, .ref t2, .ref t3, .ref t4, .ref t5, .int x6, .int x7, .int x8]))] sz)) 0 0 (va_A [(h, .inr (11, [.ref g0, .ref g1, .ref g2, .ref g3, .ref g4, .ref g5, .ref g6, .ref g7])), (g0, .inr (8, [.ref t0, .ref t1, .ref t2, .ref t3, .ref t4, .ref t5, .int x6, .int x7, .int x8]))] sz) := by
  refine Met.ofW (cc := cX11_end) (maxL := 2) (ret := (some .int)) (by decide) rfl ?_
  intro p e s m args below meth c s₁ B hml hv
  obtain ⟨rfl, hsz, hP, hK, hD0⟩ := hv
  have hx := B.exec
  have hb := B.bytes
  have hr := B.returns
  have hts := atoms_spec (ws := ws_c_end) B.pre
  have hown : s.vm.findClass RX11 = some m.cls := findClass_of_methodNamed B.named
  have hi8 := in_c_end_8
  have hi11 := in_c_end_11
  subst hsz
  have hD := hD0.self (sz := s.heap.size)
  generalize hAe : va_A [(h, .inr (11, [.ref g0, .ref g1, .ref g2, .ref g3, .ref g4, .ref g5, .ref g6, .ref g7])), (g0, .inr (8, [.ref t0, .ref t1, .ref t2, .ref t3, .ref t4, .ref t5, .int x6, .int x7, .int x8]))] s.heap.size = A at hD ⊢
  have hA : ∀ q : Nat, s.heap.size ≤ q → A q := fun q h => by rw [← hAe]; exact Or.inr h
  have hS : va_S A s.heap s.heap [] := va_S.rf
  have hP : va_P (dC, dI) vwCl [(h, .inr (11, [.ref g0, .ref g1, .ref g2, .ref g3, .ref g4, .ref g5, .ref g6, .ref g7])), (g0, .inr (8, [.ref t0, .ref t1, .ref t2, .ref t3, .ref t4, .ref t5, .int x6, .int x7, .int x8]))] s.heap := hP
  have hl := lv_entry ([.ref h, .int p0]) (n := 2) (Nat.le_of_ble_eq_true rfl)
  rw [lg_entry_eq]
  generalize (lg_sl ([.ref h, .int p0]) ++ List.replicate (2 - (lg_sl ([.ref h, .int p0])).length) Slot.unset).toArray = ls at hl ⊢
  have hl : lv_has ls 2 [(0, .ref h), (1, .int p0)] := hl
  refine lv_iload_n hx hb dX11_end_0 rfl (lv_at hl 1 rfl) ?_
  refine lv_if_lt (tgt := 15) hx hb dX11_end_1 (by decide) (fun c_1 => ?_) (fun c_1 => ?_)
  · refine lv_iconst (v := (-1)) hx hb dX11_end_15 (by decide) ?_
    have hP9 : va_P (dC, dI) vwCl [] s.heap := hP.sub (ws' := []) [] rfl
    have hD9 : va_D A [] := hD.sub (ws' := []) [] (by decide) rfl
    refine W.widen (k := 0) (n := 0) (by decide +kernel) (by decide +kernel) ?_
    exact W.iret (v := (-1)) hx hb hr (fun t ht hW => ⟨⟨(-1), (), rfl, by simp [enR, c_1, Int32.not_le.mpr c_1], by rw [ht]; exact hP9, hD9⟩, hS.F ht⟩) hS.2.2 dX11_end_16
  · refine lv_iload_n hx hb dX11_end_4 rfl (lv_at hl 1 rfl) ?_
    refine lv_aload_n hx hb dX11_end_5 rfl (lv_at hl 0 rfl) ?_
    refine va_get (D := (dC, dI)) (ci := 11) (v := .ref g0) (C := RX11) (T := TX11) (N := 8) hx hb hts hi11 hown hK hP 0 rfl rfl 0 (by decide) (hts (.fieldLink RX11 10 "HeightFine" "told" "LHeightFine$Told;") (by decide +kernel)) (fun _ h9 => h9) rfl dX11_end_6 ?_
    refine va_get (D := (dC, dI)) (ci := 8) (v := .int x6) (C := RX8) (T := TX8) (N := 9) hx hb hts hi8 hown hK hP 1 rfl rfl 6 (by decide) (hts (.fieldLink RX11 62 "HeightFine$Told" "length" "I") (by decide +kernel)) (fun _ h9 => h9) rfl dX11_end_9 ?_
    refine lv_icmp_le (tgt := 17) hx hb dX11_end_12 (by decide) (fun c_2 => ?_) (fun c_2 => ?_)
    · refine lv_aload_n hx hb dX11_end_17 rfl (lv_at hl 0 rfl) ?_
      refine va_get (D := (dC, dI)) (ci := 11) (v := .ref g0) (C := RX11) (T := TX11) (N := 8) hx hb hts hi11 hown hK hP 0 rfl rfl 0 (by decide) (hts (.fieldLink RX11 10 "HeightFine" "told" "LHeightFine$Told;") (by decide +kernel)) (fun _ h9 => h9) rfl dX11_end_18 ?_
      refine lv_iload_n hx hb dX11_end_21 rfl (lv_at hl 1 rfl) ?_
      refine va_put (D := (dC, dI)) (ci := 8) (v := .int p0) (ty := .int) (C := RX8) (T := TX8) (N := 9) hx hb hts hi8 tyX8 tyX8_ok nmX8 hown hK hP hD hS 1 rfl rfl 6 (by decide) (hts (.fieldLink RX11 62 "HeightFine$Told" "length" "I") (by decide +kernel)) (fun _ h9 => h9) rfl (by decide +kernel) rfl rfl (Nat.le_of_ble_eq_true rfl) dX11_end_22 (fun H locs hP hD hS => ?_)
      have hP : va_P (dC, dI) vwCl [(h, .inr (11, [.ref g0, .ref g1, .ref g2, .ref g3, .ref g4, .ref g5, .ref g6, .ref g7])), (g0, .inr (8, [.ref t0, .ref t1, .ref t2, .ref t3, .ref t4, .ref t5, .int p0, .int x7, .int x8]))] H := hP
      have hD : va_D A [(h, .inr (11, [.ref g0, .ref g1, .ref g2, .ref g3, .ref g4, .ref g5, .ref g6, .ref g7])), (g0, .inr (8, [.ref t0, .ref t1, .ref t2, .ref t3, .ref t4, .ref t5, .int p0, .int x7, .int x8]))] := hD
      refine lv_iload_n hx hb dX11_end_25 rfl (lv_at hl 1 rfl) ?_
      have hP9 : va_P (dC, dI) vwCl [] H := hP.sub (ws' := []) [] rfl
      have hD9 : va_D A [] := hD.sub (ws' := []) [] (by decide) rfl
      refine W.widen (k := 0) (n := 0) (by decide +kernel) (by decide +kernel) ?_
      exact W.iret (v := p0) hx hb hr (fun t ht hW => ⟨⟨p0, (), rfl, by simp [enR, c_1, c_2, Int32.not_lt.mp c_1, Int32.not_lt.mpr c_2], by rw [ht]; exact hP9, hD9⟩, hS.F ht⟩) hS.2.2 dX11_end_26
    · refine lv_iconst (v := (-1)) hx hb dX11_end_15 (by decide) ?_
      have hP9 : va_P (dC, dI) vwCl [] s.heap := hP.sub (ws' := []) [] rfl
      have hD9 : va_D A [] := hD.sub (ws' := []) [] (by decide) rfl
      refine W.widen (k := 0) (n := 0) (by decide +kernel) (by decide +kernel) ?_
      exact W.iret (v := (-1)) hx hb hr (fun t ht hW => ⟨⟨(-1), (), rfl, by simp [enR, c_1, c_2, Int32.not_lt.mp c_1, Int32.not_le.mp c_2], by rw [ht]; exact hP9, hD9⟩, hS.F ht⟩) hS.2.2 dX11_end_16

def ws_c_put : List Cond := .code yX8_put cX8_put 3 none :: ([.fieldLink RX8 70 "HeightFine$Told" "length" "I", .fieldLink RX8 9 "HeightFine$Told" "tape" "[B"] ++ u_ws RX8 TX8 9)
set_option maxRecDepth 20000 in
theorem in_c_put_8 : ∀ w ∈ u_ws RX8 TX8 9, w ∈ ws_c_put := by decide +kernel
set_option maxHeartbeats 4000000 in
set_option maxRecDepth 100000 in
theorem c_put (l : Launch) (dC : Nat → ClassId) (dI : Nat → Nat → Nat) (k : Nat → ClassId) (h : Nat) (t0 : Nat) (t1 : Nat) (t2 : Nat) (t3 : Nat) (t4 : Nat) (t5 : Nat) (x6 : Int32) (x7 : Int32) (x8 : Int32) (f : Nat → Int32) (v : Int32) (b0 : ¬ (600 : Int32) ≤ x6) (b1 : ¬ (600 : Int32) ≤ (x6 + 1)) (b2 : ¬ (600 : Int32) ≤ ((x6 + 1) + 1)) (b3 : ¬ (600 : Int32) ≤ (((x6 + 1) + 1) + 1)) (i0 : vp_in x6 600) (i1 : vp_in (x6 + 1) 600) (i2 : vp_in ((x6 + 1) + 1) 600) (i3 : vp_in (((x6 + 1) + 1) + 1) 600) (sz : Nat) : Met l yX8_put ws_c_put ({ frames := 0, cells := 0, slots := 0, locals := 0 }) (va_Pc [.ref h, .int v] (prW dC dI k [(h, .inr (8, [.ref t0, .ref t1, .ref t2, .ref t3, .ref t4, .ref t5, .int x6, .int x7, .int x8])), (t0, .inl (k 1, 600, .inl f))] sz)) (va_Qv (fun (_ : (Nat → Int32)) => True) (fun (g : (Nat → Int32)) (t : State) => po (dC, dI) (va_A [(h, .inr (8, [.ref t0, .ref t1, .ref t2, .ref t3, .ref t4, .ref t5, .int x6, .int x7, .int x8])), (t0, .inl (k 1, 600, .inl f))] sz) [(h, .inr (8, [.ref t0, .ref t1, .ref t2, .ref t3, .ref t4, .ref t5, .int ((((x6 + 1) + 1) + 1) + 1), .int x7, .int x8])), (t0, .inl (k 1, 600, .inl g))] t) (va_A [(h, .inr (8, [.ref t0, .ref t1, .ref t2, .ref t3, .ref t4, .ref t5, .int x6, .int x7, .int x8])), (t0, .inl (k 1, 600, .inl f))] sz)) 0 0 (va_A [(h, .inr (8, [.ref t0, .ref t1, .ref t2, .ref t3, .ref t4, .ref t5, .int x6, .int x7, .int x8])), (t0, .inl (k 1, 600, .inl f))] sz) := by
  refine Met.ofW (cc := cX8_put) (maxL := 3) (ret := none) (by decide) rfl ?_
  intro p e s m args below meth c s₁ B hml hv
  obtain ⟨rfl, hsz, hP, hK, hD0⟩ := hv
  have hx := B.exec
  have hb := B.bytes
  have hr := B.returns
  have hts := atoms_spec (ws := ws_c_put) B.pre
  have hown : s.vm.findClass RX8 = some m.cls := findClass_of_methodNamed B.named
  have hi8 := in_c_put_8
  subst hsz
  have hD := hD0.self (sz := s.heap.size)
  generalize hAe : va_A [(h, .inr (8, [.ref t0, .ref t1, .ref t2, .ref t3, .ref t4, .ref t5, .int x6, .int x7, .int x8])), (t0, .inl (k 1, 600, .inl f))] s.heap.size = A at hD ⊢
  have hA : ∀ q : Nat, s.heap.size ≤ q → A q := fun q h => by rw [← hAe]; exact Or.inr h
  have hS : va_S A s.heap s.heap [] := va_S.rf
  have hP : va_P (dC, dI) vwCl [(h, .inr (8, [.ref t0, .ref t1, .ref t2, .ref t3, .ref t4, .ref t5, .int x6, .int x7, .int x8])), (t0, .inl (k 1, 600, .inl f))] s.heap := hP
  have hl := lv_entry ([.ref h, .int v]) (n := 3) (Nat.le_of_ble_eq_true rfl)
  rw [lg_entry_eq]
  generalize (lg_sl ([.ref h, .int v]) ++ List.replicate (3 - (lg_sl ([.ref h, .int v])).length) Slot.unset).toArray = ls at hl ⊢
  have hl : lv_has ls 3 [(0, .ref h), (1, .int v)] := hl
  refine lv_bipush (v := 24) hx hb dX8_put_0 (by decide) ?_
  refine lv_istore_n (lv' := [(2, .int 24), (0, .ref h), (1, .int v)]) hx hb dX8_put_2 rfl hl (by decide) rfl (fun ls hl => ?_)
  refine lv_iload_n hx hb dX8_put_3 rfl (lv_at hl 0 rfl) ?_
  refine lv_if_lt (tgt := 46) hx hb dX8_put_4 (by decide) (fun c_1 => absurd c_1 (by decide)) (fun _ => ?_)
  refine lv_aload_n hx hb dX8_put_7 rfl (lv_at hl 1 rfl) ?_
  refine va_get (D := (dC, dI)) (ci := 8) (v := .int x6) (C := RX8) (T := TX8) (N := 9) hx hb hts hi8 hown hK hP 0 rfl rfl 6 (by decide) (hts (.fieldLink RX8 70 "HeightFine$Told" "length" "I") (by decide +kernel)) (fun _ h9 => h9) rfl dX8_put_8 ?_
  refine lv_sipush (v := 600) hx hb dX8_put_11 (by decide) ?_
  refine lv_icmp_ge (tgt := 46) hx hb dX8_put_14 (by decide) (fun c_2 => absurd c_2 b0) (fun _ => ?_)
  refine lv_aload_n hx hb dX8_put_17 rfl (lv_at hl 1 rfl) ?_
  refine va_get (D := (dC, dI)) (ci := 8) (v := .ref t0) (C := RX8) (T := TX8) (N := 9) hx hb hts hi8 hown hK hP 0 rfl rfl 0 (by decide) (hts (.fieldLink RX8 9 "HeightFine$Told" "tape" "[B") (by decide +kernel)) (fun _ h9 => h9) rfl dX8_put_18 ?_
  refine lv_aload_n hx hb dX8_put_21 rfl (lv_at hl 1 rfl) ?_
  refine va_get (D := (dC, dI)) (ci := 8) (v := .int x6) (C := RX8) (T := TX8) (N := 9) hx hb hts hi8 hown hK hP 0 rfl rfl 6 (by decide) (hts (.fieldLink RX8 70 "HeightFine$Told" "length" "I") (by decide +kernel)) (fun _ h9 => h9) rfl dX8_put_22 ?_
  refine lv_iload_n hx hb dX8_put_25 rfl (lv_at hl 2 rfl) ?_
  refine lv_iload_n hx hb dX8_put_26 rfl (lv_at hl 0 rfl) ?_
  refine lv_ishr hx hb dX8_put_27 ?_
  refine lv_topi (fun z_3 _ => ?_)
  refine lv_i2b (v := (z_3).toInt8.toInt32) hx hb dX8_put_28 rfl ?_
  refine lv_topi (fun z_4 _ => ?_)
  refine va_bast hx hb hK hP hD hS 1 1 rfl rfl (i := x6) (x := z_4) i0 dX8_put_29 (fun H locs hP hD hS => ?_)
  obtain ⟨f_5, hP, hD⟩ := zz_anyc hP hD
  have hP : va_P (dC, dI) vwCl [(h, .inr (8, [.ref t0, .ref t1, .ref t2, .ref t3, .ref t4, .ref t5, .int x6, .int x7, .int x8])), (t0, .inl (k 1, 600, .inl f_5))] H := hP
  have hD : va_D A [(h, .inr (8, [.ref t0, .ref t1, .ref t2, .ref t3, .ref t4, .ref t5, .int x6, .int x7, .int x8])), (t0, .inl (k 1, 600, .inl f_5))] := hD
  refine lv_aload_n hx hb dX8_put_30 rfl (lv_at hl 1 rfl) ?_
  refine lv_dup hx hb dX8_put_31 rfl ?_
  refine va_get (D := (dC, dI)) (ci := 8) (v := .int x6) (C := RX8) (T := TX8) (N := 9) hx hb hts hi8 hown hK hP 0 rfl rfl 6 (by decide) (hts (.fieldLink RX8 70 "HeightFine$Told" "length" "I") (by decide +kernel)) (fun _ h9 => h9) rfl dX8_put_32 ?_
  refine lv_iconst (v := 1) hx hb dX8_put_35 (by decide) ?_
  refine lv_iadd hx hb dX8_put_36 ?_
  refine va_put (D := (dC, dI)) (ci := 8) (v := .int (x6 + 1)) (ty := .int) (C := RX8) (T := TX8) (N := 9) hx hb hts hi8 tyX8 tyX8_ok nmX8 hown hK hP hD hS 0 rfl rfl 6 (by decide) (hts (.fieldLink RX8 70 "HeightFine$Told" "length" "I") (by decide +kernel)) (fun _ h9 => h9) rfl (by decide +kernel) rfl rfl (Nat.le_of_ble_eq_true rfl) dX8_put_37 (fun H locs hP hD hS => ?_)
  have hP : va_P (dC, dI) vwCl [(h, .inr (8, [.ref t0, .ref t1, .ref t2, .ref t3, .ref t4, .ref t5, .int (x6 + 1), .int x7, .int x8])), (t0, .inl (k 1, 600, .inl f_5))] H := hP
  have hD : va_D A [(h, .inr (8, [.ref t0, .ref t1, .ref t2, .ref t3, .ref t4, .ref t5, .int (x6 + 1), .int x7, .int x8])), (t0, .inl (k 1, 600, .inl f_5))] := hD
  refine lv_iinc (v := 16) (lv' := [(2, .int 16), (0, .ref h), (1, .int v)]) hx hb dX8_put_40 hl (k := 0) rfl (by decide) (by decide) rfl (fun ls hl => ?_)
  refine lv_goto (tgt := 3) hx hb dX8_put_43 (by decide) ?_
  refine lv_iload_n hx hb dX8_put_3 rfl (lv_at hl 0 rfl) ?_
  refine lv_if_lt (tgt := 46) hx hb dX8_put_4 (by decide) (fun c_6 => absurd c_6 (by decide)) (fun _ => ?_)
  refine lv_aload_n hx hb dX8_put_7 rfl (lv_at hl 1 rfl) ?_
  refine va_get (D := (dC, dI)) (ci := 8) (v := .int (x6 + 1)) (C := RX8) (T := TX8) (N := 9) hx hb hts hi8 hown hK hP 0 rfl rfl 6 (by decide) (hts (.fieldLink RX8 70 "HeightFine$Told" "length" "I") (by decide +kernel)) (fun _ h9 => h9) rfl dX8_put_8 ?_
  refine lv_sipush (v := 600) hx hb dX8_put_11 (by decide) ?_
  refine lv_icmp_ge (tgt := 46) hx hb dX8_put_14 (by decide) (fun c_7 => absurd c_7 b1) (fun _ => ?_)
  refine lv_aload_n hx hb dX8_put_17 rfl (lv_at hl 1 rfl) ?_
  refine va_get (D := (dC, dI)) (ci := 8) (v := .ref t0) (C := RX8) (T := TX8) (N := 9) hx hb hts hi8 hown hK hP 0 rfl rfl 0 (by decide) (hts (.fieldLink RX8 9 "HeightFine$Told" "tape" "[B") (by decide +kernel)) (fun _ h9 => h9) rfl dX8_put_18 ?_
  refine lv_aload_n hx hb dX8_put_21 rfl (lv_at hl 1 rfl) ?_
  refine va_get (D := (dC, dI)) (ci := 8) (v := .int (x6 + 1)) (C := RX8) (T := TX8) (N := 9) hx hb hts hi8 hown hK hP 0 rfl rfl 6 (by decide) (hts (.fieldLink RX8 70 "HeightFine$Told" "length" "I") (by decide +kernel)) (fun _ h9 => h9) rfl dX8_put_22 ?_
  refine lv_iload_n hx hb dX8_put_25 rfl (lv_at hl 2 rfl) ?_
  refine lv_iload_n hx hb dX8_put_26 rfl (lv_at hl 0 rfl) ?_
  refine lv_ishr hx hb dX8_put_27 ?_
  refine lv_topi (fun z_8 _ => ?_)
  refine lv_i2b (v := (z_8).toInt8.toInt32) hx hb dX8_put_28 rfl ?_
  refine lv_topi (fun z_9 _ => ?_)
  refine va_bast hx hb hK hP hD hS 1 1 rfl rfl (i := x6 + 1) (x := z_9) i1 dX8_put_29 (fun H locs hP hD hS => ?_)
  obtain ⟨f_10, hP, hD⟩ := zz_anyc hP hD
  have hP : va_P (dC, dI) vwCl [(h, .inr (8, [.ref t0, .ref t1, .ref t2, .ref t3, .ref t4, .ref t5, .int (x6 + 1), .int x7, .int x8])), (t0, .inl (k 1, 600, .inl f_10))] H := hP
  have hD : va_D A [(h, .inr (8, [.ref t0, .ref t1, .ref t2, .ref t3, .ref t4, .ref t5, .int (x6 + 1), .int x7, .int x8])), (t0, .inl (k 1, 600, .inl f_10))] := hD
  refine lv_aload_n hx hb dX8_put_30 rfl (lv_at hl 1 rfl) ?_
  refine lv_dup hx hb dX8_put_31 rfl ?_
  refine va_get (D := (dC, dI)) (ci := 8) (v := .int (x6 + 1)) (C := RX8) (T := TX8) (N := 9) hx hb hts hi8 hown hK hP 0 rfl rfl 6 (by decide) (hts (.fieldLink RX8 70 "HeightFine$Told" "length" "I") (by decide +kernel)) (fun _ h9 => h9) rfl dX8_put_32 ?_
  refine lv_iconst (v := 1) hx hb dX8_put_35 (by decide) ?_
  refine lv_iadd hx hb dX8_put_36 ?_
  refine va_put (D := (dC, dI)) (ci := 8) (v := .int ((x6 + 1) + 1)) (ty := .int) (C := RX8) (T := TX8) (N := 9) hx hb hts hi8 tyX8 tyX8_ok nmX8 hown hK hP hD hS 0 rfl rfl 6 (by decide) (hts (.fieldLink RX8 70 "HeightFine$Told" "length" "I") (by decide +kernel)) (fun _ h9 => h9) rfl (by decide +kernel) rfl rfl (Nat.le_of_ble_eq_true rfl) dX8_put_37 (fun H locs hP hD hS => ?_)
  have hP : va_P (dC, dI) vwCl [(h, .inr (8, [.ref t0, .ref t1, .ref t2, .ref t3, .ref t4, .ref t5, .int ((x6 + 1) + 1), .int x7, .int x8])), (t0, .inl (k 1, 600, .inl f_10))] H := hP
  have hD : va_D A [(h, .inr (8, [.ref t0, .ref t1, .ref t2, .ref t3, .ref t4, .ref t5, .int ((x6 + 1) + 1), .int x7, .int x8])), (t0, .inl (k 1, 600, .inl f_10))] := hD
  refine lv_iinc (v := 8) (lv' := [(2, .int 8), (0, .ref h), (1, .int v)]) hx hb dX8_put_40 hl (k := 0) rfl (by decide) (by decide) rfl (fun ls hl => ?_)
  refine lv_goto (tgt := 3) hx hb dX8_put_43 (by decide) ?_
  refine lv_iload_n hx hb dX8_put_3 rfl (lv_at hl 0 rfl) ?_
  refine lv_if_lt (tgt := 46) hx hb dX8_put_4 (by decide) (fun c_11 => absurd c_11 (by decide)) (fun _ => ?_)
  refine lv_aload_n hx hb dX8_put_7 rfl (lv_at hl 1 rfl) ?_
  refine va_get (D := (dC, dI)) (ci := 8) (v := .int ((x6 + 1) + 1)) (C := RX8) (T := TX8) (N := 9) hx hb hts hi8 hown hK hP 0 rfl rfl 6 (by decide) (hts (.fieldLink RX8 70 "HeightFine$Told" "length" "I") (by decide +kernel)) (fun _ h9 => h9) rfl dX8_put_8 ?_
  refine lv_sipush (v := 600) hx hb dX8_put_11 (by decide) ?_
  refine lv_icmp_ge (tgt := 46) hx hb dX8_put_14 (by decide) (fun c_12 => absurd c_12 b2) (fun _ => ?_)
  refine lv_aload_n hx hb dX8_put_17 rfl (lv_at hl 1 rfl) ?_
  refine va_get (D := (dC, dI)) (ci := 8) (v := .ref t0) (C := RX8) (T := TX8) (N := 9) hx hb hts hi8 hown hK hP 0 rfl rfl 0 (by decide) (hts (.fieldLink RX8 9 "HeightFine$Told" "tape" "[B") (by decide +kernel)) (fun _ h9 => h9) rfl dX8_put_18 ?_
  refine lv_aload_n hx hb dX8_put_21 rfl (lv_at hl 1 rfl) ?_
  refine va_get (D := (dC, dI)) (ci := 8) (v := .int ((x6 + 1) + 1)) (C := RX8) (T := TX8) (N := 9) hx hb hts hi8 hown hK hP 0 rfl rfl 6 (by decide) (hts (.fieldLink RX8 70 "HeightFine$Told" "length" "I") (by decide +kernel)) (fun _ h9 => h9) rfl dX8_put_22 ?_
  refine lv_iload_n hx hb dX8_put_25 rfl (lv_at hl 2 rfl) ?_
  refine lv_iload_n hx hb dX8_put_26 rfl (lv_at hl 0 rfl) ?_
  refine lv_ishr hx hb dX8_put_27 ?_
  refine lv_topi (fun z_13 _ => ?_)
  refine lv_i2b (v := (z_13).toInt8.toInt32) hx hb dX8_put_28 rfl ?_
  refine lv_topi (fun z_14 _ => ?_)
  refine va_bast hx hb hK hP hD hS 1 1 rfl rfl (i := (x6 + 1) + 1) (x := z_14) i2 dX8_put_29 (fun H locs hP hD hS => ?_)
  obtain ⟨f_15, hP, hD⟩ := zz_anyc hP hD
  have hP : va_P (dC, dI) vwCl [(h, .inr (8, [.ref t0, .ref t1, .ref t2, .ref t3, .ref t4, .ref t5, .int ((x6 + 1) + 1), .int x7, .int x8])), (t0, .inl (k 1, 600, .inl f_15))] H := hP
  have hD : va_D A [(h, .inr (8, [.ref t0, .ref t1, .ref t2, .ref t3, .ref t4, .ref t5, .int ((x6 + 1) + 1), .int x7, .int x8])), (t0, .inl (k 1, 600, .inl f_15))] := hD
  refine lv_aload_n hx hb dX8_put_30 rfl (lv_at hl 1 rfl) ?_
  refine lv_dup hx hb dX8_put_31 rfl ?_
  refine va_get (D := (dC, dI)) (ci := 8) (v := .int ((x6 + 1) + 1)) (C := RX8) (T := TX8) (N := 9) hx hb hts hi8 hown hK hP 0 rfl rfl 6 (by decide) (hts (.fieldLink RX8 70 "HeightFine$Told" "length" "I") (by decide +kernel)) (fun _ h9 => h9) rfl dX8_put_32 ?_
  refine lv_iconst (v := 1) hx hb dX8_put_35 (by decide) ?_
  refine lv_iadd hx hb dX8_put_36 ?_
  refine va_put (D := (dC, dI)) (ci := 8) (v := .int (((x6 + 1) + 1) + 1)) (ty := .int) (C := RX8) (T := TX8) (N := 9) hx hb hts hi8 tyX8 tyX8_ok nmX8 hown hK hP hD hS 0 rfl rfl 6 (by decide) (hts (.fieldLink RX8 70 "HeightFine$Told" "length" "I") (by decide +kernel)) (fun _ h9 => h9) rfl (by decide +kernel) rfl rfl (Nat.le_of_ble_eq_true rfl) dX8_put_37 (fun H locs hP hD hS => ?_)
  have hP : va_P (dC, dI) vwCl [(h, .inr (8, [.ref t0, .ref t1, .ref t2, .ref t3, .ref t4, .ref t5, .int (((x6 + 1) + 1) + 1), .int x7, .int x8])), (t0, .inl (k 1, 600, .inl f_15))] H := hP
  have hD : va_D A [(h, .inr (8, [.ref t0, .ref t1, .ref t2, .ref t3, .ref t4, .ref t5, .int (((x6 + 1) + 1) + 1), .int x7, .int x8])), (t0, .inl (k 1, 600, .inl f_15))] := hD
  refine lv_iinc (v := 0) (lv' := [(2, .int 0), (0, .ref h), (1, .int v)]) hx hb dX8_put_40 hl (k := 0) rfl (by decide) (by decide) rfl (fun ls hl => ?_)
  refine lv_goto (tgt := 3) hx hb dX8_put_43 (by decide) ?_
  refine lv_iload_n hx hb dX8_put_3 rfl (lv_at hl 0 rfl) ?_
  refine lv_if_lt (tgt := 46) hx hb dX8_put_4 (by decide) (fun c_16 => absurd c_16 (by decide)) (fun _ => ?_)
  refine lv_aload_n hx hb dX8_put_7 rfl (lv_at hl 1 rfl) ?_
  refine va_get (D := (dC, dI)) (ci := 8) (v := .int (((x6 + 1) + 1) + 1)) (C := RX8) (T := TX8) (N := 9) hx hb hts hi8 hown hK hP 0 rfl rfl 6 (by decide) (hts (.fieldLink RX8 70 "HeightFine$Told" "length" "I") (by decide +kernel)) (fun _ h9 => h9) rfl dX8_put_8 ?_
  refine lv_sipush (v := 600) hx hb dX8_put_11 (by decide) ?_
  refine lv_icmp_ge (tgt := 46) hx hb dX8_put_14 (by decide) (fun c_17 => absurd c_17 b3) (fun _ => ?_)
  refine lv_aload_n hx hb dX8_put_17 rfl (lv_at hl 1 rfl) ?_
  refine va_get (D := (dC, dI)) (ci := 8) (v := .ref t0) (C := RX8) (T := TX8) (N := 9) hx hb hts hi8 hown hK hP 0 rfl rfl 0 (by decide) (hts (.fieldLink RX8 9 "HeightFine$Told" "tape" "[B") (by decide +kernel)) (fun _ h9 => h9) rfl dX8_put_18 ?_
  refine lv_aload_n hx hb dX8_put_21 rfl (lv_at hl 1 rfl) ?_
  refine va_get (D := (dC, dI)) (ci := 8) (v := .int (((x6 + 1) + 1) + 1)) (C := RX8) (T := TX8) (N := 9) hx hb hts hi8 hown hK hP 0 rfl rfl 6 (by decide) (hts (.fieldLink RX8 70 "HeightFine$Told" "length" "I") (by decide +kernel)) (fun _ h9 => h9) rfl dX8_put_22 ?_
  refine lv_iload_n hx hb dX8_put_25 rfl (lv_at hl 2 rfl) ?_
  refine lv_iload_n hx hb dX8_put_26 rfl (lv_at hl 0 rfl) ?_
  refine lv_ishr hx hb dX8_put_27 ?_
  refine lv_topi (fun z_18 _ => ?_)
  refine lv_i2b (v := (z_18).toInt8.toInt32) hx hb dX8_put_28 rfl ?_
  refine lv_topi (fun z_19 _ => ?_)
  refine va_bast hx hb hK hP hD hS 1 1 rfl rfl (i := ((x6 + 1) + 1) + 1) (x := z_19) i3 dX8_put_29 (fun H locs hP hD hS => ?_)
  obtain ⟨f_20, hP, hD⟩ := zz_anyc hP hD
  have hP : va_P (dC, dI) vwCl [(h, .inr (8, [.ref t0, .ref t1, .ref t2, .ref t3, .ref t4, .ref t5, .int (((x6 + 1) + 1) + 1), .int x7, .int x8])), (t0, .inl (k 1, 600, .inl f_20))] H := hP
  have hD : va_D A [(h, .inr (8, [.ref t0, .ref t1, .ref t2, .ref t3, .ref t4, .ref t5, .int (((x6 + 1) + 1) + 1), .int x7, .int x8])), (t0, .inl (k 1, 600, .inl f_20))] := hD
  refine lv_aload_n hx hb dX8_put_30 rfl (lv_at hl 1 rfl) ?_
  refine lv_dup hx hb dX8_put_31 rfl ?_
  refine va_get (D := (dC, dI)) (ci := 8) (v := .int (((x6 + 1) + 1) + 1)) (C := RX8) (T := TX8) (N := 9) hx hb hts hi8 hown hK hP 0 rfl rfl 6 (by decide) (hts (.fieldLink RX8 70 "HeightFine$Told" "length" "I") (by decide +kernel)) (fun _ h9 => h9) rfl dX8_put_32 ?_
  refine lv_iconst (v := 1) hx hb dX8_put_35 (by decide) ?_
  refine lv_iadd hx hb dX8_put_36 ?_
  refine va_put (D := (dC, dI)) (ci := 8) (v := .int ((((x6 + 1) + 1) + 1) + 1)) (ty := .int) (C := RX8) (T := TX8) (N := 9) hx hb hts hi8 tyX8 tyX8_ok nmX8 hown hK hP hD hS 0 rfl rfl 6 (by decide) (hts (.fieldLink RX8 70 "HeightFine$Told" "length" "I") (by decide +kernel)) (fun _ h9 => h9) rfl (by decide +kernel) rfl rfl (Nat.le_of_ble_eq_true rfl) dX8_put_37 (fun H locs hP hD hS => ?_)
  have hP : va_P (dC, dI) vwCl [(h, .inr (8, [.ref t0, .ref t1, .ref t2, .ref t3, .ref t4, .ref t5, .int ((((x6 + 1) + 1) + 1) + 1), .int x7, .int x8])), (t0, .inl (k 1, 600, .inl f_20))] H := hP
  have hD : va_D A [(h, .inr (8, [.ref t0, .ref t1, .ref t2, .ref t3, .ref t4, .ref t5, .int ((((x6 + 1) + 1) + 1) + 1), .int x7, .int x8])), (t0, .inl (k 1, 600, .inl f_20))] := hD
  refine lv_iinc (v := (-8)) (lv' := [(2, .int (-8)), (0, .ref h), (1, .int v)]) hx hb dX8_put_40 hl (k := 0) rfl (by decide) (by decide) rfl (fun ls hl => ?_)
  refine lv_goto (tgt := 3) hx hb dX8_put_43 (by decide) ?_
  refine lv_iload_n hx hb dX8_put_3 rfl (lv_at hl 0 rfl) ?_
  refine lv_if_lt (tgt := 46) hx hb dX8_put_4 (by decide) (fun _ => ?_) (fun c_21 => absurd (by decide) c_21)
  have hP9 : va_P (dC, dI) vwCl [(h, .inr (8, [.ref t0, .ref t1, .ref t2, .ref t3, .ref t4, .ref t5, .int ((((x6 + 1) + 1) + 1) + 1), .int x7, .int x8])), (t0, .inl (k 1, 600, .inl f_20))] H := hP.sub (ws' := [(h, .inr (8, [.ref t0, .ref t1, .ref t2, .ref t3, .ref t4, .ref t5, .int ((((x6 + 1) + 1) + 1) + 1), .int x7, .int x8])), (t0, .inl (k 1, 600, .inl f_20))]) [0, 1] rfl
  have hD9 : va_D A [(h, .inr (8, [.ref t0, .ref t1, .ref t2, .ref t3, .ref t4, .ref t5, .int ((((x6 + 1) + 1) + 1) + 1), .int x7, .int x8])), (t0, .inl (k 1, 600, .inl f_20))] := hD.sub (ws' := [(h, .inr (8, [.ref t0, .ref t1, .ref t2, .ref t3, .ref t4, .ref t5, .int ((((x6 + 1) + 1) + 1) + 1), .int x7, .int x8])), (t0, .inl (k 1, 600, .inl f_20))]) [0, 1] (by decide) rfl
  refine W.widen (k := 0) (n := 0) (by decide +kernel) (by decide +kernel) ?_
  exact W.vret hx hb hr (fun t ht hW => ⟨⟨(f_20), rfl, trivial, by rw [ht]; exact hP9, hD9⟩, hS.F ht⟩) hS.2.2 dX8_put_46

def ws_c_feed : List Cond := .code yX11_feed cX11_feed 6 (some .int) :: ([.fieldLink RX11 10 "HeightFine" "told" "LHeightFine$Told;", .fieldLink RX11 62 "HeightFine$Told" "length" "I", .methodLink RX11 66 yX8_put, .instanceMethod yX8_put, .selects RX8 yX8_put yX8_put, .initialized RX8, .code yX8_put cX8_put 3 none, .fieldLink RX8 70 "HeightFine$Told" "length" "I", .fieldLink RX8 9 "HeightFine$Told" "tape" "[B"] ++ u_ws RX8 TX8 9 ++ u_ws RX11 TX11 8)
set_option maxRecDepth 20000 in
theorem in_c_feed_8 : ∀ w ∈ u_ws RX8 TX8 9, w ∈ ws_c_feed := by decide +kernel
set_option maxRecDepth 20000 in
theorem in_c_feed_11 : ∀ w ∈ u_ws RX11 TX11 8, w ∈ ws_c_feed := by decide +kernel
set_option maxRecDepth 20000 in
theorem gc_feed_c_put : GoodIn ws_c_feed (wsV RX11 66 RX8 yX8_put ws_c_put) := goodIn_app (goodIn_of _ (by decide +kernel)) (goodIn_r _ [7, 8, 9, 10, 11, 12, 13, 14, 15, 16, 17, 18] (by decide +kernel) (by decide +kernel))
set_option maxHeartbeats 4000000 in
set_option maxRecDepth 100000 in
theorem c_feed (l : Launch) (dC : Nat → ClassId) (dI : Nat → Nat → Nat) (k : Nat → ClassId) (h : Nat) (g0 : Nat) (g1 : Nat) (g2 : Nat) (g3 : Nat) (g4 : Nat) (g5 : Nat) (g6 : Nat) (g7 : Nat) (t0 : Nat) (t1 : Nat) (t2 : Nat) (t3 : Nat) (t4 : Nat) (t5 : Nat) (x7 : Int32) (x8 : Int32) (f : Nat → Int32) (p0 : Int32) (p1 : Int32) (p2 : Int32) (p3 : Int32) (p4 : Int32) (sz : Nat) : Met l yX11_feed ws_c_feed ({ frames := 1, cells := 0, slots := 0, locals := 22 }) (va_Pc [.ref h, .int p0, .int p1, .int p2, .int p3, .int p4] (prW dC dI k [(h, .inr (11, [.ref g0, .ref g1, .ref g2, .ref g3, .ref g4, .ref g5, .ref g6, .ref g7])), (g0, .inr (8, [.ref t0, .ref t1, .ref t2, .ref t3, .ref t4, .ref t5, .int 0, .int x7, .int x8])), (t0, .inl (k 1, 600, .inl f))] sz)) (va_Qi (fun (r : Int32) (_ : Unit) => r = 20) (fun (u : Unit) (t : State) => po (dC, dI) (va_A [(h, .inr (11, [.ref g0, .ref g1, .ref g2, .ref g3, .ref g4, .ref g5, .ref g6, .ref g7])), (g0, .inr (8, [.ref t0, .ref t1, .ref t2, .ref t3, .ref t4, .ref t5, .int 0, .int x7, .int x8])), (t0, .inl (k 1, 600, .inl f))] sz) [] t) (va_A [(h, .inr (11, [.ref g0, .ref g1, .ref g2, .ref g3, .ref g4, .ref g5, .ref g6, .ref g7])), (g0, .inr (8, [.ref t0, .ref t1, .ref t2, .ref t3, .ref t4, .ref t5, .int 0, .int x7, .int x8])), (t0, .inl (k 1, 600, .inl f))] sz)) 0 0 (va_A [(h, .inr (11, [.ref g0, .ref g1, .ref g2, .ref g3, .ref g4, .ref g5, .ref g6, .ref g7])), (g0, .inr (8, [.ref t0, .ref t1, .ref t2, .ref t3, .ref t4, .ref t5, .int 0, .int x7, .int x8])), (t0, .inl (k 1, 600, .inl f))] sz) := by
  refine Met.ofW (cc := cX11_feed) (maxL := 6) (ret := (some .int)) (by decide) rfl ?_
  intro p e s m args below meth c s₁ B hml hv
  obtain ⟨rfl, hsz, hP, hK, hD0⟩ := hv
  have hx := B.exec
  have hb := B.bytes
  have hr := B.returns
  have hts := atoms_spec (ws := ws_c_feed) B.pre
  have hown : s.vm.findClass RX11 = some m.cls := findClass_of_methodNamed B.named
  have hi8 := in_c_feed_8
  have hi11 := in_c_feed_11
  subst hsz
  have hD := hD0.self (sz := s.heap.size)
  generalize hAe : va_A [(h, .inr (11, [.ref g0, .ref g1, .ref g2, .ref g3, .ref g4, .ref g5, .ref g6, .ref g7])), (g0, .inr (8, [.ref t0, .ref t1, .ref t2, .ref t3, .ref t4, .ref t5, .int 0, .int x7, .int x8])), (t0, .inl (k 1, 600, .inl f))] s.heap.size = A at hD ⊢
  have hA : ∀ q : Nat, s.heap.size ≤ q → A q := fun q h => by rw [← hAe]; exact Or.inr h
  have hS : va_S A s.heap s.heap [] := va_S.rf
  have hP : va_P (dC, dI) vwCl [(h, .inr (11, [.ref g0, .ref g1, .ref g2, .ref g3, .ref g4, .ref g5, .ref g6, .ref g7])), (g0, .inr (8, [.ref t0, .ref t1, .ref t2, .ref t3, .ref t4, .ref t5, .int 0, .int x7, .int x8])), (t0, .inl (k 1, 600, .inl f))] s.heap := hP
  have hl := lv_entry ([.ref h, .int p0, .int p1, .int p2, .int p3, .int p4]) (n := 6) (Nat.le_of_ble_eq_true rfl)
  rw [lg_entry_eq]
  generalize (lg_sl ([.ref h, .int p0, .int p1, .int p2, .int p3, .int p4]) ++ List.replicate (6 - (lg_sl ([.ref h, .int p0, .int p1, .int p2, .int p3, .int p4])).length) Slot.unset).toArray = ls at hl ⊢
  have hl : lv_has ls 6 [(0, .ref h), (1, .int p0), (2, .int p1), (3, .int p2), (4, .int p3), (5, .int p4)] := hl
  refine lv_aload_n hx hb dX11_feed_0 rfl (lv_at hl 0 rfl) ?_
  refine va_get (D := (dC, dI)) (ci := 11) (v := .ref g0) (C := RX11) (T := TX11) (N := 8) hx hb hts hi11 hown hK hP 0 rfl rfl 0 (by decide) (hts (.fieldLink RX11 10 "HeightFine" "told" "LHeightFine$Told;") (by decide +kernel)) (fun _ h9 => h9) rfl dX11_feed_1 ?_
  refine va_get (D := (dC, dI)) (ci := 8) (v := .int 0) (C := RX8) (T := TX8) (N := 9) hx hb hts hi8 hown hK hP 1 rfl rfl 6 (by decide) (hts (.fieldLink RX11 62 "HeightFine$Told" "length" "I") (by decide +kernel)) (fun _ h9 => h9) rfl dX11_feed_4 ?_
  refine lv_bipush (v := 20) hx hb dX11_feed_7 (by decide) ?_
  refine lv_iadd hx hb dX11_feed_9 ?_
  refine W.eq (g2 := F0 m 10 ls [.int 20]) rfl ?_
  refine lv_sipush (v := 600) hx hb dX11_feed_10 (by decide) ?_
  refine lv_icmp_le (tgt := 18) hx hb dX11_feed_13 (by decide) (fun _ => ?_) (fun c_1 => absurd (by decide) c_1)
  refine lv_aload_n hx hb dX11_feed_18 rfl (lv_at hl 0 rfl) ?_
  refine va_get (D := (dC, dI)) (ci := 11) (v := .ref g0) (C := RX11) (T := TX11) (N := 8) hx hb hts hi11 hown hK hP 0 rfl rfl 0 (by decide) (hts (.fieldLink RX11 10 "HeightFine" "told" "LHeightFine$Told;") (by decide +kernel)) (fun _ h9 => h9) rfl dX11_feed_19 ?_
  refine lv_iload_n hx hb dX11_feed_22 rfl (lv_at hl 1 rfl) ?_
  have hPc := hP.sub (ws' := [(g0, .inr (8, [.ref t0, .ref t1, .ref t2, .ref t3, .ref t4, .ref t5, .int 0, .int x7, .int x8])), (t0, .inl (k 1, 600, .inl f))]) [1, 2] rfl
  have hDc := hD.sub (ws' := [(g0, .inr (8, [.ref t0, .ref t1, .ref t2, .ref t3, .ref t4, .ref t5, .int 0, .int x7, .int x8])), (t0, .inl (k 1, 600, .inl f))]) [1, 2] (by decide) rfl
  have hFc := va_free (wc := [(g0, .inr (8, [.ref t0, .ref t1, .ref t2, .ref t3, .ref t4, .ref t5, .int 0, .int x7, .int x8])), (t0, .inl (k 1, 600, .inl f))]) hD hS hA [1, 2] rfl
  refine va_callv (va_runV (As := [.int p0]) (rest := []) ⟨hx, hb, hml, hown, hts⟩ (c_put l dC dI k g0 t0 t1 t2 t3 t4 t5 0 x7 x8 f p0 (by decide) (by decide) (by decide) (by decide) (zz_in (by decide)) (zz_in (by decide)) (zz_in (by decide)) (zz_in (by decide)) s.heap.size) (cwV 1 hts gc_feed_c_put rfl rfl rfl (by decide +kernel) ⟨Nat.le_of_ble_eq_true rfl, Nat.le_of_ble_eq_true rfl⟩) ⟨prW_blind, va_recv hK hPc (ci := 8) (q0 := 0) rfl rfl, fun U hU hW => ⟨rfl, prW_go hPc hDc hK hU hW⟩⟩ rfl rfl hl.1 rfl (lv_room (Nat.le_of_ble_eq_true rfl)) dX11_feed_23 ⟨by decide +kernel, by decide +kernel⟩) hS (fun q _ h => hFc q h) hFc (fun u t H1 locs ht hvm hw hB hz1 hk1 hS => ?_)
  obtain ⟨g_2, rfl⟩ : ∃ z, z = u := ⟨_, rfl⟩
  obtain ⟨hP1, hD1⟩ := hB
  rw [ht] at hP1
  obtain ⟨hP, hD⟩ := va_join (wr := [(h, .inr (11, [.ref g0, .ref g1, .ref g2, .ref g3, .ref g4, .ref g5, .ref g6, .ref g7]))]) (w1 := [(g0, .inr (8, [.ref t0, .ref t1, .ref t2, .ref t3, .ref t4, .ref t5, .int ((((0 + 1) + 1) + 1) + 1), .int x7, .int x8])), (t0, .inl (k 1, 600, .inl g_2))]) hP hD [1, 2] [0] rfl rfl (by decide) (by decide) hk1 hFc hP1 hD1
  clear hk1 hz1 ht hPc hDc hP1 hD1 hvm
  generalize H1 = H at hP hS ⊢
  have hP : va_P (dC, dI) vwCl [(h, .inr (11, [.ref g0, .ref g1, .ref g2, .ref g3, .ref g4, .ref g5, .ref g6, .ref g7])), (g0, .inr (8, [.ref t0, .ref t1, .ref t2, .ref t3, .ref t4, .ref t5, .int ((((0 + 1) + 1) + 1) + 1), .int x7, .int x8])), (t0, .inl (k 1, 600, .inl g_2))] H := hP
  have hD : va_D A [(h, .inr (11, [.ref g0, .ref g1, .ref g2, .ref g3, .ref g4, .ref g5, .ref g6, .ref g7])), (g0, .inr (8, [.ref t0, .ref t1, .ref t2, .ref t3, .ref t4, .ref t5, .int ((((0 + 1) + 1) + 1) + 1), .int x7, .int x8])), (t0, .inl (k 1, 600, .inl g_2))] := hD
  refine lv_aload_n hx hb dX11_feed_26 rfl (lv_at hl 0 rfl) ?_
  refine va_get (D := (dC, dI)) (ci := 11) (v := .ref g0) (C := RX11) (T := TX11) (N := 8) hx hb hts hi11 hown hK hP 0 rfl rfl 0 (by decide) (hts (.fieldLink RX11 10 "HeightFine" "told" "LHeightFine$Told;") (by decide +kernel)) (fun _ h9 => h9) rfl dX11_feed_27 ?_
  refine lv_iload_n hx hb dX11_feed_30 rfl (lv_at hl 2 rfl) ?_
  have hPc := hP.sub (ws' := [(g0, .inr (8, [.ref t0, .ref t1, .ref t2, .ref t3, .ref t4, .ref t5, .int ((((0 + 1) + 1) + 1) + 1), .int x7, .int x8])), (t0, .inl (k 1, 600, .inl g_2))]) [1, 2] rfl
  have hDc := hD.sub (ws' := [(g0, .inr (8, [.ref t0, .ref t1, .ref t2, .ref t3, .ref t4, .ref t5, .int ((((0 + 1) + 1) + 1) + 1), .int x7, .int x8])), (t0, .inl (k 1, 600, .inl g_2))]) [1, 2] (by decide) rfl
  have hFc := va_free (wc := [(g0, .inr (8, [.ref t0, .ref t1, .ref t2, .ref t3, .ref t4, .ref t5, .int ((((0 + 1) + 1) + 1) + 1), .int x7, .int x8])), (t0, .inl (k 1, 600, .inl g_2))]) hD hS hA [1, 2] rfl
  refine va_callv (va_runV (As := [.int p1]) (rest := []) ⟨hx, hb, hml, hown, hts⟩ (c_put l dC dI k g0 t0 t1 t2 t3 t4 t5 ((((0 + 1) + 1) + 1) + 1) x7 x8 g_2 p1 (by decide) (by decide) (by decide) (by decide) (zz_in (by decide)) (zz_in (by decide)) (zz_in (by decide)) (zz_in (by decide)) H.size) (cwV 1 hts gc_feed_c_put rfl rfl rfl (by decide +kernel) ⟨Nat.le_of_ble_eq_true rfl, Nat.le_of_ble_eq_true rfl⟩) ⟨prW_blind, va_recv hK hPc (ci := 8) (q0 := 0) rfl rfl, fun U hU hW => ⟨rfl, prW_go hPc hDc hK hU hW⟩⟩ rfl rfl hl.1 rfl (lv_room (Nat.le_of_ble_eq_true rfl)) dX11_feed_31 ⟨by decide +kernel, by decide +kernel⟩) hS (fun q _ h => hFc q h) hFc (fun u t H1 locs ht hvm hw hB hz1 hk1 hS => ?_)
  obtain ⟨g_3, rfl⟩ : ∃ z, z = u := ⟨_, rfl⟩
  obtain ⟨hP1, hD1⟩ := hB
  rw [ht] at hP1
  obtain ⟨hP, hD⟩ := va_join (wr := [(h, .inr (11, [.ref g0, .ref g1, .ref g2, .ref g3, .ref g4, .ref g5, .ref g6, .ref g7]))]) (w1 := [(g0, .inr (8, [.ref t0, .ref t1, .ref t2, .ref t3, .ref t4, .ref t5, .int ((((((((0 + 1) + 1) + 1) + 1) + 1) + 1) + 1) + 1), .int x7, .int x8])), (t0, .inl (k 1, 600, .inl g_3))]) hP hD [1, 2] [0] rfl rfl (by decide) (by decide) hk1 hFc hP1 hD1
  clear hk1 hz1 ht hPc hDc hP1 hD1 hvm
  generalize H1 = H at hP hS ⊢
  have hP : va_P (dC, dI) vwCl [(h, .inr (11, [.ref g0, .ref g1, .ref g2, .ref g3, .ref g4, .ref g5, .ref g6, .ref g7])), (g0, .inr (8, [.ref t0, .ref t1, .ref t2, .ref t3, .ref t4, .ref t5, .int ((((((((0 + 1) + 1) + 1) + 1) + 1) + 1) + 1) + 1), .int x7, .int x8])), (t0, .inl (k 1, 600, .inl g_3))] H := hP
  have hD : va_D A [(h, .inr (11, [.ref g0, .ref g1, .ref g2, .ref g3, .ref g4, .ref g5, .ref g6, .ref g7])), (g0, .inr (8, [.ref t0, .ref t1, .ref t2, .ref t3, .ref t4, .ref t5, .int ((((((((0 + 1) + 1) + 1) + 1) + 1) + 1) + 1) + 1), .int x7, .int x8])), (t0, .inl (k 1, 600, .inl g_3))] := hD
  refine lv_aload_n hx hb dX11_feed_34 rfl (lv_at hl 0 rfl) ?_
  refine va_get (D := (dC, dI)) (ci := 11) (v := .ref g0) (C := RX11) (T := TX11) (N := 8) hx hb hts hi11 hown hK hP 0 rfl rfl 0 (by decide) (hts (.fieldLink RX11 10 "HeightFine" "told" "LHeightFine$Told;") (by decide +kernel)) (fun _ h9 => h9) rfl dX11_feed_35 ?_
  refine lv_iload_n hx hb dX11_feed_38 rfl (lv_at hl 3 rfl) ?_
  have hPc := hP.sub (ws' := [(g0, .inr (8, [.ref t0, .ref t1, .ref t2, .ref t3, .ref t4, .ref t5, .int ((((((((0 + 1) + 1) + 1) + 1) + 1) + 1) + 1) + 1), .int x7, .int x8])), (t0, .inl (k 1, 600, .inl g_3))]) [1, 2] rfl
  have hDc := hD.sub (ws' := [(g0, .inr (8, [.ref t0, .ref t1, .ref t2, .ref t3, .ref t4, .ref t5, .int ((((((((0 + 1) + 1) + 1) + 1) + 1) + 1) + 1) + 1), .int x7, .int x8])), (t0, .inl (k 1, 600, .inl g_3))]) [1, 2] (by decide) rfl
  have hFc := va_free (wc := [(g0, .inr (8, [.ref t0, .ref t1, .ref t2, .ref t3, .ref t4, .ref t5, .int ((((((((0 + 1) + 1) + 1) + 1) + 1) + 1) + 1) + 1), .int x7, .int x8])), (t0, .inl (k 1, 600, .inl g_3))]) hD hS hA [1, 2] rfl
  refine va_callv (va_runV (As := [.int p2]) (rest := []) ⟨hx, hb, hml, hown, hts⟩ (c_put l dC dI k g0 t0 t1 t2 t3 t4 t5 ((((((((0 + 1) + 1) + 1) + 1) + 1) + 1) + 1) + 1) x7 x8 g_3 p2 (by decide) (by decide) (by decide) (by decide) (zz_in (by decide)) (zz_in (by decide)) (zz_in (by decide)) (zz_in (by decide)) H.size) (cwV 1 hts gc_feed_c_put rfl rfl rfl (by decide +kernel) ⟨Nat.le_of_ble_eq_true rfl, Nat.le_of_ble_eq_true rfl⟩) ⟨prW_blind, va_recv hK hPc (ci := 8) (q0 := 0) rfl rfl, fun U hU hW => ⟨rfl, prW_go hPc hDc hK hU hW⟩⟩ rfl rfl hl.1 rfl (lv_room (Nat.le_of_ble_eq_true rfl)) dX11_feed_39 ⟨by decide +kernel, by decide +kernel⟩) hS (fun q _ h => hFc q h) hFc (fun u t H1 locs ht hvm hw hB hz1 hk1 hS => ?_)
  obtain ⟨g_4, rfl⟩ : ∃ z, z = u := ⟨_, rfl⟩
  obtain ⟨hP1, hD1⟩ := hB
  rw [ht] at hP1
  obtain ⟨hP, hD⟩ := va_join (wr := [(h, .inr (11, [.ref g0, .ref g1, .ref g2, .ref g3, .ref g4, .ref g5, .ref g6, .ref g7]))]) (w1 := [(g0, .inr (8, [.ref t0, .ref t1, .ref t2, .ref t3, .ref t4, .ref t5, .int ((((((((((((0 + 1) + 1) + 1) + 1) + 1) + 1) + 1) + 1) + 1) + 1) + 1) + 1), .int x7, .int x8])), (t0, .inl (k 1, 600, .inl g_4))]) hP hD [1, 2] [0] rfl rfl (by decide) (by decide) hk1 hFc hP1 hD1
  clear hk1 hz1 ht hPc hDc hP1 hD1 hvm
  generalize H1 = H at hP hS ⊢
  have hP : va_P (dC, dI) vwCl [(h, .inr (11, [.ref g0, .ref g1, .ref g2, .ref g3, .ref g4, .ref g5, .ref g6, .ref g7])), (g0, .inr (8, [.ref t0, .ref t1, .ref t2, .ref t3, .ref t4, .ref t5, .int ((((((((((((0 + 1) + 1) + 1) + 1) + 1) + 1) + 1) + 1) + 1) + 1) + 1) + 1), .int x7, .int x8])), (t0, .inl (k 1, 600, .inl g_4))] H := hP
  have hD : va_D A [(h, .inr (11, [.ref g0, .ref g1, .ref g2, .ref g3, .ref g4, .ref g5, .ref g6, .ref g7])), (g0, .inr (8, [.ref t0, .ref t1, .ref t2, .ref t3, .ref t4, .ref t5, .int ((((((((((((0 + 1) + 1) + 1) + 1) + 1) + 1) + 1) + 1) + 1) + 1) + 1) + 1), .int x7, .int x8])), (t0, .inl (k 1, 600, .inl g_4))] := hD
  refine lv_aload_n hx hb dX11_feed_42 rfl (lv_at hl 0 rfl) ?_
  refine va_get (D := (dC, dI)) (ci := 11) (v := .ref g0) (C := RX11) (T := TX11) (N := 8) hx hb hts hi11 hown hK hP 0 rfl rfl 0 (by decide) (hts (.fieldLink RX11 10 "HeightFine" "told" "LHeightFine$Told;") (by decide +kernel)) (fun _ h9 => h9) rfl dX11_feed_43 ?_
  refine lv_iload hx hb dX11_feed_46 (lv_at hl 4 rfl) ?_
  have hPc := hP.sub (ws' := [(g0, .inr (8, [.ref t0, .ref t1, .ref t2, .ref t3, .ref t4, .ref t5, .int ((((((((((((0 + 1) + 1) + 1) + 1) + 1) + 1) + 1) + 1) + 1) + 1) + 1) + 1), .int x7, .int x8])), (t0, .inl (k 1, 600, .inl g_4))]) [1, 2] rfl
  have hDc := hD.sub (ws' := [(g0, .inr (8, [.ref t0, .ref t1, .ref t2, .ref t3, .ref t4, .ref t5, .int ((((((((((((0 + 1) + 1) + 1) + 1) + 1) + 1) + 1) + 1) + 1) + 1) + 1) + 1), .int x7, .int x8])), (t0, .inl (k 1, 600, .inl g_4))]) [1, 2] (by decide) rfl
  have hFc := va_free (wc := [(g0, .inr (8, [.ref t0, .ref t1, .ref t2, .ref t3, .ref t4, .ref t5, .int ((((((((((((0 + 1) + 1) + 1) + 1) + 1) + 1) + 1) + 1) + 1) + 1) + 1) + 1), .int x7, .int x8])), (t0, .inl (k 1, 600, .inl g_4))]) hD hS hA [1, 2] rfl
  refine va_callv (va_runV (As := [.int p3]) (rest := []) ⟨hx, hb, hml, hown, hts⟩ (c_put l dC dI k g0 t0 t1 t2 t3 t4 t5 ((((((((((((0 + 1) + 1) + 1) + 1) + 1) + 1) + 1) + 1) + 1) + 1) + 1) + 1) x7 x8 g_4 p3 (by decide) (by decide) (by decide) (by decide) (zz_in (by decide)) (zz_in (by decide)) (zz_in (by decide)) (zz_in (by decide)) H.size) (cwV 1 hts gc_feed_c_put rfl rfl rfl (by decide +kernel) ⟨Nat.le_of_ble_eq_true rfl, Nat.le_of_ble_eq_true rfl⟩) ⟨prW_blind, va_recv hK hPc (ci := 8) (q0 := 0) rfl rfl, fun U hU hW => ⟨rfl, prW_go hPc hDc hK hU hW⟩⟩ rfl rfl hl.1 rfl (lv_room (Nat.le_of_ble_eq_true rfl)) dX11_feed_48 ⟨by decide +kernel, by decide +kernel⟩) hS (fun q _ h => hFc q h) hFc (fun u t H1 locs ht hvm hw hB hz1 hk1 hS => ?_)
  obtain ⟨g_5, rfl⟩ : ∃ z, z = u := ⟨_, rfl⟩
  obtain ⟨hP1, hD1⟩ := hB
  rw [ht] at hP1
  obtain ⟨hP, hD⟩ := va_join (wr := [(h, .inr (11, [.ref g0, .ref g1, .ref g2, .ref g3, .ref g4, .ref g5, .ref g6, .ref g7]))]) (w1 := [(g0, .inr (8, [.ref t0, .ref t1, .ref t2, .ref t3, .ref t4, .ref t5, .int ((((((((((((((((0 + 1) + 1) + 1) + 1) + 1) + 1) + 1) + 1) + 1) + 1) + 1) + 1) + 1) + 1) + 1) + 1), .int x7, .int x8])), (t0, .inl (k 1, 600, .inl g_5))]) hP hD [1, 2] [0] rfl rfl (by decide) (by decide) hk1 hFc hP1 hD1
  clear hk1 hz1 ht hPc hDc hP1 hD1 hvm
  generalize H1 = H at hP hS ⊢
  have hP : va_P (dC, dI) vwCl [(h, .inr (11, [.ref g0, .ref g1, .ref g2, .ref g3, .ref g4, .ref g5, .ref g6, .ref g7])), (g0, .inr (8, [.ref t0, .ref t1, .ref t2, .ref t3, .ref t4, .ref t5, .int ((((((((((((((((0 + 1) + 1) + 1) + 1) + 1) + 1) + 1) + 1) + 1) + 1) + 1) + 1) + 1) + 1) + 1) + 1), .int x7, .int x8])), (t0, .inl (k 1, 600, .inl g_5))] H := hP
  have hD : va_D A [(h, .inr (11, [.ref g0, .ref g1, .ref g2, .ref g3, .ref g4, .ref g5, .ref g6, .ref g7])), (g0, .inr (8, [.ref t0, .ref t1, .ref t2, .ref t3, .ref t4, .ref t5, .int ((((((((((((((((0 + 1) + 1) + 1) + 1) + 1) + 1) + 1) + 1) + 1) + 1) + 1) + 1) + 1) + 1) + 1) + 1), .int x7, .int x8])), (t0, .inl (k 1, 600, .inl g_5))] := hD
  refine lv_aload_n hx hb dX11_feed_51 rfl (lv_at hl 0 rfl) ?_
  refine va_get (D := (dC, dI)) (ci := 11) (v := .ref g0) (C := RX11) (T := TX11) (N := 8) hx hb hts hi11 hown hK hP 0 rfl rfl 0 (by decide) (hts (.fieldLink RX11 10 "HeightFine" "told" "LHeightFine$Told;") (by decide +kernel)) (fun _ h9 => h9) rfl dX11_feed_52 ?_
  refine lv_iload hx hb dX11_feed_55 (lv_at hl 5 rfl) ?_
  have hPc := hP.sub (ws' := [(g0, .inr (8, [.ref t0, .ref t1, .ref t2, .ref t3, .ref t4, .ref t5, .int ((((((((((((((((0 + 1) + 1) + 1) + 1) + 1) + 1) + 1) + 1) + 1) + 1) + 1) + 1) + 1) + 1) + 1) + 1), .int x7, .int x8])), (t0, .inl (k 1, 600, .inl g_5))]) [1, 2] rfl
  have hDc := hD.sub (ws' := [(g0, .inr (8, [.ref t0, .ref t1, .ref t2, .ref t3, .ref t4, .ref t5, .int ((((((((((((((((0 + 1) + 1) + 1) + 1) + 1) + 1) + 1) + 1) + 1) + 1) + 1) + 1) + 1) + 1) + 1) + 1), .int x7, .int x8])), (t0, .inl (k 1, 600, .inl g_5))]) [1, 2] (by decide) rfl
  have hFc := va_free (wc := [(g0, .inr (8, [.ref t0, .ref t1, .ref t2, .ref t3, .ref t4, .ref t5, .int ((((((((((((((((0 + 1) + 1) + 1) + 1) + 1) + 1) + 1) + 1) + 1) + 1) + 1) + 1) + 1) + 1) + 1) + 1), .int x7, .int x8])), (t0, .inl (k 1, 600, .inl g_5))]) hD hS hA [1, 2] rfl
  refine va_callv (va_runV (As := [.int p4]) (rest := []) ⟨hx, hb, hml, hown, hts⟩ (c_put l dC dI k g0 t0 t1 t2 t3 t4 t5 ((((((((((((((((0 + 1) + 1) + 1) + 1) + 1) + 1) + 1) + 1) + 1) + 1) + 1) + 1) + 1) + 1) + 1) + 1) x7 x8 g_5 p4 (by decide) (by decide) (by decide) (by decide) (zz_in (by decide)) (zz_in (by decide)) (zz_in (by decide)) (zz_in (by decide)) H.size) (cwV 1 hts gc_feed_c_put rfl rfl rfl (by decide +kernel) ⟨Nat.le_of_ble_eq_true rfl, Nat.le_of_ble_eq_true rfl⟩) ⟨prW_blind, va_recv hK hPc (ci := 8) (q0 := 0) rfl rfl, fun U hU hW => ⟨rfl, prW_go hPc hDc hK hU hW⟩⟩ rfl rfl hl.1 rfl (lv_room (Nat.le_of_ble_eq_true rfl)) dX11_feed_57 ⟨by decide +kernel, by decide +kernel⟩) hS (fun q _ h => hFc q h) hFc (fun u t H1 locs ht hvm hw hB hz1 hk1 hS => ?_)
  obtain ⟨g_6, rfl⟩ : ∃ z, z = u := ⟨_, rfl⟩
  obtain ⟨hP1, hD1⟩ := hB
  rw [ht] at hP1
  obtain ⟨hP, hD⟩ := va_join (wr := [(h, .inr (11, [.ref g0, .ref g1, .ref g2, .ref g3, .ref g4, .ref g5, .ref g6, .ref g7]))]) (w1 := [(g0, .inr (8, [.ref t0, .ref t1, .ref t2, .ref t3, .ref t4, .ref t5, .int ((((((((((((((((((((0 + 1) + 1) + 1) + 1) + 1) + 1) + 1) + 1) + 1) + 1) + 1) + 1) + 1) + 1) + 1) + 1) + 1) + 1) + 1) + 1), .int x7, .int x8])), (t0, .inl (k 1, 600, .inl g_6))]) hP hD [1, 2] [0] rfl rfl (by decide) (by decide) hk1 hFc hP1 hD1
  clear hk1 hz1 ht hPc hDc hP1 hD1 hvm
  generalize H1 = H at hP hS ⊢
  have hP : va_P (dC, dI) vwCl [(h, .inr (11, [.ref g0, .ref g1, .ref g2, .ref g3, .ref g4, .ref g5, .ref g6, .ref g7])), (g0, .inr (8, [.ref t0, .ref t1, .ref t2, .ref t3, .ref t4, .ref t5, .int ((((((((((((((((((((0 + 1) + 1) + 1) + 1) + 1) + 1) + 1) + 1) + 1) + 1) + 1) + 1) + 1) + 1) + 1) + 1) + 1) + 1) + 1) + 1), .int x7, .int x8])), (t0, .inl (k 1, 600, .inl g_6))] H := hP
  have hD : va_D A [(h, .inr (11, [.ref g0, .ref g1, .ref g2, .ref g3, .ref g4, .ref g5, .ref g6, .ref g7])), (g0, .inr (8, [.ref t0, .ref t1, .ref t2, .ref t3, .ref t4, .ref t5, .int ((((((((((((((((((((0 + 1) + 1) + 1) + 1) + 1) + 1) + 1) + 1) + 1) + 1) + 1) + 1) + 1) + 1) + 1) + 1) + 1) + 1) + 1) + 1), .int x7, .int x8])), (t0, .inl (k 1, 600, .inl g_6))] := hD
  refine lv_aload_n hx hb dX11_feed_60 rfl (lv_at hl 0 rfl) ?_
  refine va_get (D := (dC, dI)) (ci := 11) (v := .ref g0) (C := RX11) (T := TX11) (N := 8) hx hb hts hi11 hown hK hP 0 rfl rfl 0 (by decide) (hts (.fieldLink RX11 10 "HeightFine" "told" "LHeightFine$Told;") (by decide +kernel)) (fun _ h9 => h9) rfl dX11_feed_61 ?_
  refine va_get (D := (dC, dI)) (ci := 8) (v := .int ((((((((((((((((((((0 + 1) + 1) + 1) + 1) + 1) + 1) + 1) + 1) + 1) + 1) + 1) + 1) + 1) + 1) + 1) + 1) + 1) + 1) + 1) + 1)) (C := RX8) (T := TX8) (N := 9) hx hb hts hi8 hown hK hP 1 rfl rfl 6 (by decide) (hts (.fieldLink RX11 62 "HeightFine$Told" "length" "I") (by decide +kernel)) (fun _ h9 => h9) rfl dX11_feed_64 ?_
  have hP9 : va_P (dC, dI) vwCl [] H := hP.sub (ws' := []) [] rfl
  have hD9 : va_D A [] := hD.sub (ws' := []) [] (by decide) rfl
  refine W.widen (k := 0) (n := 0) (by decide +kernel) (by decide +kernel) ?_
  exact W.iret (v := ((((((((((((((((((((0 + 1) + 1) + 1) + 1) + 1) + 1) + 1) + 1) + 1) + 1) + 1) + 1) + 1) + 1) + 1) + 1) + 1) + 1) + 1) + 1)) hx hb hr (fun t ht hW => ⟨⟨((((((((((((((((((((0 + 1) + 1) + 1) + 1) + 1) + 1) + 1) + 1) + 1) + 1) + 1) + 1) + 1) + 1) + 1) + 1) + 1) + 1) + 1) + 1), (), rfl, (by decide), by rw [ht]; exact hP9, hD9⟩, hS.F ht⟩) hS.2.2 dX11_feed_67
