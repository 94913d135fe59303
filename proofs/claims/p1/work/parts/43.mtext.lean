theorem dX12_see_0 : decode cX12_see 0 = .ok (.aload_n 0, 1) := by decide +kernel
theorem dX12_see_1 : decode cX12_see 1 = .ok (.getfield 108, 3) := by decide +kernel
theorem dX12_see_4 : decode cX12_see 4 = .ok (.aload_n 0, 1) := by decide +kernel
theorem dX12_see_5 : decode cX12_see 5 = .ok (.getfield 111, 3) := by decide +kernel
theorem dX12_see_8 : decode cX12_see 8 = .ok (.if_icmp .ge 19, 3) := by decide +kernel
theorem dX12_see_27 : decode cX12_see 27 = .ok (.iconst (-1), 1) := by decide +kernel
theorem dX12_see_28 : decode cX12_see 28 = .ok (.ireturn, 1) := by decide +kernel
theorem dX12_token_0 : decode cX12_token 0 = .ok (.aload_n 0, 1) := by decide +kernel
theorem dX12_token_1 : decode cX12_token 1 = .ok (.invokevirtual 114, 3) := by decide +kernel
theorem dX12_token_4 : decode cX12_token 4 = .ok (.bipush 10, 2) := by decide +kernel
theorem dX12_token_6 : decode cX12_token 6 = .ok (.if_icmp .eq 12, 3) := by decide +kernel
theorem dX12_token_9 : decode cX12_token 9 = .ok (.aload_n 0, 1) := by decide +kernel
theorem dX12_token_10 : decode cX12_token 10 = .ok (.invokevirtual 114, 3) := by decide +kernel
theorem dX12_token_13 : decode cX12_token 13 = .ok (.bipush 32, 2) := by decide +kernel
theorem dX12_token_15 : decode cX12_token 15 = .ok (.if_icmp .ne 16, 3) := by decide +kernel
theorem dX12_token_31 : decode cX12_token 31 = .ok (.aload_n 0, 1) := by decide +kernel
theorem dX12_token_32 : decode cX12_token 32 = .ok (.aload_n 0, 1) := by decide +kernel
theorem dX12_token_33 : decode cX12_token 33 = .ok (.getfield 108, 3) := by decide +kernel
theorem dX12_token_36 : decode cX12_token 36 = .ok (.putfield 118, 3) := by decide +kernel
theorem dX12_token_39 : decode cX12_token 39 = .ok (.aload_n 0, 1) := by decide +kernel
theorem dX12_token_40 : decode cX12_token 40 = .ok (.invokevirtual 114, 3) := by decide +kernel
theorem dX12_token_43 : decode cX12_token 43 = .ok (.istore_n 1, 1) := by decide +kernel
theorem dX12_token_44 : decode cX12_token 44 = .ok (.aload_n 0, 1) := by decide +kernel
theorem dX12_token_45 : decode cX12_token 45 = .ok (.lconst 0, 1) := by decide +kernel
theorem dX12_token_46 : decode cX12_token 46 = .ok (.putfield 121, 3) := by decide +kernel
theorem dX12_token_49 : decode cX12_token 49 = .ok (.iconst 0, 1) := by decide +kernel
theorem dX12_token_50 : decode cX12_token 50 = .ok (.istore_n 2, 1) := by decide +kernel
theorem dX12_token_51 : decode cX12_token 51 = .ok (.iload_n 1, 1) := by decide +kernel
theorem dX12_token_52 : decode cX12_token 52 = .ok (.ifCond .ge 11, 3) := by decide +kernel
theorem dX12_token_55 : decode cX12_token 55 = .ok (.aload_n 0, 1) := by decide +kernel
theorem dX12_token_56 : decode cX12_token 56 = .ok (.iconst 0, 1) := by decide +kernel
theorem dX12_token_57 : decode cX12_token 57 = .ok (.putfield 125, 3) := by decide +kernel
theorem dX12_token_60 : decode cX12_token 60 = .ok (.goto 206, 3) := by decide +kernel
theorem dX12_token_266 : decode cX12_token 266 = .ok (.return_, 1) := by decide +kernel
theorem dX12_lines_0 : decode cX12_lines 0 = .ok (.iconst 1, 1) := by decide +kernel
theorem dX12_lines_1 : decode cX12_lines 1 = .ok (.istore_n 2, 1) := by decide +kernel
theorem dX12_lines_2 : decode cX12_lines 2 = .ok (.iload_n 2, 1) := by decide +kernel
theorem dX12_lines_3 : decode cX12_lines 3 = .ok (.ifCond .eq 71, 3) := by decide +kernel
theorem dX12_lines_6 : decode cX12_lines 6 = .ok (.aload_n 0, 1) := by decide +kernel
theorem dX12_lines_7 : decode cX12_lines 7 = .ok (.getfield 125, 3) := by decide +kernel
theorem dX12_lines_10 : decode cX12_lines 10 = .ok (.ifCond .eq 64, 3) := by decide +kernel
theorem dX12_lines_74 : decode cX12_lines 74 = .ok (.iload_n 2, 1) := by decide +kernel
theorem dX12_lines_75 : decode cX12_lines 75 = .ok (.ireturn, 1) := by decide +kernel
theorem dX12_goesRound_0 : decode cX12_goesRound 0 = .ok (.iconst 0, 1) := by decide +kernel
theorem dX12_goesRound_1 : decode cX12_goesRound 1 = .ok (.istore_n 1, 1) := by decide +kernel
theorem dX12_goesRound_2 : decode cX12_goesRound 2 = .ok (.iload_n 1, 1) := by decide +kernel
theorem dX12_goesRound_3 : decode cX12_goesRound 3 = .ok (.aload_n 0, 1) := by decide +kernel
theorem dX12_goesRound_4 : decode cX12_goesRound 4 = .ok (.getfield 38, 3) := by decide +kernel
theorem dX12_goesRound_7 : decode cX12_goesRound 7 = .ok (.iconst 0, 1) := by decide +kernel
theorem dX12_goesRound_8 : decode cX12_goesRound 8 = .ok (.iaload, 1) := by decide +kernel
theorem dX12_goesRound_9 : decode cX12_goesRound 9 = .ok (.if_icmp .ge 47, 3) := by decide +kernel
theorem dX12_goesRound_56 : decode cX12_goesRound 56 = .ok (.iconst 0, 1) := by decide +kernel
theorem dX12_goesRound_57 : decode cX12_goesRound 57 = .ok (.ireturn, 1) := by decide +kernel
theorem dX12_atEnd_0 : decode cX12_atEnd 0 = .ok (.aload_n 0, 1) := by decide +kernel
theorem dX12_atEnd_1 : decode cX12_atEnd 1 = .ok (.getfield 159, 3) := by decide +kernel
theorem dX12_atEnd_4 : decode cX12_atEnd 4 = .ok (.aload_n 0, 1) := by decide +kernel
theorem dX12_atEnd_5 : decode cX12_atEnd 5 = .ok (.getfield 38, 3) := by decide +kernel
theorem dX12_atEnd_8 : decode cX12_atEnd 8 = .ok (.iconst 0, 1) := by decide +kernel
theorem dX12_atEnd_9 : decode cX12_atEnd 9 = .ok (.iaload, 1) := by decide +kernel
theorem dX12_atEnd_10 : decode cX12_atEnd 10 = .ok (.if_icmp .lt 15, 3) := by decide +kernel
theorem dX12_atEnd_25 : decode cX12_atEnd 25 = .ok (.aload_n 0, 1) := by decide +kernel
theorem dX12_atEnd_26 : decode cX12_atEnd 26 = .ok (.getfield 180, 3) := by decide +kernel
theorem dX12_atEnd_29 : decode cX12_atEnd 29 = .ok (.aload_n 0, 1) := by decide +kernel
theorem dX12_atEnd_30 : decode cX12_atEnd 30 = .ok (.getfield 38, 3) := by decide +kernel
theorem dX12_atEnd_33 : decode cX12_atEnd 33 = .ok (.iconst 3, 1) := by decide +kernel
theorem dX12_atEnd_34 : decode cX12_atEnd 34 = .ok (.iaload, 1) := by decide +kernel
theorem dX12_atEnd_35 : decode cX12_atEnd 35 = .ok (.if_icmp .lt 15, 3) := by decide +kernel
theorem dX12_atEnd_50 : decode cX12_atEnd 50 = .ok (.aload_n 0, 1) := by decide +kernel
theorem dX12_atEnd_51 : decode cX12_atEnd 51 = .ok (.invokevirtual 271, 3) := by decide +kernel
theorem dX12_atEnd_54 : decode cX12_atEnd 54 = .ok (.ifCond .eq 13, 3) := by decide +kernel
theorem dX12_atEnd_67 : decode cX12_atEnd 67 = .ok (.return_, 1) := by decide +kernel

def ws_m_see : List Cond := .code yX12_see cX12_see 1 (some .int) :: ([.fieldLink RX12 108 "HeightFineModel" "reached" "I", .fieldLink RX12 111 "HeightFineModel" "length" "I"] ++ u_ws RX12 TX12 45)
set_option maxRecDepth 20000 in
theorem in_m_see_12 : ∀ w ∈ u_ws RX12 TX12 45, w ∈ ws_m_see := by decide +kernel
set_option maxHeartbeats 4000000 in
set_option maxRecDepth 100000 in
theorem m_see (l : Launch) (dC : Nat → ClassId) (dI : Nat → Nat → Nat) (k : Nat → ClassId) (h : Nat) (v0 : Int32) (m1 : Nat) (m2 : Nat) (m3 : Nat) (m4 : Nat) (m5 : Nat) (m6 : Nat) (m7 : Nat) (m8 : Nat) (m9 : Nat) (v12 : Int32) (v13 : Int32) (v14 : Int32) (v15 : Int64) (v16 : Int32) (v17 : Int32) (v18 : Int32) (m19 : Nat) (m20 : Nat) (v21 : Int32) (v22 : Int32) (v23 : Int32) (v24 : Int32) (v25 : Int32) (v26 : Int32) (m27 : Nat) (v28 : Int32) (m29 : Nat) (m30 : Nat) (m31 : Nat) (m32 : Nat) (v33 : Int32) (m34 : Nat) (v35 : Int32) (m36 : Nat) (m37 : Nat) (m38 : Nat) (m39 : Nat) (m40 : Nat) (v41 : Int32) (m42 : Nat) (m43 : Nat) (m44 : Nat) : Met l yX12_see ws_m_see ({ frames := 0, cells := 0, slots := 0, locals := 0 }) (va_Pc [.ref h] (prR dC dI k [(h, .inr (12, [.int v0, .ref m1, .ref m2, .ref m3, .ref m4, .ref m5, .ref m6, .ref m7, .ref m8, .ref m9, .int 0, .int 0, .int v12, .int v13, .int v14, .long v15, .int v16, .int v17, .int v18, .ref m19, .ref m20, .int v21, .int v22, .int v23, .int v24, .int v25, .int v26, .ref m27, .int v28, .ref m29, .ref m30, .ref m31, .ref m32, .int v33, .ref m34, .int v35, .ref m36, .ref m37, .ref m38, .ref m39, .ref m40, .int v41, .ref m42, .ref m43, .ref m44]))])) (vp_Si (fun r => r = (-1))) 0 0 (fun _ => False) := by
  refine Met.ofW (cc := cX12_see) (maxL := 1) (ret := (some .int)) (by decide) rfl ?_
  intro p e s m args below meth c s₁ B hml hv
  obtain ⟨rfl, hP, hK⟩ := hv
  have hx := B.exec
  have hb := B.bytes
  have hr := B.returns
  have hts := atoms_spec (ws := ws_m_see) B.pre
  have hown : s.vm.findClass RX12 = some m.cls := findClass_of_methodNamed B.named
  have hi12 := in_m_see_12
  have hP : va_P (dC, dI) vwCl [(h, .inr (12, [.int v0, .ref m1, .ref m2, .ref m3, .ref m4, .ref m5, .ref m6, .ref m7, .ref m8, .ref m9, .int 0, .int 0, .int v12, .int v13, .int v14, .long v15, .int v16, .int v17, .int v18, .ref m19, .ref m20, .int v21, .int v22, .int v23, .int v24, .int v25, .int v26, .ref m27, .int v28, .ref m29, .ref m30, .ref m31, .ref m32, .int v33, .ref m34, .int v35, .ref m36, .ref m37, .ref m38, .ref m39, .ref m40, .int v41, .ref m42, .ref m43, .ref m44]))] s.heap := hP
  have hl := lv_entry ([.ref h]) (n := 1) (Nat.le_of_ble_eq_true rfl)
  rw [lg_entry_eq]
  generalize (lg_sl ([.ref h]) ++ List.replicate (1 - (lg_sl ([.ref h])).length) Slot.unset).toArray = ls at hl ⊢
  have hl : lv_has ls 1 [(0, .ref h)] := hl
  refine lv_aload_n hx hb dX12_see_0 rfl (lv_at hl 0 rfl) ?_
  refine va_get (D := (dC, dI)) (ci := 12) (v := .int 0) (C := RX12) (T := TX12) (N := 45) hx hb hts hi12 hown hK hP 0 rfl rfl 10 (by decide) (hts (.fieldLink RX12 108 "HeightFineModel" "reached" "I") (by decide +kernel)) (fun _ h9 => h9) rfl dX12_see_1 ?_
  refine lv_aload_n hx hb dX12_see_4 rfl (lv_at hl 0 rfl) ?_
  refine va_get (D := (dC, dI)) (ci := 12) (v := .int 0) (C := RX12) (T := TX12) (N := 45) hx hb hts hi12 hown hK hP 0 rfl rfl 11 (by decide) (hts (.fieldLink RX12 111 "HeightFineModel" "length" "I") (by decide +kernel)) (fun _ h9 => h9) rfl dX12_see_5 ?_
  refine lv_icmp_ge (tgt := 27) hx hb dX12_see_8 (by decide) (fun _ => ?_) (fun c_1 => absurd (by decide) c_1)
  refine lv_iconst (v := (-1)) hx hb dX12_see_27 (by decide) ?_
  exact W.iret (v := (-1)) hx hb hr (fun t ht hW => ⟨(-1), rfl, rfl, ht⟩) (fun q h => absurd h List.not_mem_nil) dX12_see_28

def ws_m_token : List Cond := .code yX12_token cX12_token 3 none :: ([.methodLink RX12 114 yX12_see, .instanceMethod yX12_see, .selects RX12 yX12_see yX12_see, .initialized RX12, .code yX12_see cX12_see 1 (some .int), .fieldLink RX12 108 "HeightFineModel" "reached" "I", .fieldLink RX12 111 "HeightFineModel" "length" "I", .fieldLink RX12 118 "HeightFineModel" "begins" "I", .fieldLink RX12 121 "HeightFineModel" "word" "J", .fieldLink RX12 125 "HeightFineModel" "sort" "I"] ++ u_ws RX12 TX12 45)
set_option maxRecDepth 20000 in
theorem in_m_token_12 : ∀ w ∈ u_ws RX12 TX12 45, w ∈ ws_m_token := by decide +kernel
set_option maxRecDepth 20000 in
theorem gm_token_m_see : GoodIn ws_m_token (wsV RX12 114 RX12 yX12_see ws_m_see) := goodIn_app (goodIn_of _ (by decide +kernel)) (goodIn_r _ [5, 6, 7, 11, 12, 13, 14, 15, 16, 17, 18, 19, 20, 21, 22, 23, 24, 25, 26, 27, 28, 29, 30, 31, 32, 33, 34, 35, 36, 37, 38, 39, 40, 41, 42, 43, 44, 45, 46, 47, 48, 49, 50, 51, 52, 53, 54, 55] (by decide +kernel) (by decide +kernel))
set_option maxHeartbeats 4000000 in
set_option maxRecDepth 100000 in
theorem m_token (l : Launch) (dC : Nat → ClassId) (dI : Nat → Nat → Nat) (k : Nat → ClassId) (h : Nat) (v0 : Int32) (m1 : Nat) (m2 : Nat) (m3 : Nat) (m4 : Nat) (m5 : Nat) (m6 : Nat) (m7 : Nat) (m8 : Nat) (m9 : Nat) (v12 : Int32) (v13 : Int32) (v14 : Int32) (v15 : Int64) (v16 : Int32) (v17 : Int32) (v18 : Int32) (m19 : Nat) (m20 : Nat) (v21 : Int32) (v22 : Int32) (v23 : Int32) (v24 : Int32) (v25 : Int32) (v26 : Int32) (m27 : Nat) (v28 : Int32) (m29 : Nat) (m30 : Nat) (m31 : Nat) (m32 : Nat) (v33 : Int32) (m34 : Nat) (v35 : Int32) (m36 : Nat) (m37 : Nat) (m38 : Nat) (m39 : Nat) (m40 : Nat) (v41 : Int32) (m42 : Nat) (m43 : Nat) (m44 : Nat) (sz : Nat) : Met l yX12_token ws_m_token ({ frames := 1, cells := 0, slots := 0, locals := 20 }) (va_Pc [.ref h] (prW dC dI k [(h, .inr (12, [.int v0, .ref m1, .ref m2, .ref m3, .ref m4, .ref m5, .ref m6, .ref m7, .ref m8, .ref m9, .int 0, .int 0, .int v12, .int v13, .int v14, .long v15, .int v16, .int v17, .int v18, .ref m19, .ref m20, .int v21, .int v22, .int v23, .int v24, .int v25, .int v26, .ref m27, .int v28, .ref m29, .ref m30, .ref m31, .ref m32, .int v33, .ref m34, .int v35, .ref m36, .ref m37, .ref m38, .ref m39, .ref m40, .int v41, .ref m42, .ref m43, .ref m44]))] sz)) (va_Qv (fun (_ : Unit) => True) (fun (u : Unit) (t : State) => po (dC, dI) (va_A [(h, .inr (12, [.int v0, .ref m1, .ref m2, .ref m3, .ref m4, .ref m5, .ref m6, .ref m7, .ref m8, .ref m9, .int 0, .int 0, .int v12, .int v13, .int v14, .long v15, .int v16, .int v17, .int v18, .ref m19, .ref m20, .int v21, .int v22, .int v23, .int v24, .int v25, .int v26, .ref m27, .int v28, .ref m29, .ref m30, .ref m31, .ref m32, .int v33, .ref m34, .int v35, .ref m36, .ref m37, .ref m38, .ref m39, .ref m40, .int v41, .ref m42, .ref m43, .ref m44]))] sz) [(h, .inr (12, [.int v0, .ref m1, .ref m2, .ref m3, .ref m4, .ref m5, .ref m6, .ref m7, .ref m8, .ref m9, .int 0, .int 0, .int 0, .int 0, .int v14, .long 0, .int v16, .int v17, .int v18, .ref m19, .ref m20, .int v21, .int v22, .int v23, .int v24, .int v25, .int v26, .ref m27, .int v28, .ref m29, .ref m30, .ref m31, .ref m32, .int v33, .ref m34, .int v35, .ref m36, .ref m37, .ref m38, .ref m39, .ref m40, .int v41, .ref m42, .ref m43, .ref m44]))] t) (va_A [(h, .inr (12, [.int v0, .ref m1, .ref m2, .ref m3, .ref m4, .ref m5, .ref m6, .ref m7, .ref m8, .ref m9, .int 0, .int 0, .int v12, .int v13, .int v14, .long v15, .int v16, .int v17, .int v18, .ref m19, .ref m20, .int v21, .int v22, .int v23, .int v24, .int v25, .int v26, .ref m27, .int v28, .ref m29, .ref m30, .ref m31, .ref m32, .int v33, .ref m34, .int v35, .ref m36, .ref m37, .ref m38, .ref m39, .ref m40, .int v41, .ref m42, .ref m43, .ref m44]))] sz)) 0 0 (va_A [(h, .inr (12, [.int v0, .ref m1, .ref m2, .ref m3, .ref m4, .ref m5, .ref m6, .ref m7, .ref m8, .ref m9, .int 0, .int 0, .int v12, .int v13, .int v14, .long v15, .int v16, .int v17, .int v18, .ref m19, .ref m20, .int v21, .int v22, .int v23, .int v24, .int v25, .int v26, .ref m27, .int v28, .ref m29, .ref m30, .ref m31, .ref m32, .int v33, .ref m34, .int v35, .ref m36, .ref m37, .ref m38, .ref m39, .ref m40, .int v41, .ref m42, .ref m43, .ref m44]))] sz) := by
  refine Met.ofW (cc := cX12_token) (maxL := 3) (ret := none) (by decide) rfl ?_
  intro p e s m args below meth c s₁ B hml hv
  obtain ⟨rfl, hsz, hP, hK, hD0⟩ := hv
  have hx := B.exec
  have hb := B.bytes
  have hr := B.returns
  have hts := atoms_spec (ws := ws_m_token) B.pre
  have hown : s.vm.findClass RX12 = some m.cls := findClass_of_methodNamed B.named
  have hi12 := in_m_token_12
  subst hsz
  have hD := hD0.self (sz := s.heap.size)
  generalize hAe : va_A [(h, .inr (12, [.int v0, .ref m1, .ref m2, .ref m3, .ref m4, .ref m5, .ref m6, .ref m7, .ref m8, .ref m9, .int 0, .int 0, .int v12, .int v13, .int v14, .long v15, .int v16, .int v17, .int v18, .ref m19, .ref m20, .int v21, .int v22, .int v23, .int v24, .int v25, .int v26, .ref m27, .int v28, .ref m29, .ref m30, .ref m31, .ref m32, .int v33, .ref m34, .int v35, .ref m36, .ref m37, .ref m38, .ref m39, .ref m40, .int v41, .ref m42, .ref m43, .ref m44]))] s.heap.size = A at hD ⊢
  have hA : ∀ q : Nat, s.heap.size ≤ q → A q := fun q h => by rw [← hAe]; exact Or.inr h
  have hS : va_S A s.heap s.heap [] := va_S.rf
  have hP : va_P (dC, dI) vwCl [(h, .inr (12, [.int v0, .ref m1, .ref m2, .ref m3, .ref m4, .ref m5, .ref m6, .ref m7, .ref m8, .ref m9, .int 0, .int 0, .int v12, .int v13, .int v14, .long v15, .int v16, .int v17, .int v18, .ref m19, .ref m20, .int v21, .int v22, .int v23, .int v24, .int v25, .int v26, .ref m27, .int v28, .ref m29, .ref m30, .ref m31, .ref m32, .int v33, .ref m34, .int v35, .ref m36, .ref m37, .ref m38, .ref m39, .ref m40, .int v41, .ref m42, .ref m43, .ref m44]))] s.heap := hP
  have hl := lv_entry ([.ref h]) (n := 3) (Nat.le_of_ble_eq_true rfl)
  rw [lg_entry_eq]
  generalize (lg_sl ([.ref h]) ++ List.replicate (3 - (lg_sl ([.ref h])).length) Slot.unset).toArray = ls at hl ⊢
  have hl : lv_has ls 3 [(0, .ref h)] := hl
  refine lv_aload_n hx hb dX12_token_0 rfl (lv_at hl 0 rfl) ?_
  have hPc := hP.sub (ws' := [(h, .inr (12, [.int v0, .ref m1, .ref m2, .ref m3, .ref m4, .ref m5, .ref m6, .ref m7, .ref m8, .ref m9, .int 0, .int 0, .int v12, .int v13, .int v14, .long v15, .int v16, .int v17, .int v18, .ref m19, .ref m20, .int v21, .int v22, .int v23, .int v24, .int v25, .int v26, .ref m27, .int v28, .ref m29, .ref m30, .ref m31, .ref m32, .int v33, .ref m34, .int v35, .ref m36, .ref m37, .ref m38, .ref m39, .ref m40, .int v41, .ref m42, .ref m43, .ref m44]))]) [0] rfl
  refine vp_callSi (W.runV (As := []) (rest := []) ⟨hx, hb, hml, hown, hts⟩ (m_see l dC dI k h v0 m1 m2 m3 m4 m5 m6 m7 m8 m9 v12 v13 v14 v15 v16 v17 v18 m19 m20 v21 v22 v23 v24 v25 v26 m27 v28 m29 m30 m31 m32 v33 m34 v35 m36 m37 m38 m39 m40 v41 m42 m43 m44) (cwV 0 hts gm_token_m_see rfl rfl rfl (by decide +kernel) ⟨Nat.le_of_ble_eq_true rfl, Nat.le_of_ble_eq_true rfl⟩) ⟨prR_blind, va_recv hK hPc (ci := 12) (q0 := 0) rfl rfl, fun U hU hW => ⟨rfl, prR_go hPc hK hU hW⟩⟩ rfl rfl hl.1 rfl (lv_room (Nat.le_of_ble_eq_true rfl)) dX12_token_1 ⟨by decide +kernel, by decide +kernel⟩) (fun r_1 er_1 => ?_)
  subst er_1
  refine W.eq (g2 := F0 m 4 ls [.int (-1)]) rfl ?_
  refine lv_bipush (v := 10) hx hb dX12_token_4 (by decide) ?_
  refine lv_icmp_eq (tgt := 18) hx hb dX12_token_6 (by decide) (fun c_2 => absurd c_2 (by decide)) (fun _ => ?_)
  refine lv_aload_n hx hb dX12_token_9 rfl (lv_at hl 0 rfl) ?_
  have hPc := hP.sub (ws' := [(h, .inr (12, [.int v0, .ref m1, .ref m2, .ref m3, .ref m4, .ref m5, .ref m6, .ref m7, .ref m8, .ref m9, .int 0, .int 0, .int v12, .int v13, .int v14, .long v15, .int v16, .int v17, .int v18, .ref m19, .ref m20, .int v21, .int v22, .int v23, .int v24, .int v25, .int v26, .ref m27, .int v28, .ref m29, .ref m30, .ref m31, .ref m32, .int v33, .ref m34, .int v35, .ref m36, .ref m37, .ref m38, .ref m39, .ref m40, .int v41, .ref m42, .ref m43, .ref m44]))]) [0] rfl
  refine vp_callSi (W.runV (As := []) (rest := []) ⟨hx, hb, hml, hown, hts⟩ (m_see l dC dI k h v0 m1 m2 m3 m4 m5 m6 m7 m8 m9 v12 v13 v14 v15 v16 v17 v18 m19 m20 v21 v22 v23 v24 v25 v26 m27 v28 m29 m30 m31 m32 v33 m34 v35 m36 m37 m38 m39 m40 v41 m42 m43 m44) (cwV 0 hts gm_token_m_see rfl rfl rfl (by decide +kernel) ⟨Nat.le_of_ble_eq_true rfl, Nat.le_of_ble_eq_true rfl⟩) ⟨prR_blind, va_recv hK hPc (ci := 12) (q0 := 0) rfl rfl, fun U hU hW => ⟨rfl, prR_go hPc hK hU hW⟩⟩ rfl rfl hl.1 rfl (lv_room (Nat.le_of_ble_eq_true rfl)) dX12_token_10 ⟨by decide +kernel, by decide +kernel⟩) (fun r_3 er_3 => ?_)
  subst er_3
  refine W.eq (g2 := F0 m 13 ls [.int (-1)]) rfl ?_
  refine lv_bipush (v := 32) hx hb dX12_token_13 (by decide) ?_
  refine lv_icmp_ne (tgt := 31) hx hb dX12_token_15 (by decide) (fun _ => ?_) (fun c_4 => absurd c_4 (by decide))
  refine lv_aload_n hx hb dX12_token_31 rfl (lv_at hl 0 rfl) ?_
  refine lv_aload_n hx hb dX12_token_32 rfl (lv_at hl 0 rfl) ?_
  refine va_get (D := (dC, dI)) (ci := 12) (v := .int 0) (C := RX12) (T := TX12) (N := 45) hx hb hts hi12 hown hK hP 0 rfl rfl 10 (by decide) (hts (.fieldLink RX12 108 "HeightFineModel" "reached" "I") (by decide +kernel)) (fun _ h9 => h9) rfl dX12_token_33 ?_
  refine va_put (D := (dC, dI)) (ci := 12) (v := .int 0) (ty := .int) (C := RX12) (T := TX12) (N := 45) hx hb hts hi12 tyX12 tyX12_ok nmX12 hown hK hP hD hS 0 rfl rfl 12 (by decide) (hts (.fieldLink RX12 118 "HeightFineModel" "begins" "I") (by decide +kernel)) (fun _ h9 => h9) rfl (by decide +kernel) rfl rfl (Nat.le_of_ble_eq_true rfl) dX12_token_36 (fun H locs hP hD hS => ?_)
  have hP : va_P (dC, dI) vwCl [(h, .inr (12, [.int v0, .ref m1, .ref m2, .ref m3, .ref m4, .ref m5, .ref m6, .ref m7, .ref m8, .ref m9, .int 0, .int 0, .int 0, .int v13, .int v14, .long v15, .int v16, .int v17, .int v18, .ref m19, .ref m20, .int v21, .int v22, .int v23, .int v24, .int v25, .int v26, .ref m27, .int v28, .ref m29, .ref m30, .ref m31, .ref m32, .int v33, .ref m34, .int v35, .ref m36, .ref m37, .ref m38, .ref m39, .ref m40, .int v41, .ref m42, .ref m43, .ref m44]))] H := hP
  have hD : va_D A [(h, .inr (12, [.int v0, .ref m1, .ref m2, .ref m3, .ref m4, .ref m5, .ref m6, .ref m7, .ref m8, .ref m9, .int 0, .int 0, .int 0, .int v13, .int v14, .long v15, .int v16, .int v17, .int v18, .ref m19, .ref m20, .int v21, .int v22, .int v23, .int v24, .int v25, .int v26, .ref m27, .int v28, .ref m29, .ref m30, .ref m31, .ref m32, .int v33, .ref m34, .int v35, .ref m36, .ref m37, .ref m38, .ref m39, .ref m40, .int v41, .ref m42, .ref m43, .ref m44]))] := hD
  refine lv_aload_n hx hb dX12_token_39 rfl (lv_at hl 0 rfl) ?_
  have hPc := hP.sub (ws' := [(h, .inr (12, [.int v0, .ref m1, .ref m2, .ref m3, .ref m4, .ref m5, .ref m6, .ref m7, .ref m8, .ref m9, .int 0, .int 0, .int 0, .int v13, .int v14, .long v15, .int v16, .int v17, .int v18, .ref m19, .ref m20, .int v21, .int v22, .int v23, .int v24, .int v25, .int v26, .ref m27, .int v28, .ref m29, .ref m30, .ref m31, .ref m32, .int v33, .ref m34, .int v35, .ref m36, .ref m37, .ref m38, .ref m39, .ref m40, .int v41, .ref m42, .ref m43, .ref m44]))]) [0] rfl
  refine vp_callSi (W.runV (As := []) (rest := []) ⟨hx, hb, hml, hown, hts⟩ (m_see l dC dI k h v0 m1 m2 m3 m4 m5 m6 m7 m8 m9 0 v13 v14 v15 v16 v17 v18 m19 m20 v21 v22 v23 v24 v25 v26 m27 v28 m29 m30 m31 m32 v33 m34 v35 m36 m37 m38 m39 m40 v41 m42 m43 m44) (cwV 0 hts gm_token_m_see rfl rfl rfl (by decide +kernel) ⟨Nat.le_of_ble_eq_true rfl, Nat.le_of_ble_eq_true rfl⟩) ⟨prR_blind, va_recv hK hPc (ci := 12) (q0 := 0) rfl rfl, fun U hU hW => ⟨rfl, prR_go hPc hK hU hW⟩⟩ rfl rfl hl.1 rfl (lv_room (Nat.le_of_ble_eq_true rfl)) dX12_token_40 ⟨by decide +kernel, by decide +kernel⟩) (fun r_5 er_5 => ?_)
  subst er_5
  refine W.eq (g2 := F0 m 43 ls [.int (-1)]) rfl ?_
  refine lv_istore_n (lv' := [(1, .int (-1)), (0, .ref h)]) hx hb dX12_token_43 rfl hl (by decide) rfl (fun ls hl => ?_)
  refine lv_aload_n hx hb dX12_token_44 rfl (lv_at hl 1 rfl) ?_
  refine lv_lconst (v := 0) hx hb dX12_token_45 (by decide) ?_
  refine va_put (D := (dC, dI)) (ci := 12) (v := .long 0) (ty := .long) (C := RX12) (T := TX12) (N := 45) hx hb hts hi12 tyX12 tyX12_ok nmX12 hown hK hP hD hS 0 rfl rfl 15 (by decide) (hts (.fieldLink RX12 121 "HeightFineModel" "word" "J") (by decide +kernel)) (fun _ h9 => h9) rfl (by decide +kernel) rfl rfl (Nat.le_of_ble_eq_true rfl) dX12_token_46 (fun H locs hP hD hS => ?_)
  have hP : va_P (dC, dI) vwCl [(h, .inr (12, [.int v0, .ref m1, .ref m2, .ref m3, .ref m4, .ref m5, .ref m6, .ref m7, .ref m8, .ref m9, .int 0, .int 0, .int 0, .int v13, .int v14, .long 0, .int v16, .int v17, .int v18, .ref m19, .ref m20, .int v21, .int v22, .int v23, .int v24, .int v25, .int v26, .ref m27, .int v28, .ref m29, .ref m30, .ref m31, .ref m32, .int v33, .ref m34, .int v35, .ref m36, .ref m37, .ref m38, .ref m39, .ref m40, .int v41, .ref m42, .ref m43, .ref m44]))] H := hP
  have hD : va_D A [(h, .inr (12, [.int v0, .ref m1, .ref m2, .ref m3, .ref m4, .ref m5, .ref m6, .ref m7, .ref m8, .ref m9, .int 0, .int 0, .int 0, .int v13, .int v14, .long 0, .int v16, .int v17, .int v18, .ref m19, .ref m20, .int v21, .int v22, .int v23, .int v24, .int v25, .int v26, .ref m27, .int v28, .ref m29, .ref m30, .ref m31, .ref m32, .int v33, .ref m34, .int v35, .ref m36, .ref m37, .ref m38, .ref m39, .ref m40, .int v41, .ref m42, .ref m43, .ref m44]))] := hD
  refine lv_iconst (v := 0) hx hb dX12_token_49 (by decide) ?_
  refine lv_istore_n (lv' := [(2, .int 0), (1, .int (-1)), (0, .ref h)]) hx hb dX12_token_50 rfl hl (by decide) rfl (fun ls hl => ?_)
  refine lv_iload_n hx hb dX12_token_51 rfl (lv_at hl 1 rfl) ?_
  refine lv_if_ge (tgt := 63) hx hb dX12_token_52 (by decide) (fun c_6 => absurd c_6 (by decide)) (fun _ => ?_)
  refine lv_aload_n hx hb dX12_token_55 rfl (lv_at hl 2 rfl) ?_
  refine lv_iconst (v := 0) hx hb dX12_token_56 (by decide) ?_
  refine va_put (D := (dC, dI)) (ci := 12) (v := .int 0) (ty := .int) (C := RX12) (T := TX12) (N := 45) hx hb hts hi12 tyX12 tyX12_ok nmX12 hown hK hP hD hS 0 rfl rfl 13 (by decide) (hts (.fieldLink RX12 125 "HeightFineModel" "sort" "I") (by decide +kernel)) (fun _ h9 => h9) rfl (by decide +kernel) rfl rfl (Nat.le_of_ble_eq_true rfl) dX12_token_57 (fun H locs hP hD hS => ?_)
  have hP : va_P (dC, dI) vwCl [(h, .inr (12, [.int v0, .ref m1, .ref m2, .ref m3, .ref m4, .ref m5, .ref m6, .ref m7, .ref m8, .ref m9, .int 0, .int 0, .int 0, .int 0, .int v14, .long 0, .int v16, .int v17, .int v18, .ref m19, .ref m20, .int v21, .int v22, .int v23, .int v24, .int v25, .int v26, .ref m27, .int v28, .ref m29, .ref m30, .ref m31, .ref m32, .int v33, .ref m34, .int v35, .ref m36, .ref m37, .ref m38, .ref m39, .ref m40, .int v41, .ref m42, .ref m43, .ref m44]))] H := hP
  have hD : va_D A [(h, .inr (12, [.int v0, .ref m1, .ref m2, .ref m3, .ref m4, .ref m5, .ref m6, .ref m7, .ref m8, .ref m9, .int 0, .int 0, .int 0, .int 0, .int v14, .long 0, .int v16, .int v17, .int v18, .ref m19, .ref m20, .int v21, .int v22, .int v23, .int v24, .int v25, .int v26, .ref m27, .int v28, .ref m29, .ref m30, .ref m31, .ref m32, .int v33, .ref m34, .int v35, .ref m36, .ref m37, .ref m38, .ref m39, .ref m40, .int v41, .ref m42, .ref m43, .ref m44]))] := hD
  refine lv_goto (tgt := 266) hx hb dX12_token_60 (by decide) ?_
  have hP9 : va_P (dC, dI) vwCl [(h, .inr (12, [.int v0, .ref m1, .ref m2, .ref m3, .ref m4, .ref m5, .ref m6, .ref m7, .ref m8, .ref m9, .int 0, .int 0, .int 0, .int 0, .int v14, .long 0, .int v16, .int v17, .int v18, .ref m19, .ref m20, .int v21, .int v22, .int v23, .int v24, .int v25, .int v26, .ref m27, .int v28, .ref m29, .ref m30, .ref m31, .ref m32, .int v33, .ref m34, .int v35, .ref m36, .ref m37, .ref m38, .ref m39, .ref m40, .int v41, .ref m42, .ref m43, .ref m44]))] H := hP.sub (ws' := [(h, .inr (12, [.int v0, .ref m1, .ref m2, .ref m3, .ref m4, .ref m5, .ref m6, .ref m7, .ref m8, .ref m9, .int 0, .int 0, .int 0, .int 0, .int v14, .long 0, .int v16, .int v17, .int v18, .ref m19, .ref m20, .int v21, .int v22, .int v23, .int v24, .int v25, .int v26, .ref m27, .int v28, .ref m29, .ref m30, .ref m31, .ref m32, .int v33, .ref m34, .int v35, .ref m36, .ref m37, .ref m38, .ref m39, .ref m40, .int v41, .ref m42, .ref m43, .ref m44]))]) [0] rfl
  have hD9 : va_D A [(h, .inr (12, [.int v0, .ref m1, .ref m2, .ref m3, .ref m4, .ref m5, .ref m6, .ref m7, .ref m8, .ref m9, .int 0, .int 0, .int 0, .int 0, .int v14, .long 0, .int v16, .int v17, .int v18, .ref m19, .ref m20, .int v21, .int v22, .int v23, .int v24, .int v25, .int v26, .ref m27, .int v28, .ref m29, .ref m30, .ref m31, .ref m32, .int v33, .ref m34, .int v35, .ref m36, .ref m37, .ref m38, .ref m39, .ref m40, .int v41, .ref m42, .ref m43, .ref m44]))] := hD.sub (ws' := [(h, .inr (12, [.int v0, .ref m1, .ref m2, .ref m3, .ref m4, .ref m5, .ref m6, .ref m7, .ref m8, .ref m9, .int 0, .int 0, .int 0, .int 0, .int v14, .long 0, .int v16, .int v17, .int v18, .ref m19, .ref m20, .int v21, .int v22, .int v23, .int v24, .int v25, .int v26, .ref m27, .int v28, .ref m29, .ref m30, .ref m31, .ref m32, .int v33, .ref m34, .int v35, .ref m36, .ref m37, .ref m38, .ref m39, .ref m40, .int v41, .ref m42, .ref m43, .ref m44]))]) [0] (by decide) rfl
  refine W.widen (k := 0) (n := 0) (by decide +kernel) (by decide +kernel) ?_
  exact W.vret hx hb hr (fun t ht hW => ⟨⟨(), rfl, trivial, by rw [ht]; exact hP9, hD9⟩, hS.F ht⟩) hS.2.2 dX12_token_266

def ws_m_lines_0 : List Cond := .code yX12_lines cX12_lines 4 (some .boolean) :: ([.fieldLink RX12 125 "HeightFineModel" "sort" "I"] ++ u_ws RX12 TX12 45)
set_option maxRecDepth 20000 in
theorem in_m_lines_0_12 : ∀ w ∈ u_ws RX12 TX12 45, w ∈ ws_m_lines_0 := by decide +kernel
set_option maxHeartbeats 4000000 in
set_option maxRecDepth 100000 in
theorem m_lines_0 (l : Launch) (dC : Nat → ClassId) (dI : Nat → Nat → Nat) (k : Nat → ClassId) (h : Nat) (v0 : Int32) (m1 : Nat) (m2 : Nat) (m3 : Nat) (m4 : Nat) (m5 : Nat) (m6 : Nat) (m7 : Nat) (m8 : Nat) (m9 : Nat) (v10 : Int32) (v11 : Int32) (v12 : Int32) (v14 : Int32) (v15 : Int64) (v16 : Int32) (v17 : Int32) (v18 : Int32) (m19 : Nat) (m20 : Nat) (v21 : Int32) (v22 : Int32) (v23 : Int32) (v24 : Int32) (v25 : Int32) (v26 : Int32) (m27 : Nat) (v28 : Int32) (m29 : Nat) (m30 : Nat) (m31 : Nat) (m32 : Nat) (v33 : Int32) (m34 : Nat) (v35 : Int32) (m36 : Nat) (m37 : Nat) (m38 : Nat) (m39 : Nat) (m40 : Nat) (v41 : Int32) (m42 : Nat) (m43 : Nat) (m44 : Nat) : Met l yX12_lines ws_m_lines_0 ({ frames := 0, cells := 0, slots := 0, locals := 0 }) (va_Pc [.ref h, .int 0] (prR dC dI k [(h, .inr (12, [.int v0, .ref m1, .ref m2, .ref m3, .ref m4, .ref m5, .ref m6, .ref m7, .ref m8, .ref m9, .int v10, .int v11, .int v12, .int 0, .int v14, .long v15, .int v16, .int v17, .int v18, .ref m19, .ref m20, .int v21, .int v22, .int v23, .int v24, .int v25, .int v26, .ref m27, .int v28, .ref m29, .ref m30, .ref m31, .ref m32, .int v33, .ref m34, .int v35, .ref m36, .ref m37, .ref m38, .ref m39, .ref m40, .int v41, .ref m42, .ref m43, .ref m44]))])) (vp_Si (fun r => r = 1)) 0 0 (fun _ => False) := by
  refine Met.ofW (cc := cX12_lines) (maxL := 4) (ret := (some .boolean)) (by decide) rfl ?_
  intro p e s m args below meth c s₁ B hml hv
  obtain ⟨rfl, hP, hK⟩ := hv
  have hx := B.exec
  have hb := B.bytes
  have hr := B.returns
  have hts := atoms_spec (ws := ws_m_lines_0) B.pre
  have hown : s.vm.findClass RX12 = some m.cls := findClass_of_methodNamed B.named
  have hi12 := in_m_lines_0_12
  have hP : va_P (dC, dI) vwCl [(h, .inr (12, [.int v0, .ref m1, .ref m2, .ref m3, .ref m4, .ref m5, .ref m6, .ref m7, .ref m8, .ref m9, .int v10, .int v11, .int v12, .int 0, .int v14, .long v15, .int v16, .int v17, .int v18, .ref m19, .ref m20, .int v21, .int v22, .int v23, .int v24, .int v25, .int v26, .ref m27, .int v28, .ref m29, .ref m30, .ref m31, .ref m32, .int v33, .ref m34, .int v35, .ref m36, .ref m37, .ref m38, .ref m39, .ref m40, .int v41, .ref m42, .ref m43, .ref m44]))] s.heap := hP
  have hl := lv_entry ([.ref h, .int 0]) (n := 4) (Nat.le_of_ble_eq_true rfl)
  rw [lg_entry_eq]
  generalize (lg_sl ([.ref h, .int 0]) ++ List.replicate (4 - (lg_sl ([.ref h, .int 0])).length) Slot.unset).toArray = ls at hl ⊢
  have hl : lv_has ls 4 [(0, .ref h), (1, .int 0)] := hl
  refine lv_iconst (v := 1) hx hb dX12_lines_0 (by decide) ?_
  refine lv_istore_n (lv' := [(2, .int 1), (0, .ref h), (1, .int 0)]) hx hb dX12_lines_1 rfl hl (by decide) rfl (fun ls hl => ?_)
  refine lv_iload_n hx hb dX12_lines_2 rfl (lv_at hl 0 rfl) ?_
  refine lv_if_eq (tgt := 74) hx hb dX12_lines_3 (by decide) (fun c_1 => absurd c_1 (by decide)) (fun _ => ?_)
  refine lv_aload_n hx hb dX12_lines_6 rfl (lv_at hl 1 rfl) ?_
  refine va_get (D := (dC, dI)) (ci := 12) (v := .int 0) (C := RX12) (T := TX12) (N := 45) hx hb hts hi12 hown hK hP 0 rfl rfl 13 (by decide) (hts (.fieldLink RX12 125 "HeightFineModel" "sort" "I") (by decide +kernel)) (fun _ h9 => h9) rfl dX12_lines_7 ?_
  refine lv_if_eq (tgt := 74) hx hb dX12_lines_10 (by decide) (fun _ => ?_) (fun c_2 => absurd (by decide) c_2)
  refine lv_iload_n hx hb dX12_lines_74 rfl (lv_at hl 0 rfl) ?_
  exact W.zret (v := 1) hx hb hr rfl (fun t ht hW => ⟨1, rfl, rfl, ht⟩) (fun q h => absurd h List.not_mem_nil) dX12_lines_75

def ws_m_lines_1 : List Cond := .code yX12_lines cX12_lines 4 (some .boolean) :: ([.fieldLink RX12 125 "HeightFineModel" "sort" "I"] ++ u_ws RX12 TX12 45)
set_option maxRecDepth 20000 in
theorem in_m_lines_1_12 : ∀ w ∈ u_ws RX12 TX12 45, w ∈ ws_m_lines_1 := by decide +kernel
set_option maxHeartbeats 4000000 in
set_option maxRecDepth 100000 in
theorem m_lines_1 (l : Launch) (dC : Nat → ClassId) (dI : Nat → Nat → Nat) (k : Nat → ClassId) (h : Nat) (v0 : Int32) (m1 : Nat) (m2 : Nat) (m3 : Nat) (m4 : Nat) (m5 : Nat) (m6 : Nat) (m7 : Nat) (m8 : Nat) (m9 : Nat) (v10 : Int32) (v11 : Int32) (v12 : Int32) (v14 : Int32) (v15 : Int64) (v16 : Int32) (v17 : Int32) (v18 : Int32) (m19 : Nat) (m20 : Nat) (v21 : Int32) (v22 : Int32) (v23 : Int32) (v24 : Int32) (v25 : Int32) (v26 : Int32) (m27 : Nat) (v28 : Int32) (m29 : Nat) (m30 : Nat) (m31 : Nat) (m32 : Nat) (v33 : Int32) (m34 : Nat) (v35 : Int32) (m36 : Nat) (m37 : Nat) (m38 : Nat) (m39 : Nat) (m40 : Nat) (v41 : Int32) (m42 : Nat) (m43 : Nat) (m44 : Nat) : Met l yX12_lines ws_m_lines_1 ({ frames := 0, cells := 0, slots := 0, locals := 0 }) (va_Pc [.ref h, .int 1] (prR dC dI k [(h, .inr (12, [.int v0, .ref m1, .ref m2, .ref m3, .ref m4, .ref m5, .ref m6, .ref m7, .ref m8, .ref m9, .int v10, .int v11, .int v12, .int 0, .int v14, .long v15, .int v16, .int v17, .int v18, .ref m19, .ref m20, .int v21, .int v22, .int v23, .int v24, .int v25, .int v26, .ref m27, .int v28, .ref m29, .ref m30, .ref m31, .ref m32, .int v33, .ref m34, .int v35, .ref m36, .ref m37, .ref m38, .ref m39, .ref m40, .int v41, .ref m42, .ref m43, .ref m44]))])) (vp_Si (fun r => r = 1)) 0 0 (fun _ => False) := by
  refine Met.ofW (cc := cX12_lines) (maxL := 4) (ret := (some .boolean)) (by decide) rfl ?_
  intro p e s m args below meth c s₁ B hml hv
  obtain ⟨rfl, hP, hK⟩ := hv
  have hx := B.exec
  have hb := B.bytes
  have hr := B.returns
  have hts := atoms_spec (ws := ws_m_lines_1) B.pre
  have hown : s.vm.findClass RX12 = some m.cls := findClass_of_methodNamed B.named
  have hi12 := in_m_lines_1_12
  have hP : va_P (dC, dI) vwCl [(h, .inr (12, [.int v0, .ref m1, .ref m2, .ref m3, .ref m4, .ref m5, .ref m6, .ref m7, .ref m8, .ref m9, .int v10, .int v11, .int v12, .int 0, .int v14, .long v15, .int v16, .int v17, .int v18, .ref m19, .ref m20, .int v21, .int v22, .int v23, .int v24, .int v25, .int v26, .ref m27, .int v28, .ref m29, .ref m30, .ref m31, .ref m32, .int v33, .ref m34, .int v35, .ref m36, .ref m37, .ref m38, .ref m39, .ref m40, .int v41, .ref m42, .ref m43, .ref m44]))] s.heap := hP
  have hl := lv_entry ([.ref h, .int 1]) (n := 4) (Nat.le_of_ble_eq_true rfl)
  rw [lg_entry_eq]
  generalize (lg_sl ([.ref h, .int 1]) ++ List.replicate (4 - (lg_sl ([.ref h, .int 1])).length) Slot.unset).toArray = ls at hl ⊢
  have hl : lv_has ls 4 [(0, .ref h), (1, .int 1)] := hl
  refine lv_iconst (v := 1) hx hb dX12_lines_0 (by decide) ?_
  refine lv_istore_n (lv' := [(2, .int 1), (0, .ref h), (1, .int 1)]) hx hb dX12_lines_1 rfl hl (by decide) rfl (fun ls hl => ?_)
  refine lv_iload_n hx hb dX12_lines_2 rfl (lv_at hl 0 rfl) ?_
  refine lv_if_eq (tgt := 74) hx hb dX12_lines_3 (by decide) (fun c_1 => absurd c_1 (by decide)) (fun _ => ?_)
  refine lv_aload_n hx hb dX12_lines_6 rfl (lv_at hl 1 rfl) ?_
  refine va_get (D := (dC, dI)) (ci := 12) (v := .int 0) (C := RX12) (T := TX12) (N := 45) hx hb hts hi12 hown hK hP 0 rfl rfl 13 (by decide) (hts (.fieldLink RX12 125 "HeightFineModel" "sort" "I") (by decide +kernel)) (fun _ h9 => h9) rfl dX12_lines_7 ?_
  refine lv_if_eq (tgt := 74) hx hb dX12_lines_10 (by decide) (fun _ => ?_) (fun c_2 => absurd (by decide) c_2)
  refine lv_iload_n hx hb dX12_lines_74 rfl (lv_at hl 0 rfl) ?_
  exact W.zret (v := 1) hx hb hr rfl (fun t ht hW => ⟨1, rfl, rfl, ht⟩) (fun q h => absurd h List.not_mem_nil) dX12_lines_75

def ws_m_lines_2 : List Cond := .code yX12_lines cX12_lines 4 (some .boolean) :: ([.fieldLink RX12 125 "HeightFineModel" "sort" "I"] ++ u_ws RX12 TX12 45)
set_option maxRecDepth 20000 in
theorem in_m_lines_2_12 : ∀ w ∈ u_ws RX12 TX12 45, w ∈ ws_m_lines_2 := by decide +kernel
set_option maxHeartbeats 4000000 in
set_option maxRecDepth 100000 in
theorem m_lines_2 (l : Launch) (dC : Nat → ClassId) (dI : Nat → Nat → Nat) (k : Nat → ClassId) (h : Nat) (v0 : Int32) (m1 : Nat) (m2 : Nat) (m3 : Nat) (m4 : Nat) (m5 : Nat) (m6 : Nat) (m7 : Nat) (m8 : Nat) (m9 : Nat) (v10 : Int32) (v11 : Int32) (v12 : Int32) (v14 : Int32) (v15 : Int64) (v16 : Int32) (v17 : Int32) (v18 : Int32) (m19 : Nat) (m20 : Nat) (v21 : Int32) (v22 : Int32) (v23 : Int32) (v24 : Int32) (v25 : Int32) (v26 : Int32) (m27 : Nat) (v28 : Int32) (m29 : Nat) (m30 : Nat) (m31 : Nat) (m32 : Nat) (v33 : Int32) (m34 : Nat) (v35 : Int32) (m36 : Nat) (m37 : Nat) (m38 : Nat) (m39 : Nat) (m40 : Nat) (v41 : Int32) (m42 : Nat) (m43 : Nat) (m44 : Nat) : Met l yX12_lines ws_m_lines_2 ({ frames := 0, cells := 0, slots := 0, locals := 0 }) (va_Pc [.ref h, .int 2] (prR dC dI k [(h, .inr (12, [.int v0, .ref m1, .ref m2, .ref m3, .ref m4, .ref m5, .ref m6, .ref m7, .ref m8, .ref m9, .int v10, .int v11, .int v12, .int 0, .int v14, .long v15, .int v16, .int v17, .int v18, .ref m19, .ref m20, .int v21, .int v22, .int v23, .int v24, .int v25, .int v26, .ref m27, .int v28, .ref m29, .ref m30, .ref m31, .ref m32, .int v33, .ref m34, .int v35, .ref m36, .ref m37, .ref m38, .ref m39, .ref m40, .int v41, .ref m42, .ref m43, .ref m44]))])) (vp_Si (fun r => r = 1)) 0 0 (fun _ => False) := by
  refine Met.ofW (cc := cX12_lines) (maxL := 4) (ret := (some .boolean)) (by decide) rfl ?_
  intro p e s m args below meth c s₁ B hml hv
  obtain ⟨rfl, hP, hK⟩ := hv
  have hx := B.exec
  have hb := B.bytes
  have hr := B.returns
  have hts := atoms_spec (ws := ws_m_lines_2) B.pre
  have hown : s.vm.findClass RX12 = some m.cls := findClass_of_methodNamed B.named
  have hi12 := in_m_lines_2_12
  have hP : va_P (dC, dI) vwCl [(h, .inr (12, [.int v0, .ref m1, .ref m2, .ref m3, .ref m4, .ref m5, .ref m6, .ref m7, .ref m8, .ref m9, .int v10, .int v11, .int v12, .int 0, .int v14, .long v15, .int v16, .int v17, .int v18, .ref m19, .ref m20, .int v21, .int v22, .int v23, .int v24, .int v25, .int v26, .ref m27, .int v28, .ref m29, .ref m30, .ref m31, .ref m32, .int v33, .ref m34, .int v35, .ref m36, .ref m37, .ref m38, .ref m39, .ref m40, .int v41, .ref m42, .ref m43, .ref m44]))] s.heap := hP
  have hl := lv_entry ([.ref h, .int 2]) (n := 4) (Nat.le_of_ble_eq_true rfl)
  rw [lg_entry_eq]
  generalize (lg_sl ([.ref h, .int 2]) ++ List.replicate (4 - (lg_sl ([.ref h, .int 2])).length) Slot.unset).toArray = ls at hl ⊢
  have hl : lv_has ls 4 [(0, .ref h), (1, .int 2)] := hl
  refine lv_iconst (v := 1) hx hb dX12_lines_0 (by decide) ?_
  refine lv_istore_n (lv' := [(2, .int 1), (0, .ref h), (1, .int 2)]) hx hb dX12_lines_1 rfl hl (by decide) rfl (fun ls hl => ?_)
  refine lv_iload_n hx hb dX12_lines_2 rfl (lv_at hl 0 rfl) ?_
  refine lv_if_eq (tgt := 74) hx hb dX12_lines_3 (by decide) (fun c_1 => absurd c_1 (by decide)) (fun _ => ?_)
  refine lv_aload_n hx hb dX12_lines_6 rfl (lv_at hl 1 rfl) ?_
  refine va_get (D := (dC, dI)) (ci := 12) (v := .int 0) (C := RX12) (T := TX12) (N := 45) hx hb hts hi12 hown hK hP 0 rfl rfl 13 (by decide) (hts (.fieldLink RX12 125 "HeightFineModel" "sort" "I") (by decide +kernel)) (fun _ h9 => h9) rfl dX12_lines_7 ?_
  refine lv_if_eq (tgt := 74) hx hb dX12_lines_10 (by decide) (fun _ => ?_) (fun c_2 => absurd (by decide) c_2)
  refine lv_iload_n hx hb dX12_lines_74 rfl (lv_at hl 0 rfl) ?_
  exact W.zret (v := 1) hx hb hr rfl (fun t ht hW => ⟨1, rfl, rfl, ht⟩) (fun q h => absurd h List.not_mem_nil) dX12_lines_75

def ws_m_lines_3 : List Cond := .code yX12_lines cX12_lines 4 (some .boolean) :: ([.fieldLink RX12 125 "HeightFineModel" "sort" "I"] ++ u_ws RX12 TX12 45)
set_option maxRecDepth 20000 in
theorem in_m_lines_3_12 : ∀ w ∈ u_ws RX12 TX12 45, w ∈ ws_m_lines_3 := by decide +kernel
set_option maxHeartbeats 4000000 in
set_option maxRecDepth 100000 in
theorem m_lines_3 (l : Launch) (dC : Nat → ClassId) (dI : Nat → Nat → Nat) (k : Nat → ClassId) (h : Nat) (v0 : Int32) (m1 : Nat) (m2 : Nat) (m3 : Nat) (m4 : Nat) (m5 : Nat) (m6 : Nat) (m7 : Nat) (m8 : Nat) (m9 : Nat) (v10 : Int32) (v11 : Int32) (v12 : Int32) (v14 : Int32) (v15 : Int64) (v16 : Int32) (v17 : Int32) (v18 : Int32) (m19 : Nat) (m20 : Nat) (v21 : Int32) (v22 : Int32) (v23 : Int32) (v24 : Int32) (v25 : Int32) (v26 : Int32) (m27 : Nat) (v28 : Int32) (m29 : Nat) (m30 : Nat) (m31 : Nat) (m32 : Nat) (v33 : Int32) (m34 : Nat) (v35 : Int32) (m36 : Nat) (m37 : Nat) (m38 : Nat) (m39 : Nat) (m40 : Nat) (v41 : Int32) (m42 : Nat) (m43 : Nat) (m44 : Nat) : Met l yX12_lines ws_m_lines_3 ({ frames := 0, cells := 0, slots := 0, locals := 0 }) (va_Pc [.ref h, .int 3] (prR dC dI k [(h, .inr (12, [.int v0, .ref m1, .ref m2, .ref m3, .ref m4, .ref m5, .ref m6, .ref m7, .ref m8, .ref m9, .int v10, .int v11, .int v12, .int 0, .int v14, .long v15, .int v16, .int v17, .int v18, .ref m19, .ref m20, .int v21, .int v22, .int v23, .int v24, .int v25, .int v26, .ref m27, .int v28, .ref m29, .ref m30, .ref m31, .ref m32, .int v33, .ref m34, .int v35, .ref m36, .ref m37, .ref m38, .ref m39, .ref m40, .int v41, .ref m42, .ref m43, .ref m44]))])) (vp_Si (fun r => r = 1)) 0 0 (fun _ => False) := by
  refine Met.ofW (cc := cX12_lines) (maxL := 4) (ret := (some .boolean)) (by decide) rfl ?_
  intro p e s m args below meth c s₁ B hml hv
  obtain ⟨rfl, hP, hK⟩ := hv
  have hx := B.exec
  have hb := B.bytes
  have hr := B.returns
  have hts := atoms_spec (ws := ws_m_lines_3) B.pre
  have hown : s.vm.findClass RX12 = some m.cls := findClass_of_methodNamed B.named
  have hi12 := in_m_lines_3_12
  have hP : va_P (dC, dI) vwCl [(h, .inr (12, [.int v0, .ref m1, .ref m2, .ref m3, .ref m4, .ref m5, .ref m6, .ref m7, .ref m8, .ref m9, .int v10, .int v11, .int v12, .int 0, .int v14, .long v15, .int v16, .int v17, .int v18, .ref m19, .ref m20, .int v21, .int v22, .int v23, .int v24, .int v25, .int v26, .ref m27, .int v28, .ref m29, .ref m30, .ref m31, .ref m32, .int v33, .ref m34, .int v35, .ref m36, .ref m37, .ref m38, .ref m39, .ref m40, .int v41, .ref m42, .ref m43, .ref m44]))] s.heap := hP
  have hl := lv_entry ([.ref h, .int 3]) (n := 4) (Nat.le_of_ble_eq_true rfl)
  rw [lg_entry_eq]
  generalize (lg_sl ([.ref h, .int 3]) ++ List.replicate (4 - (lg_sl ([.ref h, .int 3])).length) Slot.unset).toArray = ls at hl ⊢
  have hl : lv_has ls 4 [(0, .ref h), (1, .int 3)] := hl
  refine lv_iconst (v := 1) hx hb dX12_lines_0 (by decide) ?_
  refine lv_istore_n (lv' := [(2, .int 1), (0, .ref h), (1, .int 3)]) hx hb dX12_lines_1 rfl hl (by decide) rfl (fun ls hl => ?_)
  refine lv_iload_n hx hb dX12_lines_2 rfl (lv_at hl 0 rfl) ?_
  refine lv_if_eq (tgt := 74) hx hb dX12_lines_3 (by decide) (fun c_1 => absurd c_1 (by decide)) (fun _ => ?_)
  refine lv_aload_n hx hb dX12_lines_6 rfl (lv_at hl 1 rfl) ?_
  refine va_get (D := (dC, dI)) (ci := 12) (v := .int 0) (C := RX12) (T := TX12) (N := 45) hx hb hts hi12 hown hK hP 0 rfl rfl 13 (by decide) (hts (.fieldLink RX12 125 "HeightFineModel" "sort" "I") (by decide +kernel)) (fun _ h9 => h9) rfl dX12_lines_7 ?_
  refine lv_if_eq (tgt := 74) hx hb dX12_lines_10 (by decide) (fun _ => ?_) (fun c_2 => absurd (by decide) c_2)
  refine lv_iload_n hx hb dX12_lines_74 rfl (lv_at hl 0 rfl) ?_
  exact W.zret (v := 1) hx hb hr rfl (fun t ht hW => ⟨1, rfl, rfl, ht⟩) (fun q h => absurd h List.not_mem_nil) dX12_lines_75

def ws_m_goesRound : List Cond := .code yX12_goesRound cX12_goesRound 4 (some .boolean) :: ([.fieldLink RX12 38 "HeightFineModel" "told" "[I"] ++ u_ws RX12 TX12 45)
set_option maxRecDepth 20000 in
theorem in_m_goesRound_12 : ∀ w ∈ u_ws RX12 TX12 45, w ∈ ws_m_goesRound := by decide +kernel
set_option maxHeartbeats 4000000 in
set_option maxRecDepth 100000 in
theorem m_goesRound (l : Launch) (dC : Nat → ClassId) (dI : Nat → Nat → Nat) (k : Nat → ClassId) (h : Nat) (v0 : Int32) (m1 : Nat) (m2 : Nat) (m3 : Nat) (m4 : Nat) (m5 : Nat) (m6 : Nat) (m7 : Nat) (m8 : Nat) (m9 : Nat) (v10 : Int32) (v11 : Int32) (v12 : Int32) (v13 : Int32) (v14 : Int32) (v15 : Int64) (v16 : Int32) (v17 : Int32) (v18 : Int32) (m19 : Nat) (m20 : Nat) (v21 : Int32) (v22 : Int32) (v23 : Int32) (v24 : Int32) (v25 : Int32) (v26 : Int32) (m27 : Nat) (v28 : Int32) (m29 : Nat) (m30 : Nat) (m31 : Nat) (m32 : Nat) (v33 : Int32) (m34 : Nat) (v35 : Int32) (m36 : Nat) (m37 : Nat) (m38 : Nat) (m39 : Nat) (m40 : Nat) (v41 : Int32) (m42 : Nat) (m43 : Nat) (m44 : Nat) (ft : Nat → Int32) (hz : ft 0 = 0) (hz3 : ft 3 = 0) : Met l yX12_goesRound ws_m_goesRound ({ frames := 0, cells := 0, slots := 0, locals := 0 }) (va_Pc [.ref h] (prR dC dI k [(h, .inr (12, [.int v0, .ref m1, .ref m2, .ref m3, .ref m4, .ref m5, .ref m6, .ref m7, .ref m8, .ref m9, .int v10, .int v11, .int v12, .int v13, .int v14, .long v15, .int v16, .int v17, .int v18, .ref m19, .ref m20, .int v21, .int v22, .int v23, .int v24, .int v25, .int v26, .ref m27, .int v28, .ref m29, .ref m30, .ref m31, .ref m32, .int v33, .ref m34, .int v35, .ref m36, .ref m37, .ref m38, .ref m39, .ref m40, .int v41, .ref m42, .ref m43, .ref m44])), (m19, .inl (k 0, 161, .inl ft))])) (vp_Si (fun r => r = 0)) 0 0 (fun _ => False) := by
  refine Met.ofW (cc := cX12_goesRound) (maxL := 4) (ret := (some .boolean)) (by decide) rfl ?_
  intro p e s m args below meth c s₁ B hml hv
  obtain ⟨rfl, hP, hK⟩ := hv
  have hx := B.exec
  have hb := B.bytes
  have hr := B.returns
  have hts := atoms_spec (ws := ws_m_goesRound) B.pre
  have hown : s.vm.findClass RX12 = some m.cls := findClass_of_methodNamed B.named
  have hi12 := in_m_goesRound_12
  have hP : va_P (dC, dI) vwCl [(h, .inr (12, [.int v0, .ref m1, .ref m2, .ref m3, .ref m4, .ref m5, .ref m6, .ref m7, .ref m8, .ref m9, .int v10, .int v11, .int v12, .int v13, .int v14, .long v15, .int v16, .int v17, .int v18, .ref m19, .ref m20, .int v21, .int v22, .int v23, .int v24, .int v25, .int v26, .ref m27, .int v28, .ref m29, .ref m30, .ref m31, .ref m32, .int v33, .ref m34, .int v35, .ref m36, .ref m37, .ref m38, .ref m39, .ref m40, .int v41, .ref m42, .ref m43, .ref m44])), (m19, .inl (k 0, 161, .inl ft))] s.heap := hP
  have hl := lv_entry ([.ref h]) (n := 4) (Nat.le_of_ble_eq_true rfl)
  rw [lg_entry_eq]
  generalize (lg_sl ([.ref h]) ++ List.replicate (4 - (lg_sl ([.ref h])).length) Slot.unset).toArray = ls at hl ⊢
  have hl : lv_has ls 4 [(0, .ref h)] := hl
  refine lv_iconst (v := 0) hx hb dX12_goesRound_0 (by decide) ?_
  refine lv_istore_n (lv' := [(1, .int 0), (0, .ref h)]) hx hb dX12_goesRound_1 rfl hl (by decide) rfl (fun ls hl => ?_)
  refine lv_iload_n hx hb dX12_goesRound_2 rfl (lv_at hl 0 rfl) ?_
  refine lv_aload_n hx hb dX12_goesRound_3 rfl (lv_at hl 1 rfl) ?_
  refine va_get (D := (dC, dI)) (ci := 12) (v := .ref m19) (C := RX12) (T := TX12) (N := 45) hx hb hts hi12 hown hK hP 0 rfl rfl 19 (by decide) (hts (.fieldLink RX12 38 "HeightFineModel" "told" "[I") (by decide +kernel)) (fun _ h9 => h9) rfl dX12_goesRound_4 ?_
  refine lv_iconst (v := 0) hx hb dX12_goesRound_7 (by decide) ?_
  refine va_iald hx hb hK hP 1 0 rfl rfl (i := 0) (zz_in (by decide)) dX12_goesRound_8 ?_
  refine W.eq (g2 := F0 m 9 ls [.int 0, .int 0]) (congrArg (fun z => F0 m 9 ls (.int z :: [.int 0])) hz) ?_
  refine lv_icmp_ge (tgt := 56) hx hb dX12_goesRound_9 (by decide) (fun _ => ?_) (fun c_1 => absurd (by decide) c_1)
  refine lv_iconst (v := 0) hx hb dX12_goesRound_56 (by decide) ?_
  exact W.zret (v := 0) hx hb hr rfl (fun t ht hW => ⟨0, rfl, rfl, ht⟩) (fun q h => absurd h List.not_mem_nil) dX12_goesRound_57

def ws_m_atEnd : List Cond := .code yX12_atEnd cX12_atEnd 1 none :: ([.fieldLink RX12 159 "HeightFineModel" "farPerson" "I", .fieldLink RX12 38 "HeightFineModel" "told" "[I", .fieldLink RX12 180 "HeightFineModel" "farDoor" "I", .methodLink RX12 271 yX12_goesRound, .instanceMethod yX12_goesRound, .selects RX12 yX12_goesRound yX12_goesRound, .initialized RX12, .code yX12_goesRound cX12_goesRound 4 (some .boolean)] ++ u_ws RX12 TX12 45)
set_option maxRecDepth 20000 in
theorem in_m_atEnd_12 : ∀ w ∈ u_ws RX12 TX12 45, w ∈ ws_m_atEnd := by decide +kernel
set_option maxRecDepth 20000 in
theorem gm_atEnd_m_goesRound : GoodIn ws_m_atEnd (wsV RX12 271 RX12 yX12_goesRound ws_m_goesRound) := goodIn_app (goodIn_of _ (by decide +kernel)) (goodIn_r _ [8, 2, 9, 10, 11, 12, 13, 14, 15, 16, 17, 18, 19, 20, 21, 22, 23, 24, 25, 26, 27, 28, 29, 30, 31, 32, 33, 34, 35, 36, 37, 38, 39, 40, 41, 42, 43, 44, 45, 46, 47, 48, 49, 50, 51, 52, 53] (by decide +kernel) (by decide +kernel))
set_option maxHeartbeats 4000000 in
set_option maxRecDepth 100000 in
theorem m_atEnd (l : Launch) (dC : Nat → ClassId) (dI : Nat → Nat → Nat) (k : Nat → ClassId) (h : Nat) (v0 : Int32) (m1 : Nat) (m2 : Nat) (m3 : Nat) (m4 : Nat) (m5 : Nat) (m6 : Nat) (m7 : Nat) (m8 : Nat) (m9 : Nat) (v10 : Int32) (v11 : Int32) (v12 : Int32) (v13 : Int32) (v14 : Int32) (v15 : Int64) (v16 : Int32) (v17 : Int32) (v18 : Int32) (m19 : Nat) (m20 : Nat) (v23 : Int32) (v24 : Int32) (v25 : Int32) (v26 : Int32) (m27 : Nat) (v28 : Int32) (m29 : Nat) (m30 : Nat) (m31 : Nat) (m32 : Nat) (v33 : Int32) (m34 : Nat) (v35 : Int32) (m36 : Nat) (m37 : Nat) (m38 : Nat) (m39 : Nat) (m40 : Nat) (v41 : Int32) (m42 : Nat) (m43 : Nat) (m44 : Nat) (ft : Nat → Int32) (hz : ft 0 = 0) (hz3 : ft 3 = 0) : Met l yX12_atEnd ws_m_atEnd ({ frames := 1, cells := 0, slots := 0, locals := 23 }) (va_Pc [.ref h] (prR dC dI k [(h, .inr (12, [.int v0, .ref m1, .ref m2, .ref m3, .ref m4, .ref m5, .ref m6, .ref m7, .ref m8, .ref m9, .int v10, .int v11, .int v12, .int v13, .int v14, .long v15, .int v16, .int v17, .int v18, .ref m19, .ref m20, .int (-1), .int (-1), .int v23, .int v24, .int v25, .int v26, .ref m27, .int v28, .ref m29, .ref m30, .ref m31, .ref m32, .int v33, .ref m34, .int v35, .ref m36, .ref m37, .ref m38, .ref m39, .ref m40, .int v41, .ref m42, .ref m43, .ref m44])), (m19, .inl (k 0, 161, .inl ft))])) (va_Sv (fun _ => True)) 0 0 (fun _ => False) := by
  refine Met.ofW (cc := cX12_atEnd) (maxL := 1) (ret := none) (by decide) rfl ?_
  intro p e s m args below meth c s₁ B hml hv
  obtain ⟨rfl, hP, hK⟩ := hv
  have hx := B.exec
  have hb := B.bytes
  have hr := B.returns
  have hts := atoms_spec (ws := ws_m_atEnd) B.pre
  have hown : s.vm.findClass RX12 = some m.cls := findClass_of_methodNamed B.named
  have hi12 := in_m_atEnd_12
  have hP : va_P (dC, dI) vwCl [(h, .inr (12, [.int v0, .ref m1, .ref m2, .ref m3, .ref m4, .ref m5, .ref m6, .ref m7, .ref m8, .ref m9, .int v10, .int v11, .int v12, .int v13, .int v14, .long v15, .int v16, .int v17, .int v18, .ref m19, .ref m20, .int (-1), .int (-1), .int v23, .int v24, .int v25, .int v26, .ref m27, .int v28, .ref m29, .ref m30, .ref m31, .ref m32, .int v33, .ref m34, .int v35, .ref m36, .ref m37, .ref m38, .ref m39, .ref m40, .int v41, .ref m42, .ref m43, .ref m44])), (m19, .inl (k 0, 161, .inl ft))] s.heap := hP
  have hl := lv_entry ([.ref h]) (n := 1) (Nat.le_of_ble_eq_true rfl)
  rw [lg_entry_eq]
  generalize (lg_sl ([.ref h]) ++ List.replicate (1 - (lg_sl ([.ref h])).length) Slot.unset).toArray = ls at hl ⊢
  have hl : lv_has ls 1 [(0, .ref h)] := hl
  refine lv_aload_n hx hb dX12_atEnd_0 rfl (lv_at hl 0 rfl) ?_
  refine va_get (D := (dC, dI)) (ci := 12) (v := .int (-1)) (C := RX12) (T := TX12) (N := 45) hx hb hts hi12 hown hK hP 0 rfl rfl 21 (by decide) (hts (.fieldLink RX12 159 "HeightFineModel" "farPerson" "I") (by decide +kernel)) (fun _ h9 => h9) rfl dX12_atEnd_1 ?_
  refine lv_aload_n hx hb dX12_atEnd_4 rfl (lv_at hl 0 rfl) ?_
  refine va_get (D := (dC, dI)) (ci := 12) (v := .ref m19) (C := RX12) (T := TX12) (N := 45) hx hb hts hi12 hown hK hP 0 rfl rfl 19 (by decide) (hts (.fieldLink RX12 38 "HeightFineModel" "told" "[I") (by decide +kernel)) (fun _ h9 => h9) rfl dX12_atEnd_5 ?_
  refine lv_iconst (v := 0) hx hb dX12_atEnd_8 (by decide) ?_
  refine va_iald hx hb hK hP 1 0 rfl rfl (i := 0) (zz_in (by decide)) dX12_atEnd_9 ?_
  refine W.eq (g2 := F0 m 10 ls [.int 0, .int (-1)]) (congrArg (fun z => F0 m 10 ls (.int z :: [.int (-1)])) hz) ?_
  refine lv_icmp_lt (tgt := 25) hx hb dX12_atEnd_10 (by decide) (fun _ => ?_) (fun c_1 => absurd (by decide) c_1)
  refine lv_aload_n hx hb dX12_atEnd_25 rfl (lv_at hl 0 rfl) ?_
  refine va_get (D := (dC, dI)) (ci := 12) (v := .int (-1)) (C := RX12) (T := TX12) (N := 45) hx hb hts hi12 hown hK hP 0 rfl rfl 22 (by decide) (hts (.fieldLink RX12 180 "HeightFineModel" "farDoor" "I") (by decide +kernel)) (fun _ h9 => h9) rfl dX12_atEnd_26 ?_
  refine lv_aload_n hx hb dX12_atEnd_29 rfl (lv_at hl 0 rfl) ?_
  refine va_get (D := (dC, dI)) (ci := 12) (v := .ref m19) (C := RX12) (T := TX12) (N := 45) hx hb hts hi12 hown hK hP 0 rfl rfl 19 (by decide) (hts (.fieldLink RX12 38 "HeightFineModel" "told" "[I") (by decide +kernel)) (fun _ h9 => h9) rfl dX12_atEnd_30 ?_
  refine lv_iconst (v := 3) hx hb dX12_atEnd_33 (by decide) ?_
  refine va_iald hx hb hK hP 1 0 rfl rfl (i := 3) (zz_in (by decide)) dX12_atEnd_34 ?_
  refine W.eq (g2 := F0 m 35 ls [.int 0, .int (-1)]) (congrArg (fun z => F0 m 35 ls (.int z :: [.int (-1)])) hz3) ?_
  refine lv_icmp_lt (tgt := 50) hx hb dX12_atEnd_35 (by decide) (fun _ => ?_) (fun c_2 => absurd (by decide) c_2)
  refine lv_aload_n hx hb dX12_atEnd_50 rfl (lv_at hl 0 rfl) ?_
  have hPc := hP.sub (ws' := [(h, .inr (12, [.int v0, .ref m1, .ref m2, .ref m3, .ref m4, .ref m5, .ref m6, .ref m7, .ref m8, .ref m9, .int v10, .int v11, .int v12, .int v13, .int v14, .long v15, .int v16, .int v17, .int v18, .ref m19, .ref m20, .int (-1), .int (-1), .int v23, .int v24, .int v25, .int v26, .ref m27, .int v28, .ref m29, .ref m30, .ref m31, .ref m32, .int v33, .ref m34, .int v35, .ref m36, .ref m37, .ref m38, .ref m39, .ref m40, .int v41, .ref m42, .ref m43, .ref m44])), (m19, .inl (k 0, 161, .inl ft))]) [0, 1] rfl
  refine vp_callSi (W.runV (As := []) (rest := []) ⟨hx, hb, hml, hown, hts⟩ (m_goesRound l dC dI k h v0 m1 m2 m3 m4 m5 m6 m7 m8 m9 v10 v11 v12 v13 v14 v15 v16 v17 v18 m19 m20 (-1) (-1) v23 v24 v25 v26 m27 v28 m29 m30 m31 m32 v33 m34 v35 m36 m37 m38 m39 m40 v41 m42 m43 m44 ft hz hz3) (cwV 0 hts gm_atEnd_m_goesRound rfl rfl rfl (by decide +kernel) ⟨Nat.le_of_ble_eq_true rfl, Nat.le_of_ble_eq_true rfl⟩) ⟨prR_blind, va_recv hK hPc (ci := 12) (q0 := 0) rfl rfl, fun U hU hW => ⟨rfl, prR_go hPc hK hU hW⟩⟩ rfl rfl hl.1 rfl (lv_room (Nat.le_of_ble_eq_true rfl)) dX12_atEnd_51 ⟨by decide +kernel, by decide +kernel⟩) (fun r_3 er_3 => ?_)
  subst er_3
  refine W.eq (g2 := F0 m 54 ls [.int 0]) rfl ?_
  refine lv_if_eq (tgt := 67) hx hb dX12_atEnd_54 (by decide) (fun _ => ?_) (fun c_4 => absurd (by decide) c_4)
  exact W.vret hx hb hr (fun t ht hW => ⟨rfl, trivial, ht⟩) (fun q h => absurd h List.not_mem_nil) dX12_atEnd_67
