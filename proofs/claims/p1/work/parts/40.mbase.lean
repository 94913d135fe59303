theorem dX12_in_0 : decode cX12_in 0 = .ok (.iload_n 0, 1) := by decide +kernel
theorem dX12_in_1 : decode cX12_in 1 = .ok (.iload_n 1, 1) := by decide +kernel
theorem dX12_in_2 : decode cX12_in 2 = .ok (.if_icmp .lt 12, 3) := by decide +kernel
theorem dX12_in_5 : decode cX12_in 5 = .ok (.iload_n 0, 1) := by decide +kernel
theorem dX12_in_6 : decode cX12_in 6 = .ok (.iload_n 2, 1) := by decide +kernel
theorem dX12_in_7 : decode cX12_in 7 = .ok (.if_icmp .gt 7, 3) := by decide +kernel
theorem dX12_in_10 : decode cX12_in 10 = .ok (.iconst 1, 1) := by decide +kernel
theorem dX12_in_11 : decode cX12_in 11 = .ok (.goto 4, 3) := by decide +kernel
theorem dX12_in_14 : decode cX12_in 14 = .ok (.iconst 0, 1) := by decide +kernel
theorem dX12_in_15 : decode cX12_in 15 = .ok (.ireturn, 1) := by decide +kernel
theorem dX12_is_0 : decode cX12_is 0 = .ok (.iload_n 2, 1) := by decide +kernel
theorem dX12_is_1 : decode cX12_is 1 = .ok (.iconst 0, 1) := by decide +kernel
theorem dX12_is_2 : decode cX12_is 2 = .ok (.aload_n 0, 1) := by decide +kernel
theorem dX12_is_3 : decode cX12_is 3 = .ok (.getfield 23, 3) := by decide +kernel
theorem dX12_is_6 : decode cX12_is 6 = .ok (.iload_n 1, 1) := by decide +kernel
theorem dX12_is_7 : decode cX12_is 7 = .ok (.iaload, 1) := by decide +kernel
theorem dX12_is_8 : decode cX12_is 8 = .ok (.iconst 1, 1) := by decide +kernel
theorem dX12_is_9 : decode cX12_is 9 = .ok (.isub, 1) := by decide +kernel
theorem dX12_is_10 : decode cX12_is 10 = .ok (.invokestatic 100, 3) := by decide +kernel
theorem dX12_is_13 : decode cX12_is 13 = .ok (.ireturn, 1) := by decide +kernel
theorem dX12_hand_0 : decode cX12_hand 0 = .ok (.aload_n 0, 1) := by decide +kernel
theorem dX12_hand_1 : decode cX12_hand 1 = .ok (.iconst 0, 1) := by decide +kernel
theorem dX12_hand_2 : decode cX12_hand 2 = .ok (.iload_n 1, 1) := by decide +kernel
theorem dX12_hand_3 : decode cX12_hand 3 = .ok (.invokevirtual 287, 3) := by decide +kernel
theorem dX12_hand_6 : decode cX12_hand 6 = .ok (.ifCond .ne 5, 3) := by decide +kernel
theorem dX12_hand_9 : decode cX12_hand 9 = .ok (.iconst 0, 1) := by decide +kernel
theorem dX12_hand_10 : decode cX12_hand 10 = .ok (.ireturn, 1) := by decide +kernel
theorem dX12_hasYear_0 : decode cX12_hasYear 0 = .ok (.aload_n 0, 1) := by decide +kernel
theorem dX12_hasYear_1 : decode cX12_hasYear 1 = .ok (.iload_n 1, 1) := by decide +kernel
theorem dX12_hasYear_2 : decode cX12_hasYear 2 = .ok (.putfield 312, 3) := by decide +kernel
theorem dX12_hasYear_5 : decode cX12_hasYear 5 = .ok (.aload_n 0, 1) := by decide +kernel
theorem dX12_hasYear_6 : decode cX12_hasYear 6 = .ok (.iconst 1, 1) := by decide +kernel
theorem dX12_hasYear_7 : decode cX12_hasYear 7 = .ok (.iload_n 1, 1) := by decide +kernel
theorem dX12_hasYear_8 : decode cX12_hasYear 8 = .ok (.invokevirtual 287, 3) := by decide +kernel
theorem dX12_hasYear_11 : decode cX12_hasYear 11 = .ok (.ireturn, 1) := by decide +kernel
theorem dX12_hasLedger_0 : decode cX12_hasLedger 0 = .ok (.aload_n 0, 1) := by decide +kernel
theorem dX12_hasLedger_1 : decode cX12_hasLedger 1 = .ok (.iload_n 1, 1) := by decide +kernel
theorem dX12_hasLedger_2 : decode cX12_hasLedger 2 = .ok (.putfield 428, 3) := by decide +kernel
theorem dX12_hasLedger_5 : decode cX12_hasLedger 5 = .ok (.aload_n 0, 1) := by decide +kernel
theorem dX12_hasLedger_6 : decode cX12_hasLedger 6 = .ok (.iconst 2, 1) := by decide +kernel
theorem dX12_hasLedger_7 : decode cX12_hasLedger 7 = .ok (.iload_n 1, 1) := by decide +kernel
theorem dX12_hasLedger_8 : decode cX12_hasLedger 8 = .ok (.invokevirtual 287, 3) := by decide +kernel
theorem dX12_hasLedger_11 : decode cX12_hasLedger 11 = .ok (.ireturn, 1) := by decide +kernel
theorem dX12_hasSight_0 : decode cX12_hasSight 0 = .ok (.aload_n 0, 1) := by decide +kernel
theorem dX12_hasSight_1 : decode cX12_hasSight 1 = .ok (.iload_n 1, 1) := by decide +kernel
theorem dX12_hasSight_2 : decode cX12_hasSight 2 = .ok (.putfield 456, 3) := by decide +kernel
theorem dX12_hasSight_5 : decode cX12_hasSight 5 = .ok (.aload_n 0, 1) := by decide +kernel
theorem dX12_hasSight_6 : decode cX12_hasSight 6 = .ok (.iconst 3, 1) := by decide +kernel
theorem dX12_hasSight_7 : decode cX12_hasSight 7 = .ok (.iload_n 1, 1) := by decide +kernel
theorem dX12_hasSight_8 : decode cX12_hasSight 8 = .ok (.invokevirtual 287, 3) := by decide +kernel
theorem dX12_hasSight_11 : decode cX12_hasSight 11 = .ok (.ireturn, 1) := by decide +kernel
theorem dX12_layAll_0 : decode cX12_layAll 0 = .ok (.aload_n 0, 1) := by decide +kernel
theorem dX12_layAll_1 : decode cX12_layAll 1 = .ok (.iload_n 2, 1) := by decide +kernel
theorem dX12_layAll_2 : decode cX12_layAll 2 = .ok (.invokevirtual 315, 3) := by decide +kernel
theorem dX12_layAll_5 : decode cX12_layAll 5 = .ok (.ifCond .eq 15, 3) := by decide +kernel
theorem dX12_layAll_20 : decode cX12_layAll 20 = .ok (.iconst 0, 1) := by decide +kernel
theorem dX12_layAll_21 : decode cX12_layAll 21 = .ok (.ireturn, 1) := by decide +kernel
theorem dX12_laySight_0 : decode cX12_laySight 0 = .ok (.iload_n 3, 1) := by decide +kernel
theorem dX12_laySight_1 : decode cX12_laySight 1 = .ok (.iconst 0, 1) := by decide +kernel
theorem dX12_laySight_2 : decode cX12_laySight 2 = .ok (.bipush 8, 2) := by decide +kernel
theorem dX12_laySight_4 : decode cX12_laySight 4 = .ok (.invokestatic 100, 3) := by decide +kernel
theorem dX12_laySight_7 : decode cX12_laySight 7 = .ok (.ifCond .eq 19, 3) := by decide +kernel
theorem dX12_laySight_10 : decode cX12_laySight 10 = .ok (.aload_n 0, 1) := by decide +kernel
theorem dX12_laySight_11 : decode cX12_laySight 11 = .ok (.iload_n 2, 1) := by decide +kernel
theorem dX12_laySight_12 : decode cX12_laySight 12 = .ok (.invokevirtual 459, 3) := by decide +kernel
theorem dX12_laySight_15 : decode cX12_laySight 15 = .ok (.ifCond .eq 11, 3) := by decide +kernel
theorem dX12_laySight_26 : decode cX12_laySight 26 = .ok (.iconst 0, 1) := by decide +kernel
theorem dX12_laySight_27 : decode cX12_laySight 27 = .ok (.ireturn, 1) := by decide +kernel

theorem inR_no {p : Int32} (h : p < 0 ∨ (3 : Int32) ≤ p) : inR p 0 2 = 0 := by
  unfold inR
  rcases h with h | h
  · rw [if_pos h]
  · split
    · rfl
    · rw [if_pos]
      rw [Int32.le_iff_toInt_le] at h
      rw [Int32.lt_iff_toInt_lt]
      have e2 : (2 : Int32).toInt = 2 := rfl
      have e3 : (3 : Int32).toInt = 3 := rfl
      omega

def ws_m_in : List Cond := .code yX12_in cX12_in 3 (some .boolean) :: ([])
set_option maxHeartbeats 4000000 in
set_option maxRecDepth 100000 in
theorem m_in (l : Launch) (p0 : Int32) (p1 : Int32) (p2 : Int32) : Met l yX12_in ws_m_in ({ frames := 0, cells := 0, slots := 0, locals := 0 }) (va_Pc [.int p0, .int p1, .int p2] (fun _ => True)) (vp_Si (fun r => r = inR p0 p1 p2)) 0 0 (fun _ => False) := by
  refine Met.ofW (cc := cX12_in) (maxL := 3) (ret := (some .boolean)) (by decide) rfl ?_
  intro p e s m args below meth c s₁ B hml hv
  obtain ⟨rfl, -⟩ := hv
  have hx := B.exec
  have hb := B.bytes
  have hr := B.returns
  have hts := atoms_spec (ws := ws_m_in) B.pre
  have hown : s.vm.findClass RX12 = some m.cls := findClass_of_methodNamed B.named
  have hl := lv_entry ([.int p0, .int p1, .int p2]) (n := 3) (Nat.le_of_ble_eq_true rfl)
  rw [lg_entry_eq]
  generalize (lg_sl ([.int p0, .int p1, .int p2]) ++ List.replicate (3 - (lg_sl ([.int p0, .int p1, .int p2])).length) Slot.unset).toArray = ls at hl ⊢
  have hl : lv_has ls 3 [(0, .int p0), (1, .int p1), (2, .int p2)] := hl
  refine lv_iload_n hx hb dX12_in_0 rfl (lv_at hl 0 rfl) ?_
  refine lv_iload_n hx hb dX12_in_1 rfl (lv_at hl 1 rfl) ?_
  refine lv_icmp_lt (tgt := 14) hx hb dX12_in_2 (by decide) (fun c_1 => ?_) (fun c_1 => ?_)
  · refine lv_iconst (v := 0) hx hb dX12_in_14 (by decide) ?_
    exact W.zret (v := 0) hx hb hr rfl (fun t ht hW => ⟨0, rfl, by simp [inR, c_1, Int32.not_le.mpr c_1], ht⟩) (fun q h => absurd h List.not_mem_nil) dX12_in_15
  · refine lv_iload_n hx hb dX12_in_5 rfl (lv_at hl 0 rfl) ?_
    refine lv_iload_n hx hb dX12_in_6 rfl (lv_at hl 2 rfl) ?_
    refine lv_icmp_gt (tgt := 14) hx hb dX12_in_7 (by decide) (fun c_2 => ?_) (fun c_2 => ?_)
    · refine lv_iconst (v := 0) hx hb dX12_in_14 (by decide) ?_
      exact W.zret (v := 0) hx hb hr rfl (fun t ht hW => ⟨0, rfl, by simp [inR, c_1, c_2, Int32.not_lt.mp c_1], ht⟩) (fun q h => absurd h List.not_mem_nil) dX12_in_15
    · refine lv_iconst (v := 1) hx hb dX12_in_10 (by decide) ?_
      refine lv_goto (tgt := 15) hx hb dX12_in_11 (by decide) ?_
      exact W.zret (v := 1) hx hb hr rfl (fun t ht hW => ⟨1, rfl, by simp [inR, c_1, c_2, Int32.not_lt.mp c_1], ht⟩) (fun q h => absurd h List.not_mem_nil) dX12_in_15

def ws_m_is : List Cond := .code yX12_is cX12_is 3 (some .boolean) :: ([.fieldLink RX12 23 "HeightFineModel" "many" "[I", .methodLink RX12 100 yX12_in, .static yX12_in, .initialized RX12, .code yX12_in cX12_in 3 (some .boolean)] ++ u_ws RX12 TX12 45)
set_option maxRecDepth 20000 in
theorem in_m_is_12 : ∀ w ∈ u_ws RX12 TX12 45, w ∈ ws_m_is := by decide +kernel
set_option maxRecDepth 20000 in
theorem gm_is_m_in : GoodIn ws_m_is (va_wsS RX12 100 yX12_in ws_m_in) := goodIn_app (goodIn_of _ (by decide +kernel)) (goodIn_r _ [5] (by decide +kernel) (by decide +kernel))
set_option maxHeartbeats 4000000 in
set_option maxRecDepth 100000 in
theorem m_is (l : Launch) (dC : Nat → ClassId) (dI : Nat → Nat → Nat) (k : Nat → ClassId) (h : Nat) (v0 : Int32) (m1 : Nat) (m2 : Nat) (m3 : Nat) (m4 : Nat) (m5 : Nat) (m6 : Nat) (m7 : Nat) (m8 : Nat) (m9 : Nat) (v10 : Int32) (v11 : Int32) (v12 : Int32) (v13 : Int32) (v14 : Int32) (v15 : Int64) (v16 : Int32) (v17 : Int32) (v18 : Int32) (m19 : Nat) (m20 : Nat) (v21 : Int32) (v22 : Int32) (v23 : Int32) (v24 : Int32) (v25 : Int32) (v26 : Int32) (m27 : Nat) (v28 : Int32) (m29 : Nat) (m30 : Nat) (m31 : Nat) (m32 : Nat) (v33 : Int32) (m34 : Nat) (v35 : Int32) (m36 : Nat) (m37 : Nat) (m38 : Nat) (m39 : Nat) (m40 : Nat) (v41 : Int32) (m42 : Nat) (m43 : Nat) (m44 : Nat) (p0 : Int32) (p1 : Int32) (hs : vp_in p0 16) : Met l yX12_is ws_m_is ({ frames := 1, cells := 0, slots := 0, locals := 22 }) (va_Pc [.ref h, .int p0, .int p1] (prR dC dI k [(h, .inr (12, [.int v0, .ref m1, .ref m2, .ref m3, .ref m4, .ref m5, .ref m6, .ref m7, .ref m8, .ref m9, .int v10, .int v11, .int v12, .int v13, .int v14, .long v15, .int v16, .int v17, .int v18, .ref m19, .ref m20, .int v21, .int v22, .int v23, .int v24, .int v25, .int v26, .ref m27, .int v28, .ref m29, .ref m30, .ref m31, .ref m32, .int v33, .ref m34, .int v35, .ref m36, .ref m37, .ref m38, .ref m39, .ref m40, .int v41, .ref m42, .ref m43, .ref m44])), (m5, .inl (k 0, 16, .inl (fun _ => 0)))])) (vp_Si (fun r => r = 0)) 0 0 (fun _ => False) := by
  refine Met.ofW (cc := cX12_is) (maxL := 3) (ret := (some .boolean)) (by decide) rfl ?_
  intro p e s m args below meth c s₁ B hml hv
  obtain ⟨rfl, hP, hK⟩ := hv
  have hx := B.exec
  have hb := B.bytes
  have hr := B.returns
  have hts := atoms_spec (ws := ws_m_is) B.pre
  have hown : s.vm.findClass RX12 = some m.cls := findClass_of_methodNamed B.named
  have hi12 := in_m_is_12
  have hP : va_P (dC, dI) vwCl [(h, .inr (12, [.int v0, .ref m1, .ref m2, .ref m3, .ref m4, .ref m5, .ref m6, .ref m7, .ref m8, .ref m9, .int v10, .int v11, .int v12, .int v13, .int v14, .long v15, .int v16, .int v17, .int v18, .ref m19, .ref m20, .int v21, .int v22, .int v23, .int v24, .int v25, .int v26, .ref m27, .int v28, .ref m29, .ref m30, .ref m31, .ref m32, .int v33, .ref m34, .int v35, .ref m36, .ref m37, .ref m38, .ref m39, .ref m40, .int v41, .ref m42, .ref m43, .ref m44])), (m5, .inl (k 0, 16, .inl (fun _ => 0)))] s.heap := hP
  have hl := lv_entry ([.ref h, .int p0, .int p1]) (n := 3) (Nat.le_of_ble_eq_true rfl)
  rw [lg_entry_eq]
  generalize (lg_sl ([.ref h, .int p0, .int p1]) ++ List.replicate (3 - (lg_sl ([.ref h, .int p0, .int p1])).length) Slot.unset).toArray = ls at hl ⊢
  have hl : lv_has ls 3 [(0, .ref h), (1, .int p0), (2, .int p1)] := hl
  refine lv_iload_n hx hb dX12_is_0 rfl (lv_at hl 2 rfl) ?_
  refine lv_iconst (v := 0) hx hb dX12_is_1 (by decide) ?_
  refine lv_aload_n hx hb dX12_is_2 rfl (lv_at hl 0 rfl) ?_
  refine va_get (D := (dC, dI)) (ci := 12) (v := .ref m5) (C := RX12) (T := TX12) (N := 45) hx hb hts hi12 hown hK hP 0 rfl rfl 5 (by decide) (hts (.fieldLink RX12 23 "HeightFineModel" "many" "[I") (by decide +kernel)) (fun _ h9 => h9) rfl dX12_is_3 ?_
  refine lv_iload_n hx hb dX12_is_6 rfl (lv_at hl 1 rfl) ?_
  refine va_iald hx hb hK hP 1 0 rfl rfl (i := p0) hs dX12_is_7 ?_
  refine W.eq (g2 := F0 m 8 ls [.int 0, .int 0, .int p1]) rfl ?_
  refine lv_iconst (v := 1) hx hb dX12_is_8 (by decide) ?_
  refine lv_isub hx hb dX12_is_9 ?_
  refine W.eq (g2 := F0 m 10 ls [.int (-1), .int 0, .int p1]) rfl ?_
  refine vp_callSi (W.runS (As := [.int p1, .int 0, .int (-1)]) (rest := []) ⟨hx, hb, hml, hown, hts⟩ (m_in l p1 0 (-1)) (va_cwS 3 hts gm_is_m_in rfl rfl rfl (by decide +kernel) ⟨Nat.le_of_ble_eq_true rfl, Nat.le_of_ble_eq_true rfl⟩) ⟨prN_blind, fun U hU hW => ⟨rfl, trivial⟩⟩ rfl rfl hl.1 rfl (lv_room (Nat.le_of_ble_eq_true rfl)) dX12_is_10 ⟨by decide +kernel, by decide +kernel⟩) (fun r_1 er_1 => ?_)
  subst er_1
  refine W.eq (g2 := F0 m 13 ls [.int (inR p1 0 (-1))]) rfl ?_
  exact W.zret (v := inR p1 0 (-1)) hx hb hr (inR_bool _ _ _) (fun t ht hW => ⟨(inR p1 0 (-1)), rfl, inR_e p1, ht⟩) (fun q h => absurd h List.not_mem_nil) dX12_is_13

def ws_m_hand : List Cond := .code yX12_hand cX12_hand 2 (some .boolean) :: ([.methodLink RX12 287 yX12_is, .instanceMethod yX12_is, .selects RX12 yX12_is yX12_is, .initialized RX12, .code yX12_is cX12_is 3 (some .boolean), .fieldLink RX12 23 "HeightFineModel" "many" "[I", .methodLink RX12 100 yX12_in, .static yX12_in, .code yX12_in cX12_in 3 (some .boolean)] ++ u_ws RX12 TX12 45)
set_option maxRecDepth 20000 in
theorem in_m_hand_12 : ∀ w ∈ u_ws RX12 TX12 45, w ∈ ws_m_hand := by decide +kernel
set_option maxRecDepth 20000 in
theorem gm_hand_m_is : GoodIn ws_m_hand (wsV RX12 287 RX12 yX12_is ws_m_is) := goodIn_app (goodIn_of _ (by decide +kernel)) (goodIn_r _ [5, 6, 7, 8, 4, 9, 10, 11, 12, 13, 14, 15, 16, 17, 18, 19, 20, 21, 22, 23, 24, 25, 26, 27, 28, 29, 30, 31, 32, 33, 34, 35, 36, 37, 38, 39, 40, 41, 42, 43, 44, 45, 46, 47, 48, 49, 50, 51, 52, 53, 54] (by decide +kernel) (by decide +kernel))
set_option maxHeartbeats 4000000 in
set_option maxRecDepth 100000 in
theorem m_hand (l : Launch) (dC : Nat → ClassId) (dI : Nat → Nat → Nat) (k : Nat → ClassId) (h : Nat) (v0 : Int32) (m1 : Nat) (m2 : Nat) (m3 : Nat) (m4 : Nat) (m5 : Nat) (m6 : Nat) (m7 : Nat) (m8 : Nat) (m9 : Nat) (v10 : Int32) (v11 : Int32) (v12 : Int32) (v13 : Int32) (v14 : Int32) (v15 : Int64) (v16 : Int32) (v17 : Int32) (v18 : Int32) (m19 : Nat) (m20 : Nat) (v21 : Int32) (v22 : Int32) (v23 : Int32) (v24 : Int32) (v25 : Int32) (v26 : Int32) (m27 : Nat) (v28 : Int32) (m29 : Nat) (m30 : Nat) (m31 : Nat) (m32 : Nat) (v33 : Int32) (m34 : Nat) (v35 : Int32) (m36 : Nat) (m37 : Nat) (m38 : Nat) (m39 : Nat) (m40 : Nat) (v41 : Int32) (m42 : Nat) (m43 : Nat) (m44 : Nat) (p0 : Int32) : Met l yX12_hand ws_m_hand ({ frames := 2, cells := 0, slots := 0, locals := 44 }) (va_Pc [.ref h, .int p0] (prR dC dI k [(h, .inr (12, [.int v0, .ref m1, .ref m2, .ref m3, .ref m4, .ref m5, .ref m6, .ref m7, .ref m8, .ref m9, .int v10, .int v11, .int v12, .int v13, .int v14, .long v15, .int v16, .int v17, .int v18, .ref m19, .ref m20, .int v21, .int v22, .int v23, .int v24, .int v25, .int v26, .ref m27, .int v28, .ref m29, .ref m30, .ref m31, .ref m32, .int v33, .ref m34, .int v35, .ref m36, .ref m37, .ref m38, .ref m39, .ref m40, .int v41, .ref m42, .ref m43, .ref m44])), (m5, .inl (k 0, 16, .inl (fun _ => 0)))])) (vp_Si (fun r => r = 0)) 0 0 (fun _ => False) := by
  refine Met.ofW (cc := cX12_hand) (maxL := 2) (ret := (some .boolean)) (by decide) rfl ?_
  intro p e s m args below meth c s₁ B hml hv
  obtain ⟨rfl, hP, hK⟩ := hv
  have hx := B.exec
  have hb := B.bytes
  have hr := B.returns
  have hts := atoms_spec (ws := ws_m_hand) B.pre
  have hown : s.vm.findClass RX12 = some m.cls := findClass_of_methodNamed B.named
  have hi12 := in_m_hand_12
  have hP : va_P (dC, dI) vwCl [(h, .inr (12, [.int v0, .ref m1, .ref m2, .ref m3, .ref m4, .ref m5, .ref m6, .ref m7, .ref m8, .ref m9, .int v10, .int v11, .int v12, .int v13, .int v14, .long v15, .int v16, .int v17, .int v18, .ref m19, .ref m20, .int v21, .int v22, .int v23, .int v24, .int v25, .int v26, .ref m27, .int v28, .ref m29, .ref m30, .ref m31, .ref m32, .int v33, .ref m34, .int v35, .ref m36, .ref m37, .ref m38, .ref m39, .ref m40, .int v41, .ref m42, .ref m43, .ref m44])), (m5, .inl (k 0, 16, .inl (fun _ => 0)))] s.heap := hP
  have hl := lv_entry ([.ref h, .int p0]) (n := 2) (Nat.le_of_ble_eq_true rfl)
  rw [lg_entry_eq]
  generalize (lg_sl ([.ref h, .int p0]) ++ List.replicate (2 - (lg_sl ([.ref h, .int p0])).length) Slot.unset).toArray = ls at hl ⊢
  have hl : lv_has ls 2 [(0, .ref h), (1, .int p0)] := hl
  refine lv_aload_n hx hb dX12_hand_0 rfl (lv_at hl 0 rfl) ?_
  refine lv_iconst (v := 0) hx hb dX12_hand_1 (by decide) ?_
  refine lv_iload_n hx hb dX12_hand_2 rfl (lv_at hl 1 rfl) ?_
  have hPc := hP.sub (ws' := [(h, .inr (12, [.int v0, .ref m1, .ref m2, .ref m3, .ref m4, .ref m5, .ref m6, .ref m7, .ref m8, .ref m9, .int v10, .int v11, .int v12, .int v13, .int v14, .long v15, .int v16, .int v17, .int v18, .ref m19, .ref m20, .int v21, .int v22, .int v23, .int v24, .int v25, .int v26, .ref m27, .int v28, .ref m29, .ref m30, .ref m31, .ref m32, .int v33, .ref m34, .int v35, .ref m36, .ref m37, .ref m38, .ref m39, .ref m40, .int v41, .ref m42, .ref m43, .ref m44])), (m5, .inl (k 0, 16, .inl (fun _ => 0)))]) [0, 1] rfl
  refine vp_callSi (W.runV (As := [.int 0, .int p0]) (rest := []) ⟨hx, hb, hml, hown, hts⟩ (m_is l dC dI k h v0 m1 m2 m3 m4 m5 m6 m7 m8 m9 v10 v11 v12 v13 v14 v15 v16 v17 v18 m19 m20 v21 v22 v23 v24 v25 v26 m27 v28 m29 m30 m31 m32 v33 m34 v35 m36 m37 m38 m39 m40 v41 m42 m43 m44 0 p0 (zz_in (by decide))) (cwV 2 hts gm_hand_m_is rfl rfl rfl (by decide +kernel) ⟨Nat.le_of_ble_eq_true rfl, Nat.le_of_ble_eq_true rfl⟩) ⟨prR_blind, va_recv hK hPc (ci := 12) (q0 := 0) rfl rfl, fun U hU hW => ⟨rfl, prR_go hPc hK hU hW⟩⟩ rfl rfl hl.1 rfl (lv_room (Nat.le_of_ble_eq_true rfl)) dX12_hand_3 ⟨by decide +kernel, by decide +kernel⟩) (fun r_1 er_1 => ?_)
  subst er_1
  refine W.eq (g2 := F0 m 6 ls [.int 0]) rfl ?_
  refine lv_if_ne (tgt := 11) hx hb dX12_hand_6 (by decide) (fun c_2 => absurd (by decide) c_2) (fun _ => ?_)
  refine lv_iconst (v := 0) hx hb dX12_hand_9 (by decide) ?_
  exact W.zret (v := 0) hx hb hr rfl (fun t ht hW => ⟨0, rfl, rfl, ht⟩) (fun q h => absurd h List.not_mem_nil) dX12_hand_10

def ws_m_hasYear : List Cond := .code yX12_hasYear cX12_hasYear 2 (some .boolean) :: ([.fieldLink RX12 312 "HeightFineModel" "year" "I", .methodLink RX12 287 yX12_is, .instanceMethod yX12_is, .selects RX12 yX12_is yX12_is, .initialized RX12, .code yX12_is cX12_is 3 (some .boolean), .fieldLink RX12 23 "HeightFineModel" "many" "[I", .methodLink RX12 100 yX12_in, .static yX12_in, .code yX12_in cX12_in 3 (some .boolean)] ++ u_ws RX12 TX12 45)
set_option maxRecDepth 20000 in
theorem in_m_hasYear_12 : ∀ w ∈ u_ws RX12 TX12 45, w ∈ ws_m_hasYear := by decide +kernel
set_option maxRecDepth 20000 in
theorem gm_hasYear_m_is : GoodIn ws_m_hasYear (wsV RX12 287 RX12 yX12_is ws_m_is) := goodIn_app (goodIn_of _ (by decide +kernel)) (goodIn_r _ [6, 7, 8, 9, 5, 10, 11, 12, 13, 14, 15, 16, 17, 18, 19, 20, 21, 22, 23, 24, 25, 26, 27, 28, 29, 30, 31, 32, 33, 34, 35, 36, 37, 38, 39, 40, 41, 42, 43, 44, 45, 46, 47, 48, 49, 50, 51, 52, 53, 54, 55] (by decide +kernel) (by decide +kernel))
set_option maxHeartbeats 4000000 in
set_option maxRecDepth 100000 in
theorem m_hasYear (l : Launch) (dC : Nat → ClassId) (dI : Nat → Nat → Nat) (k : Nat → ClassId) (h : Nat) (v0 : Int32) (m1 : Nat) (m2 : Nat) (m3 : Nat) (m4 : Nat) (m5 : Nat) (m6 : Nat) (m7 : Nat) (m8 : Nat) (m9 : Nat) (v10 : Int32) (v11 : Int32) (v12 : Int32) (v13 : Int32) (v14 : Int32) (v15 : Int64) (v16 : Int32) (v17 : Int32) (v18 : Int32) (m19 : Nat) (m20 : Nat) (v21 : Int32) (v22 : Int32) (v23 : Int32) (v24 : Int32) (v25 : Int32) (v26 : Int32) (m27 : Nat) (v28 : Int32) (m29 : Nat) (m30 : Nat) (m31 : Nat) (m32 : Nat) (v33 : Int32) (m34 : Nat) (v35 : Int32) (m36 : Nat) (m37 : Nat) (m38 : Nat) (m39 : Nat) (m40 : Nat) (v41 : Int32) (m42 : Nat) (m43 : Nat) (m44 : Nat) (p0 : Int32) (sz : Nat) : Met l yX12_hasYear ws_m_hasYear ({ frames := 2, cells := 0, slots := 0, locals := 44 }) (va_Pc [.ref h, .int p0] (prW dC dI k [(h, .inr (12, [.int v0, .ref m1, .ref m2, .ref m3, .ref m4, .ref m5, .ref m6, .ref m7, .ref m8, .ref m9, .int v10, .int v11, .int v12, .int v13, .int v14, .long v15, .int v16, .int v17, .int v18, .ref m19, .ref m20, .int v21, .int v22, .int v23, .int v24, .int v25, .int v26, .ref m27, .int v28, .ref m29, .ref m30, .ref m31, .ref m32, .int v33, .ref m34, .int v35, .ref m36, .ref m37, .ref m38, .ref m39, .ref m40, .int v41, .ref m42, .ref m43, .ref m44])), (m5, .inl (k 0, 16, .inl (fun _ => 0)))] sz)) (va_Qi (fun (r : Int32) (_ : Unit) => r = 0) (fun (u : Unit) (t : State) => po (dC, dI) (va_A [(h, .inr (12, [.int v0, .ref m1, .ref m2, .ref m3, .ref m4, .ref m5, .ref m6, .ref m7, .ref m8, .ref m9, .int v10, .int v11, .int v12, .int v13, .int v14, .long v15, .int v16, .int v17, .int v18, .ref m19, .ref m20, .int v21, .int v22, .int v23, .int v24, .int v25, .int v26, .ref m27, .int v28, .ref m29, .ref m30, .ref m31, .ref m32, .int v33, .ref m34, .int v35, .ref m36, .ref m37, .ref m38, .ref m39, .ref m40, .int v41, .ref m42, .ref m43, .ref m44])), (m5, .inl (k 0, 16, .inl (fun _ => 0)))] sz) [] t) (va_A [(h, .inr (12, [.int v0, .ref m1, .ref m2, .ref m3, .ref m4, .ref m5, .ref m6, .ref m7, .ref m8, .ref m9, .int v10, .int v11, .int v12, .int v13, .int v14, .long v15, .int v16, .int v17, .int v18, .ref m19, .ref m20, .int v21, .int v22, .int v23, .int v24, .int v25, .int v26, .ref m27, .int v28, .ref m29, .ref m30, .ref m31, .ref m32, .int v33, .ref m34, .int v35, .ref m36, .ref m37, .ref m38, .ref m39, .ref m40, .int v41, .ref m42, .ref m43, .ref m44])), (m5, .inl (k 0, 16, .inl (fun _ => 0)))] sz)) 0 0 (va_A [(h, .inr (12, [.int v0, .ref m1, .ref m2, .ref m3, .ref m4, .ref m5, .ref m6, .ref m7, .ref m8, .ref m9, .int v10, .int v11, .int v12, .int v13, .int v14, .long v15, .int v16, .int v17, .int v18, .ref m19, .ref m20, .int v21, .int v22, .int v23, .int v24, .int v25, .int v26, .ref m27, .int v28, .ref m29, .ref m30, .ref m31, .ref m32, .int v33, .ref m34, .int v35, .ref m36, .ref m37, .ref m38, .ref m39, .ref m40, .int v41, .ref m42, .ref m43, .ref m44])), (m5, .inl (k 0, 16, .inl (fun _ => 0)))] sz) := by
  refine Met.ofW (cc := cX12_hasYear) (maxL := 2) (ret := (some .boolean)) (by decide) rfl ?_
  intro p e s m args below meth c s₁ B hml hv
  obtain ⟨rfl, hsz, hP, hK, hD0⟩ := hv
  have hx := B.exec
  have hb := B.bytes
  have hr := B.returns
  have hts := atoms_spec (ws := ws_m_hasYear) B.pre
  have hown : s.vm.findClass RX12 = some m.cls := findClass_of_methodNamed B.named
  have hi12 := in_m_hasYear_12
  subst hsz
  have hD := hD0.self (sz := s.heap.size)
  generalize hAe : va_A [(h, .inr (12, [.int v0, .ref m1, .ref m2, .ref m3, .ref m4, .ref m5, .ref m6, .ref m7, .ref m8, .ref m9, .int v10, .int v11, .int v12, .int v13, .int v14, .long v15, .int v16, .int v17, .int v18, .ref m19, .ref m20, .int v21, .int v22, .int v23, .int v24, .int v25, .int v26, .ref m27, .int v28, .ref m29, .ref m30, .ref m31, .ref m32, .int v33, .ref m34, .int v35, .ref m36, .ref m37, .ref m38, .ref m39, .ref m40, .int v41, .ref m42, .ref m43, .ref m44])), (m5, .inl (k 0, 16, .inl (fun _ => 0)))] s.heap.size = A at hD ⊢
  have hA : ∀ q : Nat, s.heap.size ≤ q → A q := fun q h => by rw [← hAe]; exact Or.inr h
  have hS : va_S A s.heap s.heap [] := va_S.rf
  have hP : va_P (dC, dI) vwCl [(h, .inr (12, [.int v0, .ref m1, .ref m2, .ref m3, .ref m4, .ref m5, .ref m6, .ref m7, .ref m8, .ref m9, .int v10, .int v11, .int v12, .int v13, .int v14, .long v15, .int v16, .int v17, .int v18, .ref m19, .ref m20, .int v21, .int v22, .int v23, .int v24, .int v25, .int v26, .ref m27, .int v28, .ref m29, .ref m30, .ref m31, .ref m32, .int v33, .ref m34, .int v35, .ref m36, .ref m37, .ref m38, .ref m39, .ref m40, .int v41, .ref m42, .ref m43, .ref m44])), (m5, .inl (k 0, 16, .inl (fun _ => 0)))] s.heap := hP
  have hl := lv_entry ([.ref h, .int p0]) (n := 2) (Nat.le_of_ble_eq_true rfl)
  rw [lg_entry_eq]
  generalize (lg_sl ([.ref h, .int p0]) ++ List.replicate (2 - (lg_sl ([.ref h, .int p0])).length) Slot.unset).toArray = ls at hl ⊢
  have hl : lv_has ls 2 [(0, .ref h), (1, .int p0)] := hl
  refine lv_aload_n hx hb dX12_hasYear_0 rfl (lv_at hl 0 rfl) ?_
  refine lv_iload_n hx hb dX12_hasYear_1 rfl (lv_at hl 1 rfl) ?_
  refine va_put (D := (dC, dI)) (ci := 12) (v := .int p0) (ty := .int) (C := RX12) (T := TX12) (N := 45) hx hb hts hi12 tyX12 tyX12_ok nmX12 hown hK hP hD hS 0 rfl rfl 26 (by decide) (hts (.fieldLink RX12 312 "HeightFineModel" "year" "I") (by decide +kernel)) (fun _ h9 => h9) rfl (by decide +kernel) rfl rfl (Nat.le_of_ble_eq_true rfl) dX12_hasYear_2 (fun H locs hP hD hS => ?_)
  have hP : va_P (dC, dI) vwCl [(h, .inr (12, [.int v0, .ref m1, .ref m2, .ref m3, .ref m4, .ref m5, .ref m6, .ref m7, .ref m8, .ref m9, .int v10, .int v11, .int v12, .int v13, .int v14, .long v15, .int v16, .int v17, .int v18, .ref m19, .ref m20, .int v21, .int v22, .int v23, .int v24, .int v25, .int p0, .ref m27, .int v28, .ref m29, .ref m30, .ref m31, .ref m32, .int v33, .ref m34, .int v35, .ref m36, .ref m37, .ref m38, .ref m39, .ref m40, .int v41, .ref m42, .ref m43, .ref m44])), (m5, .inl (k 0, 16, .inl (fun _ => 0)))] H := hP
  have hD : va_D A [(h, .inr (12, [.int v0, .ref m1, .ref m2, .ref m3, .ref m4, .ref m5, .ref m6, .ref m7, .ref m8, .ref m9, .int v10, .int v11, .int v12, .int v13, .int v14, .long v15, .int v16, .int v17, .int v18, .ref m19, .ref m20, .int v21, .int v22, .int v23, .int v24, .int v25, .int p0, .ref m27, .int v28, .ref m29, .ref m30, .ref m31, .ref m32, .int v33, .ref m34, .int v35, .ref m36, .ref m37, .ref m38, .ref m39, .ref m40, .int v41, .ref m42, .ref m43, .ref m44])), (m5, .inl (k 0, 16, .inl (fun _ => 0)))] := hD
  refine lv_aload_n hx hb dX12_hasYear_5 rfl (lv_at hl 0 rfl) ?_
  refine lv_iconst (v := 1) hx hb dX12_hasYear_6 (by decide) ?_
  refine lv_iload_n hx hb dX12_hasYear_7 rfl (lv_at hl 1 rfl) ?_
  have hPc := hP.sub (ws' := [(h, .inr (12, [.int v0, .ref m1, .ref m2, .ref m3, .ref m4, .ref m5, .ref m6, .ref m7, .ref m8, .ref m9, .int v10, .int v11, .int v12, .int v13, .int v14, .long v15, .int v16, .int v17, .int v18, .ref m19, .ref m20, .int v21, .int v22, .int v23, .int v24, .int v25, .int p0, .ref m27, .int v28, .ref m29, .ref m30, .ref m31, .ref m32, .int v33, .ref m34, .int v35, .ref m36, .ref m37, .ref m38, .ref m39, .ref m40, .int v41, .ref m42, .ref m43, .ref m44])), (m5, .inl (k 0, 16, .inl (fun _ => 0)))]) [0, 1] rfl
  refine vp_callSi (W.runV (As := [.int 1, .int p0]) (rest := []) ⟨hx, hb, hml, hown, hts⟩ (m_is l dC dI k h v0 m1 m2 m3 m4 m5 m6 m7 m8 m9 v10 v11 v12 v13 v14 v15 v16 v17 v18 m19 m20 v21 v22 v23 v24 v25 p0 m27 v28 m29 m30 m31 m32 v33 m34 v35 m36 m37 m38 m39 m40 v41 m42 m43 m44 1 p0 (zz_in (by decide))) (cwV 2 hts gm_hasYear_m_is rfl rfl rfl (by decide +kernel) ⟨Nat.le_of_ble_eq_true rfl, Nat.le_of_ble_eq_true rfl⟩) ⟨prR_blind, va_recv hK hPc (ci := 12) (q0 := 0) rfl rfl, fun U hU hW => ⟨rfl, prR_go hPc hK hU hW⟩⟩ rfl rfl hl.1 rfl (lv_room (Nat.le_of_ble_eq_true rfl)) dX12_hasYear_8 ⟨by decide +kernel, by decide +kernel⟩) (fun r_1 er_1 => ?_)
  subst er_1
  refine W.eq (g2 := F0 m 11 ls [.int 0]) rfl ?_
  have hP9 : va_P (dC, dI) vwCl [] H := hP.sub (ws' := []) [] rfl
  have hD9 : va_D A [] := hD.sub (ws' := []) [] (by decide) rfl
  refine W.widen (k := 0) (n := 0) (by decide +kernel) (by decide +kernel) ?_
  exact W.zret (v := 0) hx hb hr rfl (fun t ht hW => ⟨⟨0, (), rfl, rfl, by rw [ht]; exact hP9, hD9⟩, hS.F ht⟩) hS.2.2 dX12_hasYear_11

def ws_m_hasLedger : List Cond := .code yX12_hasLedger cX12_hasLedger 2 (some .boolean) :: ([.fieldLink RX12 428 "HeightFineModel" "ledger" "I", .methodLink RX12 287 yX12_is, .instanceMethod yX12_is, .selects RX12 yX12_is yX12_is, .initialized RX12, .code yX12_is cX12_is 3 (some .boolean), .fieldLink RX12 23 "HeightFineModel" "many" "[I", .methodLink RX12 100 yX12_in, .static yX12_in, .code yX12_in cX12_in 3 (some .boolean)] ++ u_ws RX12 TX12 45)
set_option maxRecDepth 20000 in
theorem in_m_hasLedger_12 : ∀ w ∈ u_ws RX12 TX12 45, w ∈ ws_m_hasLedger := by decide +kernel
set_option maxRecDepth 20000 in
theorem gm_hasLedger_m_is : GoodIn ws_m_hasLedger (wsV RX12 287 RX12 yX12_is ws_m_is) := goodIn_app (goodIn_of _ (by decide +kernel)) (goodIn_r _ [6, 7, 8, 9, 5, 10, 11, 12, 13, 14, 15, 16, 17, 18, 19, 20, 21, 22, 23, 24, 25, 26, 27, 28, 29, 30, 31, 32, 33, 34, 35, 36, 37, 38, 39, 40, 41, 42, 43, 44, 45, 46, 47, 48, 49, 50, 51, 52, 53, 54, 55] (by decide +kernel) (by decide +kernel))
set_option maxHeartbeats 4000000 in
set_option maxRecDepth 100000 in
theorem m_hasLedger (l : Launch) (dC : Nat → ClassId) (dI : Nat → Nat → Nat) (k : Nat → ClassId) (h : Nat) (v0 : Int32) (m1 : Nat) (m2 : Nat) (m3 : Nat) (m4 : Nat) (m5 : Nat) (m6 : Nat) (m7 : Nat) (m8 : Nat) (m9 : Nat) (v10 : Int32) (v11 : Int32) (v12 : Int32) (v13 : Int32) (v14 : Int32) (v15 : Int64) (v16 : Int32) (v17 : Int32) (v18 : Int32) (m19 : Nat) (m20 : Nat) (v21 : Int32) (v22 : Int32) (v23 : Int32) (v24 : Int32) (v25 : Int32) (v26 : Int32) (m27 : Nat) (v28 : Int32) (m29 : Nat) (m30 : Nat) (m31 : Nat) (m32 : Nat) (v33 : Int32) (m34 : Nat) (v35 : Int32) (m36 : Nat) (m37 : Nat) (m38 : Nat) (m39 : Nat) (m40 : Nat) (v41 : Int32) (m42 : Nat) (m43 : Nat) (m44 : Nat) (p0 : Int32) (sz : Nat) : Met l yX12_hasLedger ws_m_hasLedger ({ frames := 2, cells := 0, slots := 0, locals := 44 }) (va_Pc [.ref h, .int p0] (prW dC dI k [(h, .inr (12, [.int v0, .ref m1, .ref m2, .ref m3, .ref m4, .ref m5, .ref m6, .ref m7, .ref m8, .ref m9, .int v10, .int v11, .int v12, .int v13, .int v14, .long v15, .int v16, .int v17, .int v18, .ref m19, .ref m20, .int v21, .int v22, .int v23, .int v24, .int v25, .int v26, .ref m27, .int v28, .ref m29, .ref m30, .ref m31, .ref m32, .int v33, .ref m34, .int v35, .ref m36, .ref m37, .ref m38, .ref m39, .ref m40, .int v41, .ref m42, .ref m43, .ref m44])), (m5, .inl (k 0, 16, .inl (fun _ => 0)))] sz)) (va_Qi (fun (r : Int32) (_ : Unit) => r = 0) (fun (u : Unit) (t : State) => po (dC, dI) (va_A [(h, .inr (12, [.int v0, .ref m1, .ref m2, .ref m3, .ref m4, .ref m5, .ref m6, .ref m7, .ref m8, .ref m9, .int v10, .int v11, .int v12, .int v13, .int v14, .long v15, .int v16, .int v17, .int v18, .ref m19, .ref m20, .int v21, .int v22, .int v23, .int v24, .int v25, .int v26, .ref m27, .int v28, .ref m29, .ref m30, .ref m31, .ref m32, .int v33, .ref m34, .int v35, .ref m36, .ref m37, .ref m38, .ref m39, .ref m40, .int v41, .ref m42, .ref m43, .ref m44])), (m5, .inl (k 0, 16, .inl (fun _ => 0)))] sz) [] t) (va_A [(h, .inr (12, [.int v0, .ref m1, .ref m2, .ref m3, .ref m4, .ref m5, .ref m6, .ref m7, .ref m8, .ref m9, .int v10, .int v11, .int v12, .int v13, .int v14, .long v15, .int v16, .int v17, .int v18, .ref m19, .ref m20, .int v21, .int v22, .int v23, .int v24, .int v25, .int v26, .ref m27, .int v28, .ref m29, .ref m30, .ref m31, .ref m32, .int v33, .ref m34, .int v35, .ref m36, .ref m37, .ref m38, .ref m39, .ref m40, .int v41, .ref m42, .ref m43, .ref m44])), (m5, .inl (k 0, 16, .inl (fun _ => 0)))] sz)) 0 0 (va_A [(h, .inr (12, [.int v0, .ref m1, .ref m2, .ref m3, .ref m4, .ref m5, .ref m6, .ref m7, .ref m8, .ref m9, .int v10, .int v11, .int v12, .int v13, .int v14, .long v15, .int v16, .int v17, .int v18, .ref m19, .ref m20, .int v21, .int v22, .int v23, .int v24, .int v25, .int v26, .ref m27, .int v28, .ref m29, .ref m30, .ref m31, .ref m32, .int v33, .ref m34, .int v35, .ref m36, .ref m37, .ref m38, .ref m39, .ref m40, .int v41, .ref m42, .ref m43, .ref m44])), (m5, .inl (k 0, 16, .inl (fun _ => 0)))] sz) := by
  refine Met.ofW (cc := cX12_hasLedger) (maxL := 2) (ret := (some .boolean)) (by decide) rfl ?_
  intro p e s m args below meth c s₁ B hml hv
  obtain ⟨rfl, hsz, hP, hK, hD0⟩ := hv
  have hx := B.exec
  have hb := B.bytes
  have hr := B.returns
  have hts := atoms_spec (ws := ws_m_hasLedger) B.pre
  have hown : s.vm.findClass RX12 = some m.cls := findClass_of_methodNamed B.named
  have hi12 := in_m_hasLedger_12
  subst hsz
  have hD := hD0.self (sz := s.heap.size)
  generalize hAe : va_A [(h, .inr (12, [.int v0, .ref m1, .ref m2, .ref m3, .ref m4, .ref m5, .ref m6, .ref m7, .ref m8, .ref m9, .int v10, .int v11, .int v12, .int v13, .int v14, .long v15, .int v16, .int v17, .int v18, .ref m19, .ref m20, .int v21, .int v22, .int v23, .int v24, .int v25, .int v26, .ref m27, .int v28, .ref m29, .ref m30, .ref m31, .ref m32, .int v33, .ref m34, .int v35, .ref m36, .ref m37, .ref m38, .ref m39, .ref m40, .int v41, .ref m42, .ref m43, .ref m44])), (m5, .inl (k 0, 16, .inl (fun _ => 0)))] s.heap.size = A at hD ⊢
  have hA : ∀ q : Nat, s.heap.size ≤ q → A q := fun q h => by rw [← hAe]; exact Or.inr h
  have hS : va_S A s.heap s.heap [] := va_S.rf
  have hP : va_P (dC, dI) vwCl [(h, .inr (12, [.int v0, .ref m1, .ref m2, .ref m3, .ref m4, .ref m5, .ref m6, .ref m7, .ref m8, .ref m9, .int v10, .int v11, .int v12, .int v13, .int v14, .long v15, .int v16, .int v17, .int v18, .ref m19, .ref m20, .int v21, .int v22, .int v23, .int v24, .int v25, .int v26, .ref m27, .int v28, .ref m29, .ref m30, .ref m31, .ref m32, .int v33, .ref m34, .int v35, .ref m36, .ref m37, .ref m38, .ref m39, .ref m40, .int v41, .ref m42, .ref m43, .ref m44])), (m5, .inl (k 0, 16, .inl (fun _ => 0)))] s.heap := hP
  have hl := lv_entry ([.ref h, .int p0]) (n := 2) (Nat.le_of_ble_eq_true rfl)
  rw [lg_entry_eq]
  generalize (lg_sl ([.ref h, .int p0]) ++ List.replicate (2 - (lg_sl ([.ref h, .int p0])).length) Slot.unset).toArray = ls at hl ⊢
  have hl : lv_has ls 2 [(0, .ref h), (1, .int p0)] := hl
  refine lv_aload_n hx hb dX12_hasLedger_0 rfl (lv_at hl 0 rfl) ?_
  refine lv_iload_n hx hb dX12_hasLedger_1 rfl (lv_at hl 1 rfl) ?_
  refine va_put (D := (dC, dI)) (ci := 12) (v := .int p0) (ty := .int) (C := RX12) (T := TX12) (N := 45) hx hb hts hi12 tyX12 tyX12_ok nmX12 hown hK hP hD hS 0 rfl rfl 33 (by decide) (hts (.fieldLink RX12 428 "HeightFineModel" "ledger" "I") (by decide +kernel)) (fun _ h9 => h9) rfl (by decide +kernel) rfl rfl (Nat.le_of_ble_eq_true rfl) dX12_hasLedger_2 (fun H locs hP hD hS => ?_)
  have hP : va_P (dC, dI) vwCl [(h, .inr (12, [.int v0, .ref m1, .ref m2, .ref m3, .ref m4, .ref m5, .ref m6, .ref m7, .ref m8, .ref m9, .int v10, .int v11, .int v12, .int v13, .int v14, .long v15, .int v16, .int v17, .int v18, .ref m19, .ref m20, .int v21, .int v22, .int v23, .int v24, .int v25, .int v26, .ref m27, .int v28, .ref m29, .ref m30, .ref m31, .ref m32, .int p0, .ref m34, .int v35, .ref m36, .ref m37, .ref m38, .ref m39, .ref m40, .int v41, .ref m42, .ref m43, .ref m44])), (m5, .inl (k 0, 16, .inl (fun _ => 0)))] H := hP
  have hD : va_D A [(h, .inr (12, [.int v0, .ref m1, .ref m2, .ref m3, .ref m4, .ref m5, .ref m6, .ref m7, .ref m8, .ref m9, .int v10, .int v11, .int v12, .int v13, .int v14, .long v15, .int v16, .int v17, .int v18, .ref m19, .ref m20, .int v21, .int v22, .int v23, .int v24, .int v25, .int v26, .ref m27, .int v28, .ref m29, .ref m30, .ref m31, .ref m32, .int p0, .ref m34, .int v35, .ref m36, .ref m37, .ref m38, .ref m39, .ref m40, .int v41, .ref m42, .ref m43, .ref m44])), (m5, .inl (k 0, 16, .inl (fun _ => 0)))] := hD
  refine lv_aload_n hx hb dX12_hasLedger_5 rfl (lv_at hl 0 rfl) ?_
  refine lv_iconst (v := 2) hx hb dX12_hasLedger_6 (by decide) ?_
  refine lv_iload_n hx hb dX12_hasLedger_7 rfl (lv_at hl 1 rfl) ?_
  have hPc := hP.sub (ws' := [(h, .inr (12, [.int v0, .ref m1, .ref m2, .ref m3, .ref m4, .ref m5, .ref m6, .ref m7, .ref m8, .ref m9, .int v10, .int v11, .int v12, .int v13, .int v14, .long v15, .int v16, .int v17, .int v18, .ref m19, .ref m20, .int v21, .int v22, .int v23, .int v24, .int v25, .int v26, .ref m27, .int v28, .ref m29, .ref m30, .ref m31, .ref m32, .int p0, .ref m34, .int v35, .ref m36, .ref m37, .ref m38, .ref m39, .ref m40, .int v41, .ref m42, .ref m43, .ref m44])), (m5, .inl (k 0, 16, .inl (fun _ => 0)))]) [0, 1] rfl
  refine vp_callSi (W.runV (As := [.int 2, .int p0]) (rest := []) ⟨hx, hb, hml, hown, hts⟩ (m_is l dC dI k h v0 m1 m2 m3 m4 m5 m6 m7 m8 m9 v10 v11 v12 v13 v14 v15 v16 v17 v18 m19 m20 v21 v22 v23 v24 v25 v26 m27 v28 m29 m30 m31 m32 p0 m34 v35 m36 m37 m38 m39 m40 v41 m42 m43 m44 2 p0 (zz_in (by decide))) (cwV 2 hts gm_hasLedger_m_is rfl rfl rfl (by decide +kernel) ⟨Nat.le_of_ble_eq_true rfl, Nat.le_of_ble_eq_true rfl⟩) ⟨prR_blind, va_recv hK hPc (ci := 12) (q0 := 0) rfl rfl, fun U hU hW => ⟨rfl, prR_go hPc hK hU hW⟩⟩ rfl rfl hl.1 rfl (lv_room (Nat.le_of_ble_eq_true rfl)) dX12_hasLedger_8 ⟨by decide +kernel, by decide +kernel⟩) (fun r_1 er_1 => ?_)
  subst er_1
  refine W.eq (g2 := F0 m 11 ls [.int 0]) rfl ?_
  have hP9 : va_P (dC, dI) vwCl [] H := hP.sub (ws' := []) [] rfl
  have hD9 : va_D A [] := hD.sub (ws' := []) [] (by decide) rfl
  refine W.widen (k := 0) (n := 0) (by decide +kernel) (by decide +kernel) ?_
  exact W.zret (v := 0) hx hb hr rfl (fun t ht hW => ⟨⟨0, (), rfl, rfl, by rw [ht]; exact hP9, hD9⟩, hS.F ht⟩) hS.2.2 dX12_hasLedger_11

def ws_m_hasSight : List Cond := .code yX12_hasSight cX12_hasSight 2 (some .boolean) :: ([.fieldLink RX12 456 "HeightFineModel" "sight" "I", .methodLink RX12 287 yX12_is, .instanceMethod yX12_is, .selects RX12 yX12_is yX12_is, .initialized RX12, .code yX12_is cX12_is 3 (some .boolean), .fieldLink RX12 23 "HeightFineModel" "many" "[I", .methodLink RX12 100 yX12_in, .static yX12_in, .code yX12_in cX12_in 3 (some .boolean)] ++ u_ws RX12 TX12 45)
set_option maxRecDepth 20000 in
theorem in_m_hasSight_12 : ∀ w ∈ u_ws RX12 TX12 45, w ∈ ws_m_hasSight := by decide +kernel
set_option maxRecDepth 20000 in
theorem gm_hasSight_m_is : GoodIn ws_m_hasSight (wsV RX12 287 RX12 yX12_is ws_m_is) := goodIn_app (goodIn_of _ (by decide +kernel)) (goodIn_r _ [6, 7, 8, 9, 5, 10, 11, 12, 13, 14, 15, 16, 17, 18, 19, 20, 21, 22, 23, 24, 25, 26, 27, 28, 29, 30, 31, 32, 33, 34, 35, 36, 37, 38, 39, 40, 41, 42, 43, 44, 45, 46, 47, 48, 49, 50, 51, 52, 53, 54, 55] (by decide +kernel) (by decide +kernel))
set_option maxHeartbeats 4000000 in
set_option maxRecDepth 100000 in
theorem m_hasSight (l : Launch) (dC : Nat → ClassId) (dI : Nat → Nat → Nat) (k : Nat → ClassId) (h : Nat) (v0 : Int32) (m1 : Nat) (m2 : Nat) (m3 : Nat) (m4 : Nat) (m5 : Nat) (m6 : Nat) (m7 : Nat) (m8 : Nat) (m9 : Nat) (v10 : Int32) (v11 : Int32) (v12 : Int32) (v13 : Int32) (v14 : Int32) (v15 : Int64) (v16 : Int32) (v17 : Int32) (v18 : Int32) (m19 : Nat) (m20 : Nat) (v21 : Int32) (v22 : Int32) (v23 : Int32) (v24 : Int32) (v25 : Int32) (v26 : Int32) (m27 : Nat) (v28 : Int32) (m29 : Nat) (m30 : Nat) (m31 : Nat) (m32 : Nat) (v33 : Int32) (m34 : Nat) (v35 : Int32) (m36 : Nat) (m37 : Nat) (m38 : Nat) (m39 : Nat) (m40 : Nat) (v41 : Int32) (m42 : Nat) (m43 : Nat) (m44 : Nat) (p0 : Int32) (sz : Nat) : Met l yX12_hasSight ws_m_hasSight ({ frames := 2, cells := 0, slots := 0, locals := 44 }) (va_Pc [.ref h, .int p0] (prW dC dI k [(h, .inr (12, [.int v0, .ref m1, .ref m2, .ref m3, .ref m4, .ref m5, .ref m6, .ref m7, .ref m8, .ref m9, .int v10, .int v11, .int v12, .int v13, .int v14, .long v15, .int v16, .int v17, .int v18, .ref m19, .ref m20, .int v21, .int v22, .int v23, .int v24, .int v25, .int v26, .ref m27, .int v28, .ref m29, .ref m30, .ref m31, .ref m32, .int v33, .ref m34, .int v35, .ref m36, .ref m37, .ref m38, .ref m39, .ref m40, .int v41, .ref m42, .ref m43, .ref m44])), (m5, .inl (k 0, 16, .inl (fun _ => 0)))] sz)) (va_Qi (fun (r : Int32) (_ : Unit) => r = 0) (fun (u : Unit) (t : State) => po (dC, dI) (va_A [(h, .inr (12, [.int v0, .ref m1, .ref m2, .ref m3, .ref m4, .ref m5, .ref m6, .ref m7, .ref m8, .ref m9, .int v10, .int v11, .int v12, .int v13, .int v14, .long v15, .int v16, .int v17, .int v18, .ref m19, .ref m20, .int v21, .int v22, .int v23, .int v24, .int v25, .int v26, .ref m27, .int v28, .ref m29, .ref m30, .ref m31, .ref m32, .int v33, .ref m34, .int v35, .ref m36, .ref m37, .ref m38, .ref m39, .ref m40, .int v41, .ref m42, .ref m43, .ref m44])), (m5, .inl (k 0, 16, .inl (fun _ => 0)))] sz) [] t) (va_A [(h, .inr (12, [.int v0, .ref m1, .ref m2, .ref m3, .ref m4, .ref m5, .ref m6, .ref m7, .ref m8, .ref m9, .int v10, .int v11, .int v12, .int v13, .int v14, .long v15, .int v16, .int v17, .int v18, .ref m19, .ref m20, .int v21, .int v22, .int v23, .int v24, .int v25, .int v26, .ref m27, .int v28, .ref m29, .ref m30, .ref m31, .ref m32, .int v33, .ref m34, .int v35, .ref m36, .ref m37, .ref m38, .ref m39, .ref m40, .int v41, .ref m42, .ref m43, .ref m44])), (m5, .inl (k 0, 16, .inl (fun _ => 0)))] sz)) 0 0 (va_A [(h, .inr (12, [.int v0, .ref m1, .ref m2, .ref m3, .ref m4, .ref m5, .ref m6, .ref m7, .ref m8, .ref m9, .int v10, .int v11, .int v12, .int v13, .int v14, .long v15, .int v16, .int v17, .int v18, .ref m19, .ref m20, .int v21, .int v22, .int v23, .int v24, .int v25, .int v26, .ref m27, .int v28, .ref m29, .ref m30, .ref m31, .ref m32, .int v33, .ref m34, .int v35, .ref m36, .ref m37, .ref m38, .ref m39, .ref m40, .int v41, .ref m42, .ref m43, .ref m44])), (m5, .inl (k 0, 16, .inl (fun _ => 0)))] sz) := by
  refine Met.ofW (cc := cX12_hasSight) (maxL := 2) (ret := (some .boolean)) (by decide) rfl ?_
  intro p e s m args below meth c s₁ B hml hv
  obtain ⟨rfl, hsz, hP, hK, hD0⟩ := hv
  have hx := B.exec
  have hb := B.bytes
  have hr := B.returns
  have hts := atoms_spec (ws := ws_m_hasSight) B.pre
  have hown : s.vm.findClass RX12 = some m.cls := findClass_of_methodNamed B.named
  have hi12 := in_m_hasSight_12
  subst hsz
  have hD := hD0.self (sz := s.heap.size)
  generalize hAe : va_A [(h, .inr (12, [.int v0, .ref m1, .ref m2, .ref m3, .ref m4, .ref m5, .ref m6, .ref m7, .ref m8, .ref m9, .int v10, .int v11, .int v12, .int v13, .int v14, .long v15, .int v16, .int v17, .int v18, .ref m19, .ref m20, .int v21, .int v22, .int v23, .int v24, .int v25, .int v26, .ref m27, .int v28, .ref m29, .ref m30, .ref m31, .ref m32, .int v33, .ref m34, .int v35, .ref m36, .ref m37, .ref m38, .ref m39, .ref m40, .int v41, .ref m42, .ref m43, .ref m44])), (m5, .inl (k 0, 16, .inl (fun _ => 0)))] s.heap.size = A at hD ⊢
  have hA : ∀ q : Nat, s.heap.size ≤ q → A q := fun q h => by rw [← hAe]; exact Or.inr h
  have hS : va_S A s.heap s.heap [] := va_S.rf
  have hP : va_P (dC, dI) vwCl [(h, .inr (12, [.int v0, .ref m1, .ref m2, .ref m3, .ref m4, .ref m5, .ref m6, .ref m7, .ref m8, .ref m9, .int v10, .int v11, .int v12, .int v13, .int v14, .long v15, .int v16, .int v17, .int v18, .ref m19, .ref m20, .int v21, .int v22, .int v23, .int v24, .int v25, .int v26, .ref m27, .int v28, .ref m29, .ref m30, .ref m31, .ref m32, .int v33, .ref m34, .int v35, .ref m36, .ref m37, .ref m38, .ref m39, .ref m40, .int v41, .ref m42, .ref m43, .ref m44])), (m5, .inl (k 0, 16, .inl (fun _ => 0)))] s.heap := hP
  have hl := lv_entry ([.ref h, .int p0]) (n := 2) (Nat.le_of_ble_eq_true rfl)
  rw [lg_entry_eq]
  generalize (lg_sl ([.ref h, .int p0]) ++ List.replicate (2 - (lg_sl ([.ref h, .int p0])).length) Slot.unset).toArray = ls at hl ⊢
  have hl : lv_has ls 2 [(0, .ref h), (1, .int p0)] := hl
  refine lv_aload_n hx hb dX12_hasSight_0 rfl (lv_at hl 0 rfl) ?_
  refine lv_iload_n hx hb dX12_hasSight_1 rfl (lv_at hl 1 rfl) ?_
  refine va_put (D := (dC, dI)) (ci := 12) (v := .int p0) (ty := .int) (C := RX12) (T := TX12) (N := 45) hx hb hts hi12 tyX12 tyX12_ok nmX12 hown hK hP hD hS 0 rfl rfl 35 (by decide) (hts (.fieldLink RX12 456 "HeightFineModel" "sight" "I") (by decide +kernel)) (fun _ h9 => h9) rfl (by decide +kernel) rfl rfl (Nat.le_of_ble_eq_true rfl) dX12_hasSight_2 (fun H locs hP hD hS => ?_)
  have hP : va_P (dC, dI) vwCl [(h, .inr (12, [.int v0, .ref m1, .ref m2, .ref m3, .ref m4, .ref m5, .ref m6, .ref m7, .ref m8, .ref m9, .int v10, .int v11, .int v12, .int v13, .int v14, .long v15, .int v16, .int v17, .int v18, .ref m19, .ref m20, .int v21, .int v22, .int v23, .int v24, .int v25, .int v26, .ref m27, .int v28, .ref m29, .ref m30, .ref m31, .ref m32, .int v33, .ref m34, .int p0, .ref m36, .ref m37, .ref m38, .ref m39, .ref m40, .int v41, .ref m42, .ref m43, .ref m44])), (m5, .inl (k 0, 16, .inl (fun _ => 0)))] H := hP
  have hD : va_D A [(h, .inr (12, [.int v0, .ref m1, .ref m2, .ref m3, .ref m4, .ref m5, .ref m6, .ref m7, .ref m8, .ref m9, .int v10, .int v11, .int v12, .int v13, .int v14, .long v15, .int v16, .int v17, .int v18, .ref m19, .ref m20, .int v21, .int v22, .int v23, .int v24, .int v25, .int v26, .ref m27, .int v28, .ref m29, .ref m30, .ref m31, .ref m32, .int v33, .ref m34, .int p0, .ref m36, .ref m37, .ref m38, .ref m39, .ref m40, .int v41, .ref m42, .ref m43, .ref m44])), (m5, .inl (k 0, 16, .inl (fun _ => 0)))] := hD
  refine lv_aload_n hx hb dX12_hasSight_5 rfl (lv_at hl 0 rfl) ?_
  refine lv_iconst (v := 3) hx hb dX12_hasSight_6 (by decide) ?_
  refine lv_iload_n hx hb dX12_hasSight_7 rfl (lv_at hl 1 rfl) ?_
  have hPc := hP.sub (ws' := [(h, .inr (12, [.int v0, .ref m1, .ref m2, .ref m3, .ref m4, .ref m5, .ref m6, .ref m7, .ref m8, .ref m9, .int v10, .int v11, .int v12, .int v13, .int v14, .long v15, .int v16, .int v17, .int v18, .ref m19, .ref m20, .int v21, .int v22, .int v23, .int v24, .int v25, .int v26, .ref m27, .int v28, .ref m29, .ref m30, .ref m31, .ref m32, .int v33, .ref m34, .int p0, .ref m36, .ref m37, .ref m38, .ref m39, .ref m40, .int v41, .ref m42, .ref m43, .ref m44])), (m5, .inl (k 0, 16, .inl (fun _ => 0)))]) [0, 1] rfl
  refine vp_callSi (W.runV (As := [.int 3, .int p0]) (rest := []) ⟨hx, hb, hml, hown, hts⟩ (m_is l dC dI k h v0 m1 m2 m3 m4 m5 m6 m7 m8 m9 v10 v11 v12 v13 v14 v15 v16 v17 v18 m19 m20 v21 v22 v23 v24 v25 v26 m27 v28 m29 m30 m31 m32 v33 m34 p0 m36 m37 m38 m39 m40 v41 m42 m43 m44 3 p0 (zz_in (by decide))) (cwV 2 hts gm_hasSight_m_is rfl rfl rfl (by decide +kernel) ⟨Nat.le_of_ble_eq_true rfl, Nat.le_of_ble_eq_true rfl⟩) ⟨prR_blind, va_recv hK hPc (ci := 12) (q0 := 0) rfl rfl, fun U hU hW => ⟨rfl, prR_go hPc hK hU hW⟩⟩ rfl rfl hl.1 rfl (lv_room (Nat.le_of_ble_eq_true rfl)) dX12_hasSight_8 ⟨by decide +kernel, by decide +kernel⟩) (fun r_1 er_1 => ?_)
  subst er_1
  refine W.eq (g2 := F0 m 11 ls [.int 0]) rfl ?_
  have hP9 : va_P (dC, dI) vwCl [] H := hP.sub (ws' := []) [] rfl
  have hD9 : va_D A [] := hD.sub (ws' := []) [] (by decide) rfl
  refine W.widen (k := 0) (n := 0) (by decide +kernel) (by decide +kernel) ?_
  exact W.zret (v := 0) hx hb hr rfl (fun t ht hW => ⟨⟨0, (), rfl, rfl, by rw [ht]; exact hP9, hD9⟩, hS.F ht⟩) hS.2.2 dX12_hasSight_11

def ws_m_layAll : List Cond := .code yX12_layAll cX12_layAll 3 (some .boolean) :: ([.methodLink RX12 315 yX12_hasYear, .instanceMethod yX12_hasYear, .selects RX12 yX12_hasYear yX12_hasYear, .initialized RX12, .code yX12_hasYear cX12_hasYear 2 (some .boolean), .fieldLink RX12 312 "HeightFineModel" "year" "I", .methodLink RX12 287 yX12_is, .instanceMethod yX12_is, .selects RX12 yX12_is yX12_is, .code yX12_is cX12_is 3 (some .boolean), .fieldLink RX12 23 "HeightFineModel" "many" "[I", .methodLink RX12 100 yX12_in, .static yX12_in, .code yX12_in cX12_in 3 (some .boolean)] ++ u_ws RX12 TX12 45)
set_option maxRecDepth 20000 in
theorem in_m_layAll_12 : ∀ w ∈ u_ws RX12 TX12 45, w ∈ ws_m_layAll := by decide +kernel
set_option maxRecDepth 20000 in
theorem gm_layAll_m_hasYear : GoodIn ws_m_layAll (wsV RX12 315 RX12 yX12_hasYear ws_m_hasYear) := goodIn_app (goodIn_of _ (by decide +kernel)) (goodIn_r _ [5, 6, 7, 8, 9, 4, 10, 11, 12, 13, 14, 15, 16, 17, 18, 19, 20, 21, 22, 23, 24, 25, 26, 27, 28, 29, 30, 31, 32, 33, 34, 35, 36, 37, 38, 39, 40, 41, 42, 43, 44, 45, 46, 47, 48, 49, 50, 51, 52, 53, 54, 55, 56, 57, 58, 59] (by decide +kernel) (by decide +kernel))
set_option maxHeartbeats 4000000 in
set_option maxRecDepth 100000 in
theorem m_layAll (l : Launch) (dC : Nat → ClassId) (dI : Nat → Nat → Nat) (k : Nat → ClassId) (h : Nat) (v0 : Int32) (m1 : Nat) (m2 : Nat) (m3 : Nat) (m4 : Nat) (m5 : Nat) (m6 : Nat) (m7 : Nat) (m8 : Nat) (m9 : Nat) (v10 : Int32) (v11 : Int32) (v12 : Int32) (v13 : Int32) (v14 : Int32) (v15 : Int64) (v16 : Int32) (v17 : Int32) (v18 : Int32) (m19 : Nat) (m20 : Nat) (v21 : Int32) (v22 : Int32) (v23 : Int32) (v24 : Int32) (v25 : Int32) (v26 : Int32) (m27 : Nat) (v28 : Int32) (m29 : Nat) (m30 : Nat) (m31 : Nat) (m32 : Nat) (v33 : Int32) (m34 : Nat) (v35 : Int32) (m36 : Nat) (m37 : Nat) (m38 : Nat) (m39 : Nat) (m40 : Nat) (v41 : Int32) (m42 : Nat) (m43 : Nat) (m44 : Nat) (p0 : Int32) (p1 : Int32) (sz : Nat) : Met l yX12_layAll ws_m_layAll ({ frames := 3, cells := 0, slots := 0, locals := 65 }) (va_Pc [.ref h, .int p0, .int p1] (prW dC dI k [(h, .inr (12, [.int v0, .ref m1, .ref m2, .ref m3, .ref m4, .ref m5, .ref m6, .ref m7, .ref m8, .ref m9, .int v10, .int v11, .int v12, .int v13, .int v14, .long v15, .int v16, .int v17, .int v18, .ref m19, .ref m20, .int v21, .int v22, .int v23, .int v24, .int v25, .int v26, .ref m27, .int v28, .ref m29, .ref m30, .ref m31, .ref m32, .int v33, .ref m34, .int v35, .ref m36, .ref m37, .ref m38, .ref m39, .ref m40, .int v41, .ref m42, .ref m43, .ref m44])), (m5, .inl (k 0, 16, .inl (fun _ => 0)))] sz)) (va_Qi (fun (r : Int32) (_ : Unit) => r = 0) (fun (u : Unit) (t : State) => po (dC, dI) (va_A [(h, .inr (12, [.int v0, .ref m1, .ref m2, .ref m3, .ref m4, .ref m5, .ref m6, .ref m7, .ref m8, .ref m9, .int v10, .int v11, .int v12, .int v13, .int v14, .long v15, .int v16, .int v17, .int v18, .ref m19, .ref m20, .int v21, .int v22, .int v23, .int v24, .int v25, .int v26, .ref m27, .int v28, .ref m29, .ref m30, .ref m31, .ref m32, .int v33, .ref m34, .int v35, .ref m36, .ref m37, .ref m38, .ref m39, .ref m40, .int v41, .ref m42, .ref m43, .ref m44])), (m5, .inl (k 0, 16, .inl (fun _ => 0)))] sz) [] t) (va_A [(h, .inr (12, [.int v0, .ref m1, .ref m2, .ref m3, .ref m4, .ref m5, .ref m6, .ref m7, .ref m8, .ref m9, .int v10, .int v11, .int v12, .int v13, .int v14, .long v15, .int v16, .int v17, .int v18, .ref m19, .ref m20, .int v21, .int v22, .int v23, .int v24, .int v25, .int v26, .ref m27, .int v28, .ref m29, .ref m30, .ref m31, .ref m32, .int v33, .ref m34, .int v35, .ref m36, .ref m37, .ref m38, .ref m39, .ref m40, .int v41, .ref m42, .ref m43, .ref m44])), (m5, .inl (k 0, 16, .inl (fun _ => 0)))] sz)) 0 0 (va_A [(h, .inr (12, [.int v0, .ref m1, .ref m2, .ref m3, .ref m4, .ref m5, .ref m6, .ref m7, .ref m8, .ref m9, .int v10, .int v11, .int v12, .int v13, .int v14, .long v15, .int v16, .int v17, .int v18, .ref m19, .ref m20, .int v21, .int v22, .int v23, .int v24, .int v25, .int v26, .ref m27, .int v28, .ref m29, .ref m30, .ref m31, .ref m32, .int v33, .ref m34, .int v35, .ref m36, .ref m37, .ref m38, .ref m39, .ref m40, .int v41, .ref m42, .ref m43, .ref m44])), (m5, .inl (k 0, 16, .inl (fun _ => 0)))] sz) := by
  refine Met.ofW (cc := cX12_layAll) (maxL := 3) (ret := (some .boolean)) (by decide) rfl ?_
  intro p e s m args below meth c s₁ B hml hv
  obtain ⟨rfl, hsz, hP, hK, hD0⟩ := hv
  have hx := B.exec
  have hb := B.bytes
  have hr := B.returns
  have hts := atoms_spec (ws := ws_m_layAll) B.pre
  have hown : s.vm.findClass RX12 = some m.cls := findClass_of_methodNamed B.named
  have hi12 := in_m_layAll_12
  subst hsz
  have hD := hD0.self (sz := s.heap.size)
  generalize hAe : va_A [(h, .inr (12, [.int v0, .ref m1, .ref m2, .ref m3, .ref m4, .ref m5, .ref m6, .ref m7, .ref m8, .ref m9, .int v10, .int v11, .int v12, .int v13, .int v14, .long v15, .int v16, .int v17, .int v18, .ref m19, .ref m20, .int v21, .int v22, .int v23, .int v24, .int v25, .int v26, .ref m27, .int v28, .ref m29, .ref m30, .ref m31, .ref m32, .int v33, .ref m34, .int v35, .ref m36, .ref m37, .ref m38, .ref m39, .ref m40, .int v41, .ref m42, .ref m43, .ref m44])), (m5, .inl (k 0, 16, .inl (fun _ => 0)))] s.heap.size = A at hD ⊢
  have hA : ∀ q : Nat, s.heap.size ≤ q → A q := fun q h => by rw [← hAe]; exact Or.inr h
  have hS : va_S A s.heap s.heap [] := va_S.rf
  have hP : va_P (dC, dI) vwCl [(h, .inr (12, [.int v0, .ref m1, .ref m2, .ref m3, .ref m4, .ref m5, .ref m6, .ref m7, .ref m8, .ref m9, .int v10, .int v11, .int v12, .int v13, .int v14, .long v15, .int v16, .int v17, .int v18, .ref m19, .ref m20, .int v21, .int v22, .int v23, .int v24, .int v25, .int v26, .ref m27, .int v28, .ref m29, .ref m30, .ref m31, .ref m32, .int v33, .ref m34, .int v35, .ref m36, .ref m37, .ref m38, .ref m39, .ref m40, .int v41, .ref m42, .ref m43, .ref m44])), (m5, .inl (k 0, 16, .inl (fun _ => 0)))] s.heap := hP
  have hl := lv_entry ([.ref h, .int p0, .int p1]) (n := 3) (Nat.le_of_ble_eq_true rfl)
  rw [lg_entry_eq]
  generalize (lg_sl ([.ref h, .int p0, .int p1]) ++ List.replicate (3 - (lg_sl ([.ref h, .int p0, .int p1])).length) Slot.unset).toArray = ls at hl ⊢
  have hl : lv_has ls 3 [(0, .ref h), (1, .int p0), (2, .int p1)] := hl
  refine lv_aload_n hx hb dX12_layAll_0 rfl (lv_at hl 0 rfl) ?_
  refine lv_iload_n hx hb dX12_layAll_1 rfl (lv_at hl 2 rfl) ?_
  have hPc := hP.sub (ws' := [(h, .inr (12, [.int v0, .ref m1, .ref m2, .ref m3, .ref m4, .ref m5, .ref m6, .ref m7, .ref m8, .ref m9, .int v10, .int v11, .int v12, .int v13, .int v14, .long v15, .int v16, .int v17, .int v18, .ref m19, .ref m20, .int v21, .int v22, .int v23, .int v24, .int v25, .int v26, .ref m27, .int v28, .ref m29, .ref m30, .ref m31, .ref m32, .int v33, .ref m34, .int v35, .ref m36, .ref m37, .ref m38, .ref m39, .ref m40, .int v41, .ref m42, .ref m43, .ref m44])), (m5, .inl (k 0, 16, .inl (fun _ => 0)))]) [0, 1] rfl
  have hDc := hD.sub (ws' := [(h, .inr (12, [.int v0, .ref m1, .ref m2, .ref m3, .ref m4, .ref m5, .ref m6, .ref m7, .ref m8, .ref m9, .int v10, .int v11, .int v12, .int v13, .int v14, .long v15, .int v16, .int v17, .int v18, .ref m19, .ref m20, .int v21, .int v22, .int v23, .int v24, .int v25, .int v26, .ref m27, .int v28, .ref m29, .ref m30, .ref m31, .ref m32, .int v33, .ref m34, .int v35, .ref m36, .ref m37, .ref m38, .ref m39, .ref m40, .int v41, .ref m42, .ref m43, .ref m44])), (m5, .inl (k 0, 16, .inl (fun _ => 0)))]) [0, 1] (by decide) rfl
  have hFc := va_free (wc := [(h, .inr (12, [.int v0, .ref m1, .ref m2, .ref m3, .ref m4, .ref m5, .ref m6, .ref m7, .ref m8, .ref m9, .int v10, .int v11, .int v12, .int v13, .int v14, .long v15, .int v16, .int v17, .int v18, .ref m19, .ref m20, .int v21, .int v22, .int v23, .int v24, .int v25, .int v26, .ref m27, .int v28, .ref m29, .ref m30, .ref m31, .ref m32, .int v33, .ref m34, .int v35, .ref m36, .ref m37, .ref m38, .ref m39, .ref m40, .int v41, .ref m42, .ref m43, .ref m44])), (m5, .inl (k 0, 16, .inl (fun _ => 0)))]) hD hS hA [0, 1] rfl
  refine va_calli (va_runV (As := [.int p1]) (rest := []) ⟨hx, hb, hml, hown, hts⟩ (m_hasYear l dC dI k h v0 m1 m2 m3 m4 m5 m6 m7 m8 m9 v10 v11 v12 v13 v14 v15 v16 v17 v18 m19 m20 v21 v22 v23 v24 v25 v26 m27 v28 m29 m30 m31 m32 v33 m34 v35 m36 m37 m38 m39 m40 v41 m42 m43 m44 p1 s.heap.size) (cwV 1 hts gm_layAll_m_hasYear rfl rfl rfl (by decide +kernel) ⟨Nat.le_of_ble_eq_true rfl, Nat.le_of_ble_eq_true rfl⟩) ⟨prW_blind, va_recv hK hPc (ci := 12) (q0 := 0) rfl rfl, fun U hU hW => ⟨rfl, prW_go hPc hDc hK hU hW⟩⟩ rfl rfl hl.1 rfl (lv_room (Nat.le_of_ble_eq_true rfl)) dX12_layAll_2 ⟨by decide +kernel, by decide +kernel⟩) hS (fun q _ h => hFc q h) hFc (fun r_1 u t H1 locs ht hvm hw hB hz1 hk1 hS => ?_)
  obtain ⟨hP1, hD1⟩ := hB
  rw [ht] at hP1
  obtain ⟨hP, hD⟩ := va_join (wr := []) (w1 := []) hP hD [0, 1] [] rfl rfl (by decide) (by decide) hk1 hFc hP1 hD1
  clear hk1 hz1 ht hPc hDc hP1 hD1 hvm
  generalize H1 = H at hP hS ⊢
  have hP : va_P (dC, dI) vwCl [] H := hP
  have hD : va_D A [] := hD
  have hw : r_1 = 0 := hw
  subst hw
  refine lv_if_eq (tgt := 20) hx hb dX12_layAll_5 (by decide) (fun _ => ?_) (fun c_2 => absurd (by decide) c_2)
  refine lv_iconst (v := 0) hx hb dX12_layAll_20 (by decide) ?_
  have hP9 : va_P (dC, dI) vwCl [] H := hP.sub (ws' := []) [] rfl
  have hD9 : va_D A [] := hD.sub (ws' := []) [] (by decide) rfl
  refine W.widen (k := 0) (n := 0) (by decide +kernel) (by decide +kernel) ?_
  exact W.zret (v := 0) hx hb hr rfl (fun t ht hW => ⟨⟨0, (), rfl, rfl, by rw [ht]; exact hP9, hD9⟩, hS.F ht⟩) hS.2.2 dX12_layAll_21

def ws_m_laySight : List Cond := .code yX12_laySight cX12_laySight 5 (some .boolean) :: ([.methodLink RX12 100 yX12_in, .static yX12_in, .initialized RX12, .code yX12_in cX12_in 3 (some .boolean), .methodLink RX12 459 yX12_hasSight, .instanceMethod yX12_hasSight, .selects RX12 yX12_hasSight yX12_hasSight, .code yX12_hasSight cX12_hasSight 2 (some .boolean), .fieldLink RX12 456 "HeightFineModel" "sight" "I", .methodLink RX12 287 yX12_is, .instanceMethod yX12_is, .selects RX12 yX12_is yX12_is, .code yX12_is cX12_is 3 (some .boolean), .fieldLink RX12 23 "HeightFineModel" "many" "[I"] ++ u_ws RX12 TX12 45)
set_option maxRecDepth 20000 in
theorem in_m_laySight_12 : ∀ w ∈ u_ws RX12 TX12 45, w ∈ ws_m_laySight := by decide +kernel
set_option maxRecDepth 20000 in
theorem gm_laySight_m_in : GoodIn ws_m_laySight (va_wsS RX12 100 yX12_in ws_m_in) := goodIn_app (goodIn_of _ (by decide +kernel)) (goodIn_r _ [4] (by decide +kernel) (by decide +kernel))
set_option maxRecDepth 20000 in
theorem gm_laySight_m_hasSight : GoodIn ws_m_laySight (wsV RX12 459 RX12 yX12_hasSight ws_m_hasSight) := goodIn_app (goodIn_of _ (by decide +kernel)) (goodIn_r _ [8, 9, 10, 11, 12, 3, 13, 14, 1, 2, 4, 15, 16, 17, 18, 19, 20, 21, 22, 23, 24, 25, 26, 27, 28, 29, 30, 31, 32, 33, 34, 35, 36, 37, 38, 39, 40, 41, 42, 43, 44, 45, 46, 47, 48, 49, 50, 51, 52, 53, 54, 55, 56, 57, 58, 59] (by decide +kernel) (by decide +kernel))
set_option maxHeartbeats 4000000 in
set_option maxRecDepth 100000 in
theorem m_laySight (l : Launch) (dC : Nat → ClassId) (dI : Nat → Nat → Nat) (k : Nat → ClassId) (h : Nat) (v0 : Int32) (m1 : Nat) (m2 : Nat) (m3 : Nat) (m4 : Nat) (m5 : Nat) (m6 : Nat) (m7 : Nat) (m8 : Nat) (m9 : Nat) (v10 : Int32) (v11 : Int32) (v12 : Int32) (v13 : Int32) (v14 : Int32) (v15 : Int64) (v16 : Int32) (v17 : Int32) (v18 : Int32) (m19 : Nat) (m20 : Nat) (v21 : Int32) (v22 : Int32) (v23 : Int32) (v24 : Int32) (v25 : Int32) (v26 : Int32) (m27 : Nat) (v28 : Int32) (m29 : Nat) (m30 : Nat) (m31 : Nat) (m32 : Nat) (v33 : Int32) (m34 : Nat) (v35 : Int32) (m36 : Nat) (m37 : Nat) (m38 : Nat) (m39 : Nat) (m40 : Nat) (v41 : Int32) (m42 : Nat) (m43 : Nat) (m44 : Nat) (p0 : Int32) (p1 : Int32) (p2 : Int32) (sz : Nat) : Met l yX12_laySight ws_m_laySight ({ frames := 3, cells := 0, slots := 0, locals := 65 }) (va_Pc [.ref h, .int p0, .int p1, .int p2] (prW dC dI k [(h, .inr (12, [.int v0, .ref m1, .ref m2, .ref m3, .ref m4, .ref m5, .ref m6, .ref m7, .ref m8, .ref m9, .int v10, .int v11, .int v12, .int v13, .int v14, .long v15, .int v16, .int v17, .int v18, .ref m19, .ref m20, .int v21, .int v22, .int v23, .int v24, .int v25, .int v26, .ref m27, .int v28, .ref m29, .ref m30, .ref m31, .ref m32, .int v33, .ref m34, .int v35, .ref m36, .ref m37, .ref m38, .ref m39, .ref m40, .int v41, .ref m42, .ref m43, .ref m44])), (m5, .inl (k 0, 16, .inl (fun _ => 0)))] sz)) (va_Qi (fun (r : Int32) (_ : Unit) => r = 0) (fun (u : Unit) (t : State) => po (dC, dI) (va_A [(h, .inr (12, [.int v0, .ref m1, .ref m2, .ref m3, .ref m4, .ref m5, .ref m6, .ref m7, .ref m8, .ref m9, .int v10, .int v11, .int v12, .int v13, .int v14, .long v15, .int v16, .int v17, .int v18, .ref m19, .ref m20, .int v21, .int v22, .int v23, .int v24, .int v25, .int v26, .ref m27, .int v28, .ref m29, .ref m30, .ref m31, .ref m32, .int v33, .ref m34, .int v35, .ref m36, .ref m37, .ref m38, .ref m39, .ref m40, .int v41, .ref m42, .ref m43, .ref m44])), (m5, .inl (k 0, 16, .inl (fun _ => 0)))] sz) [] t) (va_A [(h, .inr (12, [.int v0, .ref m1, .ref m2, .ref m3, .ref m4, .ref m5, .ref m6, .ref m7, .ref m8, .ref m9, .int v10, .int v11, .int v12, .int v13, .int v14, .long v15, .int v16, .int v17, .int v18, .ref m19, .ref m20, .int v21, .int v22, .int v23, .int v24, .int v25, .int v26, .ref m27, .int v28, .ref m29, .ref m30, .ref m31, .ref m32, .int v33, .ref m34, .int v35, .ref m36, .ref m37, .ref m38, .ref m39, .ref m40, .int v41, .ref m42, .ref m43, .ref m44])), (m5, .inl (k 0, 16, .inl (fun _ => 0)))] sz)) 0 0 (va_A [(h, .inr (12, [.int v0, .ref m1, .ref m2, .ref m3, .ref m4, .ref m5, .ref m6, .ref m7, .ref m8, .ref m9, .int v10, .int v11, .int v12, .int v13, .int v14, .long v15, .int v16, .int v17, .int v18, .ref m19, .ref m20, .int v21, .int v22, .int v23, .int v24, .int v25, .int v26, .ref m27, .int v28, .ref m29, .ref m30, .ref m31, .ref m32, .int v33, .ref m34, .int v35, .ref m36, .ref m37, .ref m38, .ref m39, .ref m40, .int v41, .ref m42, .ref m43, .ref m44])), (m5, .inl (k 0, 16, .inl (fun _ => 0)))] sz) := by
  refine Met.ofW (cc := cX12_laySight) (maxL := 5) (ret := (some .boolean)) (by decide) rfl ?_
  intro p e s m args below meth c s₁ B hml hv
  obtain ⟨rfl, hsz, hP, hK, hD0⟩ := hv
  have hx := B.exec
  have hb := B.bytes
  have hr := B.returns
  have hts := atoms_spec (ws := ws_m_laySight) B.pre
  have hown : s.vm.findClass RX12 = some m.cls := findClass_of_methodNamed B.named
  have hi12 := in_m_laySight_12
  subst hsz
  have hD := hD0.self (sz := s.heap.size)
  generalize hAe : va_A [(h, .inr (12, [.int v0, .ref m1, .ref m2, .ref m3, .ref m4, .ref m5, .ref m6, .ref m7, .ref m8, .ref m9, .int v10, .int v11, .int v12, .int v13, .int v14, .long v15, .int v16, .int v17, .int v18, .ref m19, .ref m20, .int v21, .int v22, .int v23, .int v24, .int v25, .int v26, .ref m27, .int v28, .ref m29, .ref m30, .ref m31, .ref m32, .int v33, .ref m34, .int v35, .ref m36, .ref m37, .ref m38, .ref m39, .ref m40, .int v41, .ref m42, .ref m43, .ref m44])), (m5, .inl (k 0, 16, .inl (fun _ => 0)))] s.heap.size = A at hD ⊢
  have hA : ∀ q : Nat, s.heap.size ≤ q → A q := fun q h => by rw [← hAe]; exact Or.inr h
  have hS : va_S A s.heap s.heap [] := va_S.rf
  have hP : va_P (dC, dI) vwCl [(h, .inr (12, [.int v0, .ref m1, .ref m2, .ref m3, .ref m4, .ref m5, .ref m6, .ref m7, .ref m8, .ref m9, .int v10, .int v11, .int v12, .int v13, .int v14, .long v15, .int v16, .int v17, .int v18, .ref m19, .ref m20, .int v21, .int v22, .int v23, .int v24, .int v25, .int v26, .ref m27, .int v28, .ref m29, .ref m30, .ref m31, .ref m32, .int v33, .ref m34, .int v35, .ref m36, .ref m37, .ref m38, .ref m39, .ref m40, .int v41, .ref m42, .ref m43, .ref m44])), (m5, .inl (k 0, 16, .inl (fun _ => 0)))] s.heap := hP
  have hl := lv_entry ([.ref h, .int p0, .int p1, .int p2]) (n := 5) (Nat.le_of_ble_eq_true rfl)
  rw [lg_entry_eq]
  generalize (lg_sl ([.ref h, .int p0, .int p1, .int p2]) ++ List.replicate (5 - (lg_sl ([.ref h, .int p0, .int p1, .int p2])).length) Slot.unset).toArray = ls at hl ⊢
  have hl : lv_has ls 5 [(0, .ref h), (1, .int p0), (2, .int p1), (3, .int p2)] := hl
  refine lv_iload_n hx hb dX12_laySight_0 rfl (lv_at hl 3 rfl) ?_
  refine lv_iconst (v := 0) hx hb dX12_laySight_1 (by decide) ?_
  refine lv_bipush (v := 8) hx hb dX12_laySight_2 (by decide) ?_
  refine vp_callSi (W.runS (As := [.int p2, .int 0, .int 8]) (rest := []) ⟨hx, hb, hml, hown, hts⟩ (m_in l p2 0 8) (va_cwS 3 hts gm_laySight_m_in rfl rfl rfl (by decide +kernel) ⟨Nat.le_of_ble_eq_true rfl, Nat.le_of_ble_eq_true rfl⟩) ⟨prN_blind, fun U hU hW => ⟨rfl, trivial⟩⟩ rfl rfl hl.1 rfl (lv_room (Nat.le_of_ble_eq_true rfl)) dX12_laySight_4 ⟨by decide +kernel, by decide +kernel⟩) (fun r_1 er_1 => ?_)
  subst er_1
  refine W.eq (g2 := F0 m 7 ls [.int (inR p2 0 8)]) rfl ?_
  refine lv_if_eq (tgt := 26) hx hb dX12_laySight_7 (by decide) (fun c_2 => ?_) (fun c_2 => ?_)
  · refine lv_iconst (v := 0) hx hb dX12_laySight_26 (by decide) ?_
    have hP9 : va_P (dC, dI) vwCl [] s.heap := hP.sub (ws' := []) [] rfl
    have hD9 : va_D A [] := hD.sub (ws' := []) [] (by decide) rfl
    refine W.widen (k := 0) (n := 0) (by decide +kernel) (by decide +kernel) ?_
    exact W.zret (v := 0) hx hb hr rfl (fun t ht hW => ⟨⟨0, (), rfl, rfl, by rw [ht]; exact hP9, hD9⟩, hS.F ht⟩) hS.2.2 dX12_laySight_27
  · refine lv_aload_n hx hb dX12_laySight_10 rfl (lv_at hl 0 rfl) ?_
    refine lv_iload_n hx hb dX12_laySight_11 rfl (lv_at hl 2 rfl) ?_
    have hPc := hP.sub (ws' := [(h, .inr (12, [.int v0, .ref m1, .ref m2, .ref m3, .ref m4, .ref m5, .ref m6, .ref m7, .ref m8, .ref m9, .int v10, .int v11, .int v12, .int v13, .int v14, .long v15, .int v16, .int v17, .int v18, .ref m19, .ref m20, .int v21, .int v22, .int v23, .int v24, .int v25, .int v26, .ref m27, .int v28, .ref m29, .ref m30, .ref m31, .ref m32, .int v33, .ref m34, .int v35, .ref m36, .ref m37, .ref m38, .ref m39, .ref m40, .int v41, .ref m42, .ref m43, .ref m44])), (m5, .inl (k 0, 16, .inl (fun _ => 0)))]) [0, 1] rfl
    have hDc := hD.sub (ws' := [(h, .inr (12, [.int v0, .ref m1, .ref m2, .ref m3, .ref m4, .ref m5, .ref m6, .ref m7, .ref m8, .ref m9, .int v10, .int v11, .int v12, .int v13, .int v14, .long v15, .int v16, .int v17, .int v18, .ref m19, .ref m20, .int v21, .int v22, .int v23, .int v24, .int v25, .int v26, .ref m27, .int v28, .ref m29, .ref m30, .ref m31, .ref m32, .int v33, .ref m34, .int v35, .ref m36, .ref m37, .ref m38, .ref m39, .ref m40, .int v41, .ref m42, .ref m43, .ref m44])), (m5, .inl (k 0, 16, .inl (fun _ => 0)))]) [0, 1] (by decide) rfl
    have hFc := va_free (wc := [(h, .inr (12, [.int v0, .ref m1, .ref m2, .ref m3, .ref m4, .ref m5, .ref m6, .ref m7, .ref m8, .ref m9, .int v10, .int v11, .int v12, .int v13, .int v14, .long v15, .int v16, .int v17, .int v18, .ref m19, .ref m20, .int v21, .int v22, .int v23, .int v24, .int v25, .int v26, .ref m27, .int v28, .ref m29, .ref m30, .ref m31, .ref m32, .int v33, .ref m34, .int v35, .ref m36, .ref m37, .ref m38, .ref m39, .ref m40, .int v41, .ref m42, .ref m43, .ref m44])), (m5, .inl (k 0, 16, .inl (fun _ => 0)))]) hD hS hA [0, 1] rfl
    refine va_calli (va_runV (As := [.int p1]) (rest := []) ⟨hx, hb, hml, hown, hts⟩ (m_hasSight l dC dI k h v0 m1 m2 m3 m4 m5 m6 m7 m8 m9 v10 v11 v12 v13 v14 v15 v16 v17 v18 m19 m20 v21 v22 v23 v24 v25 v26 m27 v28 m29 m30 m31 m32 v33 m34 v35 m36 m37 m38 m39 m40 v41 m42 m43 m44 p1 s.heap.size) (cwV 1 hts gm_laySight_m_hasSight rfl rfl rfl (by decide +kernel) ⟨Nat.le_of_ble_eq_true rfl, Nat.le_of_ble_eq_true rfl⟩) ⟨prW_blind, va_recv hK hPc (ci := 12) (q0 := 0) rfl rfl, fun U hU hW => ⟨rfl, prW_go hPc hDc hK hU hW⟩⟩ rfl rfl hl.1 rfl (lv_room (Nat.le_of_ble_eq_true rfl)) dX12_laySight_12 ⟨by decide +kernel, by decide +kernel⟩) hS (fun q _ h => hFc q h) hFc (fun r_3 u t H1 locs ht hvm hw hB hz1 hk1 hS => ?_)
    obtain ⟨hP1, hD1⟩ := hB
    rw [ht] at hP1
    obtain ⟨hP, hD⟩ := va_join (wr := []) (w1 := []) hP hD [0, 1] [] rfl rfl (by decide) (by decide) hk1 hFc hP1 hD1
    clear hk1 hz1 ht hPc hDc hP1 hD1 hvm
    generalize H1 = H at hP hS ⊢
    have hP : va_P (dC, dI) vwCl [] H := hP
    have hD : va_D A [] := hD
    have hw : r_3 = 0 := hw
    subst hw
    refine lv_if_eq (tgt := 26) hx hb dX12_laySight_15 (by decide) (fun _ => ?_) (fun c_4 => absurd (by decide) c_4)
    refine lv_iconst (v := 0) hx hb dX12_laySight_26 (by decide) ?_
    have hP9 : va_P (dC, dI) vwCl [] H := hP.sub (ws' := []) [] rfl
    have hD9 : va_D A [] := hD.sub (ws' := []) [] (by decide) rfl
    refine W.widen (k := 0) (n := 0) (by decide +kernel) (by decide +kernel) ?_
    exact W.zret (v := 0) hx hb hr rfl (fun t ht hW => ⟨⟨0, (), rfl, rfl, by rw [ht]; exact hP9, hD9⟩, hS.F ht⟩) hS.2.2 dX12_laySight_27
