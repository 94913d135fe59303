theorem dX8_holds_0 : decode cX8_holds 0 = .ok (.iload_n 2, 1) := by decide +kernel
theorem dX8_holds_1 : decode cX8_holds 1 = .ok (.ifCond .lt 22, 3) := by decide +kernel
theorem dX8_holds_4 : decode cX8_holds 4 = .ok (.iload_n 2, 1) := by decide +kernel
theorem dX8_holds_5 : decode cX8_holds 5 = .ok (.aload_n 0, 1) := by decide +kernel
theorem dX8_holds_6 : decode cX8_holds 6 = .ok (.getfield 15, 3) := by decide +kernel
theorem dX8_holds_9 : decode cX8_holds 9 = .ok (.iload_n 1, 1) := by decide +kernel
theorem dX8_holds_10 : decode cX8_holds 10 = .ok (.iaload, 1) := by decide +kernel
theorem dX8_holds_11 : decode cX8_holds 11 = .ok (.if_icmp .ge 12, 3) := by decide +kernel
theorem dX8_holds_23 : decode cX8_holds 23 = .ok (.iconst 0, 1) := by decide +kernel
theorem dX8_holds_24 : decode cX8_holds 24 = .ok (.ireturn, 1) := by decide +kernel
theorem dX8_boroughAt_0 : decode cX8_boroughAt 0 = .ok (.aload_n 0, 1) := by decide +kernel
theorem dX8_boroughAt_1 : decode cX8_boroughAt 1 = .ok (.iconst 0, 1) := by decide +kernel
theorem dX8_boroughAt_2 : decode cX8_boroughAt 2 = .ok (.iload_n 1, 1) := by decide +kernel
theorem dX8_boroughAt_3 : decode cX8_boroughAt 3 = .ok (.invokevirtual 76, 3) := by decide +kernel
theorem dX8_boroughAt_6 : decode cX8_boroughAt 6 = .ok (.ifCond .eq 12, 3) := by decide +kernel
theorem dX8_boroughAt_18 : decode cX8_boroughAt 18 = .ok (.aconst_null, 1) := by decide +kernel
theorem dX8_boroughAt_19 : decode cX8_boroughAt 19 = .ok (.areturn, 1) := by decide +kernel
theorem dX8_yearAt_0 : decode cX8_yearAt 0 = .ok (.aload_n 0, 1) := by decide +kernel
theorem dX8_yearAt_1 : decode cX8_yearAt 1 = .ok (.iconst 1, 1) := by decide +kernel
theorem dX8_yearAt_2 : decode cX8_yearAt 2 = .ok (.iload_n 1, 1) := by decide +kernel
theorem dX8_yearAt_3 : decode cX8_yearAt 3 = .ok (.invokevirtual 76, 3) := by decide +kernel
theorem dX8_yearAt_6 : decode cX8_yearAt 6 = .ok (.ifCond .eq 12, 3) := by decide +kernel
theorem dX8_yearAt_18 : decode cX8_yearAt 18 = .ok (.aconst_null, 1) := by decide +kernel
theorem dX8_yearAt_19 : decode cX8_yearAt 19 = .ok (.areturn, 1) := by decide +kernel
theorem dX8_ledgerAt_0 : decode cX8_ledgerAt 0 = .ok (.aload_n 0, 1) := by decide +kernel
theorem dX8_ledgerAt_1 : decode cX8_ledgerAt 1 = .ok (.iconst 2, 1) := by decide +kernel
theorem dX8_ledgerAt_2 : decode cX8_ledgerAt 2 = .ok (.iload_n 1, 1) := by decide +kernel
theorem dX8_ledgerAt_3 : decode cX8_ledgerAt 3 = .ok (.invokevirtual 76, 3) := by decide +kernel
theorem dX8_ledgerAt_6 : decode cX8_ledgerAt 6 = .ok (.ifCond .eq 12, 3) := by decide +kernel
theorem dX8_ledgerAt_18 : decode cX8_ledgerAt 18 = .ok (.aconst_null, 1) := by decide +kernel
theorem dX8_ledgerAt_19 : decode cX8_ledgerAt 19 = .ok (.areturn, 1) := by decide +kernel
theorem dX8_sightAt_0 : decode cX8_sightAt 0 = .ok (.aload_n 0, 1) := by decide +kernel
theorem dX8_sightAt_1 : decode cX8_sightAt 1 = .ok (.iconst 3, 1) := by decide +kernel
theorem dX8_sightAt_2 : decode cX8_sightAt 2 = .ok (.iload_n 1, 1) := by decide +kernel
theorem dX8_sightAt_3 : decode cX8_sightAt 3 = .ok (.invokevirtual 76, 3) := by decide +kernel
theorem dX8_sightAt_6 : decode cX8_sightAt 6 = .ok (.ifCond .eq 12, 3) := by decide +kernel
theorem dX8_sightAt_18 : decode cX8_sightAt 18 = .ok (.aconst_null, 1) := by decide +kernel
theorem dX8_sightAt_19 : decode cX8_sightAt 19 = .ok (.areturn, 1) := by decide +kernel

def ws_c_holds : List Cond := .code yX8_holds cX8_holds 3 (some .boolean) :: ([.fieldLink RX8 15 "HeightFine$Told" "counts" "[I"] ++ u_ws RX8 TX8 9)
set_option maxRecDepth 20000 in
theorem in_c_holds_8 : ∀ w ∈ u_ws RX8 TX8 9, w ∈ ws_c_holds := by decide +kernel
set_option maxHeartbeats 4000000 in
set_option maxRecDepth 100000 in
theorem c_holds (l : Launch) (dC : Nat → ClassId) (dI : Nat → Nat → Nat) (k : Nat → ClassId) (h : Nat) (t0 : Nat) (t1 : Nat) (t2 : Nat) (t3 : Nat) (t4 : Nat) (t5 : Nat) (x6 : Int32) (x7 : Int32) (x8 : Int32) (sort : Int32) (number : Int32) (hs : vp_in sort 4) : Met l yX8_holds ws_c_holds ({ frames := 0, cells := 0, slots := 0, locals := 0 }) (va_Pc [.ref h, .int sort, .int number] (prR dC dI k [(h, .inr (8, [.ref t0, .ref t1, .ref t2, .ref t3, .ref t4, .ref t5, .int x6, .int x7, .int x8])), (t1, .inl (k 0, 4, .inl (fun _ => 0)))])) (vp_Si (fun r => r = 0)) 0 0 (fun _ => False) := by
  refine Met.ofW (cc := cX8_holds) (maxL := 3) (ret := (some .boolean)) (by decide) rfl ?_
  intro p e s m args below meth c s₁ B hml hv
  obtain ⟨rfl, hP, hK⟩ := hv
  have hx := B.exec
  have hb := B.bytes
  have hr := B.returns
  have hts := atoms_spec (ws := ws_c_holds) B.pre
  have hown : s.vm.findClass RX8 = some m.cls := findClass_of_methodNamed B.named
  have hi8 := in_c_holds_8
  have hP : va_P (dC, dI) vwCl [(h, .inr (8, [.ref t0, .ref t1, .ref t2, .ref t3, .ref t4, .ref t5, .int x6, .int x7, .int x8])), (t1, .inl (k 0, 4, .inl (fun _ => 0)))] s.heap := hP
  have hl := lv_entry ([.ref h, .int sort, .int number]) (n := 3) (Nat.le_of_ble_eq_true rfl)
  rw [lg_entry_eq]
  generalize (lg_sl ([.ref h, .int sort, .int number]) ++ List.replicate (3 - (lg_sl ([.ref h, .int sort, .int number])).length) Slot.unset).toArray = ls at hl ⊢
  have hl : lv_has ls 3 [(0, .ref h), (1, .int sort), (2, .int number)] := hl
  refine lv_iload_n hx hb dX8_holds_0 rfl (lv_at hl 2 rfl) ?_
  refine lv_if_lt (tgt := 23) hx hb dX8_holds_1 (by decide) (fun c_1 => ?_) (fun c_1 => ?_)
  · refine lv_iconst (v := 0) hx hb dX8_holds_23 (by decide) ?_
    exact W.zret (v := 0) hx hb hr rfl (fun t ht hW => ⟨0, rfl, rfl, ht⟩) (fun q h => absurd h List.not_mem_nil) dX8_holds_24
  · refine lv_iload_n hx hb dX8_holds_4 rfl (lv_at hl 2 rfl) ?_
    refine lv_aload_n hx hb dX8_holds_5 rfl (lv_at hl 0 rfl) ?_
    refine va_get (D := (dC, dI)) (ci := 8) (v := .ref t1) (C := RX8) (T := TX8) (N := 9) hx hb hts hi8 hown hK hP 0 rfl rfl 1 (by decide) (hts (.fieldLink RX8 15 "HeightFine$Told" "counts" "[I") (by decide +kernel)) (fun _ h9 => h9) rfl dX8_holds_6 ?_
    refine lv_iload_n hx hb dX8_holds_9 rfl (lv_at hl 1 rfl) ?_
    refine va_iald hx hb hK hP 1 0 rfl rfl (i := sort) hs dX8_holds_10 ?_
    refine W.eq (g2 := F0 m 11 ls [.int 0, .int number]) rfl ?_
    refine lv_icmp_ge (tgt := 23) hx hb dX8_holds_11 (by decide) (fun _ => ?_) (fun c_2 => absurd (Int32.not_lt.mp c_1) c_2)
    refine lv_iconst (v := 0) hx hb dX8_holds_23 (by decide) ?_
    exact W.zret (v := 0) hx hb hr rfl (fun t ht hW => ⟨0, rfl, rfl, ht⟩) (fun q h => absurd h List.not_mem_nil) dX8_holds_24

def ws_c_boroughAt : List Cond := .code yX8_boroughAt cX8_boroughAt 2 (some (.object "HeightFine$Borough")) :: ([.methodLink RX8 76 yX8_holds, .instanceMethod yX8_holds, .selects RX8 yX8_holds yX8_holds, .initialized RX8, .code yX8_holds cX8_holds 3 (some .boolean), .fieldLink RX8 15 "HeightFine$Told" "counts" "[I"] ++ u_ws RX8 TX8 9)
set_option maxRecDepth 20000 in
theorem in_c_boroughAt_8 : ∀ w ∈ u_ws RX8 TX8 9, w ∈ ws_c_boroughAt := by decide +kernel
set_option maxRecDepth 20000 in
theorem gc_boroughAt_c_holds : GoodIn ws_c_boroughAt (wsV RX8 76 RX8 yX8_holds ws_c_holds) := goodIn_app (goodIn_of _ (by decide +kernel)) (goodIn_r _ [5, 6, 7, 8, 9, 10, 11, 12, 13, 14, 15] (by decide +kernel) (by decide +kernel))
set_option maxHeartbeats 4000000 in
set_option maxRecDepth 100000 in
theorem c_boroughAt (l : Launch) (dC : Nat → ClassId) (dI : Nat → Nat → Nat) (k : Nat → ClassId) (h : Nat) (t0 : Nat) (t1 : Nat) (t2 : Nat) (t3 : Nat) (t4 : Nat) (t5 : Nat) (x6 : Int32) (x7 : Int32) (x8 : Int32) (number : Int32) : Met l yX8_boroughAt ws_c_boroughAt ({ frames := 1, cells := 0, slots := 0, locals := 22 }) (va_Pc [.ref h, .int number] (prR dC dI k [(h, .inr (8, [.ref t0, .ref t1, .ref t2, .ref t3, .ref t4, .ref t5, .int x6, .int x7, .int x8])), (t1, .inl (k 0, 4, .inl (fun _ => 0)))])) (va_Sq (fun r => r = none)) 0 0 (fun _ => False) := by
  refine Met.ofW (cc := cX8_boroughAt) (maxL := 2) (ret := (some (.object "HeightFine$Borough"))) (by decide) rfl ?_
  intro p e s m args below meth c s₁ B hml hv
  obtain ⟨rfl, hP, hK⟩ := hv
  have hx := B.exec
  have hb := B.bytes
  have hr := B.returns
  have hts := atoms_spec (ws := ws_c_boroughAt) B.pre
  have hown : s.vm.findClass RX8 = some m.cls := findClass_of_methodNamed B.named
  have hi8 := in_c_boroughAt_8
  have hP : va_P (dC, dI) vwCl [(h, .inr (8, [.ref t0, .ref t1, .ref t2, .ref t3, .ref t4, .ref t5, .int x6, .int x7, .int x8])), (t1, .inl (k 0, 4, .inl (fun _ => 0)))] s.heap := hP
  have hl := lv_entry ([.ref h, .int number]) (n := 2) (Nat.le_of_ble_eq_true rfl)
  rw [lg_entry_eq]
  generalize (lg_sl ([.ref h, .int number]) ++ List.replicate (2 - (lg_sl ([.ref h, .int number])).length) Slot.unset).toArray = ls at hl ⊢
  have hl : lv_has ls 2 [(0, .ref h), (1, .int number)] := hl
  refine lv_aload_n hx hb dX8_boroughAt_0 rfl (lv_at hl 0 rfl) ?_
  refine lv_iconst (v := 0) hx hb dX8_boroughAt_1 (by decide) ?_
  refine lv_iload_n hx hb dX8_boroughAt_2 rfl (lv_at hl 1 rfl) ?_
  have hPc := hP.sub (ws' := [(h, .inr (8, [.ref t0, .ref t1, .ref t2, .ref t3, .ref t4, .ref t5, .int x6, .int x7, .int x8])), (t1, .inl (k 0, 4, .inl (fun _ => 0)))]) [0, 1] rfl
  refine vp_callSi (W.runV (As := [.int 0, .int number]) (rest := []) ⟨hx, hb, hml, hown, hts⟩ (c_holds l dC dI k h t0 t1 t2 t3 t4 t5 x6 x7 x8 0 number (zz_in (by decide))) (cwV 2 hts gc_boroughAt_c_holds rfl rfl rfl (by decide +kernel) ⟨Nat.le_of_ble_eq_true rfl, Nat.le_of_ble_eq_true rfl⟩) ⟨prR_blind, va_recv hK hPc (ci := 8) (q0 := 0) rfl rfl, fun U hU hW => ⟨rfl, prR_go hPc hK hU hW⟩⟩ rfl rfl hl.1 rfl (lv_room (Nat.le_of_ble_eq_true rfl)) dX8_boroughAt_3 ⟨by decide +kernel, by decide +kernel⟩) (fun r_1 er_1 => ?_)
  subst er_1
  refine W.eq (g2 := F0 m 6 ls [.int 0]) rfl ?_
  refine lv_if_eq (tgt := 18) hx hb dX8_boroughAt_6 (by decide) (fun _ => ?_) (fun c_2 => absurd (by decide) c_2)
  refine lv_null hx hb dX8_boroughAt_18 ?_
  exact W.aret (v := .null) hx hb hr (Or.inl ⟨_, rfl⟩) (Or.inl rfl) (fun t ht hW => ⟨none, rfl, rfl, ht⟩) (fun q h => absurd h List.not_mem_nil) dX8_boroughAt_19

def ws_c_yearAt : List Cond := .code yX8_yearAt cX8_yearAt 2 (some (.object "HeightFine$Year")) :: ([.methodLink RX8 76 yX8_holds, .instanceMethod yX8_holds, .selects RX8 yX8_holds yX8_holds, .initialized RX8, .code yX8_holds cX8_holds 3 (some .boolean), .fieldLink RX8 15 "HeightFine$Told" "counts" "[I"] ++ u_ws RX8 TX8 9)
set_option maxRecDepth 20000 in
theorem in_c_yearAt_8 : ∀ w ∈ u_ws RX8 TX8 9, w ∈ ws_c_yearAt := by decide +kernel
set_option maxRecDepth 20000 in
theorem gc_yearAt_c_holds : GoodIn ws_c_yearAt (wsV RX8 76 RX8 yX8_holds ws_c_holds) := goodIn_app (goodIn_of _ (by decide +kernel)) (goodIn_r _ [5, 6, 7, 8, 9, 10, 11, 12, 13, 14, 15] (by decide +kernel) (by decide +kernel))
set_option maxHeartbeats 4000000 in
set_option maxRecDepth 100000 in
theorem c_yearAt (l : Launch) (dC : Nat → ClassId) (dI : Nat → Nat → Nat) (k : Nat → ClassId) (h : Nat) (t0 : Nat) (t1 : Nat) (t2 : Nat) (t3 : Nat) (t4 : Nat) (t5 : Nat) (x6 : Int32) (x7 : Int32) (x8 : Int32) (number : Int32) : Met l yX8_yearAt ws_c_yearAt ({ frames := 1, cells := 0, slots := 0, locals := 22 }) (va_Pc [.ref h, .int number] (prR dC dI k [(h, .inr (8, [.ref t0, .ref t1, .ref t2, .ref t3, .ref t4, .ref t5, .int x6, .int x7, .int x8])), (t1, .inl (k 0, 4, .inl (fun _ => 0)))])) (va_Sq (fun r => r = none)) 0 0 (fun _ => False) := by
  refine Met.ofW (cc := cX8_yearAt) (maxL := 2) (ret := (some (.object "HeightFine$Year"))) (by decide) rfl ?_
  intro p e s m args below meth c s₁ B hml hv
  obtain ⟨rfl, hP, hK⟩ := hv
  have hx := B.exec
  have hb := B.bytes
  have hr := B.returns
  have hts := atoms_spec (ws := ws_c_yearAt) B.pre
  have hown : s.vm.findClass RX8 = some m.cls := findClass_of_methodNamed B.named
  have hi8 := in_c_yearAt_8
  have hP : va_P (dC, dI) vwCl [(h, .inr (8, [.ref t0, .ref t1, .ref t2, .ref t3, .ref t4, .ref t5, .int x6, .int x7, .int x8])), (t1, .inl (k 0, 4, .inl (fun _ => 0)))] s.heap := hP
  have hl := lv_entry ([.ref h, .int number]) (n := 2) (Nat.le_of_ble_eq_true rfl)
  rw [lg_entry_eq]
  generalize (lg_sl ([.ref h, .int number]) ++ List.replicate (2 - (lg_sl ([.ref h, .int number])).length) Slot.unset).toArray = ls at hl ⊢
  have hl : lv_has ls 2 [(0, .ref h), (1, .int number)] := hl
  refine lv_aload_n hx hb dX8_yearAt_0 rfl (lv_at hl 0 rfl) ?_
  refine lv_iconst (v := 1) hx hb dX8_yearAt_1 (by decide) ?_
  refine lv_iload_n hx hb dX8_yearAt_2 rfl (lv_at hl 1 rfl) ?_
  have hPc := hP.sub (ws' := [(h, .inr (8, [.ref t0, .ref t1, .ref t2, .ref t3, .ref t4, .ref t5, .int x6, .int x7, .int x8])), (t1, .inl (k 0, 4, .inl (fun _ => 0)))]) [0, 1] rfl
  refine vp_callSi (W.runV (As := [.int 1, .int number]) (rest := []) ⟨hx, hb, hml, hown, hts⟩ (c_holds l dC dI k h t0 t1 t2 t3 t4 t5 x6 x7 x8 1 number (zz_in (by decide))) (cwV 2 hts gc_yearAt_c_holds rfl rfl rfl (by decide +kernel) ⟨Nat.le_of_ble_eq_true rfl, Nat.le_of_ble_eq_true rfl⟩) ⟨prR_blind, va_recv hK hPc (ci := 8) (q0 := 0) rfl rfl, fun U hU hW => ⟨rfl, prR_go hPc hK hU hW⟩⟩ rfl rfl hl.1 rfl (lv_room (Nat.le_of_ble_eq_true rfl)) dX8_yearAt_3 ⟨by decide +kernel, by decide +kernel⟩) (fun r_1 er_1 => ?_)
  subst er_1
  refine W.eq (g2 := F0 m 6 ls [.int 0]) rfl ?_
  refine lv_if_eq (tgt := 18) hx hb dX8_yearAt_6 (by decide) (fun _ => ?_) (fun c_2 => absurd (by decide) c_2)
  refine lv_null hx hb dX8_yearAt_18 ?_
  exact W.aret (v := .null) hx hb hr (Or.inl ⟨_, rfl⟩) (Or.inl rfl) (fun t ht hW => ⟨none, rfl, rfl, ht⟩) (fun q h => absurd h List.not_mem_nil) dX8_yearAt_19

def ws_c_ledgerAt : List Cond := .code yX8_ledgerAt cX8_ledgerAt 2 (some (.object "HeightFine$Ledger")) :: ([.methodLink RX8 76 yX8_holds, .instanceMethod yX8_holds, .selects RX8 yX8_holds yX8_holds, .initialized RX8, .code yX8_holds cX8_holds 3 (some .boolean), .fieldLink RX8 15 "HeightFine$Told" "counts" "[I"] ++ u_ws RX8 TX8 9)
set_option maxRecDepth 20000 in
theorem in_c_ledgerAt_8 : ∀ w ∈ u_ws RX8 TX8 9, w ∈ ws_c_ledgerAt := by decide +kernel
set_option maxRecDepth 20000 in
theorem gc_ledgerAt_c_holds : GoodIn ws_c_ledgerAt (wsV RX8 76 RX8 yX8_holds ws_c_holds) := goodIn_app (goodIn_of _ (by decide +kernel)) (goodIn_r _ [5, 6, 7, 8, 9, 10, 11, 12, 13, 14, 15] (by decide +kernel) (by decide +kernel))
set_option maxHeartbeats 4000000 in
set_option maxRecDepth 100000 in
theorem c_ledgerAt (l : Launch) (dC : Nat → ClassId) (dI : Nat → Nat → Nat) (k : Nat → ClassId) (h : Nat) (t0 : Nat) (t1 : Nat) (t2 : Nat) (t3 : Nat) (t4 : Nat) (t5 : Nat) (x6 : Int32) (x7 : Int32) (x8 : Int32) (number : Int32) : Met l yX8_ledgerAt ws_c_ledgerAt ({ frames := 1, cells := 0, slots := 0, locals := 22 }) (va_Pc [.ref h, .int number] (prR dC dI k [(h, .inr (8, [.ref t0, .ref t1, .ref t2, .ref t3, .ref t4, .ref t5, .int x6, .int x7, .int x8])), (t1, .inl (k 0, 4, .inl (fun _ => 0)))])) (va_Sq (fun r => r = none)) 0 0 (fun _ => False) := by
  refine Met.ofW (cc := cX8_ledgerAt) (maxL := 2) (ret := (some (.object "HeightFine$Ledger"))) (by decide) rfl ?_
  intro p e s m args below meth c s₁ B hml hv
  obtain ⟨rfl, hP, hK⟩ := hv
  have hx := B.exec
  have hb := B.bytes
  have hr := B.returns
  have hts := atoms_spec (ws := ws_c_ledgerAt) B.pre
  have hown : s.vm.findClass RX8 = some m.cls := findClass_of_methodNamed B.named
  have hi8 := in_c_ledgerAt_8
  have hP : va_P (dC, dI) vwCl [(h, .inr (8, [.ref t0, .ref t1, .ref t2, .ref t3, .ref t4, .ref t5, .int x6, .int x7, .int x8])), (t1, .inl (k 0, 4, .inl (fun _ => 0)))] s.heap := hP
  have hl := lv_entry ([.ref h, .int number]) (n := 2) (Nat.le_of_ble_eq_true rfl)
  rw [lg_entry_eq]
  generalize (lg_sl ([.ref h, .int number]) ++ List.replicate (2 - (lg_sl ([.ref h, .int number])).length) Slot.unset).toArray = ls at hl ⊢
  have hl : lv_has ls 2 [(0, .ref h), (1, .int number)] := hl
  refine lv_aload_n hx hb dX8_ledgerAt_0 rfl (lv_at hl 0 rfl) ?_
  refine lv_iconst (v := 2) hx hb dX8_ledgerAt_1 (by decide) ?_
  refine lv_iload_n hx hb dX8_ledgerAt_2 rfl (lv_at hl 1 rfl) ?_
  have hPc := hP.sub (ws' := [(h, .inr (8, [.ref t0, .ref t1, .ref t2, .ref t3, .ref t4, .ref t5, .int x6, .int x7, .int x8])), (t1, .inl (k 0, 4, .inl (fun _ => 0)))]) [0, 1] rfl
  refine vp_callSi (W.runV (As := [.int 2, .int number]) (rest := []) ⟨hx, hb, hml, hown, hts⟩ (c_holds l dC dI k h t0 t1 t2 t3 t4 t5 x6 x7 x8 2 number (zz_in (by decide))) (cwV 2 hts gc_ledgerAt_c_holds rfl rfl rfl (by decide +kernel) ⟨Nat.le_of_ble_eq_true rfl, Nat.le_of_ble_eq_true rfl⟩) ⟨prR_blind, va_recv hK hPc (ci := 8) (q0 := 0) rfl rfl, fun U hU hW => ⟨rfl, prR_go hPc hK hU hW⟩⟩ rfl rfl hl.1 rfl (lv_room (Nat.le_of_ble_eq_true rfl)) dX8_ledgerAt_3 ⟨by decide +kernel, by decide +kernel⟩) (fun r_1 er_1 => ?_)
  subst er_1
  refine W.eq (g2 := F0 m 6 ls [.int 0]) rfl ?_
  refine lv_if_eq (tgt := 18) hx hb dX8_ledgerAt_6 (by decide) (fun _ => ?_) (fun c_2 => absurd (by decide) c_2)
  refine lv_null hx hb dX8_ledgerAt_18 ?_
  exact W.aret (v := .null) hx hb hr (Or.inl ⟨_, rfl⟩) (Or.inl rfl) (fun t ht hW => ⟨none, rfl, rfl, ht⟩) (fun q h => absurd h List.not_mem_nil) dX8_ledgerAt_19

def ws_c_sightAt : List Cond := .code yX8_sightAt cX8_sightAt 2 (some (.object "HeightFine$Sight")) :: ([.methodLink RX8 76 yX8_holds, .instanceMethod yX8_holds, .selects RX8 yX8_holds yX8_holds, .initialized RX8, .code yX8_holds cX8_holds 3 (some .boolean), .fieldLink RX8 15 "HeightFine$Told" "counts" "[I"] ++ u_ws RX8 TX8 9)
set_option maxRecDepth 20000 in
theorem in_c_sightAt_8 : ∀ w ∈ u_ws RX8 TX8 9, w ∈ ws_c_sightAt := by decide +kernel
set_option maxRecDepth 20000 in
theorem gc_sightAt_c_holds : GoodIn ws_c_sightAt (wsV RX8 76 RX8 yX8_holds ws_c_holds) := goodIn_app (goodIn_of _ (by decide +kernel)) (goodIn_r _ [5, 6, 7, 8, 9, 10, 11, 12, 13, 14, 15] (by decide +kernel) (by decide +kernel))
set_option maxHeartbeats 4000000 in
set_option maxRecDepth 100000 in
theorem c_sightAt (l : Launch) (dC : Nat → ClassId) (dI : Nat → Nat → Nat) (k : Nat → ClassId) (h : Nat) (t0 : Nat) (t1 : Nat) (t2 : Nat) (t3 : Nat) (t4 : Nat) (t5 : Nat) (x6 : Int32) (x7 : Int32) (x8 : Int32) (number : Int32) : Met l yX8_sightAt ws_c_sightAt ({ frames := 1, cells := 0, slots := 0, locals := 22 }) (va_Pc [.ref h, .int number] (prR dC dI k [(h, .inr (8, [.ref t0, .ref t1, .ref t2, .ref t3, .ref t4, .ref t5, .int x6, .int x7, .int x8])), (t1, .inl (k 0, 4, .inl (fun _ => 0)))])) (va_Sq (fun r => r = none)) 0 0 (fun _ => False) := by
  refine Met.ofW (cc := cX8_sightAt) (maxL := 2) (ret := (some (.object "HeightFine$Sight"))) (by decide) rfl ?_
  intro p e s m args below meth c s₁ B hml hv
  obtain ⟨rfl, hP, hK⟩ := hv
  have hx := B.exec
  have hb := B.bytes
  have hr := B.returns
  have hts := atoms_spec (ws := ws_c_sightAt) B.pre
  have hown : s.vm.findClass RX8 = some m.cls := findClass_of_methodNamed B.named
  have hi8 := in_c_sightAt_8
  have hP : va_P (dC, dI) vwCl [(h, .inr (8, [.ref t0, .ref t1, .ref t2, .ref t3, .ref t4, .ref t5, .int x6, .int x7, .int x8])), (t1, .inl (k 0, 4, .inl (fun _ => 0)))] s.heap := hP
  have hl := lv_entry ([.ref h, .int number]) (n := 2) (Nat.le_of_ble_eq_true rfl)
  rw [lg_entry_eq]
  generalize (lg_sl ([.ref h, .int number]) ++ List.replicate (2 - (lg_sl ([.ref h, .int number])).length) Slot.unset).toArray = ls at hl ⊢
  have hl : lv_has ls 2 [(0, .ref h), (1, .int number)] := hl
  refine lv_aload_n hx hb dX8_sightAt_0 rfl (lv_at hl 0 rfl) ?_
  refine lv_iconst (v := 3) hx hb dX8_sightAt_1 (by decide) ?_
  refine lv_iload_n hx hb dX8_sightAt_2 rfl (lv_at hl 1 rfl) ?_
  have hPc := hP.sub (ws' := [(h, .inr (8, [.ref t0, .ref t1, .ref t2, .ref t3, .ref t4, .ref t5, .int x6, .int x7, .int x8])), (t1, .inl (k 0, 4, .inl (fun _ => 0)))]) [0, 1] rfl
  refine vp_callSi (W.runV (As := [.int 3, .int number]) (rest := []) ⟨hx, hb, hml, hown, hts⟩ (c_holds l dC dI k h t0 t1 t2 t3 t4 t5 x6 x7 x8 3 number (zz_in (by decide))) (cwV 2 hts gc_sightAt_c_holds rfl rfl rfl (by decide +kernel) ⟨Nat.le_of_ble_eq_true rfl, Nat.le_of_ble_eq_true rfl⟩) ⟨prR_blind, va_recv hK hPc (ci := 8) (q0 := 0) rfl rfl, fun U hU hW => ⟨rfl, prR_go hPc hK hU hW⟩⟩ rfl rfl hl.1 rfl (lv_room (Nat.le_of_ble_eq_true rfl)) dX8_sightAt_3 ⟨by decide +kernel, by decide +kernel⟩) (fun r_1 er_1 => ?_)
  subst er_1
  refine W.eq (g2 := F0 m 6 ls [.int 0]) rfl ?_
  refine lv_if_eq (tgt := 18) hx hb dX8_sightAt_6 (by decide) (fun _ => ?_) (fun c_2 => absurd (by decide) c_2)
  refine lv_null hx hb dX8_sightAt_18 ?_
  exact W.aret (v := .null) hx hb hr (Or.inl ⟨_, rfl⟩) (Or.inl rfl) (fun t ht hW => ⟨none, rfl, rfl, ht⟩) (fun q h => absurd h List.not_mem_nil) dX8_sightAt_19
