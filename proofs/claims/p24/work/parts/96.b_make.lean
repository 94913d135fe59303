
def ws_c_fill : List Cond := .code yJ7_fill_53178 cJ7_fill_53178 4 none :: ([])
set_option maxHeartbeats 4000000 in
set_option maxRecDepth 100000 in
theorem lp_fill {p : Program} {l : Launch} {e : Env} {R : Room} {s : State} {m : MethodId} {args : Array Value} {below : List Frame} {meth : Method} {c : Code} {cells slots : Nat} {Q : State → Prop} {A : Nat → Prop} {dC : Nat → ClassId} {dI : Nat → Nat → Nat} {k : Nat → ClassId} (a : Nat) (N : Nat) (v : Int32) (hN : N < 2 ^ 31) (hx : p.tables.exec = Jvm.exec) (hb : c.code = cJ7_fill_53178) (hml : c.maxLocals = 4) (hts : ∀ w ∈ ws_c_fill, w.before args s = true) (hown : s.vm.findClass RJ7 = some m.cls) (hK : va_K (dC, dI) vwCl (tyL k) s) (hA : ∀ q : Nat, s.heap.size ≤ q → A q) (hRc : cells ≤ R.cells) (hRs : slots ≤ R.slots)
    (kx : ∀ (f : Nat → Int32) (H : Heap) (locs : List Loc) (ls : Array Slot), va_P (dC, dI) vwCl [(a, .inl (k 0, N, .inl f))] H → va_D A [(a, .inl (k 0, N, .inl f))] → va_S A s.heap H locs → lv_has ls 4 [(2, .int (nI N)), (3, .int (nI N)), (0, .ref a), (1, .int v)] → W p l e R s m args below meth c H locs cells slots Q (F0 m 20 ls [])) :
    ∀ (n j : Nat) (f : Nat → Int32) (H : Heap) (locs : List Loc) (ls : Array Slot), j + n = N → va_P (dC, dI) vwCl [(a, .inl (k 0, N, .inl f))] H → va_D A [(a, .inl (k 0, N, .inl f))] → va_S A s.heap H locs → lv_has ls 4 [(2, .int (nI j)), (3, .int (nI N)), (0, .ref a), (1, .int v)] → W p l e R s m args below meth c H locs cells slots Q (F0 m 5 ls []) := by
  intro n
  induction n with
  | zero =>
    intro j f H locs ls hj hP hD hS hl
    have hj2 : N = j := by omega
    subst hj2
    refine lv_iload_n hx hb dJ7_fill_53178_5 rfl (lv_at hl 0 rfl) ?_
    refine lv_iload_n hx hb dJ7_fill_53178_6 rfl (lv_at hl 1 rfl) ?_
    refine lv_icmp_ge (tgt := 20) hx hb dJ7_fill_53178_7 (by decide) (fun _ => ?_) (fun c_1 => absurd (Int32.le_refl _) c_1)
    exact kx (f) H locs ls hP hD hS (lv_sub hl [0, 1, 2, 3] rfl)
  | succ n ih =>
    intro j f H locs ls hj hP hD hS hl
    refine lv_iload_n hx hb dJ7_fill_53178_5 rfl (lv_at hl 0 rfl) ?_
    refine lv_iload_n hx hb dJ7_fill_53178_6 rfl (lv_at hl 1 rfl) ?_
    refine lv_icmp_ge (tgt := 20) hx hb dJ7_fill_53178_7 (by decide) (fun c_1 => absurd c_1 (nI_ge (by omega) hN)) (fun _ => ?_)
    refine lv_aload_n hx hb dJ7_fill_53178_10 rfl (lv_at hl 2 rfl) ?_
    refine lv_iload_n hx hb dJ7_fill_53178_11 rfl (lv_at hl 0 rfl) ?_
    refine lv_iload_n hx hb dJ7_fill_53178_12 rfl (lv_at hl 3 rfl) ?_
    refine va_iast hx hb hK hP hD hS 0 0 rfl rfl (i := nI j) (x := v) (vp_in_nI (by omega) hN) dJ7_fill_53178_13 (fun H locs hP hD hS => ?_)
    have hP : va_P (dC, dI) vwCl [(a, .inl (k 0, N, .inl (upd f (nI j).toNatClampNeg v)))] H := hP
    have hD : va_D A [(a, .inl (k 0, N, .inl (upd f (nI j).toNatClampNeg v)))] := hD
    refine lv_iinc (v := nI (j + 1)) (lv' := [(2, .int (nI (j + 1))), (3, .int (nI N)), (0, .ref a), (1, .int v)]) hx hb dJ7_fill_53178_14 hl (k := 0) rfl (nI_1 j) (by decide) rfl (fun ls hl => ?_)
    refine lv_goto (tgt := 5) hx hb dJ7_fill_53178_17 (by decide) ?_
    exact ih (j + 1) ((upd f (nI j).toNatClampNeg v)) H locs ls (by omega) hP hD hS (lv_sub hl [0, 1, 2, 3] rfl)
set_option maxHeartbeats 4000000 in
set_option maxRecDepth 100000 in
theorem c_fill (l : Launch) (dC : Nat → ClassId) (dI : Nat → Nat → Nat) (k : Nat → ClassId) (a : Nat) (N : Nat) (f : Nat → Int32) (v : Int32) (hN : N < 2 ^ 31) (sz : Nat) : Met l yJ7_fill_53178 ws_c_fill ({ frames := 0, cells := 0, slots := 0, locals := 0 }) (va_Pc [.ref a, .int v] (prW dC dI k [(a, .inl (k 0, N, .inl f))] sz)) (va_Qv (fun (_ : (Nat → Int32)) => True) (fun (g : (Nat → Int32)) (t : State) => po (dC, dI) (va_A [(a, .inl (k 0, N, .inl f))] sz) [(a, .inl (k 0, N, .inl g))] t) (va_A [(a, .inl (k 0, N, .inl f))] sz)) 0 0 (va_A [(a, .inl (k 0, N, .inl f))] sz) := by
  refine Met.ofW (cc := cJ7_fill_53178) (maxL := 4) (ret := none) (by decide) rfl ?_
  intro p e s m args below meth c s₁ B hml hv
  obtain ⟨rfl, hsz, hP, hK, hD0⟩ := hv
  have hx := B.exec
  have hb := B.bytes
  have hr := B.returns
  have hts := atoms_spec (ws := ws_c_fill) B.pre
  have hown : s.vm.findClass RJ7 = some m.cls := findClass_of_methodNamed B.named
  subst hsz
  have hD := hD0.self (sz := s.heap.size)
  generalize hAe : va_A [(a, .inl (k 0, N, .inl f))] s.heap.size = A at hD ⊢
  have hA : ∀ q : Nat, s.heap.size ≤ q → A q := fun q h => by rw [← hAe]; exact Or.inr h
  have hS : va_S A s.heap s.heap [] := va_S.rf
  have hP : va_P (dC, dI) vwCl [(a, .inl (k 0, N, .inl f))] s.heap := hP
  have hl := lv_entry ([.ref a, .int v]) (n := 4) (Nat.le_of_ble_eq_true rfl)
  rw [lg_entry_eq]
  generalize (lg_sl ([.ref a, .int v]) ++ List.replicate (4 - (lg_sl ([.ref a, .int v])).length) Slot.unset).toArray = ls at hl ⊢
  have hl : lv_has ls 4 [(0, .ref a), (1, .int v)] := hl
  refine lv_iconst (v := 0) hx hb dJ7_fill_53178_0 (by decide) ?_
  refine lv_istore_n (lv' := [(2, .int 0), (0, .ref a), (1, .int v)]) hx hb dJ7_fill_53178_1 rfl hl (by decide) rfl (fun ls hl => ?_)
  refine lv_aload_n hx hb dJ7_fill_53178_2 rfl (lv_at hl 1 rfl) ?_
  refine va_alen (v := nI N) hx hb hK hP 0 0 rfl rfl rfl dJ7_fill_53178_3 ?_
  refine lv_istore_n (lv' := [(3, .int (nI N)), (2, .int 0), (0, .ref a), (1, .int v)]) hx hb dJ7_fill_53178_4 rfl hl (by decide) rfl (fun ls hl => ?_)
  refine lp_fill a N v hN hx hb hml hts hown hK hA (by decide) (by decide) (fun f_1 H locs ls hP hD hS hl => ?_) N 0 (f) s.heap [] ls (by omega) hP hD hS (lv_sub hl [1, 0, 2, 3] rfl)
  have hP : va_P (dC, dI) vwCl [(a, .inl (k 0, N, .inl f_1))] H := hP
  have hD : va_D A [(a, .inl (k 0, N, .inl f_1))] := hD
  have hl : lv_has ls 4 [(2, .int (nI N)), (3, .int (nI N)), (0, .ref a), (1, .int v)] := hl
  have hP9 : va_P (dC, dI) vwCl [(a, .inl (k 0, N, .inl f_1))] H := hP.sub (ws' := [(a, .inl (k 0, N, .inl f_1))]) [0] rfl
  have hD9 : va_D A [(a, .inl (k 0, N, .inl f_1))] := hD.sub (ws' := [(a, .inl (k 0, N, .inl f_1))]) [0] (by decide) rfl
  refine W.widen (k := 0) (n := 0) (by decide +kernel) (by decide +kernel) ?_
  exact W.vret hx hb hr (fun t ht hW => ⟨⟨(f_1), rfl, trivial, by rw [ht]; exact hP9, hD9⟩, hS.F ht⟩) hS.2.2 dJ7_fill_53178_20

def ws_c_wipe : List Cond := .code yX0_wipe cX0_wipe 1 none :: ([.fieldLink RX0 9 "HeightFine$Borough" "inches" "[I", .methodLink RX0 36 yJ7_fill_53178, .static yJ7_fill_53178, .initialized RJ7, .code yJ7_fill_53178 cJ7_fill_53178 4 none, .fieldLink RX0 15 "HeightFine$Borough" "parent" "[I", .fieldLink RX0 18 "HeightFine$Borough" "fine" "[I", .methodLink RX0 45 arraycopyName, .native arraycopyName, .static arraycopyName, .initialized "java/lang/System", .fieldLink RX0 21 "HeightFine$Borough" "wish" "[I", .fieldLink RX0 24 "HeightFine$Borough" "top" "[I", .fieldLink RX0 27 "HeightFine$Borough" "pass" "[I", .fieldLink RX0 30 "HeightFine$Borough" "reach" "[I", .fieldLink RX0 51 "HeightFine$Borough" "people" "I", .fieldLink RX0 55 "HeightFine$Borough" "poor" "I", .fieldLink RX0 58 "HeightFine$Borough" "caught" "I", .fieldLink RX0 61 "HeightFine$Borough" "doors" "I", .fieldLink RX0 64 "HeightFine$Borough" "works" "I"] ++ u_ws RX0 TX0 12)
set_option maxRecDepth 20000 in
theorem in_c_wipe_0 : ∀ w ∈ u_ws RX0 TX0 12, w ∈ ws_c_wipe := by decide +kernel
set_option maxRecDepth 20000 in
theorem gc_wipe_c_fill : GoodIn ws_c_wipe (va_wsS RX0 36 yJ7_fill_53178 ws_c_fill) := goodIn_app (goodIn_of _ (by decide +kernel)) (goodIn_r _ [5] (by decide +kernel) (by decide +kernel))
set_option maxHeartbeats 4000000 in
set_option maxRecDepth 100000 in
theorem c_wipe (l : Launch) (dC : Nat → ClassId) (dI : Nat → Nat → Nat) (k : Nat → ClassId) (bh : Nat) (b1 : Nat) (b2 : Nat) (b3 : Nat) (b4 : Nat) (b5 : Nat) (b6 : Nat) (b7 : Nat) (bf1 : Nat → Int32) (bf2 : Nat → Int32) (bf3 : Nat → Int32) (bf4 : Nat → Int32) (bf5 : Nat → Int32) (bf6 : Nat → Int32) (bf7 : Nat → Int32) (bu0 : Int32) (bu1 : Int32) (bu2 : Int32) (bu3 : Int32) (bu4 : Int32) (tF : Nat) (sz : Nat) : Met l yX0_wipe ws_c_wipe ({ frames := 1, cells := 0, slots := 0, locals := 68 }) (va_Pc [.ref bh] (prF dC dI k [(bh, .inr (0, [.ref b1, .ref b2, .ref b3, .ref b4, .ref b5, .ref b6, .ref b7, .int bu0, .int bu1, .int bu2, .int bu3, .int bu4])), (b1, .inl (k 0, 8, .inl bf1)), (b2, .inl (k 0, 8, .inl bf2)), (b3, .inl (k 0, 4, .inl bf3)), (b4, .inl (k 0, 32, .inl bf4)), (b5, .inl (k 0, 6, .inl bf5)), (b6, .inl (k 0, 6, .inl bf6)), (b7, .inl (k 0, 6, .inl bf7))] tF sz)) (va_Qv (fun (g : (Nat → Nat → Int32)) => FGv (g 3)) (fun (g : (Nat → Nat → Int32)) (t : State) => po (dC, dI) (va_A [(bh, .inr (0, [.ref b1, .ref b2, .ref b3, .ref b4, .ref b5, .ref b6, .ref b7, .int bu0, .int bu1, .int bu2, .int bu3, .int bu4])), (b1, .inl (k 0, 8, .inl bf1)), (b2, .inl (k 0, 8, .inl bf2)), (b3, .inl (k 0, 4, .inl bf3)), (b4, .inl (k 0, 32, .inl bf4)), (b5, .inl (k 0, 6, .inl bf5)), (b6, .inl (k 0, 6, .inl bf6)), (b7, .inl (k 0, 6, .inl bf7))] sz) [(bh, .inr (0, [.ref b1, .ref b2, .ref b3, .ref b4, .ref b5, .ref b6, .ref b7, .int 0, .int 0, .int 5, .int 0, .int 0])), (b1, .inl (k 0, 8, .inl (g 1))), (b2, .inl (k 0, 8, .inl (g 2))), (b3, .inl (k 0, 4, .inl (g 3))), (b4, .inl (k 0, 32, .inl (g 4))), (b5, .inl (k 0, 6, .inl (g 5))), (b6, .inl (k 0, 6, .inl (g 6))), (b7, .inl (k 0, 6, .inl (g 7)))] t) (va_A [(bh, .inr (0, [.ref b1, .ref b2, .ref b3, .ref b4, .ref b5, .ref b6, .ref b7, .int bu0, .int bu1, .int bu2, .int bu3, .int bu4])), (b1, .inl (k 0, 8, .inl bf1)), (b2, .inl (k 0, 8, .inl bf2)), (b3, .inl (k 0, 4, .inl bf3)), (b4, .inl (k 0, 32, .inl bf4)), (b5, .inl (k 0, 6, .inl bf5)), (b6, .inl (k 0, 6, .inl bf6)), (b7, .inl (k 0, 6, .inl bf7))] sz)) 0 0 (va_A [(bh, .inr (0, [.ref b1, .ref b2, .ref b3, .ref b4, .ref b5, .ref b6, .ref b7, .int bu0, .int bu1, .int bu2, .int bu3, .int bu4])), (b1, .inl (k 0, 8, .inl bf1)), (b2, .inl (k 0, 8, .inl bf2)), (b3, .inl (k 0, 4, .inl bf3)), (b4, .inl (k 0, 32, .inl bf4)), (b5, .inl (k 0, 6, .inl bf5)), (b6, .inl (k 0, 6, .inl bf6)), (b7, .inl (k 0, 6, .inl bf7))] sz) := by
  refine Met.ofW (cc := cX0_wipe) (maxL := 1) (ret := none) (by decide) rfl ?_
  intro p e s m args below meth c s₁ B hml hv
  obtain ⟨rfl, hsz, hP, hK, hD0, hE⟩ := hv
  have hx := B.exec
  have hb := B.bytes
  have hr := B.returns
  have hts := atoms_spec (ws := ws_c_wipe) B.pre
  have hown : s.vm.findClass RX0 = some m.cls := findClass_of_methodNamed B.named
  have hi0 := in_c_wipe_0
  subst hsz
  have hD := hD0.self (sz := s.heap.size)
  generalize hAe : va_A [(bh, .inr (0, [.ref b1, .ref b2, .ref b3, .ref b4, .ref b5, .ref b6, .ref b7, .int bu0, .int bu1, .int bu2, .int bu3, .int bu4])), (b1, .inl (k 0, 8, .inl bf1)), (b2, .inl (k 0, 8, .inl bf2)), (b3, .inl (k 0, 4, .inl bf3)), (b4, .inl (k 0, 32, .inl bf4)), (b5, .inl (k 0, 6, .inl bf5)), (b6, .inl (k 0, 6, .inl bf6)), (b7, .inl (k 0, 6, .inl bf7))] s.heap.size = A at hD hE ⊢
  have hA : ∀ q : Nat, s.heap.size ≤ q → A q := fun q h => by rw [← hAe]; exact Or.inr h
  have hS : va_S A s.heap s.heap [] := va_S.rf
  have hP : va_P (dC, dI) vwCl [(bh, .inr (0, [.ref b1, .ref b2, .ref b3, .ref b4, .ref b5, .ref b6, .ref b7, .int bu0, .int bu1, .int bu2, .int bu3, .int bu4])), (b1, .inl (k 0, 8, .inl bf1)), (b2, .inl (k 0, 8, .inl bf2)), (b3, .inl (k 0, 4, .inl bf3)), (b4, .inl (k 0, 32, .inl bf4)), (b5, .inl (k 0, 6, .inl bf5)), (b6, .inl (k 0, 6, .inl bf6)), (b7, .inl (k 0, 6, .inl bf7))] s.heap := hP
  have hl := lv_entry ([.ref bh]) (n := 1) (Nat.le_of_ble_eq_true rfl)
  rw [lg_entry_eq]
  generalize (lg_sl ([.ref bh]) ++ List.replicate (1 - (lg_sl ([.ref bh])).length) Slot.unset).toArray = ls at hl ⊢
  have hl : lv_has ls 1 [(0, .ref bh)] := hl
  refine lv_aload_n hx hb dX0_wipe_0 rfl (lv_at hl 0 rfl) ?_
  refine va_get (D := (dC, dI)) (ci := 0) (v := .ref b1) (C := RX0) (T := TX0) (N := 12) hx hb hts hi0 hown hK hP 0 rfl rfl 0 (by decide) (hts (.fieldLink RX0 9 "HeightFine$Borough" "inches" "[I") (by decide +kernel)) (fun _ h9 => h9) rfl dX0_wipe_1 ?_
  refine lv_iconst (v := 0) hx hb dX0_wipe_4 (by decide) ?_
  have hPc := hP.sub (ws' := [(b1, .inl (k 0, 8, .inl bf1))]) [1] rfl
  have hDc := hD.sub (ws' := [(b1, .inl (k 0, 8, .inl bf1))]) [1] (by decide) rfl
  have hFc := va_free (wc := [(b1, .inl (k 0, 8, .inl bf1))]) hD hS hA [1] rfl
  refine va_callv (va_runS (As := [.ref b1, .int 0]) (rest := []) ⟨hx, hb, hml, hown, hts⟩ (c_fill l dC dI k b1 8 bf1 0 (by decide) s.heap.size) (va_cwS 2 hts gc_wipe_c_fill rfl rfl rfl (by decide +kernel) ⟨Nat.le_of_ble_eq_true rfl, Nat.le_of_ble_eq_true rfl⟩) ⟨prW_blind, fun U hU hW => ⟨rfl, prW_go hPc hDc hK hU hW⟩⟩ rfl rfl hl.1 rfl (lv_room (Nat.le_of_ble_eq_true rfl)) dX0_wipe_5 ⟨by decide +kernel, by decide +kernel⟩) hS (fun q _ h => hFc q h) hFc (fun u t H1 locs ht hvm hw hB hz1 hk1 hS => ?_)
  obtain ⟨g_1, rfl⟩ : ∃ z, z = u := ⟨_, rfl⟩
  obtain ⟨hP1, hD1⟩ := hB
  rw [ht] at hP1
  obtain ⟨hP, hD⟩ := va_join (wr := [(bh, .inr (0, [.ref b1, .ref b2, .ref b3, .ref b4, .ref b5, .ref b6, .ref b7, .int bu0, .int bu1, .int bu2, .int bu3, .int bu4])), (b2, .inl (k 0, 8, .inl bf2)), (b3, .inl (k 0, 4, .inl bf3)), (b4, .inl (k 0, 32, .inl bf4)), (b5, .inl (k 0, 6, .inl bf5)), (b6, .inl (k 0, 6, .inl bf6)), (b7, .inl (k 0, 6, .inl bf7))]) (w1 := [(b1, .inl (k 0, 8, .inl g_1))]) hP hD [1] [0, 2, 3, 4, 5, 6, 7] rfl rfl (by decide) (by decide) hk1 hFc hP1 hD1
  clear hk1 hz1 ht hPc hDc hP1 hD1 hvm
  generalize H1 = H at hP hS ⊢
  have hP : va_P (dC, dI) vwCl [(bh, .inr (0, [.ref b1, .ref b2, .ref b3, .ref b4, .ref b5, .ref b6, .ref b7, .int bu0, .int bu1, .int bu2, .int bu3, .int bu4])), (b2, .inl (k 0, 8, .inl bf2)), (b3, .inl (k 0, 4, .inl bf3)), (b4, .inl (k 0, 32, .inl bf4)), (b5, .inl (k 0, 6, .inl bf5)), (b6, .inl (k 0, 6, .inl bf6)), (b7, .inl (k 0, 6, .inl bf7)), (b1, .inl (k 0, 8, .inl g_1))] H := hP
  have hD : va_D A [(bh, .inr (0, [.ref b1, .ref b2, .ref b3, .ref b4, .ref b5, .ref b6, .ref b7, .int bu0, .int bu1, .int bu2, .int bu3, .int bu4])), (b2, .inl (k 0, 8, .inl bf2)), (b3, .inl (k 0, 4, .inl bf3)), (b4, .inl (k 0, 32, .inl bf4)), (b5, .inl (k 0, 6, .inl bf5)), (b6, .inl (k 0, 6, .inl bf6)), (b7, .inl (k 0, 6, .inl bf7)), (b1, .inl (k 0, 8, .inl g_1))] := hD
  refine lv_aload_n hx hb dX0_wipe_8 rfl (lv_at hl 0 rfl) ?_
  refine va_get (D := (dC, dI)) (ci := 0) (v := .ref b2) (C := RX0) (T := TX0) (N := 12) hx hb hts hi0 hown hK hP 0 rfl rfl 1 (by decide) (hts (.fieldLink RX0 15 "HeightFine$Borough" "parent" "[I") (by decide +kernel)) (fun _ h9 => h9) rfl dX0_wipe_9 ?_
  refine lv_iconst (v := (-1)) hx hb dX0_wipe_12 (by decide) ?_
  have hPc := hP.sub (ws' := [(b2, .inl (k 0, 8, .inl bf2))]) [1] rfl
  have hDc := hD.sub (ws' := [(b2, .inl (k 0, 8, .inl bf2))]) [1] (by decide) rfl
  have hFc := va_free (wc := [(b2, .inl (k 0, 8, .inl bf2))]) hD hS hA [1] rfl
  refine va_callv (va_runS (As := [.ref b2, .int (-1)]) (rest := []) ⟨hx, hb, hml, hown, hts⟩ (c_fill l dC dI k b2 8 bf2 (-1) (by decide) H.size) (va_cwS 2 hts gc_wipe_c_fill rfl rfl rfl (by decide +kernel) ⟨Nat.le_of_ble_eq_true rfl, Nat.le_of_ble_eq_true rfl⟩) ⟨prW_blind, fun U hU hW => ⟨rfl, prW_go hPc hDc hK hU hW⟩⟩ rfl rfl hl.1 rfl (lv_room (Nat.le_of_ble_eq_true rfl)) dX0_wipe_13 ⟨by decide +kernel, by decide +kernel⟩) hS (fun q _ h => hFc q h) hFc (fun u t H1 locs ht hvm hw hB hz1 hk1 hS => ?_)
  obtain ⟨g_2, rfl⟩ : ∃ z, z = u := ⟨_, rfl⟩
  obtain ⟨hP1, hD1⟩ := hB
  rw [ht] at hP1
  obtain ⟨hP, hD⟩ := va_join (wr := [(bh, .inr (0, [.ref b1, .ref b2, .ref b3, .ref b4, .ref b5, .ref b6, .ref b7, .int bu0, .int bu1, .int bu2, .int bu3, .int bu4])), (b3, .inl (k 0, 4, .inl bf3)), (b4, .inl (k 0, 32, .inl bf4)), (b5, .inl (k 0, 6, .inl bf5)), (b6, .inl (k 0, 6, .inl bf6)), (b7, .inl (k 0, 6, .inl bf7)), (b1, .inl (k 0, 8, .inl g_1))]) (w1 := [(b2, .inl (k 0, 8, .inl g_2))]) hP hD [1] [0, 2, 3, 4, 5, 6, 7] rfl rfl (by decide) (by decide) hk1 hFc hP1 hD1
  clear hk1 hz1 ht hPc hDc hP1 hD1 hvm
  generalize H1 = H at hP hS ⊢
  have hP : va_P (dC, dI) vwCl [(bh, .inr (0, [.ref b1, .ref b2, .ref b3, .ref b4, .ref b5, .ref b6, .ref b7, .int bu0, .int bu1, .int bu2, .int bu3, .int bu4])), (b3, .inl (k 0, 4, .inl bf3)), (b4, .inl (k 0, 32, .inl bf4)), (b5, .inl (k 0, 6, .inl bf5)), (b6, .inl (k 0, 6, .inl bf6)), (b7, .inl (k 0, 6, .inl bf7)), (b1, .inl (k 0, 8, .inl g_1)), (b2, .inl (k 0, 8, .inl g_2))] H := hP
  have hD : va_D A [(bh, .inr (0, [.ref b1, .ref b2, .ref b3, .ref b4, .ref b5, .ref b6, .ref b7, .int bu0, .int bu1, .int bu2, .int bu3, .int bu4])), (b3, .inl (k 0, 4, .inl bf3)), (b4, .inl (k 0, 32, .inl bf4)), (b5, .inl (k 0, 6, .inl bf5)), (b6, .inl (k 0, 6, .inl bf6)), (b7, .inl (k 0, 6, .inl bf7)), (b1, .inl (k 0, 8, .inl g_1)), (b2, .inl (k 0, 8, .inl g_2))] := hD
  refine va_getsN hx hb hE.2.1 hS hown (va_Nw.use rfl (evN_ff hE.1)) (fun _ h9 => h9) dX0_wipe_16 ?_
  refine lv_iconst (v := 0) hx hb dX0_wipe_19 (by decide) ?_
  refine lv_aload_n hx hb dX0_wipe_20 rfl (lv_at hl 0 rfl) ?_
  refine va_get (D := (dC, dI)) (ci := 0) (v := .ref b3) (C := RX0) (T := TX0) (N := 12) hx hb hts hi0 hown hK hP 0 rfl rfl 2 (by decide) (hts (.fieldLink RX0 18 "HeightFine$Borough" "fine" "[I") (by decide +kernel)) (fun _ h9 => h9) rfl dX0_wipe_21 ?_
  refine lv_iconst (v := 0) hx hb dX0_wipe_24 (by decide) ?_
  refine lv_iconst (v := 4) hx hb dX0_wipe_25 (by decide) ?_
  refine va_copyx hx hb (by rw [hml]; exact hl.1.symm) hown (hts (.methodLink RX0 45 arraycopyName) (by decide +kernel)) (hts (.native arraycopyName) (by decide +kernel)) (hts (.static arraycopyName) (by decide +kernel)) (hts (.initialized "java/lang/System") (by decide +kernel)) hK hP hD hS hE.2.2.1 hE.2.2.2.1 hE.2.2.2.2 1 0 rfl rfl (sp := 0) (dp := 0) (n := 4) (by decide) (by decide) (by decide) (by decide) (by decide) (by decide) (by decide) dX0_wipe_26 (fun H locs hP hD hS => ?_)
  obtain ⟨f_3, hff_f_3, hP, hD⟩ := zz_anyf (FGv_c _) hP hD
  have hP : va_P (dC, dI) vwCl [(bh, .inr (0, [.ref b1, .ref b2, .ref b3, .ref b4, .ref b5, .ref b6, .ref b7, .int bu0, .int bu1, .int bu2, .int bu3, .int bu4])), (b3, .inl (k 0, 4, .inl f_3)), (b4, .inl (k 0, 32, .inl bf4)), (b5, .inl (k 0, 6, .inl bf5)), (b6, .inl (k 0, 6, .inl bf6)), (b7, .inl (k 0, 6, .inl bf7)), (b1, .inl (k 0, 8, .inl g_1)), (b2, .inl (k 0, 8, .inl g_2))] H := hP
  have hD : va_D A [(bh, .inr (0, [.ref b1, .ref b2, .ref b3, .ref b4, .ref b5, .ref b6, .ref b7, .int bu0, .int bu1, .int bu2, .int bu3, .int bu4])), (b3, .inl (k 0, 4, .inl f_3)), (b4, .inl (k 0, 32, .inl bf4)), (b5, .inl (k 0, 6, .inl bf5)), (b6, .inl (k 0, 6, .inl bf6)), (b7, .inl (k 0, 6, .inl bf7)), (b1, .inl (k 0, 8, .inl g_1)), (b2, .inl (k 0, 8, .inl g_2))] := hD
  refine lv_aload_n hx hb dX0_wipe_29 rfl (lv_at hl 0 rfl) ?_
  refine va_get (D := (dC, dI)) (ci := 0) (v := .ref b4) (C := RX0) (T := TX0) (N := 12) hx hb hts hi0 hown hK hP 0 rfl rfl 3 (by decide) (hts (.fieldLink RX0 21 "HeightFine$Borough" "wish" "[I") (by decide +kernel)) (fun _ h9 => h9) rfl dX0_wipe_30 ?_
  refine lv_iconst (v := 0) hx hb dX0_wipe_33 (by decide) ?_
  have hPc := hP.sub (ws' := [(b4, .inl (k 0, 32, .inl bf4))]) [2] rfl
  have hDc := hD.sub (ws' := [(b4, .inl (k 0, 32, .inl bf4))]) [2] (by decide) rfl
  have hFc := va_free (wc := [(b4, .inl (k 0, 32, .inl bf4))]) hD hS hA [2] rfl
  refine va_callv (va_runS (As := [.ref b4, .int 0]) (rest := []) ⟨hx, hb, hml, hown, hts⟩ (c_fill l dC dI k b4 32 bf4 0 (by decide) H.size) (va_cwS 2 hts gc_wipe_c_fill rfl rfl rfl (by decide +kernel) ⟨Nat.le_of_ble_eq_true rfl, Nat.le_of_ble_eq_true rfl⟩) ⟨prW_blind, fun U hU hW => ⟨rfl, prW_go hPc hDc hK hU hW⟩⟩ rfl rfl hl.1 rfl (lv_room (Nat.le_of_ble_eq_true rfl)) dX0_wipe_34 ⟨by decide +kernel, by decide +kernel⟩) hS (fun q _ h => hFc q h) hFc (fun u t H1 locs ht hvm hw hB hz1 hk1 hS => ?_)
  obtain ⟨g_4, rfl⟩ : ∃ z, z = u := ⟨_, rfl⟩
  obtain ⟨hP1, hD1⟩ := hB
  rw [ht] at hP1
  obtain ⟨hP, hD⟩ := va_join (wr := [(bh, .inr (0, [.ref b1, .ref b2, .ref b3, .ref b4, .ref b5, .ref b6, .ref b7, .int bu0, .int bu1, .int bu2, .int bu3, .int bu4])), (b3, .inl (k 0, 4, .inl f_3)), (b5, .inl (k 0, 6, .inl bf5)), (b6, .inl (k 0, 6, .inl bf6)), (b7, .inl (k 0, 6, .inl bf7)), (b1, .inl (k 0, 8, .inl g_1)), (b2, .inl (k 0, 8, .inl g_2))]) (w1 := [(b4, .inl (k 0, 32, .inl g_4))]) hP hD [2] [0, 1, 3, 4, 5, 6, 7] rfl rfl (by decide) (by decide) hk1 hFc hP1 hD1
  clear hk1 hz1 ht hPc hDc hP1 hD1 hvm
  generalize H1 = H at hP hS ⊢
  have hP : va_P (dC, dI) vwCl [(bh, .inr (0, [.ref b1, .ref b2, .ref b3, .ref b4, .ref b5, .ref b6, .ref b7, .int bu0, .int bu1, .int bu2, .int bu3, .int bu4])), (b3, .inl (k 0, 4, .inl f_3)), (b5, .inl (k 0, 6, .inl bf5)), (b6, .inl (k 0, 6, .inl bf6)), (b7, .inl (k 0, 6, .inl bf7)), (b1, .inl (k 0, 8, .inl g_1)), (b2, .inl (k 0, 8, .inl g_2)), (b4, .inl (k 0, 32, .inl g_4))] H := hP
  have hD : va_D A [(bh, .inr (0, [.ref b1, .ref b2, .ref b3, .ref b4, .ref b5, .ref b6, .ref b7, .int bu0, .int bu1, .int bu2, .int bu3, .int bu4])), (b3, .inl (k 0, 4, .inl f_3)), (b5, .inl (k 0, 6, .inl bf5)), (b6, .inl (k 0, 6, .inl bf6)), (b7, .inl (k 0, 6, .inl bf7)), (b1, .inl (k 0, 8, .inl g_1)), (b2, .inl (k 0, 8, .inl g_2)), (b4, .inl (k 0, 32, .inl g_4))] := hD
  refine lv_aload_n hx hb dX0_wipe_37 rfl (lv_at hl 0 rfl) ?_
  refine va_get (D := (dC, dI)) (ci := 0) (v := .ref b5) (C := RX0) (T := TX0) (N := 12) hx hb hts hi0 hown hK hP 0 rfl rfl 4 (by decide) (hts (.fieldLink RX0 24 "HeightFine$Borough" "top" "[I") (by decide +kernel)) (fun _ h9 => h9) rfl dX0_wipe_38 ?_
  refine lv_iconst (v := 0) hx hb dX0_wipe_41 (by decide) ?_
  have hPc := hP.sub (ws' := [(b5, .inl (k 0, 6, .inl bf5))]) [2] rfl
  have hDc := hD.sub (ws' := [(b5, .inl (k 0, 6, .inl bf5))]) [2] (by decide) rfl
  have hFc := va_free (wc := [(b5, .inl (k 0, 6, .inl bf5))]) hD hS hA [2] rfl
  refine va_callv (va_runS (As := [.ref b5, .int 0]) (rest := []) ⟨hx, hb, hml, hown, hts⟩ (c_fill l dC dI k b5 6 bf5 0 (by decide) H.size) (va_cwS 2 hts gc_wipe_c_fill rfl rfl rfl (by decide +kernel) ⟨Nat.le_of_ble_eq_true rfl, Nat.le_of_ble_eq_true rfl⟩) ⟨prW_blind, fun U hU hW => ⟨rfl, prW_go hPc hDc hK hU hW⟩⟩ rfl rfl hl.1 rfl (lv_room (Nat.le_of_ble_eq_true rfl)) dX0_wipe_42 ⟨by decide +kernel, by decide +kernel⟩) hS (fun q _ h => hFc q h) hFc (fun u t H1 locs ht hvm hw hB hz1 hk1 hS => ?_)
  obtain ⟨g_5, rfl⟩ : ∃ z, z = u := ⟨_, rfl⟩
  obtain ⟨hP1, hD1⟩ := hB
  rw [ht] at hP1
  obtain ⟨hP, hD⟩ := va_join (wr := [(bh, .inr (0, [.ref b1, .ref b2, .ref b3, .ref b4, .ref b5, .ref b6, .ref b7, .int bu0, .int bu1, .int bu2, .int bu3, .int bu4])), (b3, .inl (k 0, 4, .inl f_3)), (b6, .inl (k 0, 6, .inl bf6)), (b7, .inl (k 0, 6, .inl bf7)), (b1, .inl (k 0, 8, .inl g_1)), (b2, .inl (k 0, 8, .inl g_2)), (b4, .inl (k 0, 32, .inl g_4))]) (w1 := [(b5, .inl (k 0, 6, .inl g_5))]) hP hD [2] [0, 1, 3, 4, 5, 6, 7] rfl rfl (by decide) (by decide) hk1 hFc hP1 hD1
  clear hk1 hz1 ht hPc hDc hP1 hD1 hvm
  generalize H1 = H at hP hS ⊢
  have hP : va_P (dC, dI) vwCl [(bh, .inr (0, [.ref b1, .ref b2, .ref b3, .ref b4, .ref b5, .ref b6, .ref b7, .int bu0, .int bu1, .int bu2, .int bu3, .int bu4])), (b3, .inl (k 0, 4, .inl f_3)), (b6, .inl (k 0, 6, .inl bf6)), (b7, .inl (k 0, 6, .inl bf7)), (b1, .inl (k 0, 8, .inl g_1)), (b2, .inl (k 0, 8, .inl g_2)), (b4, .inl (k 0, 32, .inl g_4)), (b5, .inl (k 0, 6, .inl g_5))] H := hP
  have hD : va_D A [(bh, .inr (0, [.ref b1, .ref b2, .ref b3, .ref b4, .ref b5, .ref b6, .ref b7, .int bu0, .int bu1, .int bu2, .int bu3, .int bu4])), (b3, .inl (k 0, 4, .inl f_3)), (b6, .inl (k 0, 6, .inl bf6)), (b7, .inl (k 0, 6, .inl bf7)), (b1, .inl (k 0, 8, .inl g_1)), (b2, .inl (k 0, 8, .inl g_2)), (b4, .inl (k 0, 32, .inl g_4)), (b5, .inl (k 0, 6, .inl g_5))] := hD
  refine lv_aload_n hx hb dX0_wipe_45 rfl (lv_at hl 0 rfl) ?_
  refine va_get (D := (dC, dI)) (ci := 0) (v := .ref b6) (C := RX0) (T := TX0) (N := 12) hx hb hts hi0 hown hK hP 0 rfl rfl 5 (by decide) (hts (.fieldLink RX0 27 "HeightFine$Borough" "pass" "[I") (by decide +kernel)) (fun _ h9 => h9) rfl dX0_wipe_46 ?_
  refine lv_iconst (v := 0) hx hb dX0_wipe_49 (by decide) ?_
  have hPc := hP.sub (ws' := [(b6, .inl (k 0, 6, .inl bf6))]) [2] rfl
  have hDc := hD.sub (ws' := [(b6, .inl (k 0, 6, .inl bf6))]) [2] (by decide) rfl
  have hFc := va_free (wc := [(b6, .inl (k 0, 6, .inl bf6))]) hD hS hA [2] rfl
  refine va_callv (va_runS (As := [.ref b6, .int 0]) (rest := []) ⟨hx, hb, hml, hown, hts⟩ (c_fill l dC dI k b6 6 bf6 0 (by decide) H.size) (va_cwS 2 hts gc_wipe_c_fill rfl rfl rfl (by decide +kernel) ⟨Nat.le_of_ble_eq_true rfl, Nat.le_of_ble_eq_true rfl⟩) ⟨prW_blind, fun U hU hW => ⟨rfl, prW_go hPc hDc hK hU hW⟩⟩ rfl rfl hl.1 rfl (lv_room (Nat.le_of_ble_eq_true rfl)) dX0_wipe_50 ⟨by decide +kernel, by decide +kernel⟩) hS (fun q _ h => hFc q h) hFc (fun u t H1 locs ht hvm hw hB hz1 hk1 hS => ?_)
  obtain ⟨g_6, rfl⟩ : ∃ z, z = u := ⟨_, rfl⟩
  obtain ⟨hP1, hD1⟩ := hB
  rw [ht] at hP1
  obtain ⟨hP, hD⟩ := va_join (wr := [(bh, .inr (0, [.ref b1, .ref b2, .ref b3, .ref b4, .ref b5, .ref b6, .ref b7, .int bu0, .int bu1, .int bu2, .int bu3, .int bu4])), (b3, .inl (k 0, 4, .inl f_3)), (b7, .inl (k 0, 6, .inl bf7)), (b1, .inl (k 0, 8, .inl g_1)), (b2, .inl (k 0, 8, .inl g_2)), (b4, .inl (k 0, 32, .inl g_4)), (b5, .inl (k 0, 6, .inl g_5))]) (w1 := [(b6, .inl (k 0, 6, .inl g_6))]) hP hD [2] [0, 1, 3, 4, 5, 6, 7] rfl rfl (by decide) (by decide) hk1 hFc hP1 hD1
  clear hk1 hz1 ht hPc hDc hP1 hD1 hvm
  generalize H1 = H at hP hS ⊢
  have hP : va_P (dC, dI) vwCl [(bh, .inr (0, [.ref b1, .ref b2, .ref b3, .ref b4, .ref b5, .ref b6, .ref b7, .int bu0, .int bu1, .int bu2, .int bu3, .int bu4])), (b3, .inl (k 0, 4, .inl f_3)), (b7, .inl (k 0, 6, .inl bf7)), (b1, .inl (k 0, 8, .inl g_1)), (b2, .inl (k 0, 8, .inl g_2)), (b4, .inl (k 0, 32, .inl g_4)), (b5, .inl (k 0, 6, .inl g_5)), (b6, .inl (k 0, 6, .inl g_6))] H := hP
  have hD : va_D A [(bh, .inr (0, [.ref b1, .ref b2, .ref b3, .ref b4, .ref b5, .ref b6, .ref b7, .int bu0, .int bu1, .int bu2, .int bu3, .int bu4])), (b3, .inl (k 0, 4, .inl f_3)), (b7, .inl (k 0, 6, .inl bf7)), (b1, .inl (k 0, 8, .inl g_1)), (b2, .inl (k 0, 8, .inl g_2)), (b4, .inl (k 0, 32, .inl g_4)), (b5, .inl (k 0, 6, .inl g_5)), (b6, .inl (k 0, 6, .inl g_6))] := hD
  refine lv_aload_n hx hb dX0_wipe_53 rfl (lv_at hl 0 rfl) ?_
  refine va_get (D := (dC, dI)) (ci := 0) (v := .ref b7) (C := RX0) (T := TX0) (N := 12) hx hb hts hi0 hown hK hP 0 rfl rfl 6 (by decide) (hts (.fieldLink RX0 30 "HeightFine$Borough" "reach" "[I") (by decide +kernel)) (fun _ h9 => h9) rfl dX0_wipe_54 ?_
  refine lv_iconst (v := 0) hx hb dX0_wipe_57 (by decide) ?_
  have hPc := hP.sub (ws' := [(b7, .inl (k 0, 6, .inl bf7))]) [2] rfl
  have hDc := hD.sub (ws' := [(b7, .inl (k 0, 6, .inl bf7))]) [2] (by decide) rfl
  have hFc := va_free (wc := [(b7, .inl (k 0, 6, .inl bf7))]) hD hS hA [2] rfl
  refine va_callv (va_runS (As := [.ref b7, .int 0]) (rest := []) ⟨hx, hb, hml, hown, hts⟩ (c_fill l dC dI k b7 6 bf7 0 (by decide) H.size) (va_cwS 2 hts gc_wipe_c_fill rfl rfl rfl (by decide +kernel) ⟨Nat.le_of_ble_eq_true rfl, Nat.le_of_ble_eq_true rfl⟩) ⟨prW_blind, fun U hU hW => ⟨rfl, prW_go hPc hDc hK hU hW⟩⟩ rfl rfl hl.1 rfl (lv_room (Nat.le_of_ble_eq_true rfl)) dX0_wipe_58 ⟨by decide +kernel, by decide +kernel⟩) hS (fun q _ h => hFc q h) hFc (fun u t H1 locs ht hvm hw hB hz1 hk1 hS => ?_)
  obtain ⟨g_7, rfl⟩ : ∃ z, z = u := ⟨_, rfl⟩
  obtain ⟨hP1, hD1⟩ := hB
  rw [ht] at hP1
  obtain ⟨hP, hD⟩ := va_join (wr := [(bh, .inr (0, [.ref b1, .ref b2, .ref b3, .ref b4, .ref b5, .ref b6, .ref b7, .int bu0, .int bu1, .int bu2, .int bu3, .int bu4])), (b3, .inl (k 0, 4, .inl f_3)), (b1, .inl (k 0, 8, .inl g_1)), (b2, .inl (k 0, 8, .inl g_2)), (b4, .inl (k 0, 32, .inl g_4)), (b5, .inl (k 0, 6, .inl g_5)), (b6, .inl (k 0, 6, .inl g_6))]) (w1 := [(b7, .inl (k 0, 6, .inl g_7))]) hP hD [2] [0, 1, 3, 4, 5, 6, 7] rfl rfl (by decide) (by decide) hk1 hFc hP1 hD1
  clear hk1 hz1 ht hPc hDc hP1 hD1 hvm
  generalize H1 = H at hP hS ⊢
  have hP : va_P (dC, dI) vwCl [(bh, .inr (0, [.ref b1, .ref b2, .ref b3, .ref b4, .ref b5, .ref b6, .ref b7, .int bu0, .int bu1, .int bu2, .int bu3, .int bu4])), (b3, .inl (k 0, 4, .inl f_3)), (b1, .inl (k 0, 8, .inl g_1)), (b2, .inl (k 0, 8, .inl g_2)), (b4, .inl (k 0, 32, .inl g_4)), (b5, .inl (k 0, 6, .inl g_5)), (b6, .inl (k 0, 6, .inl g_6)), (b7, .inl (k 0, 6, .inl g_7))] H := hP
  have hD : va_D A [(bh, .inr (0, [.ref b1, .ref b2, .ref b3, .ref b4, .ref b5, .ref b6, .ref b7, .int bu0, .int bu1, .int bu2, .int bu3, .int bu4])), (b3, .inl (k 0, 4, .inl f_3)), (b1, .inl (k 0, 8, .inl g_1)), (b2, .inl (k 0, 8, .inl g_2)), (b4, .inl (k 0, 32, .inl g_4)), (b5, .inl (k 0, 6, .inl g_5)), (b6, .inl (k 0, 6, .inl g_6)), (b7, .inl (k 0, 6, .inl g_7))] := hD
  refine lv_aload_n hx hb dX0_wipe_61 rfl (lv_at hl 0 rfl) ?_
  refine lv_iconst (v := 0) hx hb dX0_wipe_62 (by decide) ?_
  refine va_put (D := (dC, dI)) (ci := 0) (v := .int 0) (ty := .int) (C := RX0) (T := TX0) (N := 12) hx hb hts hi0 tyX0 tyX0_ok nmX0 hown hK hP hD hS 0 rfl rfl 7 (by decide) (hts (.fieldLink RX0 51 "HeightFine$Borough" "people" "I") (by decide +kernel)) (fun _ h9 => h9) rfl (by decide +kernel) rfl rfl (Nat.le_of_ble_eq_true rfl) dX0_wipe_63 (fun H locs hP hD hS => ?_)
  have hP : va_P (dC, dI) vwCl [(bh, .inr (0, [.ref b1, .ref b2, .ref b3, .ref b4, .ref b5, .ref b6, .ref b7, .int 0, .int bu1, .int bu2, .int bu3, .int bu4])), (b3, .inl (k 0, 4, .inl f_3)), (b1, .inl (k 0, 8, .inl g_1)), (b2, .inl (k 0, 8, .inl g_2)), (b4, .inl (k 0, 32, .inl g_4)), (b5, .inl (k 0, 6, .inl g_5)), (b6, .inl (k 0, 6, .inl g_6)), (b7, .inl (k 0, 6, .inl g_7))] H := hP
  have hD : va_D A [(bh, .inr (0, [.ref b1, .ref b2, .ref b3, .ref b4, .ref b5, .ref b6, .ref b7, .int 0, .int bu1, .int bu2, .int bu3, .int bu4])), (b3, .inl (k 0, 4, .inl f_3)), (b1, .inl (k 0, 8, .inl g_1)), (b2, .inl (k 0, 8, .inl g_2)), (b4, .inl (k 0, 32, .inl g_4)), (b5, .inl (k 0, 6, .inl g_5)), (b6, .inl (k 0, 6, .inl g_6)), (b7, .inl (k 0, 6, .inl g_7))] := hD
  refine lv_aload_n hx hb dX0_wipe_66 rfl (lv_at hl 0 rfl) ?_
  refine lv_iconst (v := 0) hx hb dX0_wipe_67 (by decide) ?_
  refine va_put (D := (dC, dI)) (ci := 0) (v := .int 0) (ty := .int) (C := RX0) (T := TX0) (N := 12) hx hb hts hi0 tyX0 tyX0_ok nmX0 hown hK hP hD hS 0 rfl rfl 8 (by decide) (hts (.fieldLink RX0 55 "HeightFine$Borough" "poor" "I") (by decide +kernel)) (fun _ h9 => h9) rfl (by decide +kernel) rfl rfl (Nat.le_of_ble_eq_true rfl) dX0_wipe_68 (fun H locs hP hD hS => ?_)
  have hP : va_P (dC, dI) vwCl [(bh, .inr (0, [.ref b1, .ref b2, .ref b3, .ref b4, .ref b5, .ref b6, .ref b7, .int 0, .int 0, .int bu2, .int bu3, .int bu4])), (b3, .inl (k 0, 4, .inl f_3)), (b1, .inl (k 0, 8, .inl g_1)), (b2, .inl (k 0, 8, .inl g_2)), (b4, .inl (k 0, 32, .inl g_4)), (b5, .inl (k 0, 6, .inl g_5)), (b6, .inl (k 0, 6, .inl g_6)), (b7, .inl (k 0, 6, .inl g_7))] H := hP
  have hD : va_D A [(bh, .inr (0, [.ref b1, .ref b2, .ref b3, .ref b4, .ref b5, .ref b6, .ref b7, .int 0, .int 0, .int bu2, .int bu3, .int bu4])), (b3, .inl (k 0, 4, .inl f_3)), (b1, .inl (k 0, 8, .inl g_1)), (b2, .inl (k 0, 8, .inl g_2)), (b4, .inl (k 0, 32, .inl g_4)), (b5, .inl (k 0, 6, .inl g_5)), (b6, .inl (k 0, 6, .inl g_6)), (b7, .inl (k 0, 6, .inl g_7))] := hD
  refine lv_aload_n hx hb dX0_wipe_71 rfl (lv_at hl 0 rfl) ?_
  refine lv_iconst (v := 5) hx hb dX0_wipe_72 (by decide) ?_
  refine va_put (D := (dC, dI)) (ci := 0) (v := .int 5) (ty := .int) (C := RX0) (T := TX0) (N := 12) hx hb hts hi0 tyX0 tyX0_ok nmX0 hown hK hP hD hS 0 rfl rfl 9 (by decide) (hts (.fieldLink RX0 58 "HeightFine$Borough" "caught" "I") (by decide +kernel)) (fun _ h9 => h9) rfl (by decide +kernel) rfl rfl (Nat.le_of_ble_eq_true rfl) dX0_wipe_73 (fun H locs hP hD hS => ?_)
  have hP : va_P (dC, dI) vwCl [(bh, .inr (0, [.ref b1, .ref b2, .ref b3, .ref b4, .ref b5, .ref b6, .ref b7, .int 0, .int 0, .int 5, .int bu3, .int bu4])), (b3, .inl (k 0, 4, .inl f_3)), (b1, .inl (k 0, 8, .inl g_1)), (b2, .inl (k 0, 8, .inl g_2)), (b4, .inl (k 0, 32, .inl g_4)), (b5, .inl (k 0, 6, .inl g_5)), (b6, .inl (k 0, 6, .inl g_6)), (b7, .inl (k 0, 6, .inl g_7))] H := hP
  have hD : va_D A [(bh, .inr (0, [.ref b1, .ref b2, .ref b3, .ref b4, .ref b5, .ref b6, .ref b7, .int 0, .int 0, .int 5, .int bu3, .int bu4])), (b3, .inl (k 0, 4, .inl f_3)), (b1, .inl (k 0, 8, .inl g_1)), (b2, .inl (k 0, 8, .inl g_2)), (b4, .inl (k 0, 32, .inl g_4)), (b5, .inl (k 0, 6, .inl g_5)), (b6, .inl (k 0, 6, .inl g_6)), (b7, .inl (k 0, 6, .inl g_7))] := hD
  refine lv_aload_n hx hb dX0_wipe_76 rfl (lv_at hl 0 rfl) ?_
  refine lv_iconst (v := 0) hx hb dX0_wipe_77 (by decide) ?_
  refine va_put (D := (dC, dI)) (ci := 0) (v := .int 0) (ty := .int) (C := RX0) (T := TX0) (N := 12) hx hb hts hi0 tyX0 tyX0_ok nmX0 hown hK hP hD hS 0 rfl rfl 10 (by decide) (hts (.fieldLink RX0 61 "HeightFine$Borough" "doors" "I") (by decide +kernel)) (fun _ h9 => h9) rfl (by decide +kernel) rfl rfl (Nat.le_of_ble_eq_true rfl) dX0_wipe_78 (fun H locs hP hD hS => ?_)
  have hP : va_P (dC, dI) vwCl [(bh, .inr (0, [.ref b1, .ref b2, .ref b3, .ref b4, .ref b5, .ref b6, .ref b7, .int 0, .int 0, .int 5, .int 0, .int bu4])), (b3, .inl (k 0, 4, .inl f_3)), (b1, .inl (k 0, 8, .inl g_1)), (b2, .inl (k 0, 8, .inl g_2)), (b4, .inl (k 0, 32, .inl g_4)), (b5, .inl (k 0, 6, .inl g_5)), (b6, .inl (k 0, 6, .inl g_6)), (b7, .inl (k 0, 6, .inl g_7))] H := hP
  have hD : va_D A [(bh, .inr (0, [.ref b1, .ref b2, .ref b3, .ref b4, .ref b5, .ref b6, .ref b7, .int 0, .int 0, .int 5, .int 0, .int bu4])), (b3, .inl (k 0, 4, .inl f_3)), (b1, .inl (k 0, 8, .inl g_1)), (b2, .inl (k 0, 8, .inl g_2)), (b4, .inl (k 0, 32, .inl g_4)), (b5, .inl (k 0, 6, .inl g_5)), (b6, .inl (k 0, 6, .inl g_6)), (b7, .inl (k 0, 6, .inl g_7))] := hD
  refine lv_aload_n hx hb dX0_wipe_81 rfl (lv_at hl 0 rfl) ?_
  refine lv_iconst (v := 0) hx hb dX0_wipe_82 (by decide) ?_
  refine va_put (D := (dC, dI)) (ci := 0) (v := .int 0) (ty := .int) (C := RX0) (T := TX0) (N := 12) hx hb hts hi0 tyX0 tyX0_ok nmX0 hown hK hP hD hS 0 rfl rfl 11 (by decide) (hts (.fieldLink RX0 64 "HeightFine$Borough" "works" "I") (by decide +kernel)) (fun _ h9 => h9) rfl (by decide +kernel) rfl rfl (Nat.le_of_ble_eq_true rfl) dX0_wipe_83 (fun H locs hP hD hS => ?_)
  have hP : va_P (dC, dI) vwCl [(bh, .inr (0, [.ref b1, .ref b2, .ref b3, .ref b4, .ref b5, .ref b6, .ref b7, .int 0, .int 0, .int 5, .int 0, .int 0])), (b3, .inl (k 0, 4, .inl f_3)), (b1, .inl (k 0, 8, .inl g_1)), (b2, .inl (k 0, 8, .inl g_2)), (b4, .inl (k 0, 32, .inl g_4)), (b5, .inl (k 0, 6, .inl g_5)), (b6, .inl (k 0, 6, .inl g_6)), (b7, .inl (k 0, 6, .inl g_7))] H := hP
  have hD : va_D A [(bh, .inr (0, [.ref b1, .ref b2, .ref b3, .ref b4, .ref b5, .ref b6, .ref b7, .int 0, .int 0, .int 5, .int 0, .int 0])), (b3, .inl (k 0, 4, .inl f_3)), (b1, .inl (k 0, 8, .inl g_1)), (b2, .inl (k 0, 8, .inl g_2)), (b4, .inl (k 0, 32, .inl g_4)), (b5, .inl (k 0, 6, .inl g_5)), (b6, .inl (k 0, 6, .inl g_6)), (b7, .inl (k 0, 6, .inl g_7))] := hD
  have hP9 : va_P (dC, dI) vwCl [(bh, .inr (0, [.ref b1, .ref b2, .ref b3, .ref b4, .ref b5, .ref b6, .ref b7, .int 0, .int 0, .int 5, .int 0, .int 0])), (b1, .inl (k 0, 8, .inl ((fc [fun _ => 0, g_1, g_2, f_3, g_4, g_5, g_6, g_7]) 1))), (b2, .inl (k 0, 8, .inl ((fc [fun _ => 0, g_1, g_2, f_3, g_4, g_5, g_6, g_7]) 2))), (b3, .inl (k 0, 4, .inl ((fc [fun _ => 0, g_1, g_2, f_3, g_4, g_5, g_6, g_7]) 3))), (b4, .inl (k 0, 32, .inl ((fc [fun _ => 0, g_1, g_2, f_3, g_4, g_5, g_6, g_7]) 4))), (b5, .inl (k 0, 6, .inl ((fc [fun _ => 0, g_1, g_2, f_3, g_4, g_5, g_6, g_7]) 5))), (b6, .inl (k 0, 6, .inl ((fc [fun _ => 0, g_1, g_2, f_3, g_4, g_5, g_6, g_7]) 6))), (b7, .inl (k 0, 6, .inl ((fc [fun _ => 0, g_1, g_2, f_3, g_4, g_5, g_6, g_7]) 7)))] H := hP.sub (ws' := [(bh, .inr (0, [.ref b1, .ref b2, .ref b3, .ref b4, .ref b5, .ref b6, .ref b7, .int 0, .int 0, .int 5, .int 0, .int 0])), (b1, .inl (k 0, 8, .inl g_1)), (b2, .inl (k 0, 8, .inl g_2)), (b3, .inl (k 0, 4, .inl f_3)), (b4, .inl (k 0, 32, .inl g_4)), (b5, .inl (k 0, 6, .inl g_5)), (b6, .inl (k 0, 6, .inl g_6)), (b7, .inl (k 0, 6, .inl g_7))]) [0, 2, 3, 1, 4, 5, 6, 7] rfl
  have hD9 : va_D A [(bh, .inr (0, [.ref b1, .ref b2, .ref b3, .ref b4, .ref b5, .ref b6, .ref b7, .int 0, .int 0, .int 5, .int 0, .int 0])), (b1, .inl (k 0, 8, .inl ((fc [fun _ => 0, g_1, g_2, f_3, g_4, g_5, g_6, g_7]) 1))), (b2, .inl (k 0, 8, .inl ((fc [fun _ => 0, g_1, g_2, f_3, g_4, g_5, g_6, g_7]) 2))), (b3, .inl (k 0, 4, .inl ((fc [fun _ => 0, g_1, g_2, f_3, g_4, g_5, g_6, g_7]) 3))), (b4, .inl (k 0, 32, .inl ((fc [fun _ => 0, g_1, g_2, f_3, g_4, g_5, g_6, g_7]) 4))), (b5, .inl (k 0, 6, .inl ((fc [fun _ => 0, g_1, g_2, f_3, g_4, g_5, g_6, g_7]) 5))), (b6, .inl (k 0, 6, .inl ((fc [fun _ => 0, g_1, g_2, f_3, g_4, g_5, g_6, g_7]) 6))), (b7, .inl (k 0, 6, .inl ((fc [fun _ => 0, g_1, g_2, f_3, g_4, g_5, g_6, g_7]) 7)))] := hD.sub (ws' := [(bh, .inr (0, [.ref b1, .ref b2, .ref b3, .ref b4, .ref b5, .ref b6, .ref b7, .int 0, .int 0, .int 5, .int 0, .int 0])), (b1, .inl (k 0, 8, .inl g_1)), (b2, .inl (k 0, 8, .inl g_2)), (b3, .inl (k 0, 4, .inl f_3)), (b4, .inl (k 0, 32, .inl g_4)), (b5, .inl (k 0, 6, .inl g_5)), (b6, .inl (k 0, 6, .inl g_6)), (b7, .inl (k 0, 6, .inl g_7))]) [0, 2, 3, 1, 4, 5, 6, 7] (by decide) rfl
  refine W.widen (k := 0) (n := 0) (by decide +kernel) (by decide +kernel) ?_
  exact W.vret hx hb hr (fun t ht hW => ⟨⟨(fc [fun _ => 0, g_1, g_2, f_3, g_4, g_5, g_6, g_7]), rfl, (show FGv _ from hff_f_3), by rw [ht]; exact hP9, hD9⟩, hS.F ht⟩) hS.2.2 dX0_wipe_86
