def wGo (b : Nat) (o1 a1 m1 s1 : Nat → Int) (g0 : Int) : qW := [.inr (2, [q2 (b + 1), q2 (b + 2), q2 (b + 3), q2 (b + 4), q1 g0]), .inl (3, 657, .inr (.inl o1)), .inl (3, 72, .inr (.inl a1)), .inl (3, 9, .inr (.inl m1)), .inl (0, 8, .inl s1)]

theorem dX2_choose_0 : decode cX2_choose 0 = .ok (.iload_n 1, 1) := by decide +kernel
theorem dX2_choose_1 : decode cX2_choose 1 = .ok (.ifCond .lt 16, 3) := by decide +kernel
theorem dX2_choose_4 : decode cX2_choose 4 = .ok (.iload_n 1, 1) := by decide +kernel
theorem dX2_choose_5 : decode cX2_choose 5 = .ok (.iload_n 0, 1) := by decide +kernel
theorem dX2_choose_6 : decode cX2_choose 6 = .ok (.if_icmp .gt 11, 3) := by decide +kernel
theorem dX2_choose_9 : decode cX2_choose 9 = .ok (.iload_n 0, 1) := by decide +kernel
theorem dX2_choose_10 : decode cX2_choose 10 = .ok (.getstatic 80, 3) := by decide +kernel
theorem dX2_choose_13 : decode cX2_choose 13 = .ok (.arraylength, 1) := by decide +kernel
theorem dX2_choose_14 : decode cX2_choose 14 = .ok (.if_icmp .lt 5, 3) := by decide +kernel
theorem dX2_choose_17 : decode cX2_choose 17 = .ok (.lconst 0, 1) := by decide +kernel
theorem dX2_choose_18 : decode cX2_choose 18 = .ok (.lreturn, 1) := by decide +kernel
theorem dX2_choose_19 : decode cX2_choose 19 = .ok (.getstatic 80, 3) := by decide +kernel
theorem dX2_choose_22 : decode cX2_choose 22 = .ok (.iload_n 0, 1) := by decide +kernel
theorem dX2_choose_23 : decode cX2_choose 23 = .ok (.iaload, 1) := by decide +kernel
theorem dX2_choose_24 : decode cX2_choose 24 = .ok (.getstatic 80, 3) := by decide +kernel
theorem dX2_choose_27 : decode cX2_choose 27 = .ok (.iload_n 1, 1) := by decide +kernel
theorem dX2_choose_28 : decode cX2_choose 28 = .ok (.iaload, 1) := by decide +kernel
theorem dX2_choose_29 : decode cX2_choose 29 = .ok (.getstatic 80, 3) := by decide +kernel
theorem dX2_choose_32 : decode cX2_choose 32 = .ok (.iload_n 0, 1) := by decide +kernel
theorem dX2_choose_33 : decode cX2_choose 33 = .ok (.iload_n 1, 1) := by decide +kernel
theorem dX2_choose_34 : decode cX2_choose 34 = .ok (.isub, 1) := by decide +kernel
theorem dX2_choose_35 : decode cX2_choose 35 = .ok (.iaload, 1) := by decide +kernel
theorem dX2_choose_36 : decode cX2_choose 36 = .ok (.imul, 1) := by decide +kernel
theorem dX2_choose_37 : decode cX2_choose 37 = .ok (.idiv, 1) := by decide +kernel
theorem dX2_choose_38 : decode cX2_choose 38 = .ok (.i2l, 1) := by decide +kernel
theorem dX2_choose_39 : decode cX2_choose 39 = .ok (.lreturn, 1) := by decide +kernel
def is_X2_choose : Nat → List Nat := fun d => []
set_option maxRecDepth 100000 in
def b_X2_choose_17 (J : Nat → List qV → List qV → qW → Prop) (Q : qR) : qK := x_lng 0 (x_lret Q)
set_option maxRecDepth 100000 in
theorem s_X2_choose_17 {p : Program} {l : Launch} {e : Env} {R : Room} {s : State} {m : MethodId} {args : Array Value} {below : List Frame} {meth : Method} {c : Code} {nW : Nat} {dC : Nat → ClassId} {dI : Nat → Nat → Nat} {k : Nat → ClassId} {g : Nat → Nat} {A : Nat → Prop} {J : Nat → List qV → List qV → qW → Prop} {Q : qR} (X : q_X p R s m args meth c cX2_choose 2 nW 0 0 RX2 (some .long) dC dI k g A) (hJ : ∀ d : Nat, q_Sd p l e R s m args below meth c 2 nW dC dI k g A (MQ below (q_post (dC, dI) k g nW Q A) args s 0 0 A) d (x_cut (is_X2_choose d) (J d))) : q_Sd p l e R s m args below meth c 2 nW dC dI k g A (MQ below (q_post (dC, dI) k g nW Q A) args s 0 0 A) 17 (b_X2_choose_17 J Q) := by
  unfold b_X2_choose_17
  refine s_lconst X ⟨by decide, by decide⟩ (by decide) dX2_choose_17 ?_
  exact s_lret X dX2_choose_18
set_option maxRecDepth 100000 in
def b_X2_choose_0 (J : Nat → List qV → List qV → qW → Prop) (Q : qR) : qK := x_iload 1 (x_if_lt (b_X2_choose_17 J Q) (x_iload 1 (x_iload 0 (x_icmp_gt (b_X2_choose_17 J Q) (x_iload 0 (x_stat 4 (x_slen 4 qs_4 (x_icmp_lt (x_stat 4 (x_iload 0 (x_sald 4 qs_4 (x_stat 4 (x_iload 1 (x_sald 4 qs_4 (x_stat 4 (x_iload 0 (x_iload 1 (x_isub (x_sald 4 qs_4 (x_imul (x_idiv (x_i2l (x_lret Q))))))))))))))) (b_X2_choose_17 J Q)))))))))
set_option maxRecDepth 100000 in
theorem s_X2_choose_0 {p : Program} {l : Launch} {e : Env} {R : Room} {s : State} {m : MethodId} {args : Array Value} {below : List Frame} {meth : Method} {c : Code} {nW : Nat} {dC : Nat → ClassId} {dI : Nat → Nat → Nat} {k : Nat → ClassId} {g : Nat → Nat} {A : Nat → Prop} {J : Nat → List qV → List qV → qW → Prop} {Q : qR} (X : q_X p R s m args meth c cX2_choose 2 nW 0 0 RX2 (some .long) dC dI k g A) (hJ : ∀ d : Nat, q_Sd p l e R s m args below meth c 2 nW dC dI k g A (MQ below (q_post (dC, dI) k g nW Q A) args s 0 0 A) d (x_cut (is_X2_choose d) (J d))) : q_Sd p l e R s m args below meth c 2 nW dC dI k g A (MQ below (q_post (dC, dI) k g nW Q A) args s 0 0 A) 0 (b_X2_choose_0 J Q) := by
  unfold b_X2_choose_0
  refine s_iload_n X rfl dX2_choose_0 ?_
  refine s_if_lt X (tgt := 17) dX2_choose_1 (by decide) ?_ ?_
  · exact s_X2_choose_17 X hJ
  · refine s_iload_n X rfl dX2_choose_4 ?_
    refine s_iload_n X rfl dX2_choose_5 ?_
    refine s_icmp_gt X (tgt := 17) dX2_choose_6 (by decide) ?_ ?_
    · exact s_X2_choose_17 X hJ
    · refine s_iload_n X rfl dX2_choose_9 ?_
      refine s_stat X (nm := _) (xs := qs_4) rfl (List.mem_of_getElem? (i := 3) rfl) dX2_choose_10 ?_
      refine s_slen X (nm := _) rfl (by decide) dX2_choose_13 ?_
      refine s_icmp_lt X (tgt := 19) dX2_choose_14 (by decide) ?_ ?_
      · refine s_stat X (nm := _) (xs := qs_4) rfl (List.mem_of_getElem? (i := 3) rfl) dX2_choose_19 ?_
        refine s_iload_n X rfl dX2_choose_22 ?_
        refine s_sald X (nm := _) rfl qs_4_ok dX2_choose_23 ?_
        refine s_stat X (nm := _) (xs := qs_4) rfl (List.mem_of_getElem? (i := 3) rfl) dX2_choose_24 ?_
        refine s_iload_n X rfl dX2_choose_27 ?_
        refine s_sald X (nm := _) rfl qs_4_ok dX2_choose_28 ?_
        refine s_stat X (nm := _) (xs := qs_4) rfl (List.mem_of_getElem? (i := 3) rfl) dX2_choose_29 ?_
        refine s_iload_n X rfl dX2_choose_32 ?_
        refine s_iload_n X rfl dX2_choose_33 ?_
        refine s_isub X dX2_choose_34 ?_
        refine s_sald X (nm := _) rfl qs_4_ok dX2_choose_35 ?_
        refine s_imul X dX2_choose_36 ?_
        refine s_idiv X dX2_choose_37 ?_
        refine s_i2l X dX2_choose_38 ?_
        exact s_lret X dX2_choose_39
      · exact s_X2_choose_17 X hJ

def spr_X2_choose : List qV → qW → (Option qV → Prop) → Prop := fun av w Q => ∃ (a : Int) (b : Int), av = [q1 a, q1 b] ∧ w = [] ∧ (∀ (r : Int) , Q (some (q3 r)))
def sp_X2_choose : qS := fun av w Q => spr_X2_choose av w (fun r => Q r w)
set_option maxHeartbeats 4000000 in
set_option maxRecDepth 100000 in
theorem m_X2_choose (l : Launch) : q_M l yX2_choose cX2_choose 2 (some .long) 0 0 sp_X2_choose := by
  refine q_meth (by decide) (fun av w Q h => by obtain ⟨a, b, rfl, rfl, hQ⟩ := h; exact Nat.le_of_ble_eq_true rfl) ?_
  intro p e R s m args below meth c dC dI k g A av w Q hsp oka okw X
  obtain ⟨a, b, rfl, rfl, hQ⟩ := hsp
  have o_a : -2147483648 ≤ a ∧ a ≤ 2147483647 := oka _ (List.mem_of_getElem? (i := 0) rfl)
  have o_b : -2147483648 ≤ b ∧ b ≤ 2147483647 := oka _ (List.mem_of_getElem? (i := 1) rfl)
  refine s_mono (s_X2_choose_0 X (J := fun _ _ _ _ => False) (fun d => s_cutF)) ?_
  rintro lv st w' ⟨rfl, rfl, rfl⟩
  apply And.intro
  · intro h1
    exact hQ _
  · intro h1
    apply And.intro
    · intro h6
      exact hQ _
    · intro h6
      apply And.intro
      · intro h14
        have e14 : (qs_4.length : Int) = 9 := rfl
        rw [e14] at h14
        apply And.intro
        · exact ⟨by omega, by rw [show ((qs_4).length : Int) = 9 from rfl]; omega⟩
        intro z23 h23
        have a23 := q4_pos h23 (by omega)
        apply And.intro
        · exact ⟨by omega, by rw [show ((qs_4).length : Int) = 9 from rfl]; omega⟩
        intro z28 h28
        have a28 := q4_pos h28 (by omega)
        intro z34 h34
        first | replace h34 := e_sub h34 (by omega) | replace h34 := e_rng h34
        apply And.intro
        · exact ⟨by omega, by rw [show ((qs_4).length : Int) = 9 from rfl]; omega⟩
        intro z35 h35
        have a35 := q4_pos h35 (by omega)
        intro z36 h36
        replace h36 := e_mul4 h36 (by omega) (by omega)
        apply And.intro
        · first | omega | (intro e9; omega)
        intro z37 h37
        first | replace h37 := e_div h37 (by omega) (by omega) | replace h37 := e_rng h37
        exact hQ _
      · intro h14
        exact hQ _

theorem dX2_inRange_0 : decode cX2_inRange 0 = .ok (.iload_n 1, 1) := by decide +kernel
theorem dX2_inRange_1 : decode cX2_inRange 1 = .ok (.ifCond .lt 13, 3) := by decide +kernel
theorem dX2_inRange_4 : decode cX2_inRange 4 = .ok (.iload_n 1, 1) := by decide +kernel
theorem dX2_inRange_5 : decode cX2_inRange 5 = .ok (.bipush 8, 2) := by decide +kernel
theorem dX2_inRange_7 : decode cX2_inRange 7 = .ok (.if_icmp .gt 7, 3) := by decide +kernel
theorem dX2_inRange_10 : decode cX2_inRange 10 = .ok (.iconst 1, 1) := by decide +kernel
theorem dX2_inRange_11 : decode cX2_inRange 11 = .ok (.goto 4, 3) := by decide +kernel
theorem dX2_inRange_14 : decode cX2_inRange 14 = .ok (.iconst 0, 1) := by decide +kernel
theorem dX2_inRange_15 : decode cX2_inRange 15 = .ok (.ireturn, 1) := by decide +kernel
def is_X2_inRange : Nat → List Nat := fun d => []
set_option maxRecDepth 100000 in
def b_X2_inRange_15 (J : Nat → List qV → List qV → qW → Prop) (Q : qR) : qK := x_zret Q
set_option maxRecDepth 100000 in
theorem s_X2_inRange_15 {p : Program} {l : Launch} {e : Env} {R : Room} {s : State} {m : MethodId} {args : Array Value} {below : List Frame} {meth : Method} {c : Code} {nW : Nat} {dC : Nat → ClassId} {dI : Nat → Nat → Nat} {k : Nat → ClassId} {g : Nat → Nat} {A : Nat → Prop} {J : Nat → List qV → List qV → qW → Prop} {Q : qR} (X : q_X p R s m args meth c cX2_inRange 2 nW 0 0 RX2 (some .boolean) dC dI k g A) (hJ : ∀ d : Nat, q_Sd p l e R s m args below meth c 2 nW dC dI k g A (MQ below (q_post (dC, dI) k g nW Q A) args s 0 0 A) d (x_cut (is_X2_inRange d) (J d))) : q_Sd p l e R s m args below meth c 2 nW dC dI k g A (MQ below (q_post (dC, dI) k g nW Q A) args s 0 0 A) 15 (b_X2_inRange_15 J Q) := by
  unfold b_X2_inRange_15
  exact s_zret X dX2_inRange_15
set_option maxRecDepth 100000 in
def b_X2_inRange_14 (J : Nat → List qV → List qV → qW → Prop) (Q : qR) : qK := x_int 0 (b_X2_inRange_15 J Q)
set_option maxRecDepth 100000 in
theorem s_X2_inRange_14 {p : Program} {l : Launch} {e : Env} {R : Room} {s : State} {m : MethodId} {args : Array Value} {below : List Frame} {meth : Method} {c : Code} {nW : Nat} {dC : Nat → ClassId} {dI : Nat → Nat → Nat} {k : Nat → ClassId} {g : Nat → Nat} {A : Nat → Prop} {J : Nat → List qV → List qV → qW → Prop} {Q : qR} (X : q_X p R s m args meth c cX2_inRange 2 nW 0 0 RX2 (some .boolean) dC dI k g A) (hJ : ∀ d : Nat, q_Sd p l e R s m args below meth c 2 nW dC dI k g A (MQ below (q_post (dC, dI) k g nW Q A) args s 0 0 A) d (x_cut (is_X2_inRange d) (J d))) : q_Sd p l e R s m args below meth c 2 nW dC dI k g A (MQ below (q_post (dC, dI) k g nW Q A) args s 0 0 A) 14 (b_X2_inRange_14 J Q) := by
  unfold b_X2_inRange_14
  refine s_iconst X ⟨by decide, by decide⟩ dX2_inRange_14 ?_
  exact s_X2_inRange_15 X hJ
set_option maxRecDepth 100000 in
def b_X2_inRange_0 (J : Nat → List qV → List qV → qW → Prop) (Q : qR) : qK := x_iload 1 (x_if_lt (b_X2_inRange_14 J Q) (x_iload 1 (x_int 8 (x_icmp_gt (b_X2_inRange_14 J Q) (x_int 1 (b_X2_inRange_15 J Q))))))
set_option maxRecDepth 100000 in
theorem s_X2_inRange_0 {p : Program} {l : Launch} {e : Env} {R : Room} {s : State} {m : MethodId} {args : Array Value} {below : List Frame} {meth : Method} {c : Code} {nW : Nat} {dC : Nat → ClassId} {dI : Nat → Nat → Nat} {k : Nat → ClassId} {g : Nat → Nat} {A : Nat → Prop} {J : Nat → List qV → List qV → qW → Prop} {Q : qR} (X : q_X p R s m args meth c cX2_inRange 2 nW 0 0 RX2 (some .boolean) dC dI k g A) (hJ : ∀ d : Nat, q_Sd p l e R s m args below meth c 2 nW dC dI k g A (MQ below (q_post (dC, dI) k g nW Q A) args s 0 0 A) d (x_cut (is_X2_inRange d) (J d))) : q_Sd p l e R s m args below meth c 2 nW dC dI k g A (MQ below (q_post (dC, dI) k g nW Q A) args s 0 0 A) 0 (b_X2_inRange_0 J Q) := by
  unfold b_X2_inRange_0
  refine s_iload_n X rfl dX2_inRange_0 ?_
  refine s_if_lt X (tgt := 14) dX2_inRange_1 (by decide) ?_ ?_
  · exact s_X2_inRange_14 X hJ
  · refine s_iload_n X rfl dX2_inRange_4 ?_
    refine s_bipush X ⟨by decide, by decide⟩ (by decide) dX2_inRange_5 ?_
    refine s_icmp_gt X (tgt := 14) dX2_inRange_7 (by decide) ?_ ?_
    · exact s_X2_inRange_14 X hJ
    · refine s_iconst X ⟨by decide, by decide⟩ dX2_inRange_10 ?_
      refine s_goto X (tgt := 15) dX2_inRange_11 (by decide) ?_
      exact s_X2_inRange_15 X hJ

def spr_X2_inRange : List qV → qW → (Option qV → Prop) → Prop := fun av w Q => ∃ (o1 : Nat → Int) (a1 : Nat → Int) (m1 : Nat → Int) (s1 : Nat → Int) (g0 : Int) (a : Int), av = [q2 0, q1 a] ∧ w = (wGo 0 o1 a1 m1 s1 g0) ∧ (∀ (r : Int) , (r = 1 ∧ 0 ≤ a ∧ a ≤ 8 ∨ r = 0 ∧ ¬ (0 ≤ a ∧ a ≤ 8)) → Q (some (q1 r)))
def sp_X2_inRange : qS := fun av w Q => spr_X2_inRange av w (fun r => Q r w)
set_option maxHeartbeats 4000000 in
set_option maxRecDepth 100000 in
theorem m_X2_inRange (l : Launch) : q_M l yX2_inRange cX2_inRange 2 (some .boolean) 0 0 sp_X2_inRange := by
  refine q_meth (by decide) (fun av w Q h => by obtain ⟨o1, a1, m1, s1, g0, a, rfl, rfl, hQ⟩ := h; exact Nat.le_of_ble_eq_true rfl) ?_
  intro p e R s m args below meth c dC dI k g A av w Q hsp oka okw X
  obtain ⟨o1, a1, m1, s1, g0, a, rfl, rfl, hQ⟩ := hsp
  have o_a : -2147483648 ≤ a ∧ a ≤ 2147483647 := oka _ (List.mem_of_getElem? (i := 1) rfl)
  refine s_mono (s_X2_inRange_0 X (J := fun _ _ _ _ => False) (fun d => s_cutF)) ?_
  rintro lv st w' ⟨rfl, rfl, rfl⟩
  apply And.intro
  · intro h1
    apply And.intro
    · first | exact Or.inl rfl | exact Or.inr rfl | omega
    exact hQ _ (by first | omega | assumption | exact q_rg_up (by assumption) (by omega) | exact q_rg_up (q_rg_up (by assumption) (by omega)) (by omega) | exact q_rg_cpy (by assumption) (by assumption))
  · intro h1
    apply And.intro
    · intro h7
      apply And.intro
      · first | exact Or.inl rfl | exact Or.inr rfl | omega
      exact hQ _ (by first | omega | assumption | exact q_rg_up (by assumption) (by omega) | exact q_rg_up (q_rg_up (by assumption) (by omega)) (by omega) | exact q_rg_cpy (by assumption) (by assumption))
    · intro h7
      apply And.intro
      · first | exact Or.inl rfl | exact Or.inr rfl | omega
      exact hQ _ (by first | omega | assumption | exact q_rg_up (by assumption) (by omega) | exact q_rg_up (q_rg_up (by assumption) (by omega)) (by omega) | exact q_rg_cpy (by assumption) (by assumption))

theorem dX2_countOrders_0 : decode cX2_countOrders 0 = .ok (.aload_n 0, 1) := by decide +kernel
theorem dX2_countOrders_1 : decode cX2_countOrders 1 = .ok (.getfield 11, 3) := by decide +kernel
theorem dX2_countOrders_4 : decode cX2_countOrders 4 = .ok (.lconst 0, 1) := by decide +kernel
theorem dX2_countOrders_5 : decode cX2_countOrders 5 = .ok (.invokestatic 68, 3) := by decide +kernel
theorem dX2_countOrders_8 : decode cX2_countOrders 8 = .ok (.aload_n 0, 1) := by decide +kernel
theorem dX2_countOrders_9 : decode cX2_countOrders 9 = .ok (.getfield 11, 3) := by decide +kernel
theorem dX2_countOrders_12 : decode cX2_countOrders 12 = .ok (.iconst 0, 1) := by decide +kernel
theorem dX2_countOrders_13 : decode cX2_countOrders 13 = .ok (.lconst 1, 1) := by decide +kernel
theorem dX2_countOrders_14 : decode cX2_countOrders 14 = .ok (.lastore, 1) := by decide +kernel
theorem dX2_countOrders_15 : decode cX2_countOrders 15 = .ok (.iconst 1, 1) := by decide +kernel
theorem dX2_countOrders_16 : decode cX2_countOrders 16 = .ok (.istore_n 2, 1) := by decide +kernel
theorem dX2_countOrders_17 : decode cX2_countOrders 17 = .ok (.iload_n 2, 1) := by decide +kernel
theorem dX2_countOrders_18 : decode cX2_countOrders 18 = .ok (.bipush 9, 2) := by decide +kernel
theorem dX2_countOrders_20 : decode cX2_countOrders 20 = .ok (.if_icmp .ge 82, 3) := by decide +kernel
theorem dX2_countOrders_23 : decode cX2_countOrders 23 = .ok (.iconst 0, 1) := by decide +kernel
theorem dX2_countOrders_24 : decode cX2_countOrders 24 = .ok (.istore_n 3, 1) := by decide +kernel
theorem dX2_countOrders_25 : decode cX2_countOrders 25 = .ok (.iload_n 3, 1) := by decide +kernel
theorem dX2_countOrders_26 : decode cX2_countOrders 26 = .ok (.bipush 73, 2) := by decide +kernel
theorem dX2_countOrders_28 : decode cX2_countOrders 28 = .ok (.if_icmp .ge 68, 3) := by decide +kernel
theorem dX2_countOrders_31 : decode cX2_countOrders 31 = .ok (.iconst 0, 1) := by decide +kernel
theorem dX2_countOrders_32 : decode cX2_countOrders 32 = .ok (.istore 4, 2) := by decide +kernel
theorem dX2_countOrders_34 : decode cX2_countOrders 34 = .ok (.iload 4, 2) := by decide +kernel
theorem dX2_countOrders_36 : decode cX2_countOrders 36 = .ok (.iconst 4, 1) := by decide +kernel
theorem dX2_countOrders_37 : decode cX2_countOrders 37 = .ok (.if_icmp .ge 53, 3) := by decide +kernel
theorem dX2_countOrders_40 : decode cX2_countOrders 40 = .ok (.iload_n 3, 1) := by decide +kernel
theorem dX2_countOrders_41 : decode cX2_countOrders 41 = .ok (.aload_n 1, 1) := by decide +kernel
theorem dX2_countOrders_42 : decode cX2_countOrders 42 = .ok (.getfield 71, 3) := by decide +kernel
theorem dX2_countOrders_45 : decode cX2_countOrders 45 = .ok (.iload 4, 2) := by decide +kernel
theorem dX2_countOrders_47 : decode cX2_countOrders 47 = .ok (.iaload, 1) := by decide +kernel
theorem dX2_countOrders_48 : decode cX2_countOrders 48 = .ok (.isub, 1) := by decide +kernel
theorem dX2_countOrders_49 : decode cX2_countOrders 49 = .ok (.istore 5, 2) := by decide +kernel
theorem dX2_countOrders_51 : decode cX2_countOrders 51 = .ok (.iload 5, 2) := by decide +kernel
theorem dX2_countOrders_53 : decode cX2_countOrders 53 = .ok (.ifCond .lt 31, 3) := by decide +kernel
theorem dX2_countOrders_56 : decode cX2_countOrders 56 = .ok (.aload_n 0, 1) := by decide +kernel
theorem dX2_countOrders_57 : decode cX2_countOrders 57 = .ok (.getfield 11, 3) := by decide +kernel
theorem dX2_countOrders_60 : decode cX2_countOrders 60 = .ok (.bipush 73, 2) := by decide +kernel
theorem dX2_countOrders_62 : decode cX2_countOrders 62 = .ok (.iload_n 2, 1) := by decide +kernel
theorem dX2_countOrders_63 : decode cX2_countOrders 63 = .ok (.imul, 1) := by decide +kernel
theorem dX2_countOrders_64 : decode cX2_countOrders 64 = .ok (.iload_n 3, 1) := by decide +kernel
theorem dX2_countOrders_65 : decode cX2_countOrders 65 = .ok (.iadd, 1) := by decide +kernel
theorem dX2_countOrders_66 : decode cX2_countOrders 66 = .ok (.dup2, 1) := by decide +kernel
theorem dX2_countOrders_67 : decode cX2_countOrders 67 = .ok (.laload, 1) := by decide +kernel
theorem dX2_countOrders_68 : decode cX2_countOrders 68 = .ok (.aload_n 0, 1) := by decide +kernel
theorem dX2_countOrders_69 : decode cX2_countOrders 69 = .ok (.getfield 11, 3) := by decide +kernel
theorem dX2_countOrders_72 : decode cX2_countOrders 72 = .ok (.bipush 73, 2) := by decide +kernel
theorem dX2_countOrders_74 : decode cX2_countOrders 74 = .ok (.iload_n 2, 1) := by decide +kernel
theorem dX2_countOrders_75 : decode cX2_countOrders 75 = .ok (.iconst 1, 1) := by decide +kernel
theorem dX2_countOrders_76 : decode cX2_countOrders 76 = .ok (.isub, 1) := by decide +kernel
theorem dX2_countOrders_77 : decode cX2_countOrders 77 = .ok (.imul, 1) := by decide +kernel
theorem dX2_countOrders_78 : decode cX2_countOrders 78 = .ok (.iload 5, 2) := by decide +kernel
theorem dX2_countOrders_80 : decode cX2_countOrders 80 = .ok (.iadd, 1) := by decide +kernel
theorem dX2_countOrders_81 : decode cX2_countOrders 81 = .ok (.laload, 1) := by decide +kernel
theorem dX2_countOrders_82 : decode cX2_countOrders 82 = .ok (.ladd, 1) := by decide +kernel
theorem dX2_countOrders_83 : decode cX2_countOrders 83 = .ok (.lastore, 1) := by decide +kernel
theorem dX2_countOrders_84 : decode cX2_countOrders 84 = .ok (.iinc 4 1, 3) := by decide +kernel
theorem dX2_countOrders_87 : decode cX2_countOrders 87 = .ok (.goto (-53), 3) := by decide +kernel
theorem dX2_countOrders_90 : decode cX2_countOrders 90 = .ok (.iinc 3 1, 3) := by decide +kernel
theorem dX2_countOrders_93 : decode cX2_countOrders 93 = .ok (.goto (-68), 3) := by decide +kernel
theorem dX2_countOrders_96 : decode cX2_countOrders 96 = .ok (.iinc 2 1, 3) := by decide +kernel
theorem dX2_countOrders_99 : decode cX2_countOrders 99 = .ok (.goto (-82), 3) := by decide +kernel
theorem dX2_countOrders_102 : decode cX2_countOrders 102 = .ok (.return_, 1) := by decide +kernel
def is_X2_countOrders : Nat → List Nat := fun d => if d = 17 then [0, 1, 2] else if d = 25 then [0, 1, 2, 3] else if d = 34 then [0, 1, 2, 3, 4] else []
set_option maxRecDepth 100000 in
def b_X2_countOrders_84 (J : Nat → List qV → List qV → qW → Prop) (Q : qR) : qK := x_iinc 4 1 (x_cut [0, 1, 2, 3, 4] (J 34))
set_option maxRecDepth 100000 in
theorem s_X2_countOrders_84 {p : Program} {l : Launch} {e : Env} {R : Room} {s : State} {m : MethodId} {args : Array Value} {below : List Frame} {meth : Method} {c : Code} {nW : Nat} {dC : Nat → ClassId} {dI : Nat → Nat → Nat} {k : Nat → ClassId} {g : Nat → Nat} {A : Nat → Prop} {J : Nat → List qV → List qV → qW → Prop} {Q : qR} (X : q_X p R s m args meth c cX2_countOrders 6 nW 1 24 RX2 none dC dI k g A) (hJ : ∀ d : Nat, q_Sd p l e R s m args below meth c 6 nW dC dI k g A (MQ below (q_post (dC, dI) k g nW Q A) args s 0 0 A) d (x_cut (is_X2_countOrders d) (J d))) : q_Sd p l e R s m args below meth c 6 nW dC dI k g A (MQ below (q_post (dC, dI) k g nW Q A) args s 0 0 A) 84 (b_X2_countOrders_84 J Q) := by
  unfold b_X2_countOrders_84
  refine s_iinc X (by decide) dX2_countOrders_84 ?_
  refine s_goto X (tgt := 34) dX2_countOrders_87 (by decide) ?_
  exact hJ 34
set_option maxRecDepth 100000 in
def b_X2_countOrders_74 (J : Nat → List qV → List qV → qW → Prop) (Q : qR) : qK := x_iload 2 (x_int 1 (x_isub (x_imul (x_iload 5 (x_iadd (x_lald (x_ladd (x_last (x_nw (b_X2_countOrders_84 J Q))))))))))
set_option maxRecDepth 100000 in
theorem s_X2_countOrders_74 {p : Program} {l : Launch} {e : Env} {R : Room} {s : State} {m : MethodId} {args : Array Value} {below : List Frame} {meth : Method} {c : Code} {nW : Nat} {dC : Nat → ClassId} {dI : Nat → Nat → Nat} {k : Nat → ClassId} {g : Nat → Nat} {A : Nat → Prop} {J : Nat → List qV → List qV → qW → Prop} {Q : qR} (X : q_X p R s m args meth c cX2_countOrders 6 nW 1 24 RX2 none dC dI k g A) (hJ : ∀ d : Nat, q_Sd p l e R s m args below meth c 6 nW dC dI k g A (MQ below (q_post (dC, dI) k g nW Q A) args s 0 0 A) d (x_cut (is_X2_countOrders d) (J d))) : q_Sd p l e R s m args below meth c 6 nW dC dI k g A (MQ below (q_post (dC, dI) k g nW Q A) args s 0 0 A) 74 (b_X2_countOrders_74 J Q) := by
  unfold b_X2_countOrders_74
  refine s_iload_n X rfl dX2_countOrders_74 ?_
  refine s_iconst X ⟨by decide, by decide⟩ dX2_countOrders_75 ?_
  refine s_isub X dX2_countOrders_76 ?_
  refine s_imul X dX2_countOrders_77 ?_
  refine s_iload X dX2_countOrders_78 ?_
  refine s_iadd X dX2_countOrders_80 ?_
  refine s_lald X dX2_countOrders_81 ?_
  refine s_ladd X dX2_countOrders_82 ?_
  refine s_last X dX2_countOrders_83 ?_
  refine s_nw ?_
  exact s_X2_countOrders_84 X hJ
set_option maxRecDepth 100000 in
def b_X2_countOrders_34 (J : Nat → List qV → List qV → qW → Prop) (Q : qR) : qK := x_iload 4 (x_int 4 (x_icmp_ge (x_iinc 3 1 (x_cut [0, 1, 2, 3] (J 25))) (x_iload 3 (x_aload 1 (x_get 0 2 (x_iload 4 (x_iald (x_isub (x_istore 5 (x_iload 5 (x_if_lt (b_X2_countOrders_84 J Q) (x_aload 0 (x_get 2 0 (x_int 73 (x_iload 2 (x_imul (x_iload 3 (x_iadd (x_dup2 (x_lald (x_aload 0 (x_get 2 0 (x_int 73 (b_X2_countOrders_74 J Q))))))))))))))))))))))))
set_option maxRecDepth 100000 in
theorem s_X2_countOrders_34 {p : Program} {l : Launch} {e : Env} {R : Room} {s : State} {m : MethodId} {args : Array Value} {below : List Frame} {meth : Method} {c : Code} {nW : Nat} {dC : Nat → ClassId} {dI : Nat → Nat → Nat} {k : Nat → ClassId} {g : Nat → Nat} {A : Nat → Prop} {J : Nat → List qV → List qV → qW → Prop} {Q : qR} (X : q_X p R s m args meth c cX2_countOrders 6 nW 1 24 RX2 none dC dI k g A) (hJ : ∀ d : Nat, q_Sd p l e R s m args below meth c 6 nW dC dI k g A (MQ below (q_post (dC, dI) k g nW Q A) args s 0 0 A) d (x_cut (is_X2_countOrders d) (J d))) : q_Sd p l e R s m args below meth c 6 nW dC dI k g A (MQ below (q_post (dC, dI) k g nW Q A) args s 0 0 A) 34 (b_X2_countOrders_34 J Q) := by
  unfold b_X2_countOrders_34
  refine s_iload X dX2_countOrders_34 ?_
  refine s_iconst X ⟨by decide, by decide⟩ dX2_countOrders_36 ?_
  refine s_icmp_ge X (tgt := 90) dX2_countOrders_37 (by decide) ?_ ?_
  · refine s_iinc X (by decide) dX2_countOrders_90 ?_
    refine s_goto X (tgt := 25) dX2_countOrders_93 (by decide) ?_
    exact hJ 25
  · refine s_iload_n X rfl dX2_countOrders_40 ?_
    refine s_aload_n X rfl dX2_countOrders_41 ?_
    refine s_get X (T := TX0) (C := RX0) (N := 12) tu_X0 rfl (by decide) tw_176 dX2_countOrders_42 ?_
    refine s_iload X dX2_countOrders_45 ?_
    refine s_iald X dX2_countOrders_47 ?_
    refine s_isub X dX2_countOrders_48 ?_
    refine s_istore X (by decide) dX2_countOrders_49 ?_
    refine s_iload X dX2_countOrders_51 ?_
    refine s_if_lt X (tgt := 84) dX2_countOrders_53 (by decide) ?_ ?_
    · exact s_X2_countOrders_84 X hJ
    · refine s_aload_n X rfl dX2_countOrders_56 ?_
      refine s_get X (T := TX2) (C := RX2) (N := 5) tu_X2 rfl (by decide) tw_314 dX2_countOrders_57 ?_
      refine s_bipush X ⟨by decide, by decide⟩ (by decide) dX2_countOrders_60 ?_
      refine s_iload_n X rfl dX2_countOrders_62 ?_
      refine s_imul X dX2_countOrders_63 ?_
      refine s_iload_n X rfl dX2_countOrders_64 ?_
      refine s_iadd X dX2_countOrders_65 ?_
      refine s_dup2 X dX2_countOrders_66 ?_
      refine s_lald X dX2_countOrders_67 ?_
      refine s_aload_n X rfl dX2_countOrders_68 ?_
      refine s_get X (T := TX2) (C := RX2) (N := 5) tu_X2 rfl (by decide) tw_314 dX2_countOrders_69 ?_
      refine s_bipush X ⟨by decide, by decide⟩ (by decide) dX2_countOrders_72 ?_
      exact s_X2_countOrders_74 X hJ
set_option maxRecDepth 100000 in
def b_X2_countOrders_25 (J : Nat → List qV → List qV → qW → Prop) (Q : qR) : qK := x_iload 3 (x_int 73 (x_icmp_ge (x_iinc 2 1 (x_cut [0, 1, 2] (J 17))) (x_int 0 (x_istore 4 (x_cut [0, 1, 2, 3, 4] (J 34))))))
set_option maxRecDepth 100000 in
theorem s_X2_countOrders_25 {p : Program} {l : Launch} {e : Env} {R : Room} {s : State} {m : MethodId} {args : Array Value} {below : List Frame} {meth : Method} {c : Code} {nW : Nat} {dC : Nat → ClassId} {dI : Nat → Nat → Nat} {k : Nat → ClassId} {g : Nat → Nat} {A : Nat → Prop} {J : Nat → List qV → List qV → qW → Prop} {Q : qR} (X : q_X p R s m args meth c cX2_countOrders 6 nW 1 24 RX2 none dC dI k g A) (hJ : ∀ d : Nat, q_Sd p l e R s m args below meth c 6 nW dC dI k g A (MQ below (q_post (dC, dI) k g nW Q A) args s 0 0 A) d (x_cut (is_X2_countOrders d) (J d))) : q_Sd p l e R s m args below meth c 6 nW dC dI k g A (MQ below (q_post (dC, dI) k g nW Q A) args s 0 0 A) 25 (b_X2_countOrders_25 J Q) := by
  unfold b_X2_countOrders_25
  refine s_iload_n X rfl dX2_countOrders_25 ?_
  refine s_bipush X ⟨by decide, by decide⟩ (by decide) dX2_countOrders_26 ?_
  refine s_icmp_ge X (tgt := 96) dX2_countOrders_28 (by decide) ?_ ?_
  · refine s_iinc X (by decide) dX2_countOrders_96 ?_
    refine s_goto X (tgt := 17) dX2_countOrders_99 (by decide) ?_
    exact hJ 17
  · refine s_iconst X ⟨by decide, by decide⟩ dX2_countOrders_31 ?_
    refine s_istore X (by decide) dX2_countOrders_32 ?_
    exact hJ 34
set_option maxRecDepth 100000 in
def b_X2_countOrders_17 (J : Nat → List qV → List qV → qW → Prop) (Q : qR) : qK := x_iload 2 (x_int 9 (x_icmp_ge (x_vret Q) (x_int 0 (x_istore 3 (x_cut [0, 1, 2, 3] (J 25))))))
set_option maxRecDepth 100000 in
theorem s_X2_countOrders_17 {p : Program} {l : Launch} {e : Env} {R : Room} {s : State} {m : MethodId} {args : Array Value} {below : List Frame} {meth : Method} {c : Code} {nW : Nat} {dC : Nat → ClassId} {dI : Nat → Nat → Nat} {k : Nat → ClassId} {g : Nat → Nat} {A : Nat → Prop} {J : Nat → List qV → List qV → qW → Prop} {Q : qR} (X : q_X p R s m args meth c cX2_countOrders 6 nW 1 24 RX2 none dC dI k g A) (hJ : ∀ d : Nat, q_Sd p l e R s m args below meth c 6 nW dC dI k g A (MQ below (q_post (dC, dI) k g nW Q A) args s 0 0 A) d (x_cut (is_X2_countOrders d) (J d))) : q_Sd p l e R s m args below meth c 6 nW dC dI k g A (MQ below (q_post (dC, dI) k g nW Q A) args s 0 0 A) 17 (b_X2_countOrders_17 J Q) := by
  unfold b_X2_countOrders_17
  refine s_iload_n X rfl dX2_countOrders_17 ?_
  refine s_bipush X ⟨by decide, by decide⟩ (by decide) dX2_countOrders_18 ?_
  refine s_icmp_ge X (tgt := 102) dX2_countOrders_20 (by decide) ?_ ?_
  · exact s_vret X dX2_countOrders_102
  · refine s_iconst X ⟨by decide, by decide⟩ dX2_countOrders_23 ?_
    refine s_istore_n X rfl (by decide) dX2_countOrders_24 ?_
    exact hJ 25
set_option maxRecDepth 100000 in
def b_X2_countOrders_0 (J : Nat → List qV → List qV → qW → Prop) (Q : qR) : qK := x_aload 0 (x_get 2 0 (x_lng 0 (x_call none 2 sp_J7_fill_d0a16 (x_nw (x_aload 0 (x_get 2 0 (x_int 0 (x_lng 1 (x_last (x_nw (x_int 1 (x_istore 2 (x_cut [0, 1, 2] (J 17))))))))))))))
set_option maxRecDepth 100000 in
theorem s_X2_countOrders_0 {p : Program} {l : Launch} {e : Env} {R : Room} {s : State} {m : MethodId} {args : Array Value} {below : List Frame} {meth : Method} {c : Code} {nW : Nat} {dC : Nat → ClassId} {dI : Nat → Nat → Nat} {k : Nat → ClassId} {g : Nat → Nat} {A : Nat → Prop} {J : Nat → List qV → List qV → qW → Prop} {Q : qR} (X : q_X p R s m args meth c cX2_countOrders 6 nW 1 24 RX2 none dC dI k g A) (hJ : ∀ d : Nat, q_Sd p l e R s m args below meth c 6 nW dC dI k g A (MQ below (q_post (dC, dI) k g nW Q A) args s 0 0 A) d (x_cut (is_X2_countOrders d) (J d))) : q_Sd p l e R s m args below meth c 6 nW dC dI k g A (MQ below (q_post (dC, dI) k g nW Q A) args s 0 0 A) 0 (b_X2_countOrders_0 J Q) := by
  unfold b_X2_countOrders_0
  refine s_aload_n X rfl dX2_countOrders_0 ?_
  refine s_get X (T := TX2) (C := RX2) (N := 5) tu_X2 rfl (by decide) tw_314 dX2_countOrders_1 ?_
  refine s_lconst X ⟨by decide, by decide⟩ (by decide) dX2_countOrders_4 ?_
  refine s_callS X (m_J7_fill_d0a16 l) tw_827 tw_828 tw_123 tw_829 (by decide +kernel) ⟨by decide, by decide⟩ dX2_countOrders_5 ?_
  refine s_nw ?_
  refine s_aload_n X rfl dX2_countOrders_8 ?_
  refine s_get X (T := TX2) (C := RX2) (N := 5) tu_X2 rfl (by decide) tw_314 dX2_countOrders_9 ?_
  refine s_iconst X ⟨by decide, by decide⟩ dX2_countOrders_12 ?_
  refine s_lconst X ⟨by decide, by decide⟩ (by decide) dX2_countOrders_13 ?_
  refine s_last X dX2_countOrders_14 ?_
  refine s_nw ?_
  refine s_iconst X ⟨by decide, by decide⟩ dX2_countOrders_15 ?_
  refine s_istore_n X rfl (by decide) dX2_countOrders_16 ?_
  exact hJ 17

def sp_X2_countOrders : qS := fun av w Q => ∃ (o1 : Nat → Int) (a1 : Nat → Int) (m1 : Nat → Int) (s1 : Nat → Int) (g0 : Int) (f1 : Nat → Int) (f2 : Nat → Int) (f3 : Nat → Int) (f4 : Nat → Int) (f5 : Nat → Int) (f6 : Nat → Int) (f7 : Nat → Int) (u0 : Int) (u1 : Int) (u2 : Int) (u3 : Int) (u4 : Int), av = [q2 0, q2 5] ∧ w = (wGo 0 o1 a1 m1 s1 g0 ++ wBo 5 f1 f2 f3 f4 f5 f6 f7 u0 u1 u2 u3 u4) ∧ (q_rg 0 9 f3) ∧ (∀ (x1 : Nat → Int), Q none ((wGo 0 x1 a1 m1 s1 g0 ++ wBo 5 f1 f2 f3 f4 f5 f6 f7 u0 u1 u2 u3 u4)))
def I_X2_countOrders (o1 : Nat → Int) (a1 : Nat → Int) (m1 : Nat → Int) (s1 : Nat → Int) (g0 : Int) (f1 : Nat → Int) (f2 : Nat → Int) (f3 : Nat → Int) (f4 : Nat → Int) (f5 : Nat → Int) (f6 : Nat → Int) (f7 : Nat → Int) (u0 : Int) (u1 : Int) (u2 : Int) (u3 : Int) (u4 : Int) : Nat → Nat → List qV → List qV → qW → Prop := fun dz mz vz sz wz => if dz = 17 then (∃ (y1 : Nat → Int) (v2 : Int), vz = [q2 0, q2 5, q1 v2] ∧ sz = [] ∧ wz = (wGo 0 y1 a1 m1 s1 g0 ++ wBo 5 f1 f2 f3 f4 f5 f6 f7 u0 u1 u2 u3 u4) ∧ mz = 100000 * (9 - v2).toNat ∧ (1 ≤ v2 ∧ v2 ≤ 9)) else if dz = 25 then (∃ (y1 : Nat → Int) (v2 : Int) (v3 : Int), vz = [q2 0, q2 5, q1 v2, q1 v3] ∧ sz = [] ∧ wz = (wGo 0 y1 a1 m1 s1 g0 ++ wBo 5 f1 f2 f3 f4 f5 f6 f7 u0 u1 u2 u3 u4) ∧ mz = 100000 * (9 - v2).toNat - 50000 + 100 * (73 - v3).toNat ∧ (1 ≤ v2 ∧ v2 ≤ 8 ∧ 0 ≤ v3 ∧ v3 ≤ 73)) else if dz = 34 then (∃ (y1 : Nat → Int) (v2 : Int) (v3 : Int) (v4 : Int), vz = [q2 0, q2 5, q1 v2, q1 v3, q1 v4] ∧ sz = [] ∧ wz = (wGo 0 y1 a1 m1 s1 g0 ++ wBo 5 f1 f2 f3 f4 f5 f6 f7 u0 u1 u2 u3 u4) ∧ mz = 100000 * (9 - v2).toNat - 50000 + 100 * (73 - v3).toNat - 50 + (4 - v4).toNat ∧ (1 ≤ v2 ∧ v2 ≤ 8 ∧ 0 ≤ v3 ∧ v3 ≤ 72 ∧ 0 ≤ v4 ∧ v4 ≤ 4)) else False
set_option maxHeartbeats 4000000 in
set_option maxRecDepth 100000 in
theorem m_X2_countOrders (l : Launch) : q_M l yX2_countOrders cX2_countOrders 6 none 1 24 sp_X2_countOrders := by
  refine q_meth (by decide) (fun av w Q h => by obtain ⟨o1, a1, m1, s1, g0, f1, f2, f3, f4, f5, f6, f7, u0, u1, u2, u3, u4, rfl, rfl, hf, hQ⟩ := h; exact Nat.le_of_ble_eq_true rfl) ?_
  intro p e R s m args below meth c dC dI k g A av w Q hsp oka okw X
  obtain ⟨o1, a1, m1, s1, g0, f1, f2, f3, f4, f5, f6, f7, u0, u1, u2, u3, u4, rfl, rfl, hf, hQ⟩ := hsp
  refine s_mono (s_X2_countOrders_0 X (J := fun dz vz sz wz => ∃ mz, I_X2_countOrders o1 a1 m1 s1 g0 f1 f2 f3 f4 f5 f6 f7 u0 u1 u2 u3 u4 dz mz vz sz wz) (q_loopn (I_X2_countOrders o1 a1 m1 s1 g0 f1 f2 f3 f4 f5 f6 f7 u0 u1 u2 u3 u4) (fun dz J => if dz = 17 then b_X2_countOrders_17 J Q else if dz = 25 then b_X2_countOrders_25 J Q else if dz = 34 then b_X2_countOrders_34 J Q else q_F) ?hs ?hv)) ?_
  case hs =>
    intro d J hJ
    by_cases h17 : d = 17
    · subst h17; exact s_X2_countOrders_17 X hJ
    by_cases h25 : d = 25
    · subst h25; exact s_X2_countOrders_25 X hJ
    by_cases h34 : d = 34
    · subst h34; exact s_X2_countOrders_34 X hJ
    simp only [h17, h25, h34, if_false]
    exact s_F
  case hv =>
    intro dz mz vz sz wz hI okv oks okw hlen
    by_cases h17 : dz = 17
    · subst h17
      obtain ⟨y1, v2, rfl, rfl, rfl, hn, hp⟩ := hI
      apply And.intro
      · intro h20
        exact hQ _
      · intro h20
        exact ⟨_, ⟨_, _, _, rfl, rfl, rfl, rfl, (by first | omega | assumption | exact q_rg_up (by assumption) (by omega) | exact q_rg_up (q_rg_up (by assumption) (by omega)) (by omega) | exact q_rg_cpy (by assumption) (by assumption))⟩, by omega⟩
    by_cases h25 : dz = 25
    · subst h25
      obtain ⟨y1, v2, v3, rfl, rfl, rfl, hn, hp⟩ := hI
      apply And.intro
      · intro h28
        intro z96 h96
        first | replace h96 := e_add h96 (by omega) | replace h96 := e_rng h96
        exact ⟨_, ⟨_, _, rfl, rfl, rfl, rfl, (by first | omega | assumption | exact q_rg_up (by assumption) (by omega) | exact q_rg_up (q_rg_up (by assumption) (by omega)) (by omega) | exact q_rg_cpy (by assumption) (by assumption))⟩, by omega⟩
      · intro h28
        exact ⟨_, ⟨_, _, _, _, rfl, rfl, rfl, rfl, (by first | omega | assumption | exact q_rg_up (by assumption) (by omega) | exact q_rg_up (q_rg_up (by assumption) (by omega)) (by omega) | exact q_rg_cpy (by assumption) (by assumption))⟩, by omega⟩
    by_cases h34 : dz = 34
    · subst h34
      obtain ⟨y1, v2, v3, v4, rfl, rfl, rfl, hn, hp⟩ := hI
      apply And.intro
      · intro h37
        intro z90 h90
        first | replace h90 := e_add h90 (by omega) | replace h90 := e_rng h90
        exact ⟨_, ⟨_, _, _, rfl, rfl, rfl, rfl, (by first | omega | assumption | exact q_rg_up (by assumption) (by omega) | exact q_rg_up (q_rg_up (by assumption) (by omega)) (by omega) | exact q_rg_cpy (by assumption) (by assumption))⟩, by omega⟩
      · intro h37
        apply And.intro
        · exact ⟨by omega, by omega⟩
        intro z47 h47
        first | have a47 := q_rg_at hf h47 | skip
        intro z48 h48
        first | replace h48 := e_sub h48 (by omega) | replace h48 := e_rng h48
        apply And.intro
        · intro h53
          intro z84 h84
          first | replace h84 := e_add h84 (by omega) | replace h84 := e_rng h84
          exact ⟨_, ⟨_, _, _, _, rfl, rfl, rfl, rfl, (by first | omega | assumption | exact q_rg_up (by assumption) (by omega) | exact q_rg_up (q_rg_up (by assumption) (by omega)) (by omega) | exact q_rg_cpy (by assumption) (by assumption))⟩, by omega⟩
        · intro h53
          intro z63 h63
          first | replace h63 := e_mul h63 (by omega) | replace h63 := e_rng h63
          intro z65 h65
          first | replace h65 := e_add h65 (by omega) | replace h65 := e_rng h65
          apply And.intro
          · exact ⟨by omega, by omega⟩
          intro z67 h67
          first | have a67 := q_rg_at hf h67 | skip
          intro z76 h76
          first | replace h76 := e_sub h76 (by omega) | replace h76 := e_rng h76
          intro z77 h77
          first | replace h77 := e_mul h77 (by omega) | replace h77 := e_rng h77
          intro z80 h80
          first | replace h80 := e_add h80 (by omega) | replace h80 := e_rng h80
          apply And.intro
          · exact ⟨by omega, by omega⟩
          intro z81 h81
          first | have a81 := q_rg_at hf h81 | skip
          intro z82 h82
          replace h82 := e_rngl h82
          apply And.intro
          · exact ⟨by omega, by omega⟩
          intro z84 h84
          first | replace h84 := e_add h84 (by omega) | replace h84 := e_rng h84
          exact ⟨_, ⟨_, _, _, _, rfl, rfl, rfl, rfl, (by first | omega | assumption | exact q_rg_up (by assumption) (by omega) | exact q_rg_up (q_rg_up (by assumption) (by omega)) (by omega) | exact q_rg_cpy (by assumption) (by assumption))⟩, by omega⟩
    simp only [I_X2_countOrders, h17, h25, h34, if_false] at hI
  rintro lv st w' ⟨rfl, rfl, rfl⟩
  refine Exists.intro [1] (Exists.intro [q2 0, q3 _] (Exists.intro ([.inl (3, _, .inr (.inl _))]) (And.intro rfl (And.intro rfl (And.intro rfl (And.intro trivial ?_))))))
  refine Exists.intro _ (Exists.intro _ (Exists.intro _ (And.intro rfl (And.intro rfl (And.intro (by first | omega | assumption | exact q_rg_up (by assumption) (by omega) | exact q_rg_up (q_rg_up (by assumption) (by omega)) (by omega) | exact q_rg_cpy (by assumption) (by assumption)) (?_))))))
  intro g_5 h5
  apply And.intro
  · exact ⟨by omega, by omega⟩
  exact ⟨_, _, _, rfl, rfl, rfl, rfl, (by first | omega | assumption | exact q_rg_up (by assumption) (by omega) | exact q_rg_up (q_rg_up (by assumption) (by omega)) (by omega) | exact q_rg_cpy (by assumption) (by assumption))⟩

theorem dX2_ends_0 : decode cX2_ends 0 = .ok (.iload_n 2, 1) := by decide +kernel
theorem dX2_ends_1 : decode cX2_ends 1 = .ok (.iconst (-1), 1) := by decide +kernel
theorem dX2_ends_2 : decode cX2_ends 2 = .ok (.if_icmp .ne 5, 3) := by decide +kernel
theorem dX2_ends_5 : decode cX2_ends 5 = .ok (.lconst 0, 1) := by decide +kernel
theorem dX2_ends_6 : decode cX2_ends 6 = .ok (.lreturn, 1) := by decide +kernel
theorem dX2_ends_7 : decode cX2_ends 7 = .ok (.iload_n 2, 1) := by decide +kernel
theorem dX2_ends_8 : decode cX2_ends 8 = .ok (.ifCond .ne 7, 3) := by decide +kernel
theorem dX2_ends_11 : decode cX2_ends 11 = .ok (.iconst 0, 1) := by decide +kernel
theorem dX2_ends_12 : decode cX2_ends 12 = .ok (.goto 6, 3) := by decide +kernel
theorem dX2_ends_15 : decode cX2_ends 15 = .ok (.iload_n 1, 1) := by decide +kernel
theorem dX2_ends_16 : decode cX2_ends 16 = .ok (.iload_n 2, 1) := by decide +kernel
theorem dX2_ends_17 : decode cX2_ends 17 = .ok (.isub, 1) := by decide +kernel
theorem dX2_ends_18 : decode cX2_ends 18 = .ok (.istore 4, 2) := by decide +kernel
theorem dX2_ends_20 : decode cX2_ends 20 = .ok (.iload_n 2, 1) := by decide +kernel
theorem dX2_ends_21 : decode cX2_ends 21 = .ok (.ifCond .ne 9, 3) := by decide +kernel
theorem dX2_ends_24 : decode cX2_ends 24 = .ok (.iload_n 1, 1) := by decide +kernel
theorem dX2_ends_25 : decode cX2_ends 25 = .ok (.iconst 1, 1) := by decide +kernel
theorem dX2_ends_26 : decode cX2_ends 26 = .ok (.isub, 1) := by decide +kernel
theorem dX2_ends_27 : decode cX2_ends 27 = .ok (.goto 6, 3) := by decide +kernel
theorem dX2_ends_30 : decode cX2_ends 30 = .ok (.iload_n 1, 1) := by decide +kernel
theorem dX2_ends_31 : decode cX2_ends 31 = .ok (.iload_n 2, 1) := by decide +kernel
theorem dX2_ends_32 : decode cX2_ends 32 = .ok (.isub, 1) := by decide +kernel
theorem dX2_ends_33 : decode cX2_ends 33 = .ok (.istore 5, 2) := by decide +kernel
theorem dX2_ends_35 : decode cX2_ends 35 = .ok (.lconst 0, 1) := by decide +kernel
theorem dX2_ends_36 : decode cX2_ends 36 = .ok (.lstore 6, 2) := by decide +kernel
theorem dX2_ends_38 : decode cX2_ends 38 = .ok (.iconst 0, 1) := by decide +kernel
theorem dX2_ends_39 : decode cX2_ends 39 = .ok (.iload 4, 2) := by decide +kernel
theorem dX2_ends_41 : decode cX2_ends 41 = .ok (.invokestatic 74, 3) := by decide +kernel
theorem dX2_ends_44 : decode cX2_ends 44 = .ok (.istore 8, 2) := by decide +kernel
theorem dX2_ends_46 : decode cX2_ends 46 = .ok (.iload 8, 2) := by decide +kernel
theorem dX2_ends_48 : decode cX2_ends 48 = .ok (.iload 5, 2) := by decide +kernel
theorem dX2_ends_50 : decode cX2_ends 50 = .ok (.if_icmp .gt 33, 3) := by decide +kernel
theorem dX2_ends_53 : decode cX2_ends 53 = .ok (.iload 8, 2) := by decide +kernel
theorem dX2_ends_55 : decode cX2_ends 55 = .ok (.bipush 73, 2) := by decide +kernel
theorem dX2_ends_57 : decode cX2_ends 57 = .ok (.if_icmp .ge 26, 3) := by decide +kernel
theorem dX2_ends_60 : decode cX2_ends 60 = .ok (.lload 6, 2) := by decide +kernel
theorem dX2_ends_62 : decode cX2_ends 62 = .ok (.aload_n 0, 1) := by decide +kernel
theorem dX2_ends_63 : decode cX2_ends 63 = .ok (.getfield 11, 3) := by decide +kernel
theorem dX2_ends_66 : decode cX2_ends 66 = .ok (.bipush 73, 2) := by decide +kernel
theorem dX2_ends_68 : decode cX2_ends 68 = .ok (.iload_n 3, 1) := by decide +kernel
theorem dX2_ends_69 : decode cX2_ends 69 = .ok (.imul, 1) := by decide +kernel
theorem dX2_ends_70 : decode cX2_ends 70 = .ok (.iload 8, 2) := by decide +kernel
theorem dX2_ends_72 : decode cX2_ends 72 = .ok (.iadd, 1) := by decide +kernel
theorem dX2_ends_73 : decode cX2_ends 73 = .ok (.laload, 1) := by decide +kernel
theorem dX2_ends_74 : decode cX2_ends 74 = .ok (.ladd, 1) := by decide +kernel
theorem dX2_ends_75 : decode cX2_ends 75 = .ok (.lstore 6, 2) := by decide +kernel
theorem dX2_ends_77 : decode cX2_ends 77 = .ok (.iinc 8 1, 3) := by decide +kernel
theorem dX2_ends_80 : decode cX2_ends 80 = .ok (.goto (-34), 3) := by decide +kernel
theorem dX2_ends_83 : decode cX2_ends 83 = .ok (.lload 6, 2) := by decide +kernel
theorem dX2_ends_85 : decode cX2_ends 85 = .ok (.lreturn, 1) := by decide +kernel
def is_X2_ends : Nat → List Nat := fun d => if d = 46 then [0, 3, 5, 6, 8] else []
set_option maxRecDepth 100000 in
def b_X2_ends_83 (J : Nat → List qV → List qV → qW → Prop) (Q : qR) : qK := x_lload 6 (x_lret Q)
set_option maxRecDepth 100000 in
theorem s_X2_ends_83 {p : Program} {l : Launch} {e : Env} {R : Room} {s : State} {m : MethodId} {args : Array Value} {below : List Frame} {meth : Method} {c : Code} {nW : Nat} {dC : Nat → ClassId} {dI : Nat → Nat → Nat} {k : Nat → ClassId} {g : Nat → Nat} {A : Nat → Prop} {J : Nat → List qV → List qV → qW → Prop} {Q : qR} (X : q_X p R s m args meth c cX2_ends 9 nW 1 21 RX2 (some .long) dC dI k g A) (hJ : ∀ d : Nat, q_Sd p l e R s m args below meth c 9 nW dC dI k g A (MQ below (q_post (dC, dI) k g nW Q A) args s 0 0 A) d (x_cut (is_X2_ends d) (J d))) : q_Sd p l e R s m args below meth c 9 nW dC dI k g A (MQ below (q_post (dC, dI) k g nW Q A) args s 0 0 A) 83 (b_X2_ends_83 J Q) := by
  unfold b_X2_ends_83
  refine s_lload X dX2_ends_83 ?_
  exact s_lret X dX2_ends_85
set_option maxRecDepth 100000 in
def b_X2_ends_46 (J : Nat → List qV → List qV → qW → Prop) (Q : qR) : qK := x_iload 8 (x_iload 5 (x_icmp_gt (b_X2_ends_83 J Q) (x_iload 8 (x_int 73 (x_icmp_ge (b_X2_ends_83 J Q) (x_lload 6 (x_aload 0 (x_get 2 0 (x_int 73 (x_iload 3 (x_imul (x_iload 8 (x_iadd (x_lald (x_ladd (x_lstore 6 (x_iinc 8 1 (x_cut [0, 3, 5, 6, 8] (J 46)))))))))))))))))))
set_option maxRecDepth 100000 in
theorem s_X2_ends_46 {p : Program} {l : Launch} {e : Env} {R : Room} {s : State} {m : MethodId} {args : Array Value} {below : List Frame} {meth : Method} {c : Code} {nW : Nat} {dC : Nat → ClassId} {dI : Nat → Nat → Nat} {k : Nat → ClassId} {g : Nat → Nat} {A : Nat → Prop} {J : Nat → List qV → List qV → qW → Prop} {Q : qR} (X : q_X p R s m args meth c cX2_ends 9 nW 1 21 RX2 (some .long) dC dI k g A) (hJ : ∀ d : Nat, q_Sd p l e R s m args below meth c 9 nW dC dI k g A (MQ below (q_post (dC, dI) k g nW Q A) args s 0 0 A) d (x_cut (is_X2_ends d) (J d))) : q_Sd p l e R s m args below meth c 9 nW dC dI k g A (MQ below (q_post (dC, dI) k g nW Q A) args s 0 0 A) 46 (b_X2_ends_46 J Q) := by
  unfold b_X2_ends_46
  refine s_iload X dX2_ends_46 ?_
  refine s_iload X dX2_ends_48 ?_
  refine s_icmp_gt X (tgt := 83) dX2_ends_50 (by decide) ?_ ?_
  · exact s_X2_ends_83 X hJ
  · refine s_iload X dX2_ends_53 ?_
    refine s_bipush X ⟨by decide, by decide⟩ (by decide) dX2_ends_55 ?_
    refine s_icmp_ge X (tgt := 83) dX2_ends_57 (by decide) ?_ ?_
    · exact s_X2_ends_83 X hJ
    · refine s_lload X dX2_ends_60 ?_
      refine s_aload_n X rfl dX2_ends_62 ?_
      refine s_get X (T := TX2) (C := RX2) (N := 5) tu_X2 rfl (by decide) tw_314 dX2_ends_63 ?_
      refine s_bipush X ⟨by decide, by decide⟩ (by decide) dX2_ends_66 ?_
      refine s_iload_n X rfl dX2_ends_68 ?_
      refine s_imul X dX2_ends_69 ?_
      refine s_iload X dX2_ends_70 ?_
      refine s_iadd X dX2_ends_72 ?_
      refine s_lald X dX2_ends_73 ?_
      refine s_ladd X dX2_ends_74 ?_
      refine s_lstore X (by decide) dX2_ends_75 ?_
      refine s_iinc X (by decide) dX2_ends_77 ?_
      refine s_goto X (tgt := 46) dX2_ends_80 (by decide) ?_
      exact hJ 46
set_option maxRecDepth 100000 in
def b_X2_ends_33 (J : Nat → List qV → List qV → qW → Prop) (Q : qR) : qK := x_istore 5 (x_lng 0 (x_lstore 6 (x_int 0 (x_iload 4 (x_max (x_istore 8 (x_cut [0, 3, 5, 6, 8] (J 46))))))))
set_option maxRecDepth 100000 in
theorem s_X2_ends_33 {p : Program} {l : Launch} {e : Env} {R : Room} {s : State} {m : MethodId} {args : Array Value} {below : List Frame} {meth : Method} {c : Code} {nW : Nat} {dC : Nat → ClassId} {dI : Nat → Nat → Nat} {k : Nat → ClassId} {g : Nat → Nat} {A : Nat → Prop} {J : Nat → List qV → List qV → qW → Prop} {Q : qR} (X : q_X p R s m args meth c cX2_ends 9 nW 1 21 RX2 (some .long) dC dI k g A) (hJ : ∀ d : Nat, q_Sd p l e R s m args below meth c 9 nW dC dI k g A (MQ below (q_post (dC, dI) k g nW Q A) args s 0 0 A) d (x_cut (is_X2_ends d) (J d))) : q_Sd p l e R s m args below meth c 9 nW dC dI k g A (MQ below (q_post (dC, dI) k g nW Q A) args s 0 0 A) 33 (b_X2_ends_33 J Q) := by
  unfold b_X2_ends_33
  refine s_istore X (by decide) dX2_ends_33 ?_
  refine s_lconst X ⟨by decide, by decide⟩ (by decide) dX2_ends_35 ?_
  refine s_lstore X (by decide) dX2_ends_36 ?_
  refine s_iconst X ⟨by decide, by decide⟩ dX2_ends_38 ?_
  refine s_iload X dX2_ends_39 ?_
  refine s_max X tw_833 tw_531 tw_135 tw_532 ⟨by decide, by decide⟩ dX2_ends_41 ?_
  refine s_istore X (by decide) dX2_ends_44 ?_
  exact hJ 46
set_option maxRecDepth 100000 in
def b_X2_ends_18 (J : Nat → List qV → List qV → qW → Prop) (Q : qR) : qK := x_istore 4 (x_iload 2 (x_if_ne (x_iload 1 (x_iload 2 (x_isub (b_X2_ends_33 J Q)))) (x_iload 1 (x_int 1 (x_isub (b_X2_ends_33 J Q))))))
set_option maxRecDepth 100000 in
theorem s_X2_ends_18 {p : Program} {l : Launch} {e : Env} {R : Room} {s : State} {m : MethodId} {args : Array Value} {below : List Frame} {meth : Method} {c : Code} {nW : Nat} {dC : Nat → ClassId} {dI : Nat → Nat → Nat} {k : Nat → ClassId} {g : Nat → Nat} {A : Nat → Prop} {J : Nat → List qV → List qV → qW → Prop} {Q : qR} (X : q_X p R s m args meth c cX2_ends 9 nW 1 21 RX2 (some .long) dC dI k g A) (hJ : ∀ d : Nat, q_Sd p l e R s m args below meth c 9 nW dC dI k g A (MQ below (q_post (dC, dI) k g nW Q A) args s 0 0 A) d (x_cut (is_X2_ends d) (J d))) : q_Sd p l e R s m args below meth c 9 nW dC dI k g A (MQ below (q_post (dC, dI) k g nW Q A) args s 0 0 A) 18 (b_X2_ends_18 J Q) := by
  unfold b_X2_ends_18
  refine s_istore X (by decide) dX2_ends_18 ?_
  refine s_iload_n X rfl dX2_ends_20 ?_
  refine s_if_ne X (tgt := 30) dX2_ends_21 (by decide) ?_ ?_
  · refine s_iload_n X rfl dX2_ends_30 ?_
    refine s_iload_n X rfl dX2_ends_31 ?_
    refine s_isub X dX2_ends_32 ?_
    exact s_X2_ends_33 X hJ
  · refine s_iload_n X rfl dX2_ends_24 ?_
    refine s_iconst X ⟨by decide, by decide⟩ dX2_ends_25 ?_
    refine s_isub X dX2_ends_26 ?_
    refine s_goto X (tgt := 33) dX2_ends_27 (by decide) ?_
    exact s_X2_ends_33 X hJ
set_option maxRecDepth 100000 in
def b_X2_ends_0 (J : Nat → List qV → List qV → qW → Prop) (Q : qR) : qK := x_iload 2 (x_int (-1) (x_icmp_ne (x_iload 2 (x_if_ne (x_iload 1 (x_iload 2 (x_isub (b_X2_ends_18 J Q)))) (x_int 0 (b_X2_ends_18 J Q)))) (x_lng 0 (x_lret Q))))
set_option maxRecDepth 100000 in
theorem s_X2_ends_0 {p : Program} {l : Launch} {e : Env} {R : Room} {s : State} {m : MethodId} {args : Array Value} {below : List Frame} {meth : Method} {c : Code} {nW : Nat} {dC : Nat → ClassId} {dI : Nat → Nat → Nat} {k : Nat → ClassId} {g : Nat → Nat} {A : Nat → Prop} {J : Nat → List qV → List qV → qW → Prop} {Q : qR} (X : q_X p R s m args meth c cX2_ends 9 nW 1 21 RX2 (some .long) dC dI k g A) (hJ : ∀ d : Nat, q_Sd p l e R s m args below meth c 9 nW dC dI k g A (MQ below (q_post (dC, dI) k g nW Q A) args s 0 0 A) d (x_cut (is_X2_ends d) (J d))) : q_Sd p l e R s m args below meth c 9 nW dC dI k g A (MQ below (q_post (dC, dI) k g nW Q A) args s 0 0 A) 0 (b_X2_ends_0 J Q) := by
  unfold b_X2_ends_0
  refine s_iload_n X rfl dX2_ends_0 ?_
  refine s_iconst X ⟨by decide, by decide⟩ dX2_ends_1 ?_
  refine s_icmp_ne X (tgt := 7) dX2_ends_2 (by decide) ?_ ?_
  · refine s_iload_n X rfl dX2_ends_7 ?_
    refine s_if_ne X (tgt := 15) dX2_ends_8 (by decide) ?_ ?_
    · refine s_iload_n X rfl dX2_ends_15 ?_
      refine s_iload_n X rfl dX2_ends_16 ?_
      refine s_isub X dX2_ends_17 ?_
      exact s_X2_ends_18 X hJ
    · refine s_iconst X ⟨by decide, by decide⟩ dX2_ends_11 ?_
      refine s_goto X (tgt := 18) dX2_ends_12 (by decide) ?_
      exact s_X2_ends_18 X hJ
  · refine s_lconst X ⟨by decide, by decide⟩ (by decide) dX2_ends_5 ?_
    exact s_lret X dX2_ends_6

def spr_X2_ends : List qV → qW → (Option qV → Prop) → Prop := fun av w Q => ∃ (o1 : Nat → Int) (a1 : Nat → Int) (m1 : Nat → Int) (s1 : Nat → Int) (g0 : Int) (a : Int) (b : Int) (q : Int), av = [q2 0, q1 a, q1 b, q1 q] ∧ w = (wGo 0 o1 a1 m1 s1 g0) ∧ (0 ≤ q ∧ q ≤ 8) ∧ (∀ (r : Int) , Q (some (q3 r)))
def sp_X2_ends : qS := fun av w Q => spr_X2_ends av w (fun r => Q r w)
def I_X2_ends (o1 : Nat → Int) (a1 : Nat → Int) (m1 : Nat → Int) (s1 : Nat → Int) (g0 : Int) (a : Int) (b : Int) (q : Int) : Nat → Nat → List qV → List qV → qW → Prop := fun dz mz vz sz wz => if dz = 46 then (∃ (v5 : Int) (v6 : Int) (v8 : Int), vz = [q2 0, q1 q, q1 v5, q3 v6, q1 v8] ∧ sz = [] ∧ wz = (wGo 0 o1 a1 m1 s1 g0) ∧ mz = (73 - v8).toNat ∧ (0 ≤ v8)) else False
set_option maxHeartbeats 4000000 in
set_option maxRecDepth 100000 in
theorem m_X2_ends (l : Launch) : q_M l yX2_ends cX2_ends 9 (some .long) 1 21 sp_X2_ends := by
  refine q_meth (by decide) (fun av w Q h => by obtain ⟨o1, a1, m1, s1, g0, a, b, q, rfl, rfl, hq, hQ⟩ := h; exact Nat.le_of_ble_eq_true rfl) ?_
  intro p e R s m args below meth c dC dI k g A av w Q hsp oka okw X
  obtain ⟨o1, a1, m1, s1, g0, a, b, q, rfl, rfl, hq, hQ⟩ := hsp
  have o_a : -2147483648 ≤ a ∧ a ≤ 2147483647 := oka _ (List.mem_of_getElem? (i := 1) rfl)
  have o_b : -2147483648 ≤ b ∧ b ≤ 2147483647 := oka _ (List.mem_of_getElem? (i := 2) rfl)
  have o_q : -2147483648 ≤ q ∧ q ≤ 2147483647 := oka _ (List.mem_of_getElem? (i := 3) rfl)
  refine s_mono (s_X2_ends_0 X (J := fun dz vz sz wz => ∃ mz, I_X2_ends o1 a1 m1 s1 g0 a b q dz mz vz sz wz) (q_loopn (I_X2_ends o1 a1 m1 s1 g0 a b q) (fun dz J => if dz = 46 then b_X2_ends_46 J Q else q_F) ?hs ?hv)) ?_
  case hs =>
    intro d J hJ
    by_cases h46 : d = 46
    · subst h46; exact s_X2_ends_46 X hJ
    simp only [h46, if_false]
    exact s_F
  case hv =>
    intro dz mz vz sz wz hI okv oks okw hlen
    by_cases h46 : dz = 46
    · subst h46
      obtain ⟨v5, v6, v8, rfl, rfl, rfl, hn, hp⟩ := hI
      apply And.intro
      · intro h50
        exact hQ _
      · intro h50
        apply And.intro
        · intro h57
          exact hQ _
        · intro h57
          intro z69 h69
          first | replace h69 := e_mul h69 (by omega) | replace h69 := e_rng h69
          intro z72 h72
          first | replace h72 := e_add h72 (by omega) | replace h72 := e_rng h72
          apply And.intro
          · exact ⟨by omega, by omega⟩
          intro z73 h73
          intro z74 h74
          replace h74 := e_rngl h74
          intro z77 h77
          first | replace h77 := e_add h77 (by omega) | replace h77 := e_rng h77
          exact ⟨_, ⟨_, _, _, rfl, rfl, rfl, rfl, (by first | omega | assumption | exact q_rg_up (by assumption) (by omega) | exact q_rg_up (q_rg_up (by assumption) (by omega)) (by omega) | exact q_rg_cpy (by assumption) (by assumption))⟩, by omega⟩
    simp only [I_X2_ends, h46, if_false] at hI
  rintro lv st w' ⟨rfl, rfl, rfl⟩
  apply And.intro
  · intro h2
    apply And.intro
    · intro h8
      intro z17 h17
      first | replace h17 := e_sub h17 (by omega) | replace h17 := e_rng h17
      apply And.intro
      · intro h21
        intro z32 h32
        first | replace h32 := e_sub h32 (by omega) | replace h32 := e_rng h32
        intro z41 h41
        exact ⟨_, _, _, _, rfl, rfl, rfl, rfl, (by first | omega | assumption | exact q_rg_up (by assumption) (by omega) | exact q_rg_up (q_rg_up (by assumption) (by omega)) (by omega) | exact q_rg_cpy (by assumption) (by assumption))⟩
      · intro h21
        intro z26 h26
        first | replace h26 := e_sub h26 (by omega) | replace h26 := e_rng h26
        intro z41 h41
        exact ⟨_, _, _, _, rfl, rfl, rfl, rfl, (by first | omega | assumption | exact q_rg_up (by assumption) (by omega) | exact q_rg_up (q_rg_up (by assumption) (by omega)) (by omega) | exact q_rg_cpy (by assumption) (by assumption))⟩
    · intro h8
      apply And.intro
      · intro h21
        intro z32 h32
        first | replace h32 := e_sub h32 (by omega) | replace h32 := e_rng h32
        intro z41 h41
        exact ⟨_, _, _, _, rfl, rfl, rfl, rfl, (by first | omega | assumption | exact q_rg_up (by assumption) (by omega) | exact q_rg_up (q_rg_up (by assumption) (by omega)) (by omega) | exact q_rg_cpy (by assumption) (by assumption))⟩
      · intro h21
        intro z26 h26
        first | replace h26 := e_sub h26 (by omega) | replace h26 := e_rng h26
        intro z41 h41
        exact ⟨_, _, _, _, rfl, rfl, rfl, rfl, (by first | omega | assumption | exact q_rg_up (by assumption) (by omega) | exact q_rg_up (q_rg_up (by assumption) (by omega)) (by omega) | exact q_rg_cpy (by assumption) (by assumption))⟩
  · intro h2
    exact hQ _

theorem dX2_gatherFacts_0 : decode cX2_gatherFacts 0 = .ok (.aload_n 0, 1) := by decide +kernel
theorem dX2_gatherFacts_1 : decode cX2_gatherFacts 1 = .ok (.getfield 21, 3) := by decide +kernel
theorem dX2_gatherFacts_4 : decode cX2_gatherFacts 4 = .ok (.iconst 0, 1) := by decide +kernel
theorem dX2_gatherFacts_5 : decode cX2_gatherFacts 5 = .ok (.invokestatic 47, 3) := by decide +kernel
theorem dX2_gatherFacts_8 : decode cX2_gatherFacts 8 = .ok (.iconst 0, 1) := by decide +kernel
theorem dX2_gatherFacts_9 : decode cX2_gatherFacts 9 = .ok (.istore_n 3, 1) := by decide +kernel
theorem dX2_gatherFacts_10 : decode cX2_gatherFacts 10 = .ok (.iload_n 3, 1) := by decide +kernel
theorem dX2_gatherFacts_11 : decode cX2_gatherFacts 11 = .ok (.aload_n 2, 1) := by decide +kernel
theorem dX2_gatherFacts_12 : decode cX2_gatherFacts 12 = .ok (.getfield 53, 3) := by decide +kernel
theorem dX2_gatherFacts_15 : decode cX2_gatherFacts 15 = .ok (.if_icmp .ge 77, 3) := by decide +kernel
theorem dX2_gatherFacts_18 : decode cX2_gatherFacts 18 = .ok (.iload_n 3, 1) := by decide +kernel
theorem dX2_gatherFacts_19 : decode cX2_gatherFacts 19 = .ok (.bipush 10, 2) := by decide +kernel
theorem dX2_gatherFacts_21 : decode cX2_gatherFacts 21 = .ok (.if_icmp .ge 71, 3) := by decide +kernel
theorem dX2_gatherFacts_24 : decode cX2_gatherFacts 24 = .ok (.aload_n 2, 1) := by decide +kernel
theorem dX2_gatherFacts_25 : decode cX2_gatherFacts 25 = .ok (.getfield 58, 3) := by decide +kernel
theorem dX2_gatherFacts_28 : decode cX2_gatherFacts 28 = .ok (.iload_n 3, 1) := by decide +kernel
theorem dX2_gatherFacts_29 : decode cX2_gatherFacts 29 = .ok (.iaload, 1) := by decide +kernel
theorem dX2_gatherFacts_30 : decode cX2_gatherFacts 30 = .ok (.istore 4, 2) := by decide +kernel
theorem dX2_gatherFacts_32 : decode cX2_gatherFacts 32 = .ok (.aload_n 1, 1) := by decide +kernel
theorem dX2_gatherFacts_33 : decode cX2_gatherFacts 33 = .ok (.iload 4, 2) := by decide +kernel
theorem dX2_gatherFacts_35 : decode cX2_gatherFacts 35 = .ok (.invokevirtual 61, 3) := by decide +kernel
theorem dX2_gatherFacts_38 : decode cX2_gatherFacts 38 = .ok (.ifCond .ne 5, 3) := by decide +kernel
theorem dX2_gatherFacts_41 : decode cX2_gatherFacts 41 = .ok (.iconst 0, 1) := by decide +kernel
theorem dX2_gatherFacts_42 : decode cX2_gatherFacts 42 = .ok (.ireturn, 1) := by decide +kernel
theorem dX2_gatherFacts_43 : decode cX2_gatherFacts 43 = .ok (.aload_n 0, 1) := by decide +kernel
theorem dX2_gatherFacts_44 : decode cX2_gatherFacts 44 = .ok (.getfield 21, 3) := by decide +kernel
theorem dX2_gatherFacts_47 : decode cX2_gatherFacts 47 = .ok (.iload 4, 2) := by decide +kernel
theorem dX2_gatherFacts_49 : decode cX2_gatherFacts 49 = .ok (.aload_n 0, 1) := by decide +kernel
theorem dX2_gatherFacts_50 : decode cX2_gatherFacts 50 = .ok (.getfield 21, 3) := by decide +kernel
theorem dX2_gatherFacts_53 : decode cX2_gatherFacts 53 = .ok (.iload 4, 2) := by decide +kernel
theorem dX2_gatherFacts_55 : decode cX2_gatherFacts 55 = .ok (.iaload, 1) := by decide +kernel
theorem dX2_gatherFacts_56 : decode cX2_gatherFacts 56 = .ok (.ifCond .eq 19, 3) := by decide +kernel
theorem dX2_gatherFacts_59 : decode cX2_gatherFacts 59 = .ok (.aload_n 0, 1) := by decide +kernel
theorem dX2_gatherFacts_60 : decode cX2_gatherFacts 60 = .ok (.getfield 21, 3) := by decide +kernel
theorem dX2_gatherFacts_63 : decode cX2_gatherFacts 63 = .ok (.iload 4, 2) := by decide +kernel
theorem dX2_gatherFacts_65 : decode cX2_gatherFacts 65 = .ok (.iaload, 1) := by decide +kernel
theorem dX2_gatherFacts_66 : decode cX2_gatherFacts 66 = .ok (.aload_n 2, 1) := by decide +kernel
theorem dX2_gatherFacts_67 : decode cX2_gatherFacts 67 = .ok (.getfield 65, 3) := by decide +kernel
theorem dX2_gatherFacts_70 : decode cX2_gatherFacts 70 = .ok (.iload_n 3, 1) := by decide +kernel
theorem dX2_gatherFacts_71 : decode cX2_gatherFacts 71 = .ok (.iaload, 1) := by decide +kernel
theorem dX2_gatherFacts_72 : decode cX2_gatherFacts 72 = .ok (.if_icmp .ne 12, 3) := by decide +kernel
theorem dX2_gatherFacts_75 : decode cX2_gatherFacts 75 = .ok (.aload_n 2, 1) := by decide +kernel
theorem dX2_gatherFacts_76 : decode cX2_gatherFacts 76 = .ok (.getfield 65, 3) := by decide +kernel
theorem dX2_gatherFacts_79 : decode cX2_gatherFacts 79 = .ok (.iload_n 3, 1) := by decide +kernel
theorem dX2_gatherFacts_80 : decode cX2_gatherFacts 80 = .ok (.iaload, 1) := by decide +kernel
theorem dX2_gatherFacts_81 : decode cX2_gatherFacts 81 = .ok (.goto 4, 3) := by decide +kernel
theorem dX2_gatherFacts_84 : decode cX2_gatherFacts 84 = .ok (.iconst (-1), 1) := by decide +kernel
theorem dX2_gatherFacts_85 : decode cX2_gatherFacts 85 = .ok (.iastore, 1) := by decide +kernel
theorem dX2_gatherFacts_86 : decode cX2_gatherFacts 86 = .ok (.iinc 3 1, 3) := by decide +kernel
theorem dX2_gatherFacts_89 : decode cX2_gatherFacts 89 = .ok (.goto (-79), 3) := by decide +kernel
theorem dX2_gatherFacts_92 : decode cX2_gatherFacts 92 = .ok (.iconst 1, 1) := by decide +kernel
theorem dX2_gatherFacts_93 : decode cX2_gatherFacts 93 = .ok (.ireturn, 1) := by decide +kernel
def is_X2_gatherFacts : Nat → List Nat := fun d => if d = 10 then [0, 1, 2, 3] else []
set_option maxRecDepth 100000 in
def b_X2_gatherFacts_92 (J : Nat → List qV → List qV → qW → Prop) (Q : qR) : qK := x_int 1 (x_zret Q)
set_option maxRecDepth 100000 in
theorem s_X2_gatherFacts_92 {p : Program} {l : Launch} {e : Env} {R : Room} {s : State} {m : MethodId} {args : Array Value} {below : List Frame} {meth : Method} {c : Code} {nW : Nat} {dC : Nat → ClassId} {dI : Nat → Nat → Nat} {k : Nat → ClassId} {g : Nat → Nat} {A : Nat → Prop} {J : Nat → List qV → List qV → qW → Prop} {Q : qR} (X : q_X p R s m args meth c cX2_gatherFacts 5 nW 1 23 RX2 (some .boolean) dC dI k g A) (hJ : ∀ d : Nat, q_Sd p l e R s m args below meth c 5 nW dC dI k g A (MQ below (q_post (dC, dI) k g nW Q A) args s 0 0 A) d (x_cut (is_X2_gatherFacts d) (J d))) : q_Sd p l e R s m args below meth c 5 nW dC dI k g A (MQ below (q_post (dC, dI) k g nW Q A) args s 0 0 A) 92 (b_X2_gatherFacts_92 J Q) := by
  unfold b_X2_gatherFacts_92
  refine s_iconst X ⟨by decide, by decide⟩ dX2_gatherFacts_92 ?_
  exact s_zret X dX2_gatherFacts_93
set_option maxRecDepth 100000 in
def b_X2_gatherFacts_85 (J : Nat → List qV → List qV → qW → Prop) (Q : qR) : qK := x_iast (x_nw (x_iinc 3 1 (x_cut [0, 1, 2, 3] (J 10))))
set_option maxRecDepth 100000 in
theorem s_X2_gatherFacts_85 {p : Program} {l : Launch} {e : Env} {R : Room} {s : State} {m : MethodId} {args : Array Value} {below : List Frame} {meth : Method} {c : Code} {nW : Nat} {dC : Nat → ClassId} {dI : Nat → Nat → Nat} {k : Nat → ClassId} {g : Nat → Nat} {A : Nat → Prop} {J : Nat → List qV → List qV → qW → Prop} {Q : qR} (X : q_X p R s m args meth c cX2_gatherFacts 5 nW 1 23 RX2 (some .boolean) dC dI k g A) (hJ : ∀ d : Nat, q_Sd p l e R s m args below meth c 5 nW dC dI k g A (MQ below (q_post (dC, dI) k g nW Q A) args s 0 0 A) d (x_cut (is_X2_gatherFacts d) (J d))) : q_Sd p l e R s m args below meth c 5 nW dC dI k g A (MQ below (q_post (dC, dI) k g nW Q A) args s 0 0 A) 85 (b_X2_gatherFacts_85 J Q) := by
  unfold b_X2_gatherFacts_85
  refine s_iast X dX2_gatherFacts_85 ?_
  refine s_nw ?_
  refine s_iinc X (by decide) dX2_gatherFacts_86 ?_
  refine s_goto X (tgt := 10) dX2_gatherFacts_89 (by decide) ?_
  exact hJ 10
set_option maxRecDepth 100000 in
def b_X2_gatherFacts_75 (J : Nat → List qV → List qV → qW → Prop) (Q : qR) : qK := x_aload 2 (x_get 7 1 (x_iload 3 (x_iald (b_X2_gatherFacts_85 J Q))))
set_option maxRecDepth 100000 in
theorem s_X2_gatherFacts_75 {p : Program} {l : Launch} {e : Env} {R : Room} {s : State} {m : MethodId} {args : Array Value} {below : List Frame} {meth : Method} {c : Code} {nW : Nat} {dC : Nat → ClassId} {dI : Nat → Nat → Nat} {k : Nat → ClassId} {g : Nat → Nat} {A : Nat → Prop} {J : Nat → List qV → List qV → qW → Prop} {Q : qR} (X : q_X p R s m args meth c cX2_gatherFacts 5 nW 1 23 RX2 (some .boolean) dC dI k g A) (hJ : ∀ d : Nat, q_Sd p l e R s m args below meth c 5 nW dC dI k g A (MQ below (q_post (dC, dI) k g nW Q A) args s 0 0 A) d (x_cut (is_X2_gatherFacts d) (J d))) : q_Sd p l e R s m args below meth c 5 nW dC dI k g A (MQ below (q_post (dC, dI) k g nW Q A) args s 0 0 A) 75 (b_X2_gatherFacts_75 J Q) := by
  unfold b_X2_gatherFacts_75
  refine s_aload_n X rfl dX2_gatherFacts_75 ?_
  refine s_get X (T := TX7) (C := RX7) (N := 3) tu_X7 rfl (by decide) tw_244 dX2_gatherFacts_76 ?_
  refine s_iload_n X rfl dX2_gatherFacts_79 ?_
  refine s_iald X dX2_gatherFacts_80 ?_
  refine s_goto X (tgt := 85) dX2_gatherFacts_81 (by decide) ?_
  exact s_X2_gatherFacts_85 X hJ
set_option maxRecDepth 100000 in
def b_X2_gatherFacts_55 (J : Nat → List qV → List qV → qW → Prop) (Q : qR) : qK := x_iald (x_if_eq (b_X2_gatherFacts_75 J Q) (x_aload 0 (x_get 2 3 (x_iload 4 (x_iald (x_aload 2 (x_get 7 1 (x_iload 3 (x_iald (x_icmp_ne (x_int (-1) (b_X2_gatherFacts_85 J Q)) (b_X2_gatherFacts_75 J Q)))))))))))
set_option maxRecDepth 100000 in
theorem s_X2_gatherFacts_55 {p : Program} {l : Launch} {e : Env} {R : Room} {s : State} {m : MethodId} {args : Array Value} {below : List Frame} {meth : Method} {c : Code} {nW : Nat} {dC : Nat → ClassId} {dI : Nat → Nat → Nat} {k : Nat → ClassId} {g : Nat → Nat} {A : Nat → Prop} {J : Nat → List qV → List qV → qW → Prop} {Q : qR} (X : q_X p R s m args meth c cX2_gatherFacts 5 nW 1 23 RX2 (some .boolean) dC dI k g A) (hJ : ∀ d : Nat, q_Sd p l e R s m args below meth c 5 nW dC dI k g A (MQ below (q_post (dC, dI) k g nW Q A) args s 0 0 A) d (x_cut (is_X2_gatherFacts d) (J d))) : q_Sd p l e R s m args below meth c 5 nW dC dI k g A (MQ below (q_post (dC, dI) k g nW Q A) args s 0 0 A) 55 (b_X2_gatherFacts_55 J Q) := by
  unfold b_X2_gatherFacts_55
  refine s_iald X dX2_gatherFacts_55 ?_
  refine s_if_eq X (tgt := 75) dX2_gatherFacts_56 (by decide) ?_ ?_
  · exact s_X2_gatherFacts_75 X hJ
  · refine s_aload_n X rfl dX2_gatherFacts_59 ?_
    refine s_get X (T := TX2) (C := RX2) (N := 5) tu_X2 rfl (by decide) tw_317 dX2_gatherFacts_60 ?_
    refine s_iload X dX2_gatherFacts_63 ?_
    refine s_iald X dX2_gatherFacts_65 ?_
    refine s_aload_n X rfl dX2_gatherFacts_66 ?_
    refine s_get X (T := TX7) (C := RX7) (N := 3) tu_X7 rfl (by decide) tw_244 dX2_gatherFacts_67 ?_
    refine s_iload_n X rfl dX2_gatherFacts_70 ?_
    refine s_iald X dX2_gatherFacts_71 ?_
    refine s_icmp_ne X (tgt := 84) dX2_gatherFacts_72 (by decide) ?_ ?_
    · refine s_iconst X ⟨by decide, by decide⟩ dX2_gatherFacts_84 ?_
      exact s_X2_gatherFacts_85 X hJ
    · exact s_X2_gatherFacts_75 X hJ
set_option maxRecDepth 100000 in
def b_X2_gatherFacts_10 (J : Nat → List qV → List qV → qW → Prop) (Q : qR) : qK := x_iload 3 (x_aload 2 (x_get 7 2 (x_icmp_ge (b_X2_gatherFacts_92 J Q) (x_iload 3 (x_int 10 (x_icmp_ge (b_X2_gatherFacts_92 J Q) (x_aload 2 (x_get 7 0 (x_iload 3 (x_iald (x_istore 4 (x_aload 1 (x_iload 4 (x_callr (some 0) 2 spr_X0_has (x_if_ne (x_aload 0 (x_get 2 3 (x_iload 4 (x_aload 0 (x_get 2 3 (x_iload 4 (b_X2_gatherFacts_55 J Q))))))) (x_int 0 (x_zret Q)))))))))))))))))
set_option maxRecDepth 100000 in
theorem s_X2_gatherFacts_10 {p : Program} {l : Launch} {e : Env} {R : Room} {s : State} {m : MethodId} {args : Array Value} {below : List Frame} {meth : Method} {c : Code} {nW : Nat} {dC : Nat → ClassId} {dI : Nat → Nat → Nat} {k : Nat → ClassId} {g : Nat → Nat} {A : Nat → Prop} {J : Nat → List qV → List qV → qW → Prop} {Q : qR} (X : q_X p R s m args meth c cX2_gatherFacts 5 nW 1 23 RX2 (some .boolean) dC dI k g A) (hJ : ∀ d : Nat, q_Sd p l e R s m args below meth c 5 nW dC dI k g A (MQ below (q_post (dC, dI) k g nW Q A) args s 0 0 A) d (x_cut (is_X2_gatherFacts d) (J d))) : q_Sd p l e R s m args below meth c 5 nW dC dI k g A (MQ below (q_post (dC, dI) k g nW Q A) args s 0 0 A) 10 (b_X2_gatherFacts_10 J Q) := by
  unfold b_X2_gatherFacts_10
  refine s_iload_n X rfl dX2_gatherFacts_10 ?_
  refine s_aload_n X rfl dX2_gatherFacts_11 ?_
  refine s_get X (T := TX7) (C := RX7) (N := 3) tu_X7 rfl (by decide) tw_246 dX2_gatherFacts_12 ?_
  refine s_icmp_ge X (tgt := 92) dX2_gatherFacts_15 (by decide) ?_ ?_
  · exact s_X2_gatherFacts_92 X hJ
  · refine s_iload_n X rfl dX2_gatherFacts_18 ?_
    refine s_bipush X ⟨by decide, by decide⟩ (by decide) dX2_gatherFacts_19 ?_
    refine s_icmp_ge X (tgt := 92) dX2_gatherFacts_21 (by decide) ?_ ?_
    · exact s_X2_gatherFacts_92 X hJ
    · refine s_aload_n X rfl dX2_gatherFacts_24 ?_
      refine s_get X (T := TX7) (C := RX7) (N := 3) tu_X7 rfl (by decide) tw_242 dX2_gatherFacts_25 ?_
      refine s_iload_n X rfl dX2_gatherFacts_28 ?_
      refine s_iald X dX2_gatherFacts_29 ?_
      refine s_istore X (by decide) dX2_gatherFacts_30 ?_
      refine s_aload_n X rfl dX2_gatherFacts_32 ?_
      refine s_iload X dX2_gatherFacts_33 ?_
      refine s_callVr X (m_X0_has l) tw_823 tw_399 tw_400 tw_122 tw_401 rfl (by decide +kernel) ⟨by decide, by decide⟩ dX2_gatherFacts_35 ?_
      refine s_if_ne X (tgt := 43) dX2_gatherFacts_38 (by decide) ?_ ?_
      · refine s_aload_n X rfl dX2_gatherFacts_43 ?_
        refine s_get X (T := TX2) (C := RX2) (N := 5) tu_X2 rfl (by decide) tw_317 dX2_gatherFacts_44 ?_
        refine s_iload X dX2_gatherFacts_47 ?_
        refine s_aload_n X rfl dX2_gatherFacts_49 ?_
        refine s_get X (T := TX2) (C := RX2) (N := 5) tu_X2 rfl (by decide) tw_317 dX2_gatherFacts_50 ?_
        refine s_iload X dX2_gatherFacts_53 ?_
        exact s_X2_gatherFacts_55 X hJ
      · refine s_iconst X ⟨by decide, by decide⟩ dX2_gatherFacts_41 ?_
        exact s_zret X dX2_gatherFacts_42
set_option maxRecDepth 100000 in
def b_X2_gatherFacts_0 (J : Nat → List qV → List qV → qW → Prop) (Q : qR) : qK := x_aload 0 (x_get 2 3 (x_int 0 (x_call none 2 sp_J7_fill_53178 (x_nw (x_int 0 (x_istore 3 (x_cut [0, 1, 2, 3] (J 10))))))))
set_option maxRecDepth 100000 in
theorem s_X2_gatherFacts_0 {p : Program} {l : Launch} {e : Env} {R : Room} {s : State} {m : MethodId} {args : Array Value} {below : List Frame} {meth : Method} {c : Code} {nW : Nat} {dC : Nat → ClassId} {dI : Nat → Nat → Nat} {k : Nat → ClassId} {g : Nat → Nat} {A : Nat → Prop} {J : Nat → List qV → List qV → qW → Prop} {Q : qR} (X : q_X p R s m args meth c cX2_gatherFacts 5 nW 1 23 RX2 (some .boolean) dC dI k g A) (hJ : ∀ d : Nat, q_Sd p l e R s m args below meth c 5 nW dC dI k g A (MQ below (q_post (dC, dI) k g nW Q A) args s 0 0 A) d (x_cut (is_X2_gatherFacts d) (J d))) : q_Sd p l e R s m args below meth c 5 nW dC dI k g A (MQ below (q_post (dC, dI) k g nW Q A) args s 0 0 A) 0 (b_X2_gatherFacts_0 J Q) := by
  unfold b_X2_gatherFacts_0
  refine s_aload_n X rfl dX2_gatherFacts_0 ?_
  refine s_get X (T := TX2) (C := RX2) (N := 5) tu_X2 rfl (by decide) tw_317 dX2_gatherFacts_1 ?_
  refine s_iconst X ⟨by decide, by decide⟩ dX2_gatherFacts_4 ?_
  refine s_callS X (m_J7_fill_53178 l) tw_822 tw_159 tw_123 tw_160 (by decide +kernel) ⟨by decide, by decide⟩ dX2_gatherFacts_5 ?_
  refine s_nw ?_
  refine s_iconst X ⟨by decide, by decide⟩ dX2_gatherFacts_8 ?_
  refine s_istore_n X rfl (by decide) dX2_gatherFacts_9 ?_
  exact hJ 10

def sp_X2_gatherFacts : qS := fun av w Q => ∃ (o1 : Nat → Int) (a1 : Nat → Int) (m1 : Nat → Int) (s1 : Nat → Int) (g0 : Int) (f1 : Nat → Int) (f2 : Nat → Int) (f3 : Nat → Int) (f4 : Nat → Int) (f5 : Nat → Int) (f6 : Nat → Int) (f7 : Nat → Int) (u0 : Int) (u1 : Int) (u2 : Int) (u3 : Int) (u4 : Int) (p1 : Nat → Int) (p2 : Nat → Int) (c1 : Int), av = [q2 0, q2 5, q2 13] ∧ w = (wGo 0 o1 a1 m1 s1 g0 ++ wBo 5 f1 f2 f3 f4 f5 f6 f7 u0 u1 u2 u3 u4 ++ wSo 13 p1 p2 c1) ∧ (0 ≤ u0 ∧ u0 ≤ 8) ∧ (0 ≤ c1 ∧ c1 ≤ 10) ∧ (∀ (r : Int) (x4 : Nat → Int), (r = 0 ∨ r = 1) → Q (some (q1 r)) ((wGo 0 o1 a1 m1 x4 g0 ++ wBo 5 f1 f2 f3 f4 f5 f6 f7 u0 u1 u2 u3 u4 ++ wSo 13 p1 p2 c1)))
def I_X2_gatherFacts (o1 : Nat → Int) (a1 : Nat → Int) (m1 : Nat → Int) (s1 : Nat → Int) (g0 : Int) (f1 : Nat → Int) (f2 : Nat → Int) (f3 : Nat → Int) (f4 : Nat → Int) (f5 : Nat → Int) (f6 : Nat → Int) (f7 : Nat → Int) (u0 : Int) (u1 : Int) (u2 : Int) (u3 : Int) (u4 : Int) (p1 : Nat → Int) (p2 : Nat → Int) (c1 : Int) : Nat → Nat → List qV → List qV → qW → Prop := fun dz mz vz sz wz => if dz = 10 then (∃ (y4 : Nat → Int) (v3 : Int), vz = [q2 0, q2 5, q2 13, q1 v3] ∧ sz = [] ∧ wz = (wGo 0 o1 a1 m1 y4 g0 ++ wBo 5 f1 f2 f3 f4 f5 f6 f7 u0 u1 u2 u3 u4 ++ wSo 13 p1 p2 c1) ∧ mz = (10 - v3).toNat ∧ (0 ≤ v3 ∧ v3 ≤ 10)) else False
set_option maxHeartbeats 4000000 in
set_option maxRecDepth 100000 in
theorem m_X2_gatherFacts (l : Launch) : q_M l yX2_gatherFacts cX2_gatherFacts 5 (some .boolean) 1 23 sp_X2_gatherFacts := by
  refine q_meth (by decide) (fun av w Q h => by obtain ⟨o1, a1, m1, s1, g0, f1, f2, f3, f4, f5, f6, f7, u0, u1, u2, u3, u4, p1, p2, c1, rfl, rfl, hu0, hc, hQ⟩ := h; exact Nat.le_of_ble_eq_true rfl) ?_
  intro p e R s m args below meth c dC dI k g A av w Q hsp oka okw X
  obtain ⟨o1, a1, m1, s1, g0, f1, f2, f3, f4, f5, f6, f7, u0, u1, u2, u3, u4, p1, p2, c1, rfl, rfl, hu0, hc, hQ⟩ := hsp
  refine s_mono (s_X2_gatherFacts_0 X (J := fun dz vz sz wz => ∃ mz, I_X2_gatherFacts o1 a1 m1 s1 g0 f1 f2 f3 f4 f5 f6 f7 u0 u1 u2 u3 u4 p1 p2 c1 dz mz vz sz wz) (q_loopn (I_X2_gatherFacts o1 a1 m1 s1 g0 f1 f2 f3 f4 f5 f6 f7 u0 u1 u2 u3 u4 p1 p2 c1) (fun dz J => if dz = 10 then b_X2_gatherFacts_10 J Q else q_F) ?hs ?hv)) ?_
  case hs =>
    intro d J hJ
    by_cases h10 : d = 10
    · subst h10; exact s_X2_gatherFacts_10 X hJ
    simp only [h10, if_false]
    exact s_F
  case hv =>
    intro dz mz vz sz wz hI okv oks okw hlen
    by_cases h10 : dz = 10
    · subst h10
      obtain ⟨y4, v3, rfl, rfl, rfl, hn, hp⟩ := hI
      apply And.intro
      · intro h15
        apply And.intro
        · first | exact Or.inl rfl | exact Or.inr rfl | omega
        exact hQ _ _ (by first | omega | assumption | exact q_rg_up (by assumption) (by omega) | exact q_rg_up (q_rg_up (by assumption) (by omega)) (by omega) | exact q_rg_cpy (by assumption) (by assumption))
      · intro h15
        apply And.intro
        · intro h21
          apply And.intro
          · first | exact Or.inl rfl | exact Or.inr rfl | omega
          exact hQ _ _ (by first | omega | assumption | exact q_rg_up (by assumption) (by omega) | exact q_rg_up (q_rg_up (by assumption) (by omega)) (by omega) | exact q_rg_cpy (by assumption) (by assumption))
        · intro h21
          apply And.intro
          · exact ⟨by omega, by omega⟩
          intro z29 h29
          refine Exists.intro [5, 6, 7, 8, 9, 10, 11, 12] (Exists.intro [q2 0, q1 _] (Exists.intro (wB _ _ _ _ _ _ _ _ _ _ _ _) (And.intro rfl (And.intro rfl (And.intro rfl (And.intro ⟨⟨_, rfl⟩, rfl⟩ ?_))))))
          refine Exists.intro _ (Exists.intro _ (Exists.intro _ (Exists.intro _ (Exists.intro _ (Exists.intro _ (Exists.intro _ (Exists.intro _ (Exists.intro _ (Exists.intro _ (Exists.intro _ (Exists.intro _ (Exists.intro _ (And.intro rfl (And.intro rfl (?_)))))))))))))))
          intro z35 h35
          apply And.intro
          · intro h38
            apply And.intro
            · exact ⟨by omega, by omega⟩
            intro z55 h55
            apply And.intro
            · intro h56
              apply And.intro
              · exact ⟨by omega, by omega⟩
              intro z80 h80
              apply And.intro
              · exact ⟨by omega, by omega⟩
              intro z86 h86
              first | replace h86 := e_add h86 (by omega) | replace h86 := e_rng h86
              exact ⟨_, ⟨_, _, rfl, rfl, rfl, rfl, (by first | omega | assumption | exact q_rg_up (by assumption) (by omega) | exact q_rg_up (q_rg_up (by assumption) (by omega)) (by omega) | exact q_rg_cpy (by assumption) (by assumption))⟩, by omega⟩
            · intro h56
              apply And.intro
              · exact ⟨by omega, by omega⟩
              intro z65 h65
              apply And.intro
              · exact ⟨by omega, by omega⟩
              intro z71 h71
              apply And.intro
              · intro h72
                apply And.intro
                · exact ⟨by omega, by omega⟩
                intro z86 h86
                first | replace h86 := e_add h86 (by omega) | replace h86 := e_rng h86
                exact ⟨_, ⟨_, _, rfl, rfl, rfl, rfl, (by first | omega | assumption | exact q_rg_up (by assumption) (by omega) | exact q_rg_up (q_rg_up (by assumption) (by omega)) (by omega) | exact q_rg_cpy (by assumption) (by assumption))⟩, by omega⟩
              · intro h72
                apply And.intro
                · exact ⟨by omega, by omega⟩
                intro z80 h80
                apply And.intro
                · exact ⟨by omega, by omega⟩
                intro z86 h86
                first | replace h86 := e_add h86 (by omega) | replace h86 := e_rng h86
                exact ⟨_, ⟨_, _, rfl, rfl, rfl, rfl, (by first | omega | assumption | exact q_rg_up (by assumption) (by omega) | exact q_rg_up (q_rg_up (by assumption) (by omega)) (by omega) | exact q_rg_cpy (by assumption) (by assumption))⟩, by omega⟩
          · intro h38
            apply And.intro
            · first | exact Or.inl rfl | exact Or.inr rfl | omega
            exact hQ _ _ (by first | omega | assumption | exact q_rg_up (by assumption) (by omega) | exact q_rg_up (q_rg_up (by assumption) (by omega)) (by omega) | exact q_rg_cpy (by assumption) (by assumption))
    simp only [I_X2_gatherFacts, h10, if_false] at hI
  rintro lv st w' ⟨rfl, rfl, rfl⟩
  refine Exists.intro [4] (Exists.intro [q2 0, q1 _] (Exists.intro ([.inl (0, _, .inl _)]) (And.intro rfl (And.intro rfl (And.intro rfl (And.intro trivial ?_))))))
  refine Exists.intro _ (Exists.intro _ (Exists.intro _ (And.intro rfl (And.intro rfl (And.intro (by first | omega | assumption | exact q_rg_up (by assumption) (by omega) | exact q_rg_up (q_rg_up (by assumption) (by omega)) (by omega) | exact q_rg_cpy (by assumption) (by assumption)) (?_))))))
  intro g_5 h5
  exact ⟨_, _, _, rfl, rfl, rfl, rfl, (by first | omega | assumption | exact q_rg_up (by assumption) (by omega) | exact q_rg_up (q_rg_up (by assumption) (by omega)) (by omega) | exact q_rg_cpy (by assumption) (by assumption))⟩

theorem dX2_open_0 : decode cX2_open 0 = .ok (.aload_n 0, 1) := by decide +kernel
theorem dX2_open_1 : decode cX2_open 1 = .ok (.aload_n 1, 1) := by decide +kernel
theorem dX2_open_2 : decode cX2_open 2 = .ok (.getfield 25, 3) := by decide +kernel
theorem dX2_open_5 : decode cX2_open 5 = .ok (.putfield 31, 3) := by decide +kernel
theorem dX2_open_8 : decode cX2_open 8 = .ok (.aload_n 0, 1) := by decide +kernel
theorem dX2_open_9 : decode cX2_open 9 = .ok (.aload_n 1, 1) := by decide +kernel
theorem dX2_open_10 : decode cX2_open 10 = .ok (.aload_n 2, 1) := by decide +kernel
theorem dX2_open_11 : decode cX2_open 11 = .ok (.invokevirtual 32, 3) := by decide +kernel
theorem dX2_open_14 : decode cX2_open 14 = .ok (.ifCond .ne 5, 3) := by decide +kernel
theorem dX2_open_17 : decode cX2_open 17 = .ok (.iconst 0, 1) := by decide +kernel
theorem dX2_open_18 : decode cX2_open 18 = .ok (.ireturn, 1) := by decide +kernel
theorem dX2_open_19 : decode cX2_open 19 = .ok (.aload_n 0, 1) := by decide +kernel
theorem dX2_open_20 : decode cX2_open 20 = .ok (.aload_n 1, 1) := by decide +kernel
theorem dX2_open_21 : decode cX2_open 21 = .ok (.invokevirtual 36, 3) := by decide +kernel
theorem dX2_open_24 : decode cX2_open 24 = .ok (.iconst 0, 1) := by decide +kernel
theorem dX2_open_25 : decode cX2_open 25 = .ok (.istore_n 3, 1) := by decide +kernel
theorem dX2_open_26 : decode cX2_open 26 = .ok (.iload_n 3, 1) := by decide +kernel
theorem dX2_open_27 : decode cX2_open 27 = .ok (.aload_n 0, 1) := by decide +kernel
theorem dX2_open_28 : decode cX2_open 28 = .ok (.getfield 31, 3) := by decide +kernel
theorem dX2_open_31 : decode cX2_open 31 = .ok (.if_icmp .ge 55, 3) := by decide +kernel
theorem dX2_open_34 : decode cX2_open 34 = .ok (.iconst 0, 1) := by decide +kernel
theorem dX2_open_35 : decode cX2_open 35 = .ok (.istore 4, 2) := by decide +kernel
theorem dX2_open_37 : decode cX2_open 37 = .ok (.iload 4, 2) := by decide +kernel
theorem dX2_open_39 : decode cX2_open 39 = .ok (.bipush 9, 2) := by decide +kernel
theorem dX2_open_41 : decode cX2_open 41 = .ok (.if_icmp .ge 39, 3) := by decide +kernel
theorem dX2_open_44 : decode cX2_open 44 = .ok (.aload_n 0, 1) := by decide +kernel
theorem dX2_open_45 : decode cX2_open 45 = .ok (.getfield 15, 3) := by decide +kernel
theorem dX2_open_48 : decode cX2_open 48 = .ok (.bipush 9, 2) := by decide +kernel
theorem dX2_open_50 : decode cX2_open 50 = .ok (.iload_n 3, 1) := by decide +kernel
theorem dX2_open_51 : decode cX2_open 51 = .ok (.imul, 1) := by decide +kernel
theorem dX2_open_52 : decode cX2_open 52 = .ok (.iload 4, 2) := by decide +kernel
theorem dX2_open_54 : decode cX2_open 54 = .ok (.iadd, 1) := by decide +kernel
theorem dX2_open_55 : decode cX2_open 55 = .ok (.aload_n 0, 1) := by decide +kernel
theorem dX2_open_56 : decode cX2_open 56 = .ok (.aload_n 1, 1) := by decide +kernel
theorem dX2_open_57 : decode cX2_open 57 = .ok (.getfield 40, 3) := by decide +kernel
theorem dX2_open_60 : decode cX2_open 60 = .ok (.iload_n 3, 1) := by decide +kernel
theorem dX2_open_61 : decode cX2_open 61 = .ok (.iaload, 1) := by decide +kernel
theorem dX2_open_62 : decode cX2_open 62 = .ok (.aload_n 0, 1) := by decide +kernel
theorem dX2_open_63 : decode cX2_open 63 = .ok (.getfield 21, 3) := by decide +kernel
theorem dX2_open_66 : decode cX2_open 66 = .ok (.iload_n 3, 1) := by decide +kernel
theorem dX2_open_67 : decode cX2_open 67 = .ok (.iaload, 1) := by decide +kernel
theorem dX2_open_68 : decode cX2_open 68 = .ok (.iload 4, 2) := by decide +kernel
theorem dX2_open_70 : decode cX2_open 70 = .ok (.invokevirtual 43, 3) := by decide +kernel
theorem dX2_open_73 : decode cX2_open 73 = .ok (.lastore, 1) := by decide +kernel
theorem dX2_open_74 : decode cX2_open 74 = .ok (.iinc 4 1, 3) := by decide +kernel
theorem dX2_open_77 : decode cX2_open 77 = .ok (.goto (-40), 3) := by decide +kernel
theorem dX2_open_80 : decode cX2_open 80 = .ok (.iinc 3 1, 3) := by decide +kernel
theorem dX2_open_83 : decode cX2_open 83 = .ok (.goto (-57), 3) := by decide +kernel
theorem dX2_open_86 : decode cX2_open 86 = .ok (.iconst 1, 1) := by decide +kernel
theorem dX2_open_87 : decode cX2_open 87 = .ok (.ireturn, 1) := by decide +kernel
def is_X2_open : Nat → List Nat := fun d => if d = 26 then [0, 1, 3] else if d = 37 then [0, 1, 3, 4] else []
set_option maxRecDepth 100000 in
def b_X2_open_80 (J : Nat → List qV → List qV → qW → Prop) (Q : qR) : qK := x_iinc 3 1 (x_cut [0, 1, 3] (J 26))
set_option maxRecDepth 100000 in
theorem s_X2_open_80 {p : Program} {l : Launch} {e : Env} {R : Room} {s : State} {m : MethodId} {args : Array Value} {below : List Frame} {meth : Method} {c : Code} {nW : Nat} {dC : Nat → ClassId} {dI : Nat → Nat → Nat} {k : Nat → ClassId} {g : Nat → Nat} {A : Nat → Prop} {J : Nat → List qV → List qV → qW → Prop} {Q : qR} (X : q_X p R s m args meth c cX2_open 5 nW 2 49 RX2 (some .boolean) dC dI k g A) (hJ : ∀ d : Nat, q_Sd p l e R s m args below meth c 5 nW dC dI k g A (MQ below (q_post (dC, dI) k g nW Q A) args s 0 0 A) d (x_cut (is_X2_open d) (J d))) : q_Sd p l e R s m args below meth c 5 nW dC dI k g A (MQ below (q_post (dC, dI) k g nW Q A) args s 0 0 A) 80 (b_X2_open_80 J Q) := by
  unfold b_X2_open_80
  refine s_iinc X (by decide) dX2_open_80 ?_
  refine s_goto X (tgt := 26) dX2_open_83 (by decide) ?_
  exact hJ 26
set_option maxRecDepth 100000 in
def b_X2_open_37 (J : Nat → List qV → List qV → qW → Prop) (Q : qR) : qK := x_iload 4 (x_int 9 (x_icmp_ge (b_X2_open_80 J Q) (x_aload 0 (x_get 2 1 (x_int 9 (x_iload 3 (x_imul (x_iload 4 (x_iadd (x_aload 0 (x_aload 1 (x_get 0 0 (x_iload 3 (x_iald (x_aload 0 (x_get 2 3 (x_iload 3 (x_iald (x_iload 4 (x_callr (some 2) 4 spr_X2_ends (x_last (x_nw (x_iinc 4 1 (x_cut [0, 1, 3, 4] (J 37)))))))))))))))))))))))))
set_option maxRecDepth 100000 in
theorem s_X2_open_37 {p : Program} {l : Launch} {e : Env} {R : Room} {s : State} {m : MethodId} {args : Array Value} {below : List Frame} {meth : Method} {c : Code} {nW : Nat} {dC : Nat → ClassId} {dI : Nat → Nat → Nat} {k : Nat → ClassId} {g : Nat → Nat} {A : Nat → Prop} {J : Nat → List qV → List qV → qW → Prop} {Q : qR} (X : q_X p R s m args meth c cX2_open 5 nW 2 49 RX2 (some .boolean) dC dI k g A) (hJ : ∀ d : Nat, q_Sd p l e R s m args below meth c 5 nW dC dI k g A (MQ below (q_post (dC, dI) k g nW Q A) args s 0 0 A) d (x_cut (is_X2_open d) (J d))) : q_Sd p l e R s m args below meth c 5 nW dC dI k g A (MQ below (q_post (dC, dI) k g nW Q A) args s 0 0 A) 37 (b_X2_open_37 J Q) := by
  unfold b_X2_open_37
  refine s_iload X dX2_open_37 ?_
  refine s_bipush X ⟨by decide, by decide⟩ (by decide) dX2_open_39 ?_
  refine s_icmp_ge X (tgt := 80) dX2_open_41 (by decide) ?_ ?_
  · exact s_X2_open_80 X hJ
  · refine s_aload_n X rfl dX2_open_44 ?_
    refine s_get X (T := TX2) (C := RX2) (N := 5) tu_X2 rfl (by decide) tw_315 dX2_open_45 ?_
    refine s_bipush X ⟨by decide, by decide⟩ (by decide) dX2_open_48 ?_
    refine s_iload_n X rfl dX2_open_50 ?_
    refine s_imul X dX2_open_51 ?_
    refine s_iload X dX2_open_52 ?_
    refine s_iadd X dX2_open_54 ?_
    refine s_aload_n X rfl dX2_open_55 ?_
    refine s_aload_n X rfl dX2_open_56 ?_
    refine s_get X (T := TX0) (C := RX0) (N := 12) tu_X0 rfl (by decide) tw_167 dX2_open_57 ?_
    refine s_iload_n X rfl dX2_open_60 ?_
    refine s_iald X dX2_open_61 ?_
    refine s_aload_n X rfl dX2_open_62 ?_
    refine s_get X (T := TX2) (C := RX2) (N := 5) tu_X2 rfl (by decide) tw_317 dX2_open_63 ?_
    refine s_iload_n X rfl dX2_open_66 ?_
    refine s_iald X dX2_open_67 ?_
    refine s_iload X dX2_open_68 ?_
    refine s_callVr X (m_X2_ends l) tw_830 tw_831 tw_1494 tw_132 tw_832 rfl (by decide +kernel) ⟨by decide, by decide⟩ dX2_open_70 ?_
    refine s_last X dX2_open_73 ?_
    refine s_nw ?_
    refine s_iinc X (by decide) dX2_open_74 ?_
    refine s_goto X (tgt := 37) dX2_open_77 (by decide) ?_
    exact hJ 37
set_option maxRecDepth 100000 in
def b_X2_open_26 (J : Nat → List qV → List qV → qW → Prop) (Q : qR) : qK := x_iload 3 (x_aload 0 (x_get 2 4 (x_icmp_ge (x_int 1 (x_zret Q)) (x_int 0 (x_istore 4 (x_cut [0, 1, 3, 4] (J 37)))))))
set_option maxRecDepth 100000 in
theorem s_X2_open_26 {p : Program} {l : Launch} {e : Env} {R : Room} {s : State} {m : MethodId} {args : Array Value} {below : List Frame} {meth : Method} {c : Code} {nW : Nat} {dC : Nat → ClassId} {dI : Nat → Nat → Nat} {k : Nat → ClassId} {g : Nat → Nat} {A : Nat → Prop} {J : Nat → List qV → List qV → qW → Prop} {Q : qR} (X : q_X p R s m args meth c cX2_open 5 nW 2 49 RX2 (some .boolean) dC dI k g A) (hJ : ∀ d : Nat, q_Sd p l e R s m args below meth c 5 nW dC dI k g A (MQ below (q_post (dC, dI) k g nW Q A) args s 0 0 A) d (x_cut (is_X2_open d) (J d))) : q_Sd p l e R s m args below meth c 5 nW dC dI k g A (MQ below (q_post (dC, dI) k g nW Q A) args s 0 0 A) 26 (b_X2_open_26 J Q) := by
  unfold b_X2_open_26
  refine s_iload_n X rfl dX2_open_26 ?_
  refine s_aload_n X rfl dX2_open_27 ?_
  refine s_get X (T := TX2) (C := RX2) (N := 5) tu_X2 rfl (by decide) tw_318 dX2_open_28 ?_
  refine s_icmp_ge X (tgt := 86) dX2_open_31 (by decide) ?_ ?_
  · refine s_iconst X ⟨by decide, by decide⟩ dX2_open_86 ?_
    exact s_zret X dX2_open_87
  · refine s_iconst X ⟨by decide, by decide⟩ dX2_open_34 ?_
    refine s_istore X (by decide) dX2_open_35 ?_
    exact hJ 37
set_option maxRecDepth 100000 in
def b_X2_open_0 (J : Nat → List qV → List qV → qW → Prop) (Q : qR) : qK := x_aload 0 (x_aload 1 (x_get 0 7 (x_put 2 4 q_oki (x_nw (x_aload 0 (x_aload 1 (x_aload 2 (x_call (some 2) 3 sp_X2_gatherFacts (x_nw (x_if_ne (x_aload 0 (x_aload 1 (x_call (some 2) 2 sp_X2_countOrders (x_nw (x_int 0 (x_istore 3 (x_cut [0, 1, 3] (J 26)))))))) (x_int 0 (x_zret Q))))))))))))
set_option maxRecDepth 100000 in
theorem s_X2_open_0 {p : Program} {l : Launch} {e : Env} {R : Room} {s : State} {m : MethodId} {args : Array Value} {below : List Frame} {meth : Method} {c : Code} {nW : Nat} {dC : Nat → ClassId} {dI : Nat → Nat → Nat} {k : Nat → ClassId} {g : Nat → Nat} {A : Nat → Prop} {J : Nat → List qV → List qV → qW → Prop} {Q : qR} (X : q_X p R s m args meth c cX2_open 5 nW 2 49 RX2 (some .boolean) dC dI k g A) (hJ : ∀ d : Nat, q_Sd p l e R s m args below meth c 5 nW dC dI k g A (MQ below (q_post (dC, dI) k g nW Q A) args s 0 0 A) d (x_cut (is_X2_open d) (J d))) : q_Sd p l e R s m args below meth c 5 nW dC dI k g A (MQ below (q_post (dC, dI) k g nW Q A) args s 0 0 A) 0 (b_X2_open_0 J Q) := by
  unfold b_X2_open_0
  refine s_aload_n X rfl dX2_open_0 ?_
  refine s_aload_n X rfl dX2_open_1 ?_
  refine s_get X (T := TX0) (C := RX0) (N := 12) tu_X0 rfl (by decide) tw_191 dX2_open_2 ?_
  refine s_put X (T := TX2) (C := RX2) (N := 5) tu_X2 tyX2_ok nmX2 rfl (by decide) tw_318 rfl (by decide +kernel) q_oki_t dX2_open_5 ?_
  refine s_nw ?_
  refine s_aload_n X rfl dX2_open_8 ?_
  refine s_aload_n X rfl dX2_open_9 ?_
  refine s_aload_n X rfl dX2_open_10 ?_
  refine s_callV X (m_X2_gatherFacts l) tw_819 tw_820 tw_1495 tw_132 tw_821 rfl (by decide +kernel) ⟨by decide, by decide⟩ dX2_open_11 ?_
  refine s_nw ?_
  refine s_if_ne X (tgt := 19) dX2_open_14 (by decide) ?_ ?_
  · refine s_aload_n X rfl dX2_open_19 ?_
    refine s_aload_n X rfl dX2_open_20 ?_
    refine s_callV X (m_X2_countOrders l) tw_824 tw_825 tw_1492 tw_132 tw_826 rfl (by decide +kernel) ⟨by decide, by decide⟩ dX2_open_21 ?_
    refine s_nw ?_
    refine s_iconst X ⟨by decide, by decide⟩ dX2_open_24 ?_
    refine s_istore_n X rfl (by decide) dX2_open_25 ?_
    exact hJ 26
  · refine s_iconst X ⟨by decide, by decide⟩ dX2_open_17 ?_
    exact s_zret X dX2_open_18

def sp_X2_open : qS := fun av w Q => ∃ (o1 : Nat → Int) (a1 : Nat → Int) (m1 : Nat → Int) (s1 : Nat → Int) (g0 : Int) (f1 : Nat → Int) (f2 : Nat → Int) (f3 : Nat → Int) (f4 : Nat → Int) (f5 : Nat → Int) (f6 : Nat → Int) (f7 : Nat → Int) (u0 : Int) (u1 : Int) (u2 : Int) (u3 : Int) (u4 : Int) (p1 : Nat → Int) (p2 : Nat → Int) (c1 : Int), av = [q2 0, q2 5, q2 13] ∧ w = (wGo 0 o1 a1 m1 s1 g0 ++ wBo 5 f1 f2 f3 f4 f5 f6 f7 u0 u1 u2 u3 u4 ++ wSo 13 p1 p2 c1) ∧ (0 ≤ u0 ∧ u0 ≤ 8) ∧ (0 ≤ c1 ∧ c1 ≤ 10) ∧ (q_rg 0 9 f3) ∧ (∀ (r : Int) (x1 : Nat → Int) (x2 : Nat → Int) (x4 : Nat → Int) (x5 : Int), ((r = 0 ∨ r = 1) ∧ 0 ≤ x5 ∧ x5 ≤ 8) → Q (some (q1 r)) ((wGo 0 x1 x2 m1 x4 x5 ++ wBo 5 f1 f2 f3 f4 f5 f6 f7 u0 u1 u2 u3 u4 ++ wSo 13 p1 p2 c1)))
def I_X2_open (o1 : Nat → Int) (a1 : Nat → Int) (m1 : Nat → Int) (s1 : Nat → Int) (g0 : Int) (f1 : Nat → Int) (f2 : Nat → Int) (f3 : Nat → Int) (f4 : Nat → Int) (f5 : Nat → Int) (f6 : Nat → Int) (f7 : Nat → Int) (u0 : Int) (u1 : Int) (u2 : Int) (u3 : Int) (u4 : Int) (p1 : Nat → Int) (p2 : Nat → Int) (c1 : Int) : Nat → Nat → List qV → List qV → qW → Prop := fun dz mz vz sz wz => if dz = 26 then (∃ (y1 : Nat → Int) (y2 : Nat → Int) (y4 : Nat → Int) (v3 : Int), vz = [q2 0, q2 5, q1 v3] ∧ sz = [] ∧ wz = (wGo 0 y1 y2 m1 y4 u0 ++ wBo 5 f1 f2 f3 f4 f5 f6 f7 u0 u1 u2 u3 u4 ++ wSo 13 p1 p2 c1) ∧ mz = 100 * (u0 - v3).toNat ∧ (0 ≤ v3 ∧ v3 ≤ u0)) else if dz = 37 then (∃ (y1 : Nat → Int) (y2 : Nat → Int) (y4 : Nat → Int) (v3 : Int) (v4 : Int), vz = [q2 0, q2 5, q1 v3, q1 v4] ∧ sz = [] ∧ wz = (wGo 0 y1 y2 m1 y4 u0 ++ wBo 5 f1 f2 f3 f4 f5 f6 f7 u0 u1 u2 u3 u4 ++ wSo 13 p1 p2 c1) ∧ mz = 100 * (u0 - v3).toNat - 50 + (9 - v4).toNat ∧ (0 ≤ v3 ∧ v3 < u0 ∧ 0 ≤ v4 ∧ v4 ≤ 9)) else False
set_option maxHeartbeats 4000000 in
set_option maxRecDepth 100000 in
theorem m_X2_open (l : Launch) : q_M l yX2_open cX2_open 5 (some .boolean) 2 49 sp_X2_open := by
  refine q_meth (by decide) (fun av w Q h => by obtain ⟨o1, a1, m1, s1, g0, f1, f2, f3, f4, f5, f6, f7, u0, u1, u2, u3, u4, p1, p2, c1, rfl, rfl, hu0, hc, hf, hQ⟩ := h; exact Nat.le_of_ble_eq_true rfl) ?_
  intro p e R s m args below meth c dC dI k g A av w Q hsp oka okw X
  obtain ⟨o1, a1, m1, s1, g0, f1, f2, f3, f4, f5, f6, f7, u0, u1, u2, u3, u4, p1, p2, c1, rfl, rfl, hu0, hc, hf, hQ⟩ := hsp
  refine s_mono (s_X2_open_0 X (J := fun dz vz sz wz => ∃ mz, I_X2_open o1 a1 m1 s1 g0 f1 f2 f3 f4 f5 f6 f7 u0 u1 u2 u3 u4 p1 p2 c1 dz mz vz sz wz) (q_loopn (I_X2_open o1 a1 m1 s1 g0 f1 f2 f3 f4 f5 f6 f7 u0 u1 u2 u3 u4 p1 p2 c1) (fun dz J => if dz = 26 then b_X2_open_26 J Q else if dz = 37 then b_X2_open_37 J Q else q_F) ?hs ?hv)) ?_
  case hs =>
    intro d J hJ
    by_cases h26 : d = 26
    · subst h26; exact s_X2_open_26 X hJ
    by_cases h37 : d = 37
    · subst h37; exact s_X2_open_37 X hJ
    simp only [h26, h37, if_false]
    exact s_F
  case hv =>
    intro dz mz vz sz wz hI okv oks okw hlen
    by_cases h26 : dz = 26
    · subst h26
      obtain ⟨y1, y2, y4, v3, rfl, rfl, rfl, hn, hp⟩ := hI
      apply And.intro
      · intro h31
        apply And.intro
        · first | exact Or.inl rfl | exact Or.inr rfl | omega
        exact hQ _ _ _ _ _ (by first | omega | assumption | exact q_rg_up (by assumption) (by omega) | exact q_rg_up (q_rg_up (by assumption) (by omega)) (by omega) | exact q_rg_cpy (by assumption) (by assumption))
      · intro h31
        exact ⟨_, ⟨_, _, _, _, _, rfl, rfl, rfl, rfl, (by first | omega | assumption | exact q_rg_up (by assumption) (by omega) | exact q_rg_up (q_rg_up (by assumption) (by omega)) (by omega) | exact q_rg_cpy (by assumption) (by assumption))⟩, by omega⟩
    by_cases h37 : dz = 37
    · subst h37
      obtain ⟨y1, y2, y4, v3, v4, rfl, rfl, rfl, hn, hp⟩ := hI
      apply And.intro
      · intro h41
        intro z80 h80
        first | replace h80 := e_add h80 (by omega) | replace h80 := e_rng h80
        exact ⟨_, ⟨_, _, _, _, rfl, rfl, rfl, rfl, (by first | omega | assumption | exact q_rg_up (by assumption) (by omega) | exact q_rg_up (q_rg_up (by assumption) (by omega)) (by omega) | exact q_rg_cpy (by assumption) (by assumption))⟩, by omega⟩
      · intro h41
        intro z51 h51
        first | replace h51 := e_mul h51 (by omega) | replace h51 := e_rng h51
        intro z54 h54
        first | replace h54 := e_add h54 (by omega) | replace h54 := e_rng h54
        apply And.intro
        · exact ⟨by omega, by omega⟩
        intro z61 h61
        apply And.intro
        · exact ⟨by omega, by omega⟩
        intro z67 h67
        refine Exists.intro [0, 1, 2, 3, 4] (Exists.intro [q2 0, q1 _, q1 _, q1 _] (Exists.intro ((wGo 0 _ _ _ _ _)) (And.intro rfl (And.intro rfl (And.intro rfl (And.intro ⟨⟨_, rfl⟩, rfl⟩ ?_))))))
        refine Exists.intro _ (Exists.intro _ (Exists.intro _ (Exists.intro _ (Exists.intro _ (Exists.intro _ (Exists.intro _ (Exists.intro _ (And.intro rfl (And.intro rfl (And.intro (by first | omega | assumption | exact q_rg_up (by assumption) (by omega) | exact q_rg_up (q_rg_up (by assumption) (by omega)) (by omega) | exact q_rg_cpy (by assumption) (by assumption)) (?_)))))))))))
        intro z70
        apply And.intro
        · exact ⟨by omega, by omega⟩
        intro z74 h74
        first | replace h74 := e_add h74 (by omega) | replace h74 := e_rng h74
        exact ⟨_, ⟨_, _, _, _, _, rfl, rfl, rfl, rfl, (by first | omega | assumption | exact q_rg_up (by assumption) (by omega) | exact q_rg_up (q_rg_up (by assumption) (by omega)) (by omega) | exact q_rg_cpy (by assumption) (by assumption))⟩, by omega⟩
    simp only [I_X2_open, h26, h37, if_false] at hI
  rintro lv st w' ⟨rfl, rfl, rfl⟩
  apply And.intro
  · exact trivial
  refine Exists.intro [0, 1, 2, 3, 4, 5, 6, 7, 8, 9, 10, 11, 12, 13, 14, 15] (Exists.intro [q2 0, q2 5, q2 13] (Exists.intro ((wGo 0 _ _ _ _ _ ++ wBo 5 _ _ _ _ _ _ _ _ _ _ _ _ ++ wSo 13 _ _ _)) (And.intro rfl (And.intro rfl (And.intro rfl (And.intro ⟨⟨_, rfl⟩, rfl⟩ ?_))))))
  refine Exists.intro _ (Exists.intro _ (Exists.intro _ (Exists.intro _ (Exists.intro _ (Exists.intro _ (Exists.intro _ (Exists.intro _ (Exists.intro _ (Exists.intro _ (Exists.intro _ (Exists.intro _ (Exists.intro _ (Exists.intro _ (Exists.intro _ (Exists.intro _ (Exists.intro _ (Exists.intro _ (Exists.intro _ (Exists.intro _ (And.intro rfl (And.intro rfl (And.intro (by first | omega | assumption | exact q_rg_up (by assumption) (by omega) | exact q_rg_up (q_rg_up (by assumption) (by omega)) (by omega) | exact q_rg_cpy (by assumption) (by assumption)) (And.intro (by first | omega | assumption | exact q_rg_up (by assumption) (by omega) | exact q_rg_up (q_rg_up (by assumption) (by omega)) (by omega) | exact q_rg_cpy (by assumption) (by assumption)) (?_))))))))))))))))))))))))
  intro z11 x4_11 h11
  apply And.intro
  · intro h14
    refine Exists.intro [0, 1, 2, 3, 4, 5, 6, 7, 8, 9, 10, 11, 12] (Exists.intro [q2 0, q2 5] (Exists.intro ((wGo 0 _ _ _ _ _ ++ wBo 5 _ _ _ _ _ _ _ _ _ _ _ _)) (And.intro rfl (And.intro rfl (And.intro rfl (And.intro ⟨⟨_, rfl⟩, rfl⟩ ?_))))))
    refine Exists.intro _ (Exists.intro _ (Exists.intro _ (Exists.intro _ (Exists.intro _ (Exists.intro _ (Exists.intro _ (Exists.intro _ (Exists.intro _ (Exists.intro _ (Exists.intro _ (Exists.intro _ (Exists.intro _ (Exists.intro _ (Exists.intro _ (Exists.intro _ (Exists.intro _ (And.intro rfl (And.intro rfl (And.intro (by first | omega | assumption | exact q_rg_up (by assumption) (by omega) | exact q_rg_up (q_rg_up (by assumption) (by omega)) (by omega) | exact q_rg_cpy (by assumption) (by assumption)) (?_))))))))))))))))))))
    intro x1_21
    exact ⟨_, _, _, _, _, rfl, rfl, rfl, rfl, (by first | omega | assumption | exact q_rg_up (by assumption) (by omega) | exact q_rg_up (q_rg_up (by assumption) (by omega)) (by omega) | exact q_rg_cpy (by assumption) (by assumption))⟩
  · intro h14
    apply And.intro
    · first | exact Or.inl rfl | exact Or.inr rfl | omega
    exact hQ _ _ _ _ _ (by first | omega | assumption | exact q_rg_up (by assumption) (by omega) | exact q_rg_up (q_rg_up (by assumption) (by omega)) (by omega) | exact q_rg_cpy (by assumption) (by assumption))

theorem dX2_mix_0 : decode cX2_mix 0 = .ok (.aload_n 0, 1) := by decide +kernel
theorem dX2_mix_1 : decode cX2_mix 1 = .ok (.getfield 18, 3) := by decide +kernel
theorem dX2_mix_4 : decode cX2_mix 4 = .ok (.lconst 0, 1) := by decide +kernel
theorem dX2_mix_5 : decode cX2_mix 5 = .ok (.invokestatic 68, 3) := by decide +kernel
theorem dX2_mix_8 : decode cX2_mix 8 = .ok (.aload_n 0, 1) := by decide +kernel
theorem dX2_mix_9 : decode cX2_mix 9 = .ok (.getfield 18, 3) := by decide +kernel
theorem dX2_mix_12 : decode cX2_mix 12 = .ok (.iconst 0, 1) := by decide +kernel
theorem dX2_mix_13 : decode cX2_mix 13 = .ok (.lconst 1, 1) := by decide +kernel
theorem dX2_mix_14 : decode cX2_mix 14 = .ok (.lastore, 1) := by decide +kernel
theorem dX2_mix_15 : decode cX2_mix 15 = .ok (.iconst 0, 1) := by decide +kernel
theorem dX2_mix_16 : decode cX2_mix 16 = .ok (.istore_n 2, 1) := by decide +kernel
theorem dX2_mix_17 : decode cX2_mix 17 = .ok (.iload_n 2, 1) := by decide +kernel
theorem dX2_mix_18 : decode cX2_mix 18 = .ok (.aload_n 0, 1) := by decide +kernel
theorem dX2_mix_19 : decode cX2_mix 19 = .ok (.getfield 31, 3) := by decide +kernel
theorem dX2_mix_22 : decode cX2_mix 22 = .ok (.if_icmp .ge 87, 3) := by decide +kernel
theorem dX2_mix_25 : decode cX2_mix 25 = .ok (.bipush 8, 2) := by decide +kernel
theorem dX2_mix_27 : decode cX2_mix 27 = .ok (.istore_n 3, 1) := by decide +kernel
theorem dX2_mix_28 : decode cX2_mix 28 = .ok (.iload_n 3, 1) := by decide +kernel
theorem dX2_mix_29 : decode cX2_mix 29 = .ok (.ifCond .lt 74, 3) := by decide +kernel
theorem dX2_mix_32 : decode cX2_mix 32 = .ok (.iload_n 2, 1) := by decide +kernel
theorem dX2_mix_33 : decode cX2_mix 33 = .ok (.iload_n 1, 1) := by decide +kernel
theorem dX2_mix_34 : decode cX2_mix 34 = .ok (.if_icmp .eq 69, 3) := by decide +kernel
theorem dX2_mix_37 : decode cX2_mix 37 = .ok (.lconst 0, 1) := by decide +kernel
theorem dX2_mix_38 : decode cX2_mix 38 = .ok (.lstore 4, 2) := by decide +kernel
theorem dX2_mix_40 : decode cX2_mix 40 = .ok (.iconst 0, 1) := by decide +kernel
theorem dX2_mix_41 : decode cX2_mix 41 = .ok (.istore 6, 2) := by decide +kernel
theorem dX2_mix_43 : decode cX2_mix 43 = .ok (.iload 6, 2) := by decide +kernel
theorem dX2_mix_45 : decode cX2_mix 45 = .ok (.iload_n 3, 1) := by decide +kernel
theorem dX2_mix_46 : decode cX2_mix 46 = .ok (.if_icmp .gt 43, 3) := by decide +kernel
theorem dX2_mix_49 : decode cX2_mix 49 = .ok (.lload 4, 2) := by decide +kernel
theorem dX2_mix_51 : decode cX2_mix 51 = .ok (.iload_n 3, 1) := by decide +kernel
theorem dX2_mix_52 : decode cX2_mix 52 = .ok (.iload 6, 2) := by decide +kernel
theorem dX2_mix_54 : decode cX2_mix 54 = .ok (.invokestatic 83, 3) := by decide +kernel
theorem dX2_mix_57 : decode cX2_mix 57 = .ok (.aload_n 0, 1) := by decide +kernel
theorem dX2_mix_58 : decode cX2_mix 58 = .ok (.getfield 15, 3) := by decide +kernel
theorem dX2_mix_61 : decode cX2_mix 61 = .ok (.bipush 9, 2) := by decide +kernel
theorem dX2_mix_63 : decode cX2_mix 63 = .ok (.iload_n 2, 1) := by decide +kernel
theorem dX2_mix_64 : decode cX2_mix 64 = .ok (.imul, 1) := by decide +kernel
theorem dX2_mix_65 : decode cX2_mix 65 = .ok (.iload 6, 2) := by decide +kernel
theorem dX2_mix_67 : decode cX2_mix 67 = .ok (.iadd, 1) := by decide +kernel
theorem dX2_mix_68 : decode cX2_mix 68 = .ok (.laload, 1) := by decide +kernel
theorem dX2_mix_69 : decode cX2_mix 69 = .ok (.lmul, 1) := by decide +kernel
theorem dX2_mix_70 : decode cX2_mix 70 = .ok (.aload_n 0, 1) := by decide +kernel
theorem dX2_mix_71 : decode cX2_mix 71 = .ok (.getfield 18, 3) := by decide +kernel
theorem dX2_mix_74 : decode cX2_mix 74 = .ok (.iload_n 3, 1) := by decide +kernel
theorem dX2_mix_75 : decode cX2_mix 75 = .ok (.iload 6, 2) := by decide +kernel
theorem dX2_mix_77 : decode cX2_mix 77 = .ok (.isub, 1) := by decide +kernel
theorem dX2_mix_78 : decode cX2_mix 78 = .ok (.laload, 1) := by decide +kernel
theorem dX2_mix_79 : decode cX2_mix 79 = .ok (.lmul, 1) := by decide +kernel
theorem dX2_mix_80 : decode cX2_mix 80 = .ok (.ladd, 1) := by decide +kernel
theorem dX2_mix_81 : decode cX2_mix 81 = .ok (.lstore 4, 2) := by decide +kernel
theorem dX2_mix_83 : decode cX2_mix 83 = .ok (.iinc 6 1, 3) := by decide +kernel
theorem dX2_mix_86 : decode cX2_mix 86 = .ok (.goto (-43), 3) := by decide +kernel
theorem dX2_mix_89 : decode cX2_mix 89 = .ok (.aload_n 0, 1) := by decide +kernel
theorem dX2_mix_90 : decode cX2_mix 90 = .ok (.getfield 18, 3) := by decide +kernel
theorem dX2_mix_93 : decode cX2_mix 93 = .ok (.iload_n 3, 1) := by decide +kernel
theorem dX2_mix_94 : decode cX2_mix 94 = .ok (.lload 4, 2) := by decide +kernel
theorem dX2_mix_96 : decode cX2_mix 96 = .ok (.lastore, 1) := by decide +kernel
theorem dX2_mix_97 : decode cX2_mix 97 = .ok (.iinc 3 (-1), 3) := by decide +kernel
theorem dX2_mix_100 : decode cX2_mix 100 = .ok (.goto (-72), 3) := by decide +kernel
theorem dX2_mix_103 : decode cX2_mix 103 = .ok (.iinc 2 1, 3) := by decide +kernel
theorem dX2_mix_106 : decode cX2_mix 106 = .ok (.goto (-89), 3) := by decide +kernel
theorem dX2_mix_109 : decode cX2_mix 109 = .ok (.return_, 1) := by decide +kernel
def is_X2_mix : Nat → List Nat := fun d => if d = 17 then [0, 1, 2] else if d = 28 then [0, 1, 2, 3] else if d = 43 then [0, 1, 2, 3, 4, 6] else []
set_option maxRecDepth 100000 in
def b_X2_mix_103 (J : Nat → List qV → List qV → qW → Prop) (Q : qR) : qK := x_iinc 2 1 (x_cut [0, 1, 2] (J 17))
set_option maxRecDepth 100000 in
theorem s_X2_mix_103 {p : Program} {l : Launch} {e : Env} {R : Room} {s : State} {m : MethodId} {args : Array Value} {below : List Frame} {meth : Method} {c : Code} {nW : Nat} {dC : Nat → ClassId} {dI : Nat → Nat → Nat} {k : Nat → ClassId} {g : Nat → Nat} {A : Nat → Prop} {J : Nat → List qV → List qV → qW → Prop} {Q : qR} (X : q_X p R s m args meth c cX2_mix 7 nW 1 24 RX2 none dC dI k g A) (hJ : ∀ d : Nat, q_Sd p l e R s m args below meth c 7 nW dC dI k g A (MQ below (q_post (dC, dI) k g nW Q A) args s 0 0 A) d (x_cut (is_X2_mix d) (J d))) : q_Sd p l e R s m args below meth c 7 nW dC dI k g A (MQ below (q_post (dC, dI) k g nW Q A) args s 0 0 A) 103 (b_X2_mix_103 J Q) := by
  unfold b_X2_mix_103
  refine s_iinc X (by decide) dX2_mix_103 ?_
  refine s_goto X (tgt := 17) dX2_mix_106 (by decide) ?_
  exact hJ 17
set_option maxRecDepth 100000 in
def b_X2_mix_81 (J : Nat → List qV → List qV → qW → Prop) (Q : qR) : qK := x_lstore 4 (x_iinc 6 1 (x_cut [0, 1, 2, 3, 4, 6] (J 43)))
set_option maxRecDepth 100000 in
theorem s_X2_mix_81 {p : Program} {l : Launch} {e : Env} {R : Room} {s : State} {m : MethodId} {args : Array Value} {below : List Frame} {meth : Method} {c : Code} {nW : Nat} {dC : Nat → ClassId} {dI : Nat → Nat → Nat} {k : Nat → ClassId} {g : Nat → Nat} {A : Nat → Prop} {J : Nat → List qV → List qV → qW → Prop} {Q : qR} (X : q_X p R s m args meth c cX2_mix 7 nW 1 24 RX2 none dC dI k g A) (hJ : ∀ d : Nat, q_Sd p l e R s m args below meth c 7 nW dC dI k g A (MQ below (q_post (dC, dI) k g nW Q A) args s 0 0 A) d (x_cut (is_X2_mix d) (J d))) : q_Sd p l e R s m args below meth c 7 nW dC dI k g A (MQ below (q_post (dC, dI) k g nW Q A) args s 0 0 A) 81 (b_X2_mix_81 J Q) := by
  unfold b_X2_mix_81
  refine s_lstore X (by decide) dX2_mix_81 ?_
  refine s_iinc X (by decide) dX2_mix_83 ?_
  refine s_goto X (tgt := 43) dX2_mix_86 (by decide) ?_
  exact hJ 43
set_option maxRecDepth 100000 in
def b_X2_mix_43 (J : Nat → List qV → List qV → qW → Prop) (Q : qR) : qK := x_iload 6 (x_iload 3 (x_icmp_gt (x_aload 0 (x_get 2 2 (x_iload 3 (x_lload 4 (x_last (x_nw (x_iinc 3 (-1) (x_cut [0, 1, 2, 3] (J 28))))))))) (x_lload 4 (x_iload 3 (x_iload 6 (x_callr none 2 spr_X2_choose (x_aload 0 (x_get 2 1 (x_int 9 (x_iload 2 (x_imul (x_iload 6 (x_iadd (x_lald (x_lmul (x_aload 0 (x_get 2 2 (x_iload 3 (x_iload 6 (x_isub (x_lald (x_lmul (x_ladd (b_X2_mix_81 J Q))))))))))))))))))))))))
set_option maxRecDepth 100000 in
theorem s_X2_mix_43 {p : Program} {l : Launch} {e : Env} {R : Room} {s : State} {m : MethodId} {args : Array Value} {below : List Frame} {meth : Method} {c : Code} {nW : Nat} {dC : Nat → ClassId} {dI : Nat → Nat → Nat} {k : Nat → ClassId} {g : Nat → Nat} {A : Nat → Prop} {J : Nat → List qV → List qV → qW → Prop} {Q : qR} (X : q_X p R s m args meth c cX2_mix 7 nW 1 24 RX2 none dC dI k g A) (hJ : ∀ d : Nat, q_Sd p l e R s m args below meth c 7 nW dC dI k g A (MQ below (q_post (dC, dI) k g nW Q A) args s 0 0 A) d (x_cut (is_X2_mix d) (J d))) : q_Sd p l e R s m args below meth c 7 nW dC dI k g A (MQ below (q_post (dC, dI) k g nW Q A) args s 0 0 A) 43 (b_X2_mix_43 J Q) := by
  unfold b_X2_mix_43
  refine s_iload X dX2_mix_43 ?_
  refine s_iload_n X rfl dX2_mix_45 ?_
  refine s_icmp_gt X (tgt := 89) dX2_mix_46 (by decide) ?_ ?_
  · refine s_aload_n X rfl dX2_mix_89 ?_
    refine s_get X (T := TX2) (C := RX2) (N := 5) tu_X2 rfl (by decide) tw_316 dX2_mix_90 ?_
    refine s_iload_n X rfl dX2_mix_93 ?_
    refine s_lload X dX2_mix_94 ?_
    refine s_last X dX2_mix_96 ?_
    refine s_nw ?_
    refine s_iinc X (by decide) dX2_mix_97 ?_
    refine s_goto X (tgt := 28) dX2_mix_100 (by decide) ?_
    exact hJ 28
  · refine s_lload X dX2_mix_49 ?_
    refine s_iload_n X rfl dX2_mix_51 ?_
    refine s_iload X dX2_mix_52 ?_
    refine s_callSr X (m_X2_choose l) tw_842 tw_843 tw_132 tw_844 (by decide +kernel) ⟨by decide, by decide⟩ dX2_mix_54 ?_
    refine s_aload_n X rfl dX2_mix_57 ?_
    refine s_get X (T := TX2) (C := RX2) (N := 5) tu_X2 rfl (by decide) tw_315 dX2_mix_58 ?_
    refine s_bipush X ⟨by decide, by decide⟩ (by decide) dX2_mix_61 ?_
    refine s_iload_n X rfl dX2_mix_63 ?_
    refine s_imul X dX2_mix_64 ?_
    refine s_iload X dX2_mix_65 ?_
    refine s_iadd X dX2_mix_67 ?_
    refine s_lald X dX2_mix_68 ?_
    refine s_lmul X dX2_mix_69 ?_
    refine s_aload_n X rfl dX2_mix_70 ?_
    refine s_get X (T := TX2) (C := RX2) (N := 5) tu_X2 rfl (by decide) tw_316 dX2_mix_71 ?_
    refine s_iload_n X rfl dX2_mix_74 ?_
    refine s_iload X dX2_mix_75 ?_
    refine s_isub X dX2_mix_77 ?_
    refine s_lald X dX2_mix_78 ?_
    refine s_lmul X dX2_mix_79 ?_
    refine s_ladd X dX2_mix_80 ?_
    exact s_X2_mix_81 X hJ
set_option maxRecDepth 100000 in
def b_X2_mix_28 (J : Nat → List qV → List qV → qW → Prop) (Q : qR) : qK := x_iload 3 (x_if_lt (b_X2_mix_103 J Q) (x_iload 2 (x_iload 1 (x_icmp_eq (b_X2_mix_103 J Q) (x_lng 0 (x_lstore 4 (x_int 0 (x_istore 6 (x_cut [0, 1, 2, 3, 4, 6] (J 43))))))))))
set_option maxRecDepth 100000 in
theorem s_X2_mix_28 {p : Program} {l : Launch} {e : Env} {R : Room} {s : State} {m : MethodId} {args : Array Value} {below : List Frame} {meth : Method} {c : Code} {nW : Nat} {dC : Nat → ClassId} {dI : Nat → Nat → Nat} {k : Nat → ClassId} {g : Nat → Nat} {A : Nat → Prop} {J : Nat → List qV → List qV → qW → Prop} {Q : qR} (X : q_X p R s m args meth c cX2_mix 7 nW 1 24 RX2 none dC dI k g A) (hJ : ∀ d : Nat, q_Sd p l e R s m args below meth c 7 nW dC dI k g A (MQ below (q_post (dC, dI) k g nW Q A) args s 0 0 A) d (x_cut (is_X2_mix d) (J d))) : q_Sd p l e R s m args below meth c 7 nW dC dI k g A (MQ below (q_post (dC, dI) k g nW Q A) args s 0 0 A) 28 (b_X2_mix_28 J Q) := by
  unfold b_X2_mix_28
  refine s_iload_n X rfl dX2_mix_28 ?_
  refine s_if_lt X (tgt := 103) dX2_mix_29 (by decide) ?_ ?_
  · exact s_X2_mix_103 X hJ
  · refine s_iload_n X rfl dX2_mix_32 ?_
    refine s_iload_n X rfl dX2_mix_33 ?_
    refine s_icmp_eq X (tgt := 103) dX2_mix_34 (by decide) ?_ ?_
    · exact s_X2_mix_103 X hJ
    · refine s_lconst X ⟨by decide, by decide⟩ (by decide) dX2_mix_37 ?_
      refine s_lstore X (by decide) dX2_mix_38 ?_
      refine s_iconst X ⟨by decide, by decide⟩ dX2_mix_40 ?_
      refine s_istore X (by decide) dX2_mix_41 ?_
      exact hJ 43
set_option maxRecDepth 100000 in
def b_X2_mix_17 (J : Nat → List qV → List qV → qW → Prop) (Q : qR) : qK := x_iload 2 (x_aload 0 (x_get 2 4 (x_icmp_ge (x_vret Q) (x_int 8 (x_istore 3 (x_cut [0, 1, 2, 3] (J 28)))))))
set_option maxRecDepth 100000 in
theorem s_X2_mix_17 {p : Program} {l : Launch} {e : Env} {R : Room} {s : State} {m : MethodId} {args : Array Value} {below : List Frame} {meth : Method} {c : Code} {nW : Nat} {dC : Nat → ClassId} {dI : Nat → Nat → Nat} {k : Nat → ClassId} {g : Nat → Nat} {A : Nat → Prop} {J : Nat → List qV → List qV → qW → Prop} {Q : qR} (X : q_X p R s m args meth c cX2_mix 7 nW 1 24 RX2 none dC dI k g A) (hJ : ∀ d : Nat, q_Sd p l e R s m args below meth c 7 nW dC dI k g A (MQ below (q_post (dC, dI) k g nW Q A) args s 0 0 A) d (x_cut (is_X2_mix d) (J d))) : q_Sd p l e R s m args below meth c 7 nW dC dI k g A (MQ below (q_post (dC, dI) k g nW Q A) args s 0 0 A) 17 (b_X2_mix_17 J Q) := by
  unfold b_X2_mix_17
  refine s_iload_n X rfl dX2_mix_17 ?_
  refine s_aload_n X rfl dX2_mix_18 ?_
  refine s_get X (T := TX2) (C := RX2) (N := 5) tu_X2 rfl (by decide) tw_318 dX2_mix_19 ?_
  refine s_icmp_ge X (tgt := 109) dX2_mix_22 (by decide) ?_ ?_
  · exact s_vret X dX2_mix_109
  · refine s_bipush X ⟨by decide, by decide⟩ (by decide) dX2_mix_25 ?_
    refine s_istore_n X rfl (by decide) dX2_mix_27 ?_
    exact hJ 28
set_option maxRecDepth 100000 in
def b_X2_mix_0 (J : Nat → List qV → List qV → qW → Prop) (Q : qR) : qK := x_aload 0 (x_get 2 2 (x_lng 0 (x_call none 2 sp_J7_fill_d0a16 (x_nw (x_aload 0 (x_get 2 2 (x_int 0 (x_lng 1 (x_last (x_nw (x_int 0 (x_istore 2 (x_cut [0, 1, 2] (J 17))))))))))))))
set_option maxRecDepth 100000 in
theorem s_X2_mix_0 {p : Program} {l : Launch} {e : Env} {R : Room} {s : State} {m : MethodId} {args : Array Value} {below : List Frame} {meth : Method} {c : Code} {nW : Nat} {dC : Nat → ClassId} {dI : Nat → Nat → Nat} {k : Nat → ClassId} {g : Nat → Nat} {A : Nat → Prop} {J : Nat → List qV → List qV → qW → Prop} {Q : qR} (X : q_X p R s m args meth c cX2_mix 7 nW 1 24 RX2 none dC dI k g A) (hJ : ∀ d : Nat, q_Sd p l e R s m args below meth c 7 nW dC dI k g A (MQ below (q_post (dC, dI) k g nW Q A) args s 0 0 A) d (x_cut (is_X2_mix d) (J d))) : q_Sd p l e R s m args below meth c 7 nW dC dI k g A (MQ below (q_post (dC, dI) k g nW Q A) args s 0 0 A) 0 (b_X2_mix_0 J Q) := by
  unfold b_X2_mix_0
  refine s_aload_n X rfl dX2_mix_0 ?_
  refine s_get X (T := TX2) (C := RX2) (N := 5) tu_X2 rfl (by decide) tw_316 dX2_mix_1 ?_
  refine s_lconst X ⟨by decide, by decide⟩ (by decide) dX2_mix_4 ?_
  refine s_callS X (m_J7_fill_d0a16 l) tw_827 tw_828 tw_123 tw_829 (by decide +kernel) ⟨by decide, by decide⟩ dX2_mix_5 ?_
  refine s_nw ?_
  refine s_aload_n X rfl dX2_mix_8 ?_
  refine s_get X (T := TX2) (C := RX2) (N := 5) tu_X2 rfl (by decide) tw_316 dX2_mix_9 ?_
  refine s_iconst X ⟨by decide, by decide⟩ dX2_mix_12 ?_
  refine s_lconst X ⟨by decide, by decide⟩ (by decide) dX2_mix_13 ?_
  refine s_last X dX2_mix_14 ?_
  refine s_nw ?_
  refine s_iconst X ⟨by decide, by decide⟩ dX2_mix_15 ?_
  refine s_istore_n X rfl (by decide) dX2_mix_16 ?_
  exact hJ 17

def sp_X2_mix : qS := fun av w Q => ∃ (o1 : Nat → Int) (a1 : Nat → Int) (m1 : Nat → Int) (s1 : Nat → Int) (g0 : Int) (a : Int), av = [q2 0, q1 a] ∧ w = (wGo 0 o1 a1 m1 s1 g0) ∧ (0 ≤ g0 ∧ g0 ≤ 8) ∧ (∀ (x3 : Nat → Int), Q none ((wGo 0 o1 a1 x3 s1 g0)))
def I_X2_mix (o1 : Nat → Int) (a1 : Nat → Int) (m1 : Nat → Int) (s1 : Nat → Int) (g0 : Int) (a : Int) : Nat → Nat → List qV → List qV → qW → Prop := fun dz mz vz sz wz => if dz = 17 then (∃ (y3 : Nat → Int) (v2 : Int), vz = [q2 0, q1 a, q1 v2] ∧ sz = [] ∧ wz = (wGo 0 o1 a1 y3 s1 g0) ∧ mz = 10000 * (g0 - v2).toNat ∧ (0 ≤ v2 ∧ v2 ≤ g0)) else if dz = 28 then (∃ (y3 : Nat → Int) (v2 : Int) (v3 : Int), vz = [q2 0, q1 a, q1 v2, q1 v3] ∧ sz = [] ∧ wz = (wGo 0 o1 a1 y3 s1 g0) ∧ mz = 10000 * (g0 - v2).toNat - 5000 + 100 * (v3 + 1).toNat ∧ (0 ≤ v2 ∧ v2 < g0 ∧ -1 ≤ v3 ∧ v3 ≤ 8)) else if dz = 43 then (∃ (y3 : Nat → Int) (v2 : Int) (v3 : Int) (v4 : Int) (v6 : Int), vz = [q2 0, q1 a, q1 v2, q1 v3, q3 v4, q1 v6] ∧ sz = [] ∧ wz = (wGo 0 o1 a1 y3 s1 g0) ∧ mz = 10000 * (g0 - v2).toNat - 5000 + 100 * (v3 + 1).toNat - 50 + (9 - v6).toNat ∧ (0 ≤ v2 ∧ v2 < g0 ∧ 0 ≤ v3 ∧ v3 ≤ 8 ∧ 0 ≤ v6 ∧ v6 ≤ v3 + 1)) else False
set_option maxHeartbeats 4000000 in
set_option maxRecDepth 100000 in
theorem m_X2_mix (l : Launch) : q_M l yX2_mix cX2_mix 7 none 1 24 sp_X2_mix := by
  refine q_meth (by decide) (fun av w Q h => by obtain ⟨o1, a1, m1, s1, g0, a, rfl, rfl, hg0, hQ⟩ := h; exact Nat.le_of_ble_eq_true rfl) ?_
  intro p e R s m args below meth c dC dI k g A av w Q hsp oka okw X
  obtain ⟨o1, a1, m1, s1, g0, a, rfl, rfl, hg0, hQ⟩ := hsp
  have o_a : -2147483648 ≤ a ∧ a ≤ 2147483647 := oka _ (List.mem_of_getElem? (i := 1) rfl)
  refine s_mono (s_X2_mix_0 X (J := fun dz vz sz wz => ∃ mz, I_X2_mix o1 a1 m1 s1 g0 a dz mz vz sz wz) (q_loopn (I_X2_mix o1 a1 m1 s1 g0 a) (fun dz J => if dz = 17 then b_X2_mix_17 J Q else if dz = 28 then b_X2_mix_28 J Q else if dz = 43 then b_X2_mix_43 J Q else q_F) ?hs ?hv)) ?_
  case hs =>
    intro d J hJ
    by_cases h17 : d = 17
    · subst h17; exact s_X2_mix_17 X hJ
    by_cases h28 : d = 28
    · subst h28; exact s_X2_mix_28 X hJ
    by_cases h43 : d = 43
    · subst h43; exact s_X2_mix_43 X hJ
    simp only [h17, h28, h43, if_false]
    exact s_F
  case hv =>
    intro dz mz vz sz wz hI okv oks okw hlen
    by_cases h17 : dz = 17
    · subst h17
      obtain ⟨y3, v2, rfl, rfl, rfl, hn, hp⟩ := hI
      apply And.intro
      · intro h22
        exact hQ _
      · intro h22
        exact ⟨_, ⟨_, _, _, rfl, rfl, rfl, rfl, (by first | omega | assumption | exact q_rg_up (by assumption) (by omega) | exact q_rg_up (q_rg_up (by assumption) (by omega)) (by omega) | exact q_rg_cpy (by assumption) (by assumption))⟩, by omega⟩
    by_cases h28 : dz = 28
    · subst h28
      obtain ⟨y3, v2, v3, rfl, rfl, rfl, hn, hp⟩ := hI
      apply And.intro
      · intro h29
        intro z103 h103
        first | replace h103 := e_add h103 (by omega) | replace h103 := e_rng h103
        exact ⟨_, ⟨_, _, rfl, rfl, rfl, rfl, (by first | omega | assumption | exact q_rg_up (by assumption) (by omega) | exact q_rg_up (q_rg_up (by assumption) (by omega)) (by omega) | exact q_rg_cpy (by assumption) (by assumption))⟩, by omega⟩
      · intro h29
        apply And.intro
        · intro h34
          intro z103 h103
          first | replace h103 := e_add h103 (by omega) | replace h103 := e_rng h103
          exact ⟨_, ⟨_, _, rfl, rfl, rfl, rfl, (by first | omega | assumption | exact q_rg_up (by assumption) (by omega) | exact q_rg_up (q_rg_up (by assumption) (by omega)) (by omega) | exact q_rg_cpy (by assumption) (by assumption))⟩, by omega⟩
        · intro h34
          exact ⟨_, ⟨_, _, _, _, _, rfl, rfl, rfl, rfl, (by first | omega | assumption | exact q_rg_up (by assumption) (by omega) | exact q_rg_up (q_rg_up (by assumption) (by omega)) (by omega) | exact q_rg_cpy (by assumption) (by assumption))⟩, by omega⟩
    by_cases h43 : dz = 43
    · subst h43
      obtain ⟨y3, v2, v3, v4, v6, rfl, rfl, rfl, hn, hp⟩ := hI
      apply And.intro
      · intro h46
        apply And.intro
        · exact ⟨by omega, by omega⟩
        intro z97 h97
        first | replace h97 := e_add h97 (by omega) | replace h97 := e_rng h97
        exact ⟨_, ⟨_, _, _, rfl, rfl, rfl, rfl, (by first | omega | assumption | exact q_rg_up (by assumption) (by omega) | exact q_rg_up (q_rg_up (by assumption) (by omega)) (by omega) | exact q_rg_cpy (by assumption) (by assumption))⟩, by omega⟩
      · intro h46
        refine Exists.intro [] (Exists.intro [q1 _, q1 _] (Exists.intro ([]) (And.intro rfl (And.intro rfl (And.intro rfl (And.intro trivial ?_))))))
        refine Exists.intro _ (Exists.intro _ (And.intro rfl (And.intro rfl (?_))))
        intro z54
        intro z64 h64
        first | replace h64 := e_mul h64 (by omega) | replace h64 := e_rng h64
        intro z67 h67
        first | replace h67 := e_add h67 (by omega) | replace h67 := e_rng h67
        apply And.intro
        · exact ⟨by omega, by omega⟩
        intro z68 h68
        intro z69 h69
        replace h69 := e_rngl h69
        intro z77 h77
        first | replace h77 := e_sub h77 (by omega) | replace h77 := e_rng h77
        apply And.intro
        · exact ⟨by omega, by omega⟩
        intro z78 h78
        intro z79 h79
        replace h79 := e_rngl h79
        intro z80 h80
        replace h80 := e_rngl h80
        intro z83 h83
        first | replace h83 := e_add h83 (by omega) | replace h83 := e_rng h83
        exact ⟨_, ⟨_, _, _, _, _, rfl, rfl, rfl, rfl, (by first | omega | assumption | exact q_rg_up (by assumption) (by omega) | exact q_rg_up (q_rg_up (by assumption) (by omega)) (by omega) | exact q_rg_cpy (by assumption) (by assumption))⟩, by omega⟩
    simp only [I_X2_mix, h17, h28, h43, if_false] at hI
  rintro lv st w' ⟨rfl, rfl, rfl⟩
  refine Exists.intro [3] (Exists.intro [q2 0, q3 _] (Exists.intro ([.inl (3, _, .inr (.inl _))]) (And.intro rfl (And.intro rfl (And.intro rfl (And.intro trivial ?_))))))
  refine Exists.intro _ (Exists.intro _ (Exists.intro _ (And.intro rfl (And.intro rfl (And.intro (by first | omega | assumption | exact q_rg_up (by assumption) (by omega) | exact q_rg_up (q_rg_up (by assumption) (by omega)) (by omega) | exact q_rg_cpy (by assumption) (by assumption)) (?_))))))
  intro g_5 h5
  apply And.intro
  · exact ⟨by omega, by omega⟩
  exact ⟨_, _, _, rfl, rfl, rfl, rfl, (by first | omega | assumption | exact q_rg_up (by assumption) (by omega) | exact q_rg_up (q_rg_up (by assumption) (by omega)) (by omega) | exact q_rg_cpy (by assumption) (by assumption))⟩

theorem dX2_ways_0 : decode cX2_ways 0 = .ok (.aload_n 0, 1) := by decide +kernel
theorem dX2_ways_1 : decode cX2_ways 1 = .ok (.iconst (-1), 1) := by decide +kernel
theorem dX2_ways_2 : decode cX2_ways 2 = .ok (.invokevirtual 87, 3) := by decide +kernel
theorem dX2_ways_5 : decode cX2_ways 5 = .ok (.aload_n 0, 1) := by decide +kernel
theorem dX2_ways_6 : decode cX2_ways 6 = .ok (.iload_n 1, 1) := by decide +kernel
theorem dX2_ways_7 : decode cX2_ways 7 = .ok (.invokevirtual 91, 3) := by decide +kernel
theorem dX2_ways_10 : decode cX2_ways 10 = .ok (.ifCond .eq 12, 3) := by decide +kernel
theorem dX2_ways_13 : decode cX2_ways 13 = .ok (.aload_n 0, 1) := by decide +kernel
theorem dX2_ways_14 : decode cX2_ways 14 = .ok (.getfield 18, 3) := by decide +kernel
theorem dX2_ways_17 : decode cX2_ways 17 = .ok (.iload_n 1, 1) := by decide +kernel
theorem dX2_ways_18 : decode cX2_ways 18 = .ok (.laload, 1) := by decide +kernel
theorem dX2_ways_19 : decode cX2_ways 19 = .ok (.goto 4, 3) := by decide +kernel
theorem dX2_ways_22 : decode cX2_ways 22 = .ok (.lconst 0, 1) := by decide +kernel
theorem dX2_ways_23 : decode cX2_ways 23 = .ok (.lreturn, 1) := by decide +kernel
def is_X2_ways : Nat → List Nat := fun d => []
set_option maxRecDepth 100000 in
def b_X2_ways_23 (J : Nat → List qV → List qV → qW → Prop) (Q : qR) : qK := x_lret Q
set_option maxRecDepth 100000 in
theorem s_X2_ways_23 {p : Program} {l : Launch} {e : Env} {R : Room} {s : State} {m : MethodId} {args : Array Value} {below : List Frame} {meth : Method} {c : Code} {nW : Nat} {dC : Nat → ClassId} {dI : Nat → Nat → Nat} {k : Nat → ClassId} {g : Nat → Nat} {A : Nat → Prop} {J : Nat → List qV → List qV → qW → Prop} {Q : qR} (X : q_X p R s m args meth c cX2_ways 2 nW 2 50 RX2 (some .long) dC dI k g A) (hJ : ∀ d : Nat, q_Sd p l e R s m args below meth c 2 nW dC dI k g A (MQ below (q_post (dC, dI) k g nW Q A) args s 0 0 A) d (x_cut (is_X2_ways d) (J d))) : q_Sd p l e R s m args below meth c 2 nW dC dI k g A (MQ below (q_post (dC, dI) k g nW Q A) args s 0 0 A) 23 (b_X2_ways_23 J Q) := by
  unfold b_X2_ways_23
  exact s_lret X dX2_ways_23
set_option maxRecDepth 100000 in
def b_X2_ways_0 (J : Nat → List qV → List qV → qW → Prop) (Q : qR) : qK := x_aload 0 (x_int (-1) (x_call (some 2) 2 sp_X2_mix (x_nw (x_aload 0 (x_iload 1 (x_callr (some 2) 2 spr_X2_inRange (x_if_eq (x_lng 0 (b_X2_ways_23 J Q)) (x_aload 0 (x_get 2 2 (x_iload 1 (x_lald (b_X2_ways_23 J Q))))))))))))
set_option maxRecDepth 100000 in
theorem s_X2_ways_0 {p : Program} {l : Launch} {e : Env} {R : Room} {s : State} {m : MethodId} {args : Array Value} {below : List Frame} {meth : Method} {c : Code} {nW : Nat} {dC : Nat → ClassId} {dI : Nat → Nat → Nat} {k : Nat → ClassId} {g : Nat → Nat} {A : Nat → Prop} {J : Nat → List qV → List qV → qW → Prop} {Q : qR} (X : q_X p R s m args meth c cX2_ways 2 nW 2 50 RX2 (some .long) dC dI k g A) (hJ : ∀ d : Nat, q_Sd p l e R s m args below meth c 2 nW dC dI k g A (MQ below (q_post (dC, dI) k g nW Q A) args s 0 0 A) d (x_cut (is_X2_ways d) (J d))) : q_Sd p l e R s m args below meth c 2 nW dC dI k g A (MQ below (q_post (dC, dI) k g nW Q A) args s 0 0 A) 0 (b_X2_ways_0 J Q) := by
  unfold b_X2_ways_0
  refine s_aload_n X rfl dX2_ways_0 ?_
  refine s_iconst X ⟨by decide, by decide⟩ dX2_ways_1 ?_
  refine s_callV X (m_X2_mix l) tw_839 tw_840 tw_1498 tw_132 tw_841 rfl (by decide +kernel) ⟨by decide, by decide⟩ dX2_ways_2 ?_
  refine s_nw ?_
  refine s_aload_n X rfl dX2_ways_5 ?_
  refine s_iload_n X rfl dX2_ways_6 ?_
  refine s_callVr X (m_X2_inRange l) tw_845 tw_846 tw_1497 tw_132 tw_847 rfl (by decide +kernel) ⟨by decide, by decide⟩ dX2_ways_7 ?_
  refine s_if_eq X (tgt := 22) dX2_ways_10 (by decide) ?_ ?_
  · refine s_lconst X ⟨by decide, by decide⟩ (by decide) dX2_ways_22 ?_
    exact s_X2_ways_23 X hJ
  · refine s_aload_n X rfl dX2_ways_13 ?_
    refine s_get X (T := TX2) (C := RX2) (N := 5) tu_X2 rfl (by decide) tw_316 dX2_ways_14 ?_
    refine s_iload_n X rfl dX2_ways_17 ?_
    refine s_lald X dX2_ways_18 ?_
    refine s_goto X (tgt := 23) dX2_ways_19 (by decide) ?_
    exact s_X2_ways_23 X hJ

def sp_X2_ways : qS := fun av w Q => ∃ (o1 : Nat → Int) (a1 : Nat → Int) (m1 : Nat → Int) (s1 : Nat → Int) (g0 : Int) (a : Int), av = [q2 0, q1 a] ∧ w = (wGo 0 o1 a1 m1 s1 g0) ∧ (0 ≤ g0 ∧ g0 ≤ 8) ∧ (∀ (r : Int) (x3 : Nat → Int), Q (some (q3 r)) ((wGo 0 o1 a1 x3 s1 g0)))
set_option maxHeartbeats 4000000 in
set_option maxRecDepth 100000 in
theorem m_X2_ways (l : Launch) : q_M l yX2_ways cX2_ways 2 (some .long) 2 50 sp_X2_ways := by
  refine q_meth (by decide) (fun av w Q h => by obtain ⟨o1, a1, m1, s1, g0, a, rfl, rfl, hg0, hQ⟩ := h; exact Nat.le_of_ble_eq_true rfl) ?_
  intro p e R s m args below meth c dC dI k g A av w Q hsp oka okw X
  obtain ⟨o1, a1, m1, s1, g0, a, rfl, rfl, hg0, hQ⟩ := hsp
  have o_a : -2147483648 ≤ a ∧ a ≤ 2147483647 := oka _ (List.mem_of_getElem? (i := 1) rfl)
  refine s_mono (s_X2_ways_0 X (J := fun _ _ _ _ => False) (fun d => s_cutF)) ?_
  rintro lv st w' ⟨rfl, rfl, rfl⟩
  refine Exists.intro [0, 1, 2, 3, 4] (Exists.intro [q2 0, q1 _] (Exists.intro ((wGo 0 _ _ _ _ _)) (And.intro rfl (And.intro rfl (And.intro rfl (And.intro ⟨⟨_, rfl⟩, rfl⟩ ?_))))))
  refine Exists.intro _ (Exists.intro _ (Exists.intro _ (Exists.intro _ (Exists.intro _ (Exists.intro _ (And.intro rfl (And.intro rfl (And.intro (by first | omega | assumption | exact q_rg_up (by assumption) (by omega) | exact q_rg_up (q_rg_up (by assumption) (by omega)) (by omega) | exact q_rg_cpy (by assumption) (by assumption)) (?_)))))))))
  intro x3_2
  refine Exists.intro [0, 1, 2, 3, 4] (Exists.intro [q2 0, q1 _] (Exists.intro ((wGo 0 _ _ _ _ _)) (And.intro rfl (And.intro rfl (And.intro rfl (And.intro ⟨⟨_, rfl⟩, rfl⟩ ?_))))))
  refine Exists.intro _ (Exists.intro _ (Exists.intro _ (Exists.intro _ (Exists.intro _ (Exists.intro _ (And.intro rfl (And.intro rfl (?_))))))))
  intro z7 h7
  apply And.intro
  · intro h10
    exact hQ _ _
  · intro h10
    apply And.intro
    · exact ⟨by omega, by omega⟩
    intro z18 h18
    exact hQ _ _

theorem dX2_did_0 : decode cX2_did 0 = .ok (.aload_n 0, 1) := by decide +kernel
theorem dX2_did_1 : decode cX2_did 1 = .ok (.iload_n 3, 1) := by decide +kernel
theorem dX2_did_2 : decode cX2_did 2 = .ok (.invokevirtual 91, 3) := by decide +kernel
theorem dX2_did_5 : decode cX2_did 5 = .ok (.ifCond .eq 22, 3) := by decide +kernel
theorem dX2_did_8 : decode cX2_did 8 = .ok (.iload_n 2, 1) := by decide +kernel
theorem dX2_did_9 : decode cX2_did 9 = .ok (.ifCond .lt 18, 3) := by decide +kernel
theorem dX2_did_12 : decode cX2_did 12 = .ok (.iload_n 2, 1) := by decide +kernel
theorem dX2_did_13 : decode cX2_did 13 = .ok (.iload_n 3, 1) := by decide +kernel
theorem dX2_did_14 : decode cX2_did 14 = .ok (.if_icmp .gt 13, 3) := by decide +kernel
theorem dX2_did_17 : decode cX2_did 17 = .ok (.iload_n 1, 1) := by decide +kernel
theorem dX2_did_18 : decode cX2_did 18 = .ok (.ifCond .lt 9, 3) := by decide +kernel
theorem dX2_did_21 : decode cX2_did 21 = .ok (.iload_n 1, 1) := by decide +kernel
theorem dX2_did_22 : decode cX2_did 22 = .ok (.bipush 8, 2) := by decide +kernel
theorem dX2_did_24 : decode cX2_did 24 = .ok (.if_icmp .lt 5, 3) := by decide +kernel
theorem dX2_did_27 : decode cX2_did 27 = .ok (.lconst 0, 1) := by decide +kernel
theorem dX2_did_28 : decode cX2_did 28 = .ok (.lreturn, 1) := by decide +kernel
theorem dX2_did_29 : decode cX2_did 29 = .ok (.iload_n 3, 1) := by decide +kernel
theorem dX2_did_30 : decode cX2_did 30 = .ok (.iload_n 2, 1) := by decide +kernel
theorem dX2_did_31 : decode cX2_did 31 = .ok (.invokestatic 83, 3) := by decide +kernel
theorem dX2_did_34 : decode cX2_did 34 = .ok (.aload_n 0, 1) := by decide +kernel
theorem dX2_did_35 : decode cX2_did 35 = .ok (.getfield 15, 3) := by decide +kernel
theorem dX2_did_38 : decode cX2_did 38 = .ok (.bipush 9, 2) := by decide +kernel
theorem dX2_did_40 : decode cX2_did 40 = .ok (.iload_n 1, 1) := by decide +kernel
theorem dX2_did_41 : decode cX2_did 41 = .ok (.imul, 1) := by decide +kernel
theorem dX2_did_42 : decode cX2_did 42 = .ok (.iload_n 2, 1) := by decide +kernel
theorem dX2_did_43 : decode cX2_did 43 = .ok (.iadd, 1) := by decide +kernel
theorem dX2_did_44 : decode cX2_did 44 = .ok (.laload, 1) := by decide +kernel
theorem dX2_did_45 : decode cX2_did 45 = .ok (.lmul, 1) := by decide +kernel
theorem dX2_did_46 : decode cX2_did 46 = .ok (.aload_n 0, 1) := by decide +kernel
theorem dX2_did_47 : decode cX2_did 47 = .ok (.getfield 18, 3) := by decide +kernel
theorem dX2_did_50 : decode cX2_did 50 = .ok (.iload_n 3, 1) := by decide +kernel
theorem dX2_did_51 : decode cX2_did 51 = .ok (.iload_n 2, 1) := by decide +kernel
theorem dX2_did_52 : decode cX2_did 52 = .ok (.isub, 1) := by decide +kernel
theorem dX2_did_53 : decode cX2_did 53 = .ok (.laload, 1) := by decide +kernel
theorem dX2_did_54 : decode cX2_did 54 = .ok (.lmul, 1) := by decide +kernel
theorem dX2_did_55 : decode cX2_did 55 = .ok (.lreturn, 1) := by decide +kernel
def is_X2_did : Nat → List Nat := fun d => []
set_option maxRecDepth 100000 in
def b_X2_did_27 (J : Nat → List qV → List qV → qW → Prop) (Q : qR) : qK := x_lng 0 (x_lret Q)
set_option maxRecDepth 100000 in
theorem s_X2_did_27 {p : Program} {l : Launch} {e : Env} {R : Room} {s : State} {m : MethodId} {args : Array Value} {below : List Frame} {meth : Method} {c : Code} {nW : Nat} {dC : Nat → ClassId} {dI : Nat → Nat → Nat} {k : Nat → ClassId} {g : Nat → Nat} {A : Nat → Prop} {J : Nat → List qV → List qV → qW → Prop} {Q : qR} (X : q_X p R s m args meth c cX2_did 4 nW 1 21 RX2 (some .long) dC dI k g A) (hJ : ∀ d : Nat, q_Sd p l e R s m args below meth c 4 nW dC dI k g A (MQ below (q_post (dC, dI) k g nW Q A) args s 0 0 A) d (x_cut (is_X2_did d) (J d))) : q_Sd p l e R s m args below meth c 4 nW dC dI k g A (MQ below (q_post (dC, dI) k g nW Q A) args s 0 0 A) 27 (b_X2_did_27 J Q) := by
  unfold b_X2_did_27
  refine s_lconst X ⟨by decide, by decide⟩ (by decide) dX2_did_27 ?_
  exact s_lret X dX2_did_28
set_option maxRecDepth 100000 in
def b_X2_did_0 (J : Nat → List qV → List qV → qW → Prop) (Q : qR) : qK := x_aload 0 (x_iload 3 (x_callr (some 2) 2 spr_X2_inRange (x_if_eq (b_X2_did_27 J Q) (x_iload 2 (x_if_lt (b_X2_did_27 J Q) (x_iload 2 (x_iload 3 (x_icmp_gt (b_X2_did_27 J Q) (x_iload 1 (x_if_lt (b_X2_did_27 J Q) (x_iload 1 (x_int 8 (x_icmp_lt (x_iload 3 (x_iload 2 (x_callr none 2 spr_X2_choose (x_aload 0 (x_get 2 1 (x_int 9 (x_iload 1 (x_imul (x_iload 2 (x_iadd (x_lald (x_lmul (x_aload 0 (x_get 2 2 (x_iload 3 (x_iload 2 (x_isub (x_lald (x_lmul (x_lret Q)))))))))))))))))))) (b_X2_did_27 J Q))))))))))))))
set_option maxRecDepth 100000 in
theorem s_X2_did_0 {p : Program} {l : Launch} {e : Env} {R : Room} {s : State} {m : MethodId} {args : Array Value} {below : List Frame} {meth : Method} {c : Code} {nW : Nat} {dC : Nat → ClassId} {dI : Nat → Nat → Nat} {k : Nat → ClassId} {g : Nat → Nat} {A : Nat → Prop} {J : Nat → List qV → List qV → qW → Prop} {Q : qR} (X : q_X p R s m args meth c cX2_did 4 nW 1 21 RX2 (some .long) dC dI k g A) (hJ : ∀ d : Nat, q_Sd p l e R s m args below meth c 4 nW dC dI k g A (MQ below (q_post (dC, dI) k g nW Q A) args s 0 0 A) d (x_cut (is_X2_did d) (J d))) : q_Sd p l e R s m args below meth c 4 nW dC dI k g A (MQ below (q_post (dC, dI) k g nW Q A) args s 0 0 A) 0 (b_X2_did_0 J Q) := by
  unfold b_X2_did_0
  refine s_aload_n X rfl dX2_did_0 ?_
  refine s_iload_n X rfl dX2_did_1 ?_
  refine s_callVr X (m_X2_inRange l) tw_845 tw_846 tw_1497 tw_132 tw_847 rfl (by decide +kernel) ⟨by decide, by decide⟩ dX2_did_2 ?_
  refine s_if_eq X (tgt := 27) dX2_did_5 (by decide) ?_ ?_
  · exact s_X2_did_27 X hJ
  · refine s_iload_n X rfl dX2_did_8 ?_
    refine s_if_lt X (tgt := 27) dX2_did_9 (by decide) ?_ ?_
    · exact s_X2_did_27 X hJ
    · refine s_iload_n X rfl dX2_did_12 ?_
      refine s_iload_n X rfl dX2_did_13 ?_
      refine s_icmp_gt X (tgt := 27) dX2_did_14 (by decide) ?_ ?_
      · exact s_X2_did_27 X hJ
      · refine s_iload_n X rfl dX2_did_17 ?_
        refine s_if_lt X (tgt := 27) dX2_did_18 (by decide) ?_ ?_
        · exact s_X2_did_27 X hJ
        · refine s_iload_n X rfl dX2_did_21 ?_
          refine s_bipush X ⟨by decide, by decide⟩ (by decide) dX2_did_22 ?_
          refine s_icmp_lt X (tgt := 29) dX2_did_24 (by decide) ?_ ?_
          · refine s_iload_n X rfl dX2_did_29 ?_
            refine s_iload_n X rfl dX2_did_30 ?_
            refine s_callSr X (m_X2_choose l) tw_842 tw_843 tw_132 tw_844 (by decide +kernel) ⟨by decide, by decide⟩ dX2_did_31 ?_
            refine s_aload_n X rfl dX2_did_34 ?_
            refine s_get X (T := TX2) (C := RX2) (N := 5) tu_X2 rfl (by decide) tw_315 dX2_did_35 ?_
            refine s_bipush X ⟨by decide, by decide⟩ (by decide) dX2_did_38 ?_
            refine s_iload_n X rfl dX2_did_40 ?_
            refine s_imul X dX2_did_41 ?_
            refine s_iload_n X rfl dX2_did_42 ?_
            refine s_iadd X dX2_did_43 ?_
            refine s_lald X dX2_did_44 ?_
            refine s_lmul X dX2_did_45 ?_
            refine s_aload_n X rfl dX2_did_46 ?_
            refine s_get X (T := TX2) (C := RX2) (N := 5) tu_X2 rfl (by decide) tw_316 dX2_did_47 ?_
            refine s_iload_n X rfl dX2_did_50 ?_
            refine s_iload_n X rfl dX2_did_51 ?_
            refine s_isub X dX2_did_52 ?_
            refine s_lald X dX2_did_53 ?_
            refine s_lmul X dX2_did_54 ?_
            exact s_lret X dX2_did_55
          · exact s_X2_did_27 X hJ

def spr_X2_did : List qV → qW → (Option qV → Prop) → Prop := fun av w Q => ∃ (o1 : Nat → Int) (a1 : Nat → Int) (m1 : Nat → Int) (s1 : Nat → Int) (g0 : Int) (a : Int) (b : Int) (q : Int), av = [q2 0, q1 a, q1 b, q1 q] ∧ w = (wGo 0 o1 a1 m1 s1 g0) ∧ (0 ≤ g0 ∧ g0 ≤ 8) ∧ (∀ (r : Int) , Q (some (q3 r)))
def sp_X2_did : qS := fun av w Q => spr_X2_did av w (fun r => Q r w)
set_option maxHeartbeats 4000000 in
set_option maxRecDepth 100000 in
theorem m_X2_did (l : Launch) : q_M l yX2_did cX2_did 4 (some .long) 1 21 sp_X2_did := by
  refine q_meth (by decide) (fun av w Q h => by obtain ⟨o1, a1, m1, s1, g0, a, b, q, rfl, rfl, hg0, hQ⟩ := h; exact Nat.le_of_ble_eq_true rfl) ?_
  intro p e R s m args below meth c dC dI k g A av w Q hsp oka okw X
  obtain ⟨o1, a1, m1, s1, g0, a, b, q, rfl, rfl, hg0, hQ⟩ := hsp
  have o_a : -2147483648 ≤ a ∧ a ≤ 2147483647 := oka _ (List.mem_of_getElem? (i := 1) rfl)
  have o_b : -2147483648 ≤ b ∧ b ≤ 2147483647 := oka _ (List.mem_of_getElem? (i := 2) rfl)
  have o_q : -2147483648 ≤ q ∧ q ≤ 2147483647 := oka _ (List.mem_of_getElem? (i := 3) rfl)
  refine s_mono (s_X2_did_0 X (J := fun _ _ _ _ => False) (fun d => s_cutF)) ?_
  rintro lv st w' ⟨rfl, rfl, rfl⟩
  refine Exists.intro [0, 1, 2, 3, 4] (Exists.intro [q2 0, q1 _] (Exists.intro ((wGo 0 _ _ _ _ _)) (And.intro rfl (And.intro rfl (And.intro rfl (And.intro ⟨⟨_, rfl⟩, rfl⟩ ?_))))))
  refine Exists.intro _ (Exists.intro _ (Exists.intro _ (Exists.intro _ (Exists.intro _ (Exists.intro _ (And.intro rfl (And.intro rfl (?_))))))))
  intro z2 h2
  apply And.intro
  · intro h5
    exact hQ _
  · intro h5
    apply And.intro
    · intro h9
      exact hQ _
    · intro h9
      apply And.intro
      · intro h14
        exact hQ _
      · intro h14
        apply And.intro
        · intro h18
          exact hQ _
        · intro h18
          apply And.intro
          · intro h24
            refine Exists.intro [] (Exists.intro [q1 _, q1 _] (Exists.intro ([]) (And.intro rfl (And.intro rfl (And.intro rfl (And.intro trivial ?_))))))
            refine Exists.intro _ (Exists.intro _ (And.intro rfl (And.intro rfl (?_))))
            intro z31
            intro z41 h41
            first | replace h41 := e_mul h41 (by omega) | replace h41 := e_rng h41
            intro z43 h43
            first | replace h43 := e_add h43 (by omega) | replace h43 := e_rng h43
            apply And.intro
            · exact ⟨by omega, by omega⟩
            intro z44 h44
            intro z45 h45
            replace h45 := e_rngl h45
            intro z52 h52
            first | replace h52 := e_sub h52 (by omega) | replace h52 := e_rng h52
            apply And.intro
            · exact ⟨by omega, by omega⟩
            intro z53 h53
            intro z54 h54
            replace h54 := e_rngl h54
            exact hQ _
          · intro h24
            exact hQ _

theorem dX2_didJust_0 : decode cX2_didJust 0 = .ok (.aload_n 0, 1) := by decide +kernel
theorem dX2_didJust_1 : decode cX2_didJust 1 = .ok (.iload_n 1, 1) := by decide +kernel
theorem dX2_didJust_2 : decode cX2_didJust 2 = .ok (.invokevirtual 87, 3) := by decide +kernel
theorem dX2_didJust_5 : decode cX2_didJust 5 = .ok (.aload_n 0, 1) := by decide +kernel
theorem dX2_didJust_6 : decode cX2_didJust 6 = .ok (.iload_n 1, 1) := by decide +kernel
theorem dX2_didJust_7 : decode cX2_didJust 7 = .ok (.iload_n 2, 1) := by decide +kernel
theorem dX2_didJust_8 : decode cX2_didJust 8 = .ok (.iload_n 3, 1) := by decide +kernel
theorem dX2_didJust_9 : decode cX2_didJust 9 = .ok (.invokevirtual 94, 3) := by decide +kernel
theorem dX2_didJust_12 : decode cX2_didJust 12 = .ok (.lreturn, 1) := by decide +kernel
def is_X2_didJust : Nat → List Nat := fun d => []
set_option maxRecDepth 100000 in
def b_X2_didJust_0 (J : Nat → List qV → List qV → qW → Prop) (Q : qR) : qK := x_aload 0 (x_iload 1 (x_call (some 2) 2 sp_X2_mix (x_nw (x_aload 0 (x_iload 1 (x_iload 2 (x_iload 3 (x_callr (some 2) 4 spr_X2_did (x_lret Q)))))))))
set_option maxRecDepth 100000 in
theorem s_X2_didJust_0 {p : Program} {l : Launch} {e : Env} {R : Room} {s : State} {m : MethodId} {args : Array Value} {below : List Frame} {meth : Method} {c : Code} {nW : Nat} {dC : Nat → ClassId} {dI : Nat → Nat → Nat} {k : Nat → ClassId} {g : Nat → Nat} {A : Nat → Prop} {J : Nat → List qV → List qV → qW → Prop} {Q : qR} (X : q_X p R s m args meth c cX2_didJust 4 nW 2 50 RX2 (some .long) dC dI k g A) (hJ : ∀ d : Nat, q_Sd p l e R s m args below meth c 4 nW dC dI k g A (MQ below (q_post (dC, dI) k g nW Q A) args s 0 0 A) d (x_cut (is_X2_didJust d) (J d))) : q_Sd p l e R s m args below meth c 4 nW dC dI k g A (MQ below (q_post (dC, dI) k g nW Q A) args s 0 0 A) 0 (b_X2_didJust_0 J Q) := by
  unfold b_X2_didJust_0
  refine s_aload_n X rfl dX2_didJust_0 ?_
  refine s_iload_n X rfl dX2_didJust_1 ?_
  refine s_callV X (m_X2_mix l) tw_839 tw_840 tw_1498 tw_132 tw_841 rfl (by decide +kernel) ⟨by decide, by decide⟩ dX2_didJust_2 ?_
  refine s_nw ?_
  refine s_aload_n X rfl dX2_didJust_5 ?_
  refine s_iload_n X rfl dX2_didJust_6 ?_
  refine s_iload_n X rfl dX2_didJust_7 ?_
  refine s_iload_n X rfl dX2_didJust_8 ?_
  refine s_callVr X (m_X2_did l) tw_852 tw_853 tw_1493 tw_132 tw_854 rfl (by decide +kernel) ⟨by decide, by decide⟩ dX2_didJust_9 ?_
  exact s_lret X dX2_didJust_12

def sp_X2_didJust : qS := fun av w Q => ∃ (o1 : Nat → Int) (a1 : Nat → Int) (m1 : Nat → Int) (s1 : Nat → Int) (g0 : Int) (a : Int) (b : Int) (q : Int), av = [q2 0, q1 a, q1 b, q1 q] ∧ w = (wGo 0 o1 a1 m1 s1 g0) ∧ (0 ≤ g0 ∧ g0 ≤ 8) ∧ (∀ (r : Int) (x3 : Nat → Int), Q (some (q3 r)) ((wGo 0 o1 a1 x3 s1 g0)))
set_option maxHeartbeats 4000000 in
set_option maxRecDepth 100000 in
theorem m_X2_didJust (l : Launch) : q_M l yX2_didJust cX2_didJust 4 (some .long) 2 50 sp_X2_didJust := by
  refine q_meth (by decide) (fun av w Q h => by obtain ⟨o1, a1, m1, s1, g0, a, b, q, rfl, rfl, hg0, hQ⟩ := h; exact Nat.le_of_ble_eq_true rfl) ?_
  intro p e R s m args below meth c dC dI k g A av w Q hsp oka okw X
  obtain ⟨o1, a1, m1, s1, g0, a, b, q, rfl, rfl, hg0, hQ⟩ := hsp
  have o_a : -2147483648 ≤ a ∧ a ≤ 2147483647 := oka _ (List.mem_of_getElem? (i := 1) rfl)
  have o_b : -2147483648 ≤ b ∧ b ≤ 2147483647 := oka _ (List.mem_of_getElem? (i := 2) rfl)
  have o_q : -2147483648 ≤ q ∧ q ≤ 2147483647 := oka _ (List.mem_of_getElem? (i := 3) rfl)
  refine s_mono (s_X2_didJust_0 X (J := fun _ _ _ _ => False) (fun d => s_cutF)) ?_
  rintro lv st w' ⟨rfl, rfl, rfl⟩
  refine Exists.intro [0, 1, 2, 3, 4] (Exists.intro [q2 0, q1 _] (Exists.intro ((wGo 0 _ _ _ _ _)) (And.intro rfl (And.intro rfl (And.intro rfl (And.intro ⟨⟨_, rfl⟩, rfl⟩ ?_))))))
  refine Exists.intro _ (Exists.intro _ (Exists.intro _ (Exists.intro _ (Exists.intro _ (Exists.intro _ (And.intro rfl (And.intro rfl (And.intro (by first | omega | assumption | exact q_rg_up (by assumption) (by omega) | exact q_rg_up (q_rg_up (by assumption) (by omega)) (by omega) | exact q_rg_cpy (by assumption) (by assumption)) (?_)))))))))
  intro x3_2
  refine Exists.intro [0, 1, 2, 3, 4] (Exists.intro [q2 0, q1 _, q1 _, q1 _] (Exists.intro ((wGo 0 _ _ _ _ _)) (And.intro rfl (And.intro rfl (And.intro rfl (And.intro ⟨⟨_, rfl⟩, rfl⟩ ?_))))))
  refine Exists.intro _ (Exists.intro _ (Exists.intro _ (Exists.intro _ (Exists.intro _ (Exists.intro _ (Exists.intro _ (Exists.intro _ (And.intro rfl (And.intro rfl (And.intro (by first | omega | assumption | exact q_rg_up (by assumption) (by omega) | exact q_rg_up (q_rg_up (by assumption) (by omega)) (by omega) | exact q_rg_cpy (by assumption) (by assumption)) (?_)))))))))))
  intro z9
  exact hQ _ _

theorem dX2_surely_0 : decode cX2_surely 0 = .ok (.aload_n 0, 1) := by decide +kernel
theorem dX2_surely_1 : decode cX2_surely 1 = .ok (.iload_n 2, 1) := by decide +kernel
theorem dX2_surely_2 : decode cX2_surely 2 = .ok (.invokevirtual 97, 3) := by decide +kernel
theorem dX2_surely_5 : decode cX2_surely 5 = .ok (.lstore_n 3, 1) := by decide +kernel
theorem dX2_surely_6 : decode cX2_surely 6 = .ok (.aload_n 0, 1) := by decide +kernel
theorem dX2_surely_7 : decode cX2_surely 7 = .ok (.iload_n 1, 1) := by decide +kernel
theorem dX2_surely_8 : decode cX2_surely 8 = .ok (.invokevirtual 87, 3) := by decide +kernel
theorem dX2_surely_11 : decode cX2_surely 11 = .ok (.iconst 0, 1) := by decide +kernel
theorem dX2_surely_12 : decode cX2_surely 12 = .ok (.istore 5, 2) := by decide +kernel
theorem dX2_surely_14 : decode cX2_surely 14 = .ok (.iload 5, 2) := by decide +kernel
theorem dX2_surely_16 : decode cX2_surely 16 = .ok (.iload_n 2, 1) := by decide +kernel
theorem dX2_surely_17 : decode cX2_surely 17 = .ok (.if_icmp .gt 31, 3) := by decide +kernel
theorem dX2_surely_20 : decode cX2_surely 20 = .ok (.lload_n 3, 1) := by decide +kernel
theorem dX2_surely_21 : decode cX2_surely 21 = .ok (.lconst 0, 1) := by decide +kernel
theorem dX2_surely_22 : decode cX2_surely 22 = .ok (.lcmp, 1) := by decide +kernel
theorem dX2_surely_23 : decode cX2_surely 23 = .ok (.ifCond .le 25, 3) := by decide +kernel
theorem dX2_surely_26 : decode cX2_surely 26 = .ok (.aload_n 0, 1) := by decide +kernel
theorem dX2_surely_27 : decode cX2_surely 27 = .ok (.iload_n 1, 1) := by decide +kernel
theorem dX2_surely_28 : decode cX2_surely 28 = .ok (.iload 5, 2) := by decide +kernel
theorem dX2_surely_30 : decode cX2_surely 30 = .ok (.iload_n 2, 1) := by decide +kernel
theorem dX2_surely_31 : decode cX2_surely 31 = .ok (.invokevirtual 94, 3) := by decide +kernel
theorem dX2_surely_34 : decode cX2_surely 34 = .ok (.lload_n 3, 1) := by decide +kernel
theorem dX2_surely_35 : decode cX2_surely 35 = .ok (.lcmp, 1) := by decide +kernel
theorem dX2_surely_36 : decode cX2_surely 36 = .ok (.ifCond .ne 6, 3) := by decide +kernel
theorem dX2_surely_39 : decode cX2_surely 39 = .ok (.iload 5, 2) := by decide +kernel
theorem dX2_surely_41 : decode cX2_surely 41 = .ok (.ireturn, 1) := by decide +kernel
theorem dX2_surely_42 : decode cX2_surely 42 = .ok (.iinc 5 1, 3) := by decide +kernel
theorem dX2_surely_45 : decode cX2_surely 45 = .ok (.goto (-31), 3) := by decide +kernel
theorem dX2_surely_48 : decode cX2_surely 48 = .ok (.iconst (-1), 1) := by decide +kernel
theorem dX2_surely_49 : decode cX2_surely 49 = .ok (.ireturn, 1) := by decide +kernel
def is_X2_surely : Nat → List Nat := fun d => if d = 14 then [0, 1, 2, 3, 5] else []
set_option maxRecDepth 100000 in
def b_X2_surely_48 (J : Nat → List qV → List qV → qW → Prop) (Q : qR) : qK := x_int (-1) (x_iret Q)
set_option maxRecDepth 100000 in
theorem s_X2_surely_48 {p : Program} {l : Launch} {e : Env} {R : Room} {s : State} {m : MethodId} {args : Array Value} {below : List Frame} {meth : Method} {c : Code} {nW : Nat} {dC : Nat → ClassId} {dI : Nat → Nat → Nat} {k : Nat → ClassId} {g : Nat → Nat} {A : Nat → Prop} {J : Nat → List qV → List qV → qW → Prop} {Q : qR} (X : q_X p R s m args meth c cX2_surely 6 nW 3 71 RX2 (some .int) dC dI k g A) (hJ : ∀ d : Nat, q_Sd p l e R s m args below meth c 6 nW dC dI k g A (MQ below (q_post (dC, dI) k g nW Q A) args s 0 0 A) d (x_cut (is_X2_surely d) (J d))) : q_Sd p l e R s m args below meth c 6 nW dC dI k g A (MQ below (q_post (dC, dI) k g nW Q A) args s 0 0 A) 48 (b_X2_surely_48 J Q) := by
  unfold b_X2_surely_48
  refine s_iconst X ⟨by decide, by decide⟩ dX2_surely_48 ?_
  exact s_iret X dX2_surely_49
set_option maxRecDepth 100000 in
def b_X2_surely_14 (J : Nat → List qV → List qV → qW → Prop) (Q : qR) : qK := x_iload 5 (x_iload 2 (x_icmp_gt (b_X2_surely_48 J Q) (x_lload 3 (x_lng 0 (x_lcmp (x_if_le (b_X2_surely_48 J Q) (x_aload 0 (x_iload 1 (x_iload 5 (x_iload 2 (x_callr (some 2) 4 spr_X2_did (x_lload 3 (x_lcmp (x_if_ne (x_iinc 5 1 (x_cut [0, 1, 2, 3, 5] (J 14))) (x_iload 5 (x_iret Q))))))))))))))))
set_option maxRecDepth 100000 in
theorem s_X2_surely_14 {p : Program} {l : Launch} {e : Env} {R : Room} {s : State} {m : MethodId} {args : Array Value} {below : List Frame} {meth : Method} {c : Code} {nW : Nat} {dC : Nat → ClassId} {dI : Nat → Nat → Nat} {k : Nat → ClassId} {g : Nat → Nat} {A : Nat → Prop} {J : Nat → List qV → List qV → qW → Prop} {Q : qR} (X : q_X p R s m args meth c cX2_surely 6 nW 3 71 RX2 (some .int) dC dI k g A) (hJ : ∀ d : Nat, q_Sd p l e R s m args below meth c 6 nW dC dI k g A (MQ below (q_post (dC, dI) k g nW Q A) args s 0 0 A) d (x_cut (is_X2_surely d) (J d))) : q_Sd p l e R s m args below meth c 6 nW dC dI k g A (MQ below (q_post (dC, dI) k g nW Q A) args s 0 0 A) 14 (b_X2_surely_14 J Q) := by
  unfold b_X2_surely_14
  refine s_iload X dX2_surely_14 ?_
  refine s_iload_n X rfl dX2_surely_16 ?_
  refine s_icmp_gt X (tgt := 48) dX2_surely_17 (by decide) ?_ ?_
  · exact s_X2_surely_48 X hJ
  · refine s_lload_n X rfl dX2_surely_20 ?_
    refine s_lconst X ⟨by decide, by decide⟩ (by decide) dX2_surely_21 ?_
    refine s_lcmp X dX2_surely_22 ?_
    refine s_if_le X (tgt := 48) dX2_surely_23 (by decide) ?_ ?_
    · exact s_X2_surely_48 X hJ
    · refine s_aload_n X rfl dX2_surely_26 ?_
      refine s_iload_n X rfl dX2_surely_27 ?_
      refine s_iload X dX2_surely_28 ?_
      refine s_iload_n X rfl dX2_surely_30 ?_
      refine s_callVr X (m_X2_did l) tw_852 tw_853 tw_1493 tw_132 tw_854 rfl (by decide +kernel) ⟨by decide, by decide⟩ dX2_surely_31 ?_
      refine s_lload_n X rfl dX2_surely_34 ?_
      refine s_lcmp X dX2_surely_35 ?_
      refine s_if_ne X (tgt := 42) dX2_surely_36 (by decide) ?_ ?_
      · refine s_iinc X (by decide) dX2_surely_42 ?_
        refine s_goto X (tgt := 14) dX2_surely_45 (by decide) ?_
        exact hJ 14
      · refine s_iload X dX2_surely_39 ?_
        exact s_iret X dX2_surely_41
set_option maxRecDepth 100000 in
def b_X2_surely_0 (J : Nat → List qV → List qV → qW → Prop) (Q : qR) : qK := x_aload 0 (x_iload 2 (x_call (some 2) 2 sp_X2_ways (x_nw (x_lstore 3 (x_aload 0 (x_iload 1 (x_call (some 2) 2 sp_X2_mix (x_nw (x_int 0 (x_istore 5 (x_cut [0, 1, 2, 3, 5] (J 14))))))))))))
set_option maxRecDepth 100000 in
theorem s_X2_surely_0 {p : Program} {l : Launch} {e : Env} {R : Room} {s : State} {m : MethodId} {args : Array Value} {below : List Frame} {meth : Method} {c : Code} {nW : Nat} {dC : Nat → ClassId} {dI : Nat → Nat → Nat} {k : Nat → ClassId} {g : Nat → Nat} {A : Nat → Prop} {J : Nat → List qV → List qV → qW → Prop} {Q : qR} (X : q_X p R s m args meth c cX2_surely 6 nW 3 71 RX2 (some .int) dC dI k g A) (hJ : ∀ d : Nat, q_Sd p l e R s m args below meth c 6 nW dC dI k g A (MQ below (q_post (dC, dI) k g nW Q A) args s 0 0 A) d (x_cut (is_X2_surely d) (J d))) : q_Sd p l e R s m args below meth c 6 nW dC dI k g A (MQ below (q_post (dC, dI) k g nW Q A) args s 0 0 A) 0 (b_X2_surely_0 J Q) := by
  unfold b_X2_surely_0
  refine s_aload_n X rfl dX2_surely_0 ?_
  refine s_iload_n X rfl dX2_surely_1 ?_
  refine s_callV X (m_X2_ways l) tw_863 tw_836 tw_837 tw_132 tw_838 rfl (by decide +kernel) ⟨by decide, by decide⟩ dX2_surely_2 ?_
  refine s_nw ?_
  refine s_lstore_n X rfl (by decide) dX2_surely_5 ?_
  refine s_aload_n X rfl dX2_surely_6 ?_
  refine s_iload_n X rfl dX2_surely_7 ?_
  refine s_callV X (m_X2_mix l) tw_839 tw_840 tw_1498 tw_132 tw_841 rfl (by decide +kernel) ⟨by decide, by decide⟩ dX2_surely_8 ?_
  refine s_nw ?_
  refine s_iconst X ⟨by decide, by decide⟩ dX2_surely_11 ?_
  refine s_istore X (by decide) dX2_surely_12 ?_
  exact hJ 14

def sp_X2_surely : qS := fun av w Q => ∃ (o1 : Nat → Int) (a1 : Nat → Int) (m1 : Nat → Int) (s1 : Nat → Int) (g0 : Int) (a : Int) (b : Int), av = [q2 0, q1 a, q1 b] ∧ w = (wGo 0 o1 a1 m1 s1 g0) ∧ (0 ≤ g0 ∧ g0 ≤ 8) ∧ (0 ≤ b ∧ b ≤ 8) ∧ (∀ (r : Int) (x3 : Nat → Int), Q (some (q1 r)) ((wGo 0 o1 a1 x3 s1 g0)))
def I_X2_surely (o1 : Nat → Int) (a1 : Nat → Int) (m1 : Nat → Int) (s1 : Nat → Int) (g0 : Int) (a : Int) (b : Int) : Nat → Nat → List qV → List qV → qW → Prop := fun dz mz vz sz wz => if dz = 14 then (∃ (y3 : Nat → Int) (v3 : Int) (v5 : Int), vz = [q2 0, q1 a, q1 b, q3 v3, q1 v5] ∧ sz = [] ∧ wz = (wGo 0 o1 a1 y3 s1 g0) ∧ mz = (9 - v5).toNat ∧ (0 ≤ v5 ∧ v5 ≤ 9)) else False
set_option maxHeartbeats 4000000 in
set_option maxRecDepth 100000 in
theorem m_X2_surely (l : Launch) : q_M l yX2_surely cX2_surely 6 (some .int) 3 71 sp_X2_surely := by
  refine q_meth (by decide) (fun av w Q h => by obtain ⟨o1, a1, m1, s1, g0, a, b, rfl, rfl, hg0, hb, hQ⟩ := h; exact Nat.le_of_ble_eq_true rfl) ?_
  intro p e R s m args below meth c dC dI k g A av w Q hsp oka okw X
  obtain ⟨o1, a1, m1, s1, g0, a, b, rfl, rfl, hg0, hb, hQ⟩ := hsp
  have o_a : -2147483648 ≤ a ∧ a ≤ 2147483647 := oka _ (List.mem_of_getElem? (i := 1) rfl)
  have o_b : -2147483648 ≤ b ∧ b ≤ 2147483647 := oka _ (List.mem_of_getElem? (i := 2) rfl)
  refine s_mono (s_X2_surely_0 X (J := fun dz vz sz wz => ∃ mz, I_X2_surely o1 a1 m1 s1 g0 a b dz mz vz sz wz) (q_loopn (I_X2_surely o1 a1 m1 s1 g0 a b) (fun dz J => if dz = 14 then b_X2_surely_14 J Q else q_F) ?hs ?hv)) ?_
  case hs =>
    intro d J hJ
    by_cases h14 : d = 14
    · subst h14; exact s_X2_surely_14 X hJ
    simp only [h14, if_false]
    exact s_F
  case hv =>
    intro dz mz vz sz wz hI okv oks okw hlen
    by_cases h14 : dz = 14
    · subst h14
      obtain ⟨y3, v3, v5, rfl, rfl, rfl, hn, hp⟩ := hI
      apply And.intro
      · intro h17
        exact hQ _ _
      · intro h17
        intro z22 h22
        replace h22 := e_cmp h22
        apply And.intro
        · intro h23
          exact hQ _ _
        · intro h23
          refine Exists.intro [0, 1, 2, 3, 4] (Exists.intro [q2 0, q1 _, q1 _, q1 _] (Exists.intro ((wGo 0 _ _ _ _ _)) (And.intro rfl (And.intro rfl (And.intro rfl (And.intro ⟨⟨_, rfl⟩, rfl⟩ ?_))))))
          refine Exists.intro _ (Exists.intro _ (Exists.intro _ (Exists.intro _ (Exists.intro _ (Exists.intro _ (Exists.intro _ (Exists.intro _ (And.intro rfl (And.intro rfl (And.intro (by first | omega | assumption | exact q_rg_up (by assumption) (by omega) | exact q_rg_up (q_rg_up (by assumption) (by omega)) (by omega) | exact q_rg_cpy (by assumption) (by assumption)) (?_)))))))))))
          intro z31
          intro z35 h35
          replace h35 := e_cmp h35
          apply And.intro
          · intro h36
            intro z42 h42
            first | replace h42 := e_add h42 (by omega) | replace h42 := e_rng h42
            exact ⟨_, ⟨_, _, _, rfl, rfl, rfl, rfl, (by first | omega | assumption | exact q_rg_up (by assumption) (by omega) | exact q_rg_up (q_rg_up (by assumption) (by omega)) (by omega) | exact q_rg_cpy (by assumption) (by assumption))⟩, by omega⟩
          · intro h36
            exact hQ _ _
    simp only [I_X2_surely, h14, if_false] at hI
  rintro lv st w' ⟨rfl, rfl, rfl⟩
  refine Exists.intro [0, 1, 2, 3, 4] (Exists.intro [q2 0, q1 _] (Exists.intro ((wGo 0 _ _ _ _ _)) (And.intro rfl (And.intro rfl (And.intro rfl (And.intro ⟨⟨_, rfl⟩, rfl⟩ ?_))))))
  refine Exists.intro _ (Exists.intro _ (Exists.intro _ (Exists.intro _ (Exists.intro _ (Exists.intro _ (And.intro rfl (And.intro rfl (And.intro (by first | omega | assumption | exact q_rg_up (by assumption) (by omega) | exact q_rg_up (q_rg_up (by assumption) (by omega)) (by omega) | exact q_rg_cpy (by assumption) (by assumption)) (?_)))))))))
  intro z2 x3_2
  refine Exists.intro [0, 1, 2, 3, 4] (Exists.intro [q2 0, q1 _] (Exists.intro ((wGo 0 _ _ _ _ _)) (And.intro rfl (And.intro rfl (And.intro rfl (And.intro ⟨⟨_, rfl⟩, rfl⟩ ?_))))))
  refine Exists.intro _ (Exists.intro _ (Exists.intro _ (Exists.intro _ (Exists.intro _ (Exists.intro _ (And.intro rfl (And.intro rfl (And.intro (by first | omega | assumption | exact q_rg_up (by assumption) (by omega) | exact q_rg_up (q_rg_up (by assumption) (by omega)) (by omega) | exact q_rg_cpy (by assumption) (by assumption)) (?_)))))))))
  intro x3_8
  exact ⟨_, _, _, _, rfl, rfl, rfl, rfl, (by first | omega | assumption | exact q_rg_up (by assumption) (by omega) | exact q_rg_up (q_rg_up (by assumption) (by omega)) (by omega) | exact q_rg_cpy (by assumption) (by assumption))⟩

theorem dX2_greatestDid_0 : decode cX2_greatestDid 0 = .ok (.aload_n 0, 1) := by decide +kernel
theorem dX2_greatestDid_1 : decode cX2_greatestDid 1 = .ok (.iload_n 1, 1) := by decide +kernel
theorem dX2_greatestDid_2 : decode cX2_greatestDid 2 = .ok (.invokevirtual 87, 3) := by decide +kernel
theorem dX2_greatestDid_5 : decode cX2_greatestDid 5 = .ok (.lconst 0, 1) := by decide +kernel
theorem dX2_greatestDid_6 : decode cX2_greatestDid 6 = .ok (.lstore_n 3, 1) := by decide +kernel
theorem dX2_greatestDid_7 : decode cX2_greatestDid 7 = .ok (.iconst 0, 1) := by decide +kernel
theorem dX2_greatestDid_8 : decode cX2_greatestDid 8 = .ok (.istore 5, 2) := by decide +kernel
theorem dX2_greatestDid_10 : decode cX2_greatestDid 10 = .ok (.iload 5, 2) := by decide +kernel
theorem dX2_greatestDid_12 : decode cX2_greatestDid 12 = .ok (.iload_n 2, 1) := by decide +kernel
theorem dX2_greatestDid_13 : decode cX2_greatestDid 13 = .ok (.if_icmp .gt 22, 3) := by decide +kernel
theorem dX2_greatestDid_16 : decode cX2_greatestDid 16 = .ok (.lload_n 3, 1) := by decide +kernel
theorem dX2_greatestDid_17 : decode cX2_greatestDid 17 = .ok (.aload_n 0, 1) := by decide +kernel
theorem dX2_greatestDid_18 : decode cX2_greatestDid 18 = .ok (.iload_n 1, 1) := by decide +kernel
theorem dX2_greatestDid_19 : decode cX2_greatestDid 19 = .ok (.iload 5, 2) := by decide +kernel
theorem dX2_greatestDid_21 : decode cX2_greatestDid 21 = .ok (.iload_n 2, 1) := by decide +kernel
theorem dX2_greatestDid_22 : decode cX2_greatestDid 22 = .ok (.invokevirtual 94, 3) := by decide +kernel
theorem dX2_greatestDid_25 : decode cX2_greatestDid 25 = .ok (.invokestatic 104, 3) := by decide +kernel
theorem dX2_greatestDid_28 : decode cX2_greatestDid 28 = .ok (.lstore_n 3, 1) := by decide +kernel
theorem dX2_greatestDid_29 : decode cX2_greatestDid 29 = .ok (.iinc 5 1, 3) := by decide +kernel
theorem dX2_greatestDid_32 : decode cX2_greatestDid 32 = .ok (.goto (-22), 3) := by decide +kernel
theorem dX2_greatestDid_35 : decode cX2_greatestDid 35 = .ok (.lload_n 3, 1) := by decide +kernel
theorem dX2_greatestDid_36 : decode cX2_greatestDid 36 = .ok (.lreturn, 1) := by decide +kernel
def is_X2_greatestDid : Nat → List Nat := fun d => if d = 10 then [0, 1, 2, 3, 5] else []
set_option maxRecDepth 100000 in
def b_X2_greatestDid_10 (J : Nat → List qV → List qV → qW → Prop) (Q : qR) : qK := x_iload 5 (x_iload 2 (x_icmp_gt (x_lload 3 (x_lret Q)) (x_lload 3 (x_aload 0 (x_iload 1 (x_iload 5 (x_iload 2 (x_callr (some 2) 4 spr_X2_did (x_lmax (x_lstore 3 (x_iinc 5 1 (x_cut [0, 1, 2, 3, 5] (J 10)))))))))))))
set_option maxRecDepth 100000 in
theorem s_X2_greatestDid_10 {p : Program} {l : Launch} {e : Env} {R : Room} {s : State} {m : MethodId} {args : Array Value} {below : List Frame} {meth : Method} {c : Code} {nW : Nat} {dC : Nat → ClassId} {dI : Nat → Nat → Nat} {k : Nat → ClassId} {g : Nat → Nat} {A : Nat → Prop} {J : Nat → List qV → List qV → qW → Prop} {Q : qR} (X : q_X p R s m args meth c cX2_greatestDid 6 nW 2 50 RX2 (some .long) dC dI k g A) (hJ : ∀ d : Nat, q_Sd p l e R s m args below meth c 6 nW dC dI k g A (MQ below (q_post (dC, dI) k g nW Q A) args s 0 0 A) d (x_cut (is_X2_greatestDid d) (J d))) : q_Sd p l e R s m args below meth c 6 nW dC dI k g A (MQ below (q_post (dC, dI) k g nW Q A) args s 0 0 A) 10 (b_X2_greatestDid_10 J Q) := by
  unfold b_X2_greatestDid_10
  refine s_iload X dX2_greatestDid_10 ?_
  refine s_iload_n X rfl dX2_greatestDid_12 ?_
  refine s_icmp_gt X (tgt := 35) dX2_greatestDid_13 (by decide) ?_ ?_
  · refine s_lload_n X rfl dX2_greatestDid_35 ?_
    exact s_lret X dX2_greatestDid_36
  · refine s_lload_n X rfl dX2_greatestDid_16 ?_
    refine s_aload_n X rfl dX2_greatestDid_17 ?_
    refine s_iload_n X rfl dX2_greatestDid_18 ?_
    refine s_iload X dX2_greatestDid_19 ?_
    refine s_iload_n X rfl dX2_greatestDid_21 ?_
    refine s_callVr X (m_X2_did l) tw_852 tw_853 tw_1493 tw_132 tw_854 rfl (by decide +kernel) ⟨by decide, by decide⟩ dX2_greatestDid_22 ?_
    refine s_lmax X tw_867 tw_868 tw_135 tw_869 ⟨by decide, by decide⟩ dX2_greatestDid_25 ?_
    refine s_lstore_n X rfl (by decide) dX2_greatestDid_28 ?_
    refine s_iinc X (by decide) dX2_greatestDid_29 ?_
    refine s_goto X (tgt := 10) dX2_greatestDid_32 (by decide) ?_
    exact hJ 10
set_option maxRecDepth 100000 in
def b_X2_greatestDid_0 (J : Nat → List qV → List qV → qW → Prop) (Q : qR) : qK := x_aload 0 (x_iload 1 (x_call (some 2) 2 sp_X2_mix (x_nw (x_lng 0 (x_lstore 3 (x_int 0 (x_istore 5 (x_cut [0, 1, 2, 3, 5] (J 10)))))))))
set_option maxRecDepth 100000 in
theorem s_X2_greatestDid_0 {p : Program} {l : Launch} {e : Env} {R : Room} {s : State} {m : MethodId} {args : Array Value} {below : List Frame} {meth : Method} {c : Code} {nW : Nat} {dC : Nat → ClassId} {dI : Nat → Nat → Nat} {k : Nat → ClassId} {g : Nat → Nat} {A : Nat → Prop} {J : Nat → List qV → List qV → qW → Prop} {Q : qR} (X : q_X p R s m args meth c cX2_greatestDid 6 nW 2 50 RX2 (some .long) dC dI k g A) (hJ : ∀ d : Nat, q_Sd p l e R s m args below meth c 6 nW dC dI k g A (MQ below (q_post (dC, dI) k g nW Q A) args s 0 0 A) d (x_cut (is_X2_greatestDid d) (J d))) : q_Sd p l e R s m args below meth c 6 nW dC dI k g A (MQ below (q_post (dC, dI) k g nW Q A) args s 0 0 A) 0 (b_X2_greatestDid_0 J Q) := by
  unfold b_X2_greatestDid_0
  refine s_aload_n X rfl dX2_greatestDid_0 ?_
  refine s_iload_n X rfl dX2_greatestDid_1 ?_
  refine s_callV X (m_X2_mix l) tw_839 tw_840 tw_1498 tw_132 tw_841 rfl (by decide +kernel) ⟨by decide, by decide⟩ dX2_greatestDid_2 ?_
  refine s_nw ?_
  refine s_lconst X ⟨by decide, by decide⟩ (by decide) dX2_greatestDid_5 ?_
  refine s_lstore_n X rfl (by decide) dX2_greatestDid_6 ?_
  refine s_iconst X ⟨by decide, by decide⟩ dX2_greatestDid_7 ?_
  refine s_istore X (by decide) dX2_greatestDid_8 ?_
  exact hJ 10

def sp_X2_greatestDid : qS := fun av w Q => ∃ (o1 : Nat → Int) (a1 : Nat → Int) (m1 : Nat → Int) (s1 : Nat → Int) (g0 : Int) (a : Int) (b : Int), av = [q2 0, q1 a, q1 b] ∧ w = (wGo 0 o1 a1 m1 s1 g0) ∧ (0 ≤ g0 ∧ g0 ≤ 8) ∧ (0 ≤ b ∧ b ≤ 8) ∧ (∀ (r : Int) (x3 : Nat → Int), Q (some (q3 r)) ((wGo 0 o1 a1 x3 s1 g0)))
def I_X2_greatestDid (o1 : Nat → Int) (a1 : Nat → Int) (m1 : Nat → Int) (s1 : Nat → Int) (g0 : Int) (a : Int) (b : Int) : Nat → Nat → List qV → List qV → qW → Prop := fun dz mz vz sz wz => if dz = 10 then (∃ (y3 : Nat → Int) (v3 : Int) (v5 : Int), vz = [q2 0, q1 a, q1 b, q3 v3, q1 v5] ∧ sz = [] ∧ wz = (wGo 0 o1 a1 y3 s1 g0) ∧ mz = (9 - v5).toNat ∧ (0 ≤ v5 ∧ v5 ≤ 9)) else False
set_option maxHeartbeats 4000000 in
set_option maxRecDepth 100000 in
theorem m_X2_greatestDid (l : Launch) : q_M l yX2_greatestDid cX2_greatestDid 6 (some .long) 2 50 sp_X2_greatestDid := by
  refine q_meth (by decide) (fun av w Q h => by obtain ⟨o1, a1, m1, s1, g0, a, b, rfl, rfl, hg0, hb, hQ⟩ := h; exact Nat.le_of_ble_eq_true rfl) ?_
  intro p e R s m args below meth c dC dI k g A av w Q hsp oka okw X
  obtain ⟨o1, a1, m1, s1, g0, a, b, rfl, rfl, hg0, hb, hQ⟩ := hsp
  have o_a : -2147483648 ≤ a ∧ a ≤ 2147483647 := oka _ (List.mem_of_getElem? (i := 1) rfl)
  have o_b : -2147483648 ≤ b ∧ b ≤ 2147483647 := oka _ (List.mem_of_getElem? (i := 2) rfl)
  refine s_mono (s_X2_greatestDid_0 X (J := fun dz vz sz wz => ∃ mz, I_X2_greatestDid o1 a1 m1 s1 g0 a b dz mz vz sz wz) (q_loopn (I_X2_greatestDid o1 a1 m1 s1 g0 a b) (fun dz J => if dz = 10 then b_X2_greatestDid_10 J Q else q_F) ?hs ?hv)) ?_
  case hs =>
    intro d J hJ
    by_cases h10 : d = 10
    · subst h10; exact s_X2_greatestDid_10 X hJ
    simp only [h10, if_false]
    exact s_F
  case hv =>
    intro dz mz vz sz wz hI okv oks okw hlen
    by_cases h10 : dz = 10
    · subst h10
      obtain ⟨y3, v3, v5, rfl, rfl, rfl, hn, hp⟩ := hI
      apply And.intro
      · intro h13
        exact hQ _ _
      · intro h13
        refine Exists.intro [0, 1, 2, 3, 4] (Exists.intro [q2 0, q1 _, q1 _, q1 _] (Exists.intro ((wGo 0 _ _ _ _ _)) (And.intro rfl (And.intro rfl (And.intro rfl (And.intro ⟨⟨_, rfl⟩, rfl⟩ ?_))))))
        refine Exists.intro _ (Exists.intro _ (Exists.intro _ (Exists.intro _ (Exists.intro _ (Exists.intro _ (Exists.intro _ (Exists.intro _ (And.intro rfl (And.intro rfl (And.intro (by first | omega | assumption | exact q_rg_up (by assumption) (by omega) | exact q_rg_up (q_rg_up (by assumption) (by omega)) (by omega) | exact q_rg_cpy (by assumption) (by assumption)) (?_)))))))))))
        intro z22
        intro z25 h25
        intro z29 h29
        first | replace h29 := e_add h29 (by omega) | replace h29 := e_rng h29
        exact ⟨_, ⟨_, _, _, rfl, rfl, rfl, rfl, (by first | omega | assumption | exact q_rg_up (by assumption) (by omega) | exact q_rg_up (q_rg_up (by assumption) (by omega)) (by omega) | exact q_rg_cpy (by assumption) (by assumption))⟩, by omega⟩
    simp only [I_X2_greatestDid, h10, if_false] at hI
  rintro lv st w' ⟨rfl, rfl, rfl⟩
  refine Exists.intro [0, 1, 2, 3, 4] (Exists.intro [q2 0, q1 _] (Exists.intro ((wGo 0 _ _ _ _ _)) (And.intro rfl (And.intro rfl (And.intro rfl (And.intro ⟨⟨_, rfl⟩, rfl⟩ ?_))))))
  refine Exists.intro _ (Exists.intro _ (Exists.intro _ (Exists.intro _ (Exists.intro _ (Exists.intro _ (And.intro rfl (And.intro rfl (And.intro (by first | omega | assumption | exact q_rg_up (by assumption) (by omega) | exact q_rg_up (q_rg_up (by assumption) (by omega)) (by omega) | exact q_rg_cpy (by assumption) (by assumption)) (?_)))))))))
  intro x3_2
  exact ⟨_, _, _, _, rfl, rfl, rfl, rfl, (by first | omega | assumption | exact q_rg_up (by assumption) (by omega) | exact q_rg_up (q_rg_up (by assumption) (by omega)) (by omega) | exact q_rg_cpy (by assumption) (by assumption))⟩

theorem dX2_whomToAsk_0 : decode cX2_whomToAsk 0 = .ok (.aload_n 0, 1) := by decide +kernel
theorem dX2_whomToAsk_1 : decode cX2_whomToAsk 1 = .ok (.iload_n 1, 1) := by decide +kernel
theorem dX2_whomToAsk_2 : decode cX2_whomToAsk 2 = .ok (.invokevirtual 97, 3) := by decide +kernel
theorem dX2_whomToAsk_5 : decode cX2_whomToAsk 5 = .ok (.lconst 0, 1) := by decide +kernel
theorem dX2_whomToAsk_6 : decode cX2_whomToAsk 6 = .ok (.lcmp, 1) := by decide +kernel
theorem dX2_whomToAsk_7 : decode cX2_whomToAsk 7 = .ok (.ifCond .ne 5, 3) := by decide +kernel
theorem dX2_whomToAsk_10 : decode cX2_whomToAsk 10 = .ok (.iconst (-1), 1) := by decide +kernel
theorem dX2_whomToAsk_11 : decode cX2_whomToAsk 11 = .ok (.ireturn, 1) := by decide +kernel
theorem dX2_whomToAsk_12 : decode cX2_whomToAsk 12 = .ok (.iconst (-1), 1) := by decide +kernel
theorem dX2_whomToAsk_13 : decode cX2_whomToAsk 13 = .ok (.istore_n 2, 1) := by decide +kernel
theorem dX2_whomToAsk_14 : decode cX2_whomToAsk 14 = .ok (.lconst 0, 1) := by decide +kernel
theorem dX2_whomToAsk_15 : decode cX2_whomToAsk 15 = .ok (.lstore_n 3, 1) := by decide +kernel
theorem dX2_whomToAsk_16 : decode cX2_whomToAsk 16 = .ok (.iconst 0, 1) := by decide +kernel
theorem dX2_whomToAsk_17 : decode cX2_whomToAsk 17 = .ok (.istore 5, 2) := by decide +kernel
theorem dX2_whomToAsk_19 : decode cX2_whomToAsk 19 = .ok (.iload 5, 2) := by decide +kernel
theorem dX2_whomToAsk_21 : decode cX2_whomToAsk 21 = .ok (.aload_n 0, 1) := by decide +kernel
theorem dX2_whomToAsk_22 : decode cX2_whomToAsk 22 = .ok (.getfield 31, 3) := by decide +kernel
theorem dX2_whomToAsk_25 : decode cX2_whomToAsk 25 = .ok (.if_icmp .ge 36, 3) := by decide +kernel
theorem dX2_whomToAsk_28 : decode cX2_whomToAsk 28 = .ok (.aload_n 0, 1) := by decide +kernel
theorem dX2_whomToAsk_29 : decode cX2_whomToAsk 29 = .ok (.iload 5, 2) := by decide +kernel
theorem dX2_whomToAsk_31 : decode cX2_whomToAsk 31 = .ok (.iload_n 1, 1) := by decide +kernel
theorem dX2_whomToAsk_32 : decode cX2_whomToAsk 32 = .ok (.invokevirtual 101, 3) := by decide +kernel
theorem dX2_whomToAsk_35 : decode cX2_whomToAsk 35 = .ok (.lstore 6, 2) := by decide +kernel
theorem dX2_whomToAsk_37 : decode cX2_whomToAsk 37 = .ok (.iload_n 2, 1) := by decide +kernel
theorem dX2_whomToAsk_38 : decode cX2_whomToAsk 38 = .ok (.iconst (-1), 1) := by decide +kernel
theorem dX2_whomToAsk_39 : decode cX2_whomToAsk 39 = .ok (.if_icmp .eq 10, 3) := by decide +kernel
theorem dX2_whomToAsk_42 : decode cX2_whomToAsk 42 = .ok (.lload 6, 2) := by decide +kernel
theorem dX2_whomToAsk_44 : decode cX2_whomToAsk 44 = .ok (.lload_n 3, 1) := by decide +kernel
theorem dX2_whomToAsk_45 : decode cX2_whomToAsk 45 = .ok (.lcmp, 1) := by decide +kernel
theorem dX2_whomToAsk_46 : decode cX2_whomToAsk 46 = .ok (.ifCond .ge 9, 3) := by decide +kernel
theorem dX2_whomToAsk_49 : decode cX2_whomToAsk 49 = .ok (.iload 5, 2) := by decide +kernel
theorem dX2_whomToAsk_51 : decode cX2_whomToAsk 51 = .ok (.istore_n 2, 1) := by decide +kernel
theorem dX2_whomToAsk_52 : decode cX2_whomToAsk 52 = .ok (.lload 6, 2) := by decide +kernel
theorem dX2_whomToAsk_54 : decode cX2_whomToAsk 54 = .ok (.lstore_n 3, 1) := by decide +kernel
theorem dX2_whomToAsk_55 : decode cX2_whomToAsk 55 = .ok (.iinc 5 1, 3) := by decide +kernel
theorem dX2_whomToAsk_58 : decode cX2_whomToAsk 58 = .ok (.goto (-39), 3) := by decide +kernel
theorem dX2_whomToAsk_61 : decode cX2_whomToAsk 61 = .ok (.iload_n 2, 1) := by decide +kernel
theorem dX2_whomToAsk_62 : decode cX2_whomToAsk 62 = .ok (.ireturn, 1) := by decide +kernel
def is_X2_whomToAsk : Nat → List Nat := fun d => if d = 19 then [0, 1, 2, 3, 5] else []
set_option maxRecDepth 100000 in
def b_X2_whomToAsk_55 (J : Nat → List qV → List qV → qW → Prop) (Q : qR) : qK := x_iinc 5 1 (x_cut [0, 1, 2, 3, 5] (J 19))
set_option maxRecDepth 100000 in
theorem s_X2_whomToAsk_55 {p : Program} {l : Launch} {e : Env} {R : Room} {s : State} {m : MethodId} {args : Array Value} {below : List Frame} {meth : Method} {c : Code} {nW : Nat} {dC : Nat → ClassId} {dI : Nat → Nat → Nat} {k : Nat → ClassId} {g : Nat → Nat} {A : Nat → Prop} {J : Nat → List qV → List qV → qW → Prop} {Q : qR} (X : q_X p R s m args meth c cX2_whomToAsk 8 nW 3 75 RX2 (some .int) dC dI k g A) (hJ : ∀ d : Nat, q_Sd p l e R s m args below meth c 8 nW dC dI k g A (MQ below (q_post (dC, dI) k g nW Q A) args s 0 0 A) d (x_cut (is_X2_whomToAsk d) (J d))) : q_Sd p l e R s m args below meth c 8 nW dC dI k g A (MQ below (q_post (dC, dI) k g nW Q A) args s 0 0 A) 55 (b_X2_whomToAsk_55 J Q) := by
  unfold b_X2_whomToAsk_55
  refine s_iinc X (by decide) dX2_whomToAsk_55 ?_
  refine s_goto X (tgt := 19) dX2_whomToAsk_58 (by decide) ?_
  exact hJ 19
set_option maxRecDepth 100000 in
def b_X2_whomToAsk_49 (J : Nat → List qV → List qV → qW → Prop) (Q : qR) : qK := x_iload 5 (x_istore 2 (x_lload 6 (x_lstore 3 (b_X2_whomToAsk_55 J Q))))
set_option maxRecDepth 100000 in
theorem s_X2_whomToAsk_49 {p : Program} {l : Launch} {e : Env} {R : Room} {s : State} {m : MethodId} {args : Array Value} {below : List Frame} {meth : Method} {c : Code} {nW : Nat} {dC : Nat → ClassId} {dI : Nat → Nat → Nat} {k : Nat → ClassId} {g : Nat → Nat} {A : Nat → Prop} {J : Nat → List qV → List qV → qW → Prop} {Q : qR} (X : q_X p R s m args meth c cX2_whomToAsk 8 nW 3 75 RX2 (some .int) dC dI k g A) (hJ : ∀ d : Nat, q_Sd p l e R s m args below meth c 8 nW dC dI k g A (MQ below (q_post (dC, dI) k g nW Q A) args s 0 0 A) d (x_cut (is_X2_whomToAsk d) (J d))) : q_Sd p l e R s m args below meth c 8 nW dC dI k g A (MQ below (q_post (dC, dI) k g nW Q A) args s 0 0 A) 49 (b_X2_whomToAsk_49 J Q) := by
  unfold b_X2_whomToAsk_49
  refine s_iload X dX2_whomToAsk_49 ?_
  refine s_istore_n X rfl (by decide) dX2_whomToAsk_51 ?_
  refine s_lload X dX2_whomToAsk_52 ?_
  refine s_lstore_n X rfl (by decide) dX2_whomToAsk_54 ?_
  exact s_X2_whomToAsk_55 X hJ
set_option maxRecDepth 100000 in
def b_X2_whomToAsk_19 (J : Nat → List qV → List qV → qW → Prop) (Q : qR) : qK := x_iload 5 (x_aload 0 (x_get 2 4 (x_icmp_ge (x_iload 2 (x_iret Q)) (x_aload 0 (x_iload 5 (x_iload 1 (x_call (some 2) 3 sp_X2_greatestDid (x_nw (x_lstore 6 (x_iload 2 (x_int (-1) (x_icmp_eq (b_X2_whomToAsk_49 J Q) (x_lload 6 (x_lload 3 (x_lcmp (x_if_ge (b_X2_whomToAsk_55 J Q) (b_X2_whomToAsk_49 J Q)))))))))))))))))
set_option maxRecDepth 100000 in
theorem s_X2_whomToAsk_19 {p : Program} {l : Launch} {e : Env} {R : Room} {s : State} {m : MethodId} {args : Array Value} {below : List Frame} {meth : Method} {c : Code} {nW : Nat} {dC : Nat → ClassId} {dI : Nat → Nat → Nat} {k : Nat → ClassId} {g : Nat → Nat} {A : Nat → Prop} {J : Nat → List qV → List qV → qW → Prop} {Q : qR} (X : q_X p R s m args meth c cX2_whomToAsk 8 nW 3 75 RX2 (some .int) dC dI k g A) (hJ : ∀ d : Nat, q_Sd p l e R s m args below meth c 8 nW dC dI k g A (MQ below (q_post (dC, dI) k g nW Q A) args s 0 0 A) d (x_cut (is_X2_whomToAsk d) (J d))) : q_Sd p l e R s m args below meth c 8 nW dC dI k g A (MQ below (q_post (dC, dI) k g nW Q A) args s 0 0 A) 19 (b_X2_whomToAsk_19 J Q) := by
  unfold b_X2_whomToAsk_19
  refine s_iload X dX2_whomToAsk_19 ?_
  refine s_aload_n X rfl dX2_whomToAsk_21 ?_
  refine s_get X (T := TX2) (C := RX2) (N := 5) tu_X2 rfl (by decide) tw_318 dX2_whomToAsk_22 ?_
  refine s_icmp_ge X (tgt := 61) dX2_whomToAsk_25 (by decide) ?_ ?_
  · refine s_iload_n X rfl dX2_whomToAsk_61 ?_
    exact s_iret X dX2_whomToAsk_62
  · refine s_aload_n X rfl dX2_whomToAsk_28 ?_
    refine s_iload X dX2_whomToAsk_29 ?_
    refine s_iload_n X rfl dX2_whomToAsk_31 ?_
    refine s_callV X (m_X2_greatestDid l) tw_864 tw_865 tw_1496 tw_132 tw_866 rfl (by decide +kernel) ⟨by decide, by decide⟩ dX2_whomToAsk_32 ?_
    refine s_nw ?_
    refine s_lstore X (by decide) dX2_whomToAsk_35 ?_
    refine s_iload_n X rfl dX2_whomToAsk_37 ?_
    refine s_iconst X ⟨by decide, by decide⟩ dX2_whomToAsk_38 ?_
    refine s_icmp_eq X (tgt := 49) dX2_whomToAsk_39 (by decide) ?_ ?_
    · exact s_X2_whomToAsk_49 X hJ
    · refine s_lload X dX2_whomToAsk_42 ?_
      refine s_lload_n X rfl dX2_whomToAsk_44 ?_
      refine s_lcmp X dX2_whomToAsk_45 ?_
      refine s_if_ge X (tgt := 55) dX2_whomToAsk_46 (by decide) ?_ ?_
      · exact s_X2_whomToAsk_55 X hJ
      · exact s_X2_whomToAsk_49 X hJ
set_option maxRecDepth 100000 in
def b_X2_whomToAsk_0 (J : Nat → List qV → List qV → qW → Prop) (Q : qR) : qK := x_aload 0 (x_iload 1 (x_call (some 2) 2 sp_X2_ways (x_nw (x_lng 0 (x_lcmp (x_if_ne (x_int (-1) (x_istore 2 (x_lng 0 (x_lstore 3 (x_int 0 (x_istore 5 (x_cut [0, 1, 2, 3, 5] (J 19)))))))) (x_int (-1) (x_iret Q))))))))
set_option maxRecDepth 100000 in
theorem s_X2_whomToAsk_0 {p : Program} {l : Launch} {e : Env} {R : Room} {s : State} {m : MethodId} {args : Array Value} {below : List Frame} {meth : Method} {c : Code} {nW : Nat} {dC : Nat → ClassId} {dI : Nat → Nat → Nat} {k : Nat → ClassId} {g : Nat → Nat} {A : Nat → Prop} {J : Nat → List qV → List qV → qW → Prop} {Q : qR} (X : q_X p R s m args meth c cX2_whomToAsk 8 nW 3 75 RX2 (some .int) dC dI k g A) (hJ : ∀ d : Nat, q_Sd p l e R s m args below meth c 8 nW dC dI k g A (MQ below (q_post (dC, dI) k g nW Q A) args s 0 0 A) d (x_cut (is_X2_whomToAsk d) (J d))) : q_Sd p l e R s m args below meth c 8 nW dC dI k g A (MQ below (q_post (dC, dI) k g nW Q A) args s 0 0 A) 0 (b_X2_whomToAsk_0 J Q) := by
  unfold b_X2_whomToAsk_0
  refine s_aload_n X rfl dX2_whomToAsk_0 ?_
  refine s_iload_n X rfl dX2_whomToAsk_1 ?_
  refine s_callV X (m_X2_ways l) tw_863 tw_836 tw_837 tw_132 tw_838 rfl (by decide +kernel) ⟨by decide, by decide⟩ dX2_whomToAsk_2 ?_
  refine s_nw ?_
  refine s_lconst X ⟨by decide, by decide⟩ (by decide) dX2_whomToAsk_5 ?_
  refine s_lcmp X dX2_whomToAsk_6 ?_
  refine s_if_ne X (tgt := 12) dX2_whomToAsk_7 (by decide) ?_ ?_
  · refine s_iconst X ⟨by decide, by decide⟩ dX2_whomToAsk_12 ?_
    refine s_istore_n X rfl (by decide) dX2_whomToAsk_13 ?_
    refine s_lconst X ⟨by decide, by decide⟩ (by decide) dX2_whomToAsk_14 ?_
    refine s_lstore_n X rfl (by decide) dX2_whomToAsk_15 ?_
    refine s_iconst X ⟨by decide, by decide⟩ dX2_whomToAsk_16 ?_
    refine s_istore X (by decide) dX2_whomToAsk_17 ?_
    exact hJ 19
  · refine s_iconst X ⟨by decide, by decide⟩ dX2_whomToAsk_10 ?_
    exact s_iret X dX2_whomToAsk_11

def sp_X2_whomToAsk : qS := fun av w Q => ∃ (o1 : Nat → Int) (a1 : Nat → Int) (m1 : Nat → Int) (s1 : Nat → Int) (g0 : Int) (a : Int), av = [q2 0, q1 a] ∧ w = (wGo 0 o1 a1 m1 s1 g0) ∧ (0 ≤ g0 ∧ g0 ≤ 8) ∧ (0 ≤ a ∧ a ≤ 8) ∧ (∀ (r : Int) (x3 : Nat → Int), Q (some (q1 r)) ((wGo 0 o1 a1 x3 s1 g0)))
def I_X2_whomToAsk (o1 : Nat → Int) (a1 : Nat → Int) (m1 : Nat → Int) (s1 : Nat → Int) (g0 : Int) (a : Int) : Nat → Nat → List qV → List qV → qW → Prop := fun dz mz vz sz wz => if dz = 19 then (∃ (y3 : Nat → Int) (v2 : Int) (v3 : Int) (v5 : Int), vz = [q2 0, q1 a, q1 v2, q3 v3, q1 v5] ∧ sz = [] ∧ wz = (wGo 0 o1 a1 y3 s1 g0) ∧ mz = (g0 - v5).toNat ∧ (0 ≤ v5 ∧ v5 ≤ g0)) else False
set_option maxHeartbeats 4000000 in
set_option maxRecDepth 100000 in
theorem m_X2_whomToAsk (l : Launch) : q_M l yX2_whomToAsk cX2_whomToAsk 8 (some .int) 3 75 sp_X2_whomToAsk := by
  refine q_meth (by decide) (fun av w Q h => by obtain ⟨o1, a1, m1, s1, g0, a, rfl, rfl, hg0, ha, hQ⟩ := h; exact Nat.le_of_ble_eq_true rfl) ?_
  intro p e R s m args below meth c dC dI k g A av w Q hsp oka okw X
  obtain ⟨o1, a1, m1, s1, g0, a, rfl, rfl, hg0, ha, hQ⟩ := hsp
  have o_a : -2147483648 ≤ a ∧ a ≤ 2147483647 := oka _ (List.mem_of_getElem? (i := 1) rfl)
  refine s_mono (s_X2_whomToAsk_0 X (J := fun dz vz sz wz => ∃ mz, I_X2_whomToAsk o1 a1 m1 s1 g0 a dz mz vz sz wz) (q_loopn (I_X2_whomToAsk o1 a1 m1 s1 g0 a) (fun dz J => if dz = 19 then b_X2_whomToAsk_19 J Q else q_F) ?hs ?hv)) ?_
  case hs =>
    intro d J hJ
    by_cases h19 : d = 19
    · subst h19; exact s_X2_whomToAsk_19 X hJ
    simp only [h19, if_false]
    exact s_F
  case hv =>
    intro dz mz vz sz wz hI okv oks okw hlen
    by_cases h19 : dz = 19
    · subst h19
      obtain ⟨y3, v2, v3, v5, rfl, rfl, rfl, hn, hp⟩ := hI
      apply And.intro
      · intro h25
        exact hQ _ _
      · intro h25
        refine Exists.intro [0, 1, 2, 3, 4] (Exists.intro [q2 0, q1 _, q1 _] (Exists.intro ((wGo 0 _ _ _ _ _)) (And.intro rfl (And.intro rfl (And.intro rfl (And.intro ⟨⟨_, rfl⟩, rfl⟩ ?_))))))
        refine Exists.intro _ (Exists.intro _ (Exists.intro _ (Exists.intro _ (Exists.intro _ (Exists.intro _ (Exists.intro _ (And.intro rfl (And.intro rfl (And.intro (by first | omega | assumption | exact q_rg_up (by assumption) (by omega) | exact q_rg_up (q_rg_up (by assumption) (by omega)) (by omega) | exact q_rg_cpy (by assumption) (by assumption)) (And.intro (by first | omega | assumption | exact q_rg_up (by assumption) (by omega) | exact q_rg_up (q_rg_up (by assumption) (by omega)) (by omega) | exact q_rg_cpy (by assumption) (by assumption)) (?_)))))))))))
        intro z32 x3_32
        apply And.intro
        · intro h39
          intro z55 h55
          first | replace h55 := e_add h55 (by omega) | replace h55 := e_rng h55
          exact ⟨_, ⟨_, _, _, _, rfl, rfl, rfl, rfl, (by first | omega | assumption | exact q_rg_up (by assumption) (by omega) | exact q_rg_up (q_rg_up (by assumption) (by omega)) (by omega) | exact q_rg_cpy (by assumption) (by assumption))⟩, by omega⟩
        · intro h39
          intro z45 h45
          replace h45 := e_cmp h45
          apply And.intro
          · intro h46
            intro z55 h55
            first | replace h55 := e_add h55 (by omega) | replace h55 := e_rng h55
            exact ⟨_, ⟨_, _, _, _, rfl, rfl, rfl, rfl, (by first | omega | assumption | exact q_rg_up (by assumption) (by omega) | exact q_rg_up (q_rg_up (by assumption) (by omega)) (by omega) | exact q_rg_cpy (by assumption) (by assumption))⟩, by omega⟩
          · intro h46
            intro z55 h55
            first | replace h55 := e_add h55 (by omega) | replace h55 := e_rng h55
            exact ⟨_, ⟨_, _, _, _, rfl, rfl, rfl, rfl, (by first | omega | assumption | exact q_rg_up (by assumption) (by omega) | exact q_rg_up (q_rg_up (by assumption) (by omega)) (by omega) | exact q_rg_cpy (by assumption) (by assumption))⟩, by omega⟩
    simp only [I_X2_whomToAsk, h19, if_false] at hI
  rintro lv st w' ⟨rfl, rfl, rfl⟩
  refine Exists.intro [0, 1, 2, 3, 4] (Exists.intro [q2 0, q1 _] (Exists.intro ((wGo 0 _ _ _ _ _)) (And.intro rfl (And.intro rfl (And.intro rfl (And.intro ⟨⟨_, rfl⟩, rfl⟩ ?_))))))
  refine Exists.intro _ (Exists.intro _ (Exists.intro _ (Exists.intro _ (Exists.intro _ (Exists.intro _ (And.intro rfl (And.intro rfl (And.intro (by first | omega | assumption | exact q_rg_up (by assumption) (by omega) | exact q_rg_up (q_rg_up (by assumption) (by omega)) (by omega) | exact q_rg_cpy (by assumption) (by assumption)) (?_)))))))))
  intro z2 x3_2
  intro z6 h6
  replace h6 := e_cmp h6
  apply And.intro
  · intro h7
    exact ⟨_, _, _, _, _, rfl, rfl, rfl, rfl, (by first | omega | assumption | exact q_rg_up (by assumption) (by omega) | exact q_rg_up (q_rg_up (by assumption) (by omega)) (by omega) | exact q_rg_cpy (by assumption) (by assumption))⟩
  · intro h7
    exact hQ _ _
