def wRo (b : Nat) (c1 : Nat → Int) (m0 n0 : Int) : qW := [.inr (5, [q2 (b + 1), q1 m0, q1 n0]), .inl (0, 1792, .inl c1)]

theorem dX5_inchesFor_0 : decode cX5_inchesFor 0 = .ok (.iconst 0, 1) := by decide +kernel
theorem dX5_inchesFor_1 : decode cX5_inchesFor 1 = .ok (.aload_n 0, 1) := by decide +kernel
theorem dX5_inchesFor_2 : decode cX5_inchesFor 2 = .ok (.getfield 61, 3) := by decide +kernel
theorem dX5_inchesFor_5 : decode cX5_inchesFor 5 = .ok (.iload_n 1, 1) := by decide +kernel
theorem dX5_inchesFor_6 : decode cX5_inchesFor 6 = .ok (.iaload, 1) := by decide +kernel
theorem dX5_inchesFor_7 : decode cX5_inchesFor 7 = .ok (.aload_n 0, 1) := by decide +kernel
theorem dX5_inchesFor_8 : decode cX5_inchesFor 8 = .ok (.getfield 64, 3) := by decide +kernel
theorem dX5_inchesFor_11 : decode cX5_inchesFor 11 = .ok (.iload_n 2, 1) := by decide +kernel
theorem dX5_inchesFor_12 : decode cX5_inchesFor 12 = .ok (.iaload, 1) := by decide +kernel
theorem dX5_inchesFor_13 : decode cX5_inchesFor 13 = .ok (.isub, 1) := by decide +kernel
theorem dX5_inchesFor_14 : decode cX5_inchesFor 14 = .ok (.invokestatic 67, 3) := by decide +kernel
theorem dX5_inchesFor_17 : decode cX5_inchesFor 17 = .ok (.ireturn, 1) := by decide +kernel
def is_X5_inchesFor : Nat → List Nat := fun d => []
set_option maxRecDepth 100000 in
def b_X5_inchesFor_0 (J : Nat → List qV → List qV → qW → Prop) (Q : qR) : qK := x_int 0 (x_aload 0 (x_get 0 6 (x_iload 1 (x_iald (x_aload 0 (x_get 0 0 (x_iload 2 (x_iald (x_isub (x_max (x_iret Q)))))))))))
set_option maxRecDepth 100000 in
theorem s_X5_inchesFor_0 {p : Program} {l : Launch} {e : Env} {R : Room} {s : State} {m : MethodId} {args : Array Value} {below : List Frame} {meth : Method} {c : Code} {nW : Nat} {dC : Nat → ClassId} {dI : Nat → Nat → Nat} {k : Nat → ClassId} {g : Nat → Nat} {A : Nat → Prop} {J : Nat → List qV → List qV → qW → Prop} {Q : qR} (X : q_X p R s m args meth c cX5_inchesFor 3 nW 1 21 RX5 (some .int) dC dI k g A) (hJ : ∀ d : Nat, q_Sd p l e R s m args below meth c 3 nW dC dI k g A (MQ below (q_post (dC, dI) k g nW Q A) args s 0 0 A) d (x_cut (is_X5_inchesFor d) (J d))) : q_Sd p l e R s m args below meth c 3 nW dC dI k g A (MQ below (q_post (dC, dI) k g nW Q A) args s 0 0 A) 0 (b_X5_inchesFor_0 J Q) := by
  unfold b_X5_inchesFor_0
  refine s_iconst X ⟨by decide, by decide⟩ dX5_inchesFor_0 ?_
  refine s_aload_n X rfl dX5_inchesFor_1 ?_
  refine s_get X (T := TX0) (C := RX0) (N := 12) tu_X0 rfl (by decide) tw_188 dX5_inchesFor_2 ?_
  refine s_iload_n X rfl dX5_inchesFor_5 ?_
  refine s_iald X dX5_inchesFor_6 ?_
  refine s_aload_n X rfl dX5_inchesFor_7 ?_
  refine s_get X (T := TX0) (C := RX0) (N := 12) tu_X0 rfl (by decide) tw_169 dX5_inchesFor_8 ?_
  refine s_iload_n X rfl dX5_inchesFor_11 ?_
  refine s_iald X dX5_inchesFor_12 ?_
  refine s_isub X dX5_inchesFor_13 ?_
  refine s_max X tw_644 tw_531 tw_135 tw_532 ⟨by decide, by decide⟩ dX5_inchesFor_14 ?_
  exact s_iret X dX5_inchesFor_17

def spr_X5_inchesFor : List qV → qW → (Option qV → Prop) → Prop := fun av w Q => ∃ (f1 : Nat → Int) (f2 : Nat → Int) (f3 : Nat → Int) (f4 : Nat → Int) (f5 : Nat → Int) (f6 : Nat → Int) (f7 : Nat → Int) (u0 : Int) (u1 : Int) (u2 : Int) (u3 : Int) (u4 : Int) (a : Int) (b : Int), av = [q2 0, q1 a, q1 b] ∧ w = wB f1 f2 f3 f4 f5 f6 f7 u0 u1 u2 u3 u4 ∧ (0 ≤ a ∧ a ≤ 5 ∧ 0 ≤ b ∧ b ≤ 7) ∧ (∀ (r : Int) , Q (some (q1 r)))
def sp_X5_inchesFor : qS := fun av w Q => spr_X5_inchesFor av w (fun r => Q r w)
set_option maxHeartbeats 4000000 in
set_option maxRecDepth 100000 in
theorem m_X5_inchesFor (l : Launch) : q_M l yX5_inchesFor cX5_inchesFor 3 (some .int) 1 21 sp_X5_inchesFor := by
  refine q_meth (by decide) (fun av w Q h => by obtain ⟨f1, f2, f3, f4, f5, f6, f7, u0, u1, u2, u3, u4, a, b, rfl, rfl, ha, hQ⟩ := h; exact Nat.le_of_ble_eq_true rfl) ?_
  intro p e R s m args below meth c dC dI k g A av w Q hsp oka okw X
  obtain ⟨f1, f2, f3, f4, f5, f6, f7, u0, u1, u2, u3, u4, a, b, rfl, rfl, ha, hQ⟩ := hsp
  have o_a : -2147483648 ≤ a ∧ a ≤ 2147483647 := oka _ (List.mem_of_getElem? (i := 1) rfl)
  have o_b : -2147483648 ≤ b ∧ b ≤ 2147483647 := oka _ (List.mem_of_getElem? (i := 2) rfl)
  refine s_mono (s_X5_inchesFor_0 X (J := fun _ _ _ _ => False) (fun d => s_cutF)) ?_
  rintro lv st w' ⟨rfl, rfl, rfl⟩
  apply And.intro
  · exact ⟨by omega, by omega⟩
  intro z6 h6
  apply And.intro
  · exact ⟨by omega, by omega⟩
  intro z12 h12
  intro z13 h13
  first | replace h13 := e_sub h13 (by omega) | replace h13 := e_rng h13
  intro z14 h14
  exact hQ _

theorem dX5_lower_0 : decode cX5_lower 0 = .ok (.iload_n 1, 1) := by decide +kernel
theorem dX5_lower_1 : decode cX5_lower 1 = .ok (.ifCond .lt 28, 3) := by decide +kernel
theorem dX5_lower_4 : decode cX5_lower 4 = .ok (.iload_n 1, 1) := by decide +kernel
theorem dX5_lower_5 : decode cX5_lower 5 = .ok (.aload_n 0, 1) := by decide +kernel
theorem dX5_lower_6 : decode cX5_lower 6 = .ok (.getfield 9, 3) := by decide +kernel
theorem dX5_lower_9 : decode cX5_lower 9 = .ok (.arraylength, 1) := by decide +kernel
theorem dX5_lower_10 : decode cX5_lower 10 = .ok (.if_icmp .ge 19, 3) := by decide +kernel
theorem dX5_lower_13 : decode cX5_lower 13 = .ok (.aload_n 0, 1) := by decide +kernel
theorem dX5_lower_14 : decode cX5_lower 14 = .ok (.getfield 9, 3) := by decide +kernel
theorem dX5_lower_17 : decode cX5_lower 17 = .ok (.iload_n 1, 1) := by decide +kernel
theorem dX5_lower_18 : decode cX5_lower 18 = .ok (.aload_n 0, 1) := by decide +kernel
theorem dX5_lower_19 : decode cX5_lower 19 = .ok (.getfield 9, 3) := by decide +kernel
theorem dX5_lower_22 : decode cX5_lower 22 = .ok (.iload_n 1, 1) := by decide +kernel
theorem dX5_lower_23 : decode cX5_lower 23 = .ok (.iaload, 1) := by decide +kernel
theorem dX5_lower_24 : decode cX5_lower 24 = .ok (.iload_n 2, 1) := by decide +kernel
theorem dX5_lower_25 : decode cX5_lower 25 = .ok (.invokestatic 55, 3) := by decide +kernel
theorem dX5_lower_28 : decode cX5_lower 28 = .ok (.iastore, 1) := by decide +kernel
theorem dX5_lower_29 : decode cX5_lower 29 = .ok (.return_, 1) := by decide +kernel
def is_X5_lower : Nat → List Nat := fun d => []
set_option maxRecDepth 100000 in
def b_X5_lower_29 (J : Nat → List qV → List qV → qW → Prop) (Q : qR) : qK := x_vret Q
set_option maxRecDepth 100000 in
theorem s_X5_lower_29 {p : Program} {l : Launch} {e : Env} {R : Room} {s : State} {m : MethodId} {args : Array Value} {below : List Frame} {meth : Method} {c : Code} {nW : Nat} {dC : Nat → ClassId} {dI : Nat → Nat → Nat} {k : Nat → ClassId} {g : Nat → Nat} {A : Nat → Prop} {J : Nat → List qV → List qV → qW → Prop} {Q : qR} (X : q_X p R s m args meth c cX5_lower 3 nW 1 21 RX5 none dC dI k g A) (hJ : ∀ d : Nat, q_Sd p l e R s m args below meth c 3 nW dC dI k g A (MQ below (q_post (dC, dI) k g nW Q A) args s 0 0 A) d (x_cut (is_X5_lower d) (J d))) : q_Sd p l e R s m args below meth c 3 nW dC dI k g A (MQ below (q_post (dC, dI) k g nW Q A) args s 0 0 A) 29 (b_X5_lower_29 J Q) := by
  unfold b_X5_lower_29
  exact s_vret X dX5_lower_29
set_option maxRecDepth 100000 in
def b_X5_lower_0 (J : Nat → List qV → List qV → qW → Prop) (Q : qR) : qK := x_iload 1 (x_if_lt (b_X5_lower_29 J Q) (x_iload 1 (x_aload 0 (x_get 5 0 (x_alen (x_icmp_ge (b_X5_lower_29 J Q) (x_aload 0 (x_get 5 0 (x_iload 1 (x_aload 0 (x_get 5 0 (x_iload 1 (x_iald (x_iload 2 (x_min (x_iast (x_nw (b_X5_lower_29 J Q))))))))))))))))))
set_option maxRecDepth 100000 in
theorem s_X5_lower_0 {p : Program} {l : Launch} {e : Env} {R : Room} {s : State} {m : MethodId} {args : Array Value} {below : List Frame} {meth : Method} {c : Code} {nW : Nat} {dC : Nat → ClassId} {dI : Nat → Nat → Nat} {k : Nat → ClassId} {g : Nat → Nat} {A : Nat → Prop} {J : Nat → List qV → List qV → qW → Prop} {Q : qR} (X : q_X p R s m args meth c cX5_lower 3 nW 1 21 RX5 none dC dI k g A) (hJ : ∀ d : Nat, q_Sd p l e R s m args below meth c 3 nW dC dI k g A (MQ below (q_post (dC, dI) k g nW Q A) args s 0 0 A) d (x_cut (is_X5_lower d) (J d))) : q_Sd p l e R s m args below meth c 3 nW dC dI k g A (MQ below (q_post (dC, dI) k g nW Q A) args s 0 0 A) 0 (b_X5_lower_0 J Q) := by
  unfold b_X5_lower_0
  refine s_iload_n X rfl dX5_lower_0 ?_
  refine s_if_lt X (tgt := 29) dX5_lower_1 (by decide) ?_ ?_
  · exact s_X5_lower_29 X hJ
  · refine s_iload_n X rfl dX5_lower_4 ?_
    refine s_aload_n X rfl dX5_lower_5 ?_
    refine s_get X (T := TX5) (C := RX5) (N := 3) tu_X5 rfl (by decide) tw_299 dX5_lower_6 ?_
    refine s_alen X dX5_lower_9 ?_
    refine s_icmp_ge X (tgt := 29) dX5_lower_10 (by decide) ?_ ?_
    · exact s_X5_lower_29 X hJ
    · refine s_aload_n X rfl dX5_lower_13 ?_
      refine s_get X (T := TX5) (C := RX5) (N := 3) tu_X5 rfl (by decide) tw_299 dX5_lower_14 ?_
      refine s_iload_n X rfl dX5_lower_17 ?_
      refine s_aload_n X rfl dX5_lower_18 ?_
      refine s_get X (T := TX5) (C := RX5) (N := 3) tu_X5 rfl (by decide) tw_299 dX5_lower_19 ?_
      refine s_iload_n X rfl dX5_lower_22 ?_
      refine s_iald X dX5_lower_23 ?_
      refine s_iload_n X rfl dX5_lower_24 ?_
      refine s_min X tw_640 tw_365 tw_135 tw_366 ⟨by decide, by decide⟩ dX5_lower_25 ?_
      refine s_iast X dX5_lower_28 ?_
      refine s_nw ?_
      exact s_X5_lower_29 X hJ

def sp_X5_lower : qS := fun av w Q => ∃ (c1 : Nat → Int) (m0 : Int) (n0 : Int) (a : Int) (b : Int), av = [q2 0, q1 a, q1 b] ∧ w = (wRo 0 c1 m0 n0) ∧ (∀ (x1 : Nat → Int) (x2 : Int) (x3 : Int), Q none ((wRo 0 x1 x2 x3)))
set_option maxHeartbeats 4000000 in
set_option maxRecDepth 100000 in
theorem m_X5_lower (l : Launch) : q_M l yX5_lower cX5_lower 3 none 1 21 sp_X5_lower := by
  refine q_meth (by decide) (fun av w Q h => by obtain ⟨c1, m0, n0, a, b, rfl, rfl, hQ⟩ := h; exact Nat.le_of_ble_eq_true rfl) ?_
  intro p e R s m args below meth c dC dI k g A av w Q hsp oka okw X
  obtain ⟨c1, m0, n0, a, b, rfl, rfl, hQ⟩ := hsp
  have o_a : -2147483648 ≤ a ∧ a ≤ 2147483647 := oka _ (List.mem_of_getElem? (i := 1) rfl)
  have o_b : -2147483648 ≤ b ∧ b ≤ 2147483647 := oka _ (List.mem_of_getElem? (i := 2) rfl)
  refine s_mono (s_X5_lower_0 X (J := fun _ _ _ _ => False) (fun d => s_cutF)) ?_
  rintro lv st w' ⟨rfl, rfl, rfl⟩
  apply And.intro
  · intro h1
    exact hQ _ _ _
  · intro h1
    apply And.intro
    · omega
    apply And.intro
    · intro h10
      exact hQ _ _ _
    · intro h10
      apply And.intro
      · exact ⟨by omega, by omega⟩
      intro z23 h23
      intro z25 h25
      apply And.intro
      · exact ⟨by omega, by omega⟩
      exact hQ _ _ _

theorem dX5_widen_0 : decode cX5_widen 0 = .ok (.aload_n 0, 1) := by decide +kernel
theorem dX5_widen_1 : decode cX5_widen 1 = .ok (.getfield 9, 3) := by decide +kernel
theorem dX5_widen_4 : decode cX5_widen 4 = .ok (.sipush 256, 3) := by decide +kernel
theorem dX5_widen_7 : decode cX5_widen 7 = .ok (.iload_n 2, 1) := by decide +kernel
theorem dX5_widen_8 : decode cX5_widen 8 = .ok (.iconst 1, 1) := by decide +kernel
theorem dX5_widen_9 : decode cX5_widen 9 = .ok (.iadd, 1) := by decide +kernel
theorem dX5_widen_10 : decode cX5_widen 10 = .ok (.imul, 1) := by decide +kernel
theorem dX5_widen_11 : decode cX5_widen 11 = .ok (.iload_n 3, 1) := by decide +kernel
theorem dX5_widen_12 : decode cX5_widen 12 = .ok (.iadd, 1) := by decide +kernel
theorem dX5_widen_13 : decode cX5_widen 13 = .ok (.iaload, 1) := by decide +kernel
theorem dX5_widen_14 : decode cX5_widen 14 = .ok (.istore 4, 2) := by decide +kernel
theorem dX5_widen_16 : decode cX5_widen 16 = .ok (.aload_n 0, 1) := by decide +kernel
theorem dX5_widen_17 : decode cX5_widen 17 = .ok (.sipush 256, 3) := by decide +kernel
theorem dX5_widen_20 : decode cX5_widen 20 = .ok (.iload_n 2, 1) := by decide +kernel
theorem dX5_widen_21 : decode cX5_widen 21 = .ok (.imul, 1) := by decide +kernel
theorem dX5_widen_22 : decode cX5_widen 22 = .ok (.iload_n 3, 1) := by decide +kernel
theorem dX5_widen_23 : decode cX5_widen 23 = .ok (.iadd, 1) := by decide +kernel
theorem dX5_widen_24 : decode cX5_widen 24 = .ok (.iload 4, 2) := by decide +kernel
theorem dX5_widen_26 : decode cX5_widen 26 = .ok (.invokevirtual 47, 3) := by decide +kernel
theorem dX5_widen_29 : decode cX5_widen 29 = .ok (.iconst 0, 1) := by decide +kernel
theorem dX5_widen_30 : decode cX5_widen 30 = .ok (.istore 5, 2) := by decide +kernel
theorem dX5_widen_32 : decode cX5_widen 32 = .ok (.iload 5, 2) := by decide +kernel
theorem dX5_widen_34 : decode cX5_widen 34 = .ok (.aload_n 1, 1) := by decide +kernel
theorem dX5_widen_35 : decode cX5_widen 35 = .ok (.getfield 15, 3) := by decide +kernel
theorem dX5_widen_38 : decode cX5_widen 38 = .ok (.if_icmp .ge 44, 3) := by decide +kernel
theorem dX5_widen_41 : decode cX5_widen 41 = .ok (.iload_n 3, 1) := by decide +kernel
theorem dX5_widen_42 : decode cX5_widen 42 = .ok (.iload 5, 2) := by decide +kernel
theorem dX5_widen_44 : decode cX5_widen 44 = .ok (.ishr, 1) := by decide +kernel
theorem dX5_widen_45 : decode cX5_widen 45 = .ok (.iconst 1, 1) := by decide +kernel
theorem dX5_widen_46 : decode cX5_widen 46 = .ok (.iand, 1) := by decide +kernel
theorem dX5_widen_47 : decode cX5_widen 47 = .ok (.ifCond .ne 29, 3) := by decide +kernel
theorem dX5_widen_50 : decode cX5_widen 50 = .ok (.aload_n 0, 1) := by decide +kernel
theorem dX5_widen_51 : decode cX5_widen 51 = .ok (.sipush 256, 3) := by decide +kernel
theorem dX5_widen_54 : decode cX5_widen 54 = .ok (.iload_n 2, 1) := by decide +kernel
theorem dX5_widen_55 : decode cX5_widen 55 = .ok (.imul, 1) := by decide +kernel
theorem dX5_widen_56 : decode cX5_widen 56 = .ok (.iload_n 3, 1) := by decide +kernel
theorem dX5_widen_57 : decode cX5_widen 57 = .ok (.iconst 1, 1) := by decide +kernel
theorem dX5_widen_58 : decode cX5_widen 58 = .ok (.iload 5, 2) := by decide +kernel
theorem dX5_widen_60 : decode cX5_widen 60 = .ok (.ishl, 1) := by decide +kernel
theorem dX5_widen_61 : decode cX5_widen 61 = .ok (.ior, 1) := by decide +kernel
theorem dX5_widen_62 : decode cX5_widen 62 = .ok (.iadd, 1) := by decide +kernel
theorem dX5_widen_63 : decode cX5_widen 63 = .ok (.iload 4, 2) := by decide +kernel
theorem dX5_widen_65 : decode cX5_widen 65 = .ok (.aload_n 1, 1) := by decide +kernel
theorem dX5_widen_66 : decode cX5_widen 66 = .ok (.iload_n 2, 1) := by decide +kernel
theorem dX5_widen_67 : decode cX5_widen 67 = .ok (.iload 5, 2) := by decide +kernel
theorem dX5_widen_69 : decode cX5_widen 69 = .ok (.invokestatic 51, 3) := by decide +kernel
theorem dX5_widen_72 : decode cX5_widen 72 = .ok (.iadd, 1) := by decide +kernel
theorem dX5_widen_73 : decode cX5_widen 73 = .ok (.invokevirtual 47, 3) := by decide +kernel
theorem dX5_widen_76 : decode cX5_widen 76 = .ok (.iinc 5 1, 3) := by decide +kernel
theorem dX5_widen_79 : decode cX5_widen 79 = .ok (.goto (-47), 3) := by decide +kernel
theorem dX5_widen_82 : decode cX5_widen 82 = .ok (.return_, 1) := by decide +kernel
def is_X5_widen : Nat → List Nat := fun d => if d = 32 then [0, 1, 2, 3, 4, 5] else []
set_option maxRecDepth 100000 in
def b_X5_widen_76 (J : Nat → List qV → List qV → qW → Prop) (Q : qR) : qK := x_iinc 5 1 (x_cut [0, 1, 2, 3, 4, 5] (J 32))
set_option maxRecDepth 100000 in
theorem s_X5_widen_76 {p : Program} {l : Launch} {e : Env} {R : Room} {s : State} {m : MethodId} {args : Array Value} {below : List Frame} {meth : Method} {c : Code} {nW : Nat} {dC : Nat → ClassId} {dI : Nat → Nat → Nat} {k : Nat → ClassId} {g : Nat → Nat} {A : Nat → Prop} {J : Nat → List qV → List qV → qW → Prop} {Q : qR} (X : q_X p R s m args meth c cX5_widen 6 nW 2 43 RX5 none dC dI k g A) (hJ : ∀ d : Nat, q_Sd p l e R s m args below meth c 6 nW dC dI k g A (MQ below (q_post (dC, dI) k g nW Q A) args s 0 0 A) d (x_cut (is_X5_widen d) (J d))) : q_Sd p l e R s m args below meth c 6 nW dC dI k g A (MQ below (q_post (dC, dI) k g nW Q A) args s 0 0 A) 76 (b_X5_widen_76 J Q) := by
  unfold b_X5_widen_76
  refine s_iinc X (by decide) dX5_widen_76 ?_
  refine s_goto X (tgt := 32) dX5_widen_79 (by decide) ?_
  exact hJ 32
set_option maxRecDepth 100000 in
def b_X5_widen_69 (J : Nat → List qV → List qV → qW → Prop) (Q : qR) : qK := x_callr none 3 spr_X5_inchesFor (x_iadd (x_call (some 5) 3 sp_X5_lower (x_nw (b_X5_widen_76 J Q))))
set_option maxRecDepth 100000 in
theorem s_X5_widen_69 {p : Program} {l : Launch} {e : Env} {R : Room} {s : State} {m : MethodId} {args : Array Value} {below : List Frame} {meth : Method} {c : Code} {nW : Nat} {dC : Nat → ClassId} {dI : Nat → Nat → Nat} {k : Nat → ClassId} {g : Nat → Nat} {A : Nat → Prop} {J : Nat → List qV → List qV → qW → Prop} {Q : qR} (X : q_X p R s m args meth c cX5_widen 6 nW 2 43 RX5 none dC dI k g A) (hJ : ∀ d : Nat, q_Sd p l e R s m args below meth c 6 nW dC dI k g A (MQ below (q_post (dC, dI) k g nW Q A) args s 0 0 A) d (x_cut (is_X5_widen d) (J d))) : q_Sd p l e R s m args below meth c 6 nW dC dI k g A (MQ below (q_post (dC, dI) k g nW Q A) args s 0 0 A) 69 (b_X5_widen_69 J Q) := by
  unfold b_X5_widen_69
  refine s_callSr X (m_X5_inchesFor l) tw_641 tw_642 tw_130 tw_643 (by decide +kernel) ⟨by decide, by decide⟩ dX5_widen_69 ?_
  refine s_iadd X dX5_widen_72 ?_
  refine s_callV X (m_X5_lower l) tw_637 tw_638 tw_1505 tw_130 tw_639 rfl (by decide +kernel) ⟨by decide, by decide⟩ dX5_widen_73 ?_
  refine s_nw ?_
  exact s_X5_widen_76 X hJ
set_option maxRecDepth 100000 in
def b_X5_widen_32 (J : Nat → List qV → List qV → qW → Prop) (Q : qR) : qK := x_iload 5 (x_aload 1 (x_get 0 7 (x_icmp_ge (x_vret Q) (x_iload 3 (x_iload 5 (x_ishr (x_int 1 (x_iand (x_if_ne (b_X5_widen_76 J Q) (x_aload 0 (x_int 256 (x_iload 2 (x_imul (x_iload 3 (x_int 1 (x_iload 5 (x_ishl (x_ior (x_iadd (x_iload 4 (x_aload 1 (x_iload 2 (x_iload 5 (b_X5_widen_69 J Q))))))))))))))))))))))))
set_option maxRecDepth 100000 in
theorem s_X5_widen_32 {p : Program} {l : Launch} {e : Env} {R : Room} {s : State} {m : MethodId} {args : Array Value} {below : List Frame} {meth : Method} {c : Code} {nW : Nat} {dC : Nat → ClassId} {dI : Nat → Nat → Nat} {k : Nat → ClassId} {g : Nat → Nat} {A : Nat → Prop} {J : Nat → List qV → List qV → qW → Prop} {Q : qR} (X : q_X p R s m args meth c cX5_widen 6 nW 2 43 RX5 none dC dI k g A) (hJ : ∀ d : Nat, q_Sd p l e R s m args below meth c 6 nW dC dI k g A (MQ below (q_post (dC, dI) k g nW Q A) args s 0 0 A) d (x_cut (is_X5_widen d) (J d))) : q_Sd p l e R s m args below meth c 6 nW dC dI k g A (MQ below (q_post (dC, dI) k g nW Q A) args s 0 0 A) 32 (b_X5_widen_32 J Q) := by
  unfold b_X5_widen_32
  refine s_iload X dX5_widen_32 ?_
  refine s_aload_n X rfl dX5_widen_34 ?_
  refine s_get X (T := TX0) (C := RX0) (N := 12) tu_X0 rfl (by decide) tw_190 dX5_widen_35 ?_
  refine s_icmp_ge X (tgt := 82) dX5_widen_38 (by decide) ?_ ?_
  · exact s_vret X dX5_widen_82
  · refine s_iload_n X rfl dX5_widen_41 ?_
    refine s_iload X dX5_widen_42 ?_
    refine s_ishr X dX5_widen_44 ?_
    refine s_iconst X ⟨by decide, by decide⟩ dX5_widen_45 ?_
    refine s_iand X dX5_widen_46 ?_
    refine s_if_ne X (tgt := 76) dX5_widen_47 (by decide) ?_ ?_
    · exact s_X5_widen_76 X hJ
    · refine s_aload_n X rfl dX5_widen_50 ?_
      refine s_sipush X ⟨by decide, by decide⟩ (by decide) dX5_widen_51 ?_
      refine s_iload_n X rfl dX5_widen_54 ?_
      refine s_imul X dX5_widen_55 ?_
      refine s_iload_n X rfl dX5_widen_56 ?_
      refine s_iconst X ⟨by decide, by decide⟩ dX5_widen_57 ?_
      refine s_iload X dX5_widen_58 ?_
      refine s_ishl X dX5_widen_60 ?_
      refine s_ior X dX5_widen_61 ?_
      refine s_iadd X dX5_widen_62 ?_
      refine s_iload X dX5_widen_63 ?_
      refine s_aload_n X rfl dX5_widen_65 ?_
      refine s_iload_n X rfl dX5_widen_66 ?_
      refine s_iload X dX5_widen_67 ?_
      exact s_X5_widen_69 X hJ
set_option maxRecDepth 100000 in
def b_X5_widen_0 (J : Nat → List qV → List qV → qW → Prop) (Q : qR) : qK := x_aload 0 (x_get 5 0 (x_int 256 (x_iload 2 (x_int 1 (x_iadd (x_imul (x_iload 3 (x_iadd (x_iald (x_istore 4 (x_aload 0 (x_int 256 (x_iload 2 (x_imul (x_iload 3 (x_iadd (x_iload 4 (x_call (some 5) 3 sp_X5_lower (x_nw (x_int 0 (x_istore 5 (x_cut [0, 1, 2, 3, 4, 5] (J 32)))))))))))))))))))))))
set_option maxRecDepth 100000 in
theorem s_X5_widen_0 {p : Program} {l : Launch} {e : Env} {R : Room} {s : State} {m : MethodId} {args : Array Value} {below : List Frame} {meth : Method} {c : Code} {nW : Nat} {dC : Nat → ClassId} {dI : Nat → Nat → Nat} {k : Nat → ClassId} {g : Nat → Nat} {A : Nat → Prop} {J : Nat → List qV → List qV → qW → Prop} {Q : qR} (X : q_X p R s m args meth c cX5_widen 6 nW 2 43 RX5 none dC dI k g A) (hJ : ∀ d : Nat, q_Sd p l e R s m args below meth c 6 nW dC dI k g A (MQ below (q_post (dC, dI) k g nW Q A) args s 0 0 A) d (x_cut (is_X5_widen d) (J d))) : q_Sd p l e R s m args below meth c 6 nW dC dI k g A (MQ below (q_post (dC, dI) k g nW Q A) args s 0 0 A) 0 (b_X5_widen_0 J Q) := by
  unfold b_X5_widen_0
  refine s_aload_n X rfl dX5_widen_0 ?_
  refine s_get X (T := TX5) (C := RX5) (N := 3) tu_X5 rfl (by decide) tw_299 dX5_widen_1 ?_
  refine s_sipush X ⟨by decide, by decide⟩ (by decide) dX5_widen_4 ?_
  refine s_iload_n X rfl dX5_widen_7 ?_
  refine s_iconst X ⟨by decide, by decide⟩ dX5_widen_8 ?_
  refine s_iadd X dX5_widen_9 ?_
  refine s_imul X dX5_widen_10 ?_
  refine s_iload_n X rfl dX5_widen_11 ?_
  refine s_iadd X dX5_widen_12 ?_
  refine s_iald X dX5_widen_13 ?_
  refine s_istore X (by decide) dX5_widen_14 ?_
  refine s_aload_n X rfl dX5_widen_16 ?_
  refine s_sipush X ⟨by decide, by decide⟩ (by decide) dX5_widen_17 ?_
  refine s_iload_n X rfl dX5_widen_20 ?_
  refine s_imul X dX5_widen_21 ?_
  refine s_iload_n X rfl dX5_widen_22 ?_
  refine s_iadd X dX5_widen_23 ?_
  refine s_iload X dX5_widen_24 ?_
  refine s_callV X (m_X5_lower l) tw_637 tw_638 tw_1505 tw_130 tw_639 rfl (by decide +kernel) ⟨by decide, by decide⟩ dX5_widen_26 ?_
  refine s_nw ?_
  refine s_iconst X ⟨by decide, by decide⟩ dX5_widen_29 ?_
  refine s_istore X (by decide) dX5_widen_30 ?_
  exact hJ 32

def sp_X5_widen : qS := fun av w Q => ∃ (c1 : Nat → Int) (m0 : Int) (n0 : Int) (f1 : Nat → Int) (f2 : Nat → Int) (f3 : Nat → Int) (f4 : Nat → Int) (f5 : Nat → Int) (f6 : Nat → Int) (f7 : Nat → Int) (u0 : Int) (u1 : Int) (u2 : Int) (u3 : Int) (u4 : Int) (a : Int) (b : Int), av = [q2 0, q2 2, q1 a, q1 b] ∧ w = (wRo 0 c1 m0 n0 ++ wBo 2 f1 f2 f3 f4 f5 f6 f7 u0 u1 u2 u3 u4) ∧ (0 ≤ u0 ∧ u0 ≤ 8 ∧ 0 ≤ u3 ∧ u3 ≤ 6 ∧ 0 ≤ u4 ∧ u4 ≤ 6) ∧ (0 ≤ a ∧ a ≤ 5 ∧ 0 ≤ b ∧ b ≤ 255) ∧ (∀ (x1 : Nat → Int) (x2 : Int) (x3 : Int), Q none ((wRo 0 x1 x2 x3 ++ wBo 2 f1 f2 f3 f4 f5 f6 f7 u0 u1 u2 u3 u4)))
def I_X5_widen (c1 : Nat → Int) (m0 : Int) (n0 : Int) (f1 : Nat → Int) (f2 : Nat → Int) (f3 : Nat → Int) (f4 : Nat → Int) (f5 : Nat → Int) (f6 : Nat → Int) (f7 : Nat → Int) (u0 : Int) (u1 : Int) (u2 : Int) (u3 : Int) (u4 : Int) (a : Int) (b : Int) : Nat → Nat → List qV → List qV → qW → Prop := fun dz mz vz sz wz => if dz = 32 then (∃ (y1 : Nat → Int) (y2 : Int) (y3 : Int) (v4 : Int) (v5 : Int), vz = [q2 0, q2 2, q1 a, q1 b, q1 v4, q1 v5] ∧ sz = [] ∧ wz = (wRo 0 y1 y2 y3 ++ wBo 2 f1 f2 f3 f4 f5 f6 f7 u0 u1 u2 u3 u4) ∧ mz = (u0 - v5).toNat ∧ (0 ≤ v5 ∧ v5 ≤ u0)) else False
set_option maxHeartbeats 4000000 in
set_option maxRecDepth 100000 in
theorem m_X5_widen (l : Launch) : q_M l yX5_widen cX5_widen 6 none 2 43 sp_X5_widen := by
  refine q_meth (by decide) (fun av w Q h => by obtain ⟨c1, m0, n0, f1, f2, f3, f4, f5, f6, f7, u0, u1, u2, u3, u4, a, b, rfl, rfl, hu0, ha, hQ⟩ := h; exact Nat.le_of_ble_eq_true rfl) ?_
  intro p e R s m args below meth c dC dI k g A av w Q hsp oka okw X
  obtain ⟨c1, m0, n0, f1, f2, f3, f4, f5, f6, f7, u0, u1, u2, u3, u4, a, b, rfl, rfl, hu0, ha, hQ⟩ := hsp
  have o_a : -2147483648 ≤ a ∧ a ≤ 2147483647 := oka _ (List.mem_of_getElem? (i := 2) rfl)
  have o_b : -2147483648 ≤ b ∧ b ≤ 2147483647 := oka _ (List.mem_of_getElem? (i := 3) rfl)
  refine s_mono (s_X5_widen_0 X (J := fun dz vz sz wz => ∃ mz, I_X5_widen c1 m0 n0 f1 f2 f3 f4 f5 f6 f7 u0 u1 u2 u3 u4 a b dz mz vz sz wz) (q_loopn (I_X5_widen c1 m0 n0 f1 f2 f3 f4 f5 f6 f7 u0 u1 u2 u3 u4 a b) (fun dz J => if dz = 32 then b_X5_widen_32 J Q else q_F) ?hs ?hv)) ?_
  case hs =>
    intro d J hJ
    by_cases h32 : d = 32
    · subst h32; exact s_X5_widen_32 X hJ
    simp only [h32, if_false]
    exact s_F
  case hv =>
    intro dz mz vz sz wz hI okv oks okw hlen
    by_cases h32 : dz = 32
    · subst h32
      obtain ⟨y1, y2, y3, v4, v5, rfl, rfl, rfl, hn, hp⟩ := hI
      apply And.intro
      · intro h38
        exact hQ _ _ _
      · intro h38
        intro z44 h44
        replace h44 := e_rng h44
        intro z46 h46
        first | replace h46 := e_and1 h46 | replace h46 := e_and255 h46 | replace h46 := e_and h46 (by omega) (by omega) | replace h46 := e_rng h46
        apply And.intro
        · intro h47
          intro z76 h76
          first | replace h76 := e_add h76 (by omega) | replace h76 := e_rng h76
          exact ⟨_, ⟨_, _, _, _, _, rfl, rfl, rfl, rfl, (by first | omega | assumption | exact q_rg_up (by assumption) (by omega) | exact q_rg_up (q_rg_up (by assumption) (by omega)) (by omega) | exact q_rg_cpy (by assumption) (by assumption))⟩, by omega⟩
        · intro h47
          intro z55 h55
          first | replace h55 := e_mul h55 (by omega) | replace h55 := e_rng h55
          intro z60 h60
          first | replace h60 := e_shl h60 (by omega) | replace h60 := e_rng h60
          intro z61 h61
          first | replace h61 := e_or8 h61 (by omega) (by omega) | replace h61 := e_or9 h61 (by omega) (by omega) | replace h61 := e_rng h61
          intro z62 h62
          first | replace h62 := e_add h62 (by omega) | replace h62 := e_rng h62
          refine Exists.intro [2, 3, 4, 5, 6, 7, 8, 9] (Exists.intro [q2 0, q1 _, q1 _] (Exists.intro (wB _ _ _ _ _ _ _ _ _ _ _ _) (And.intro rfl (And.intro rfl (And.intro rfl (And.intro trivial ?_))))))
          refine Exists.intro _ (Exists.intro _ (Exists.intro _ (Exists.intro _ (Exists.intro _ (Exists.intro _ (Exists.intro _ (Exists.intro _ (Exists.intro _ (Exists.intro _ (Exists.intro _ (Exists.intro _ (Exists.intro _ (Exists.intro _ (And.intro rfl (And.intro rfl (And.intro (by first | omega | assumption | exact q_rg_up (by assumption) (by omega) | exact q_rg_up (q_rg_up (by assumption) (by omega)) (by omega) | exact q_rg_cpy (by assumption) (by assumption)) (?_)))))))))))))))))
          intro z69
          intro z72 h72
          first | replace h72 := e_add h72 (by omega) | replace h72 := e_rng h72
          refine Exists.intro [0, 1] (Exists.intro [q2 0, q1 _, q1 _] (Exists.intro ((wRo 0 _ _ _)) (And.intro rfl (And.intro rfl (And.intro rfl (And.intro ⟨⟨_, rfl⟩, rfl⟩ ?_))))))
          refine Exists.intro _ (Exists.intro _ (Exists.intro _ (Exists.intro _ (Exists.intro _ (And.intro rfl (And.intro rfl (?_)))))))
          intro x1_73 x2_73 x3_73
          intro z76 h76
          first | replace h76 := e_add h76 (by omega) | replace h76 := e_rng h76
          exact ⟨_, ⟨_, _, _, _, _, rfl, rfl, rfl, rfl, (by first | omega | assumption | exact q_rg_up (by assumption) (by omega) | exact q_rg_up (q_rg_up (by assumption) (by omega)) (by omega) | exact q_rg_cpy (by assumption) (by assumption))⟩, by omega⟩
    simp only [I_X5_widen, h32, if_false] at hI
  rintro lv st w' ⟨rfl, rfl, rfl⟩
  intro z9 h9
  first | replace h9 := e_add h9 (by omega) | replace h9 := e_rng h9
  intro z10 h10
  first | replace h10 := e_mul h10 (by omega) | replace h10 := e_rng h10
  intro z12 h12
  first | replace h12 := e_add h12 (by omega) | replace h12 := e_rng h12
  apply And.intro
  · exact ⟨by omega, by omega⟩
  intro z13 h13
  intro z21 h21
  first | replace h21 := e_mul h21 (by omega) | replace h21 := e_rng h21
  intro z23 h23
  first | replace h23 := e_add h23 (by omega) | replace h23 := e_rng h23
  refine Exists.intro [0, 1] (Exists.intro [q2 0, q1 _, q1 _] (Exists.intro ((wRo 0 _ _ _)) (And.intro rfl (And.intro rfl (And.intro rfl (And.intro ⟨⟨_, rfl⟩, rfl⟩ ?_))))))
  refine Exists.intro _ (Exists.intro _ (Exists.intro _ (Exists.intro _ (Exists.intro _ (And.intro rfl (And.intro rfl (?_)))))))
  intro x1_26 x2_26 x3_26
  exact ⟨_, _, _, _, _, _, rfl, rfl, rfl, rfl, (by first | omega | assumption | exact q_rg_up (by assumption) (by omega) | exact q_rg_up (q_rg_up (by assumption) (by omega)) (by omega) | exact q_rg_cpy (by assumption) (by assumption))⟩

theorem dX5_plan_0 : decode cX5_plan 0 = .ok (.iconst 1, 1) := by decide +kernel
theorem dX5_plan_1 : decode cX5_plan 1 = .ok (.aload_n 1, 1) := by decide +kernel
theorem dX5_plan_2 : decode cX5_plan 2 = .ok (.getfield 15, 3) := by decide +kernel
theorem dX5_plan_5 : decode cX5_plan 5 = .ok (.ishl, 1) := by decide +kernel
theorem dX5_plan_6 : decode cX5_plan 6 = .ok (.istore_n 3, 1) := by decide +kernel
theorem dX5_plan_7 : decode cX5_plan 7 = .ok (.aload_n 0, 1) := by decide +kernel
theorem dX5_plan_8 : decode cX5_plan 8 = .ok (.getfield 9, 3) := by decide +kernel
theorem dX5_plan_11 : decode cX5_plan 11 = .ok (.ldc 21, 2) := by decide +kernel
theorem dX5_plan_13 : decode cX5_plan 13 = .ok (.invokestatic 22, 3) := by decide +kernel
theorem dX5_plan_16 : decode cX5_plan 16 = .ok (.aload_n 0, 1) := by decide +kernel
theorem dX5_plan_17 : decode cX5_plan 17 = .ok (.getfield 9, 3) := by decide +kernel
theorem dX5_plan_20 : decode cX5_plan 20 = .ok (.sipush 256, 3) := by decide +kernel
theorem dX5_plan_23 : decode cX5_plan 23 = .ok (.aload_n 1, 1) := by decide +kernel
theorem dX5_plan_24 : decode cX5_plan 24 = .ok (.getfield 28, 3) := by decide +kernel
theorem dX5_plan_27 : decode cX5_plan 27 = .ok (.imul, 1) := by decide +kernel
theorem dX5_plan_28 : decode cX5_plan 28 = .ok (.iconst 0, 1) := by decide +kernel
theorem dX5_plan_29 : decode cX5_plan 29 = .ok (.iastore, 1) := by decide +kernel
theorem dX5_plan_30 : decode cX5_plan 30 = .ok (.aload_n 1, 1) := by decide +kernel
theorem dX5_plan_31 : decode cX5_plan 31 = .ok (.getfield 28, 3) := by decide +kernel
theorem dX5_plan_34 : decode cX5_plan 34 = .ok (.iconst 1, 1) := by decide +kernel
theorem dX5_plan_35 : decode cX5_plan 35 = .ok (.isub, 1) := by decide +kernel
theorem dX5_plan_36 : decode cX5_plan 36 = .ok (.istore 4, 2) := by decide +kernel
theorem dX5_plan_38 : decode cX5_plan 38 = .ok (.iload 4, 2) := by decide +kernel
theorem dX5_plan_40 : decode cX5_plan 40 = .ok (.ifCond .lt 54, 3) := by decide +kernel
theorem dX5_plan_43 : decode cX5_plan 43 = .ok (.iconst 0, 1) := by decide +kernel
theorem dX5_plan_44 : decode cX5_plan 44 = .ok (.istore 5, 2) := by decide +kernel
theorem dX5_plan_46 : decode cX5_plan 46 = .ok (.iload 5, 2) := by decide +kernel
theorem dX5_plan_48 : decode cX5_plan 48 = .ok (.iload_n 3, 1) := by decide +kernel
theorem dX5_plan_49 : decode cX5_plan 49 = .ok (.if_icmp .ge 39, 3) := by decide +kernel
theorem dX5_plan_52 : decode cX5_plan 52 = .ok (.aload_n 0, 1) := by decide +kernel
theorem dX5_plan_53 : decode cX5_plan 53 = .ok (.getfield 9, 3) := by decide +kernel
theorem dX5_plan_56 : decode cX5_plan 56 = .ok (.sipush 256, 3) := by decide +kernel
theorem dX5_plan_59 : decode cX5_plan 59 = .ok (.iload 4, 2) := by decide +kernel
theorem dX5_plan_61 : decode cX5_plan 61 = .ok (.iconst 1, 1) := by decide +kernel
theorem dX5_plan_62 : decode cX5_plan 62 = .ok (.iadd, 1) := by decide +kernel
theorem dX5_plan_63 : decode cX5_plan 63 = .ok (.imul, 1) := by decide +kernel
theorem dX5_plan_64 : decode cX5_plan 64 = .ok (.iload 5, 2) := by decide +kernel
theorem dX5_plan_66 : decode cX5_plan 66 = .ok (.iadd, 1) := by decide +kernel
theorem dX5_plan_67 : decode cX5_plan 67 = .ok (.iaload, 1) := by decide +kernel
theorem dX5_plan_68 : decode cX5_plan 68 = .ok (.ldc 21, 2) := by decide +kernel
theorem dX5_plan_70 : decode cX5_plan 70 = .ok (.if_icmp .ge 12, 3) := by decide +kernel
theorem dX5_plan_73 : decode cX5_plan 73 = .ok (.aload_n 0, 1) := by decide +kernel
theorem dX5_plan_74 : decode cX5_plan 74 = .ok (.aload_n 1, 1) := by decide +kernel
theorem dX5_plan_75 : decode cX5_plan 75 = .ok (.iload 4, 2) := by decide +kernel
theorem dX5_plan_77 : decode cX5_plan 77 = .ok (.iload 5, 2) := by decide +kernel
theorem dX5_plan_79 : decode cX5_plan 79 = .ok (.invokevirtual 31, 3) := by decide +kernel
theorem dX5_plan_82 : decode cX5_plan 82 = .ok (.iinc 5 1, 3) := by decide +kernel
theorem dX5_plan_85 : decode cX5_plan 85 = .ok (.goto (-39), 3) := by decide +kernel
theorem dX5_plan_88 : decode cX5_plan 88 = .ok (.iinc 4 (-1), 3) := by decide +kernel
theorem dX5_plan_91 : decode cX5_plan 91 = .ok (.goto (-53), 3) := by decide +kernel
theorem dX5_plan_94 : decode cX5_plan 94 = .ok (.aload_n 0, 1) := by decide +kernel
theorem dX5_plan_95 : decode cX5_plan 95 = .ok (.iconst 0, 1) := by decide +kernel
theorem dX5_plan_96 : decode cX5_plan 96 = .ok (.putfield 35, 3) := by decide +kernel
theorem dX5_plan_99 : decode cX5_plan 99 = .ok (.aload_n 0, 1) := by decide +kernel
theorem dX5_plan_100 : decode cX5_plan 100 = .ok (.iconst 0, 1) := by decide +kernel
theorem dX5_plan_101 : decode cX5_plan 101 = .ok (.putfield 38, 3) := by decide +kernel
theorem dX5_plan_104 : decode cX5_plan 104 = .ok (.iconst 0, 1) := by decide +kernel
theorem dX5_plan_105 : decode cX5_plan 105 = .ok (.istore 4, 2) := by decide +kernel
theorem dX5_plan_107 : decode cX5_plan 107 = .ok (.iload 4, 2) := by decide +kernel
theorem dX5_plan_109 : decode cX5_plan 109 = .ok (.iload_n 3, 1) := by decide +kernel
theorem dX5_plan_110 : decode cX5_plan 110 = .ok (.if_icmp .ge 76, 3) := by decide +kernel
theorem dX5_plan_113 : decode cX5_plan 113 = .ok (.iload 4, 2) := by decide +kernel
theorem dX5_plan_115 : decode cX5_plan 115 = .ok (.invokestatic 41, 3) := by decide +kernel
theorem dX5_plan_118 : decode cX5_plan 118 = .ok (.istore 5, 2) := by decide +kernel
theorem dX5_plan_120 : decode cX5_plan 120 = .ok (.aload_n 0, 1) := by decide +kernel
theorem dX5_plan_121 : decode cX5_plan 121 = .ok (.getfield 9, 3) := by decide +kernel
theorem dX5_plan_124 : decode cX5_plan 124 = .ok (.iload 4, 2) := by decide +kernel
theorem dX5_plan_126 : decode cX5_plan 126 = .ok (.iaload, 1) := by decide +kernel
theorem dX5_plan_127 : decode cX5_plan 127 = .ok (.iload_n 2, 1) := by decide +kernel
theorem dX5_plan_128 : decode cX5_plan 128 = .ok (.if_icmp .gt 52, 3) := by decide +kernel
theorem dX5_plan_131 : decode cX5_plan 131 = .ok (.iload 5, 2) := by decide +kernel
theorem dX5_plan_133 : decode cX5_plan 133 = .ok (.aload_n 0, 1) := by decide +kernel
theorem dX5_plan_134 : decode cX5_plan 134 = .ok (.getfield 35, 3) := by decide +kernel
theorem dX5_plan_137 : decode cX5_plan 137 = .ok (.if_icmp .gt 26, 3) := by decide +kernel
theorem dX5_plan_140 : decode cX5_plan 140 = .ok (.iload 5, 2) := by decide +kernel
theorem dX5_plan_142 : decode cX5_plan 142 = .ok (.aload_n 0, 1) := by decide +kernel
theorem dX5_plan_143 : decode cX5_plan 143 = .ok (.getfield 35, 3) := by decide +kernel
theorem dX5_plan_146 : decode cX5_plan 146 = .ok (.if_icmp .ne 34, 3) := by decide +kernel
theorem dX5_plan_149 : decode cX5_plan 149 = .ok (.aload_n 0, 1) := by decide +kernel
theorem dX5_plan_150 : decode cX5_plan 150 = .ok (.getfield 9, 3) := by decide +kernel
theorem dX5_plan_153 : decode cX5_plan 153 = .ok (.iload 4, 2) := by decide +kernel
theorem dX5_plan_155 : decode cX5_plan 155 = .ok (.iaload, 1) := by decide +kernel
theorem dX5_plan_156 : decode cX5_plan 156 = .ok (.aload_n 0, 1) := by decide +kernel
theorem dX5_plan_157 : decode cX5_plan 157 = .ok (.getfield 38, 3) := by decide +kernel
theorem dX5_plan_160 : decode cX5_plan 160 = .ok (.if_icmp .ge 20, 3) := by decide +kernel
theorem dX5_plan_163 : decode cX5_plan 163 = .ok (.aload_n 0, 1) := by decide +kernel
theorem dX5_plan_164 : decode cX5_plan 164 = .ok (.iload 5, 2) := by decide +kernel
theorem dX5_plan_166 : decode cX5_plan 166 = .ok (.putfield 35, 3) := by decide +kernel
theorem dX5_plan_169 : decode cX5_plan 169 = .ok (.aload_n 0, 1) := by decide +kernel
theorem dX5_plan_170 : decode cX5_plan 170 = .ok (.aload_n 0, 1) := by decide +kernel
theorem dX5_plan_171 : decode cX5_plan 171 = .ok (.getfield 9, 3) := by decide +kernel
theorem dX5_plan_174 : decode cX5_plan 174 = .ok (.iload 4, 2) := by decide +kernel
theorem dX5_plan_176 : decode cX5_plan 176 = .ok (.iaload, 1) := by decide +kernel
theorem dX5_plan_177 : decode cX5_plan 177 = .ok (.putfield 38, 3) := by decide +kernel
theorem dX5_plan_180 : decode cX5_plan 180 = .ok (.iinc 4 1, 3) := by decide +kernel
theorem dX5_plan_183 : decode cX5_plan 183 = .ok (.goto (-76), 3) := by decide +kernel
theorem dX5_plan_186 : decode cX5_plan 186 = .ok (.return_, 1) := by decide +kernel
def is_X5_plan : Nat → List Nat := fun d => if d = 38 then [0, 1, 2, 3, 4] else if d = 46 then [0, 1, 2, 3, 4, 5] else if d = 107 then [0, 2, 3, 4] else []
set_option maxRecDepth 100000 in
def b_X5_plan_180 (J : Nat → List qV → List qV → qW → Prop) (Q : qR) : qK := x_iinc 4 1 (x_cut [0, 2, 3, 4] (J 107))
set_option maxRecDepth 100000 in
theorem s_X5_plan_180 {p : Program} {l : Launch} {e : Env} {R : Room} {s : State} {m : MethodId} {args : Array Value} {below : List Frame} {meth : Method} {c : Code} {nW : Nat} {dC : Nat → ClassId} {dI : Nat → Nat → Nat} {k : Nat → ClassId} {g : Nat → Nat} {A : Nat → Prop} {J : Nat → List qV → List qV → qW → Prop} {Q : qR} (X : q_X p R s m args meth c cX5_plan 6 nW 3 68 RX5 none dC dI k g A) (hJ : ∀ d : Nat, q_Sd p l e R s m args below meth c 6 nW dC dI k g A (MQ below (q_post (dC, dI) k g nW Q A) args s 0 0 A) d (x_cut (is_X5_plan d) (J d))) : q_Sd p l e R s m args below meth c 6 nW dC dI k g A (MQ below (q_post (dC, dI) k g nW Q A) args s 0 0 A) 180 (b_X5_plan_180 J Q) := by
  unfold b_X5_plan_180
  refine s_iinc X (by decide) dX5_plan_180 ?_
  refine s_goto X (tgt := 107) dX5_plan_183 (by decide) ?_
  exact hJ 107
set_option maxRecDepth 100000 in
def b_X5_plan_163 (J : Nat → List qV → List qV → qW → Prop) (Q : qR) : qK := x_aload 0 (x_iload 5 (x_put 5 1 q_oki (x_nw (x_aload 0 (x_aload 0 (x_get 5 0 (x_iload 4 (x_iald (x_put 5 2 q_oki (x_nw (b_X5_plan_180 J Q)))))))))))
set_option maxRecDepth 100000 in
theorem s_X5_plan_163 {p : Program} {l : Launch} {e : Env} {R : Room} {s : State} {m : MethodId} {args : Array Value} {below : List Frame} {meth : Method} {c : Code} {nW : Nat} {dC : Nat → ClassId} {dI : Nat → Nat → Nat} {k : Nat → ClassId} {g : Nat → Nat} {A : Nat → Prop} {J : Nat → List qV → List qV → qW → Prop} {Q : qR} (X : q_X p R s m args meth c cX5_plan 6 nW 3 68 RX5 none dC dI k g A) (hJ : ∀ d : Nat, q_Sd p l e R s m args below meth c 6 nW dC dI k g A (MQ below (q_post (dC, dI) k g nW Q A) args s 0 0 A) d (x_cut (is_X5_plan d) (J d))) : q_Sd p l e R s m args below meth c 6 nW dC dI k g A (MQ below (q_post (dC, dI) k g nW Q A) args s 0 0 A) 163 (b_X5_plan_163 J Q) := by
  unfold b_X5_plan_163
  refine s_aload_n X rfl dX5_plan_163 ?_
  refine s_iload X dX5_plan_164 ?_
  refine s_put X (T := TX5) (C := RX5) (N := 3) tu_X5 tyX5_ok nmX5 rfl (by decide) tw_300 rfl (by decide +kernel) q_oki_t dX5_plan_166 ?_
  refine s_nw ?_
  refine s_aload_n X rfl dX5_plan_169 ?_
  refine s_aload_n X rfl dX5_plan_170 ?_
  refine s_get X (T := TX5) (C := RX5) (N := 3) tu_X5 rfl (by decide) tw_299 dX5_plan_171 ?_
  refine s_iload X dX5_plan_174 ?_
  refine s_iald X dX5_plan_176 ?_
  refine s_put X (T := TX5) (C := RX5) (N := 3) tu_X5 tyX5_ok nmX5 rfl (by decide) tw_302 rfl (by decide +kernel) q_oki_t dX5_plan_177 ?_
  refine s_nw ?_
  exact s_X5_plan_180 X hJ
set_option maxRecDepth 100000 in
def b_X5_plan_156 (J : Nat → List qV → List qV → qW → Prop) (Q : qR) : qK := x_aload 0 (x_get 5 2 (x_icmp_ge (b_X5_plan_180 J Q) (b_X5_plan_163 J Q)))
set_option maxRecDepth 100000 in
theorem s_X5_plan_156 {p : Program} {l : Launch} {e : Env} {R : Room} {s : State} {m : MethodId} {args : Array Value} {below : List Frame} {meth : Method} {c : Code} {nW : Nat} {dC : Nat → ClassId} {dI : Nat → Nat → Nat} {k : Nat → ClassId} {g : Nat → Nat} {A : Nat → Prop} {J : Nat → List qV → List qV → qW → Prop} {Q : qR} (X : q_X p R s m args meth c cX5_plan 6 nW 3 68 RX5 none dC dI k g A) (hJ : ∀ d : Nat, q_Sd p l e R s m args below meth c 6 nW dC dI k g A (MQ below (q_post (dC, dI) k g nW Q A) args s 0 0 A) d (x_cut (is_X5_plan d) (J d))) : q_Sd p l e R s m args below meth c 6 nW dC dI k g A (MQ below (q_post (dC, dI) k g nW Q A) args s 0 0 A) 156 (b_X5_plan_156 J Q) := by
  unfold b_X5_plan_156
  refine s_aload_n X rfl dX5_plan_156 ?_
  refine s_get X (T := TX5) (C := RX5) (N := 3) tu_X5 rfl (by decide) tw_302 dX5_plan_157 ?_
  refine s_icmp_ge X (tgt := 180) dX5_plan_160 (by decide) ?_ ?_
  · exact s_X5_plan_180 X hJ
  · exact s_X5_plan_163 X hJ
set_option maxRecDepth 100000 in
def b_X5_plan_107 (J : Nat → List qV → List qV → qW → Prop) (Q : qR) : qK := x_iload 4 (x_iload 3 (x_icmp_ge (x_vret Q) (x_iload 4 (x_callr none 1 spr_J6_bitCount_0f7a4 (x_istore 5 (x_aload 0 (x_get 5 0 (x_iload 4 (x_iald (x_iload 2 (x_icmp_gt (b_X5_plan_180 J Q) (x_iload 5 (x_aload 0 (x_get 5 1 (x_icmp_gt (b_X5_plan_163 J Q) (x_iload 5 (x_aload 0 (x_get 5 1 (x_icmp_ne (b_X5_plan_180 J Q) (x_aload 0 (x_get 5 0 (x_iload 4 (x_iald (b_X5_plan_156 J Q))))))))))))))))))))))))
set_option maxRecDepth 100000 in
theorem s_X5_plan_107 {p : Program} {l : Launch} {e : Env} {R : Room} {s : State} {m : MethodId} {args : Array Value} {below : List Frame} {meth : Method} {c : Code} {nW : Nat} {dC : Nat → ClassId} {dI : Nat → Nat → Nat} {k : Nat → ClassId} {g : Nat → Nat} {A : Nat → Prop} {J : Nat → List qV → List qV → qW → Prop} {Q : qR} (X : q_X p R s m args meth c cX5_plan 6 nW 3 68 RX5 none dC dI k g A) (hJ : ∀ d : Nat, q_Sd p l e R s m args below meth c 6 nW dC dI k g A (MQ below (q_post (dC, dI) k g nW Q A) args s 0 0 A) d (x_cut (is_X5_plan d) (J d))) : q_Sd p l e R s m args below meth c 6 nW dC dI k g A (MQ below (q_post (dC, dI) k g nW Q A) args s 0 0 A) 107 (b_X5_plan_107 J Q) := by
  unfold b_X5_plan_107
  refine s_iload X dX5_plan_107 ?_
  refine s_iload_n X rfl dX5_plan_109 ?_
  refine s_icmp_ge X (tgt := 186) dX5_plan_110 (by decide) ?_ ?_
  · exact s_vret X dX5_plan_186
  · refine s_iload X dX5_plan_113 ?_
    refine s_callSr X (m_J6_bitCount_0f7a4 l) tw_645 tw_646 tw_140 tw_647 (by decide +kernel) ⟨by decide, by decide⟩ dX5_plan_115 ?_
    refine s_istore X (by decide) dX5_plan_118 ?_
    refine s_aload_n X rfl dX5_plan_120 ?_
    refine s_get X (T := TX5) (C := RX5) (N := 3) tu_X5 rfl (by decide) tw_299 dX5_plan_121 ?_
    refine s_iload X dX5_plan_124 ?_
    refine s_iald X dX5_plan_126 ?_
    refine s_iload_n X rfl dX5_plan_127 ?_
    refine s_icmp_gt X (tgt := 180) dX5_plan_128 (by decide) ?_ ?_
    · exact s_X5_plan_180 X hJ
    · refine s_iload X dX5_plan_131 ?_
      refine s_aload_n X rfl dX5_plan_133 ?_
      refine s_get X (T := TX5) (C := RX5) (N := 3) tu_X5 rfl (by decide) tw_300 dX5_plan_134 ?_
      refine s_icmp_gt X (tgt := 163) dX5_plan_137 (by decide) ?_ ?_
      · exact s_X5_plan_163 X hJ
      · refine s_iload X dX5_plan_140 ?_
        refine s_aload_n X rfl dX5_plan_142 ?_
        refine s_get X (T := TX5) (C := RX5) (N := 3) tu_X5 rfl (by decide) tw_300 dX5_plan_143 ?_
        refine s_icmp_ne X (tgt := 180) dX5_plan_146 (by decide) ?_ ?_
        · exact s_X5_plan_180 X hJ
        · refine s_aload_n X rfl dX5_plan_149 ?_
          refine s_get X (T := TX5) (C := RX5) (N := 3) tu_X5 rfl (by decide) tw_299 dX5_plan_150 ?_
          refine s_iload X dX5_plan_153 ?_
          refine s_iald X dX5_plan_155 ?_
          exact s_X5_plan_156 X hJ
set_option maxRecDepth 100000 in
def b_X5_plan_82 (J : Nat → List qV → List qV → qW → Prop) (Q : qR) : qK := x_iinc 5 1 (x_cut [0, 1, 2, 3, 4, 5] (J 46))
set_option maxRecDepth 100000 in
theorem s_X5_plan_82 {p : Program} {l : Launch} {e : Env} {R : Room} {s : State} {m : MethodId} {args : Array Value} {below : List Frame} {meth : Method} {c : Code} {nW : Nat} {dC : Nat → ClassId} {dI : Nat → Nat → Nat} {k : Nat → ClassId} {g : Nat → Nat} {A : Nat → Prop} {J : Nat → List qV → List qV → qW → Prop} {Q : qR} (X : q_X p R s m args meth c cX5_plan 6 nW 3 68 RX5 none dC dI k g A) (hJ : ∀ d : Nat, q_Sd p l e R s m args below meth c 6 nW dC dI k g A (MQ below (q_post (dC, dI) k g nW Q A) args s 0 0 A) d (x_cut (is_X5_plan d) (J d))) : q_Sd p l e R s m args below meth c 6 nW dC dI k g A (MQ below (q_post (dC, dI) k g nW Q A) args s 0 0 A) 82 (b_X5_plan_82 J Q) := by
  unfold b_X5_plan_82
  refine s_iinc X (by decide) dX5_plan_82 ?_
  refine s_goto X (tgt := 46) dX5_plan_85 (by decide) ?_
  exact hJ 46
set_option maxRecDepth 100000 in
def b_X5_plan_46 (J : Nat → List qV → List qV → qW → Prop) (Q : qR) : qK := x_iload 5 (x_iload 3 (x_icmp_ge (x_iinc 4 (-1) (x_cut [0, 1, 2, 3, 4] (J 38))) (x_aload 0 (x_get 5 0 (x_int 256 (x_iload 4 (x_int 1 (x_iadd (x_imul (x_iload 5 (x_iadd (x_iald (x_int 1000000 (x_icmp_ge (b_X5_plan_82 J Q) (x_aload 0 (x_aload 1 (x_iload 4 (x_iload 5 (x_call (some 5) 4 sp_X5_widen (x_nw (b_X5_plan_82 J Q)))))))))))))))))))))
set_option maxRecDepth 100000 in
theorem s_X5_plan_46 {p : Program} {l : Launch} {e : Env} {R : Room} {s : State} {m : MethodId} {args : Array Value} {below : List Frame} {meth : Method} {c : Code} {nW : Nat} {dC : Nat → ClassId} {dI : Nat → Nat → Nat} {k : Nat → ClassId} {g : Nat → Nat} {A : Nat → Prop} {J : Nat → List qV → List qV → qW → Prop} {Q : qR} (X : q_X p R s m args meth c cX5_plan 6 nW 3 68 RX5 none dC dI k g A) (hJ : ∀ d : Nat, q_Sd p l e R s m args below meth c 6 nW dC dI k g A (MQ below (q_post (dC, dI) k g nW Q A) args s 0 0 A) d (x_cut (is_X5_plan d) (J d))) : q_Sd p l e R s m args below meth c 6 nW dC dI k g A (MQ below (q_post (dC, dI) k g nW Q A) args s 0 0 A) 46 (b_X5_plan_46 J Q) := by
  unfold b_X5_plan_46
  refine s_iload X dX5_plan_46 ?_
  refine s_iload_n X rfl dX5_plan_48 ?_
  refine s_icmp_ge X (tgt := 88) dX5_plan_49 (by decide) ?_ ?_
  · refine s_iinc X (by decide) dX5_plan_88 ?_
    refine s_goto X (tgt := 38) dX5_plan_91 (by decide) ?_
    exact hJ 38
  · refine s_aload_n X rfl dX5_plan_52 ?_
    refine s_get X (T := TX5) (C := RX5) (N := 3) tu_X5 rfl (by decide) tw_299 dX5_plan_53 ?_
    refine s_sipush X ⟨by decide, by decide⟩ (by decide) dX5_plan_56 ?_
    refine s_iload X dX5_plan_59 ?_
    refine s_iconst X ⟨by decide, by decide⟩ dX5_plan_61 ?_
    refine s_iadd X dX5_plan_62 ?_
    refine s_imul X dX5_plan_63 ?_
    refine s_iload X dX5_plan_64 ?_
    refine s_iadd X dX5_plan_66 ?_
    refine s_iald X dX5_plan_67 ?_
    refine s_ldc X ⟨by decide, by decide⟩ tw_632 dX5_plan_68 ?_
    refine s_icmp_ge X (tgt := 82) dX5_plan_70 (by decide) ?_ ?_
    · exact s_X5_plan_82 X hJ
    · refine s_aload_n X rfl dX5_plan_73 ?_
      refine s_aload_n X rfl dX5_plan_74 ?_
      refine s_iload X dX5_plan_75 ?_
      refine s_iload X dX5_plan_77 ?_
      refine s_callV X (m_X5_widen l) tw_634 tw_635 tw_1506 tw_130 tw_636 rfl (by decide +kernel) ⟨by decide, by decide⟩ dX5_plan_79 ?_
      refine s_nw ?_
      exact s_X5_plan_82 X hJ
set_option maxRecDepth 100000 in
def b_X5_plan_38 (J : Nat → List qV → List qV → qW → Prop) (Q : qR) : qK := x_iload 4 (x_if_lt (x_aload 0 (x_int 0 (x_put 5 1 q_oki (x_nw (x_aload 0 (x_int 0 (x_put 5 2 q_oki (x_nw (x_int 0 (x_istore 4 (x_cut [0, 2, 3, 4] (J 107)))))))))))) (x_int 0 (x_istore 5 (x_cut [0, 1, 2, 3, 4, 5] (J 46)))))
set_option maxRecDepth 100000 in
theorem s_X5_plan_38 {p : Program} {l : Launch} {e : Env} {R : Room} {s : State} {m : MethodId} {args : Array Value} {below : List Frame} {meth : Method} {c : Code} {nW : Nat} {dC : Nat → ClassId} {dI : Nat → Nat → Nat} {k : Nat → ClassId} {g : Nat → Nat} {A : Nat → Prop} {J : Nat → List qV → List qV → qW → Prop} {Q : qR} (X : q_X p R s m args meth c cX5_plan 6 nW 3 68 RX5 none dC dI k g A) (hJ : ∀ d : Nat, q_Sd p l e R s m args below meth c 6 nW dC dI k g A (MQ below (q_post (dC, dI) k g nW Q A) args s 0 0 A) d (x_cut (is_X5_plan d) (J d))) : q_Sd p l e R s m args below meth c 6 nW dC dI k g A (MQ below (q_post (dC, dI) k g nW Q A) args s 0 0 A) 38 (b_X5_plan_38 J Q) := by
  unfold b_X5_plan_38
  refine s_iload X dX5_plan_38 ?_
  refine s_if_lt X (tgt := 94) dX5_plan_40 (by decide) ?_ ?_
  · refine s_aload_n X rfl dX5_plan_94 ?_
    refine s_iconst X ⟨by decide, by decide⟩ dX5_plan_95 ?_
    refine s_put X (T := TX5) (C := RX5) (N := 3) tu_X5 tyX5_ok nmX5 rfl (by decide) tw_300 rfl (by decide +kernel) q_oki_t dX5_plan_96 ?_
    refine s_nw ?_
    refine s_aload_n X rfl dX5_plan_99 ?_
    refine s_iconst X ⟨by decide, by decide⟩ dX5_plan_100 ?_
    refine s_put X (T := TX5) (C := RX5) (N := 3) tu_X5 tyX5_ok nmX5 rfl (by decide) tw_302 rfl (by decide +kernel) q_oki_t dX5_plan_101 ?_
    refine s_nw ?_
    refine s_iconst X ⟨by decide, by decide⟩ dX5_plan_104 ?_
    refine s_istore X (by decide) dX5_plan_105 ?_
    exact hJ 107
  · refine s_iconst X ⟨by decide, by decide⟩ dX5_plan_43 ?_
    refine s_istore X (by decide) dX5_plan_44 ?_
    exact hJ 46
set_option maxRecDepth 100000 in
def b_X5_plan_0 (J : Nat → List qV → List qV → qW → Prop) (Q : qR) : qK := x_int 1 (x_aload 1 (x_get 0 7 (x_ishl (x_istore 3 (x_aload 0 (x_get 5 0 (x_int 1000000 (x_call none 2 sp_J7_fill_53178 (x_nw (x_aload 0 (x_get 5 0 (x_int 256 (x_aload 1 (x_get 0 11 (x_imul (x_int 0 (x_iast (x_nw (x_aload 1 (x_get 0 11 (x_int 1 (x_isub (x_istore 4 (x_cut [0, 1, 2, 3, 4] (J 38)))))))))))))))))))))))))
set_option maxRecDepth 100000 in
theorem s_X5_plan_0 {p : Program} {l : Launch} {e : Env} {R : Room} {s : State} {m : MethodId} {args : Array Value} {below : List Frame} {meth : Method} {c : Code} {nW : Nat} {dC : Nat → ClassId} {dI : Nat → Nat → Nat} {k : Nat → ClassId} {g : Nat → Nat} {A : Nat → Prop} {J : Nat → List qV → List qV → qW → Prop} {Q : qR} (X : q_X p R s m args meth c cX5_plan 6 nW 3 68 RX5 none dC dI k g A) (hJ : ∀ d : Nat, q_Sd p l e R s m args below meth c 6 nW dC dI k g A (MQ below (q_post (dC, dI) k g nW Q A) args s 0 0 A) d (x_cut (is_X5_plan d) (J d))) : q_Sd p l e R s m args below meth c 6 nW dC dI k g A (MQ below (q_post (dC, dI) k g nW Q A) args s 0 0 A) 0 (b_X5_plan_0 J Q) := by
  unfold b_X5_plan_0
  refine s_iconst X ⟨by decide, by decide⟩ dX5_plan_0 ?_
  refine s_aload_n X rfl dX5_plan_1 ?_
  refine s_get X (T := TX0) (C := RX0) (N := 12) tu_X0 rfl (by decide) tw_190 dX5_plan_2 ?_
  refine s_ishl X dX5_plan_5 ?_
  refine s_istore_n X rfl (by decide) dX5_plan_6 ?_
  refine s_aload_n X rfl dX5_plan_7 ?_
  refine s_get X (T := TX5) (C := RX5) (N := 3) tu_X5 rfl (by decide) tw_299 dX5_plan_8 ?_
  refine s_ldc X ⟨by decide, by decide⟩ tw_632 dX5_plan_11 ?_
  refine s_callS X (m_J7_fill_53178 l) tw_633 tw_159 tw_123 tw_160 (by decide +kernel) ⟨by decide, by decide⟩ dX5_plan_13 ?_
  refine s_nw ?_
  refine s_aload_n X rfl dX5_plan_16 ?_
  refine s_get X (T := TX5) (C := RX5) (N := 3) tu_X5 rfl (by decide) tw_299 dX5_plan_17 ?_
  refine s_sipush X ⟨by decide, by decide⟩ (by decide) dX5_plan_20 ?_
  refine s_aload_n X rfl dX5_plan_23 ?_
  refine s_get X (T := TX0) (C := RX0) (N := 12) tu_X0 rfl (by decide) tw_206 dX5_plan_24 ?_
  refine s_imul X dX5_plan_27 ?_
  refine s_iconst X ⟨by decide, by decide⟩ dX5_plan_28 ?_
  refine s_iast X dX5_plan_29 ?_
  refine s_nw ?_
  refine s_aload_n X rfl dX5_plan_30 ?_
  refine s_get X (T := TX0) (C := RX0) (N := 12) tu_X0 rfl (by decide) tw_206 dX5_plan_31 ?_
  refine s_iconst X ⟨by decide, by decide⟩ dX5_plan_34 ?_
  refine s_isub X dX5_plan_35 ?_
  refine s_istore X (by decide) dX5_plan_36 ?_
  exact hJ 38

def sp_X5_plan : qS := fun av w Q => ∃ (c1 : Nat → Int) (m0 : Int) (n0 : Int) (f1 : Nat → Int) (f2 : Nat → Int) (f3 : Nat → Int) (f4 : Nat → Int) (f5 : Nat → Int) (f6 : Nat → Int) (f7 : Nat → Int) (u0 : Int) (u1 : Int) (u2 : Int) (u3 : Int) (u4 : Int) (a : Int), av = [q2 0, q2 2, q1 a] ∧ w = (wRo 0 c1 m0 n0 ++ wBo 2 f1 f2 f3 f4 f5 f6 f7 u0 u1 u2 u3 u4) ∧ (0 ≤ u0 ∧ u0 ≤ 8 ∧ 0 ≤ u3 ∧ u3 ≤ 6 ∧ 0 ≤ u4 ∧ u4 ≤ 6) ∧ (∀ (x1 : Nat → Int) (x2 : Int) (x3 : Int), Q none ((wRo 0 x1 x2 x3 ++ wBo 2 f1 f2 f3 f4 f5 f6 f7 u0 u1 u2 u3 u4)))
def I_X5_plan (c1 : Nat → Int) (m0 : Int) (n0 : Int) (f1 : Nat → Int) (f2 : Nat → Int) (f3 : Nat → Int) (f4 : Nat → Int) (f5 : Nat → Int) (f6 : Nat → Int) (f7 : Nat → Int) (u0 : Int) (u1 : Int) (u2 : Int) (u3 : Int) (u4 : Int) (a : Int) : Nat → Nat → List qV → List qV → qW → Prop := fun dz mz vz sz wz => if dz = 38 then (∃ (y1 : Nat → Int) (y2 : Int) (y3 : Int) (v3 : Int) (v4 : Int), vz = [q2 0, q2 2, q1 a, q1 v3, q1 v4] ∧ sz = [] ∧ wz = (wRo 0 y1 y2 y3 ++ wBo 2 f1 f2 f3 f4 f5 f6 f7 u0 u1 u2 u3 u4) ∧ mz = 10000 + 1000 * (v4 + 1).toNat ∧ (1 ≤ v3 ∧ v3 ≤ 256 ∧ -1 ≤ v4 ∧ v4 ≤ 5)) else if dz = 46 then (∃ (y1 : Nat → Int) (y2 : Int) (y3 : Int) (v3 : Int) (v4 : Int) (v5 : Int), vz = [q2 0, q2 2, q1 a, q1 v3, q1 v4, q1 v5] ∧ sz = [] ∧ wz = (wRo 0 y1 y2 y3 ++ wBo 2 f1 f2 f3 f4 f5 f6 f7 u0 u1 u2 u3 u4) ∧ mz = 10000 + 1000 * (v4 + 1).toNat - 500 + (256 - v5).toNat ∧ (1 ≤ v3 ∧ v3 ≤ 256 ∧ 0 ≤ v4 ∧ v4 ≤ 5 ∧ 0 ≤ v5 ∧ v5 ≤ v3)) else if dz = 107 then (∃ (y1 : Nat → Int) (y2 : Int) (y3 : Int) (v3 : Int) (v4 : Int), vz = [q2 0, q1 a, q1 v3, q1 v4] ∧ sz = [] ∧ wz = (wRo 0 y1 y2 y3 ++ wBo 2 f1 f2 f3 f4 f5 f6 f7 u0 u1 u2 u3 u4) ∧ mz = (256 - v4).toNat ∧ (1 ≤ v3 ∧ v3 ≤ 256 ∧ 0 ≤ v4 ∧ v4 ≤ v3)) else False
set_option maxHeartbeats 4000000 in
set_option maxRecDepth 100000 in
theorem m_X5_plan (l : Launch) : q_M l yX5_plan cX5_plan 6 none 3 68 sp_X5_plan := by
  refine q_meth (by decide) (fun av w Q h => by obtain ⟨c1, m0, n0, f1, f2, f3, f4, f5, f6, f7, u0, u1, u2, u3, u4, a, rfl, rfl, hu0, hQ⟩ := h; exact Nat.le_of_ble_eq_true rfl) ?_
  intro p e R s m args below meth c dC dI k g A av w Q hsp oka okw X
  obtain ⟨c1, m0, n0, f1, f2, f3, f4, f5, f6, f7, u0, u1, u2, u3, u4, a, rfl, rfl, hu0, hQ⟩ := hsp
  have o_a : -2147483648 ≤ a ∧ a ≤ 2147483647 := oka _ (List.mem_of_getElem? (i := 2) rfl)
  refine s_mono (s_X5_plan_0 X (J := fun dz vz sz wz => ∃ mz, I_X5_plan c1 m0 n0 f1 f2 f3 f4 f5 f6 f7 u0 u1 u2 u3 u4 a dz mz vz sz wz) (q_loopn (I_X5_plan c1 m0 n0 f1 f2 f3 f4 f5 f6 f7 u0 u1 u2 u3 u4 a) (fun dz J => if dz = 38 then b_X5_plan_38 J Q else if dz = 46 then b_X5_plan_46 J Q else if dz = 107 then b_X5_plan_107 J Q else q_F) ?hs ?hv)) ?_
  case hs =>
    intro d J hJ
    by_cases h38 : d = 38
    · subst h38; exact s_X5_plan_38 X hJ
    by_cases h46 : d = 46
    · subst h46; exact s_X5_plan_46 X hJ
    by_cases h107 : d = 107
    · subst h107; exact s_X5_plan_107 X hJ
    simp only [h38, h46, h107, if_false]
    exact s_F
  case hv =>
    intro dz mz vz sz wz hI okv oks okw hlen
    by_cases h38 : dz = 38
    · subst h38
      obtain ⟨y1, y2, y3, v3, v4, rfl, rfl, rfl, hn, hp⟩ := hI
      apply And.intro
      · intro h40
        apply And.intro
        · exact trivial
        apply And.intro
        · exact trivial
        exact ⟨_, ⟨_, _, _, _, _, rfl, rfl, rfl, rfl, (by first | omega | assumption | exact q_rg_up (by assumption) (by omega) | exact q_rg_up (q_rg_up (by assumption) (by omega)) (by omega) | exact q_rg_cpy (by assumption) (by assumption))⟩, by omega⟩
      · intro h40
        exact ⟨_, ⟨_, _, _, _, _, _, rfl, rfl, rfl, rfl, (by first | omega | assumption | exact q_rg_up (by assumption) (by omega) | exact q_rg_up (q_rg_up (by assumption) (by omega)) (by omega) | exact q_rg_cpy (by assumption) (by assumption))⟩, by omega⟩
    by_cases h46 : dz = 46
    · subst h46
      obtain ⟨y1, y2, y3, v3, v4, v5, rfl, rfl, rfl, hn, hp⟩ := hI
      apply And.intro
      · intro h49
        intro z88 h88
        first | replace h88 := e_add h88 (by omega) | replace h88 := e_rng h88
        exact ⟨_, ⟨_, _, _, _, _, rfl, rfl, rfl, rfl, (by first | omega | assumption | exact q_rg_up (by assumption) (by omega) | exact q_rg_up (q_rg_up (by assumption) (by omega)) (by omega) | exact q_rg_cpy (by assumption) (by assumption))⟩, by omega⟩
      · intro h49
        intro z62 h62
        first | replace h62 := e_add h62 (by omega) | replace h62 := e_rng h62
        intro z63 h63
        first | replace h63 := e_mul h63 (by omega) | replace h63 := e_rng h63
        intro z66 h66
        first | replace h66 := e_add h66 (by omega) | replace h66 := e_rng h66
        apply And.intro
        · exact ⟨by omega, by omega⟩
        intro z67 h67
        apply And.intro
        · intro h70
          intro z82 h82
          first | replace h82 := e_add h82 (by omega) | replace h82 := e_rng h82
          exact ⟨_, ⟨_, _, _, _, _, _, rfl, rfl, rfl, rfl, (by first | omega | assumption | exact q_rg_up (by assumption) (by omega) | exact q_rg_up (q_rg_up (by assumption) (by omega)) (by omega) | exact q_rg_cpy (by assumption) (by assumption))⟩, by omega⟩
        · intro h70
          refine Exists.intro [0, 1, 2, 3, 4, 5, 6, 7, 8, 9] (Exists.intro [q2 0, q2 2, q1 _, q1 _] (Exists.intro ((wRo 0 _ _ _ ++ wBo 2 _ _ _ _ _ _ _ _ _ _ _ _)) (And.intro rfl (And.intro rfl (And.intro rfl (And.intro ⟨⟨_, rfl⟩, rfl⟩ ?_))))))
          refine Exists.intro _ (Exists.intro _ (Exists.intro _ (Exists.intro _ (Exists.intro _ (Exists.intro _ (Exists.intro _ (Exists.intro _ (Exists.intro _ (Exists.intro _ (Exists.intro _ (Exists.intro _ (Exists.intro _ (Exists.intro _ (Exists.intro _ (Exists.intro _ (Exists.intro _ (And.intro rfl (And.intro rfl (And.intro (by first | omega | assumption | exact q_rg_up (by assumption) (by omega) | exact q_rg_up (q_rg_up (by assumption) (by omega)) (by omega) | exact q_rg_cpy (by assumption) (by assumption)) (And.intro (by first | omega | assumption | exact q_rg_up (by assumption) (by omega) | exact q_rg_up (q_rg_up (by assumption) (by omega)) (by omega) | exact q_rg_cpy (by assumption) (by assumption)) (?_)))))))))))))))))))))
          intro x1_79 x2_79 x3_79
          intro z82 h82
          first | replace h82 := e_add h82 (by omega) | replace h82 := e_rng h82
          exact ⟨_, ⟨_, _, _, _, _, _, rfl, rfl, rfl, rfl, (by first | omega | assumption | exact q_rg_up (by assumption) (by omega) | exact q_rg_up (q_rg_up (by assumption) (by omega)) (by omega) | exact q_rg_cpy (by assumption) (by assumption))⟩, by omega⟩
    by_cases h107 : dz = 107
    · subst h107
      obtain ⟨y1, y2, y3, v3, v4, rfl, rfl, rfl, hn, hp⟩ := hI
      apply And.intro
      · intro h110
        exact hQ _ _ _
      · intro h110
        refine Exists.intro [] (Exists.intro [q1 _] (Exists.intro [] (And.intro rfl (And.intro rfl (And.intro rfl (And.intro trivial ?_))))))
        refine Exists.intro _ (And.intro rfl (And.intro rfl (?_)))
        intro z115 h115
        apply And.intro
        · exact ⟨by omega, by omega⟩
        intro z126 h126
        apply And.intro
        · intro h128
          intro z180 h180
          first | replace h180 := e_add h180 (by omega) | replace h180 := e_rng h180
          exact ⟨_, ⟨_, _, _, _, _, rfl, rfl, rfl, rfl, (by first | omega | assumption | exact q_rg_up (by assumption) (by omega) | exact q_rg_up (q_rg_up (by assumption) (by omega)) (by omega) | exact q_rg_cpy (by assumption) (by assumption))⟩, by omega⟩
        · intro h128
          apply And.intro
          · intro h137
            apply And.intro
            · exact trivial
            apply And.intro
            · exact ⟨by omega, by omega⟩
            intro z176 h176
            apply And.intro
            · exact trivial
            intro z180 h180
            first | replace h180 := e_add h180 (by omega) | replace h180 := e_rng h180
            exact ⟨_, ⟨_, _, _, _, _, rfl, rfl, rfl, rfl, (by first | omega | assumption | exact q_rg_up (by assumption) (by omega) | exact q_rg_up (q_rg_up (by assumption) (by omega)) (by omega) | exact q_rg_cpy (by assumption) (by assumption))⟩, by omega⟩
          · intro h137
            apply And.intro
            · intro h146
              intro z180 h180
              first | replace h180 := e_add h180 (by omega) | replace h180 := e_rng h180
              exact ⟨_, ⟨_, _, _, _, _, rfl, rfl, rfl, rfl, (by first | omega | assumption | exact q_rg_up (by assumption) (by omega) | exact q_rg_up (q_rg_up (by assumption) (by omega)) (by omega) | exact q_rg_cpy (by assumption) (by assumption))⟩, by omega⟩
            · intro h146
              apply And.intro
              · exact ⟨by omega, by omega⟩
              intro z155 h155
              apply And.intro
              · intro h160
                intro z180 h180
                first | replace h180 := e_add h180 (by omega) | replace h180 := e_rng h180
                exact ⟨_, ⟨_, _, _, _, _, rfl, rfl, rfl, rfl, (by first | omega | assumption | exact q_rg_up (by assumption) (by omega) | exact q_rg_up (q_rg_up (by assumption) (by omega)) (by omega) | exact q_rg_cpy (by assumption) (by assumption))⟩, by omega⟩
              · intro h160
                apply And.intro
                · exact trivial
                apply And.intro
                · exact ⟨by omega, by omega⟩
                intro z176 h176
                apply And.intro
                · exact trivial
                intro z180 h180
                first | replace h180 := e_add h180 (by omega) | replace h180 := e_rng h180
                exact ⟨_, ⟨_, _, _, _, _, rfl, rfl, rfl, rfl, (by first | omega | assumption | exact q_rg_up (by assumption) (by omega) | exact q_rg_up (q_rg_up (by assumption) (by omega)) (by omega) | exact q_rg_cpy (by assumption) (by assumption))⟩, by omega⟩
    simp only [I_X5_plan, h38, h46, h107, if_false] at hI
  rintro lv st w' ⟨rfl, rfl, rfl⟩
  intro z5 h5
  first | replace h5 := e_shl h5 (by omega) | replace h5 := e_rng h5
  refine Exists.intro [1] (Exists.intro [q2 0, q1 _] (Exists.intro ([.inl (0, _, .inl _)]) (And.intro rfl (And.intro rfl (And.intro rfl (And.intro trivial ?_))))))
  refine Exists.intro _ (Exists.intro _ (Exists.intro _ (And.intro rfl (And.intro rfl (And.intro (by first | omega | assumption | exact q_rg_up (by assumption) (by omega) | exact q_rg_up (q_rg_up (by assumption) (by omega)) (by omega) | exact q_rg_cpy (by assumption) (by assumption)) (?_))))))
  intro g_13 h13
  intro z27 h27
  first | replace h27 := e_mul h27 (by omega) | replace h27 := e_rng h27
  apply And.intro
  · exact ⟨by omega, by omega⟩
  intro z35 h35
  first | replace h35 := e_sub h35 (by omega) | replace h35 := e_rng h35
  exact ⟨_, _, _, _, _, _, rfl, rfl, rfl, rfl, (by first | omega | assumption | exact q_rg_up (by assumption) (by omega) | exact q_rg_up (q_rg_up (by assumption) (by omega)) (by omega) | exact q_rg_cpy (by assumption) (by assumption))⟩

theorem dX5_goesOn_0 : decode cX5_goesOn 0 = .ok (.iload 4, 2) := by decide +kernel
theorem dX5_goesOn_2 : decode cX5_goesOn 2 = .ok (.ifCond .lt 8, 3) := by decide +kernel
theorem dX5_goesOn_5 : decode cX5_goesOn 5 = .ok (.iload 5, 2) := by decide +kernel
theorem dX5_goesOn_7 : decode cX5_goesOn 7 = .ok (.ifCond .ge 5, 3) := by decide +kernel
theorem dX5_goesOn_10 : decode cX5_goesOn 10 = .ok (.iconst 0, 1) := by decide +kernel
theorem dX5_goesOn_11 : decode cX5_goesOn 11 = .ok (.ireturn, 1) := by decide +kernel
theorem dX5_goesOn_12 : decode cX5_goesOn 12 = .ok (.iconst 1, 1) := by decide +kernel
theorem dX5_goesOn_13 : decode cX5_goesOn 13 = .ok (.aload_n 1, 1) := by decide +kernel
theorem dX5_goesOn_14 : decode cX5_goesOn 14 = .ok (.getfield 15, 3) := by decide +kernel
theorem dX5_goesOn_17 : decode cX5_goesOn 17 = .ok (.ishl, 1) := by decide +kernel
theorem dX5_goesOn_18 : decode cX5_goesOn 18 = .ok (.istore 6, 2) := by decide +kernel
theorem dX5_goesOn_20 : decode cX5_goesOn 20 = .ok (.iconst 0, 1) := by decide +kernel
theorem dX5_goesOn_21 : decode cX5_goesOn 21 = .ok (.istore 7, 2) := by decide +kernel
theorem dX5_goesOn_23 : decode cX5_goesOn 23 = .ok (.iload 7, 2) := by decide +kernel
theorem dX5_goesOn_25 : decode cX5_goesOn 25 = .ok (.iload 6, 2) := by decide +kernel
theorem dX5_goesOn_27 : decode cX5_goesOn 27 = .ok (.if_icmp .ge 46, 3) := by decide +kernel
theorem dX5_goesOn_30 : decode cX5_goesOn 30 = .ok (.iload 7, 2) := by decide +kernel
theorem dX5_goesOn_32 : decode cX5_goesOn 32 = .ok (.iload_n 3, 1) := by decide +kernel
theorem dX5_goesOn_33 : decode cX5_goesOn 33 = .ok (.iand, 1) := by decide +kernel
theorem dX5_goesOn_34 : decode cX5_goesOn 34 = .ok (.ifCond .ne 33, 3) := by decide +kernel
theorem dX5_goesOn_37 : decode cX5_goesOn 37 = .ok (.aload_n 0, 1) := by decide +kernel
theorem dX5_goesOn_38 : decode cX5_goesOn 38 = .ok (.getfield 9, 3) := by decide +kernel
theorem dX5_goesOn_41 : decode cX5_goesOn 41 = .ok (.sipush 256, 3) := by decide +kernel
theorem dX5_goesOn_44 : decode cX5_goesOn 44 = .ok (.iload_n 2, 1) := by decide +kernel
theorem dX5_goesOn_45 : decode cX5_goesOn 45 = .ok (.imul, 1) := by decide +kernel
theorem dX5_goesOn_46 : decode cX5_goesOn 46 = .ok (.iload 7, 2) := by decide +kernel
theorem dX5_goesOn_48 : decode cX5_goesOn 48 = .ok (.iadd, 1) := by decide +kernel
theorem dX5_goesOn_49 : decode cX5_goesOn 49 = .ok (.iaload, 1) := by decide +kernel
theorem dX5_goesOn_50 : decode cX5_goesOn 50 = .ok (.iload 5, 2) := by decide +kernel
theorem dX5_goesOn_52 : decode cX5_goesOn 52 = .ok (.if_icmp .ne 15, 3) := by decide +kernel
theorem dX5_goesOn_55 : decode cX5_goesOn 55 = .ok (.iload 7, 2) := by decide +kernel
theorem dX5_goesOn_57 : decode cX5_goesOn 57 = .ok (.invokestatic 41, 3) := by decide +kernel
theorem dX5_goesOn_60 : decode cX5_goesOn 60 = .ok (.iload 4, 2) := by decide +kernel
theorem dX5_goesOn_62 : decode cX5_goesOn 62 = .ok (.if_icmp .ne 5, 3) := by decide +kernel
theorem dX5_goesOn_65 : decode cX5_goesOn 65 = .ok (.iconst 1, 1) := by decide +kernel
theorem dX5_goesOn_66 : decode cX5_goesOn 66 = .ok (.ireturn, 1) := by decide +kernel
theorem dX5_goesOn_67 : decode cX5_goesOn 67 = .ok (.iinc 7 1, 3) := by decide +kernel
theorem dX5_goesOn_70 : decode cX5_goesOn 70 = .ok (.goto (-47), 3) := by decide +kernel
theorem dX5_goesOn_73 : decode cX5_goesOn 73 = .ok (.iconst 0, 1) := by decide +kernel
theorem dX5_goesOn_74 : decode cX5_goesOn 74 = .ok (.ireturn, 1) := by decide +kernel
def is_X5_goesOn : Nat → List Nat := fun d => if d = 23 then [0, 2, 3, 4, 5, 6, 7] else []
set_option maxRecDepth 100000 in
def b_X5_goesOn_67 (J : Nat → List qV → List qV → qW → Prop) (Q : qR) : qK := x_iinc 7 1 (x_cut [0, 2, 3, 4, 5, 6, 7] (J 23))
set_option maxRecDepth 100000 in
theorem s_X5_goesOn_67 {p : Program} {l : Launch} {e : Env} {R : Room} {s : State} {m : MethodId} {args : Array Value} {below : List Frame} {meth : Method} {c : Code} {nW : Nat} {dC : Nat → ClassId} {dI : Nat → Nat → Nat} {k : Nat → ClassId} {g : Nat → Nat} {A : Nat → Prop} {J : Nat → List qV → List qV → qW → Prop} {Q : qR} (X : q_X p R s m args meth c cX5_goesOn 8 nW 1 20 RX5 (some .boolean) dC dI k g A) (hJ : ∀ d : Nat, q_Sd p l e R s m args below meth c 8 nW dC dI k g A (MQ below (q_post (dC, dI) k g nW Q A) args s 0 0 A) d (x_cut (is_X5_goesOn d) (J d))) : q_Sd p l e R s m args below meth c 8 nW dC dI k g A (MQ below (q_post (dC, dI) k g nW Q A) args s 0 0 A) 67 (b_X5_goesOn_67 J Q) := by
  unfold b_X5_goesOn_67
  refine s_iinc X (by decide) dX5_goesOn_67 ?_
  refine s_goto X (tgt := 23) dX5_goesOn_70 (by decide) ?_
  exact hJ 23
set_option maxRecDepth 100000 in
def b_X5_goesOn_23 (J : Nat → List qV → List qV → qW → Prop) (Q : qR) : qK := x_iload 7 (x_iload 6 (x_icmp_ge (x_int 0 (x_zret Q)) (x_iload 7 (x_iload 3 (x_iand (x_if_ne (b_X5_goesOn_67 J Q) (x_aload 0 (x_get 5 0 (x_int 256 (x_iload 2 (x_imul (x_iload 7 (x_iadd (x_iald (x_iload 5 (x_icmp_ne (b_X5_goesOn_67 J Q) (x_iload 7 (x_callr none 1 spr_J6_bitCount_0f7a4 (x_iload 4 (x_icmp_ne (b_X5_goesOn_67 J Q) (x_int 1 (x_zret Q))))))))))))))))))))))
set_option maxRecDepth 100000 in
theorem s_X5_goesOn_23 {p : Program} {l : Launch} {e : Env} {R : Room} {s : State} {m : MethodId} {args : Array Value} {below : List Frame} {meth : Method} {c : Code} {nW : Nat} {dC : Nat → ClassId} {dI : Nat → Nat → Nat} {k : Nat → ClassId} {g : Nat → Nat} {A : Nat → Prop} {J : Nat → List qV → List qV → qW → Prop} {Q : qR} (X : q_X p R s m args meth c cX5_goesOn 8 nW 1 20 RX5 (some .boolean) dC dI k g A) (hJ : ∀ d : Nat, q_Sd p l e R s m args below meth c 8 nW dC dI k g A (MQ below (q_post (dC, dI) k g nW Q A) args s 0 0 A) d (x_cut (is_X5_goesOn d) (J d))) : q_Sd p l e R s m args below meth c 8 nW dC dI k g A (MQ below (q_post (dC, dI) k g nW Q A) args s 0 0 A) 23 (b_X5_goesOn_23 J Q) := by
  unfold b_X5_goesOn_23
  refine s_iload X dX5_goesOn_23 ?_
  refine s_iload X dX5_goesOn_25 ?_
  refine s_icmp_ge X (tgt := 73) dX5_goesOn_27 (by decide) ?_ ?_
  · refine s_iconst X ⟨by decide, by decide⟩ dX5_goesOn_73 ?_
    exact s_zret X dX5_goesOn_74
  · refine s_iload X dX5_goesOn_30 ?_
    refine s_iload_n X rfl dX5_goesOn_32 ?_
    refine s_iand X dX5_goesOn_33 ?_
    refine s_if_ne X (tgt := 67) dX5_goesOn_34 (by decide) ?_ ?_
    · exact s_X5_goesOn_67 X hJ
    · refine s_aload_n X rfl dX5_goesOn_37 ?_
      refine s_get X (T := TX5) (C := RX5) (N := 3) tu_X5 rfl (by decide) tw_299 dX5_goesOn_38 ?_
      refine s_sipush X ⟨by decide, by decide⟩ (by decide) dX5_goesOn_41 ?_
      refine s_iload_n X rfl dX5_goesOn_44 ?_
      refine s_imul X dX5_goesOn_45 ?_
      refine s_iload X dX5_goesOn_46 ?_
      refine s_iadd X dX5_goesOn_48 ?_
      refine s_iald X dX5_goesOn_49 ?_
      refine s_iload X dX5_goesOn_50 ?_
      refine s_icmp_ne X (tgt := 67) dX5_goesOn_52 (by decide) ?_ ?_
      · exact s_X5_goesOn_67 X hJ
      · refine s_iload X dX5_goesOn_55 ?_
        refine s_callSr X (m_J6_bitCount_0f7a4 l) tw_645 tw_646 tw_140 tw_647 (by decide +kernel) ⟨by decide, by decide⟩ dX5_goesOn_57 ?_
        refine s_iload X dX5_goesOn_60 ?_
        refine s_icmp_ne X (tgt := 67) dX5_goesOn_62 (by decide) ?_ ?_
        · exact s_X5_goesOn_67 X hJ
        · refine s_iconst X ⟨by decide, by decide⟩ dX5_goesOn_65 ?_
          exact s_zret X dX5_goesOn_66
set_option maxRecDepth 100000 in
def b_X5_goesOn_10 (J : Nat → List qV → List qV → qW → Prop) (Q : qR) : qK := x_int 0 (x_zret Q)
set_option maxRecDepth 100000 in
theorem s_X5_goesOn_10 {p : Program} {l : Launch} {e : Env} {R : Room} {s : State} {m : MethodId} {args : Array Value} {below : List Frame} {meth : Method} {c : Code} {nW : Nat} {dC : Nat → ClassId} {dI : Nat → Nat → Nat} {k : Nat → ClassId} {g : Nat → Nat} {A : Nat → Prop} {J : Nat → List qV → List qV → qW → Prop} {Q : qR} (X : q_X p R s m args meth c cX5_goesOn 8 nW 1 20 RX5 (some .boolean) dC dI k g A) (hJ : ∀ d : Nat, q_Sd p l e R s m args below meth c 8 nW dC dI k g A (MQ below (q_post (dC, dI) k g nW Q A) args s 0 0 A) d (x_cut (is_X5_goesOn d) (J d))) : q_Sd p l e R s m args below meth c 8 nW dC dI k g A (MQ below (q_post (dC, dI) k g nW Q A) args s 0 0 A) 10 (b_X5_goesOn_10 J Q) := by
  unfold b_X5_goesOn_10
  refine s_iconst X ⟨by decide, by decide⟩ dX5_goesOn_10 ?_
  exact s_zret X dX5_goesOn_11
set_option maxRecDepth 100000 in
def b_X5_goesOn_0 (J : Nat → List qV → List qV → qW → Prop) (Q : qR) : qK := x_iload 4 (x_if_lt (b_X5_goesOn_10 J Q) (x_iload 5 (x_if_ge (x_int 1 (x_aload 1 (x_get 0 7 (x_ishl (x_istore 6 (x_int 0 (x_istore 7 (x_cut [0, 2, 3, 4, 5, 6, 7] (J 23))))))))) (b_X5_goesOn_10 J Q))))
set_option maxRecDepth 100000 in
theorem s_X5_goesOn_0 {p : Program} {l : Launch} {e : Env} {R : Room} {s : State} {m : MethodId} {args : Array Value} {below : List Frame} {meth : Method} {c : Code} {nW : Nat} {dC : Nat → ClassId} {dI : Nat → Nat → Nat} {k : Nat → ClassId} {g : Nat → Nat} {A : Nat → Prop} {J : Nat → List qV → List qV → qW → Prop} {Q : qR} (X : q_X p R s m args meth c cX5_goesOn 8 nW 1 20 RX5 (some .boolean) dC dI k g A) (hJ : ∀ d : Nat, q_Sd p l e R s m args below meth c 8 nW dC dI k g A (MQ below (q_post (dC, dI) k g nW Q A) args s 0 0 A) d (x_cut (is_X5_goesOn d) (J d))) : q_Sd p l e R s m args below meth c 8 nW dC dI k g A (MQ below (q_post (dC, dI) k g nW Q A) args s 0 0 A) 0 (b_X5_goesOn_0 J Q) := by
  unfold b_X5_goesOn_0
  refine s_iload X dX5_goesOn_0 ?_
  refine s_if_lt X (tgt := 10) dX5_goesOn_2 (by decide) ?_ ?_
  · exact s_X5_goesOn_10 X hJ
  · refine s_iload X dX5_goesOn_5 ?_
    refine s_if_ge X (tgt := 12) dX5_goesOn_7 (by decide) ?_ ?_
    · refine s_iconst X ⟨by decide, by decide⟩ dX5_goesOn_12 ?_
      refine s_aload_n X rfl dX5_goesOn_13 ?_
      refine s_get X (T := TX0) (C := RX0) (N := 12) tu_X0 rfl (by decide) tw_190 dX5_goesOn_14 ?_
      refine s_ishl X dX5_goesOn_17 ?_
      refine s_istore X (by decide) dX5_goesOn_18 ?_
      refine s_iconst X ⟨by decide, by decide⟩ dX5_goesOn_20 ?_
      refine s_istore X (by decide) dX5_goesOn_21 ?_
      exact hJ 23
    · exact s_X5_goesOn_10 X hJ

def spr_X5_goesOn : List qV → qW → (Option qV → Prop) → Prop := fun av w Q => ∃ (c1 : Nat → Int) (m0 : Int) (n0 : Int) (f1 : Nat → Int) (f2 : Nat → Int) (f3 : Nat → Int) (f4 : Nat → Int) (f5 : Nat → Int) (f6 : Nat → Int) (f7 : Nat → Int) (u0 : Int) (u1 : Int) (u2 : Int) (u3 : Int) (u4 : Int) (a : Int) (b : Int) (q : Int) (t : Int), av = [q2 0, q2 2, q1 a, q1 b, q1 q, q1 t] ∧ w = (wRo 0 c1 m0 n0 ++ wBo 2 f1 f2 f3 f4 f5 f6 f7 u0 u1 u2 u3 u4) ∧ (0 ≤ u0 ∧ u0 ≤ 8 ∧ 0 ≤ u3 ∧ u3 ≤ 6 ∧ 0 ≤ u4 ∧ u4 ≤ 6) ∧ (0 ≤ a ∧ a ≤ 6) ∧ (∀ (r : Int) , (r = 0 ∨ r = 1) → Q (some (q1 r)))
def sp_X5_goesOn : qS := fun av w Q => spr_X5_goesOn av w (fun r => Q r w)
def I_X5_goesOn (c1 : Nat → Int) (m0 : Int) (n0 : Int) (f1 : Nat → Int) (f2 : Nat → Int) (f3 : Nat → Int) (f4 : Nat → Int) (f5 : Nat → Int) (f6 : Nat → Int) (f7 : Nat → Int) (u0 : Int) (u1 : Int) (u2 : Int) (u3 : Int) (u4 : Int) (a : Int) (b : Int) (q : Int) (t : Int) : Nat → Nat → List qV → List qV → qW → Prop := fun dz mz vz sz wz => if dz = 23 then (∃ (v6 : Int) (v7 : Int), vz = [q2 0, q1 a, q1 b, q1 q, q1 t, q1 v6, q1 v7] ∧ sz = [] ∧ wz = (wRo 0 c1 m0 n0 ++ wBo 2 f1 f2 f3 f4 f5 f6 f7 u0 u1 u2 u3 u4) ∧ mz = (256 - v7).toNat ∧ (1 ≤ v6 ∧ v6 ≤ 256 ∧ 0 ≤ v7 ∧ v7 ≤ v6)) else False
set_option maxHeartbeats 4000000 in
set_option maxRecDepth 100000 in
theorem m_X5_goesOn (l : Launch) : q_M l yX5_goesOn cX5_goesOn 8 (some .boolean) 1 20 sp_X5_goesOn := by
  refine q_meth (by decide) (fun av w Q h => by obtain ⟨c1, m0, n0, f1, f2, f3, f4, f5, f6, f7, u0, u1, u2, u3, u4, a, b, q, t, rfl, rfl, hu0, ha, hQ⟩ := h; exact Nat.le_of_ble_eq_true rfl) ?_
  intro p e R s m args below meth c dC dI k g A av w Q hsp oka okw X
  obtain ⟨c1, m0, n0, f1, f2, f3, f4, f5, f6, f7, u0, u1, u2, u3, u4, a, b, q, t, rfl, rfl, hu0, ha, hQ⟩ := hsp
  have o_a : -2147483648 ≤ a ∧ a ≤ 2147483647 := oka _ (List.mem_of_getElem? (i := 2) rfl)
  have o_b : -2147483648 ≤ b ∧ b ≤ 2147483647 := oka _ (List.mem_of_getElem? (i := 3) rfl)
  have o_q : -2147483648 ≤ q ∧ q ≤ 2147483647 := oka _ (List.mem_of_getElem? (i := 4) rfl)
  have o_t : -2147483648 ≤ t ∧ t ≤ 2147483647 := oka _ (List.mem_of_getElem? (i := 5) rfl)
  refine s_mono (s_X5_goesOn_0 X (J := fun dz vz sz wz => ∃ mz, I_X5_goesOn c1 m0 n0 f1 f2 f3 f4 f5 f6 f7 u0 u1 u2 u3 u4 a b q t dz mz vz sz wz) (q_loopn (I_X5_goesOn c1 m0 n0 f1 f2 f3 f4 f5 f6 f7 u0 u1 u2 u3 u4 a b q t) (fun dz J => if dz = 23 then b_X5_goesOn_23 J Q else q_F) ?hs ?hv)) ?_
  case hs =>
    intro d J hJ
    by_cases h23 : d = 23
    · subst h23; exact s_X5_goesOn_23 X hJ
    simp only [h23, if_false]
    exact s_F
  case hv =>
    intro dz mz vz sz wz hI okv oks okw hlen
    by_cases h23 : dz = 23
    · subst h23
      obtain ⟨v6, v7, rfl, rfl, rfl, hn, hp⟩ := hI
      apply And.intro
      · intro h27
        apply And.intro
        · first | exact Or.inl rfl | exact Or.inr rfl | omega
        exact hQ _ (by first | omega | assumption | exact q_rg_up (by assumption) (by omega) | exact q_rg_up (q_rg_up (by assumption) (by omega)) (by omega) | exact q_rg_cpy (by assumption) (by assumption))
      · intro h27
        intro z33 h33
        first | replace h33 := e_and1 h33 | replace h33 := e_and255 h33 | replace h33 := e_and h33 (by omega) (by omega) | replace h33 := e_rng h33
        apply And.intro
        · intro h34
          intro z67 h67
          first | replace h67 := e_add h67 (by omega) | replace h67 := e_rng h67
          exact ⟨_, ⟨_, _, rfl, rfl, rfl, rfl, (by first | omega | assumption | exact q_rg_up (by assumption) (by omega) | exact q_rg_up (q_rg_up (by assumption) (by omega)) (by omega) | exact q_rg_cpy (by assumption) (by assumption))⟩, by omega⟩
        · intro h34
          intro z45 h45
          first | replace h45 := e_mul h45 (by omega) | replace h45 := e_rng h45
          intro z48 h48
          first | replace h48 := e_add h48 (by omega) | replace h48 := e_rng h48
          apply And.intro
          · exact ⟨by omega, by omega⟩
          intro z49 h49
          apply And.intro
          · intro h52
            intro z67 h67
            first | replace h67 := e_add h67 (by omega) | replace h67 := e_rng h67
            exact ⟨_, ⟨_, _, rfl, rfl, rfl, rfl, (by first | omega | assumption | exact q_rg_up (by assumption) (by omega) | exact q_rg_up (q_rg_up (by assumption) (by omega)) (by omega) | exact q_rg_cpy (by assumption) (by assumption))⟩, by omega⟩
          · intro h52
            refine Exists.intro [] (Exists.intro [q1 _] (Exists.intro [] (And.intro rfl (And.intro rfl (And.intro rfl (And.intro trivial ?_))))))
            refine Exists.intro _ (And.intro rfl (And.intro rfl (?_)))
            intro z57 h57
            apply And.intro
            · intro h62
              intro z67 h67
              first | replace h67 := e_add h67 (by omega) | replace h67 := e_rng h67
              exact ⟨_, ⟨_, _, rfl, rfl, rfl, rfl, (by first | omega | assumption | exact q_rg_up (by assumption) (by omega) | exact q_rg_up (q_rg_up (by assumption) (by omega)) (by omega) | exact q_rg_cpy (by assumption) (by assumption))⟩, by omega⟩
            · intro h62
              apply And.intro
              · first | exact Or.inl rfl | exact Or.inr rfl | omega
              exact hQ _ (by first | omega | assumption | exact q_rg_up (by assumption) (by omega) | exact q_rg_up (q_rg_up (by assumption) (by omega)) (by omega) | exact q_rg_cpy (by assumption) (by assumption))
    simp only [I_X5_goesOn, h23, if_false] at hI
  rintro lv st w' ⟨rfl, rfl, rfl⟩
  apply And.intro
  · intro h2
    apply And.intro
    · first | exact Or.inl rfl | exact Or.inr rfl | omega
    exact hQ _ (by first | omega | assumption | exact q_rg_up (by assumption) (by omega) | exact q_rg_up (q_rg_up (by assumption) (by omega)) (by omega) | exact q_rg_cpy (by assumption) (by assumption))
  · intro h2
    apply And.intro
    · intro h7
      intro z17 h17
      first | replace h17 := e_shl h17 (by omega) | replace h17 := e_rng h17
      exact ⟨_, _, _, rfl, rfl, rfl, rfl, (by first | omega | assumption | exact q_rg_up (by assumption) (by omega) | exact q_rg_up (q_rg_up (by assumption) (by omega)) (by omega) | exact q_rg_cpy (by assumption) (by assumption))⟩
    · intro h7
      apply And.intro
      · first | exact Or.inl rfl | exact Or.inr rfl | omega
      exact hQ _ (by first | omega | assumption | exact q_rg_up (by assumption) (by omega) | exact q_rg_up (q_rg_up (by assumption) (by omega)) (by omega) | exact q_rg_cpy (by assumption) (by assumption))

theorem dX5_firstFor_0 : decode cX5_firstFor 0 = .ok (.iconst 0, 1) := by decide +kernel
theorem dX5_firstFor_1 : decode cX5_firstFor 1 = .ok (.istore 6, 2) := by decide +kernel
theorem dX5_firstFor_3 : decode cX5_firstFor 3 = .ok (.iload 6, 2) := by decide +kernel
theorem dX5_firstFor_5 : decode cX5_firstFor 5 = .ok (.aload_n 1, 1) := by decide +kernel
theorem dX5_firstFor_6 : decode cX5_firstFor 6 = .ok (.getfield 15, 3) := by decide +kernel
theorem dX5_firstFor_9 : decode cX5_firstFor 9 = .ok (.if_icmp .ge 52, 3) := by decide +kernel
theorem dX5_firstFor_12 : decode cX5_firstFor 12 = .ok (.iload_n 3, 1) := by decide +kernel
theorem dX5_firstFor_13 : decode cX5_firstFor 13 = .ok (.iload 6, 2) := by decide +kernel
theorem dX5_firstFor_15 : decode cX5_firstFor 15 = .ok (.ishr, 1) := by decide +kernel
theorem dX5_firstFor_16 : decode cX5_firstFor 16 = .ok (.iconst 1, 1) := by decide +kernel
theorem dX5_firstFor_17 : decode cX5_firstFor 17 = .ok (.iand, 1) := by decide +kernel
theorem dX5_firstFor_18 : decode cX5_firstFor 18 = .ok (.ifCond .ne 37, 3) := by decide +kernel
theorem dX5_firstFor_21 : decode cX5_firstFor 21 = .ok (.aload_n 0, 1) := by decide +kernel
theorem dX5_firstFor_22 : decode cX5_firstFor 22 = .ok (.aload_n 1, 1) := by decide +kernel
theorem dX5_firstFor_23 : decode cX5_firstFor 23 = .ok (.iload_n 2, 1) := by decide +kernel
theorem dX5_firstFor_24 : decode cX5_firstFor 24 = .ok (.iconst 1, 1) := by decide +kernel
theorem dX5_firstFor_25 : decode cX5_firstFor 25 = .ok (.iadd, 1) := by decide +kernel
theorem dX5_firstFor_26 : decode cX5_firstFor 26 = .ok (.iload_n 3, 1) := by decide +kernel
theorem dX5_firstFor_27 : decode cX5_firstFor 27 = .ok (.iconst 1, 1) := by decide +kernel
theorem dX5_firstFor_28 : decode cX5_firstFor 28 = .ok (.iload 6, 2) := by decide +kernel
theorem dX5_firstFor_30 : decode cX5_firstFor 30 = .ok (.ishl, 1) := by decide +kernel
theorem dX5_firstFor_31 : decode cX5_firstFor 31 = .ok (.ior, 1) := by decide +kernel
theorem dX5_firstFor_32 : decode cX5_firstFor 32 = .ok (.iload 4, 2) := by decide +kernel
theorem dX5_firstFor_34 : decode cX5_firstFor 34 = .ok (.iconst 1, 1) := by decide +kernel
theorem dX5_firstFor_35 : decode cX5_firstFor 35 = .ok (.isub, 1) := by decide +kernel
theorem dX5_firstFor_36 : decode cX5_firstFor 36 = .ok (.iload 5, 2) := by decide +kernel
theorem dX5_firstFor_38 : decode cX5_firstFor 38 = .ok (.aload_n 1, 1) := by decide +kernel
theorem dX5_firstFor_39 : decode cX5_firstFor 39 = .ok (.iload_n 2, 1) := by decide +kernel
theorem dX5_firstFor_40 : decode cX5_firstFor 40 = .ok (.iload 6, 2) := by decide +kernel
theorem dX5_firstFor_42 : decode cX5_firstFor 42 = .ok (.invokestatic 51, 3) := by decide +kernel
theorem dX5_firstFor_45 : decode cX5_firstFor 45 = .ok (.isub, 1) := by decide +kernel
theorem dX5_firstFor_46 : decode cX5_firstFor 46 = .ok (.invokevirtual 74, 3) := by decide +kernel
theorem dX5_firstFor_49 : decode cX5_firstFor 49 = .ok (.ifCond .eq 6, 3) := by decide +kernel
theorem dX5_firstFor_52 : decode cX5_firstFor 52 = .ok (.iload 6, 2) := by decide +kernel
theorem dX5_firstFor_54 : decode cX5_firstFor 54 = .ok (.ireturn, 1) := by decide +kernel
theorem dX5_firstFor_55 : decode cX5_firstFor 55 = .ok (.iinc 6 1, 3) := by decide +kernel
theorem dX5_firstFor_58 : decode cX5_firstFor 58 = .ok (.goto (-55), 3) := by decide +kernel
theorem dX5_firstFor_61 : decode cX5_firstFor 61 = .ok (.bipush 8, 2) := by decide +kernel
theorem dX5_firstFor_63 : decode cX5_firstFor 63 = .ok (.ireturn, 1) := by decide +kernel
def is_X5_firstFor : Nat → List Nat := fun d => if d = 3 then [0, 1, 2, 3, 4, 5, 6] else []
set_option maxRecDepth 100000 in
def b_X5_firstFor_55 (J : Nat → List qV → List qV → qW → Prop) (Q : qR) : qK := x_iinc 6 1 (x_cut [0, 1, 2, 3, 4, 5, 6] (J 3))
set_option maxRecDepth 100000 in
theorem s_X5_firstFor_55 {p : Program} {l : Launch} {e : Env} {R : Room} {s : State} {m : MethodId} {args : Array Value} {below : List Frame} {meth : Method} {c : Code} {nW : Nat} {dC : Nat → ClassId} {dI : Nat → Nat → Nat} {k : Nat → ClassId} {g : Nat → Nat} {A : Nat → Prop} {J : Nat → List qV → List qV → qW → Prop} {Q : qR} (X : q_X p R s m args meth c cX5_firstFor 7 nW 2 47 RX5 (some .int) dC dI k g A) (hJ : ∀ d : Nat, q_Sd p l e R s m args below meth c 7 nW dC dI k g A (MQ below (q_post (dC, dI) k g nW Q A) args s 0 0 A) d (x_cut (is_X5_firstFor d) (J d))) : q_Sd p l e R s m args below meth c 7 nW dC dI k g A (MQ below (q_post (dC, dI) k g nW Q A) args s 0 0 A) 55 (b_X5_firstFor_55 J Q) := by
  unfold b_X5_firstFor_55
  refine s_iinc X (by decide) dX5_firstFor_55 ?_
  refine s_goto X (tgt := 3) dX5_firstFor_58 (by decide) ?_
  exact hJ 3
set_option maxRecDepth 100000 in
def b_X5_firstFor_38 (J : Nat → List qV → List qV → qW → Prop) (Q : qR) : qK := x_aload 1 (x_iload 2 (x_iload 6 (x_callr none 3 spr_X5_inchesFor (x_isub (x_callr (some 5) 6 spr_X5_goesOn (x_if_eq (b_X5_firstFor_55 J Q) (x_iload 6 (x_iret Q))))))))
set_option maxRecDepth 100000 in
theorem s_X5_firstFor_38 {p : Program} {l : Launch} {e : Env} {R : Room} {s : State} {m : MethodId} {args : Array Value} {below : List Frame} {meth : Method} {c : Code} {nW : Nat} {dC : Nat → ClassId} {dI : Nat → Nat → Nat} {k : Nat → ClassId} {g : Nat → Nat} {A : Nat → Prop} {J : Nat → List qV → List qV → qW → Prop} {Q : qR} (X : q_X p R s m args meth c cX5_firstFor 7 nW 2 47 RX5 (some .int) dC dI k g A) (hJ : ∀ d : Nat, q_Sd p l e R s m args below meth c 7 nW dC dI k g A (MQ below (q_post (dC, dI) k g nW Q A) args s 0 0 A) d (x_cut (is_X5_firstFor d) (J d))) : q_Sd p l e R s m args below meth c 7 nW dC dI k g A (MQ below (q_post (dC, dI) k g nW Q A) args s 0 0 A) 38 (b_X5_firstFor_38 J Q) := by
  unfold b_X5_firstFor_38
  refine s_aload_n X rfl dX5_firstFor_38 ?_
  refine s_iload_n X rfl dX5_firstFor_39 ?_
  refine s_iload X dX5_firstFor_40 ?_
  refine s_callSr X (m_X5_inchesFor l) tw_641 tw_642 tw_130 tw_643 (by decide +kernel) ⟨by decide, by decide⟩ dX5_firstFor_42 ?_
  refine s_isub X dX5_firstFor_45 ?_
  refine s_callVr X (m_X5_goesOn l) tw_658 tw_659 tw_1504 tw_130 tw_660 rfl (by decide +kernel) ⟨by decide, by decide⟩ dX5_firstFor_46 ?_
  refine s_if_eq X (tgt := 55) dX5_firstFor_49 (by decide) ?_ ?_
  · exact s_X5_firstFor_55 X hJ
  · refine s_iload X dX5_firstFor_52 ?_
    exact s_iret X dX5_firstFor_54
set_option maxRecDepth 100000 in
def b_X5_firstFor_3 (J : Nat → List qV → List qV → qW → Prop) (Q : qR) : qK := x_iload 6 (x_aload 1 (x_get 0 7 (x_icmp_ge (x_int 8 (x_iret Q)) (x_iload 3 (x_iload 6 (x_ishr (x_int 1 (x_iand (x_if_ne (b_X5_firstFor_55 J Q) (x_aload 0 (x_aload 1 (x_iload 2 (x_int 1 (x_iadd (x_iload 3 (x_int 1 (x_iload 6 (x_ishl (x_ior (x_iload 4 (x_int 1 (x_isub (x_iload 5 (b_X5_firstFor_38 J Q))))))))))))))))))))))))
set_option maxRecDepth 100000 in
theorem s_X5_firstFor_3 {p : Program} {l : Launch} {e : Env} {R : Room} {s : State} {m : MethodId} {args : Array Value} {below : List Frame} {meth : Method} {c : Code} {nW : Nat} {dC : Nat → ClassId} {dI : Nat → Nat → Nat} {k : Nat → ClassId} {g : Nat → Nat} {A : Nat → Prop} {J : Nat → List qV → List qV → qW → Prop} {Q : qR} (X : q_X p R s m args meth c cX5_firstFor 7 nW 2 47 RX5 (some .int) dC dI k g A) (hJ : ∀ d : Nat, q_Sd p l e R s m args below meth c 7 nW dC dI k g A (MQ below (q_post (dC, dI) k g nW Q A) args s 0 0 A) d (x_cut (is_X5_firstFor d) (J d))) : q_Sd p l e R s m args below meth c 7 nW dC dI k g A (MQ below (q_post (dC, dI) k g nW Q A) args s 0 0 A) 3 (b_X5_firstFor_3 J Q) := by
  unfold b_X5_firstFor_3
  refine s_iload X dX5_firstFor_3 ?_
  refine s_aload_n X rfl dX5_firstFor_5 ?_
  refine s_get X (T := TX0) (C := RX0) (N := 12) tu_X0 rfl (by decide) tw_190 dX5_firstFor_6 ?_
  refine s_icmp_ge X (tgt := 61) dX5_firstFor_9 (by decide) ?_ ?_
  · refine s_bipush X ⟨by decide, by decide⟩ (by decide) dX5_firstFor_61 ?_
    exact s_iret X dX5_firstFor_63
  · refine s_iload_n X rfl dX5_firstFor_12 ?_
    refine s_iload X dX5_firstFor_13 ?_
    refine s_ishr X dX5_firstFor_15 ?_
    refine s_iconst X ⟨by decide, by decide⟩ dX5_firstFor_16 ?_
    refine s_iand X dX5_firstFor_17 ?_
    refine s_if_ne X (tgt := 55) dX5_firstFor_18 (by decide) ?_ ?_
    · exact s_X5_firstFor_55 X hJ
    · refine s_aload_n X rfl dX5_firstFor_21 ?_
      refine s_aload_n X rfl dX5_firstFor_22 ?_
      refine s_iload_n X rfl dX5_firstFor_23 ?_
      refine s_iconst X ⟨by decide, by decide⟩ dX5_firstFor_24 ?_
      refine s_iadd X dX5_firstFor_25 ?_
      refine s_iload_n X rfl dX5_firstFor_26 ?_
      refine s_iconst X ⟨by decide, by decide⟩ dX5_firstFor_27 ?_
      refine s_iload X dX5_firstFor_28 ?_
      refine s_ishl X dX5_firstFor_30 ?_
      refine s_ior X dX5_firstFor_31 ?_
      refine s_iload X dX5_firstFor_32 ?_
      refine s_iconst X ⟨by decide, by decide⟩ dX5_firstFor_34 ?_
      refine s_isub X dX5_firstFor_35 ?_
      refine s_iload X dX5_firstFor_36 ?_
      exact s_X5_firstFor_38 X hJ
set_option maxRecDepth 100000 in
def b_X5_firstFor_0 (J : Nat → List qV → List qV → qW → Prop) (Q : qR) : qK := x_int 0 (x_istore 6 (x_cut [0, 1, 2, 3, 4, 5, 6] (J 3)))
set_option maxRecDepth 100000 in
theorem s_X5_firstFor_0 {p : Program} {l : Launch} {e : Env} {R : Room} {s : State} {m : MethodId} {args : Array Value} {below : List Frame} {meth : Method} {c : Code} {nW : Nat} {dC : Nat → ClassId} {dI : Nat → Nat → Nat} {k : Nat → ClassId} {g : Nat → Nat} {A : Nat → Prop} {J : Nat → List qV → List qV → qW → Prop} {Q : qR} (X : q_X p R s m args meth c cX5_firstFor 7 nW 2 47 RX5 (some .int) dC dI k g A) (hJ : ∀ d : Nat, q_Sd p l e R s m args below meth c 7 nW dC dI k g A (MQ below (q_post (dC, dI) k g nW Q A) args s 0 0 A) d (x_cut (is_X5_firstFor d) (J d))) : q_Sd p l e R s m args below meth c 7 nW dC dI k g A (MQ below (q_post (dC, dI) k g nW Q A) args s 0 0 A) 0 (b_X5_firstFor_0 J Q) := by
  unfold b_X5_firstFor_0
  refine s_iconst X ⟨by decide, by decide⟩ dX5_firstFor_0 ?_
  refine s_istore X (by decide) dX5_firstFor_1 ?_
  exact hJ 3

def spr_X5_firstFor : List qV → qW → (Option qV → Prop) → Prop := fun av w Q => ∃ (c1 : Nat → Int) (m0 : Int) (n0 : Int) (f1 : Nat → Int) (f2 : Nat → Int) (f3 : Nat → Int) (f4 : Nat → Int) (f5 : Nat → Int) (f6 : Nat → Int) (f7 : Nat → Int) (u0 : Int) (u1 : Int) (u2 : Int) (u3 : Int) (u4 : Int) (a : Int) (b : Int) (q : Int) (t : Int), av = [q2 0, q2 2, q1 a, q1 b, q1 q, q1 t] ∧ w = (wRo 0 c1 m0 n0 ++ wBo 2 f1 f2 f3 f4 f5 f6 f7 u0 u1 u2 u3 u4) ∧ (0 ≤ u0 ∧ u0 ≤ 8 ∧ 0 ≤ u3 ∧ u3 ≤ 6 ∧ 0 ≤ u4 ∧ u4 ≤ 6) ∧ (0 ≤ a ∧ a ≤ 5) ∧ (∀ (r : Int) , 0 ≤ r ∧ r ≤ 8 → Q (some (q1 r)))
def sp_X5_firstFor : qS := fun av w Q => spr_X5_firstFor av w (fun r => Q r w)
def I_X5_firstFor (c1 : Nat → Int) (m0 : Int) (n0 : Int) (f1 : Nat → Int) (f2 : Nat → Int) (f3 : Nat → Int) (f4 : Nat → Int) (f5 : Nat → Int) (f6 : Nat → Int) (f7 : Nat → Int) (u0 : Int) (u1 : Int) (u2 : Int) (u3 : Int) (u4 : Int) (a : Int) (b : Int) (q : Int) (t : Int) : Nat → Nat → List qV → List qV → qW → Prop := fun dz mz vz sz wz => if dz = 3 then (∃ (v6 : Int), vz = [q2 0, q2 2, q1 a, q1 b, q1 q, q1 t, q1 v6] ∧ sz = [] ∧ wz = (wRo 0 c1 m0 n0 ++ wBo 2 f1 f2 f3 f4 f5 f6 f7 u0 u1 u2 u3 u4) ∧ mz = (u0 - v6).toNat ∧ (0 ≤ v6 ∧ v6 ≤ u0)) else False
set_option maxHeartbeats 4000000 in
set_option maxRecDepth 100000 in
theorem m_X5_firstFor (l : Launch) : q_M l yX5_firstFor cX5_firstFor 7 (some .int) 2 47 sp_X5_firstFor := by
  refine q_meth (by decide) (fun av w Q h => by obtain ⟨c1, m0, n0, f1, f2, f3, f4, f5, f6, f7, u0, u1, u2, u3, u4, a, b, q, t, rfl, rfl, hu0, ha, hQ⟩ := h; exact Nat.le_of_ble_eq_true rfl) ?_
  intro p e R s m args below meth c dC dI k g A av w Q hsp oka okw X
  obtain ⟨c1, m0, n0, f1, f2, f3, f4, f5, f6, f7, u0, u1, u2, u3, u4, a, b, q, t, rfl, rfl, hu0, ha, hQ⟩ := hsp
  have o_a : -2147483648 ≤ a ∧ a ≤ 2147483647 := oka _ (List.mem_of_getElem? (i := 2) rfl)
  have o_b : -2147483648 ≤ b ∧ b ≤ 2147483647 := oka _ (List.mem_of_getElem? (i := 3) rfl)
  have o_q : -2147483648 ≤ q ∧ q ≤ 2147483647 := oka _ (List.mem_of_getElem? (i := 4) rfl)
  have o_t : -2147483648 ≤ t ∧ t ≤ 2147483647 := oka _ (List.mem_of_getElem? (i := 5) rfl)
  refine s_mono (s_X5_firstFor_0 X (J := fun dz vz sz wz => ∃ mz, I_X5_firstFor c1 m0 n0 f1 f2 f3 f4 f5 f6 f7 u0 u1 u2 u3 u4 a b q t dz mz vz sz wz) (q_loopn (I_X5_firstFor c1 m0 n0 f1 f2 f3 f4 f5 f6 f7 u0 u1 u2 u3 u4 a b q t) (fun dz J => if dz = 3 then b_X5_firstFor_3 J Q else q_F) ?hs ?hv)) ?_
  case hs =>
    intro d J hJ
    by_cases h3 : d = 3
    · subst h3; exact s_X5_firstFor_3 X hJ
    simp only [h3, if_false]
    exact s_F
  case hv =>
    intro dz mz vz sz wz hI okv oks okw hlen
    by_cases h3 : dz = 3
    · subst h3
      obtain ⟨v6, rfl, rfl, rfl, hn, hp⟩ := hI
      apply And.intro
      · intro h9
        exact hQ _ (by first | omega | assumption | exact q_rg_up (by assumption) (by omega) | exact q_rg_up (q_rg_up (by assumption) (by omega)) (by omega) | exact q_rg_cpy (by assumption) (by assumption))
      · intro h9
        intro z15 h15
        replace h15 := e_rng h15
        intro z17 h17
        first | replace h17 := e_and1 h17 | replace h17 := e_and255 h17 | replace h17 := e_and h17 (by omega) (by omega) | replace h17 := e_rng h17
        apply And.intro
        · intro h18
          intro z55 h55
          first | replace h55 := e_add h55 (by omega) | replace h55 := e_rng h55
          exact ⟨_, ⟨_, rfl, rfl, rfl, rfl, (by first | omega | assumption | exact q_rg_up (by assumption) (by omega) | exact q_rg_up (q_rg_up (by assumption) (by omega)) (by omega) | exact q_rg_cpy (by assumption) (by assumption))⟩, by omega⟩
        · intro h18
          intro z25 h25
          first | replace h25 := e_add h25 (by omega) | replace h25 := e_rng h25
          intro z30 h30
          first | replace h30 := e_shl h30 (by omega) | replace h30 := e_rng h30
          intro z31 h31
          first | replace h31 := e_or8 h31 (by omega) (by omega) | replace h31 := e_or9 h31 (by omega) (by omega) | replace h31 := e_rng h31
          intro z35 h35
          first | replace h35 := e_sub h35 (by omega) | replace h35 := e_rng h35
          refine Exists.intro [2, 3, 4, 5, 6, 7, 8, 9] (Exists.intro [q2 0, q1 _, q1 _] (Exists.intro (wB _ _ _ _ _ _ _ _ _ _ _ _) (And.intro rfl (And.intro rfl (And.intro rfl (And.intro trivial ?_))))))
          refine Exists.intro _ (Exists.intro _ (Exists.intro _ (Exists.intro _ (Exists.intro _ (Exists.intro _ (Exists.intro _ (Exists.intro _ (Exists.intro _ (Exists.intro _ (Exists.intro _ (Exists.intro _ (Exists.intro _ (Exists.intro _ (And.intro rfl (And.intro rfl (And.intro (by first | omega | assumption | exact q_rg_up (by assumption) (by omega) | exact q_rg_up (q_rg_up (by assumption) (by omega)) (by omega) | exact q_rg_cpy (by assumption) (by assumption)) (?_)))))))))))))))))
          intro z42
          intro z45 h45
          first | replace h45 := e_sub h45 (by omega) | replace h45 := e_rng h45
          refine Exists.intro [0, 1, 2, 3, 4, 5, 6, 7, 8, 9] (Exists.intro [q2 0, q2 2, q1 _, q1 _, q1 _, q1 _] (Exists.intro ((wRo 0 _ _ _ ++ wBo 2 _ _ _ _ _ _ _ _ _ _ _ _)) (And.intro rfl (And.intro rfl (And.intro rfl (And.intro ⟨⟨_, rfl⟩, rfl⟩ ?_))))))
          refine Exists.intro _ (Exists.intro _ (Exists.intro _ (Exists.intro _ (Exists.intro _ (Exists.intro _ (Exists.intro _ (Exists.intro _ (Exists.intro _ (Exists.intro _ (Exists.intro _ (Exists.intro _ (Exists.intro _ (Exists.intro _ (Exists.intro _ (Exists.intro _ (Exists.intro _ (Exists.intro _ (Exists.intro _ (And.intro rfl (And.intro rfl (And.intro (by first | omega | assumption | exact q_rg_up (by assumption) (by omega) | exact q_rg_up (q_rg_up (by assumption) (by omega)) (by omega) | exact q_rg_cpy (by assumption) (by assumption)) (And.intro (by first | omega | assumption | exact q_rg_up (by assumption) (by omega) | exact q_rg_up (q_rg_up (by assumption) (by omega)) (by omega) | exact q_rg_cpy (by assumption) (by assumption)) (?_)))))))))))))))))))))))
          intro z46 h46
          apply And.intro
          · intro h49
            intro z55 h55
            first | replace h55 := e_add h55 (by omega) | replace h55 := e_rng h55
            exact ⟨_, ⟨_, rfl, rfl, rfl, rfl, (by first | omega | assumption | exact q_rg_up (by assumption) (by omega) | exact q_rg_up (q_rg_up (by assumption) (by omega)) (by omega) | exact q_rg_cpy (by assumption) (by assumption))⟩, by omega⟩
          · intro h49
            exact hQ _ (by first | omega | assumption | exact q_rg_up (by assumption) (by omega) | exact q_rg_up (q_rg_up (by assumption) (by omega)) (by omega) | exact q_rg_cpy (by assumption) (by assumption))
    simp only [I_X5_firstFor, h3, if_false] at hI
  rintro lv st w' ⟨rfl, rfl, rfl⟩
  exact ⟨_, _, rfl, rfl, rfl, rfl, (by first | omega | assumption | exact q_rg_up (by assumption) (by omega) | exact q_rg_up (q_rg_up (by assumption) (by omega)) (by omega) | exact q_rg_cpy (by assumption) (by assumption))⟩

theorem dX5_doer_0 : decode cX5_doer 0 = .ok (.iconst 0, 1) := by decide +kernel
theorem dX5_doer_1 : decode cX5_doer 1 = .ok (.istore_n 3, 1) := by decide +kernel
theorem dX5_doer_2 : decode cX5_doer 2 = .ok (.aload_n 0, 1) := by decide +kernel
theorem dX5_doer_3 : decode cX5_doer 3 = .ok (.getfield 35, 3) := by decide +kernel
theorem dX5_doer_6 : decode cX5_doer 6 = .ok (.istore 4, 2) := by decide +kernel
theorem dX5_doer_8 : decode cX5_doer 8 = .ok (.aload_n 0, 1) := by decide +kernel
theorem dX5_doer_9 : decode cX5_doer 9 = .ok (.getfield 38, 3) := by decide +kernel
theorem dX5_doer_12 : decode cX5_doer 12 = .ok (.istore 5, 2) := by decide +kernel
theorem dX5_doer_14 : decode cX5_doer 14 = .ok (.bipush 8, 2) := by decide +kernel
theorem dX5_doer_16 : decode cX5_doer 16 = .ok (.istore 6, 2) := by decide +kernel
theorem dX5_doer_18 : decode cX5_doer 18 = .ok (.iconst 0, 1) := by decide +kernel
theorem dX5_doer_19 : decode cX5_doer 19 = .ok (.istore 7, 2) := by decide +kernel
theorem dX5_doer_21 : decode cX5_doer 21 = .ok (.iload 7, 2) := by decide +kernel
theorem dX5_doer_23 : decode cX5_doer 23 = .ok (.iload_n 2, 1) := by decide +kernel
theorem dX5_doer_24 : decode cX5_doer 24 = .ok (.if_icmp .gt 62, 3) := by decide +kernel
theorem dX5_doer_27 : decode cX5_doer 27 = .ok (.iload 7, 2) := by decide +kernel
theorem dX5_doer_29 : decode cX5_doer 29 = .ok (.aload_n 1, 1) := by decide +kernel
theorem dX5_doer_30 : decode cX5_doer 30 = .ok (.getfield 28, 3) := by decide +kernel
theorem dX5_doer_33 : decode cX5_doer 33 = .ok (.if_icmp .ge 53, 3) := by decide +kernel
theorem dX5_doer_36 : decode cX5_doer 36 = .ok (.aload_n 0, 1) := by decide +kernel
theorem dX5_doer_37 : decode cX5_doer 37 = .ok (.aload_n 1, 1) := by decide +kernel
theorem dX5_doer_38 : decode cX5_doer 38 = .ok (.iload 7, 2) := by decide +kernel
theorem dX5_doer_40 : decode cX5_doer 40 = .ok (.iload_n 3, 1) := by decide +kernel
theorem dX5_doer_41 : decode cX5_doer 41 = .ok (.iload 4, 2) := by decide +kernel
theorem dX5_doer_43 : decode cX5_doer 43 = .ok (.iload 5, 2) := by decide +kernel
theorem dX5_doer_45 : decode cX5_doer 45 = .ok (.invokevirtual 70, 3) := by decide +kernel
theorem dX5_doer_48 : decode cX5_doer 48 = .ok (.istore 6, 2) := by decide +kernel
theorem dX5_doer_50 : decode cX5_doer 50 = .ok (.iload 6, 2) := by decide +kernel
theorem dX5_doer_52 : decode cX5_doer 52 = .ok (.bipush 8, 2) := by decide +kernel
theorem dX5_doer_54 : decode cX5_doer 54 = .ok (.if_icmp .eq 26, 3) := by decide +kernel
theorem dX5_doer_57 : decode cX5_doer 57 = .ok (.iload_n 3, 1) := by decide +kernel
theorem dX5_doer_58 : decode cX5_doer 58 = .ok (.iconst 1, 1) := by decide +kernel
theorem dX5_doer_59 : decode cX5_doer 59 = .ok (.iload 6, 2) := by decide +kernel
theorem dX5_doer_61 : decode cX5_doer 61 = .ok (.ishl, 1) := by decide +kernel
theorem dX5_doer_62 : decode cX5_doer 62 = .ok (.ior, 1) := by decide +kernel
theorem dX5_doer_63 : decode cX5_doer 63 = .ok (.istore_n 3, 1) := by decide +kernel
theorem dX5_doer_64 : decode cX5_doer 64 = .ok (.iinc 4 (-1), 3) := by decide +kernel
theorem dX5_doer_67 : decode cX5_doer 67 = .ok (.iload 5, 2) := by decide +kernel
theorem dX5_doer_69 : decode cX5_doer 69 = .ok (.aload_n 1, 1) := by decide +kernel
theorem dX5_doer_70 : decode cX5_doer 70 = .ok (.iload 7, 2) := by decide +kernel
theorem dX5_doer_72 : decode cX5_doer 72 = .ok (.iload 6, 2) := by decide +kernel
theorem dX5_doer_74 : decode cX5_doer 74 = .ok (.invokestatic 51, 3) := by decide +kernel
theorem dX5_doer_77 : decode cX5_doer 77 = .ok (.isub, 1) := by decide +kernel
theorem dX5_doer_78 : decode cX5_doer 78 = .ok (.istore 5, 2) := by decide +kernel
theorem dX5_doer_80 : decode cX5_doer 80 = .ok (.iinc 7 1, 3) := by decide +kernel
theorem dX5_doer_83 : decode cX5_doer 83 = .ok (.goto (-62), 3) := by decide +kernel
theorem dX5_doer_86 : decode cX5_doer 86 = .ok (.iload 6, 2) := by decide +kernel
theorem dX5_doer_88 : decode cX5_doer 88 = .ok (.ireturn, 1) := by decide +kernel
def is_X5_doer : Nat → List Nat := fun d => if d = 21 then [0, 1, 2, 3, 4, 5, 6, 7] else []
set_option maxRecDepth 100000 in
def b_X5_doer_86 (J : Nat → List qV → List qV → qW → Prop) (Q : qR) : qK := x_iload 6 (x_iret Q)
set_option maxRecDepth 100000 in
theorem s_X5_doer_86 {p : Program} {l : Launch} {e : Env} {R : Room} {s : State} {m : MethodId} {args : Array Value} {below : List Frame} {meth : Method} {c : Code} {nW : Nat} {dC : Nat → ClassId} {dI : Nat → Nat → Nat} {k : Nat → ClassId} {g : Nat → Nat} {A : Nat → Prop} {J : Nat → List qV → List qV → qW → Prop} {Q : qR} (X : q_X p R s m args meth c cX5_doer 8 nW 3 73 RX5 (some .int) dC dI k g A) (hJ : ∀ d : Nat, q_Sd p l e R s m args below meth c 8 nW dC dI k g A (MQ below (q_post (dC, dI) k g nW Q A) args s 0 0 A) d (x_cut (is_X5_doer d) (J d))) : q_Sd p l e R s m args below meth c 8 nW dC dI k g A (MQ below (q_post (dC, dI) k g nW Q A) args s 0 0 A) 86 (b_X5_doer_86 J Q) := by
  unfold b_X5_doer_86
  refine s_iload X dX5_doer_86 ?_
  exact s_iret X dX5_doer_88
set_option maxRecDepth 100000 in
def b_X5_doer_80 (J : Nat → List qV → List qV → qW → Prop) (Q : qR) : qK := x_iinc 7 1 (x_cut [0, 1, 2, 3, 4, 5, 6, 7] (J 21))
set_option maxRecDepth 100000 in
theorem s_X5_doer_80 {p : Program} {l : Launch} {e : Env} {R : Room} {s : State} {m : MethodId} {args : Array Value} {below : List Frame} {meth : Method} {c : Code} {nW : Nat} {dC : Nat → ClassId} {dI : Nat → Nat → Nat} {k : Nat → ClassId} {g : Nat → Nat} {A : Nat → Prop} {J : Nat → List qV → List qV → qW → Prop} {Q : qR} (X : q_X p R s m args meth c cX5_doer 8 nW 3 73 RX5 (some .int) dC dI k g A) (hJ : ∀ d : Nat, q_Sd p l e R s m args below meth c 8 nW dC dI k g A (MQ below (q_post (dC, dI) k g nW Q A) args s 0 0 A) d (x_cut (is_X5_doer d) (J d))) : q_Sd p l e R s m args below meth c 8 nW dC dI k g A (MQ below (q_post (dC, dI) k g nW Q A) args s 0 0 A) 80 (b_X5_doer_80 J Q) := by
  unfold b_X5_doer_80
  refine s_iinc X (by decide) dX5_doer_80 ?_
  refine s_goto X (tgt := 21) dX5_doer_83 (by decide) ?_
  exact hJ 21
set_option maxRecDepth 100000 in
def b_X5_doer_64 (J : Nat → List qV → List qV → qW → Prop) (Q : qR) : qK := x_iinc 4 (-1) (x_iload 5 (x_aload 1 (x_iload 7 (x_iload 6 (x_callr none 3 spr_X5_inchesFor (x_isub (x_istore 5 (b_X5_doer_80 J Q))))))))
set_option maxRecDepth 100000 in
theorem s_X5_doer_64 {p : Program} {l : Launch} {e : Env} {R : Room} {s : State} {m : MethodId} {args : Array Value} {below : List Frame} {meth : Method} {c : Code} {nW : Nat} {dC : Nat → ClassId} {dI : Nat → Nat → Nat} {k : Nat → ClassId} {g : Nat → Nat} {A : Nat → Prop} {J : Nat → List qV → List qV → qW → Prop} {Q : qR} (X : q_X p R s m args meth c cX5_doer 8 nW 3 73 RX5 (some .int) dC dI k g A) (hJ : ∀ d : Nat, q_Sd p l e R s m args below meth c 8 nW dC dI k g A (MQ below (q_post (dC, dI) k g nW Q A) args s 0 0 A) d (x_cut (is_X5_doer d) (J d))) : q_Sd p l e R s m args below meth c 8 nW dC dI k g A (MQ below (q_post (dC, dI) k g nW Q A) args s 0 0 A) 64 (b_X5_doer_64 J Q) := by
  unfold b_X5_doer_64
  refine s_iinc X (by decide) dX5_doer_64 ?_
  refine s_iload X dX5_doer_67 ?_
  refine s_aload_n X rfl dX5_doer_69 ?_
  refine s_iload X dX5_doer_70 ?_
  refine s_iload X dX5_doer_72 ?_
  refine s_callSr X (m_X5_inchesFor l) tw_641 tw_642 tw_130 tw_643 (by decide +kernel) ⟨by decide, by decide⟩ dX5_doer_74 ?_
  refine s_isub X dX5_doer_77 ?_
  refine s_istore X (by decide) dX5_doer_78 ?_
  exact s_X5_doer_80 X hJ
set_option maxRecDepth 100000 in
def b_X5_doer_21 (J : Nat → List qV → List qV → qW → Prop) (Q : qR) : qK := x_iload 7 (x_iload 2 (x_icmp_gt (b_X5_doer_86 J Q) (x_iload 7 (x_aload 1 (x_get 0 11 (x_icmp_ge (b_X5_doer_86 J Q) (x_aload 0 (x_aload 1 (x_iload 7 (x_iload 3 (x_iload 4 (x_iload 5 (x_callr (some 5) 6 spr_X5_firstFor (x_istore 6 (x_iload 6 (x_int 8 (x_icmp_eq (b_X5_doer_80 J Q) (x_iload 3 (x_int 1 (x_iload 6 (x_ishl (x_ior (x_istore 3 (b_X5_doer_64 J Q))))))))))))))))))))))))
set_option maxRecDepth 100000 in
theorem s_X5_doer_21 {p : Program} {l : Launch} {e : Env} {R : Room} {s : State} {m : MethodId} {args : Array Value} {below : List Frame} {meth : Method} {c : Code} {nW : Nat} {dC : Nat → ClassId} {dI : Nat → Nat → Nat} {k : Nat → ClassId} {g : Nat → Nat} {A : Nat → Prop} {J : Nat → List qV → List qV → qW → Prop} {Q : qR} (X : q_X p R s m args meth c cX5_doer 8 nW 3 73 RX5 (some .int) dC dI k g A) (hJ : ∀ d : Nat, q_Sd p l e R s m args below meth c 8 nW dC dI k g A (MQ below (q_post (dC, dI) k g nW Q A) args s 0 0 A) d (x_cut (is_X5_doer d) (J d))) : q_Sd p l e R s m args below meth c 8 nW dC dI k g A (MQ below (q_post (dC, dI) k g nW Q A) args s 0 0 A) 21 (b_X5_doer_21 J Q) := by
  unfold b_X5_doer_21
  refine s_iload X dX5_doer_21 ?_
  refine s_iload_n X rfl dX5_doer_23 ?_
  refine s_icmp_gt X (tgt := 86) dX5_doer_24 (by decide) ?_ ?_
  · exact s_X5_doer_86 X hJ
  · refine s_iload X dX5_doer_27 ?_
    refine s_aload_n X rfl dX5_doer_29 ?_
    refine s_get X (T := TX0) (C := RX0) (N := 12) tu_X0 rfl (by decide) tw_206 dX5_doer_30 ?_
    refine s_icmp_ge X (tgt := 86) dX5_doer_33 (by decide) ?_ ?_
    · exact s_X5_doer_86 X hJ
    · refine s_aload_n X rfl dX5_doer_36 ?_
      refine s_aload_n X rfl dX5_doer_37 ?_
      refine s_iload X dX5_doer_38 ?_
      refine s_iload_n X rfl dX5_doer_40 ?_
      refine s_iload X dX5_doer_41 ?_
      refine s_iload X dX5_doer_43 ?_
      refine s_callVr X (m_X5_firstFor l) tw_655 tw_656 tw_1503 tw_130 tw_657 rfl (by decide +kernel) ⟨by decide, by decide⟩ dX5_doer_45 ?_
      refine s_istore X (by decide) dX5_doer_48 ?_
      refine s_iload X dX5_doer_50 ?_
      refine s_bipush X ⟨by decide, by decide⟩ (by decide) dX5_doer_52 ?_
      refine s_icmp_eq X (tgt := 80) dX5_doer_54 (by decide) ?_ ?_
      · exact s_X5_doer_80 X hJ
      · refine s_iload_n X rfl dX5_doer_57 ?_
        refine s_iconst X ⟨by decide, by decide⟩ dX5_doer_58 ?_
        refine s_iload X dX5_doer_59 ?_
        refine s_ishl X dX5_doer_61 ?_
        refine s_ior X dX5_doer_62 ?_
        refine s_istore_n X rfl (by decide) dX5_doer_63 ?_
        exact s_X5_doer_64 X hJ
set_option maxRecDepth 100000 in
def b_X5_doer_0 (J : Nat → List qV → List qV → qW → Prop) (Q : qR) : qK := x_int 0 (x_istore 3 (x_aload 0 (x_get 5 1 (x_istore 4 (x_aload 0 (x_get 5 2 (x_istore 5 (x_int 8 (x_istore 6 (x_int 0 (x_istore 7 (x_cut [0, 1, 2, 3, 4, 5, 6, 7] (J 21)))))))))))))
set_option maxRecDepth 100000 in
theorem s_X5_doer_0 {p : Program} {l : Launch} {e : Env} {R : Room} {s : State} {m : MethodId} {args : Array Value} {below : List Frame} {meth : Method} {c : Code} {nW : Nat} {dC : Nat → ClassId} {dI : Nat → Nat → Nat} {k : Nat → ClassId} {g : Nat → Nat} {A : Nat → Prop} {J : Nat → List qV → List qV → qW → Prop} {Q : qR} (X : q_X p R s m args meth c cX5_doer 8 nW 3 73 RX5 (some .int) dC dI k g A) (hJ : ∀ d : Nat, q_Sd p l e R s m args below meth c 8 nW dC dI k g A (MQ below (q_post (dC, dI) k g nW Q A) args s 0 0 A) d (x_cut (is_X5_doer d) (J d))) : q_Sd p l e R s m args below meth c 8 nW dC dI k g A (MQ below (q_post (dC, dI) k g nW Q A) args s 0 0 A) 0 (b_X5_doer_0 J Q) := by
  unfold b_X5_doer_0
  refine s_iconst X ⟨by decide, by decide⟩ dX5_doer_0 ?_
  refine s_istore_n X rfl (by decide) dX5_doer_1 ?_
  refine s_aload_n X rfl dX5_doer_2 ?_
  refine s_get X (T := TX5) (C := RX5) (N := 3) tu_X5 rfl (by decide) tw_300 dX5_doer_3 ?_
  refine s_istore X (by decide) dX5_doer_6 ?_
  refine s_aload_n X rfl dX5_doer_8 ?_
  refine s_get X (T := TX5) (C := RX5) (N := 3) tu_X5 rfl (by decide) tw_302 dX5_doer_9 ?_
  refine s_istore X (by decide) dX5_doer_12 ?_
  refine s_bipush X ⟨by decide, by decide⟩ (by decide) dX5_doer_14 ?_
  refine s_istore X (by decide) dX5_doer_16 ?_
  refine s_iconst X ⟨by decide, by decide⟩ dX5_doer_18 ?_
  refine s_istore X (by decide) dX5_doer_19 ?_
  exact hJ 21

def spr_X5_doer : List qV → qW → (Option qV → Prop) → Prop := fun av w Q => ∃ (c1 : Nat → Int) (m0 : Int) (n0 : Int) (f1 : Nat → Int) (f2 : Nat → Int) (f3 : Nat → Int) (f4 : Nat → Int) (f5 : Nat → Int) (f6 : Nat → Int) (f7 : Nat → Int) (u0 : Int) (u1 : Int) (u2 : Int) (u3 : Int) (u4 : Int) (a : Int), av = [q2 0, q2 2, q1 a] ∧ w = (wRo 0 c1 m0 n0 ++ wBo 2 f1 f2 f3 f4 f5 f6 f7 u0 u1 u2 u3 u4) ∧ (0 ≤ u0 ∧ u0 ≤ 8 ∧ 0 ≤ u3 ∧ u3 ≤ 6 ∧ 0 ≤ u4 ∧ u4 ≤ 6) ∧ (∀ (r : Int) , Q (some (q1 r)))
def sp_X5_doer : qS := fun av w Q => spr_X5_doer av w (fun r => Q r w)
def I_X5_doer (c1 : Nat → Int) (m0 : Int) (n0 : Int) (f1 : Nat → Int) (f2 : Nat → Int) (f3 : Nat → Int) (f4 : Nat → Int) (f5 : Nat → Int) (f6 : Nat → Int) (f7 : Nat → Int) (u0 : Int) (u1 : Int) (u2 : Int) (u3 : Int) (u4 : Int) (a : Int) : Nat → Nat → List qV → List qV → qW → Prop := fun dz mz vz sz wz => if dz = 21 then (∃ (v3 : Int) (v4 : Int) (v5 : Int) (v6 : Int) (v7 : Int), vz = [q2 0, q2 2, q1 a, q1 v3, q1 v4, q1 v5, q1 v6, q1 v7] ∧ sz = [] ∧ wz = (wRo 0 c1 m0 n0 ++ wBo 2 f1 f2 f3 f4 f5 f6 f7 u0 u1 u2 u3 u4) ∧ mz = (6 - v7).toNat ∧ (0 ≤ v7 ∧ v7 ≤ 6)) else False
set_option maxHeartbeats 4000000 in
set_option maxRecDepth 100000 in
theorem m_X5_doer (l : Launch) : q_M l yX5_doer cX5_doer 8 (some .int) 3 73 sp_X5_doer := by
  refine q_meth (by decide) (fun av w Q h => by obtain ⟨c1, m0, n0, f1, f2, f3, f4, f5, f6, f7, u0, u1, u2, u3, u4, a, rfl, rfl, hu0, hQ⟩ := h; exact Nat.le_of_ble_eq_true rfl) ?_
  intro p e R s m args below meth c dC dI k g A av w Q hsp oka okw X
  obtain ⟨c1, m0, n0, f1, f2, f3, f4, f5, f6, f7, u0, u1, u2, u3, u4, a, rfl, rfl, hu0, hQ⟩ := hsp
  have o_a : -2147483648 ≤ a ∧ a ≤ 2147483647 := oka _ (List.mem_of_getElem? (i := 2) rfl)
  refine s_mono (s_X5_doer_0 X (J := fun dz vz sz wz => ∃ mz, I_X5_doer c1 m0 n0 f1 f2 f3 f4 f5 f6 f7 u0 u1 u2 u3 u4 a dz mz vz sz wz) (q_loopn (I_X5_doer c1 m0 n0 f1 f2 f3 f4 f5 f6 f7 u0 u1 u2 u3 u4 a) (fun dz J => if dz = 21 then b_X5_doer_21 J Q else q_F) ?hs ?hv)) ?_
  case hs =>
    intro d J hJ
    by_cases h21 : d = 21
    · subst h21; exact s_X5_doer_21 X hJ
    simp only [h21, if_false]
    exact s_F
  case hv =>
    intro dz mz vz sz wz hI okv oks okw hlen
    by_cases h21 : dz = 21
    · subst h21
      obtain ⟨v3, v4, v5, v6, v7, rfl, rfl, rfl, hn, hp⟩ := hI
      apply And.intro
      · intro h24
        exact hQ _
      · intro h24
        apply And.intro
        · intro h33
          exact hQ _
        · intro h33
          refine Exists.intro [0, 1, 2, 3, 4, 5, 6, 7, 8, 9] (Exists.intro [q2 0, q2 2, q1 _, q1 _, q1 _, q1 _] (Exists.intro ((wRo 0 _ _ _ ++ wBo 2 _ _ _ _ _ _ _ _ _ _ _ _)) (And.intro rfl (And.intro rfl (And.intro rfl (And.intro ⟨⟨_, rfl⟩, rfl⟩ ?_))))))
          refine Exists.intro _ (Exists.intro _ (Exists.intro _ (Exists.intro _ (Exists.intro _ (Exists.intro _ (Exists.intro _ (Exists.intro _ (Exists.intro _ (Exists.intro _ (Exists.intro _ (Exists.intro _ (Exists.intro _ (Exists.intro _ (Exists.intro _ (Exists.intro _ (Exists.intro _ (Exists.intro _ (Exists.intro _ (And.intro rfl (And.intro rfl (And.intro (by first | omega | assumption | exact q_rg_up (by assumption) (by omega) | exact q_rg_up (q_rg_up (by assumption) (by omega)) (by omega) | exact q_rg_cpy (by assumption) (by assumption)) (And.intro (by first | omega | assumption | exact q_rg_up (by assumption) (by omega) | exact q_rg_up (q_rg_up (by assumption) (by omega)) (by omega) | exact q_rg_cpy (by assumption) (by assumption)) (?_)))))))))))))))))))))))
          intro z45 h45
          apply And.intro
          · intro h54
            intro z80 h80
            first | replace h80 := e_add h80 (by omega) | replace h80 := e_rng h80
            exact ⟨_, ⟨_, _, _, _, _, rfl, rfl, rfl, rfl, (by first | omega | assumption | exact q_rg_up (by assumption) (by omega) | exact q_rg_up (q_rg_up (by assumption) (by omega)) (by omega) | exact q_rg_cpy (by assumption) (by assumption))⟩, by omega⟩
          · intro h54
            intro z61 h61
            first | replace h61 := e_shl h61 (by omega) | replace h61 := e_rng h61
            intro z62 h62
            first | replace h62 := e_or8 h62 (by omega) (by omega) | replace h62 := e_or9 h62 (by omega) (by omega) | replace h62 := e_rng h62
            intro z64 h64
            first | replace h64 := e_add h64 (by omega) | replace h64 := e_rng h64
            refine Exists.intro [2, 3, 4, 5, 6, 7, 8, 9] (Exists.intro [q2 0, q1 _, q1 _] (Exists.intro (wB _ _ _ _ _ _ _ _ _ _ _ _) (And.intro rfl (And.intro rfl (And.intro rfl (And.intro trivial ?_))))))
            refine Exists.intro _ (Exists.intro _ (Exists.intro _ (Exists.intro _ (Exists.intro _ (Exists.intro _ (Exists.intro _ (Exists.intro _ (Exists.intro _ (Exists.intro _ (Exists.intro _ (Exists.intro _ (Exists.intro _ (Exists.intro _ (And.intro rfl (And.intro rfl (And.intro (by first | omega | assumption | exact q_rg_up (by assumption) (by omega) | exact q_rg_up (q_rg_up (by assumption) (by omega)) (by omega) | exact q_rg_cpy (by assumption) (by assumption)) (?_)))))))))))))))))
            intro z74
            intro z77 h77
            first | replace h77 := e_sub h77 (by omega) | replace h77 := e_rng h77
            intro z80 h80
            first | replace h80 := e_add h80 (by omega) | replace h80 := e_rng h80
            exact ⟨_, ⟨_, _, _, _, _, rfl, rfl, rfl, rfl, (by first | omega | assumption | exact q_rg_up (by assumption) (by omega) | exact q_rg_up (q_rg_up (by assumption) (by omega)) (by omega) | exact q_rg_cpy (by assumption) (by assumption))⟩, by omega⟩
    simp only [I_X5_doer, h21, if_false] at hI
  rintro lv st w' ⟨rfl, rfl, rfl⟩
  exact ⟨_, _, _, _, _, _, rfl, rfl, rfl, rfl, (by first | omega | assumption | exact q_rg_up (by assumption) (by omega) | exact q_rg_up (q_rg_up (by assumption) (by omega)) (by omega) | exact q_rg_cpy (by assumption) (by assumption))⟩
