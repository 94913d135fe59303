def wKo (b : Nat) (h1 h2 h3 : Nat → Int) (p0 s0 : Int) : qW := [.inr (9, [q2 (b + 1), q2 (b + 2), q2 (b + 3), q1 p0, q1 s0]), .inl (0, 8, .inl h1), .inl (0, 512, .inl h2), .inl (0, 512, .inl h3)]

theorem dX9_begin_0 : decode cX9_begin 0 = .ok (.aload_n 1, 1) := by decide +kernel
theorem dX9_begin_1 : decode cX9_begin 1 = .ok (.getfield 21, 3) := by decide +kernel
theorem dX9_begin_4 : decode cX9_begin 4 = .ok (.iconst 0, 1) := by decide +kernel
theorem dX9_begin_5 : decode cX9_begin 5 = .ok (.aload_n 0, 1) := by decide +kernel
theorem dX9_begin_6 : decode cX9_begin 6 = .ok (.getfield 9, 3) := by decide +kernel
theorem dX9_begin_9 : decode cX9_begin 9 = .ok (.iconst 0, 1) := by decide +kernel
theorem dX9_begin_10 : decode cX9_begin 10 = .ok (.bipush 8, 2) := by decide +kernel
theorem dX9_begin_12 : decode cX9_begin 12 = .ok (.invokestatic 24, 3) := by decide +kernel
theorem dX9_begin_15 : decode cX9_begin 15 = .ok (.aload_n 0, 1) := by decide +kernel
theorem dX9_begin_16 : decode cX9_begin 16 = .ok (.iconst 0, 1) := by decide +kernel
theorem dX9_begin_17 : decode cX9_begin 17 = .ok (.putfield 30, 3) := by decide +kernel
theorem dX9_begin_20 : decode cX9_begin 20 = .ok (.return_, 1) := by decide +kernel
def is_X9_begin : Nat → List Nat := fun d => []
set_option maxRecDepth 100000 in
def b_X9_begin_0 (J : Nat → List qV → List qV → qW → Prop) (Q : qR) : qK := x_aload 1 (x_get 0 0 (x_int 0 (x_aload 0 (x_get 9 0 (x_int 0 (x_int 8 (x_copy (x_nw (x_aload 0 (x_int 0 (x_put 9 3 q_oki (x_nw (x_vret Q)))))))))))))
set_option maxRecDepth 100000 in
theorem s_X9_begin_0 {p : Program} {l : Launch} {e : Env} {R : Room} {s : State} {m : MethodId} {args : Array Value} {below : List Frame} {meth : Method} {c : Code} {nW : Nat} {dC : Nat → ClassId} {dI : Nat → Nat → Nat} {k : Nat → ClassId} {g : Nat → Nat} {A : Nat → Prop} {J : Nat → List qV → List qV → qW → Prop} {Q : qR} (X : q_X p R s m args meth c cX9_begin 2 nW 1 68 RX9 none dC dI k g A) (hJ : ∀ d : Nat, q_Sd p l e R s m args below meth c 2 nW dC dI k g A (MQ below (q_post (dC, dI) k g nW Q A) args s 0 0 A) d (x_cut (is_X9_begin d) (J d))) : q_Sd p l e R s m args below meth c 2 nW dC dI k g A (MQ below (q_post (dC, dI) k g nW Q A) args s 0 0 A) 0 (b_X9_begin_0 J Q) := by
  unfold b_X9_begin_0
  refine s_aload_n X rfl dX9_begin_0 ?_
  refine s_get X (T := TX0) (C := RX0) (N := 12) tu_X0 rfl (by decide) tw_165 dX9_begin_1 ?_
  refine s_iconst X ⟨by decide, by decide⟩ dX9_begin_4 ?_
  refine s_aload_n X rfl dX9_begin_5 ?_
  refine s_get X (T := TX9) (C := RX9) (N := 5) tu_X9 rfl (by decide) tw_291 dX9_begin_6 ?_
  refine s_iconst X ⟨by decide, by decide⟩ dX9_begin_9 ?_
  refine s_bipush X ⟨by decide, by decide⟩ (by decide) dX9_begin_10 ?_
  refine s_copy X tw_578 tw_163 tw_162 tw_124 ⟨by decide, by decide⟩ dX9_begin_12 ?_
  refine s_nw ?_
  refine s_aload_n X rfl dX9_begin_15 ?_
  refine s_iconst X ⟨by decide, by decide⟩ dX9_begin_16 ?_
  refine s_put X (T := TX9) (C := RX9) (N := 5) tu_X9 tyX9_ok nmX9 rfl (by decide) tw_294 rfl (by decide +kernel) q_oki_t dX9_begin_17 ?_
  refine s_nw ?_
  exact s_vret X dX9_begin_20

def sp_X9_begin : qS := fun av w Q => ∃ (h1 : Nat → Int) (h2 : Nat → Int) (h3 : Nat → Int) (p0 : Int) (s0 : Int) (f1 : Nat → Int) (f2 : Nat → Int) (f3 : Nat → Int) (f4 : Nat → Int) (f5 : Nat → Int) (f6 : Nat → Int) (f7 : Nat → Int) (u0 : Int) (u1 : Int) (u2 : Int) (u3 : Int) (u4 : Int), av = [q2 0, q2 4] ∧ w = (wKo 0 h1 h2 h3 p0 s0 ++ wBo 4 f1 f2 f3 f4 f5 f6 f7 u0 u1 u2 u3 u4) ∧ (∀ (x1 : Nat → Int) (x2 : Nat → Int) (x3 : Nat → Int) (x4 : Int) (x5 : Int), Q none ((wKo 0 x1 x2 x3 x4 x5 ++ wBo 4 f1 f2 f3 f4 f5 f6 f7 u0 u1 u2 u3 u4)))
set_option maxHeartbeats 4000000 in
set_option maxRecDepth 100000 in
theorem m_X9_begin (l : Launch) : q_M l yX9_begin cX9_begin 2 none 1 68 sp_X9_begin := by
  refine q_meth (by decide) (fun av w Q h => by obtain ⟨h1, h2, h3, p0, s0, f1, f2, f3, f4, f5, f6, f7, u0, u1, u2, u3, u4, rfl, rfl, hQ⟩ := h; exact Nat.le_of_ble_eq_true rfl) ?_
  intro p e R s m args below meth c dC dI k g A av w Q hsp oka okw X
  obtain ⟨h1, h2, h3, p0, s0, f1, f2, f3, f4, f5, f6, f7, u0, u1, u2, u3, u4, rfl, rfl, hQ⟩ := hsp
  refine s_mono (s_X9_begin_0 X (J := fun _ _ _ _ => False) (fun d => s_cutF)) ?_
  rintro lv st w' ⟨rfl, rfl, rfl⟩
  apply And.intro
  · exact ⟨by omega, by omega, by omega, by first | omega | decide, by omega⟩
  apply And.intro
  · exact trivial
  exact hQ _ _ _ _ _

theorem dX9_below_0 : decode cX9_below 0 = .ok (.aload_n 0, 1) := by decide +kernel
theorem dX9_below_1 : decode cX9_below 1 = .ok (.aload_n 0, 1) := by decide +kernel
theorem dX9_below_2 : decode cX9_below 2 = .ok (.getfield 59, 3) := by decide +kernel
theorem dX9_below_5 : decode cX9_below 5 = .ok (.ldc 69, 2) := by decide +kernel
theorem dX9_below_7 : decode cX9_below 7 = .ok (.imul, 1) := by decide +kernel
theorem dX9_below_8 : decode cX9_below 8 = .ok (.sipush 12345, 3) := by decide +kernel
theorem dX9_below_11 : decode cX9_below 11 = .ok (.iadd, 1) := by decide +kernel
theorem dX9_below_12 : decode cX9_below 12 = .ok (.putfield 59, 3) := by decide +kernel
theorem dX9_below_15 : decode cX9_below 15 = .ok (.iload_n 1, 1) := by decide +kernel
theorem dX9_below_16 : decode cX9_below 16 = .ok (.iconst 1, 1) := by decide +kernel
theorem dX9_below_17 : decode cX9_below 17 = .ok (.if_icmp .ge 7, 3) := by decide +kernel
theorem dX9_below_20 : decode cX9_below 20 = .ok (.iconst 0, 1) := by decide +kernel
theorem dX9_below_21 : decode cX9_below 21 = .ok (.goto 12, 3) := by decide +kernel
theorem dX9_below_24 : decode cX9_below 24 = .ok (.aload_n 0, 1) := by decide +kernel
theorem dX9_below_25 : decode cX9_below 25 = .ok (.getfield 59, 3) := by decide +kernel
theorem dX9_below_28 : decode cX9_below 28 = .ok (.bipush 16, 2) := by decide +kernel
theorem dX9_below_30 : decode cX9_below 30 = .ok (.iushr, 1) := by decide +kernel
theorem dX9_below_31 : decode cX9_below 31 = .ok (.iload_n 1, 1) := by decide +kernel
theorem dX9_below_32 : decode cX9_below 32 = .ok (.irem, 1) := by decide +kernel
theorem dX9_below_33 : decode cX9_below 33 = .ok (.ireturn, 1) := by decide +kernel
def is_X9_below : Nat → List Nat := fun d => []
set_option maxRecDepth 100000 in
def b_X9_below_33 (J : Nat → List qV → List qV → qW → Prop) (Q : qR) : qK := x_iret Q
set_option maxRecDepth 100000 in
theorem s_X9_below_33 {p : Program} {l : Launch} {e : Env} {R : Room} {s : State} {m : MethodId} {args : Array Value} {below : List Frame} {meth : Method} {c : Code} {nW : Nat} {dC : Nat → ClassId} {dI : Nat → Nat → Nat} {k : Nat → ClassId} {g : Nat → Nat} {A : Nat → Prop} {J : Nat → List qV → List qV → qW → Prop} {Q : qR} (X : q_X p R s m args meth c cX9_below 2 nW 0 0 RX9 (some .int) dC dI k g A) (hJ : ∀ d : Nat, q_Sd p l e R s m args below meth c 2 nW dC dI k g A (MQ below (q_post (dC, dI) k g nW Q A) args s 0 0 A) d (x_cut (is_X9_below d) (J d))) : q_Sd p l e R s m args below meth c 2 nW dC dI k g A (MQ below (q_post (dC, dI) k g nW Q A) args s 0 0 A) 33 (b_X9_below_33 J Q) := by
  unfold b_X9_below_33
  exact s_iret X dX9_below_33
set_option maxRecDepth 100000 in
def b_X9_below_0 (J : Nat → List qV → List qV → qW → Prop) (Q : qR) : qK := x_aload 0 (x_aload 0 (x_get 9 4 (x_int 1103515245 (x_imul (x_int 12345 (x_iadd (x_put 9 4 q_oki (x_nw (x_iload 1 (x_int 1 (x_icmp_ge (x_aload 0 (x_get 9 4 (x_int 16 (x_iushr (x_iload 1 (x_irem (b_X9_below_33 J Q))))))) (x_int 0 (b_X9_below_33 J Q)))))))))))))
set_option maxRecDepth 100000 in
theorem s_X9_below_0 {p : Program} {l : Launch} {e : Env} {R : Room} {s : State} {m : MethodId} {args : Array Value} {below : List Frame} {meth : Method} {c : Code} {nW : Nat} {dC : Nat → ClassId} {dI : Nat → Nat → Nat} {k : Nat → ClassId} {g : Nat → Nat} {A : Nat → Prop} {J : Nat → List qV → List qV → qW → Prop} {Q : qR} (X : q_X p R s m args meth c cX9_below 2 nW 0 0 RX9 (some .int) dC dI k g A) (hJ : ∀ d : Nat, q_Sd p l e R s m args below meth c 2 nW dC dI k g A (MQ below (q_post (dC, dI) k g nW Q A) args s 0 0 A) d (x_cut (is_X9_below d) (J d))) : q_Sd p l e R s m args below meth c 2 nW dC dI k g A (MQ below (q_post (dC, dI) k g nW Q A) args s 0 0 A) 0 (b_X9_below_0 J Q) := by
  unfold b_X9_below_0
  refine s_aload_n X rfl dX9_below_0 ?_
  refine s_aload_n X rfl dX9_below_1 ?_
  refine s_get X (T := TX9) (C := RX9) (N := 5) tu_X9 rfl (by decide) tw_295 dX9_below_2 ?_
  refine s_ldc X ⟨by decide, by decide⟩ tw_885 dX9_below_5 ?_
  refine s_imul X dX9_below_7 ?_
  refine s_sipush X ⟨by decide, by decide⟩ (by decide) dX9_below_8 ?_
  refine s_iadd X dX9_below_11 ?_
  refine s_put X (T := TX9) (C := RX9) (N := 5) tu_X9 tyX9_ok nmX9 rfl (by decide) tw_295 rfl (by decide +kernel) q_oki_t dX9_below_12 ?_
  refine s_nw ?_
  refine s_iload_n X rfl dX9_below_15 ?_
  refine s_iconst X ⟨by decide, by decide⟩ dX9_below_16 ?_
  refine s_icmp_ge X (tgt := 24) dX9_below_17 (by decide) ?_ ?_
  · refine s_aload_n X rfl dX9_below_24 ?_
    refine s_get X (T := TX9) (C := RX9) (N := 5) tu_X9 rfl (by decide) tw_295 dX9_below_25 ?_
    refine s_bipush X ⟨by decide, by decide⟩ (by decide) dX9_below_28 ?_
    refine s_iushr X dX9_below_30 ?_
    refine s_iload_n X rfl dX9_below_31 ?_
    refine s_irem X dX9_below_32 ?_
    exact s_X9_below_33 X hJ
  · refine s_iconst X ⟨by decide, by decide⟩ dX9_below_20 ?_
    refine s_goto X (tgt := 33) dX9_below_21 (by decide) ?_
    exact s_X9_below_33 X hJ

def sp_X9_below : qS := fun av w Q => ∃ (h1 : Nat → Int) (h2 : Nat → Int) (h3 : Nat → Int) (p0 : Int) (s0 : Int) (a : Int), av = [q2 0, q1 a] ∧ w = (wKo 0 h1 h2 h3 p0 s0) ∧ (∀ (r : Int) (x1 : Nat → Int) (x2 : Nat → Int) (x3 : Nat → Int) (x4 : Int) (x5 : Int), (1 ≤ a → 0 ≤ r ∧ r < a) ∧ (a < 1 → r = 0) → Q (some (q1 r)) ((wKo 0 x1 x2 x3 x4 x5)))
set_option maxHeartbeats 4000000 in
set_option maxRecDepth 100000 in
theorem m_X9_below (l : Launch) : q_M l yX9_below cX9_below 2 (some .int) 0 0 sp_X9_below := by
  refine q_meth (by decide) (fun av w Q h => by obtain ⟨h1, h2, h3, p0, s0, a, rfl, rfl, hQ⟩ := h; exact Nat.le_of_ble_eq_true rfl) ?_
  intro p e R s m args below meth c dC dI k g A av w Q hsp oka okw X
  obtain ⟨h1, h2, h3, p0, s0, a, rfl, rfl, hQ⟩ := hsp
  have o_a : -2147483648 ≤ a ∧ a ≤ 2147483647 := oka _ (List.mem_of_getElem? (i := 1) rfl)
  refine s_mono (s_X9_below_0 X (J := fun _ _ _ _ => False) (fun d => s_cutF)) ?_
  rintro lv st w' ⟨rfl, rfl, rfl⟩
  intro z7 h7
  first | replace h7 := e_mul h7 (by omega) | replace h7 := e_rng h7
  intro z11 h11
  first | replace h11 := e_add h11 (by omega) | replace h11 := e_rng h11
  apply And.intro
  · exact trivial
  apply And.intro
  · intro h17
    intro z30 h30
    first | replace h30 := e_us16 h30 | replace h30 := e_rng h30
    apply And.intro
    · first | omega | (intro e9; omega)
    intro z32 h32
    first | replace h32 := e_rem h32 (by omega) (by omega) | replace h32 := e_rng h32
    exact hQ _ _ _ _ _ _ (by first | omega | assumption | exact q_rg_up (by assumption) (by omega) | exact q_rg_up (q_rg_up (by assumption) (by omega)) (by omega) | exact q_rg_cpy (by assumption) (by assumption))
  · intro h17
    exact hQ _ _ _ _ _ _ (by first | omega | assumption | exact q_rg_up (by assumption) (by omega) | exact q_rg_up (q_rg_up (by assumption) (by omega)) (by omega) | exact q_rg_cpy (by assumption) (by assumption))

theorem dX9_fined_0 : decode cX9_fined 0 = .ok (.iload_n 3, 1) := by decide +kernel
theorem dX9_fined_1 : decode cX9_fined 1 = .ok (.ifCond .lt 25, 3) := by decide +kernel
theorem dX9_fined_4 : decode cX9_fined 4 = .ok (.iload_n 3, 1) := by decide +kernel
theorem dX9_fined_5 : decode cX9_fined 5 = .ok (.iconst 4, 1) := by decide +kernel
theorem dX9_fined_6 : decode cX9_fined 6 = .ok (.if_icmp .ge 20, 3) := by decide +kernel
theorem dX9_fined_9 : decode cX9_fined 9 = .ok (.aload_n 0, 1) := by decide +kernel
theorem dX9_fined_10 : decode cX9_fined 10 = .ok (.getfield 9, 3) := by decide +kernel
theorem dX9_fined_13 : decode cX9_fined 13 = .ok (.iload_n 2, 1) := by decide +kernel
theorem dX9_fined_14 : decode cX9_fined 14 = .ok (.iaload, 1) := by decide +kernel
theorem dX9_fined_15 : decode cX9_fined 15 = .ok (.aload_n 1, 1) := by decide +kernel
theorem dX9_fined_16 : decode cX9_fined 16 = .ok (.getfield 97, 3) := by decide +kernel
theorem dX9_fined_19 : decode cX9_fined 19 = .ok (.iload_n 3, 1) := by decide +kernel
theorem dX9_fined_20 : decode cX9_fined 20 = .ok (.iaload, 1) := by decide +kernel
theorem dX9_fined_21 : decode cX9_fined 21 = .ok (.isub, 1) := by decide +kernel
theorem dX9_fined_22 : decode cX9_fined 22 = .ok (.iconst 1, 1) := by decide +kernel
theorem dX9_fined_23 : decode cX9_fined 23 = .ok (.if_icmp .ge 5, 3) := by decide +kernel
theorem dX9_fined_26 : decode cX9_fined 26 = .ok (.iconst 0, 1) := by decide +kernel
theorem dX9_fined_27 : decode cX9_fined 27 = .ok (.ireturn, 1) := by decide +kernel
theorem dX9_fined_28 : decode cX9_fined 28 = .ok (.aload_n 0, 1) := by decide +kernel
theorem dX9_fined_29 : decode cX9_fined 29 = .ok (.getfield 9, 3) := by decide +kernel
theorem dX9_fined_32 : decode cX9_fined 32 = .ok (.iload_n 2, 1) := by decide +kernel
theorem dX9_fined_33 : decode cX9_fined 33 = .ok (.dup2, 1) := by decide +kernel
theorem dX9_fined_34 : decode cX9_fined 34 = .ok (.iaload, 1) := by decide +kernel
theorem dX9_fined_35 : decode cX9_fined 35 = .ok (.aload_n 1, 1) := by decide +kernel
theorem dX9_fined_36 : decode cX9_fined 36 = .ok (.getfield 97, 3) := by decide +kernel
theorem dX9_fined_39 : decode cX9_fined 39 = .ok (.iload_n 3, 1) := by decide +kernel
theorem dX9_fined_40 : decode cX9_fined 40 = .ok (.iaload, 1) := by decide +kernel
theorem dX9_fined_41 : decode cX9_fined 41 = .ok (.isub, 1) := by decide +kernel
theorem dX9_fined_42 : decode cX9_fined 42 = .ok (.iastore, 1) := by decide +kernel
theorem dX9_fined_43 : decode cX9_fined 43 = .ok (.aload_n 0, 1) := by decide +kernel
theorem dX9_fined_44 : decode cX9_fined 44 = .ok (.dup, 1) := by decide +kernel
theorem dX9_fined_45 : decode cX9_fined 45 = .ok (.getfield 30, 3) := by decide +kernel
theorem dX9_fined_48 : decode cX9_fined 48 = .ok (.aload_n 1, 1) := by decide +kernel
theorem dX9_fined_49 : decode cX9_fined 49 = .ok (.getfield 97, 3) := by decide +kernel
theorem dX9_fined_52 : decode cX9_fined 52 = .ok (.iload_n 3, 1) := by decide +kernel
theorem dX9_fined_53 : decode cX9_fined 53 = .ok (.iaload, 1) := by decide +kernel
theorem dX9_fined_54 : decode cX9_fined 54 = .ok (.iadd, 1) := by decide +kernel
theorem dX9_fined_55 : decode cX9_fined 55 = .ok (.putfield 30, 3) := by decide +kernel
theorem dX9_fined_58 : decode cX9_fined 58 = .ok (.iconst 1, 1) := by decide +kernel
theorem dX9_fined_59 : decode cX9_fined 59 = .ok (.ireturn, 1) := by decide +kernel
def is_X9_fined : Nat → List Nat := fun d => []
set_option maxRecDepth 100000 in
def b_X9_fined_26 (J : Nat → List qV → List qV → qW → Prop) (Q : qR) : qK := x_int 0 (x_zret Q)
set_option maxRecDepth 100000 in
theorem s_X9_fined_26 {p : Program} {l : Launch} {e : Env} {R : Room} {s : State} {m : MethodId} {args : Array Value} {below : List Frame} {meth : Method} {c : Code} {nW : Nat} {dC : Nat → ClassId} {dI : Nat → Nat → Nat} {k : Nat → ClassId} {g : Nat → Nat} {A : Nat → Prop} {J : Nat → List qV → List qV → qW → Prop} {Q : qR} (X : q_X p R s m args meth c cX9_fined 4 nW 0 0 RX9 (some .boolean) dC dI k g A) (hJ : ∀ d : Nat, q_Sd p l e R s m args below meth c 4 nW dC dI k g A (MQ below (q_post (dC, dI) k g nW Q A) args s 0 0 A) d (x_cut (is_X9_fined d) (J d))) : q_Sd p l e R s m args below meth c 4 nW dC dI k g A (MQ below (q_post (dC, dI) k g nW Q A) args s 0 0 A) 26 (b_X9_fined_26 J Q) := by
  unfold b_X9_fined_26
  refine s_iconst X ⟨by decide, by decide⟩ dX9_fined_26 ?_
  exact s_zret X dX9_fined_27
set_option maxRecDepth 100000 in
def b_X9_fined_0 (J : Nat → List qV → List qV → qW → Prop) (Q : qR) : qK := x_iload 3 (x_if_lt (b_X9_fined_26 J Q) (x_iload 3 (x_int 4 (x_icmp_ge (b_X9_fined_26 J Q) (x_aload 0 (x_get 9 0 (x_iload 2 (x_iald (x_aload 1 (x_get 0 2 (x_iload 3 (x_iald (x_isub (x_int 1 (x_icmp_ge (x_aload 0 (x_get 9 0 (x_iload 2 (x_dup2 (x_iald (x_aload 1 (x_get 0 2 (x_iload 3 (x_iald (x_isub (x_iast (x_nw (x_aload 0 (x_dup (x_get 9 3 (x_aload 1 (x_get 0 2 (x_iload 3 (x_iald (x_iadd (x_put 9 3 q_oki (x_nw (x_int 1 (x_zret Q)))))))))))))))))))))))) (b_X9_fined_26 J Q))))))))))))))))
set_option maxRecDepth 100000 in
theorem s_X9_fined_0 {p : Program} {l : Launch} {e : Env} {R : Room} {s : State} {m : MethodId} {args : Array Value} {below : List Frame} {meth : Method} {c : Code} {nW : Nat} {dC : Nat → ClassId} {dI : Nat → Nat → Nat} {k : Nat → ClassId} {g : Nat → Nat} {A : Nat → Prop} {J : Nat → List qV → List qV → qW → Prop} {Q : qR} (X : q_X p R s m args meth c cX9_fined 4 nW 0 0 RX9 (some .boolean) dC dI k g A) (hJ : ∀ d : Nat, q_Sd p l e R s m args below meth c 4 nW dC dI k g A (MQ below (q_post (dC, dI) k g nW Q A) args s 0 0 A) d (x_cut (is_X9_fined d) (J d))) : q_Sd p l e R s m args below meth c 4 nW dC dI k g A (MQ below (q_post (dC, dI) k g nW Q A) args s 0 0 A) 0 (b_X9_fined_0 J Q) := by
  unfold b_X9_fined_0
  refine s_iload_n X rfl dX9_fined_0 ?_
  refine s_if_lt X (tgt := 26) dX9_fined_1 (by decide) ?_ ?_
  · exact s_X9_fined_26 X hJ
  · refine s_iload_n X rfl dX9_fined_4 ?_
    refine s_iconst X ⟨by decide, by decide⟩ dX9_fined_5 ?_
    refine s_icmp_ge X (tgt := 26) dX9_fined_6 (by decide) ?_ ?_
    · exact s_X9_fined_26 X hJ
    · refine s_aload_n X rfl dX9_fined_9 ?_
      refine s_get X (T := TX9) (C := RX9) (N := 5) tu_X9 rfl (by decide) tw_291 dX9_fined_10 ?_
      refine s_iload_n X rfl dX9_fined_13 ?_
      refine s_iald X dX9_fined_14 ?_
      refine s_aload_n X rfl dX9_fined_15 ?_
      refine s_get X (T := TX0) (C := RX0) (N := 12) tu_X0 rfl (by decide) tw_177 dX9_fined_16 ?_
      refine s_iload_n X rfl dX9_fined_19 ?_
      refine s_iald X dX9_fined_20 ?_
      refine s_isub X dX9_fined_21 ?_
      refine s_iconst X ⟨by decide, by decide⟩ dX9_fined_22 ?_
      refine s_icmp_ge X (tgt := 28) dX9_fined_23 (by decide) ?_ ?_
      · refine s_aload_n X rfl dX9_fined_28 ?_
        refine s_get X (T := TX9) (C := RX9) (N := 5) tu_X9 rfl (by decide) tw_291 dX9_fined_29 ?_
        refine s_iload_n X rfl dX9_fined_32 ?_
        refine s_dup2 X dX9_fined_33 ?_
        refine s_iald X dX9_fined_34 ?_
        refine s_aload_n X rfl dX9_fined_35 ?_
        refine s_get X (T := TX0) (C := RX0) (N := 12) tu_X0 rfl (by decide) tw_177 dX9_fined_36 ?_
        refine s_iload_n X rfl dX9_fined_39 ?_
        refine s_iald X dX9_fined_40 ?_
        refine s_isub X dX9_fined_41 ?_
        refine s_iast X dX9_fined_42 ?_
        refine s_nw ?_
        refine s_aload_n X rfl dX9_fined_43 ?_
        refine s_dup X dX9_fined_44 ?_
        refine s_get X (T := TX9) (C := RX9) (N := 5) tu_X9 rfl (by decide) tw_294 dX9_fined_45 ?_
        refine s_aload_n X rfl dX9_fined_48 ?_
        refine s_get X (T := TX0) (C := RX0) (N := 12) tu_X0 rfl (by decide) tw_177 dX9_fined_49 ?_
        refine s_iload_n X rfl dX9_fined_52 ?_
        refine s_iald X dX9_fined_53 ?_
        refine s_iadd X dX9_fined_54 ?_
        refine s_put X (T := TX9) (C := RX9) (N := 5) tu_X9 tyX9_ok nmX9 rfl (by decide) tw_294 rfl (by decide +kernel) q_oki_t dX9_fined_55 ?_
        refine s_nw ?_
        refine s_iconst X ⟨by decide, by decide⟩ dX9_fined_58 ?_
        exact s_zret X dX9_fined_59
      · exact s_X9_fined_26 X hJ

def sp_X9_fined : qS := fun av w Q => ∃ (h1 : Nat → Int) (h2 : Nat → Int) (h3 : Nat → Int) (p0 : Int) (s0 : Int) (f1 : Nat → Int) (f2 : Nat → Int) (f3 : Nat → Int) (f4 : Nat → Int) (f5 : Nat → Int) (f6 : Nat → Int) (f7 : Nat → Int) (u0 : Int) (u1 : Int) (u2 : Int) (u3 : Int) (u4 : Int) (a : Int) (b : Int), av = [q2 0, q2 4, q1 a, q1 b] ∧ w = (wKo 0 h1 h2 h3 p0 s0 ++ wBo 4 f1 f2 f3 f4 f5 f6 f7 u0 u1 u2 u3 u4) ∧ (0 ≤ u0 ∧ u0 ≤ 8) ∧ (0 ≤ a ∧ a < 8) ∧ (∀ (r : Int) (x1 : Nat → Int) (x2 : Nat → Int) (x3 : Nat → Int) (x4 : Int) (x5 : Int), (r = 0 ∨ r = 1) → Q (some (q1 r)) ((wKo 0 x1 x2 x3 x4 x5 ++ wBo 4 f1 f2 f3 f4 f5 f6 f7 u0 u1 u2 u3 u4)))
set_option maxHeartbeats 4000000 in
set_option maxRecDepth 100000 in
theorem m_X9_fined (l : Launch) : q_M l yX9_fined cX9_fined 4 (some .boolean) 0 0 sp_X9_fined := by
  refine q_meth (by decide) (fun av w Q h => by obtain ⟨h1, h2, h3, p0, s0, f1, f2, f3, f4, f5, f6, f7, u0, u1, u2, u3, u4, a, b, rfl, rfl, hu0, ha, hQ⟩ := h; exact Nat.le_of_ble_eq_true rfl) ?_
  intro p e R s m args below meth c dC dI k g A av w Q hsp oka okw X
  obtain ⟨h1, h2, h3, p0, s0, f1, f2, f3, f4, f5, f6, f7, u0, u1, u2, u3, u4, a, b, rfl, rfl, hu0, ha, hQ⟩ := hsp
  have o_a : -2147483648 ≤ a ∧ a ≤ 2147483647 := oka _ (List.mem_of_getElem? (i := 2) rfl)
  have o_b : -2147483648 ≤ b ∧ b ≤ 2147483647 := oka _ (List.mem_of_getElem? (i := 3) rfl)
  refine s_mono (s_X9_fined_0 X (J := fun _ _ _ _ => False) (fun d => s_cutF)) ?_
  rintro lv st w' ⟨rfl, rfl, rfl⟩
  apply And.intro
  · intro h1
    apply And.intro
    · first | exact Or.inl rfl | exact Or.inr rfl | omega
    exact hQ _ _ _ _ _ _ (by first | omega | assumption | exact q_rg_up (by assumption) (by omega) | exact q_rg_up (q_rg_up (by assumption) (by omega)) (by omega) | exact q_rg_cpy (by assumption) (by assumption))
  · intro h1
    apply And.intro
    · intro h6
      apply And.intro
      · first | exact Or.inl rfl | exact Or.inr rfl | omega
      exact hQ _ _ _ _ _ _ (by first | omega | assumption | exact q_rg_up (by assumption) (by omega) | exact q_rg_up (q_rg_up (by assumption) (by omega)) (by omega) | exact q_rg_cpy (by assumption) (by assumption))
    · intro h6
      apply And.intro
      · exact ⟨by omega, by omega⟩
      intro z14 h14
      apply And.intro
      · exact ⟨by omega, by omega⟩
      intro z20 h20
      intro z21 h21
      first | replace h21 := e_sub h21 (by omega) | replace h21 := e_rng h21
      apply And.intro
      · intro h23
        apply And.intro
        · exact ⟨by omega, by omega⟩
        intro z34 h34
        apply And.intro
        · exact ⟨by omega, by omega⟩
        intro z40 h40
        intro z41 h41
        first | replace h41 := e_sub h41 (by omega) | replace h41 := e_rng h41
        apply And.intro
        · exact ⟨by omega, by omega⟩
        apply And.intro
        · exact ⟨by omega, by omega⟩
        intro z53 h53
        intro z54 h54
        first | replace h54 := e_add h54 (by omega) | replace h54 := e_rng h54
        apply And.intro
        · exact trivial
        apply And.intro
        · first | exact Or.inl rfl | exact Or.inr rfl | omega
        exact hQ _ _ _ _ _ _ (by first | omega | assumption | exact q_rg_up (by assumption) (by omega) | exact q_rg_up (q_rg_up (by assumption) (by omega)) (by omega) | exact q_rg_cpy (by assumption) (by assumption))
      · intro h23
        apply And.intro
        · first | exact Or.inl rfl | exact Or.inr rfl | omega
        exact hQ _ _ _ _ _ _ (by first | omega | assumption | exact q_rg_up (by assumption) (by omega) | exact q_rg_up (q_rg_up (by assumption) (by omega)) (by omega) | exact q_rg_cpy (by assumption) (by assumption))

theorem dX9_bailed_0 : decode cX9_bailed 0 = .ok (.aload_n 1, 1) := by decide +kernel
theorem dX9_bailed_1 : decode cX9_bailed 1 = .ok (.getfield 100, 3) := by decide +kernel
theorem dX9_bailed_4 : decode cX9_bailed 4 = .ok (.iload_n 2, 1) := by decide +kernel
theorem dX9_bailed_5 : decode cX9_bailed 5 = .ok (.iaload, 1) := by decide +kernel
theorem dX9_bailed_6 : decode cX9_bailed 6 = .ok (.istore 4, 2) := by decide +kernel
theorem dX9_bailed_8 : decode cX9_bailed 8 = .ok (.iload_n 3, 1) := by decide +kernel
theorem dX9_bailed_9 : decode cX9_bailed 9 = .ok (.ifCond .lt 17, 3) := by decide +kernel
theorem dX9_bailed_12 : decode cX9_bailed 12 = .ok (.iload_n 3, 1) := by decide +kernel
theorem dX9_bailed_13 : decode cX9_bailed 13 = .ok (.iconst 4, 1) := by decide +kernel
theorem dX9_bailed_14 : decode cX9_bailed 14 = .ok (.if_icmp .ge 12, 3) := by decide +kernel
theorem dX9_bailed_17 : decode cX9_bailed 17 = .ok (.aload_n 1, 1) := by decide +kernel
theorem dX9_bailed_18 : decode cX9_bailed 18 = .ok (.iload 4, 2) := by decide +kernel
theorem dX9_bailed_20 : decode cX9_bailed 20 = .ok (.invokevirtual 70, 3) := by decide +kernel
theorem dX9_bailed_23 : decode cX9_bailed 23 = .ok (.ifCond .ne 5, 3) := by decide +kernel
theorem dX9_bailed_26 : decode cX9_bailed 26 = .ok (.iconst 0, 1) := by decide +kernel
theorem dX9_bailed_27 : decode cX9_bailed 27 = .ok (.ireturn, 1) := by decide +kernel
theorem dX9_bailed_28 : decode cX9_bailed 28 = .ok (.aload_n 1, 1) := by decide +kernel
theorem dX9_bailed_29 : decode cX9_bailed 29 = .ok (.getfield 97, 3) := by decide +kernel
theorem dX9_bailed_32 : decode cX9_bailed 32 = .ok (.iload_n 3, 1) := by decide +kernel
theorem dX9_bailed_33 : decode cX9_bailed 33 = .ok (.iaload, 1) := by decide +kernel
theorem dX9_bailed_34 : decode cX9_bailed 34 = .ok (.istore 5, 2) := by decide +kernel
theorem dX9_bailed_36 : decode cX9_bailed 36 = .ok (.iload 5, 2) := by decide +kernel
theorem dX9_bailed_38 : decode cX9_bailed 38 = .ok (.iconst 1, 1) := by decide +kernel
theorem dX9_bailed_39 : decode cX9_bailed 39 = .ok (.iadd, 1) := by decide +kernel
theorem dX9_bailed_40 : decode cX9_bailed 40 = .ok (.iconst 2, 1) := by decide +kernel
theorem dX9_bailed_41 : decode cX9_bailed 41 = .ok (.idiv, 1) := by decide +kernel
theorem dX9_bailed_42 : decode cX9_bailed 42 = .ok (.istore 6, 2) := by decide +kernel
theorem dX9_bailed_44 : decode cX9_bailed 44 = .ok (.aload_n 0, 1) := by decide +kernel
theorem dX9_bailed_45 : decode cX9_bailed 45 = .ok (.getfield 9, 3) := by decide +kernel
theorem dX9_bailed_48 : decode cX9_bailed 48 = .ok (.iload 4, 2) := by decide +kernel
theorem dX9_bailed_50 : decode cX9_bailed 50 = .ok (.iaload, 1) := by decide +kernel
theorem dX9_bailed_51 : decode cX9_bailed 51 = .ok (.iload 6, 2) := by decide +kernel
theorem dX9_bailed_53 : decode cX9_bailed 53 = .ok (.isub, 1) := by decide +kernel
theorem dX9_bailed_54 : decode cX9_bailed 54 = .ok (.iconst 1, 1) := by decide +kernel
theorem dX9_bailed_55 : decode cX9_bailed 55 = .ok (.if_icmp .lt 19, 3) := by decide +kernel
theorem dX9_bailed_58 : decode cX9_bailed 58 = .ok (.aload_n 0, 1) := by decide +kernel
theorem dX9_bailed_59 : decode cX9_bailed 59 = .ok (.getfield 9, 3) := by decide +kernel
theorem dX9_bailed_62 : decode cX9_bailed 62 = .ok (.iload_n 2, 1) := by decide +kernel
theorem dX9_bailed_63 : decode cX9_bailed 63 = .ok (.iaload, 1) := by decide +kernel
theorem dX9_bailed_64 : decode cX9_bailed 64 = .ok (.iload 5, 2) := by decide +kernel
theorem dX9_bailed_66 : decode cX9_bailed 66 = .ok (.iload 6, 2) := by decide +kernel
theorem dX9_bailed_68 : decode cX9_bailed 68 = .ok (.isub, 1) := by decide +kernel
theorem dX9_bailed_69 : decode cX9_bailed 69 = .ok (.isub, 1) := by decide +kernel
theorem dX9_bailed_70 : decode cX9_bailed 70 = .ok (.iconst 1, 1) := by decide +kernel
theorem dX9_bailed_71 : decode cX9_bailed 71 = .ok (.if_icmp .ge 5, 3) := by decide +kernel
theorem dX9_bailed_74 : decode cX9_bailed 74 = .ok (.iconst 0, 1) := by decide +kernel
theorem dX9_bailed_75 : decode cX9_bailed 75 = .ok (.ireturn, 1) := by decide +kernel
theorem dX9_bailed_76 : decode cX9_bailed 76 = .ok (.aload_n 0, 1) := by decide +kernel
theorem dX9_bailed_77 : decode cX9_bailed 77 = .ok (.getfield 9, 3) := by decide +kernel
theorem dX9_bailed_80 : decode cX9_bailed 80 = .ok (.iload 4, 2) := by decide +kernel
theorem dX9_bailed_82 : decode cX9_bailed 82 = .ok (.dup2, 1) := by decide +kernel
theorem dX9_bailed_83 : decode cX9_bailed 83 = .ok (.iaload, 1) := by decide +kernel
theorem dX9_bailed_84 : decode cX9_bailed 84 = .ok (.iload 6, 2) := by decide +kernel
theorem dX9_bailed_86 : decode cX9_bailed 86 = .ok (.isub, 1) := by decide +kernel
theorem dX9_bailed_87 : decode cX9_bailed 87 = .ok (.iastore, 1) := by decide +kernel
theorem dX9_bailed_88 : decode cX9_bailed 88 = .ok (.aload_n 0, 1) := by decide +kernel
theorem dX9_bailed_89 : decode cX9_bailed 89 = .ok (.getfield 9, 3) := by decide +kernel
theorem dX9_bailed_92 : decode cX9_bailed 92 = .ok (.iload_n 2, 1) := by decide +kernel
theorem dX9_bailed_93 : decode cX9_bailed 93 = .ok (.dup2, 1) := by decide +kernel
theorem dX9_bailed_94 : decode cX9_bailed 94 = .ok (.iaload, 1) := by decide +kernel
theorem dX9_bailed_95 : decode cX9_bailed 95 = .ok (.iload 5, 2) := by decide +kernel
theorem dX9_bailed_97 : decode cX9_bailed 97 = .ok (.iload 6, 2) := by decide +kernel
theorem dX9_bailed_99 : decode cX9_bailed 99 = .ok (.isub, 1) := by decide +kernel
theorem dX9_bailed_100 : decode cX9_bailed 100 = .ok (.isub, 1) := by decide +kernel
theorem dX9_bailed_101 : decode cX9_bailed 101 = .ok (.iastore, 1) := by decide +kernel
theorem dX9_bailed_102 : decode cX9_bailed 102 = .ok (.aload_n 0, 1) := by decide +kernel
theorem dX9_bailed_103 : decode cX9_bailed 103 = .ok (.dup, 1) := by decide +kernel
theorem dX9_bailed_104 : decode cX9_bailed 104 = .ok (.getfield 30, 3) := by decide +kernel
theorem dX9_bailed_107 : decode cX9_bailed 107 = .ok (.iload 5, 2) := by decide +kernel
theorem dX9_bailed_109 : decode cX9_bailed 109 = .ok (.iadd, 1) := by decide +kernel
theorem dX9_bailed_110 : decode cX9_bailed 110 = .ok (.putfield 30, 3) := by decide +kernel
theorem dX9_bailed_113 : decode cX9_bailed 113 = .ok (.iconst 1, 1) := by decide +kernel
theorem dX9_bailed_114 : decode cX9_bailed 114 = .ok (.ireturn, 1) := by decide +kernel
def is_X9_bailed : Nat → List Nat := fun d => []
set_option maxRecDepth 100000 in
def b_X9_bailed_109 (J : Nat → List qV → List qV → qW → Prop) (Q : qR) : qK := x_iadd (x_put 9 3 q_oki (x_nw (x_int 1 (x_zret Q))))
set_option maxRecDepth 100000 in
theorem s_X9_bailed_109 {p : Program} {l : Launch} {e : Env} {R : Room} {s : State} {m : MethodId} {args : Array Value} {below : List Frame} {meth : Method} {c : Code} {nW : Nat} {dC : Nat → ClassId} {dI : Nat → Nat → Nat} {k : Nat → ClassId} {g : Nat → Nat} {A : Nat → Prop} {J : Nat → List qV → List qV → qW → Prop} {Q : qR} (X : q_X p R s m args meth c cX9_bailed 7 nW 1 21 RX9 (some .boolean) dC dI k g A) (hJ : ∀ d : Nat, q_Sd p l e R s m args below meth c 7 nW dC dI k g A (MQ below (q_post (dC, dI) k g nW Q A) args s 0 0 A) d (x_cut (is_X9_bailed d) (J d))) : q_Sd p l e R s m args below meth c 7 nW dC dI k g A (MQ below (q_post (dC, dI) k g nW Q A) args s 0 0 A) 109 (b_X9_bailed_109 J Q) := by
  unfold b_X9_bailed_109
  refine s_iadd X dX9_bailed_109 ?_
  refine s_put X (T := TX9) (C := RX9) (N := 5) tu_X9 tyX9_ok nmX9 rfl (by decide) tw_294 rfl (by decide +kernel) q_oki_t dX9_bailed_110 ?_
  refine s_nw ?_
  refine s_iconst X ⟨by decide, by decide⟩ dX9_bailed_113 ?_
  exact s_zret X dX9_bailed_114
set_option maxRecDepth 100000 in
def b_X9_bailed_74 (J : Nat → List qV → List qV → qW → Prop) (Q : qR) : qK := x_int 0 (x_zret Q)
set_option maxRecDepth 100000 in
theorem s_X9_bailed_74 {p : Program} {l : Launch} {e : Env} {R : Room} {s : State} {m : MethodId} {args : Array Value} {below : List Frame} {meth : Method} {c : Code} {nW : Nat} {dC : Nat → ClassId} {dI : Nat → Nat → Nat} {k : Nat → ClassId} {g : Nat → Nat} {A : Nat → Prop} {J : Nat → List qV → List qV → qW → Prop} {Q : qR} (X : q_X p R s m args meth c cX9_bailed 7 nW 1 21 RX9 (some .boolean) dC dI k g A) (hJ : ∀ d : Nat, q_Sd p l e R s m args below meth c 7 nW dC dI k g A (MQ below (q_post (dC, dI) k g nW Q A) args s 0 0 A) d (x_cut (is_X9_bailed d) (J d))) : q_Sd p l e R s m args below meth c 7 nW dC dI k g A (MQ below (q_post (dC, dI) k g nW Q A) args s 0 0 A) 74 (b_X9_bailed_74 J Q) := by
  unfold b_X9_bailed_74
  refine s_iconst X ⟨by decide, by decide⟩ dX9_bailed_74 ?_
  exact s_zret X dX9_bailed_75
set_option maxRecDepth 100000 in
def b_X9_bailed_63 (J : Nat → List qV → List qV → qW → Prop) (Q : qR) : qK := x_iald (x_iload 5 (x_iload 6 (x_isub (x_isub (x_int 1 (x_icmp_ge (x_aload 0 (x_get 9 0 (x_iload 4 (x_dup2 (x_iald (x_iload 6 (x_isub (x_iast (x_nw (x_aload 0 (x_get 9 0 (x_iload 2 (x_dup2 (x_iald (x_iload 5 (x_iload 6 (x_isub (x_isub (x_iast (x_nw (x_aload 0 (x_dup (x_get 9 3 (x_iload 5 (b_X9_bailed_109 J Q))))))))))))))))))))))))) (b_X9_bailed_74 J Q)))))))
set_option maxRecDepth 100000 in
theorem s_X9_bailed_63 {p : Program} {l : Launch} {e : Env} {R : Room} {s : State} {m : MethodId} {args : Array Value} {below : List Frame} {meth : Method} {c : Code} {nW : Nat} {dC : Nat → ClassId} {dI : Nat → Nat → Nat} {k : Nat → ClassId} {g : Nat → Nat} {A : Nat → Prop} {J : Nat → List qV → List qV → qW → Prop} {Q : qR} (X : q_X p R s m args meth c cX9_bailed 7 nW 1 21 RX9 (some .boolean) dC dI k g A) (hJ : ∀ d : Nat, q_Sd p l e R s m args below meth c 7 nW dC dI k g A (MQ below (q_post (dC, dI) k g nW Q A) args s 0 0 A) d (x_cut (is_X9_bailed d) (J d))) : q_Sd p l e R s m args below meth c 7 nW dC dI k g A (MQ below (q_post (dC, dI) k g nW Q A) args s 0 0 A) 63 (b_X9_bailed_63 J Q) := by
  unfold b_X9_bailed_63
  refine s_iald X dX9_bailed_63 ?_
  refine s_iload X dX9_bailed_64 ?_
  refine s_iload X dX9_bailed_66 ?_
  refine s_isub X dX9_bailed_68 ?_
  refine s_isub X dX9_bailed_69 ?_
  refine s_iconst X ⟨by decide, by decide⟩ dX9_bailed_70 ?_
  refine s_icmp_ge X (tgt := 76) dX9_bailed_71 (by decide) ?_ ?_
  · refine s_aload_n X rfl dX9_bailed_76 ?_
    refine s_get X (T := TX9) (C := RX9) (N := 5) tu_X9 rfl (by decide) tw_291 dX9_bailed_77 ?_
    refine s_iload X dX9_bailed_80 ?_
    refine s_dup2 X dX9_bailed_82 ?_
    refine s_iald X dX9_bailed_83 ?_
    refine s_iload X dX9_bailed_84 ?_
    refine s_isub X dX9_bailed_86 ?_
    refine s_iast X dX9_bailed_87 ?_
    refine s_nw ?_
    refine s_aload_n X rfl dX9_bailed_88 ?_
    refine s_get X (T := TX9) (C := RX9) (N := 5) tu_X9 rfl (by decide) tw_291 dX9_bailed_89 ?_
    refine s_iload_n X rfl dX9_bailed_92 ?_
    refine s_dup2 X dX9_bailed_93 ?_
    refine s_iald X dX9_bailed_94 ?_
    refine s_iload X dX9_bailed_95 ?_
    refine s_iload X dX9_bailed_97 ?_
    refine s_isub X dX9_bailed_99 ?_
    refine s_isub X dX9_bailed_100 ?_
    refine s_iast X dX9_bailed_101 ?_
    refine s_nw ?_
    refine s_aload_n X rfl dX9_bailed_102 ?_
    refine s_dup X dX9_bailed_103 ?_
    refine s_get X (T := TX9) (C := RX9) (N := 5) tu_X9 rfl (by decide) tw_294 dX9_bailed_104 ?_
    refine s_iload X dX9_bailed_107 ?_
    exact s_X9_bailed_109 X hJ
  · exact s_X9_bailed_74 X hJ
set_option maxRecDepth 100000 in
def b_X9_bailed_26 (J : Nat → List qV → List qV → qW → Prop) (Q : qR) : qK := x_int 0 (x_zret Q)
set_option maxRecDepth 100000 in
theorem s_X9_bailed_26 {p : Program} {l : Launch} {e : Env} {R : Room} {s : State} {m : MethodId} {args : Array Value} {below : List Frame} {meth : Method} {c : Code} {nW : Nat} {dC : Nat → ClassId} {dI : Nat → Nat → Nat} {k : Nat → ClassId} {g : Nat → Nat} {A : Nat → Prop} {J : Nat → List qV → List qV → qW → Prop} {Q : qR} (X : q_X p R s m args meth c cX9_bailed 7 nW 1 21 RX9 (some .boolean) dC dI k g A) (hJ : ∀ d : Nat, q_Sd p l e R s m args below meth c 7 nW dC dI k g A (MQ below (q_post (dC, dI) k g nW Q A) args s 0 0 A) d (x_cut (is_X9_bailed d) (J d))) : q_Sd p l e R s m args below meth c 7 nW dC dI k g A (MQ below (q_post (dC, dI) k g nW Q A) args s 0 0 A) 26 (b_X9_bailed_26 J Q) := by
  unfold b_X9_bailed_26
  refine s_iconst X ⟨by decide, by decide⟩ dX9_bailed_26 ?_
  exact s_zret X dX9_bailed_27
set_option maxRecDepth 100000 in
def b_X9_bailed_0 (J : Nat → List qV → List qV → qW → Prop) (Q : qR) : qK := x_aload 1 (x_get 0 1 (x_iload 2 (x_iald (x_istore 4 (x_iload 3 (x_if_lt (b_X9_bailed_26 J Q) (x_iload 3 (x_int 4 (x_icmp_ge (b_X9_bailed_26 J Q) (x_aload 1 (x_iload 4 (x_callr (some 0) 2 spr_X0_has (x_if_ne (x_aload 1 (x_get 0 2 (x_iload 3 (x_iald (x_istore 5 (x_iload 5 (x_int 1 (x_iadd (x_int 2 (x_idiv (x_istore 6 (x_aload 0 (x_get 9 0 (x_iload 4 (x_iald (x_iload 6 (x_isub (x_int 1 (x_icmp_lt (b_X9_bailed_74 J Q) (x_aload 0 (x_get 9 0 (x_iload 2 (b_X9_bailed_63 J Q))))))))))))))))))))))) (b_X9_bailed_26 J Q))))))))))))))
set_option maxRecDepth 100000 in
theorem s_X9_bailed_0 {p : Program} {l : Launch} {e : Env} {R : Room} {s : State} {m : MethodId} {args : Array Value} {below : List Frame} {meth : Method} {c : Code} {nW : Nat} {dC : Nat → ClassId} {dI : Nat → Nat → Nat} {k : Nat → ClassId} {g : Nat → Nat} {A : Nat → Prop} {J : Nat → List qV → List qV → qW → Prop} {Q : qR} (X : q_X p R s m args meth c cX9_bailed 7 nW 1 21 RX9 (some .boolean) dC dI k g A) (hJ : ∀ d : Nat, q_Sd p l e R s m args below meth c 7 nW dC dI k g A (MQ below (q_post (dC, dI) k g nW Q A) args s 0 0 A) d (x_cut (is_X9_bailed d) (J d))) : q_Sd p l e R s m args below meth c 7 nW dC dI k g A (MQ below (q_post (dC, dI) k g nW Q A) args s 0 0 A) 0 (b_X9_bailed_0 J Q) := by
  unfold b_X9_bailed_0
  refine s_aload_n X rfl dX9_bailed_0 ?_
  refine s_get X (T := TX0) (C := RX0) (N := 12) tu_X0 rfl (by decide) tw_173 dX9_bailed_1 ?_
  refine s_iload_n X rfl dX9_bailed_4 ?_
  refine s_iald X dX9_bailed_5 ?_
  refine s_istore X (by decide) dX9_bailed_6 ?_
  refine s_iload_n X rfl dX9_bailed_8 ?_
  refine s_if_lt X (tgt := 26) dX9_bailed_9 (by decide) ?_ ?_
  · exact s_X9_bailed_26 X hJ
  · refine s_iload_n X rfl dX9_bailed_12 ?_
    refine s_iconst X ⟨by decide, by decide⟩ dX9_bailed_13 ?_
    refine s_icmp_ge X (tgt := 26) dX9_bailed_14 (by decide) ?_ ?_
    · exact s_X9_bailed_26 X hJ
    · refine s_aload_n X rfl dX9_bailed_17 ?_
      refine s_iload X dX9_bailed_18 ?_
      refine s_callVr X (m_X0_has l) tw_582 tw_399 tw_400 tw_122 tw_401 rfl (by decide +kernel) ⟨by decide, by decide⟩ dX9_bailed_20 ?_
      refine s_if_ne X (tgt := 28) dX9_bailed_23 (by decide) ?_ ?_
      · refine s_aload_n X rfl dX9_bailed_28 ?_
        refine s_get X (T := TX0) (C := RX0) (N := 12) tu_X0 rfl (by decide) tw_177 dX9_bailed_29 ?_
        refine s_iload_n X rfl dX9_bailed_32 ?_
        refine s_iald X dX9_bailed_33 ?_
        refine s_istore X (by decide) dX9_bailed_34 ?_
        refine s_iload X dX9_bailed_36 ?_
        refine s_iconst X ⟨by decide, by decide⟩ dX9_bailed_38 ?_
        refine s_iadd X dX9_bailed_39 ?_
        refine s_iconst X ⟨by decide, by decide⟩ dX9_bailed_40 ?_
        refine s_idiv X dX9_bailed_41 ?_
        refine s_istore X (by decide) dX9_bailed_42 ?_
        refine s_aload_n X rfl dX9_bailed_44 ?_
        refine s_get X (T := TX9) (C := RX9) (N := 5) tu_X9 rfl (by decide) tw_291 dX9_bailed_45 ?_
        refine s_iload X dX9_bailed_48 ?_
        refine s_iald X dX9_bailed_50 ?_
        refine s_iload X dX9_bailed_51 ?_
        refine s_isub X dX9_bailed_53 ?_
        refine s_iconst X ⟨by decide, by decide⟩ dX9_bailed_54 ?_
        refine s_icmp_lt X (tgt := 74) dX9_bailed_55 (by decide) ?_ ?_
        · exact s_X9_bailed_74 X hJ
        · refine s_aload_n X rfl dX9_bailed_58 ?_
          refine s_get X (T := TX9) (C := RX9) (N := 5) tu_X9 rfl (by decide) tw_291 dX9_bailed_59 ?_
          refine s_iload_n X rfl dX9_bailed_62 ?_
          exact s_X9_bailed_63 X hJ
      · exact s_X9_bailed_26 X hJ

def sp_X9_bailed : qS := fun av w Q => ∃ (h1 : Nat → Int) (h2 : Nat → Int) (h3 : Nat → Int) (p0 : Int) (s0 : Int) (f1 : Nat → Int) (f2 : Nat → Int) (f3 : Nat → Int) (f4 : Nat → Int) (f5 : Nat → Int) (f6 : Nat → Int) (f7 : Nat → Int) (u0 : Int) (u1 : Int) (u2 : Int) (u3 : Int) (u4 : Int) (a : Int) (b : Int), av = [q2 0, q2 4, q1 a, q1 b] ∧ w = (wKo 0 h1 h2 h3 p0 s0 ++ wBo 4 f1 f2 f3 f4 f5 f6 f7 u0 u1 u2 u3 u4) ∧ (0 ≤ u0 ∧ u0 ≤ 8) ∧ (0 ≤ a ∧ a < 8) ∧ (∀ (r : Int) (x1 : Nat → Int) (x2 : Nat → Int) (x3 : Nat → Int) (x4 : Int) (x5 : Int), (r = 0 ∨ r = 1) → Q (some (q1 r)) ((wKo 0 x1 x2 x3 x4 x5 ++ wBo 4 f1 f2 f3 f4 f5 f6 f7 u0 u1 u2 u3 u4)))
set_option maxHeartbeats 4000000 in
set_option maxRecDepth 100000 in
theorem m_X9_bailed (l : Launch) : q_M l yX9_bailed cX9_bailed 7 (some .boolean) 1 21 sp_X9_bailed := by
  refine q_meth (by decide) (fun av w Q h => by obtain ⟨h1, h2, h3, p0, s0, f1, f2, f3, f4, f5, f6, f7, u0, u1, u2, u3, u4, a, b, rfl, rfl, hu0, ha, hQ⟩ := h; exact Nat.le_of_ble_eq_true rfl) ?_
  intro p e R s m args below meth c dC dI k g A av w Q hsp oka okw X
  obtain ⟨h1, h2, h3, p0, s0, f1, f2, f3, f4, f5, f6, f7, u0, u1, u2, u3, u4, a, b, rfl, rfl, hu0, ha, hQ⟩ := hsp
  have o_a : -2147483648 ≤ a ∧ a ≤ 2147483647 := oka _ (List.mem_of_getElem? (i := 2) rfl)
  have o_b : -2147483648 ≤ b ∧ b ≤ 2147483647 := oka _ (List.mem_of_getElem? (i := 3) rfl)
  refine s_mono (s_X9_bailed_0 X (J := fun _ _ _ _ => False) (fun d => s_cutF)) ?_
  rintro lv st w' ⟨rfl, rfl, rfl⟩
  apply And.intro
  · exact ⟨by omega, by omega⟩
  intro z5 h5
  apply And.intro
  · intro h9
    apply And.intro
    · first | exact Or.inl rfl | exact Or.inr rfl | omega
    exact hQ _ _ _ _ _ _ (by first | omega | assumption | exact q_rg_up (by assumption) (by omega) | exact q_rg_up (q_rg_up (by assumption) (by omega)) (by omega) | exact q_rg_cpy (by assumption) (by assumption))
  · intro h9
    apply And.intro
    · intro h14
      apply And.intro
      · first | exact Or.inl rfl | exact Or.inr rfl | omega
      exact hQ _ _ _ _ _ _ (by first | omega | assumption | exact q_rg_up (by assumption) (by omega) | exact q_rg_up (q_rg_up (by assumption) (by omega)) (by omega) | exact q_rg_cpy (by assumption) (by assumption))
    · intro h14
      refine Exists.intro [4, 5, 6, 7, 8, 9, 10, 11] (Exists.intro [q2 0, q1 _] (Exists.intro (wB _ _ _ _ _ _ _ _ _ _ _ _) (And.intro rfl (And.intro rfl (And.intro rfl (And.intro ⟨⟨_, rfl⟩, rfl⟩ ?_))))))
      refine Exists.intro _ (Exists.intro _ (Exists.intro _ (Exists.intro _ (Exists.intro _ (Exists.intro _ (Exists.intro _ (Exists.intro _ (Exists.intro _ (Exists.intro _ (Exists.intro _ (Exists.intro _ (Exists.intro _ (And.intro rfl (And.intro rfl (?_)))))))))))))))
      intro z20 h20
      apply And.intro
      · intro h23
        apply And.intro
        · exact ⟨by omega, by omega⟩
        intro z33 h33
        intro z39 h39
        first | replace h39 := e_add h39 (by omega) | replace h39 := e_rng h39
        apply And.intro
        · first | omega | (intro e9; omega)
        intro z41 h41
        first | replace h41 := e_div h41 (by omega) (by omega) | replace h41 := e_rng h41
        apply And.intro
        · exact ⟨by omega, by omega⟩
        intro z50 h50
        intro z53 h53
        first | replace h53 := e_sub h53 (by omega) | replace h53 := e_rng h53
        apply And.intro
        · intro h55
          apply And.intro
          · first | exact Or.inl rfl | exact Or.inr rfl | omega
          exact hQ _ _ _ _ _ _ (by first | omega | assumption | exact q_rg_up (by assumption) (by omega) | exact q_rg_up (q_rg_up (by assumption) (by omega)) (by omega) | exact q_rg_cpy (by assumption) (by assumption))
        · intro h55
          apply And.intro
          · exact ⟨by omega, by omega⟩
          intro z63 h63
          intro z68 h68
          first | replace h68 := e_sub h68 (by omega) | replace h68 := e_rng h68
          intro z69 h69
          first | replace h69 := e_sub h69 (by omega) | replace h69 := e_rng h69
          apply And.intro
          · intro h71
            apply And.intro
            · exact ⟨by omega, by omega⟩
            intro z83 h83
            intro z86 h86
            first | replace h86 := e_sub h86 (by omega) | replace h86 := e_rng h86
            apply And.intro
            · exact ⟨by omega, by omega⟩
            apply And.intro
            · exact ⟨by omega, by omega⟩
            intro z94 h94
            intro z99 h99
            first | replace h99 := e_sub h99 (by omega) | replace h99 := e_rng h99
            intro z100 h100
            first | replace h100 := e_sub h100 (by omega) | replace h100 := e_rng h100
            apply And.intro
            · exact ⟨by omega, by omega⟩
            intro z109 h109
            first | replace h109 := e_add h109 (by omega) | replace h109 := e_rng h109
            apply And.intro
            · exact trivial
            apply And.intro
            · first | exact Or.inl rfl | exact Or.inr rfl | omega
            exact hQ _ _ _ _ _ _ (by first | omega | assumption | exact q_rg_up (by assumption) (by omega) | exact q_rg_up (q_rg_up (by assumption) (by omega)) (by omega) | exact q_rg_cpy (by assumption) (by assumption))
          · intro h71
            apply And.intro
            · first | exact Or.inl rfl | exact Or.inr rfl | omega
            exact hQ _ _ _ _ _ _ (by first | omega | assumption | exact q_rg_up (by assumption) (by omega) | exact q_rg_up (q_rg_up (by assumption) (by omega)) (by omega) | exact q_rg_cpy (by assumption) (by assumption))
      · intro h23
        apply And.intro
        · first | exact Or.inl rfl | exact Or.inr rfl | omega
        exact hQ _ _ _ _ _ _ (by first | omega | assumption | exact q_rg_up (by assumption) (by omega) | exact q_rg_up (q_rg_up (by assumption) (by omega)) (by omega) | exact q_rg_cpy (by assumption) (by assumption))

theorem dX9_given_0 : decode cX9_given 0 = .ok (.aload_n 1, 1) := by decide +kernel
theorem dX9_given_1 : decode cX9_given 1 = .ok (.iload_n 2, 1) := by decide +kernel
theorem dX9_given_2 : decode cX9_given 2 = .ok (.invokevirtual 103, 3) := by decide +kernel
theorem dX9_given_5 : decode cX9_given 5 = .ok (.ifCond .eq 24, 3) := by decide +kernel
theorem dX9_given_8 : decode cX9_given 8 = .ok (.iload_n 3, 1) := by decide +kernel
theorem dX9_given_9 : decode cX9_given 9 = .ok (.aload_n 0, 1) := by decide +kernel
theorem dX9_given_10 : decode cX9_given 10 = .ok (.getfield 30, 3) := by decide +kernel
theorem dX9_given_13 : decode cX9_given 13 = .ok (.if_icmp .gt 16, 3) := by decide +kernel
theorem dX9_given_16 : decode cX9_given 16 = .ok (.aload_n 0, 1) := by decide +kernel
theorem dX9_given_17 : decode cX9_given 17 = .ok (.getfield 9, 3) := by decide +kernel
theorem dX9_given_20 : decode cX9_given 20 = .ok (.iload_n 2, 1) := by decide +kernel
theorem dX9_given_21 : decode cX9_given 21 = .ok (.iaload, 1) := by decide +kernel
theorem dX9_given_22 : decode cX9_given 22 = .ok (.iload_n 3, 1) := by decide +kernel
theorem dX9_given_23 : decode cX9_given 23 = .ok (.iadd, 1) := by decide +kernel
theorem dX9_given_24 : decode cX9_given 24 = .ok (.bipush 99, 2) := by decide +kernel
theorem dX9_given_26 : decode cX9_given 26 = .ok (.if_icmp .le 5, 3) := by decide +kernel
theorem dX9_given_29 : decode cX9_given 29 = .ok (.iconst 0, 1) := by decide +kernel
theorem dX9_given_30 : decode cX9_given 30 = .ok (.ireturn, 1) := by decide +kernel
theorem dX9_given_31 : decode cX9_given 31 = .ok (.aload_n 0, 1) := by decide +kernel
theorem dX9_given_32 : decode cX9_given 32 = .ok (.dup, 1) := by decide +kernel
theorem dX9_given_33 : decode cX9_given 33 = .ok (.getfield 30, 3) := by decide +kernel
theorem dX9_given_36 : decode cX9_given 36 = .ok (.iload_n 3, 1) := by decide +kernel
theorem dX9_given_37 : decode cX9_given 37 = .ok (.isub, 1) := by decide +kernel
theorem dX9_given_38 : decode cX9_given 38 = .ok (.putfield 30, 3) := by decide +kernel
theorem dX9_given_41 : decode cX9_given 41 = .ok (.aload_n 0, 1) := by decide +kernel
theorem dX9_given_42 : decode cX9_given 42 = .ok (.getfield 9, 3) := by decide +kernel
theorem dX9_given_45 : decode cX9_given 45 = .ok (.iload_n 2, 1) := by decide +kernel
theorem dX9_given_46 : decode cX9_given 46 = .ok (.dup2, 1) := by decide +kernel
theorem dX9_given_47 : decode cX9_given 47 = .ok (.iaload, 1) := by decide +kernel
theorem dX9_given_48 : decode cX9_given 48 = .ok (.iload_n 3, 1) := by decide +kernel
theorem dX9_given_49 : decode cX9_given 49 = .ok (.iadd, 1) := by decide +kernel
theorem dX9_given_50 : decode cX9_given 50 = .ok (.iastore, 1) := by decide +kernel
theorem dX9_given_51 : decode cX9_given 51 = .ok (.iconst 1, 1) := by decide +kernel
theorem dX9_given_52 : decode cX9_given 52 = .ok (.ireturn, 1) := by decide +kernel
def is_X9_given : Nat → List Nat := fun d => []
set_option maxRecDepth 100000 in
def b_X9_given_29 (J : Nat → List qV → List qV → qW → Prop) (Q : qR) : qK := x_int 0 (x_zret Q)
set_option maxRecDepth 100000 in
theorem s_X9_given_29 {p : Program} {l : Launch} {e : Env} {R : Room} {s : State} {m : MethodId} {args : Array Value} {below : List Frame} {meth : Method} {c : Code} {nW : Nat} {dC : Nat → ClassId} {dI : Nat → Nat → Nat} {k : Nat → ClassId} {g : Nat → Nat} {A : Nat → Prop} {J : Nat → List qV → List qV → qW → Prop} {Q : qR} (X : q_X p R s m args meth c cX9_given 4 nW 1 21 RX9 (some .boolean) dC dI k g A) (hJ : ∀ d : Nat, q_Sd p l e R s m args below meth c 4 nW dC dI k g A (MQ below (q_post (dC, dI) k g nW Q A) args s 0 0 A) d (x_cut (is_X9_given d) (J d))) : q_Sd p l e R s m args below meth c 4 nW dC dI k g A (MQ below (q_post (dC, dI) k g nW Q A) args s 0 0 A) 29 (b_X9_given_29 J Q) := by
  unfold b_X9_given_29
  refine s_iconst X ⟨by decide, by decide⟩ dX9_given_29 ?_
  exact s_zret X dX9_given_30
set_option maxRecDepth 100000 in
def b_X9_given_0 (J : Nat → List qV → List qV → qW → Prop) (Q : qR) : qK := x_aload 1 (x_iload 2 (x_callr (some 0) 2 spr_X0_isPoor (x_if_eq (b_X9_given_29 J Q) (x_iload 3 (x_aload 0 (x_get 9 3 (x_icmp_gt (b_X9_given_29 J Q) (x_aload 0 (x_get 9 0 (x_iload 2 (x_iald (x_iload 3 (x_iadd (x_int 99 (x_icmp_le (x_aload 0 (x_dup (x_get 9 3 (x_iload 3 (x_isub (x_put 9 3 q_oki (x_nw (x_aload 0 (x_get 9 0 (x_iload 2 (x_dup2 (x_iald (x_iload 3 (x_iadd (x_iast (x_nw (x_int 1 (x_zret Q)))))))))))))))))) (b_X9_given_29 J Q))))))))))))))))
set_option maxRecDepth 100000 in
theorem s_X9_given_0 {p : Program} {l : Launch} {e : Env} {R : Room} {s : State} {m : MethodId} {args : Array Value} {below : List Frame} {meth : Method} {c : Code} {nW : Nat} {dC : Nat → ClassId} {dI : Nat → Nat → Nat} {k : Nat → ClassId} {g : Nat → Nat} {A : Nat → Prop} {J : Nat → List qV → List qV → qW → Prop} {Q : qR} (X : q_X p R s m args meth c cX9_given 4 nW 1 21 RX9 (some .boolean) dC dI k g A) (hJ : ∀ d : Nat, q_Sd p l e R s m args below meth c 4 nW dC dI k g A (MQ below (q_post (dC, dI) k g nW Q A) args s 0 0 A) d (x_cut (is_X9_given d) (J d))) : q_Sd p l e R s m args below meth c 4 nW dC dI k g A (MQ below (q_post (dC, dI) k g nW Q A) args s 0 0 A) 0 (b_X9_given_0 J Q) := by
  unfold b_X9_given_0
  refine s_aload_n X rfl dX9_given_0 ?_
  refine s_iload_n X rfl dX9_given_1 ?_
  refine s_callVr X (m_X0_isPoor l) tw_592 tw_593 tw_594 tw_122 tw_595 rfl (by decide +kernel) ⟨by decide, by decide⟩ dX9_given_2 ?_
  refine s_if_eq X (tgt := 29) dX9_given_5 (by decide) ?_ ?_
  · exact s_X9_given_29 X hJ
  · refine s_iload_n X rfl dX9_given_8 ?_
    refine s_aload_n X rfl dX9_given_9 ?_
    refine s_get X (T := TX9) (C := RX9) (N := 5) tu_X9 rfl (by decide) tw_294 dX9_given_10 ?_
    refine s_icmp_gt X (tgt := 29) dX9_given_13 (by decide) ?_ ?_
    · exact s_X9_given_29 X hJ
    · refine s_aload_n X rfl dX9_given_16 ?_
      refine s_get X (T := TX9) (C := RX9) (N := 5) tu_X9 rfl (by decide) tw_291 dX9_given_17 ?_
      refine s_iload_n X rfl dX9_given_20 ?_
      refine s_iald X dX9_given_21 ?_
      refine s_iload_n X rfl dX9_given_22 ?_
      refine s_iadd X dX9_given_23 ?_
      refine s_bipush X ⟨by decide, by decide⟩ (by decide) dX9_given_24 ?_
      refine s_icmp_le X (tgt := 31) dX9_given_26 (by decide) ?_ ?_
      · refine s_aload_n X rfl dX9_given_31 ?_
        refine s_dup X dX9_given_32 ?_
        refine s_get X (T := TX9) (C := RX9) (N := 5) tu_X9 rfl (by decide) tw_294 dX9_given_33 ?_
        refine s_iload_n X rfl dX9_given_36 ?_
        refine s_isub X dX9_given_37 ?_
        refine s_put X (T := TX9) (C := RX9) (N := 5) tu_X9 tyX9_ok nmX9 rfl (by decide) tw_294 rfl (by decide +kernel) q_oki_t dX9_given_38 ?_
        refine s_nw ?_
        refine s_aload_n X rfl dX9_given_41 ?_
        refine s_get X (T := TX9) (C := RX9) (N := 5) tu_X9 rfl (by decide) tw_291 dX9_given_42 ?_
        refine s_iload_n X rfl dX9_given_45 ?_
        refine s_dup2 X dX9_given_46 ?_
        refine s_iald X dX9_given_47 ?_
        refine s_iload_n X rfl dX9_given_48 ?_
        refine s_iadd X dX9_given_49 ?_
        refine s_iast X dX9_given_50 ?_
        refine s_nw ?_
        refine s_iconst X ⟨by decide, by decide⟩ dX9_given_51 ?_
        exact s_zret X dX9_given_52
      · exact s_X9_given_29 X hJ

def sp_X9_given : qS := fun av w Q => ∃ (h1 : Nat → Int) (h2 : Nat → Int) (h3 : Nat → Int) (p0 : Int) (s0 : Int) (f1 : Nat → Int) (f2 : Nat → Int) (f3 : Nat → Int) (f4 : Nat → Int) (f5 : Nat → Int) (f6 : Nat → Int) (f7 : Nat → Int) (u0 : Int) (u1 : Int) (u2 : Int) (u3 : Int) (u4 : Int) (a : Int) (b : Int), av = [q2 0, q2 4, q1 a, q1 b] ∧ w = (wKo 0 h1 h2 h3 p0 s0 ++ wBo 4 f1 f2 f3 f4 f5 f6 f7 u0 u1 u2 u3 u4) ∧ (0 ≤ u0 ∧ u0 ≤ 8) ∧ (0 ≤ a ∧ a < 8) ∧ (∀ (r : Int) (x1 : Nat → Int) (x2 : Nat → Int) (x3 : Nat → Int) (x4 : Int) (x5 : Int), (r = 0 ∨ r = 1) → Q (some (q1 r)) ((wKo 0 x1 x2 x3 x4 x5 ++ wBo 4 f1 f2 f3 f4 f5 f6 f7 u0 u1 u2 u3 u4)))
set_option maxHeartbeats 4000000 in
set_option maxRecDepth 100000 in
theorem m_X9_given (l : Launch) : q_M l yX9_given cX9_given 4 (some .boolean) 1 21 sp_X9_given := by
  refine q_meth (by decide) (fun av w Q h => by obtain ⟨h1, h2, h3, p0, s0, f1, f2, f3, f4, f5, f6, f7, u0, u1, u2, u3, u4, a, b, rfl, rfl, hu0, ha, hQ⟩ := h; exact Nat.le_of_ble_eq_true rfl) ?_
  intro p e R s m args below meth c dC dI k g A av w Q hsp oka okw X
  obtain ⟨h1, h2, h3, p0, s0, f1, f2, f3, f4, f5, f6, f7, u0, u1, u2, u3, u4, a, b, rfl, rfl, hu0, ha, hQ⟩ := hsp
  have o_a : -2147483648 ≤ a ∧ a ≤ 2147483647 := oka _ (List.mem_of_getElem? (i := 2) rfl)
  have o_b : -2147483648 ≤ b ∧ b ≤ 2147483647 := oka _ (List.mem_of_getElem? (i := 3) rfl)
  refine s_mono (s_X9_given_0 X (J := fun _ _ _ _ => False) (fun d => s_cutF)) ?_
  rintro lv st w' ⟨rfl, rfl, rfl⟩
  refine Exists.intro [4, 5, 6, 7, 8, 9, 10, 11] (Exists.intro [q2 0, q1 _] (Exists.intro (wB _ _ _ _ _ _ _ _ _ _ _ _) (And.intro rfl (And.intro rfl (And.intro rfl (And.intro ⟨⟨_, rfl⟩, rfl⟩ ?_))))))
  refine Exists.intro _ (Exists.intro _ (Exists.intro _ (Exists.intro _ (Exists.intro _ (Exists.intro _ (Exists.intro _ (Exists.intro _ (Exists.intro _ (Exists.intro _ (Exists.intro _ (Exists.intro _ (Exists.intro _ (And.intro rfl (And.intro rfl (?_)))))))))))))))
  intro z2 h2
  apply And.intro
  · intro h5
    apply And.intro
    · first | exact Or.inl rfl | exact Or.inr rfl | omega
    exact hQ _ _ _ _ _ _ (by first | omega | assumption | exact q_rg_up (by assumption) (by omega) | exact q_rg_up (q_rg_up (by assumption) (by omega)) (by omega) | exact q_rg_cpy (by assumption) (by assumption))
  · intro h5
    apply And.intro
    · intro h13
      apply And.intro
      · first | exact Or.inl rfl | exact Or.inr rfl | omega
      exact hQ _ _ _ _ _ _ (by first | omega | assumption | exact q_rg_up (by assumption) (by omega) | exact q_rg_up (q_rg_up (by assumption) (by omega)) (by omega) | exact q_rg_cpy (by assumption) (by assumption))
    · intro h13
      apply And.intro
      · exact ⟨by omega, by omega⟩
      intro z21 h21
      intro z23 h23
      first | replace h23 := e_add h23 (by omega) | replace h23 := e_rng h23
      apply And.intro
      · intro h26
        intro z37 h37
        first | replace h37 := e_sub h37 (by omega) | replace h37 := e_rng h37
        apply And.intro
        · exact trivial
        apply And.intro
        · exact ⟨by omega, by omega⟩
        intro z47 h47
        intro z49 h49
        first | replace h49 := e_add h49 (by omega) | replace h49 := e_rng h49
        apply And.intro
        · exact ⟨by omega, by omega⟩
        apply And.intro
        · first | exact Or.inl rfl | exact Or.inr rfl | omega
        exact hQ _ _ _ _ _ _ (by first | omega | assumption | exact q_rg_up (by assumption) (by omega) | exact q_rg_up (q_rg_up (by assumption) (by omega)) (by omega) | exact q_rg_cpy (by assumption) (by assumption))
      · intro h26
        apply And.intro
        · first | exact Or.inl rfl | exact Or.inr rfl | omega
        exact hQ _ _ _ _ _ _ (by first | omega | assumption | exact q_rg_up (by assumption) (by omega) | exact q_rg_up (q_rg_up (by assumption) (by omega)) (by omega) | exact q_rg_cpy (by assumption) (by assumption))

theorem dX9_gifted_0 : decode cX9_gifted 0 = .ok (.aload_n 1, 1) := by decide +kernel
theorem dX9_gifted_1 : decode cX9_gifted 1 = .ok (.iload_n 3, 1) := by decide +kernel
theorem dX9_gifted_2 : decode cX9_gifted 2 = .ok (.invokevirtual 70, 3) := by decide +kernel
theorem dX9_gifted_5 : decode cX9_gifted 5 = .ok (.ifCond .eq 35, 3) := by decide +kernel
theorem dX9_gifted_8 : decode cX9_gifted 8 = .ok (.iload_n 2, 1) := by decide +kernel
theorem dX9_gifted_9 : decode cX9_gifted 9 = .ok (.iload_n 3, 1) := by decide +kernel
theorem dX9_gifted_10 : decode cX9_gifted 10 = .ok (.if_icmp .eq 30, 3) := by decide +kernel
theorem dX9_gifted_13 : decode cX9_gifted 13 = .ok (.aload_n 0, 1) := by decide +kernel
theorem dX9_gifted_14 : decode cX9_gifted 14 = .ok (.getfield 9, 3) := by decide +kernel
theorem dX9_gifted_17 : decode cX9_gifted 17 = .ok (.iload_n 2, 1) := by decide +kernel
theorem dX9_gifted_18 : decode cX9_gifted 18 = .ok (.iaload, 1) := by decide +kernel
theorem dX9_gifted_19 : decode cX9_gifted 19 = .ok (.iload 4, 2) := by decide +kernel
theorem dX9_gifted_21 : decode cX9_gifted 21 = .ok (.isub, 1) := by decide +kernel
theorem dX9_gifted_22 : decode cX9_gifted 22 = .ok (.iconst 1, 1) := by decide +kernel
theorem dX9_gifted_23 : decode cX9_gifted 23 = .ok (.if_icmp .lt 17, 3) := by decide +kernel
theorem dX9_gifted_26 : decode cX9_gifted 26 = .ok (.aload_n 0, 1) := by decide +kernel
theorem dX9_gifted_27 : decode cX9_gifted 27 = .ok (.getfield 9, 3) := by decide +kernel
theorem dX9_gifted_30 : decode cX9_gifted 30 = .ok (.iload_n 3, 1) := by decide +kernel
theorem dX9_gifted_31 : decode cX9_gifted 31 = .ok (.iaload, 1) := by decide +kernel
theorem dX9_gifted_32 : decode cX9_gifted 32 = .ok (.iload 4, 2) := by decide +kernel
theorem dX9_gifted_34 : decode cX9_gifted 34 = .ok (.iadd, 1) := by decide +kernel
theorem dX9_gifted_35 : decode cX9_gifted 35 = .ok (.bipush 99, 2) := by decide +kernel
theorem dX9_gifted_37 : decode cX9_gifted 37 = .ok (.if_icmp .le 5, 3) := by decide +kernel
theorem dX9_gifted_40 : decode cX9_gifted 40 = .ok (.iconst 0, 1) := by decide +kernel
theorem dX9_gifted_41 : decode cX9_gifted 41 = .ok (.ireturn, 1) := by decide +kernel
theorem dX9_gifted_42 : decode cX9_gifted 42 = .ok (.aload_n 0, 1) := by decide +kernel
theorem dX9_gifted_43 : decode cX9_gifted 43 = .ok (.getfield 9, 3) := by decide +kernel
theorem dX9_gifted_46 : decode cX9_gifted 46 = .ok (.iload_n 2, 1) := by decide +kernel
theorem dX9_gifted_47 : decode cX9_gifted 47 = .ok (.dup2, 1) := by decide +kernel
theorem dX9_gifted_48 : decode cX9_gifted 48 = .ok (.iaload, 1) := by decide +kernel
theorem dX9_gifted_49 : decode cX9_gifted 49 = .ok (.iload 4, 2) := by decide +kernel
theorem dX9_gifted_51 : decode cX9_gifted 51 = .ok (.isub, 1) := by decide +kernel
theorem dX9_gifted_52 : decode cX9_gifted 52 = .ok (.iastore, 1) := by decide +kernel
theorem dX9_gifted_53 : decode cX9_gifted 53 = .ok (.aload_n 0, 1) := by decide +kernel
theorem dX9_gifted_54 : decode cX9_gifted 54 = .ok (.getfield 9, 3) := by decide +kernel
theorem dX9_gifted_57 : decode cX9_gifted 57 = .ok (.iload_n 3, 1) := by decide +kernel
theorem dX9_gifted_58 : decode cX9_gifted 58 = .ok (.dup2, 1) := by decide +kernel
theorem dX9_gifted_59 : decode cX9_gifted 59 = .ok (.iaload, 1) := by decide +kernel
theorem dX9_gifted_60 : decode cX9_gifted 60 = .ok (.iload 4, 2) := by decide +kernel
theorem dX9_gifted_62 : decode cX9_gifted 62 = .ok (.iadd, 1) := by decide +kernel
theorem dX9_gifted_63 : decode cX9_gifted 63 = .ok (.iastore, 1) := by decide +kernel
theorem dX9_gifted_64 : decode cX9_gifted 64 = .ok (.iconst 1, 1) := by decide +kernel
theorem dX9_gifted_65 : decode cX9_gifted 65 = .ok (.ireturn, 1) := by decide +kernel
def is_X9_gifted : Nat → List Nat := fun d => []
set_option maxRecDepth 100000 in
def b_X9_gifted_40 (J : Nat → List qV → List qV → qW → Prop) (Q : qR) : qK := x_int 0 (x_zret Q)
set_option maxRecDepth 100000 in
theorem s_X9_gifted_40 {p : Program} {l : Launch} {e : Env} {R : Room} {s : State} {m : MethodId} {args : Array Value} {below : List Frame} {meth : Method} {c : Code} {nW : Nat} {dC : Nat → ClassId} {dI : Nat → Nat → Nat} {k : Nat → ClassId} {g : Nat → Nat} {A : Nat → Prop} {J : Nat → List qV → List qV → qW → Prop} {Q : qR} (X : q_X p R s m args meth c cX9_gifted 5 nW 1 21 RX9 (some .boolean) dC dI k g A) (hJ : ∀ d : Nat, q_Sd p l e R s m args below meth c 5 nW dC dI k g A (MQ below (q_post (dC, dI) k g nW Q A) args s 0 0 A) d (x_cut (is_X9_gifted d) (J d))) : q_Sd p l e R s m args below meth c 5 nW dC dI k g A (MQ below (q_post (dC, dI) k g nW Q A) args s 0 0 A) 40 (b_X9_gifted_40 J Q) := by
  unfold b_X9_gifted_40
  refine s_iconst X ⟨by decide, by decide⟩ dX9_gifted_40 ?_
  exact s_zret X dX9_gifted_41
set_option maxRecDepth 100000 in
def b_X9_gifted_0 (J : Nat → List qV → List qV → qW → Prop) (Q : qR) : qK := x_aload 1 (x_iload 3 (x_callr (some 0) 2 spr_X0_has (x_if_eq (b_X9_gifted_40 J Q) (x_iload 2 (x_iload 3 (x_icmp_eq (b_X9_gifted_40 J Q) (x_aload 0 (x_get 9 0 (x_iload 2 (x_iald (x_iload 4 (x_isub (x_int 1 (x_icmp_lt (b_X9_gifted_40 J Q) (x_aload 0 (x_get 9 0 (x_iload 3 (x_iald (x_iload 4 (x_iadd (x_int 99 (x_icmp_le (x_aload 0 (x_get 9 0 (x_iload 2 (x_dup2 (x_iald (x_iload 4 (x_isub (x_iast (x_nw (x_aload 0 (x_get 9 0 (x_iload 3 (x_dup2 (x_iald (x_iload 4 (x_iadd (x_iast (x_nw (x_int 1 (x_zret Q)))))))))))))))))))) (b_X9_gifted_40 J Q)))))))))))))))))))))))
set_option maxRecDepth 100000 in
theorem s_X9_gifted_0 {p : Program} {l : Launch} {e : Env} {R : Room} {s : State} {m : MethodId} {args : Array Value} {below : List Frame} {meth : Method} {c : Code} {nW : Nat} {dC : Nat → ClassId} {dI : Nat → Nat → Nat} {k : Nat → ClassId} {g : Nat → Nat} {A : Nat → Prop} {J : Nat → List qV → List qV → qW → Prop} {Q : qR} (X : q_X p R s m args meth c cX9_gifted 5 nW 1 21 RX9 (some .boolean) dC dI k g A) (hJ : ∀ d : Nat, q_Sd p l e R s m args below meth c 5 nW dC dI k g A (MQ below (q_post (dC, dI) k g nW Q A) args s 0 0 A) d (x_cut (is_X9_gifted d) (J d))) : q_Sd p l e R s m args below meth c 5 nW dC dI k g A (MQ below (q_post (dC, dI) k g nW Q A) args s 0 0 A) 0 (b_X9_gifted_0 J Q) := by
  unfold b_X9_gifted_0
  refine s_aload_n X rfl dX9_gifted_0 ?_
  refine s_iload_n X rfl dX9_gifted_1 ?_
  refine s_callVr X (m_X0_has l) tw_582 tw_399 tw_400 tw_122 tw_401 rfl (by decide +kernel) ⟨by decide, by decide⟩ dX9_gifted_2 ?_
  refine s_if_eq X (tgt := 40) dX9_gifted_5 (by decide) ?_ ?_
  · exact s_X9_gifted_40 X hJ
  · refine s_iload_n X rfl dX9_gifted_8 ?_
    refine s_iload_n X rfl dX9_gifted_9 ?_
    refine s_icmp_eq X (tgt := 40) dX9_gifted_10 (by decide) ?_ ?_
    · exact s_X9_gifted_40 X hJ
    · refine s_aload_n X rfl dX9_gifted_13 ?_
      refine s_get X (T := TX9) (C := RX9) (N := 5) tu_X9 rfl (by decide) tw_291 dX9_gifted_14 ?_
      refine s_iload_n X rfl dX9_gifted_17 ?_
      refine s_iald X dX9_gifted_18 ?_
      refine s_iload X dX9_gifted_19 ?_
      refine s_isub X dX9_gifted_21 ?_
      refine s_iconst X ⟨by decide, by decide⟩ dX9_gifted_22 ?_
      refine s_icmp_lt X (tgt := 40) dX9_gifted_23 (by decide) ?_ ?_
      · exact s_X9_gifted_40 X hJ
      · refine s_aload_n X rfl dX9_gifted_26 ?_
        refine s_get X (T := TX9) (C := RX9) (N := 5) tu_X9 rfl (by decide) tw_291 dX9_gifted_27 ?_
        refine s_iload_n X rfl dX9_gifted_30 ?_
        refine s_iald X dX9_gifted_31 ?_
        refine s_iload X dX9_gifted_32 ?_
        refine s_iadd X dX9_gifted_34 ?_
        refine s_bipush X ⟨by decide, by decide⟩ (by decide) dX9_gifted_35 ?_
        refine s_icmp_le X (tgt := 42) dX9_gifted_37 (by decide) ?_ ?_
        · refine s_aload_n X rfl dX9_gifted_42 ?_
          refine s_get X (T := TX9) (C := RX9) (N := 5) tu_X9 rfl (by decide) tw_291 dX9_gifted_43 ?_
          refine s_iload_n X rfl dX9_gifted_46 ?_
          refine s_dup2 X dX9_gifted_47 ?_
          refine s_iald X dX9_gifted_48 ?_
          refine s_iload X dX9_gifted_49 ?_
          refine s_isub X dX9_gifted_51 ?_
          refine s_iast X dX9_gifted_52 ?_
          refine s_nw ?_
          refine s_aload_n X rfl dX9_gifted_53 ?_
          refine s_get X (T := TX9) (C := RX9) (N := 5) tu_X9 rfl (by decide) tw_291 dX9_gifted_54 ?_
          refine s_iload_n X rfl dX9_gifted_57 ?_
          refine s_dup2 X dX9_gifted_58 ?_
          refine s_iald X dX9_gifted_59 ?_
          refine s_iload X dX9_gifted_60 ?_
          refine s_iadd X dX9_gifted_62 ?_
          refine s_iast X dX9_gifted_63 ?_
          refine s_nw ?_
          refine s_iconst X ⟨by decide, by decide⟩ dX9_gifted_64 ?_
          exact s_zret X dX9_gifted_65
        · exact s_X9_gifted_40 X hJ

def sp_X9_gifted : qS := fun av w Q => ∃ (h1 : Nat → Int) (h2 : Nat → Int) (h3 : Nat → Int) (p0 : Int) (s0 : Int) (f1 : Nat → Int) (f2 : Nat → Int) (f3 : Nat → Int) (f4 : Nat → Int) (f5 : Nat → Int) (f6 : Nat → Int) (f7 : Nat → Int) (u0 : Int) (u1 : Int) (u2 : Int) (u3 : Int) (u4 : Int) (a : Int) (b : Int) (q : Int), av = [q2 0, q2 4, q1 a, q1 b, q1 q] ∧ w = (wKo 0 h1 h2 h3 p0 s0 ++ wBo 4 f1 f2 f3 f4 f5 f6 f7 u0 u1 u2 u3 u4) ∧ (0 ≤ u0 ∧ u0 ≤ 8) ∧ (0 ≤ a ∧ a < 8) ∧ (∀ (r : Int) (x1 : Nat → Int) (x2 : Nat → Int) (x3 : Nat → Int) (x4 : Int) (x5 : Int), (r = 0 ∨ r = 1) → Q (some (q1 r)) ((wKo 0 x1 x2 x3 x4 x5 ++ wBo 4 f1 f2 f3 f4 f5 f6 f7 u0 u1 u2 u3 u4)))
set_option maxHeartbeats 4000000 in
set_option maxRecDepth 100000 in
theorem m_X9_gifted (l : Launch) : q_M l yX9_gifted cX9_gifted 5 (some .boolean) 1 21 sp_X9_gifted := by
  refine q_meth (by decide) (fun av w Q h => by obtain ⟨h1, h2, h3, p0, s0, f1, f2, f3, f4, f5, f6, f7, u0, u1, u2, u3, u4, a, b, q, rfl, rfl, hu0, ha, hQ⟩ := h; exact Nat.le_of_ble_eq_true rfl) ?_
  intro p e R s m args below meth c dC dI k g A av w Q hsp oka okw X
  obtain ⟨h1, h2, h3, p0, s0, f1, f2, f3, f4, f5, f6, f7, u0, u1, u2, u3, u4, a, b, q, rfl, rfl, hu0, ha, hQ⟩ := hsp
  have o_a : -2147483648 ≤ a ∧ a ≤ 2147483647 := oka _ (List.mem_of_getElem? (i := 2) rfl)
  have o_b : -2147483648 ≤ b ∧ b ≤ 2147483647 := oka _ (List.mem_of_getElem? (i := 3) rfl)
  have o_q : -2147483648 ≤ q ∧ q ≤ 2147483647 := oka _ (List.mem_of_getElem? (i := 4) rfl)
  refine s_mono (s_X9_gifted_0 X (J := fun _ _ _ _ => False) (fun d => s_cutF)) ?_
  rintro lv st w' ⟨rfl, rfl, rfl⟩
  refine Exists.intro [4, 5, 6, 7, 8, 9, 10, 11] (Exists.intro [q2 0, q1 _] (Exists.intro (wB _ _ _ _ _ _ _ _ _ _ _ _) (And.intro rfl (And.intro rfl (And.intro rfl (And.intro ⟨⟨_, rfl⟩, rfl⟩ ?_))))))
  refine Exists.intro _ (Exists.intro _ (Exists.intro _ (Exists.intro _ (Exists.intro _ (Exists.intro _ (Exists.intro _ (Exists.intro _ (Exists.intro _ (Exists.intro _ (Exists.intro _ (Exists.intro _ (Exists.intro _ (And.intro rfl (And.intro rfl (?_)))))))))))))))
  intro z2 h2
  apply And.intro
  · intro h5
    apply And.intro
    · first | exact Or.inl rfl | exact Or.inr rfl | omega
    exact hQ _ _ _ _ _ _ (by first | omega | assumption | exact q_rg_up (by assumption) (by omega) | exact q_rg_up (q_rg_up (by assumption) (by omega)) (by omega) | exact q_rg_cpy (by assumption) (by assumption))
  · intro h5
    apply And.intro
    · intro h10
      apply And.intro
      · first | exact Or.inl rfl | exact Or.inr rfl | omega
      exact hQ _ _ _ _ _ _ (by first | omega | assumption | exact q_rg_up (by assumption) (by omega) | exact q_rg_up (q_rg_up (by assumption) (by omega)) (by omega) | exact q_rg_cpy (by assumption) (by assumption))
    · intro h10
      apply And.intro
      · exact ⟨by omega, by omega⟩
      intro z18 h18
      intro z21 h21
      first | replace h21 := e_sub h21 (by omega) | replace h21 := e_rng h21
      apply And.intro
      · intro h23
        apply And.intro
        · first | exact Or.inl rfl | exact Or.inr rfl | omega
        exact hQ _ _ _ _ _ _ (by first | omega | assumption | exact q_rg_up (by assumption) (by omega) | exact q_rg_up (q_rg_up (by assumption) (by omega)) (by omega) | exact q_rg_cpy (by assumption) (by assumption))
      · intro h23
        apply And.intro
        · exact ⟨by omega, by omega⟩
        intro z31 h31
        intro z34 h34
        first | replace h34 := e_add h34 (by omega) | replace h34 := e_rng h34
        apply And.intro
        · intro h37
          apply And.intro
          · exact ⟨by omega, by omega⟩
          intro z48 h48
          intro z51 h51
          first | replace h51 := e_sub h51 (by omega) | replace h51 := e_rng h51
          apply And.intro
          · exact ⟨by omega, by omega⟩
          apply And.intro
          · exact ⟨by omega, by omega⟩
          intro z59 h59
          intro z62 h62
          first | replace h62 := e_add h62 (by omega) | replace h62 := e_rng h62
          apply And.intro
          · exact ⟨by omega, by omega⟩
          apply And.intro
          · first | exact Or.inl rfl | exact Or.inr rfl | omega
          exact hQ _ _ _ _ _ _ (by first | omega | assumption | exact q_rg_up (by assumption) (by omega) | exact q_rg_up (q_rg_up (by assumption) (by omega)) (by omega) | exact q_rg_cpy (by assumption) (by assumption))
        · intro h37
          apply And.intro
          · first | exact Or.inl rfl | exact Or.inr rfl | omega
          exact hQ _ _ _ _ _ _ (by first | omega | assumption | exact q_rg_up (by assumption) (by omega) | exact q_rg_up (q_rg_up (by assumption) (by omega)) (by omega) | exact q_rg_cpy (by assumption) (by assumption))
