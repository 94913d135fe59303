theorem dX9_act_0 : decode cX9_act 0 = .ok (.aload_n 1, 1) := by decide +kernel
theorem dX9_act_1 : decode cX9_act 1 = .ok (.iload_n 3, 1) := by decide +kernel
theorem dX9_act_2 : decode cX9_act 2 = .ok (.invokevirtual 70, 3) := by decide +kernel
theorem dX9_act_5 : decode cX9_act 5 = .ok (.ifCond .ne 5, 3) := by decide +kernel
theorem dX9_act_8 : decode cX9_act 8 = .ok (.iconst 0, 1) := by decide +kernel
theorem dX9_act_9 : decode cX9_act 9 = .ok (.ireturn, 1) := by decide +kernel
theorem dX9_act_10 : decode cX9_act 10 = .ok (.iload_n 2, 1) := by decide +kernel
theorem dX9_act_11 : decode cX9_act 11 = .ok (.tableswitch 89 0 3 #[29, 38, 47, 56], 29) := by decide +kernel
theorem dX9_act_40 : decode cX9_act 40 = .ok (.aload_n 0, 1) := by decide +kernel
theorem dX9_act_41 : decode cX9_act 41 = .ok (.aload_n 1, 1) := by decide +kernel
theorem dX9_act_42 : decode cX9_act 42 = .ok (.iload_n 3, 1) := by decide +kernel
theorem dX9_act_43 : decode cX9_act 43 = .ok (.iload 4, 2) := by decide +kernel
theorem dX9_act_45 : decode cX9_act 45 = .ok (.invokevirtual 74, 3) := by decide +kernel
theorem dX9_act_48 : decode cX9_act 48 = .ok (.ireturn, 1) := by decide +kernel
theorem dX9_act_49 : decode cX9_act 49 = .ok (.aload_n 0, 1) := by decide +kernel
theorem dX9_act_50 : decode cX9_act 50 = .ok (.aload_n 1, 1) := by decide +kernel
theorem dX9_act_51 : decode cX9_act 51 = .ok (.iload_n 3, 1) := by decide +kernel
theorem dX9_act_52 : decode cX9_act 52 = .ok (.iload 4, 2) := by decide +kernel
theorem dX9_act_54 : decode cX9_act 54 = .ok (.invokevirtual 78, 3) := by decide +kernel
theorem dX9_act_57 : decode cX9_act 57 = .ok (.ireturn, 1) := by decide +kernel
theorem dX9_act_58 : decode cX9_act 58 = .ok (.aload_n 0, 1) := by decide +kernel
theorem dX9_act_59 : decode cX9_act 59 = .ok (.aload_n 1, 1) := by decide +kernel
theorem dX9_act_60 : decode cX9_act 60 = .ok (.iload_n 3, 1) := by decide +kernel
theorem dX9_act_61 : decode cX9_act 61 = .ok (.iload 4, 2) := by decide +kernel
theorem dX9_act_63 : decode cX9_act 63 = .ok (.invokevirtual 81, 3) := by decide +kernel
theorem dX9_act_66 : decode cX9_act 66 = .ok (.ireturn, 1) := by decide +kernel
theorem dX9_act_67 : decode cX9_act 67 = .ok (.aload_n 0, 1) := by decide +kernel
theorem dX9_act_68 : decode cX9_act 68 = .ok (.getfield 9, 3) := by decide +kernel
theorem dX9_act_71 : decode cX9_act 71 = .ok (.iload_n 3, 1) := by decide +kernel
theorem dX9_act_72 : decode cX9_act 72 = .ok (.dup2, 1) := by decide +kernel
theorem dX9_act_73 : decode cX9_act 73 = .ok (.iaload, 1) := by decide +kernel
theorem dX9_act_74 : decode cX9_act 74 = .ok (.iconst 0, 1) := by decide +kernel
theorem dX9_act_75 : decode cX9_act 75 = .ok (.iload 4, 2) := by decide +kernel
theorem dX9_act_77 : decode cX9_act 77 = .ok (.aload_n 1, 1) := by decide +kernel
theorem dX9_act_78 : decode cX9_act 78 = .ok (.getfield 21, 3) := by decide +kernel
theorem dX9_act_81 : decode cX9_act 81 = .ok (.iload_n 3, 1) := by decide +kernel
theorem dX9_act_82 : decode cX9_act 82 = .ok (.iaload, 1) := by decide +kernel
theorem dX9_act_83 : decode cX9_act 83 = .ok (.aload_n 0, 1) := by decide +kernel
theorem dX9_act_84 : decode cX9_act 84 = .ok (.getfield 9, 3) := by decide +kernel
theorem dX9_act_87 : decode cX9_act 87 = .ok (.iload_n 3, 1) := by decide +kernel
theorem dX9_act_88 : decode cX9_act 88 = .ok (.iaload, 1) := by decide +kernel
theorem dX9_act_89 : decode cX9_act 89 = .ok (.isub, 1) := by decide +kernel
theorem dX9_act_90 : decode cX9_act 90 = .ok (.invokestatic 84, 3) := by decide +kernel
theorem dX9_act_93 : decode cX9_act 93 = .ok (.invokestatic 90, 3) := by decide +kernel
theorem dX9_act_96 : decode cX9_act 96 = .ok (.iadd, 1) := by decide +kernel
theorem dX9_act_97 : decode cX9_act 97 = .ok (.iastore, 1) := by decide +kernel
theorem dX9_act_98 : decode cX9_act 98 = .ok (.iconst 1, 1) := by decide +kernel
theorem dX9_act_99 : decode cX9_act 99 = .ok (.ireturn, 1) := by decide +kernel
theorem dX9_act_100 : decode cX9_act 100 = .ok (.aload_n 0, 1) := by decide +kernel
theorem dX9_act_101 : decode cX9_act 101 = .ok (.aload_n 1, 1) := by decide +kernel
theorem dX9_act_102 : decode cX9_act 102 = .ok (.iload_n 3, 1) := by decide +kernel
theorem dX9_act_103 : decode cX9_act 103 = .ok (.iload 4, 2) := by decide +kernel
theorem dX9_act_105 : decode cX9_act 105 = .ok (.iload 5, 2) := by decide +kernel
theorem dX9_act_107 : decode cX9_act 107 = .ok (.invokevirtual 93, 3) := by decide +kernel
theorem dX9_act_110 : decode cX9_act 110 = .ok (.ireturn, 1) := by decide +kernel
def is_X9_act : Nat → List Nat := fun d => []
set_option maxRecDepth 100000 in
def b_X9_act_100 (J : Nat → List qV → List qV → qW → Prop) (Q : qR) : qK := x_aload 0 (x_aload 1 (x_iload 3 (x_iload 4 (x_iload 5 (x_call (some 9) 5 sp_X9_gifted (x_nw (x_zret Q)))))))
set_option maxRecDepth 100000 in
theorem s_X9_act_100 {p : Program} {l : Launch} {e : Env} {R : Room} {s : State} {m : MethodId} {args : Array Value} {below : List Frame} {meth : Method} {c : Code} {nW : Nat} {dC : Nat → ClassId} {dI : Nat → Nat → Nat} {k : Nat → ClassId} {g : Nat → Nat} {A : Nat → Prop} {J : Nat → List qV → List qV → qW → Prop} {Q : qR} (X : q_X p R s m args meth c cX9_act 6 nW 2 47 RX9 (some .boolean) dC dI k g A) (hJ : ∀ d : Nat, q_Sd p l e R s m args below meth c 6 nW dC dI k g A (MQ below (q_post (dC, dI) k g nW Q A) args s 0 0 A) d (x_cut (is_X9_act d) (J d))) : q_Sd p l e R s m args below meth c 6 nW dC dI k g A (MQ below (q_post (dC, dI) k g nW Q A) args s 0 0 A) 100 (b_X9_act_100 J Q) := by
  unfold b_X9_act_100
  refine s_aload_n X rfl dX9_act_100 ?_
  refine s_aload_n X rfl dX9_act_101 ?_
  refine s_iload_n X rfl dX9_act_102 ?_
  refine s_iload X dX9_act_103 ?_
  refine s_iload X dX9_act_105 ?_
  refine s_callV X (m_X9_gifted l) tw_598 tw_599 tw_1540 tw_129 tw_600 rfl (by decide +kernel) ⟨by decide, by decide⟩ dX9_act_107 ?_
  refine s_nw ?_
  exact s_zret X dX9_act_110
set_option maxRecDepth 100000 in
def b_X9_act_63 (J : Nat → List qV → List qV → qW → Prop) (Q : qR) : qK := x_call (some 9) 4 sp_X9_given (x_nw (x_zret Q))
set_option maxRecDepth 100000 in
theorem s_X9_act_63 {p : Program} {l : Launch} {e : Env} {R : Room} {s : State} {m : MethodId} {args : Array Value} {below : List Frame} {meth : Method} {c : Code} {nW : Nat} {dC : Nat → ClassId} {dI : Nat → Nat → Nat} {k : Nat → ClassId} {g : Nat → Nat} {A : Nat → Prop} {J : Nat → List qV → List qV → qW → Prop} {Q : qR} (X : q_X p R s m args meth c cX9_act 6 nW 2 47 RX9 (some .boolean) dC dI k g A) (hJ : ∀ d : Nat, q_Sd p l e R s m args below meth c 6 nW dC dI k g A (MQ below (q_post (dC, dI) k g nW Q A) args s 0 0 A) d (x_cut (is_X9_act d) (J d))) : q_Sd p l e R s m args below meth c 6 nW dC dI k g A (MQ below (q_post (dC, dI) k g nW Q A) args s 0 0 A) 63 (b_X9_act_63 J Q) := by
  unfold b_X9_act_63
  refine s_callV X (m_X9_given l) tw_589 tw_590 tw_1541 tw_129 tw_591 rfl (by decide +kernel) ⟨by decide, by decide⟩ dX9_act_63 ?_
  refine s_nw ?_
  exact s_zret X dX9_act_66
set_option maxRecDepth 100000 in
def b_X9_act_0 (J : Nat → List qV → List qV → qW → Prop) (Q : qR) : qK := x_aload 1 (x_iload 3 (x_callr (some 0) 2 spr_X0_has (x_if_ne (x_iload 2 (x_sw 0 3 [x_aload 0 (x_aload 1 (x_iload 3 (x_iload 4 (x_call (some 9) 4 sp_X9_fined (x_nw (x_zret Q)))))), x_aload 0 (x_aload 1 (x_iload 3 (x_iload 4 (x_call (some 9) 4 sp_X9_bailed (x_nw (x_zret Q)))))), x_aload 0 (x_aload 1 (x_iload 3 (x_iload 4 (b_X9_act_63 J Q)))), x_aload 0 (x_get 9 0 (x_iload 3 (x_dup2 (x_iald (x_int 0 (x_iload 4 (x_aload 1 (x_get 0 0 (x_iload 3 (x_iald (x_aload 0 (x_get 9 0 (x_iload 3 (x_iald (x_isub (x_min (x_max (x_iadd (x_iast (x_nw (x_int 1 (x_zret Q))))))))))))))))))))))] (b_X9_act_100 J Q))) (x_int 0 (x_zret Q)))))
set_option maxRecDepth 100000 in
theorem s_X9_act_0 {p : Program} {l : Launch} {e : Env} {R : Room} {s : State} {m : MethodId} {args : Array Value} {below : List Frame} {meth : Method} {c : Code} {nW : Nat} {dC : Nat → ClassId} {dI : Nat → Nat → Nat} {k : Nat → ClassId} {g : Nat → Nat} {A : Nat → Prop} {J : Nat → List qV → List qV → qW → Prop} {Q : qR} (X : q_X p R s m args meth c cX9_act 6 nW 2 47 RX9 (some .boolean) dC dI k g A) (hJ : ∀ d : Nat, q_Sd p l e R s m args below meth c 6 nW dC dI k g A (MQ below (q_post (dC, dI) k g nW Q A) args s 0 0 A) d (x_cut (is_X9_act d) (J d))) : q_Sd p l e R s m args below meth c 6 nW dC dI k g A (MQ below (q_post (dC, dI) k g nW Q A) args s 0 0 A) 0 (b_X9_act_0 J Q) := by
  unfold b_X9_act_0
  refine s_aload_n X rfl dX9_act_0 ?_
  refine s_iload_n X rfl dX9_act_1 ?_
  refine s_callVr X (m_X0_has l) tw_582 tw_399 tw_400 tw_122 tw_401 rfl (by decide +kernel) ⟨by decide, by decide⟩ dX9_act_2 ?_
  refine s_if_ne X (tgt := 10) dX9_act_5 (by decide) ?_ ?_
  · refine s_iload_n X rfl dX9_act_10 ?_
    refine s_sw X (ts := [40, 49, 58, 67]) (td := 100) dX9_act_11 (by decide) (by decide) (by decide) rfl ?_ ?_
    · intro i t K ht hK
      match i, ht, hK with
      | 0, ht, hK =>
        cases ht
        cases hK
        refine s_aload_n X rfl dX9_act_40 ?_
        refine s_aload_n X rfl dX9_act_41 ?_
        refine s_iload_n X rfl dX9_act_42 ?_
        refine s_iload X dX9_act_43 ?_
        refine s_callV X (m_X9_fined l) tw_583 tw_584 tw_1539 tw_129 tw_585 rfl (by decide +kernel) ⟨by decide, by decide⟩ dX9_act_45 ?_
        refine s_nw ?_
        exact s_zret X dX9_act_48
      | 1, ht, hK =>
        cases ht
        cases hK
        refine s_aload_n X rfl dX9_act_49 ?_
        refine s_aload_n X rfl dX9_act_50 ?_
        refine s_iload_n X rfl dX9_act_51 ?_
        refine s_iload X dX9_act_52 ?_
        refine s_callV X (m_X9_bailed l) tw_586 tw_587 tw_1534 tw_129 tw_588 rfl (by decide +kernel) ⟨by decide, by decide⟩ dX9_act_54 ?_
        refine s_nw ?_
        exact s_zret X dX9_act_57
      | 2, ht, hK =>
        cases ht
        cases hK
        refine s_aload_n X rfl dX9_act_58 ?_
        refine s_aload_n X rfl dX9_act_59 ?_
        refine s_iload_n X rfl dX9_act_60 ?_
        refine s_iload X dX9_act_61 ?_
        exact s_X9_act_63 X hJ
      | 3, ht, hK =>
        cases ht
        cases hK
        refine s_aload_n X rfl dX9_act_67 ?_
        refine s_get X (T := TX9) (C := RX9) (N := 5) tu_X9 rfl (by decide) tw_291 dX9_act_68 ?_
        refine s_iload_n X rfl dX9_act_71 ?_
        refine s_dup2 X dX9_act_72 ?_
        refine s_iald X dX9_act_73 ?_
        refine s_iconst X ⟨by decide, by decide⟩ dX9_act_74 ?_
        refine s_iload X dX9_act_75 ?_
        refine s_aload_n X rfl dX9_act_77 ?_
        refine s_get X (T := TX0) (C := RX0) (N := 12) tu_X0 rfl (by decide) tw_165 dX9_act_78 ?_
        refine s_iload_n X rfl dX9_act_81 ?_
        refine s_iald X dX9_act_82 ?_
        refine s_aload_n X rfl dX9_act_83 ?_
        refine s_get X (T := TX9) (C := RX9) (N := 5) tu_X9 rfl (by decide) tw_291 dX9_act_84 ?_
        refine s_iload_n X rfl dX9_act_87 ?_
        refine s_iald X dX9_act_88 ?_
        refine s_isub X dX9_act_89 ?_
        refine s_min X tw_596 tw_365 tw_135 tw_366 ⟨by decide, by decide⟩ dX9_act_90 ?_
        refine s_max X tw_597 tw_531 tw_135 tw_532 ⟨by decide, by decide⟩ dX9_act_93 ?_
        refine s_iadd X dX9_act_96 ?_
        refine s_iast X dX9_act_97 ?_
        refine s_nw ?_
        refine s_iconst X ⟨by decide, by decide⟩ dX9_act_98 ?_
        exact s_zret X dX9_act_99
      | i + 4, ht, hK => exact absurd ht (by simp)
    · exact s_X9_act_100 X hJ
  · refine s_iconst X ⟨by decide, by decide⟩ dX9_act_8 ?_
    exact s_zret X dX9_act_9

def sp_X9_act : qS := fun av w Q => ∃ (h1 : Nat → Int) (h2 : Nat → Int) (h3 : Nat → Int) (p0 : Int) (s0 : Int) (f1 : Nat → Int) (f2 : Nat → Int) (f3 : Nat → Int) (f4 : Nat → Int) (f5 : Nat → Int) (f6 : Nat → Int) (f7 : Nat → Int) (u0 : Int) (u1 : Int) (u2 : Int) (u3 : Int) (u4 : Int) (a : Int) (b : Int) (q : Int) (t : Int), av = [q2 0, q2 4, q1 a, q1 b, q1 q, q1 t] ∧ w = (wKo 0 h1 h2 h3 p0 s0 ++ wBo 4 f1 f2 f3 f4 f5 f6 f7 u0 u1 u2 u3 u4) ∧ (0 ≤ u0 ∧ u0 ≤ 8) ∧ (∀ (r : Int) (x1 : Nat → Int) (x2 : Nat → Int) (x3 : Nat → Int) (x4 : Int) (x5 : Int), (r = 0 ∨ r = 1) → Q (some (q1 r)) ((wKo 0 x1 x2 x3 x4 x5 ++ wBo 4 f1 f2 f3 f4 f5 f6 f7 u0 u1 u2 u3 u4)))
set_option maxHeartbeats 4000000 in
set_option maxRecDepth 100000 in
theorem m_X9_act (l : Launch) : q_M l yX9_act cX9_act 6 (some .boolean) 2 47 sp_X9_act := by
  refine q_meth (by decide) (fun av w Q h => by obtain ⟨h1, h2, h3, p0, s0, f1, f2, f3, f4, f5, f6, f7, u0, u1, u2, u3, u4, a, b, q, t, rfl, rfl, hu0, hQ⟩ := h; exact Nat.le_of_ble_eq_true rfl) ?_
  intro p e R s m args below meth c dC dI k g A av w Q hsp oka okw X
  obtain ⟨h1, h2, h3, p0, s0, f1, f2, f3, f4, f5, f6, f7, u0, u1, u2, u3, u4, a, b, q, t, rfl, rfl, hu0, hQ⟩ := hsp
  have o_a : -2147483648 ≤ a ∧ a ≤ 2147483647 := oka _ (List.mem_of_getElem? (i := 2) rfl)
  have o_b : -2147483648 ≤ b ∧ b ≤ 2147483647 := oka _ (List.mem_of_getElem? (i := 3) rfl)
  have o_q : -2147483648 ≤ q ∧ q ≤ 2147483647 := oka _ (List.mem_of_getElem? (i := 4) rfl)
  have o_t : -2147483648 ≤ t ∧ t ≤ 2147483647 := oka _ (List.mem_of_getElem? (i := 5) rfl)
  refine s_mono (s_X9_act_0 X (J := fun _ _ _ _ => False) (fun d => s_cutF)) ?_
  rintro lv st w' ⟨rfl, rfl, rfl⟩
  refine Exists.intro [4, 5, 6, 7, 8, 9, 10, 11] (Exists.intro [q2 0, q1 _] (Exists.intro (wB _ _ _ _ _ _ _ _ _ _ _ _) (And.intro rfl (And.intro rfl (And.intro rfl (And.intro ⟨⟨_, rfl⟩, rfl⟩ ?_))))))
  refine Exists.intro _ (Exists.intro _ (Exists.intro _ (Exists.intro _ (Exists.intro _ (Exists.intro _ (Exists.intro _ (Exists.intro _ (Exists.intro _ (Exists.intro _ (Exists.intro _ (Exists.intro _ (Exists.intro _ (And.intro rfl (And.intro rfl (?_)))))))))))))))
  intro z2 h2
  apply And.intro
  · intro h5
    apply And.intro
    · apply And.intro
      · intro h11
        refine Exists.intro [0, 1, 2, 3, 4, 5, 6, 7, 8, 9, 10, 11] (Exists.intro [q2 0, q2 4, q1 _, q1 _] (Exists.intro ((wKo 0 _ _ _ _ _ ++ wBo 4 _ _ _ _ _ _ _ _ _ _ _ _)) (And.intro rfl (And.intro rfl (And.intro rfl (And.intro ⟨⟨_, rfl⟩, rfl⟩ ?_))))))
        refine Exists.intro _ (Exists.intro _ (Exists.intro _ (Exists.intro _ (Exists.intro _ (Exists.intro _ (Exists.intro _ (Exists.intro _ (Exists.intro _ (Exists.intro _ (Exists.intro _ (Exists.intro _ (Exists.intro _ (Exists.intro _ (Exists.intro _ (Exists.intro _ (Exists.intro _ (Exists.intro _ (Exists.intro _ (And.intro rfl (And.intro rfl (And.intro (by first | omega | assumption | exact q_rg_up (by assumption) (by omega) | exact q_rg_up (q_rg_up (by assumption) (by omega)) (by omega) | exact q_rg_cpy (by assumption) (by assumption)) (And.intro (by first | omega | assumption | exact q_rg_up (by assumption) (by omega) | exact q_rg_up (q_rg_up (by assumption) (by omega)) (by omega) | exact q_rg_cpy (by assumption) (by assumption)) (?_)))))))))))))))))))))))
        intro z45 x1_45 x2_45 x3_45 x4_45 x5_45 h45
        apply And.intro
        · first | exact Or.inl rfl | exact Or.inr rfl | omega
        exact hQ _ _ _ _ _ _ (by first | omega | assumption | exact q_rg_up (by assumption) (by omega) | exact q_rg_up (q_rg_up (by assumption) (by omega)) (by omega) | exact q_rg_cpy (by assumption) (by assumption))
      apply And.intro
      · intro h11
        refine Exists.intro [0, 1, 2, 3, 4, 5, 6, 7, 8, 9, 10, 11] (Exists.intro [q2 0, q2 4, q1 _, q1 _] (Exists.intro ((wKo 0 _ _ _ _ _ ++ wBo 4 _ _ _ _ _ _ _ _ _ _ _ _)) (And.intro rfl (And.intro rfl (And.intro rfl (And.intro ⟨⟨_, rfl⟩, rfl⟩ ?_))))))
        refine Exists.intro _ (Exists.intro _ (Exists.intro _ (Exists.intro _ (Exists.intro _ (Exists.intro _ (Exists.intro _ (Exists.intro _ (Exists.intro _ (Exists.intro _ (Exists.intro _ (Exists.intro _ (Exists.intro _ (Exists.intro _ (Exists.intro _ (Exists.intro _ (Exists.intro _ (Exists.intro _ (Exists.intro _ (And.intro rfl (And.intro rfl (And.intro (by first | omega | assumption | exact q_rg_up (by assumption) (by omega) | exact q_rg_up (q_rg_up (by assumption) (by omega)) (by omega) | exact q_rg_cpy (by assumption) (by assumption)) (And.intro (by first | omega | assumption | exact q_rg_up (by assumption) (by omega) | exact q_rg_up (q_rg_up (by assumption) (by omega)) (by omega) | exact q_rg_cpy (by assumption) (by assumption)) (?_)))))))))))))))))))))))
        intro z54 x1_54 x2_54 x3_54 x4_54 x5_54 h54
        apply And.intro
        · first | exact Or.inl rfl | exact Or.inr rfl | omega
        exact hQ _ _ _ _ _ _ (by first | omega | assumption | exact q_rg_up (by assumption) (by omega) | exact q_rg_up (q_rg_up (by assumption) (by omega)) (by omega) | exact q_rg_cpy (by assumption) (by assumption))
      apply And.intro
      · intro h11
        refine Exists.intro [0, 1, 2, 3, 4, 5, 6, 7, 8, 9, 10, 11] (Exists.intro [q2 0, q2 4, q1 _, q1 _] (Exists.intro ((wKo 0 _ _ _ _ _ ++ wBo 4 _ _ _ _ _ _ _ _ _ _ _ _)) (And.intro rfl (And.intro rfl (And.intro rfl (And.intro ⟨⟨_, rfl⟩, rfl⟩ ?_))))))
        refine Exists.intro _ (Exists.intro _ (Exists.intro _ (Exists.intro _ (Exists.intro _ (Exists.intro _ (Exists.intro _ (Exists.intro _ (Exists.intro _ (Exists.intro _ (Exists.intro _ (Exists.intro _ (Exists.intro _ (Exists.intro _ (Exists.intro _ (Exists.intro _ (Exists.intro _ (Exists.intro _ (Exists.intro _ (And.intro rfl (And.intro rfl (And.intro (by first | omega | assumption | exact q_rg_up (by assumption) (by omega) | exact q_rg_up (q_rg_up (by assumption) (by omega)) (by omega) | exact q_rg_cpy (by assumption) (by assumption)) (And.intro (by first | omega | assumption | exact q_rg_up (by assumption) (by omega) | exact q_rg_up (q_rg_up (by assumption) (by omega)) (by omega) | exact q_rg_cpy (by assumption) (by assumption)) (?_)))))))))))))))))))))))
        intro z63 x1_63 x2_63 x3_63 x4_63 x5_63 h63
        apply And.intro
        · first | exact Or.inl rfl | exact Or.inr rfl | omega
        exact hQ _ _ _ _ _ _ (by first | omega | assumption | exact q_rg_up (by assumption) (by omega) | exact q_rg_up (q_rg_up (by assumption) (by omega)) (by omega) | exact q_rg_cpy (by assumption) (by assumption))
      apply And.intro
      · intro h11
        apply And.intro
        · exact ⟨by omega, by omega⟩
        intro z73 h73
        apply And.intro
        · exact ⟨by omega, by omega⟩
        intro z82 h82
        apply And.intro
        · exact ⟨by omega, by omega⟩
        intro z88 h88
        intro z89 h89
        first | replace h89 := e_sub h89 (by omega) | replace h89 := e_rng h89
        intro z90 h90
        intro z93 h93
        intro z96 h96
        first | replace h96 := e_add h96 (by omega) | replace h96 := e_rng h96
        apply And.intro
        · exact ⟨by omega, by omega⟩
        apply And.intro
        · first | exact Or.inl rfl | exact Or.inr rfl | omega
        exact hQ _ _ _ _ _ _ (by first | omega | assumption | exact q_rg_up (by assumption) (by omega) | exact q_rg_up (q_rg_up (by assumption) (by omega)) (by omega) | exact q_rg_cpy (by assumption) (by assumption))
      exact trivial
    · intro h11
      refine Exists.intro [0, 1, 2, 3, 4, 5, 6, 7, 8, 9, 10, 11] (Exists.intro [q2 0, q2 4, q1 _, q1 _, q1 _] (Exists.intro ((wKo 0 _ _ _ _ _ ++ wBo 4 _ _ _ _ _ _ _ _ _ _ _ _)) (And.intro rfl (And.intro rfl (And.intro rfl (And.intro ⟨⟨_, rfl⟩, rfl⟩ ?_))))))
      refine Exists.intro _ (Exists.intro _ (Exists.intro _ (Exists.intro _ (Exists.intro _ (Exists.intro _ (Exists.intro _ (Exists.intro _ (Exists.intro _ (Exists.intro _ (Exists.intro _ (Exists.intro _ (Exists.intro _ (Exists.intro _ (Exists.intro _ (Exists.intro _ (Exists.intro _ (Exists.intro _ (Exists.intro _ (Exists.intro _ (And.intro rfl (And.intro rfl (And.intro (by first | omega | assumption | exact q_rg_up (by assumption) (by omega) | exact q_rg_up (q_rg_up (by assumption) (by omega)) (by omega) | exact q_rg_cpy (by assumption) (by assumption)) (And.intro (by first | omega | assumption | exact q_rg_up (by assumption) (by omega) | exact q_rg_up (q_rg_up (by assumption) (by omega)) (by omega) | exact q_rg_cpy (by assumption) (by assumption)) (?_))))))))))))))))))))))))
      intro z107 x1_107 x2_107 x3_107 x4_107 x5_107 h107
      apply And.intro
      · first | exact Or.inl rfl | exact Or.inr rfl | omega
      exact hQ _ _ _ _ _ _ (by first | omega | assumption | exact q_rg_up (by assumption) (by omega) | exact q_rg_up (q_rg_up (by assumption) (by omega)) (by omega) | exact q_rg_cpy (by assumption) (by assumption))
  · intro h5
    apply And.intro
    · first | exact Or.inl rfl | exact Or.inr rfl | omega
    exact hQ _ _ _ _ _ _ (by first | omega | assumption | exact q_rg_up (by assumption) (by omega) | exact q_rg_up (q_rg_up (by assumption) (by omega)) (by omega) | exact q_rg_cpy (by assumption) (by assumption))
