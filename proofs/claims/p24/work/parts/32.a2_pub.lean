theorem dX11_reached_0 : decode cX11_reached 0 = .ok (.aload_n 0, 1) := by decide +kernel
theorem dX11_reached_1 : decode cX11_reached 1 = .ok (.getfield 10, 3) := by decide +kernel
theorem dX11_reached_4 : decode cX11_reached 4 = .ok (.iload_n 1, 1) := by decide +kernel
theorem dX11_reached_5 : decode cX11_reached 5 = .ok (.invokevirtual 94, 3) := by decide +kernel
theorem dX11_reached_8 : decode cX11_reached 8 = .ok (.astore 4, 2) := by decide +kernel
theorem dX11_reached_10 : decode cX11_reached 10 = .ok (.aload 4, 2) := by decide +kernel
theorem dX11_reached_12 : decode cX11_reached 12 = .ok (.ifnull 13, 3) := by decide +kernel
theorem dX11_reached_15 : decode cX11_reached 15 = .ok (.iload_n 2, 1) := by decide +kernel
theorem dX11_reached_16 : decode cX11_reached 16 = .ok (.ifCond .lt 9, 3) := by decide +kernel
theorem dX11_reached_19 : decode cX11_reached 19 = .ok (.iload_n 2, 1) := by decide +kernel
theorem dX11_reached_20 : decode cX11_reached 20 = .ok (.bipush 99, 2) := by decide +kernel
theorem dX11_reached_22 : decode cX11_reached 22 = .ok (.if_icmp .le 5, 3) := by decide +kernel
theorem dX11_reached_25 : decode cX11_reached 25 = .ok (.iconst (-1), 1) := by decide +kernel
theorem dX11_reached_26 : decode cX11_reached 26 = .ok (.ireturn, 1) := by decide +kernel
theorem dX11_reached_27 : decode cX11_reached 27 = .ok (.iload_n 3, 1) := by decide +kernel
theorem dX11_reached_28 : decode cX11_reached 28 = .ok (.bipush 10, 2) := by decide +kernel
theorem dX11_reached_30 : decode cX11_reached 30 = .ok (.if_icmp .lt 19, 3) := by decide +kernel
theorem dX11_reached_33 : decode cX11_reached 33 = .ok (.iload_n 3, 1) := by decide +kernel
theorem dX11_reached_34 : decode cX11_reached 34 = .ok (.bipush 10, 2) := by decide +kernel
theorem dX11_reached_36 : decode cX11_reached 36 = .ok (.aload 4, 2) := by decide +kernel
theorem dX11_reached_38 : decode cX11_reached 38 = .ok (.getfield 126, 3) := by decide +kernel
theorem dX11_reached_41 : decode cX11_reached 41 = .ok (.iadd, 1) := by decide +kernel
theorem dX11_reached_42 : decode cX11_reached 42 = .ok (.if_icmp .ge 7, 3) := by decide +kernel
theorem dX11_reached_45 : decode cX11_reached 45 = .ok (.iconst 1, 1) := by decide +kernel
theorem dX11_reached_46 : decode cX11_reached 46 = .ok (.goto 4, 3) := by decide +kernel
theorem dX11_reached_49 : decode cX11_reached 49 = .ok (.iconst 0, 1) := by decide +kernel
theorem dX11_reached_50 : decode cX11_reached 50 = .ok (.istore 5, 2) := by decide +kernel
theorem dX11_reached_52 : decode cX11_reached 52 = .ok (.iload 5, 2) := by decide +kernel
theorem dX11_reached_54 : decode cX11_reached 54 = .ok (.ifCond .ne 14, 3) := by decide +kernel
theorem dX11_reached_57 : decode cX11_reached 57 = .ok (.iload_n 3, 1) := by decide +kernel
theorem dX11_reached_58 : decode cX11_reached 58 = .ok (.ifCond .eq 10, 3) := by decide +kernel
theorem dX11_reached_61 : decode cX11_reached 61 = .ok (.iload_n 3, 1) := by decide +kernel
theorem dX11_reached_62 : decode cX11_reached 62 = .ok (.iconst 1, 1) := by decide +kernel
theorem dX11_reached_63 : decode cX11_reached 63 = .ok (.if_icmp .eq 5, 3) := by decide +kernel
theorem dX11_reached_66 : decode cX11_reached 66 = .ok (.iconst (-1), 1) := by decide +kernel
theorem dX11_reached_67 : decode cX11_reached 67 = .ok (.ireturn, 1) := by decide +kernel
theorem dX11_reached_68 : decode cX11_reached 68 = .ok (.aload_n 0, 1) := by decide +kernel
theorem dX11_reached_69 : decode cX11_reached 69 = .ok (.getfield 37, 3) := by decide +kernel
theorem dX11_reached_72 : decode cX11_reached 72 = .ok (.aload 4, 2) := by decide +kernel
theorem dX11_reached_74 : decode cX11_reached 74 = .ok (.iload_n 2, 1) := by decide +kernel
theorem dX11_reached_75 : decode cX11_reached 75 = .ok (.invokevirtual 129, 3) := by decide +kernel
theorem dX11_reached_78 : decode cX11_reached 78 = .ok (.iload 5, 2) := by decide +kernel
theorem dX11_reached_80 : decode cX11_reached 80 = .ok (.ifCond .eq 17, 3) := by decide +kernel
theorem dX11_reached_83 : decode cX11_reached 83 = .ok (.aload_n 0, 1) := by decide +kernel
theorem dX11_reached_84 : decode cX11_reached 84 = .ok (.getfield 37, 3) := by decide +kernel
theorem dX11_reached_87 : decode cX11_reached 87 = .ok (.aload 4, 2) := by decide +kernel
theorem dX11_reached_89 : decode cX11_reached 89 = .ok (.iload_n 3, 1) := by decide +kernel
theorem dX11_reached_90 : decode cX11_reached 90 = .ok (.bipush 10, 2) := by decide +kernel
theorem dX11_reached_92 : decode cX11_reached 92 = .ok (.isub, 1) := by decide +kernel
theorem dX11_reached_93 : decode cX11_reached 93 = .ok (.invokevirtual 133, 3) := by decide +kernel
theorem dX11_reached_96 : decode cX11_reached 96 = .ok (.ireturn, 1) := by decide +kernel
theorem dX11_reached_97 : decode cX11_reached 97 = .ok (.iload_n 3, 1) := by decide +kernel
theorem dX11_reached_98 : decode cX11_reached 98 = .ok (.ifCond .ne 13, 3) := by decide +kernel
theorem dX11_reached_101 : decode cX11_reached 101 = .ok (.aload_n 0, 1) := by decide +kernel
theorem dX11_reached_102 : decode cX11_reached 102 = .ok (.getfield 37, 3) := by decide +kernel
theorem dX11_reached_105 : decode cX11_reached 105 = .ok (.getfield 136, 3) := by decide +kernel
theorem dX11_reached_108 : decode cX11_reached 108 = .ok (.goto 10, 3) := by decide +kernel
theorem dX11_reached_111 : decode cX11_reached 111 = .ok (.aload_n 0, 1) := by decide +kernel
theorem dX11_reached_112 : decode cX11_reached 112 = .ok (.getfield 37, 3) := by decide +kernel
theorem dX11_reached_115 : decode cX11_reached 115 = .ok (.getfield 139, 3) := by decide +kernel
theorem dX11_reached_118 : decode cX11_reached 118 = .ok (.ireturn, 1) := by decide +kernel
def is_X11_reached : Nat → List Nat := fun d => []
set_option maxRecDepth 100000 in
def b_X11_reached_118 (J : Nat → List qV → List qV → qW → Prop) (Q : qR) : qK := x_iret Q
set_option maxRecDepth 100000 in
theorem s_X11_reached_118 {p : Program} {l : Launch} {e : Env} {R : Room} {s : State} {m : MethodId} {args : Array Value} {below : List Frame} {meth : Method} {c : Code} {nW : Nat} {dC : Nat → ClassId} {dI : Nat → Nat → Nat} {k : Nat → ClassId} {g : Nat → Nat} {A : Nat → Prop} {J : Nat → List qV → List qV → qW → Prop} {Q : qR} (X : q_X p R s m args meth c cX11_reached 6 nW 4 100 RX11 (some .int) dC dI k g A) (hJ : ∀ d : Nat, q_Sd p l e R s m args below meth c 6 nW dC dI k g A (MQ below (q_post (dC, dI) k g nW Q A) args s 0 0 A) d (x_cut (is_X11_reached d) (J d))) : q_Sd p l e R s m args below meth c 6 nW dC dI k g A (MQ below (q_post (dC, dI) k g nW Q A) args s 0 0 A) 118 (b_X11_reached_118 J Q) := by
  unfold b_X11_reached_118
  exact s_iret X dX11_reached_118
set_option maxRecDepth 100000 in
def b_X11_reached_68 (J : Nat → List qV → List qV → qW → Prop) (Q : qR) : qK := x_aload 0 (x_get 11 4 (x_aload 4 (x_iload 2 (x_callm (some 5) 3 2 spm_X5_plan (x_nw (x_iload 5 (x_if_eq (x_iload 3 (x_if_ne (x_aload 0 (x_get 11 4 (x_get 5 2 (b_X11_reached_118 J Q)))) (x_aload 0 (x_get 11 4 (x_get 5 1 (b_X11_reached_118 J Q)))))) (x_aload 0 (x_get 11 4 (x_aload 4 (x_iload 3 (x_int 10 (x_isub (x_callr (some 5) 3 spr_X5_doer (x_iret Q)))))))))))))))
set_option maxRecDepth 100000 in
theorem s_X11_reached_68 {p : Program} {l : Launch} {e : Env} {R : Room} {s : State} {m : MethodId} {args : Array Value} {below : List Frame} {meth : Method} {c : Code} {nW : Nat} {dC : Nat → ClassId} {dI : Nat → Nat → Nat} {k : Nat → ClassId} {g : Nat → Nat} {A : Nat → Prop} {J : Nat → List qV → List qV → qW → Prop} {Q : qR} (X : q_X p R s m args meth c cX11_reached 6 nW 4 100 RX11 (some .int) dC dI k g A) (hJ : ∀ d : Nat, q_Sd p l e R s m args below meth c 6 nW dC dI k g A (MQ below (q_post (dC, dI) k g nW Q A) args s 0 0 A) d (x_cut (is_X11_reached d) (J d))) : q_Sd p l e R s m args below meth c 6 nW dC dI k g A (MQ below (q_post (dC, dI) k g nW Q A) args s 0 0 A) 68 (b_X11_reached_68 J Q) := by
  unfold b_X11_reached_68
  refine s_aload_n X rfl dX11_reached_68 ?_
  refine s_get X (T := TX11) (C := RX11) (N := 8) tu_X11 rfl (by decide) tw_330 dX11_reached_69 ?_
  refine s_aload X dX11_reached_72 ?_
  refine s_iload_n X rfl dX11_reached_74 ?_
  refine s_callVm X (mm_X5_plan l) mq_X5_plan tw_628 tw_629 tw_630 tw_130 tw_631 rfl (by decide +kernel) ⟨by decide, by decide⟩ dX11_reached_75 ?_
  refine s_nw ?_
  refine s_iload X dX11_reached_78 ?_
  refine s_if_eq X (tgt := 97) dX11_reached_80 (by decide) ?_ ?_
  · refine s_iload_n X rfl dX11_reached_97 ?_
    refine s_if_ne X (tgt := 111) dX11_reached_98 (by decide) ?_ ?_
    · refine s_aload_n X rfl dX11_reached_111 ?_
      refine s_get X (T := TX11) (C := RX11) (N := 8) tu_X11 rfl (by decide) tw_330 dX11_reached_112 ?_
      refine s_get X (T := TX5) (C := RX5) (N := 3) tu_X5 rfl (by decide) tw_303 dX11_reached_115 ?_
      exact s_X11_reached_118 X hJ
    · refine s_aload_n X rfl dX11_reached_101 ?_
      refine s_get X (T := TX11) (C := RX11) (N := 8) tu_X11 rfl (by decide) tw_330 dX11_reached_102 ?_
      refine s_get X (T := TX5) (C := RX5) (N := 3) tu_X5 rfl (by decide) tw_301 dX11_reached_105 ?_
      refine s_goto X (tgt := 118) dX11_reached_108 (by decide) ?_
      exact s_X11_reached_118 X hJ
  · refine s_aload_n X rfl dX11_reached_83 ?_
    refine s_get X (T := TX11) (C := RX11) (N := 8) tu_X11 rfl (by decide) tw_330 dX11_reached_84 ?_
    refine s_aload X dX11_reached_87 ?_
    refine s_iload_n X rfl dX11_reached_89 ?_
    refine s_bipush X ⟨by decide, by decide⟩ (by decide) dX11_reached_90 ?_
    refine s_isub X dX11_reached_92 ?_
    refine s_callVr X (m_X5_doer l) tw_651 tw_652 tw_653 tw_130 tw_654 rfl (by decide +kernel) ⟨by decide, by decide⟩ dX11_reached_93 ?_
    exact s_iret X dX11_reached_96
set_option maxRecDepth 100000 in
def b_X11_reached_50 (J : Nat → List qV → List qV → qW → Prop) (Q : qR) : qK := x_istore 5 (x_iload 5 (x_if_ne (b_X11_reached_68 J Q) (x_iload 3 (x_if_eq (b_X11_reached_68 J Q) (x_iload 3 (x_int 1 (x_icmp_eq (b_X11_reached_68 J Q) (x_int (-1) (x_iret Q)))))))))
set_option maxRecDepth 100000 in
theorem s_X11_reached_50 {p : Program} {l : Launch} {e : Env} {R : Room} {s : State} {m : MethodId} {args : Array Value} {below : List Frame} {meth : Method} {c : Code} {nW : Nat} {dC : Nat → ClassId} {dI : Nat → Nat → Nat} {k : Nat → ClassId} {g : Nat → Nat} {A : Nat → Prop} {J : Nat → List qV → List qV → qW → Prop} {Q : qR} (X : q_X p R s m args meth c cX11_reached 6 nW 4 100 RX11 (some .int) dC dI k g A) (hJ : ∀ d : Nat, q_Sd p l e R s m args below meth c 6 nW dC dI k g A (MQ below (q_post (dC, dI) k g nW Q A) args s 0 0 A) d (x_cut (is_X11_reached d) (J d))) : q_Sd p l e R s m args below meth c 6 nW dC dI k g A (MQ below (q_post (dC, dI) k g nW Q A) args s 0 0 A) 50 (b_X11_reached_50 J Q) := by
  unfold b_X11_reached_50
  refine s_istore X (by decide) dX11_reached_50 ?_
  refine s_iload X dX11_reached_52 ?_
  refine s_if_ne X (tgt := 68) dX11_reached_54 (by decide) ?_ ?_
  · exact s_X11_reached_68 X hJ
  · refine s_iload_n X rfl dX11_reached_57 ?_
    refine s_if_eq X (tgt := 68) dX11_reached_58 (by decide) ?_ ?_
    · exact s_X11_reached_68 X hJ
    · refine s_iload_n X rfl dX11_reached_61 ?_
      refine s_iconst X ⟨by decide, by decide⟩ dX11_reached_62 ?_
      refine s_icmp_eq X (tgt := 68) dX11_reached_63 (by decide) ?_ ?_
      · exact s_X11_reached_68 X hJ
      · refine s_iconst X ⟨by decide, by decide⟩ dX11_reached_66 ?_
        exact s_iret X dX11_reached_67
set_option maxRecDepth 100000 in
def b_X11_reached_49 (J : Nat → List qV → List qV → qW → Prop) (Q : qR) : qK := x_int 0 (b_X11_reached_50 J Q)
set_option maxRecDepth 100000 in
theorem s_X11_reached_49 {p : Program} {l : Launch} {e : Env} {R : Room} {s : State} {m : MethodId} {args : Array Value} {below : List Frame} {meth : Method} {c : Code} {nW : Nat} {dC : Nat → ClassId} {dI : Nat → Nat → Nat} {k : Nat → ClassId} {g : Nat → Nat} {A : Nat → Prop} {J : Nat → List qV → List qV → qW → Prop} {Q : qR} (X : q_X p R s m args meth c cX11_reached 6 nW 4 100 RX11 (some .int) dC dI k g A) (hJ : ∀ d : Nat, q_Sd p l e R s m args below meth c 6 nW dC dI k g A (MQ below (q_post (dC, dI) k g nW Q A) args s 0 0 A) d (x_cut (is_X11_reached d) (J d))) : q_Sd p l e R s m args below meth c 6 nW dC dI k g A (MQ below (q_post (dC, dI) k g nW Q A) args s 0 0 A) 49 (b_X11_reached_49 J Q) := by
  unfold b_X11_reached_49
  refine s_iconst X ⟨by decide, by decide⟩ dX11_reached_49 ?_
  exact s_X11_reached_50 X hJ
set_option maxRecDepth 100000 in
def b_X11_reached_25 (J : Nat → List qV → List qV → qW → Prop) (Q : qR) : qK := x_int (-1) (x_iret Q)
set_option maxRecDepth 100000 in
theorem s_X11_reached_25 {p : Program} {l : Launch} {e : Env} {R : Room} {s : State} {m : MethodId} {args : Array Value} {below : List Frame} {meth : Method} {c : Code} {nW : Nat} {dC : Nat → ClassId} {dI : Nat → Nat → Nat} {k : Nat → ClassId} {g : Nat → Nat} {A : Nat → Prop} {J : Nat → List qV → List qV → qW → Prop} {Q : qR} (X : q_X p R s m args meth c cX11_reached 6 nW 4 100 RX11 (some .int) dC dI k g A) (hJ : ∀ d : Nat, q_Sd p l e R s m args below meth c 6 nW dC dI k g A (MQ below (q_post (dC, dI) k g nW Q A) args s 0 0 A) d (x_cut (is_X11_reached d) (J d))) : q_Sd p l e R s m args below meth c 6 nW dC dI k g A (MQ below (q_post (dC, dI) k g nW Q A) args s 0 0 A) 25 (b_X11_reached_25 J Q) := by
  unfold b_X11_reached_25
  refine s_iconst X ⟨by decide, by decide⟩ dX11_reached_25 ?_
  exact s_iret X dX11_reached_26
set_option maxRecDepth 100000 in
def b_X11_reached_0 (J : Nat → List qV → List qV → qW → Prop) (Q : qR) : qK := x_aload 0 (x_get 11 0 (x_iload 1 (x_callr (some 8) 2 spr_X8_boroughAt (x_astore 4 (x_aload 4 (x_ifnull (b_X11_reached_25 J Q) (x_iload 2 (x_if_lt (b_X11_reached_25 J Q) (x_iload 2 (x_int 99 (x_icmp_le (x_iload 3 (x_int 10 (x_icmp_lt (b_X11_reached_49 J Q) (x_iload 3 (x_int 10 (x_aload 4 (x_get 0 11 (x_iadd (x_icmp_ge (b_X11_reached_49 J Q) (x_int 1 (b_X11_reached_50 J Q))))))))))) (b_X11_reached_25 J Q))))))))))))
set_option maxRecDepth 100000 in
theorem s_X11_reached_0 {p : Program} {l : Launch} {e : Env} {R : Room} {s : State} {m : MethodId} {args : Array Value} {below : List Frame} {meth : Method} {c : Code} {nW : Nat} {dC : Nat → ClassId} {dI : Nat → Nat → Nat} {k : Nat → ClassId} {g : Nat → Nat} {A : Nat → Prop} {J : Nat → List qV → List qV → qW → Prop} {Q : qR} (X : q_X p R s m args meth c cX11_reached 6 nW 4 100 RX11 (some .int) dC dI k g A) (hJ : ∀ d : Nat, q_Sd p l e R s m args below meth c 6 nW dC dI k g A (MQ below (q_post (dC, dI) k g nW Q A) args s 0 0 A) d (x_cut (is_X11_reached d) (J d))) : q_Sd p l e R s m args below meth c 6 nW dC dI k g A (MQ below (q_post (dC, dI) k g nW Q A) args s 0 0 A) 0 (b_X11_reached_0 J Q) := by
  unfold b_X11_reached_0
  refine s_aload_n X rfl dX11_reached_0 ?_
  refine s_get X (T := TX11) (C := RX11) (N := 8) tu_X11 rfl (by decide) tw_326 dX11_reached_1 ?_
  refine s_iload_n X rfl dX11_reached_4 ?_
  refine s_callVr X (m_X8_boroughAt l) tw_541 tw_542 tw_543 tw_121 tw_544 rfl (by decide +kernel) ⟨by decide, by decide⟩ dX11_reached_5 ?_
  refine s_astore X (by decide) dX11_reached_8 ?_
  refine s_aload X dX11_reached_10 ?_
  refine s_ifnull X (tgt := 25) dX11_reached_12 (by decide) ?_ ?_
  · exact s_X11_reached_25 X hJ
  · refine s_iload_n X rfl dX11_reached_15 ?_
    refine s_if_lt X (tgt := 25) dX11_reached_16 (by decide) ?_ ?_
    · exact s_X11_reached_25 X hJ
    · refine s_iload_n X rfl dX11_reached_19 ?_
      refine s_bipush X ⟨by decide, by decide⟩ (by decide) dX11_reached_20 ?_
      refine s_icmp_le X (tgt := 27) dX11_reached_22 (by decide) ?_ ?_
      · refine s_iload_n X rfl dX11_reached_27 ?_
        refine s_bipush X ⟨by decide, by decide⟩ (by decide) dX11_reached_28 ?_
        refine s_icmp_lt X (tgt := 49) dX11_reached_30 (by decide) ?_ ?_
        · exact s_X11_reached_49 X hJ
        · refine s_iload_n X rfl dX11_reached_33 ?_
          refine s_bipush X ⟨by decide, by decide⟩ (by decide) dX11_reached_34 ?_
          refine s_aload X dX11_reached_36 ?_
          refine s_get X (T := TX0) (C := RX0) (N := 12) tu_X0 rfl (by decide) tw_208 dX11_reached_38 ?_
          refine s_iadd X dX11_reached_41 ?_
          refine s_icmp_ge X (tgt := 49) dX11_reached_42 (by decide) ?_ ?_
          · exact s_X11_reached_49 X hJ
          · refine s_iconst X ⟨by decide, by decide⟩ dX11_reached_45 ?_
            refine s_goto X (tgt := 50) dX11_reached_46 (by decide) ?_
            exact s_X11_reached_50 X hJ
      · exact s_X11_reached_25 X hJ

def sp_X11_reached : qS := fun av w Q => ∃ (tp : Nat → Int) (ct : Nat → Int) (ln : Int) (fa : Int) (pl : Int) (b0f1 : Nat → Int) (b0f2 : Nat → Int) (b0f3 : Nat → Int) (b0f4 : Nat → Int) (b0f5 : Nat → Int) (b0f6 : Nat → Int) (b0f7 : Nat → Int) (b0u0 : Int) (b0u1 : Int) (b0u2 : Int) (b0u3 : Int) (b0u4 : Int) (b1f1 : Nat → Int) (b1f2 : Nat → Int) (b1f3 : Nat → Int) (b1f4 : Nat → Int) (b1f5 : Nat → Int) (b1f6 : Nat → Int) (b1f7 : Nat → Int) (b1u0 : Int) (b1u1 : Int) (b1u2 : Int) (b1u3 : Int) (b1u4 : Int) (rcc : Nat → Int) (rcm : Int) (rcn : Int) (a : Int) (b : Int) (cc : Int), av = [q2 0, q1 a, q1 b, q1 cc] ∧ w = [.inr (11, [q2 1, q2 23, q2 24, q2 25, q2 21, q2 26, q2 27, q2 28]), .inr (8, [q2 2, q2 3, q2 4, q2 29, q2 30, q2 31, q1 ln, q1 fa, q1 pl]), .inl (1, 600, .inl tp), .inl (0, 4, .inl ct), .inl (4, 2, .inr (.inr [some 5, some 13])), .inr (0, [q2 6, q2 7, q2 8, q2 9, q2 10, q2 11, q2 12, q1 b0u0, q1 b0u1, q1 b0u2, q1 b0u3, q1 b0u4]), .inl (0, 8, .inl b0f1), .inl (0, 8, .inl b0f2), .inl (0, 4, .inl b0f3), .inl (0, 32, .inl b0f4), .inl (0, 6, .inl b0f5), .inl (0, 6, .inl b0f6), .inl (0, 6, .inl b0f7), .inr (0, [q2 14, q2 15, q2 16, q2 17, q2 18, q2 19, q2 20, q1 b1u0, q1 b1u1, q1 b1u2, q1 b1u3, q1 b1u4]), .inl (0, 8, .inl b1f1), .inl (0, 8, .inl b1f2), .inl (0, 4, .inl b1f3), .inl (0, 32, .inl b1f4), .inl (0, 6, .inl b1f5), .inl (0, 6, .inl b1f6), .inl (0, 6, .inl b1f7), .inr (5, [q2 22, q1 rcm, q1 rcn]), .inl (0, 1792, .inl rcc)] ∧ (q_rg 0 2 ct) ∧ (0 ≤ ln ∧ ln ≤ 600) ∧ (0 ≤ b0u0 ∧ b0u0 ≤ 8 ∧ 0 ≤ b0u3 ∧ b0u3 ≤ 6 ∧ 0 ≤ b0u4 ∧ b0u4 ≤ 6) ∧ (q_rg 0 9 b0f3) ∧ (0 ≤ b1u0 ∧ b1u0 ≤ 8 ∧ 0 ≤ b1u3 ∧ b1u3 ≤ 6 ∧ 0 ≤ b1u4 ∧ b1u4 ≤ 6) ∧ (q_rg 0 9 b1f3) ∧ (∀ (r : Int) (x_rcc : Nat → Int) (x_rcm : Int) (x_rcn : Int), Q (some (q1 r)) ([.inr (11, [q2 1, q2 23, q2 24, q2 25, q2 21, q2 26, q2 27, q2 28]), .inr (8, [q2 2, q2 3, q2 4, q2 29, q2 30, q2 31, q1 ln, q1 fa, q1 pl]), .inl (1, 600, .inl tp), .inl (0, 4, .inl ct), .inl (4, 2, .inr (.inr [some 5, some 13])), .inr (0, [q2 6, q2 7, q2 8, q2 9, q2 10, q2 11, q2 12, q1 b0u0, q1 b0u1, q1 b0u2, q1 b0u3, q1 b0u4]), .inl (0, 8, .inl b0f1), .inl (0, 8, .inl b0f2), .inl (0, 4, .inl b0f3), .inl (0, 32, .inl b0f4), .inl (0, 6, .inl b0f5), .inl (0, 6, .inl b0f6), .inl (0, 6, .inl b0f7), .inr (0, [q2 14, q2 15, q2 16, q2 17, q2 18, q2 19, q2 20, q1 b1u0, q1 b1u1, q1 b1u2, q1 b1u3, q1 b1u4]), .inl (0, 8, .inl b1f1), .inl (0, 8, .inl b1f2), .inl (0, 4, .inl b1f3), .inl (0, 32, .inl b1f4), .inl (0, 6, .inl b1f5), .inl (0, 6, .inl b1f6), .inl (0, 6, .inl b1f7), .inr (5, [q2 22, q1 x_rcm, q1 x_rcn]), .inl (0, 1792, .inl x_rcc)]))
set_option maxHeartbeats 4000000 in
set_option maxRecDepth 100000 in
theorem m_X11_reached (l : Launch) : q_M l yX11_reached cX11_reached 6 (some .int) 4 100 sp_X11_reached := by
  refine q_meth (by decide) (fun av w Q h => by obtain ⟨tp, ct, ln, fa, pl, b0f1, b0f2, b0f3, b0f4, b0f5, b0f6, b0f7, b0u0, b0u1, b0u2, b0u3, b0u4, b1f1, b1f2, b1f3, b1f4, b1f5, b1f6, b1f7, b1u0, b1u1, b1u2, b1u3, b1u4, rcc, rcm, rcn, a, b, cc, rfl, rfl, hct, hln, hb0, hf0, hb1, hf1, hQ⟩ := h; exact Nat.le_of_ble_eq_true rfl) ?_
  intro p e R s m args below meth c dC dI k g A av w Q hsp oka okw X
  obtain ⟨tp, ct, ln, fa, pl, b0f1, b0f2, b0f3, b0f4, b0f5, b0f6, b0f7, b0u0, b0u1, b0u2, b0u3, b0u4, b1f1, b1f2, b1f3, b1f4, b1f5, b1f6, b1f7, b1u0, b1u1, b1u2, b1u3, b1u4, rcc, rcm, rcn, a, b, cc, rfl, rfl, hct, hln, hb0, hf0, hb1, hf1, hQ⟩ := hsp
  have o_a : -2147483648 ≤ a ∧ a ≤ 2147483647 := oka _ (List.mem_of_getElem? (i := 1) rfl)
  have o_b : -2147483648 ≤ b ∧ b ≤ 2147483647 := oka _ (List.mem_of_getElem? (i := 2) rfl)
  have o_cc : -2147483648 ≤ cc ∧ cc ≤ 2147483647 := oka _ (List.mem_of_getElem? (i := 3) rfl)
  refine s_mono (s_X11_reached_0 X (J := fun _ _ _ _ => False) (fun d => s_cutF)) ?_
  rintro lv st w' ⟨rfl, rfl, rfl⟩
  refine Exists.intro [1, 2, 3, 4, 29, 30, 31, 5, 13] (Exists.intro [q2 0, q1 _] (Exists.intro ((wT4_0 _ _ _ _ _)) (And.intro rfl (And.intro rfl (And.intro rfl (And.intro ⟨⟨_, rfl⟩, rfl⟩ ?_))))))
  refine Exists.intro _ (Exists.intro _ (Exists.intro _ (Exists.intro _ (Exists.intro _ (Exists.intro _ (And.intro rfl (And.intro rfl (?_))))))))
  intro z5 h5
  rcases h5 with rfl | ⟨rfl, rfl⟩ | ⟨rfl, rfl⟩
  · exact hQ _ _ _ _
  · apply And.intro
    · intro h16
      exact hQ _ _ _ _
    · intro h16
      apply And.intro
      · intro h22
        apply And.intro
        · intro h30
          apply And.intro
          · intro h54
            refine Exists.intro [21, 22, 5, 6, 7, 8, 9, 10, 11, 12] (Exists.intro [q2 0, q2 2, q1 _] (Exists.intro ((wRo 0 _ _ _ ++ wBo 2 _ _ _ _ _ _ _ _ _ _ _ _)) (And.intro rfl (And.intro rfl (And.intro rfl (And.intro ⟨⟨_, rfl⟩, rfl⟩ (And.intro (Nat.le_of_ble_eq_true rfl) ?_)))))))
            refine Exists.intro _ (Exists.intro _ (Exists.intro _ (Exists.intro _ (Exists.intro _ (Exists.intro _ (Exists.intro _ (Exists.intro _ (Exists.intro _ (Exists.intro _ (Exists.intro _ (Exists.intro _ (Exists.intro _ (Exists.intro _ (Exists.intro _ (Exists.intro _ (And.intro rfl (And.intro rfl (And.intro (by first | omega | assumption | exact q_rg_up (by assumption) (by omega) | exact q_rg_up (q_rg_up (by assumption) (by omega)) (by omega) | exact q_rg_cpy (by assumption) (by assumption)) (?_)))))))))))))))))))
            intro x1_75 x2_75 x3_75
            intro _
            apply And.intro
            · intro h80
              apply And.intro
              · intro h98
                exact hQ _ _ _ _
              · intro h98
                exact hQ _ _ _ _
            · intro h80
              intro z92 h92
              first | replace h92 := e_sub h92 (by omega) | replace h92 := e_rng h92
              refine Exists.intro [21, 22, 5, 6, 7, 8, 9, 10, 11, 12] (Exists.intro [q2 0, q2 2, q1 _] (Exists.intro ((wRo 0 _ _ _ ++ wBo 2 _ _ _ _ _ _ _ _ _ _ _ _)) (And.intro rfl (And.intro rfl (And.intro rfl (And.intro ⟨⟨_, rfl⟩, rfl⟩ ?_))))))
              refine Exists.intro _ (Exists.intro _ (Exists.intro _ (Exists.intro _ (Exists.intro _ (Exists.intro _ (Exists.intro _ (Exists.intro _ (Exists.intro _ (Exists.intro _ (Exists.intro _ (Exists.intro _ (Exists.intro _ (Exists.intro _ (Exists.intro _ (Exists.intro _ (And.intro rfl (And.intro rfl (And.intro (by first | omega | assumption | exact q_rg_up (by assumption) (by omega) | exact q_rg_up (q_rg_up (by assumption) (by omega)) (by omega) | exact q_rg_cpy (by assumption) (by assumption)) (?_)))))))))))))))))))
              intro z93
              exact hQ _ _ _ _
          · intro h54
            apply And.intro
            · intro h58
              refine Exists.intro [21, 22, 5, 6, 7, 8, 9, 10, 11, 12] (Exists.intro [q2 0, q2 2, q1 _] (Exists.intro ((wRo 0 _ _ _ ++ wBo 2 _ _ _ _ _ _ _ _ _ _ _ _)) (And.intro rfl (And.intro rfl (And.intro rfl (And.intro ⟨⟨_, rfl⟩, rfl⟩ (And.intro (Nat.le_of_ble_eq_true rfl) ?_)))))))
              refine Exists.intro _ (Exists.intro _ (Exists.intro _ (Exists.intro _ (Exists.intro _ (Exists.intro _ (Exists.intro _ (Exists.intro _ (Exists.intro _ (Exists.intro _ (Exists.intro _ (Exists.intro _ (Exists.intro _ (Exists.intro _ (Exists.intro _ (Exists.intro _ (And.intro rfl (And.intro rfl (And.intro (by first | omega | assumption | exact q_rg_up (by assumption) (by omega) | exact q_rg_up (q_rg_up (by assumption) (by omega)) (by omega) | exact q_rg_cpy (by assumption) (by assumption)) (?_)))))))))))))))))))
              intro x1_75 x2_75 x3_75
              intro _
              apply And.intro
              · intro h80
                apply And.intro
                · intro h98
                  exact hQ _ _ _ _
                · intro h98
                  exact hQ _ _ _ _
              · intro h80
                intro z92 h92
                first | replace h92 := e_sub h92 (by omega) | replace h92 := e_rng h92
                refine Exists.intro [21, 22, 5, 6, 7, 8, 9, 10, 11, 12] (Exists.intro [q2 0, q2 2, q1 _] (Exists.intro ((wRo 0 _ _ _ ++ wBo 2 _ _ _ _ _ _ _ _ _ _ _ _)) (And.intro rfl (And.intro rfl (And.intro rfl (And.intro ⟨⟨_, rfl⟩, rfl⟩ ?_))))))
                refine Exists.intro _ (Exists.intro _ (Exists.intro _ (Exists.intro _ (Exists.intro _ (Exists.intro _ (Exists.intro _ (Exists.intro _ (Exists.intro _ (Exists.intro _ (Exists.intro _ (Exists.intro _ (Exists.intro _ (Exists.intro _ (Exists.intro _ (Exists.intro _ (And.intro rfl (And.intro rfl (And.intro (by first | omega | assumption | exact q_rg_up (by assumption) (by omega) | exact q_rg_up (q_rg_up (by assumption) (by omega)) (by omega) | exact q_rg_cpy (by assumption) (by assumption)) (?_)))))))))))))))))))
                intro z93
                exact hQ _ _ _ _
            · intro h58
              apply And.intro
              · intro h63
                refine Exists.intro [21, 22, 5, 6, 7, 8, 9, 10, 11, 12] (Exists.intro [q2 0, q2 2, q1 _] (Exists.intro ((wRo 0 _ _ _ ++ wBo 2 _ _ _ _ _ _ _ _ _ _ _ _)) (And.intro rfl (And.intro rfl (And.intro rfl (And.intro ⟨⟨_, rfl⟩, rfl⟩ (And.intro (Nat.le_of_ble_eq_true rfl) ?_)))))))
                refine Exists.intro _ (Exists.intro _ (Exists.intro _ (Exists.intro _ (Exists.intro _ (Exists.intro _ (Exists.intro _ (Exists.intro _ (Exists.intro _ (Exists.intro _ (Exists.intro _ (Exists.intro _ (Exists.intro _ (Exists.intro _ (Exists.intro _ (Exists.intro _ (And.intro rfl (And.intro rfl (And.intro (by first | omega | assumption | exact q_rg_up (by assumption) (by omega) | exact q_rg_up (q_rg_up (by assumption) (by omega)) (by omega) | exact q_rg_cpy (by assumption) (by assumption)) (?_)))))))))))))))))))
                intro x1_75 x2_75 x3_75
                intro _
                apply And.intro
                · intro h80
                  apply And.intro
                  · intro h98
                    exact hQ _ _ _ _
                  · intro h98
                    exact hQ _ _ _ _
                · intro h80
                  intro z92 h92
                  first | replace h92 := e_sub h92 (by omega) | replace h92 := e_rng h92
                  refine Exists.intro [21, 22, 5, 6, 7, 8, 9, 10, 11, 12] (Exists.intro [q2 0, q2 2, q1 _] (Exists.intro ((wRo 0 _ _ _ ++ wBo 2 _ _ _ _ _ _ _ _ _ _ _ _)) (And.intro rfl (And.intro rfl (And.intro rfl (And.intro ⟨⟨_, rfl⟩, rfl⟩ ?_))))))
                  refine Exists.intro _ (Exists.intro _ (Exists.intro _ (Exists.intro _ (Exists.intro _ (Exists.intro _ (Exists.intro _ (Exists.intro _ (Exists.intro _ (Exists.intro _ (Exists.intro _ (Exists.intro _ (Exists.intro _ (Exists.intro _ (Exists.intro _ (Exists.intro _ (And.intro rfl (And.intro rfl (And.intro (by first | omega | assumption | exact q_rg_up (by assumption) (by omega) | exact q_rg_up (q_rg_up (by assumption) (by omega)) (by omega) | exact q_rg_cpy (by assumption) (by assumption)) (?_)))))))))))))))))))
                  intro z93
                  exact hQ _ _ _ _
              · intro h63
                exact hQ _ _ _ _
        · intro h30
          intro z41 h41
          first | replace h41 := e_add h41 (by omega) | replace h41 := e_rng h41
          apply And.intro
          · intro h42
            apply And.intro
            · intro h54
              refine Exists.intro [21, 22, 5, 6, 7, 8, 9, 10, 11, 12] (Exists.intro [q2 0, q2 2, q1 _] (Exists.intro ((wRo 0 _ _ _ ++ wBo 2 _ _ _ _ _ _ _ _ _ _ _ _)) (And.intro rfl (And.intro rfl (And.intro rfl (And.intro ⟨⟨_, rfl⟩, rfl⟩ (And.intro (Nat.le_of_ble_eq_true rfl) ?_)))))))
              refine Exists.intro _ (Exists.intro _ (Exists.intro _ (Exists.intro _ (Exists.intro _ (Exists.intro _ (Exists.intro _ (Exists.intro _ (Exists.intro _ (Exists.intro _ (Exists.intro _ (Exists.intro _ (Exists.intro _ (Exists.intro _ (Exists.intro _ (Exists.intro _ (And.intro rfl (And.intro rfl (And.intro (by first | omega | assumption | exact q_rg_up (by assumption) (by omega) | exact q_rg_up (q_rg_up (by assumption) (by omega)) (by omega) | exact q_rg_cpy (by assumption) (by assumption)) (?_)))))))))))))))))))
              intro x1_75 x2_75 x3_75
              intro _
              apply And.intro
              · intro h80
                apply And.intro
                · intro h98
                  exact hQ _ _ _ _
                · intro h98
                  exact hQ _ _ _ _
              · intro h80
                intro z92 h92
                first | replace h92 := e_sub h92 (by omega) | replace h92 := e_rng h92
                refine Exists.intro [21, 22, 5, 6, 7, 8, 9, 10, 11, 12] (Exists.intro [q2 0, q2 2, q1 _] (Exists.intro ((wRo 0 _ _ _ ++ wBo 2 _ _ _ _ _ _ _ _ _ _ _ _)) (And.intro rfl (And.intro rfl (And.intro rfl (And.intro ⟨⟨_, rfl⟩, rfl⟩ ?_))))))
                refine Exists.intro _ (Exists.intro _ (Exists.intro _ (Exists.intro _ (Exists.intro _ (Exists.intro _ (Exists.intro _ (Exists.intro _ (Exists.intro _ (Exists.intro _ (Exists.intro _ (Exists.intro _ (Exists.intro _ (Exists.intro _ (Exists.intro _ (Exists.intro _ (And.intro rfl (And.intro rfl (And.intro (by first | omega | assumption | exact q_rg_up (by assumption) (by omega) | exact q_rg_up (q_rg_up (by assumption) (by omega)) (by omega) | exact q_rg_cpy (by assumption) (by assumption)) (?_)))))))))))))))))))
                intro z93
                exact hQ _ _ _ _
            · intro h54
              apply And.intro
              · intro h58
                refine Exists.intro [21, 22, 5, 6, 7, 8, 9, 10, 11, 12] (Exists.intro [q2 0, q2 2, q1 _] (Exists.intro ((wRo 0 _ _ _ ++ wBo 2 _ _ _ _ _ _ _ _ _ _ _ _)) (And.intro rfl (And.intro rfl (And.intro rfl (And.intro ⟨⟨_, rfl⟩, rfl⟩ (And.intro (Nat.le_of_ble_eq_true rfl) ?_)))))))
                refine Exists.intro _ (Exists.intro _ (Exists.intro _ (Exists.intro _ (Exists.intro _ (Exists.intro _ (Exists.intro _ (Exists.intro _ (Exists.intro _ (Exists.intro _ (Exists.intro _ (Exists.intro _ (Exists.intro _ (Exists.intro _ (Exists.intro _ (Exists.intro _ (And.intro rfl (And.intro rfl (And.intro (by first | omega | assumption | exact q_rg_up (by assumption) (by omega) | exact q_rg_up (q_rg_up (by assumption) (by omega)) (by omega) | exact q_rg_cpy (by assumption) (by assumption)) (?_)))))))))))))))))))
                intro x1_75 x2_75 x3_75
                intro _
                apply And.intro
                · intro h80
                  apply And.intro
                  · intro h98
                    exact hQ _ _ _ _
                  · intro h98
                    exact hQ _ _ _ _
                · intro h80
                  intro z92 h92
                  first | replace h92 := e_sub h92 (by omega) | replace h92 := e_rng h92
                  refine Exists.intro [21, 22, 5, 6, 7, 8, 9, 10, 11, 12] (Exists.intro [q2 0, q2 2, q1 _] (Exists.intro ((wRo 0 _ _ _ ++ wBo 2 _ _ _ _ _ _ _ _ _ _ _ _)) (And.intro rfl (And.intro rfl (And.intro rfl (And.intro ⟨⟨_, rfl⟩, rfl⟩ ?_))))))
                  refine Exists.intro _ (Exists.intro _ (Exists.intro _ (Exists.intro _ (Exists.intro _ (Exists.intro _ (Exists.intro _ (Exists.intro _ (Exists.intro _ (Exists.intro _ (Exists.intro _ (Exists.intro _ (Exists.intro _ (Exists.intro _ (Exists.intro _ (Exists.intro _ (And.intro rfl (And.intro rfl (And.intro (by first | omega | assumption | exact q_rg_up (by assumption) (by omega) | exact q_rg_up (q_rg_up (by assumption) (by omega)) (by omega) | exact q_rg_cpy (by assumption) (by assumption)) (?_)))))))))))))))))))
                  intro z93
                  exact hQ _ _ _ _
              · intro h58
                apply And.intro
                · intro h63
                  refine Exists.intro [21, 22, 5, 6, 7, 8, 9, 10, 11, 12] (Exists.intro [q2 0, q2 2, q1 _] (Exists.intro ((wRo 0 _ _ _ ++ wBo 2 _ _ _ _ _ _ _ _ _ _ _ _)) (And.intro rfl (And.intro rfl (And.intro rfl (And.intro ⟨⟨_, rfl⟩, rfl⟩ (And.intro (Nat.le_of_ble_eq_true rfl) ?_)))))))
                  refine Exists.intro _ (Exists.intro _ (Exists.intro _ (Exists.intro _ (Exists.intro _ (Exists.intro _ (Exists.intro _ (Exists.intro _ (Exists.intro _ (Exists.intro _ (Exists.intro _ (Exists.intro _ (Exists.intro _ (Exists.intro _ (Exists.intro _ (Exists.intro _ (And.intro rfl (And.intro rfl (And.intro (by first | omega | assumption | exact q_rg_up (by assumption) (by omega) | exact q_rg_up (q_rg_up (by assumption) (by omega)) (by omega) | exact q_rg_cpy (by assumption) (by assumption)) (?_)))))))))))))))))))
                  intro x1_75 x2_75 x3_75
                  intro _
                  apply And.intro
                  · intro h80
                    apply And.intro
                    · intro h98
                      exact hQ _ _ _ _
                    · intro h98
                      exact hQ _ _ _ _
                  · intro h80
                    intro z92 h92
                    first | replace h92 := e_sub h92 (by omega) | replace h92 := e_rng h92
                    refine Exists.intro [21, 22, 5, 6, 7, 8, 9, 10, 11, 12] (Exists.intro [q2 0, q2 2, q1 _] (Exists.intro ((wRo 0 _ _ _ ++ wBo 2 _ _ _ _ _ _ _ _ _ _ _ _)) (And.intro rfl (And.intro rfl (And.intro rfl (And.intro ⟨⟨_, rfl⟩, rfl⟩ ?_))))))
                    refine Exists.intro _ (Exists.intro _ (Exists.intro _ (Exists.intro _ (Exists.intro _ (Exists.intro _ (Exists.intro _ (Exists.intro _ (Exists.intro _ (Exists.intro _ (Exists.intro _ (Exists.intro _ (Exists.intro _ (Exists.intro _ (Exists.intro _ (Exists.intro _ (And.intro rfl (And.intro rfl (And.intro (by first | omega | assumption | exact q_rg_up (by assumption) (by omega) | exact q_rg_up (q_rg_up (by assumption) (by omega)) (by omega) | exact q_rg_cpy (by assumption) (by assumption)) (?_)))))))))))))))))))
                    intro z93
                    exact hQ _ _ _ _
                · intro h63
                  exact hQ _ _ _ _
          · intro h42
            apply And.intro
            · intro h54
              refine Exists.intro [21, 22, 5, 6, 7, 8, 9, 10, 11, 12] (Exists.intro [q2 0, q2 2, q1 _] (Exists.intro ((wRo 0 _ _ _ ++ wBo 2 _ _ _ _ _ _ _ _ _ _ _ _)) (And.intro rfl (And.intro rfl (And.intro rfl (And.intro ⟨⟨_, rfl⟩, rfl⟩ (And.intro (Nat.le_of_ble_eq_true rfl) ?_)))))))
              refine Exists.intro _ (Exists.intro _ (Exists.intro _ (Exists.intro _ (Exists.intro _ (Exists.intro _ (Exists.intro _ (Exists.intro _ (Exists.intro _ (Exists.intro _ (Exists.intro _ (Exists.intro _ (Exists.intro _ (Exists.intro _ (Exists.intro _ (Exists.intro _ (And.intro rfl (And.intro rfl (And.intro (by first | omega | assumption | exact q_rg_up (by assumption) (by omega) | exact q_rg_up (q_rg_up (by assumption) (by omega)) (by omega) | exact q_rg_cpy (by assumption) (by assumption)) (?_)))))))))))))))))))
              intro x1_75 x2_75 x3_75
              intro _
              apply And.intro
              · intro h80
                apply And.intro
                · intro h98
                  exact hQ _ _ _ _
                · intro h98
                  exact hQ _ _ _ _
              · intro h80
                intro z92 h92
                first | replace h92 := e_sub h92 (by omega) | replace h92 := e_rng h92
                refine Exists.intro [21, 22, 5, 6, 7, 8, 9, 10, 11, 12] (Exists.intro [q2 0, q2 2, q1 _] (Exists.intro ((wRo 0 _ _ _ ++ wBo 2 _ _ _ _ _ _ _ _ _ _ _ _)) (And.intro rfl (And.intro rfl (And.intro rfl (And.intro ⟨⟨_, rfl⟩, rfl⟩ ?_))))))
                refine Exists.intro _ (Exists.intro _ (Exists.intro _ (Exists.intro _ (Exists.intro _ (Exists.intro _ (Exists.intro _ (Exists.intro _ (Exists.intro _ (Exists.intro _ (Exists.intro _ (Exists.intro _ (Exists.intro _ (Exists.intro _ (Exists.intro _ (Exists.intro _ (And.intro rfl (And.intro rfl (And.intro (by first | omega | assumption | exact q_rg_up (by assumption) (by omega) | exact q_rg_up (q_rg_up (by assumption) (by omega)) (by omega) | exact q_rg_cpy (by assumption) (by assumption)) (?_)))))))))))))))))))
                intro z93
                exact hQ _ _ _ _
            · intro h54
              apply And.intro
              · intro h58
                refine Exists.intro [21, 22, 5, 6, 7, 8, 9, 10, 11, 12] (Exists.intro [q2 0, q2 2, q1 _] (Exists.intro ((wRo 0 _ _ _ ++ wBo 2 _ _ _ _ _ _ _ _ _ _ _ _)) (And.intro rfl (And.intro rfl (And.intro rfl (And.intro ⟨⟨_, rfl⟩, rfl⟩ (And.intro (Nat.le_of_ble_eq_true rfl) ?_)))))))
                refine Exists.intro _ (Exists.intro _ (Exists.intro _ (Exists.intro _ (Exists.intro _ (Exists.intro _ (Exists.intro _ (Exists.intro _ (Exists.intro _ (Exists.intro _ (Exists.intro _ (Exists.intro _ (Exists.intro _ (Exists.intro _ (Exists.intro _ (Exists.intro _ (And.intro rfl (And.intro rfl (And.intro (by first | omega | assumption | exact q_rg_up (by assumption) (by omega) | exact q_rg_up (q_rg_up (by assumption) (by omega)) (by omega) | exact q_rg_cpy (by assumption) (by assumption)) (?_)))))))))))))))))))
                intro x1_75 x2_75 x3_75
                intro _
                apply And.intro
                · intro h80
                  apply And.intro
                  · intro h98
                    exact hQ _ _ _ _
                  · intro h98
                    exact hQ _ _ _ _
                · intro h80
                  intro z92 h92
                  first | replace h92 := e_sub h92 (by omega) | replace h92 := e_rng h92
                  refine Exists.intro [21, 22, 5, 6, 7, 8, 9, 10, 11, 12] (Exists.intro [q2 0, q2 2, q1 _] (Exists.intro ((wRo 0 _ _ _ ++ wBo 2 _ _ _ _ _ _ _ _ _ _ _ _)) (And.intro rfl (And.intro rfl (And.intro rfl (And.intro ⟨⟨_, rfl⟩, rfl⟩ ?_))))))
                  refine Exists.intro _ (Exists.intro _ (Exists.intro _ (Exists.intro _ (Exists.intro _ (Exists.intro _ (Exists.intro _ (Exists.intro _ (Exists.intro _ (Exists.intro _ (Exists.intro _ (Exists.intro _ (Exists.intro _ (Exists.intro _ (Exists.intro _ (Exists.intro _ (And.intro rfl (And.intro rfl (And.intro (by first | omega | assumption | exact q_rg_up (by assumption) (by omega) | exact q_rg_up (q_rg_up (by assumption) (by omega)) (by omega) | exact q_rg_cpy (by assumption) (by assumption)) (?_)))))))))))))))))))
                  intro z93
                  exact hQ _ _ _ _
              · intro h58
                apply And.intro
                · intro h63
                  refine Exists.intro [21, 22, 5, 6, 7, 8, 9, 10, 11, 12] (Exists.intro [q2 0, q2 2, q1 _] (Exists.intro ((wRo 0 _ _ _ ++ wBo 2 _ _ _ _ _ _ _ _ _ _ _ _)) (And.intro rfl (And.intro rfl (And.intro rfl (And.intro ⟨⟨_, rfl⟩, rfl⟩ (And.intro (Nat.le_of_ble_eq_true rfl) ?_)))))))
                  refine Exists.intro _ (Exists.intro _ (Exists.intro _ (Exists.intro _ (Exists.intro _ (Exists.intro _ (Exists.intro _ (Exists.intro _ (Exists.intro _ (Exists.intro _ (Exists.intro _ (Exists.intro _ (Exists.intro _ (Exists.intro _ (Exists.intro _ (Exists.intro _ (And.intro rfl (And.intro rfl (And.intro (by first | omega | assumption | exact q_rg_up (by assumption) (by omega) | exact q_rg_up (q_rg_up (by assumption) (by omega)) (by omega) | exact q_rg_cpy (by assumption) (by assumption)) (?_)))))))))))))))))))
                  intro x1_75 x2_75 x3_75
                  intro _
                  apply And.intro
                  · intro h80
                    apply And.intro
                    · intro h98
                      exact hQ _ _ _ _
                    · intro h98
                      exact hQ _ _ _ _
                  · intro h80
                    intro z92 h92
                    first | replace h92 := e_sub h92 (by omega) | replace h92 := e_rng h92
                    refine Exists.intro [21, 22, 5, 6, 7, 8, 9, 10, 11, 12] (Exists.intro [q2 0, q2 2, q1 _] (Exists.intro ((wRo 0 _ _ _ ++ wBo 2 _ _ _ _ _ _ _ _ _ _ _ _)) (And.intro rfl (And.intro rfl (And.intro rfl (And.intro ⟨⟨_, rfl⟩, rfl⟩ ?_))))))
                    refine Exists.intro _ (Exists.intro _ (Exists.intro _ (Exists.intro _ (Exists.intro _ (Exists.intro _ (Exists.intro _ (Exists.intro _ (Exists.intro _ (Exists.intro _ (Exists.intro _ (Exists.intro _ (Exists.intro _ (Exists.intro _ (Exists.intro _ (Exists.intro _ (And.intro rfl (And.intro rfl (And.intro (by first | omega | assumption | exact q_rg_up (by assumption) (by omega) | exact q_rg_up (q_rg_up (by assumption) (by omega)) (by omega) | exact q_rg_cpy (by assumption) (by assumption)) (?_)))))))))))))))))))
                    intro z93
                    exact hQ _ _ _ _
                · intro h63
                  exact hQ _ _ _ _
      · intro h22
        exact hQ _ _ _ _
  · apply And.intro
    · intro h16
      exact hQ _ _ _ _
    · intro h16
      apply And.intro
      · intro h22
        apply And.intro
        · intro h30
          apply And.intro
          · intro h54
            refine Exists.intro [21, 22, 13, 14, 15, 16, 17, 18, 19, 20] (Exists.intro [q2 0, q2 2, q1 _] (Exists.intro ((wRo 0 _ _ _ ++ wBo 2 _ _ _ _ _ _ _ _ _ _ _ _)) (And.intro rfl (And.intro rfl (And.intro rfl (And.intro ⟨⟨_, rfl⟩, rfl⟩ (And.intro (Nat.le_of_ble_eq_true rfl) ?_)))))))
            refine Exists.intro _ (Exists.intro _ (Exists.intro _ (Exists.intro _ (Exists.intro _ (Exists.intro _ (Exists.intro _ (Exists.intro _ (Exists.intro _ (Exists.intro _ (Exists.intro _ (Exists.intro _ (Exists.intro _ (Exists.intro _ (Exists.intro _ (Exists.intro _ (And.intro rfl (And.intro rfl (And.intro (by first | omega | assumption | exact q_rg_up (by assumption) (by omega) | exact q_rg_up (q_rg_up (by assumption) (by omega)) (by omega) | exact q_rg_cpy (by assumption) (by assumption)) (?_)))))))))))))))))))
            intro x1_75 x2_75 x3_75
            intro _
            apply And.intro
            · intro h80
              apply And.intro
              · intro h98
                exact hQ _ _ _ _
              · intro h98
                exact hQ _ _ _ _
            · intro h80
              intro z92 h92
              first | replace h92 := e_sub h92 (by omega) | replace h92 := e_rng h92
              refine Exists.intro [21, 22, 13, 14, 15, 16, 17, 18, 19, 20] (Exists.intro [q2 0, q2 2, q1 _] (Exists.intro ((wRo 0 _ _ _ ++ wBo 2 _ _ _ _ _ _ _ _ _ _ _ _)) (And.intro rfl (And.intro rfl (And.intro rfl (And.intro ⟨⟨_, rfl⟩, rfl⟩ ?_))))))
              refine Exists.intro _ (Exists.intro _ (Exists.intro _ (Exists.intro _ (Exists.intro _ (Exists.intro _ (Exists.intro _ (Exists.intro _ (Exists.intro _ (Exists.intro _ (Exists.intro _ (Exists.intro _ (Exists.intro _ (Exists.intro _ (Exists.intro _ (Exists.intro _ (And.intro rfl (And.intro rfl (And.intro (by first | omega | assumption | exact q_rg_up (by assumption) (by omega) | exact q_rg_up (q_rg_up (by assumption) (by omega)) (by omega) | exact q_rg_cpy (by assumption) (by assumption)) (?_)))))))))))))))))))
              intro z93
              exact hQ _ _ _ _
          · intro h54
            apply And.intro
            · intro h58
              refine Exists.intro [21, 22, 13, 14, 15, 16, 17, 18, 19, 20] (Exists.intro [q2 0, q2 2, q1 _] (Exists.intro ((wRo 0 _ _ _ ++ wBo 2 _ _ _ _ _ _ _ _ _ _ _ _)) (And.intro rfl (And.intro rfl (And.intro rfl (And.intro ⟨⟨_, rfl⟩, rfl⟩ (And.intro (Nat.le_of_ble_eq_true rfl) ?_)))))))
              refine Exists.intro _ (Exists.intro _ (Exists.intro _ (Exists.intro _ (Exists.intro _ (Exists.intro _ (Exists.intro _ (Exists.intro _ (Exists.intro _ (Exists.intro _ (Exists.intro _ (Exists.intro _ (Exists.intro _ (Exists.intro _ (Exists.intro _ (Exists.intro _ (And.intro rfl (And.intro rfl (And.intro (by first | omega | assumption | exact q_rg_up (by assumption) (by omega) | exact q_rg_up (q_rg_up (by assumption) (by omega)) (by omega) | exact q_rg_cpy (by assumption) (by assumption)) (?_)))))))))))))))))))
              intro x1_75 x2_75 x3_75
              intro _
              apply And.intro
              · intro h80
                apply And.intro
                · intro h98
                  exact hQ _ _ _ _
                · intro h98
                  exact hQ _ _ _ _
              · intro h80
                intro z92 h92
                first | replace h92 := e_sub h92 (by omega) | replace h92 := e_rng h92
                refine Exists.intro [21, 22, 13, 14, 15, 16, 17, 18, 19, 20] (Exists.intro [q2 0, q2 2, q1 _] (Exists.intro ((wRo 0 _ _ _ ++ wBo 2 _ _ _ _ _ _ _ _ _ _ _ _)) (And.intro rfl (And.intro rfl (And.intro rfl (And.intro ⟨⟨_, rfl⟩, rfl⟩ ?_))))))
                refine Exists.intro _ (Exists.intro _ (Exists.intro _ (Exists.intro _ (Exists.intro _ (Exists.intro _ (Exists.intro _ (Exists.intro _ (Exists.intro _ (Exists.intro _ (Exists.intro _ (Exists.intro _ (Exists.intro _ (Exists.intro _ (Exists.intro _ (Exists.intro _ (And.intro rfl (And.intro rfl (And.intro (by first | omega | assumption | exact q_rg_up (by assumption) (by omega) | exact q_rg_up (q_rg_up (by assumption) (by omega)) (by omega) | exact q_rg_cpy (by assumption) (by assumption)) (?_)))))))))))))))))))
                intro z93
                exact hQ _ _ _ _
            · intro h58
              apply And.intro
              · intro h63
                refine Exists.intro [21, 22, 13, 14, 15, 16, 17, 18, 19, 20] (Exists.intro [q2 0, q2 2, q1 _] (Exists.intro ((wRo 0 _ _ _ ++ wBo 2 _ _ _ _ _ _ _ _ _ _ _ _)) (And.intro rfl (And.intro rfl (And.intro rfl (And.intro ⟨⟨_, rfl⟩, rfl⟩ (And.intro (Nat.le_of_ble_eq_true rfl) ?_)))))))
                refine Exists.intro _ (Exists.intro _ (Exists.intro _ (Exists.intro _ (Exists.intro _ (Exists.intro _ (Exists.intro _ (Exists.intro _ (Exists.intro _ (Exists.intro _ (Exists.intro _ (Exists.intro _ (Exists.intro _ (Exists.intro _ (Exists.intro _ (Exists.intro _ (And.intro rfl (And.intro rfl (And.intro (by first | omega | assumption | exact q_rg_up (by assumption) (by omega) | exact q_rg_up (q_rg_up (by assumption) (by omega)) (by omega) | exact q_rg_cpy (by assumption) (by assumption)) (?_)))))))))))))))))))
                intro x1_75 x2_75 x3_75
                intro _
                apply And.intro
                · intro h80
                  apply And.intro
                  · intro h98
                    exact hQ _ _ _ _
                  · intro h98
                    exact hQ _ _ _ _
                · intro h80
                  intro z92 h92
                  first | replace h92 := e_sub h92 (by omega) | replace h92 := e_rng h92
                  refine Exists.intro [21, 22, 13, 14, 15, 16, 17, 18, 19, 20] (Exists.intro [q2 0, q2 2, q1 _] (Exists.intro ((wRo 0 _ _ _ ++ wBo 2 _ _ _ _ _ _ _ _ _ _ _ _)) (And.intro rfl (And.intro rfl (And.intro rfl (And.intro ⟨⟨_, rfl⟩, rfl⟩ ?_))))))
                  refine Exists.intro _ (Exists.intro _ (Exists.intro _ (Exists.intro _ (Exists.intro _ (Exists.intro _ (Exists.intro _ (Exists.intro _ (Exists.intro _ (Exists.intro _ (Exists.intro _ (Exists.intro _ (Exists.intro _ (Exists.intro _ (Exists.intro _ (Exists.intro _ (And.intro rfl (And.intro rfl (And.intro (by first | omega | assumption | exact q_rg_up (by assumption) (by omega) | exact q_rg_up (q_rg_up (by assumption) (by omega)) (by omega) | exact q_rg_cpy (by assumption) (by assumption)) (?_)))))))))))))))))))
                  intro z93
                  exact hQ _ _ _ _
              · intro h63
                exact hQ _ _ _ _
        · intro h30
          intro z41 h41
          first | replace h41 := e_add h41 (by omega) | replace h41 := e_rng h41
          apply And.intro
          · intro h42
            apply And.intro
            · intro h54
              refine Exists.intro [21, 22, 13, 14, 15, 16, 17, 18, 19, 20] (Exists.intro [q2 0, q2 2, q1 _] (Exists.intro ((wRo 0 _ _ _ ++ wBo 2 _ _ _ _ _ _ _ _ _ _ _ _)) (And.intro rfl (And.intro rfl (And.intro rfl (And.intro ⟨⟨_, rfl⟩, rfl⟩ (And.intro (Nat.le_of_ble_eq_true rfl) ?_)))))))
              refine Exists.intro _ (Exists.intro _ (Exists.intro _ (Exists.intro _ (Exists.intro _ (Exists.intro _ (Exists.intro _ (Exists.intro _ (Exists.intro _ (Exists.intro _ (Exists.intro _ (Exists.intro _ (Exists.intro _ (Exists.intro _ (Exists.intro _ (Exists.intro _ (And.intro rfl (And.intro rfl (And.intro (by first | omega | assumption | exact q_rg_up (by assumption) (by omega) | exact q_rg_up (q_rg_up (by assumption) (by omega)) (by omega) | exact q_rg_cpy (by assumption) (by assumption)) (?_)))))))))))))))))))
              intro x1_75 x2_75 x3_75
              intro _
              apply And.intro
              · intro h80
                apply And.intro
                · intro h98
                  exact hQ _ _ _ _
                · intro h98
                  exact hQ _ _ _ _
              · intro h80
                intro z92 h92
                first | replace h92 := e_sub h92 (by omega) | replace h92 := e_rng h92
                refine Exists.intro [21, 22, 13, 14, 15, 16, 17, 18, 19, 20] (Exists.intro [q2 0, q2 2, q1 _] (Exists.intro ((wRo 0 _ _ _ ++ wBo 2 _ _ _ _ _ _ _ _ _ _ _ _)) (And.intro rfl (And.intro rfl (And.intro rfl (And.intro ⟨⟨_, rfl⟩, rfl⟩ ?_))))))
                refine Exists.intro _ (Exists.intro _ (Exists.intro _ (Exists.intro _ (Exists.intro _ (Exists.intro _ (Exists.intro _ (Exists.intro _ (Exists.intro _ (Exists.intro _ (Exists.intro _ (Exists.intro _ (Exists.intro _ (Exists.intro _ (Exists.intro _ (Exists.intro _ (And.intro rfl (And.intro rfl (And.intro (by first | omega | assumption | exact q_rg_up (by assumption) (by omega) | exact q_rg_up (q_rg_up (by assumption) (by omega)) (by omega) | exact q_rg_cpy (by assumption) (by assumption)) (?_)))))))))))))))))))
                intro z93
                exact hQ _ _ _ _
            · intro h54
              apply And.intro
              · intro h58
                refine Exists.intro [21, 22, 13, 14, 15, 16, 17, 18, 19, 20] (Exists.intro [q2 0, q2 2, q1 _] (Exists.intro ((wRo 0 _ _ _ ++ wBo 2 _ _ _ _ _ _ _ _ _ _ _ _)) (And.intro rfl (And.intro rfl (And.intro rfl (And.intro ⟨⟨_, rfl⟩, rfl⟩ (And.intro (Nat.le_of_ble_eq_true rfl) ?_)))))))
                refine Exists.intro _ (Exists.intro _ (Exists.intro _ (Exists.intro _ (Exists.intro _ (Exists.intro _ (Exists.intro _ (Exists.intro _ (Exists.intro _ (Exists.intro _ (Exists.intro _ (Exists.intro _ (Exists.intro _ (Exists.intro _ (Exists.intro _ (Exists.intro _ (And.intro rfl (And.intro rfl (And.intro (by first | omega | assumption | exact q_rg_up (by assumption) (by omega) | exact q_rg_up (q_rg_up (by assumption) (by omega)) (by omega) | exact q_rg_cpy (by assumption) (by assumption)) (?_)))))))))))))))))))
                intro x1_75 x2_75 x3_75
                intro _
                apply And.intro
                · intro h80
                  apply And.intro
                  · intro h98
                    exact hQ _ _ _ _
                  · intro h98
                    exact hQ _ _ _ _
                · intro h80
                  intro z92 h92
                  first | replace h92 := e_sub h92 (by omega) | replace h92 := e_rng h92
                  refine Exists.intro [21, 22, 13, 14, 15, 16, 17, 18, 19, 20] (Exists.intro [q2 0, q2 2, q1 _] (Exists.intro ((wRo 0 _ _ _ ++ wBo 2 _ _ _ _ _ _ _ _ _ _ _ _)) (And.intro rfl (And.intro rfl (And.intro rfl (And.intro ⟨⟨_, rfl⟩, rfl⟩ ?_))))))
                  refine Exists.intro _ (Exists.intro _ (Exists.intro _ (Exists.intro _ (Exists.intro _ (Exists.intro _ (Exists.intro _ (Exists.intro _ (Exists.intro _ (Exists.intro _ (Exists.intro _ (Exists.intro _ (Exists.intro _ (Exists.intro _ (Exists.intro _ (Exists.intro _ (And.intro rfl (And.intro rfl (And.intro (by first | omega | assumption | exact q_rg_up (by assumption) (by omega) | exact q_rg_up (q_rg_up (by assumption) (by omega)) (by omega) | exact q_rg_cpy (by assumption) (by assumption)) (?_)))))))))))))))))))
                  intro z93
                  exact hQ _ _ _ _
              · intro h58
                apply And.intro
                · intro h63
                  refine Exists.intro [21, 22, 13, 14, 15, 16, 17, 18, 19, 20] (Exists.intro [q2 0, q2 2, q1 _] (Exists.intro ((wRo 0 _ _ _ ++ wBo 2 _ _ _ _ _ _ _ _ _ _ _ _)) (And.intro rfl (And.intro rfl (And.intro rfl (And.intro ⟨⟨_, rfl⟩, rfl⟩ (And.intro (Nat.le_of_ble_eq_true rfl) ?_)))))))
                  refine Exists.intro _ (Exists.intro _ (Exists.intro _ (Exists.intro _ (Exists.intro _ (Exists.intro _ (Exists.intro _ (Exists.intro _ (Exists.intro _ (Exists.intro _ (Exists.intro _ (Exists.intro _ (Exists.intro _ (Exists.intro _ (Exists.intro _ (Exists.intro _ (And.intro rfl (And.intro rfl (And.intro (by first | omega | assumption | exact q_rg_up (by assumption) (by omega) | exact q_rg_up (q_rg_up (by assumption) (by omega)) (by omega) | exact q_rg_cpy (by assumption) (by assumption)) (?_)))))))))))))))))))
                  intro x1_75 x2_75 x3_75
                  intro _
                  apply And.intro
                  · intro h80
                    apply And.intro
                    · intro h98
                      exact hQ _ _ _ _
                    · intro h98
                      exact hQ _ _ _ _
                  · intro h80
                    intro z92 h92
                    first | replace h92 := e_sub h92 (by omega) | replace h92 := e_rng h92
                    refine Exists.intro [21, 22, 13, 14, 15, 16, 17, 18, 19, 20] (Exists.intro [q2 0, q2 2, q1 _] (Exists.intro ((wRo 0 _ _ _ ++ wBo 2 _ _ _ _ _ _ _ _ _ _ _ _)) (And.intro rfl (And.intro rfl (And.intro rfl (And.intro ⟨⟨_, rfl⟩, rfl⟩ ?_))))))
                    refine Exists.intro _ (Exists.intro _ (Exists.intro _ (Exists.intro _ (Exists.intro _ (Exists.intro _ (Exists.intro _ (Exists.intro _ (Exists.intro _ (Exists.intro _ (Exists.intro _ (Exists.intro _ (Exists.intro _ (Exists.intro _ (Exists.intro _ (Exists.intro _ (And.intro rfl (And.intro rfl (And.intro (by first | omega | assumption | exact q_rg_up (by assumption) (by omega) | exact q_rg_up (q_rg_up (by assumption) (by omega)) (by omega) | exact q_rg_cpy (by assumption) (by assumption)) (?_)))))))))))))))))))
                    intro z93
                    exact hQ _ _ _ _
                · intro h63
                  exact hQ _ _ _ _
          · intro h42
            apply And.intro
            · intro h54
              refine Exists.intro [21, 22, 13, 14, 15, 16, 17, 18, 19, 20] (Exists.intro [q2 0, q2 2, q1 _] (Exists.intro ((wRo 0 _ _ _ ++ wBo 2 _ _ _ _ _ _ _ _ _ _ _ _)) (And.intro rfl (And.intro rfl (And.intro rfl (And.intro ⟨⟨_, rfl⟩, rfl⟩ (And.intro (Nat.le_of_ble_eq_true rfl) ?_)))))))
              refine Exists.intro _ (Exists.intro _ (Exists.intro _ (Exists.intro _ (Exists.intro _ (Exists.intro _ (Exists.intro _ (Exists.intro _ (Exists.intro _ (Exists.intro _ (Exists.intro _ (Exists.intro _ (Exists.intro _ (Exists.intro _ (Exists.intro _ (Exists.intro _ (And.intro rfl (And.intro rfl (And.intro (by first | omega | assumption | exact q_rg_up (by assumption) (by omega) | exact q_rg_up (q_rg_up (by assumption) (by omega)) (by omega) | exact q_rg_cpy (by assumption) (by assumption)) (?_)))))))))))))))))))
              intro x1_75 x2_75 x3_75
              intro _
              apply And.intro
              · intro h80
                apply And.intro
                · intro h98
                  exact hQ _ _ _ _
                · intro h98
                  exact hQ _ _ _ _
              · intro h80
                intro z92 h92
                first | replace h92 := e_sub h92 (by omega) | replace h92 := e_rng h92
                refine Exists.intro [21, 22, 13, 14, 15, 16, 17, 18, 19, 20] (Exists.intro [q2 0, q2 2, q1 _] (Exists.intro ((wRo 0 _ _ _ ++ wBo 2 _ _ _ _ _ _ _ _ _ _ _ _)) (And.intro rfl (And.intro rfl (And.intro rfl (And.intro ⟨⟨_, rfl⟩, rfl⟩ ?_))))))
                refine Exists.intro _ (Exists.intro _ (Exists.intro _ (Exists.intro _ (Exists.intro _ (Exists.intro _ (Exists.intro _ (Exists.intro _ (Exists.intro _ (Exists.intro _ (Exists.intro _ (Exists.intro _ (Exists.intro _ (Exists.intro _ (Exists.intro _ (Exists.intro _ (And.intro rfl (And.intro rfl (And.intro (by first | omega | assumption | exact q_rg_up (by assumption) (by omega) | exact q_rg_up (q_rg_up (by assumption) (by omega)) (by omega) | exact q_rg_cpy (by assumption) (by assumption)) (?_)))))))))))))))))))
                intro z93
                exact hQ _ _ _ _
            · intro h54
              apply And.intro
              · intro h58
                refine Exists.intro [21, 22, 13, 14, 15, 16, 17, 18, 19, 20] (Exists.intro [q2 0, q2 2, q1 _] (Exists.intro ((wRo 0 _ _ _ ++ wBo 2 _ _ _ _ _ _ _ _ _ _ _ _)) (And.intro rfl (And.intro rfl (And.intro rfl (And.intro ⟨⟨_, rfl⟩, rfl⟩ (And.intro (Nat.le_of_ble_eq_true rfl) ?_)))))))
                refine Exists.intro _ (Exists.intro _ (Exists.intro _ (Exists.intro _ (Exists.intro _ (Exists.intro _ (Exists.intro _ (Exists.intro _ (Exists.intro _ (Exists.intro _ (Exists.intro _ (Exists.intro _ (Exists.intro _ (Exists.intro _ (Exists.intro _ (Exists.intro _ (And.intro rfl (And.intro rfl (And.intro (by first | omega | assumption | exact q_rg_up (by assumption) (by omega) | exact q_rg_up (q_rg_up (by assumption) (by omega)) (by omega) | exact q_rg_cpy (by assumption) (by assumption)) (?_)))))))))))))))))))
                intro x1_75 x2_75 x3_75
                intro _
                apply And.intro
                · intro h80
                  apply And.intro
                  · intro h98
                    exact hQ _ _ _ _
                  · intro h98
                    exact hQ _ _ _ _
                · intro h80
                  intro z92 h92
                  first | replace h92 := e_sub h92 (by omega) | replace h92 := e_rng h92
                  refine Exists.intro [21, 22, 13, 14, 15, 16, 17, 18, 19, 20] (Exists.intro [q2 0, q2 2, q1 _] (Exists.intro ((wRo 0 _ _ _ ++ wBo 2 _ _ _ _ _ _ _ _ _ _ _ _)) (And.intro rfl (And.intro rfl (And.intro rfl (And.intro ⟨⟨_, rfl⟩, rfl⟩ ?_))))))
                  refine Exists.intro _ (Exists.intro _ (Exists.intro _ (Exists.intro _ (Exists.intro _ (Exists.intro _ (Exists.intro _ (Exists.intro _ (Exists.intro _ (Exists.intro _ (Exists.intro _ (Exists.intro _ (Exists.intro _ (Exists.intro _ (Exists.intro _ (Exists.intro _ (And.intro rfl (And.intro rfl (And.intro (by first | omega | assumption | exact q_rg_up (by assumption) (by omega) | exact q_rg_up (q_rg_up (by assumption) (by omega)) (by omega) | exact q_rg_cpy (by assumption) (by assumption)) (?_)))))))))))))))))))
                  intro z93
                  exact hQ _ _ _ _
              · intro h58
                apply And.intro
                · intro h63
                  refine Exists.intro [21, 22, 13, 14, 15, 16, 17, 18, 19, 20] (Exists.intro [q2 0, q2 2, q1 _] (Exists.intro ((wRo 0 _ _ _ ++ wBo 2 _ _ _ _ _ _ _ _ _ _ _ _)) (And.intro rfl (And.intro rfl (And.intro rfl (And.intro ⟨⟨_, rfl⟩, rfl⟩ (And.intro (Nat.le_of_ble_eq_true rfl) ?_)))))))
                  refine Exists.intro _ (Exists.intro _ (Exists.intro _ (Exists.intro _ (Exists.intro _ (Exists.intro _ (Exists.intro _ (Exists.intro _ (Exists.intro _ (Exists.intro _ (Exists.intro _ (Exists.intro _ (Exists.intro _ (Exists.intro _ (Exists.intro _ (Exists.intro _ (And.intro rfl (And.intro rfl (And.intro (by first | omega | assumption | exact q_rg_up (by assumption) (by omega) | exact q_rg_up (q_rg_up (by assumption) (by omega)) (by omega) | exact q_rg_cpy (by assumption) (by assumption)) (?_)))))))))))))))))))
                  intro x1_75 x2_75 x3_75
                  intro _
                  apply And.intro
                  · intro h80
                    apply And.intro
                    · intro h98
                      exact hQ _ _ _ _
                    · intro h98
                      exact hQ _ _ _ _
                  · intro h80
                    intro z92 h92
                    first | replace h92 := e_sub h92 (by omega) | replace h92 := e_rng h92
                    refine Exists.intro [21, 22, 13, 14, 15, 16, 17, 18, 19, 20] (Exists.intro [q2 0, q2 2, q1 _] (Exists.intro ((wRo 0 _ _ _ ++ wBo 2 _ _ _ _ _ _ _ _ _ _ _ _)) (And.intro rfl (And.intro rfl (And.intro rfl (And.intro ⟨⟨_, rfl⟩, rfl⟩ ?_))))))
                    refine Exists.intro _ (Exists.intro _ (Exists.intro _ (Exists.intro _ (Exists.intro _ (Exists.intro _ (Exists.intro _ (Exists.intro _ (Exists.intro _ (Exists.intro _ (Exists.intro _ (Exists.intro _ (Exists.intro _ (Exists.intro _ (Exists.intro _ (Exists.intro _ (And.intro rfl (And.intro rfl (And.intro (by first | omega | assumption | exact q_rg_up (by assumption) (by omega) | exact q_rg_up (q_rg_up (by assumption) (by omega)) (by omega) | exact q_rg_cpy (by assumption) (by assumption)) (?_)))))))))))))))))))
                    intro z93
                    exact hQ _ _ _ _
                · intro h63
                  exact hQ _ _ _ _
      · intro h22
        exact hQ _ _ _ _

theorem dX11_views_0 : decode cX11_views 0 = .ok (.aload_n 0, 1) := by decide +kernel
theorem dX11_views_1 : decode cX11_views 1 = .ok (.getfield 10, 3) := by decide +kernel
theorem dX11_views_4 : decode cX11_views 4 = .ok (.iload_n 1, 1) := by decide +kernel
theorem dX11_views_5 : decode cX11_views 5 = .ok (.invokevirtual 94, 3) := by decide +kernel
theorem dX11_views_8 : decode cX11_views 8 = .ok (.astore_n 3, 1) := by decide +kernel
theorem dX11_views_9 : decode cX11_views 9 = .ok (.aload_n 3, 1) := by decide +kernel
theorem dX11_views_10 : decode cX11_views 10 = .ok (.ifnonnull 9, 3) := by decide +kernel
theorem dX11_views_13 : decode cX11_views 13 = .ok (.ldc2_w 224, 3) := by decide +kernel
theorem dX11_views_16 : decode cX11_views 16 = .ok (.goto 12, 3) := by decide +kernel
theorem dX11_views_19 : decode cX11_views 19 = .ok (.aload_n 0, 1) := by decide +kernel
theorem dX11_views_20 : decode cX11_views 20 = .ok (.getfield 58, 3) := by decide +kernel
theorem dX11_views_23 : decode cX11_views 23 = .ok (.aload_n 3, 1) := by decide +kernel
theorem dX11_views_24 : decode cX11_views 24 = .ok (.iload_n 2, 1) := by decide +kernel
theorem dX11_views_25 : decode cX11_views 25 = .ok (.invokevirtual 256, 3) := by decide +kernel
theorem dX11_views_28 : decode cX11_views 28 = .ok (.lreturn, 1) := by decide +kernel
def is_X11_views : Nat → List Nat := fun d => []
set_option maxRecDepth 100000 in
def b_X11_views_28 (J : Nat → List qV → List qV → qW → Prop) (Q : qR) : qK := x_lret Q
set_option maxRecDepth 100000 in
theorem s_X11_views_28 {p : Program} {l : Launch} {e : Env} {R : Room} {s : State} {m : MethodId} {args : Array Value} {below : List Frame} {meth : Method} {c : Code} {nW : Nat} {dC : Nat → ClassId} {dI : Nat → Nat → Nat} {k : Nat → ClassId} {g : Nat → Nat} {A : Nat → Prop} {J : Nat → List qV → List qV → qW → Prop} {Q : qR} (X : q_X p R s m args meth c cX11_views 4 nW 2 53 RX11 (some .long) dC dI k g A) (hJ : ∀ d : Nat, q_Sd p l e R s m args below meth c 4 nW dC dI k g A (MQ below (q_post (dC, dI) k g nW Q A) args s 0 0 A) d (x_cut (is_X11_views d) (J d))) : q_Sd p l e R s m args below meth c 4 nW dC dI k g A (MQ below (q_post (dC, dI) k g nW Q A) args s 0 0 A) 28 (b_X11_views_28 J Q) := by
  unfold b_X11_views_28
  exact s_lret X dX11_views_28
set_option maxRecDepth 100000 in
def b_X11_views_0 (J : Nat → List qV → List qV → qW → Prop) (Q : qR) : qK := x_aload 0 (x_get 11 0 (x_iload 1 (x_callr (some 8) 2 spr_X8_boroughAt (x_astore 3 (x_aload 3 (x_ifnonnull (x_aload 0 (x_get 11 7 (x_aload 3 (x_iload 2 (x_callm (some 1) 3 4 spm_X1_orders (x_nw (b_X11_views_28 J Q))))))) (x_lng (-1) (b_X11_views_28 J Q))))))))
set_option maxRecDepth 100000 in
theorem s_X11_views_0 {p : Program} {l : Launch} {e : Env} {R : Room} {s : State} {m : MethodId} {args : Array Value} {below : List Frame} {meth : Method} {c : Code} {nW : Nat} {dC : Nat → ClassId} {dI : Nat → Nat → Nat} {k : Nat → ClassId} {g : Nat → Nat} {A : Nat → Prop} {J : Nat → List qV → List qV → qW → Prop} {Q : qR} (X : q_X p R s m args meth c cX11_views 4 nW 2 53 RX11 (some .long) dC dI k g A) (hJ : ∀ d : Nat, q_Sd p l e R s m args below meth c 4 nW dC dI k g A (MQ below (q_post (dC, dI) k g nW Q A) args s 0 0 A) d (x_cut (is_X11_views d) (J d))) : q_Sd p l e R s m args below meth c 4 nW dC dI k g A (MQ below (q_post (dC, dI) k g nW Q A) args s 0 0 A) 0 (b_X11_views_0 J Q) := by
  unfold b_X11_views_0
  refine s_aload_n X rfl dX11_views_0 ?_
  refine s_get X (T := TX11) (C := RX11) (N := 8) tu_X11 rfl (by decide) tw_326 dX11_views_1 ?_
  refine s_iload_n X rfl dX11_views_4 ?_
  refine s_callVr X (m_X8_boroughAt l) tw_541 tw_542 tw_543 tw_121 tw_544 rfl (by decide +kernel) ⟨by decide, by decide⟩ dX11_views_5 ?_
  refine s_astore_n X rfl (by decide) dX11_views_8 ?_
  refine s_aload_n X rfl dX11_views_9 ?_
  refine s_ifnonnull X (tgt := 19) dX11_views_10 (by decide) ?_ ?_
  · refine s_aload_n X rfl dX11_views_19 ?_
    refine s_get X (T := TX11) (C := RX11) (N := 8) tu_X11 rfl (by decide) tw_333 dX11_views_20 ?_
    refine s_aload_n X rfl dX11_views_23 ?_
    refine s_iload_n X rfl dX11_views_24 ?_
    refine s_callVm X (mm_X1_orders l) mq_X1_orders tw_907 tw_908 tw_909 tw_133 tw_910 rfl (by decide +kernel) ⟨by decide, by decide⟩ dX11_views_25 ?_
    refine s_nw ?_
    exact s_X11_views_28 X hJ
  · refine s_ldc2 X ⟨by decide, by decide⟩ tw_834 dX11_views_13 ?_
    refine s_goto X (tgt := 28) dX11_views_16 (by decide) ?_
    exact s_X11_views_28 X hJ

def sp_X11_views : qS := fun av w Q => ∃ (tp : Nat → Int) (ct : Nat → Int) (ln : Int) (fa : Int) (pl : Int) (b0f1 : Nat → Int) (b0f2 : Nat → Int) (b0f3 : Nat → Int) (b0f4 : Nat → Int) (b0f5 : Nat → Int) (b0f6 : Nat → Int) (b0f7 : Nat → Int) (b0u0 : Int) (b0u1 : Int) (b0u2 : Int) (b0u3 : Int) (b0u4 : Int) (b1f1 : Nat → Int) (b1f2 : Nat → Int) (b1f3 : Nat → Int) (b1f4 : Nat → Int) (b1f5 : Nat → Int) (b1f6 : Nat → Int) (b1f7 : Nat → Int) (b1u0 : Int) (b1u1 : Int) (b1u2 : Int) (b1u3 : Int) (b1u4 : Int) (crc1 : Nat → Int) (crc2 : Nat → Int) (crc3 : Nat → Int) (a : Int) (b : Int), av = [q2 0, q1 a, q1 b] ∧ w = [.inr (11, [q2 1, q2 25, q2 26, q2 27, q2 28, q2 29, q2 30, q2 21]), .inr (8, [q2 2, q2 3, q2 4, q2 31, q2 32, q2 33, q1 ln, q1 fa, q1 pl]), .inl (1, 600, .inl tp), .inl (0, 4, .inl ct), .inl (4, 2, .inr (.inr [some 5, some 13])), .inr (0, [q2 6, q2 7, q2 8, q2 9, q2 10, q2 11, q2 12, q1 b0u0, q1 b0u1, q1 b0u2, q1 b0u3, q1 b0u4]), .inl (0, 8, .inl b0f1), .inl (0, 8, .inl b0f2), .inl (0, 4, .inl b0f3), .inl (0, 32, .inl b0f4), .inl (0, 6, .inl b0f5), .inl (0, 6, .inl b0f6), .inl (0, 6, .inl b0f7), .inr (0, [q2 14, q2 15, q2 16, q2 17, q2 18, q2 19, q2 20, q1 b1u0, q1 b1u1, q1 b1u2, q1 b1u3, q1 b1u4]), .inl (0, 8, .inl b1f1), .inl (0, 8, .inl b1f2), .inl (0, 4, .inl b1f3), .inl (0, 32, .inl b1f4), .inl (0, 6, .inl b1f5), .inl (0, 6, .inl b1f6), .inl (0, 6, .inl b1f7), .inr (1, [q2 22, q2 23, q2 24]), .inl (0, 8, .inl crc1), .inl (0, 256, .inl crc2), .inl (3, 9, .inr (.inl crc3))] ∧ (q_rg 0 2 ct) ∧ (0 ≤ ln ∧ ln ≤ 600) ∧ (0 ≤ b0u0 ∧ b0u0 ≤ 8 ∧ 0 ≤ b0u3 ∧ b0u3 ≤ 6 ∧ 0 ≤ b0u4 ∧ b0u4 ≤ 6) ∧ (q_rg 0 9 b0f3) ∧ (0 ≤ b1u0 ∧ b1u0 ≤ 8 ∧ 0 ≤ b1u3 ∧ b1u3 ≤ 6 ∧ 0 ≤ b1u4 ∧ b1u4 ≤ 6) ∧ (q_rg 0 9 b1f3) ∧ (∀ (r : Int) (x_crc1 : Nat → Int) (x_crc2 : Nat → Int) (x_crc3 : Nat → Int), Q (some (q3 r)) ([.inr (11, [q2 1, q2 25, q2 26, q2 27, q2 28, q2 29, q2 30, q2 21]), .inr (8, [q2 2, q2 3, q2 4, q2 31, q2 32, q2 33, q1 ln, q1 fa, q1 pl]), .inl (1, 600, .inl tp), .inl (0, 4, .inl ct), .inl (4, 2, .inr (.inr [some 5, some 13])), .inr (0, [q2 6, q2 7, q2 8, q2 9, q2 10, q2 11, q2 12, q1 b0u0, q1 b0u1, q1 b0u2, q1 b0u3, q1 b0u4]), .inl (0, 8, .inl b0f1), .inl (0, 8, .inl b0f2), .inl (0, 4, .inl b0f3), .inl (0, 32, .inl b0f4), .inl (0, 6, .inl b0f5), .inl (0, 6, .inl b0f6), .inl (0, 6, .inl b0f7), .inr (0, [q2 14, q2 15, q2 16, q2 17, q2 18, q2 19, q2 20, q1 b1u0, q1 b1u1, q1 b1u2, q1 b1u3, q1 b1u4]), .inl (0, 8, .inl b1f1), .inl (0, 8, .inl b1f2), .inl (0, 4, .inl b1f3), .inl (0, 32, .inl b1f4), .inl (0, 6, .inl b1f5), .inl (0, 6, .inl b1f6), .inl (0, 6, .inl b1f7), .inr (1, [q2 22, q2 23, q2 24]), .inl (0, 8, .inl x_crc1), .inl (0, 256, .inl x_crc2), .inl (3, 9, .inr (.inl x_crc3))]))
set_option maxHeartbeats 4000000 in
set_option maxRecDepth 100000 in
theorem m_X11_views (l : Launch) : q_M l yX11_views cX11_views 4 (some .long) 2 53 sp_X11_views := by
  refine q_meth (by decide) (fun av w Q h => by obtain ⟨tp, ct, ln, fa, pl, b0f1, b0f2, b0f3, b0f4, b0f5, b0f6, b0f7, b0u0, b0u1, b0u2, b0u3, b0u4, b1f1, b1f2, b1f3, b1f4, b1f5, b1f6, b1f7, b1u0, b1u1, b1u2, b1u3, b1u4, crc1, crc2, crc3, a, b, rfl, rfl, hct, hln, hb0, hf0, hb1, hf1, hQ⟩ := h; exact Nat.le_of_ble_eq_true rfl) ?_
  intro p e R s m args below meth c dC dI k g A av w Q hsp oka okw X
  obtain ⟨tp, ct, ln, fa, pl, b0f1, b0f2, b0f3, b0f4, b0f5, b0f6, b0f7, b0u0, b0u1, b0u2, b0u3, b0u4, b1f1, b1f2, b1f3, b1f4, b1f5, b1f6, b1f7, b1u0, b1u1, b1u2, b1u3, b1u4, crc1, crc2, crc3, a, b, rfl, rfl, hct, hln, hb0, hf0, hb1, hf1, hQ⟩ := hsp
  have o_a : -2147483648 ≤ a ∧ a ≤ 2147483647 := oka _ (List.mem_of_getElem? (i := 1) rfl)
  have o_b : -2147483648 ≤ b ∧ b ≤ 2147483647 := oka _ (List.mem_of_getElem? (i := 2) rfl)
  refine s_mono (s_X11_views_0 X (J := fun _ _ _ _ => False) (fun d => s_cutF)) ?_
  rintro lv st w' ⟨rfl, rfl, rfl⟩
  refine Exists.intro [1, 2, 3, 4, 31, 32, 33, 5, 13] (Exists.intro [q2 0, q1 _] (Exists.intro ((wT4_0 _ _ _ _ _)) (And.intro rfl (And.intro rfl (And.intro rfl (And.intro ⟨⟨_, rfl⟩, rfl⟩ ?_))))))
  refine Exists.intro _ (Exists.intro _ (Exists.intro _ (Exists.intro _ (Exists.intro _ (Exists.intro _ (And.intro rfl (And.intro rfl (?_))))))))
  intro z5 h5
  rcases h5 with rfl | ⟨rfl, rfl⟩ | ⟨rfl, rfl⟩
  · exact hQ _ _ _ _
  · refine Exists.intro [21, 22, 23, 24, 5, 6, 7, 8, 9, 10, 11, 12] (Exists.intro [q2 0, q2 4, q1 _] (Exists.intro ((wCo 0 _ _ _ ++ wBo 4 _ _ _ _ _ _ _ _ _ _ _ _)) (And.intro rfl (And.intro rfl (And.intro rfl (And.intro ⟨⟨_, rfl⟩, rfl⟩ (And.intro (Nat.le_of_ble_eq_true rfl) ?_)))))))
    refine Exists.intro _ (Exists.intro _ (Exists.intro _ (Exists.intro _ (Exists.intro _ (Exists.intro _ (Exists.intro _ (Exists.intro _ (Exists.intro _ (Exists.intro _ (Exists.intro _ (Exists.intro _ (Exists.intro _ (Exists.intro _ (Exists.intro _ (Exists.intro _ (And.intro rfl (And.intro rfl (And.intro (by first | omega | assumption | exact q_rg_up (by assumption) (by omega) | exact q_rg_up (q_rg_up (by assumption) (by omega)) (by omega) | exact q_rg_cpy (by assumption) (by assumption)) (?_)))))))))))))))))))
    intro z25 x1_25 x3_25
    intro _
    exact hQ _ _ _ _
  · refine Exists.intro [21, 22, 23, 24, 13, 14, 15, 16, 17, 18, 19, 20] (Exists.intro [q2 0, q2 4, q1 _] (Exists.intro ((wCo 0 _ _ _ ++ wBo 4 _ _ _ _ _ _ _ _ _ _ _ _)) (And.intro rfl (And.intro rfl (And.intro rfl (And.intro ⟨⟨_, rfl⟩, rfl⟩ (And.intro (Nat.le_of_ble_eq_true rfl) ?_)))))))
    refine Exists.intro _ (Exists.intro _ (Exists.intro _ (Exists.intro _ (Exists.intro _ (Exists.intro _ (Exists.intro _ (Exists.intro _ (Exists.intro _ (Exists.intro _ (Exists.intro _ (Exists.intro _ (Exists.intro _ (Exists.intro _ (Exists.intro _ (Exists.intro _ (And.intro rfl (And.intro rfl (And.intro (by first | omega | assumption | exact q_rg_up (by assumption) (by omega) | exact q_rg_up (q_rg_up (by assumption) (by omega)) (by omega) | exact q_rg_cpy (by assumption) (by assumption)) (?_)))))))))))))))))))
    intro z25 x1_25 x3_25
    intro _
    exact hQ _ _ _ _

theorem dX11_hats_0 : decode cX11_hats 0 = .ok (.aload_n 0, 1) := by decide +kernel
theorem dX11_hats_1 : decode cX11_hats 1 = .ok (.getfield 10, 3) := by decide +kernel
theorem dX11_hats_4 : decode cX11_hats 4 = .ok (.iload_n 1, 1) := by decide +kernel
theorem dX11_hats_5 : decode cX11_hats 5 = .ok (.invokevirtual 94, 3) := by decide +kernel
theorem dX11_hats_8 : decode cX11_hats 8 = .ok (.astore_n 3, 1) := by decide +kernel
theorem dX11_hats_9 : decode cX11_hats 9 = .ok (.aload_n 3, 1) := by decide +kernel
theorem dX11_hats_10 : decode cX11_hats 10 = .ok (.ifnonnull 5, 3) := by decide +kernel
theorem dX11_hats_13 : decode cX11_hats 13 = .ok (.iconst (-1), 1) := by decide +kernel
theorem dX11_hats_14 : decode cX11_hats 14 = .ok (.ireturn, 1) := by decide +kernel
theorem dX11_hats_15 : decode cX11_hats 15 = .ok (.iload_n 2, 1) := by decide +kernel
theorem dX11_hats_16 : decode cX11_hats 16 = .ok (.ifCond .eq 14, 3) := by decide +kernel
theorem dX11_hats_19 : decode cX11_hats 19 = .ok (.aload_n 0, 1) := by decide +kernel
theorem dX11_hats_20 : decode cX11_hats 20 = .ok (.getfield 58, 3) := by decide +kernel
theorem dX11_hats_23 : decode cX11_hats 23 = .ok (.aload_n 3, 1) := by decide +kernel
theorem dX11_hats_24 : decode cX11_hats 24 = .ok (.invokevirtual 263, 3) := by decide +kernel
theorem dX11_hats_27 : decode cX11_hats 27 = .ok (.goto 11, 3) := by decide +kernel
theorem dX11_hats_30 : decode cX11_hats 30 = .ok (.aload_n 0, 1) := by decide +kernel
theorem dX11_hats_31 : decode cX11_hats 31 = .ok (.getfield 58, 3) := by decide +kernel
theorem dX11_hats_34 : decode cX11_hats 34 = .ok (.aload_n 3, 1) := by decide +kernel
theorem dX11_hats_35 : decode cX11_hats 35 = .ok (.invokevirtual 267, 3) := by decide +kernel
theorem dX11_hats_38 : decode cX11_hats 38 = .ok (.ireturn, 1) := by decide +kernel
def is_X11_hats : Nat → List Nat := fun d => []
set_option maxRecDepth 100000 in
def b_X11_hats_38 (J : Nat → List qV → List qV → qW → Prop) (Q : qR) : qK := x_iret Q
set_option maxRecDepth 100000 in
theorem s_X11_hats_38 {p : Program} {l : Launch} {e : Env} {R : Room} {s : State} {m : MethodId} {args : Array Value} {below : List Frame} {meth : Method} {c : Code} {nW : Nat} {dC : Nat → ClassId} {dI : Nat → Nat → Nat} {k : Nat → ClassId} {g : Nat → Nat} {A : Nat → Prop} {J : Nat → List qV → List qV → qW → Prop} {Q : qR} (X : q_X p R s m args meth c cX11_hats 4 nW 2 47 RX11 (some .int) dC dI k g A) (hJ : ∀ d : Nat, q_Sd p l e R s m args below meth c 4 nW dC dI k g A (MQ below (q_post (dC, dI) k g nW Q A) args s 0 0 A) d (x_cut (is_X11_hats d) (J d))) : q_Sd p l e R s m args below meth c 4 nW dC dI k g A (MQ below (q_post (dC, dI) k g nW Q A) args s 0 0 A) 38 (b_X11_hats_38 J Q) := by
  unfold b_X11_hats_38
  exact s_iret X dX11_hats_38
set_option maxRecDepth 100000 in
def b_X11_hats_0 (J : Nat → List qV → List qV → qW → Prop) (Q : qR) : qK := x_aload 0 (x_get 11 0 (x_iload 1 (x_callr (some 8) 2 spr_X8_boroughAt (x_astore 3 (x_aload 3 (x_ifnonnull (x_iload 2 (x_if_eq (x_aload 0 (x_get 11 7 (x_aload 3 (x_callm (some 1) 2 4 spm_X1_hatInches (x_nw (b_X11_hats_38 J Q)))))) (x_aload 0 (x_get 11 7 (x_aload 3 (x_callm (some 1) 2 4 spm_X1_highestHat (x_nw (b_X11_hats_38 J Q)))))))) (x_int (-1) (x_iret Q))))))))
set_option maxRecDepth 100000 in
theorem s_X11_hats_0 {p : Program} {l : Launch} {e : Env} {R : Room} {s : State} {m : MethodId} {args : Array Value} {below : List Frame} {meth : Method} {c : Code} {nW : Nat} {dC : Nat → ClassId} {dI : Nat → Nat → Nat} {k : Nat → ClassId} {g : Nat → Nat} {A : Nat → Prop} {J : Nat → List qV → List qV → qW → Prop} {Q : qR} (X : q_X p R s m args meth c cX11_hats 4 nW 2 47 RX11 (some .int) dC dI k g A) (hJ : ∀ d : Nat, q_Sd p l e R s m args below meth c 4 nW dC dI k g A (MQ below (q_post (dC, dI) k g nW Q A) args s 0 0 A) d (x_cut (is_X11_hats d) (J d))) : q_Sd p l e R s m args below meth c 4 nW dC dI k g A (MQ below (q_post (dC, dI) k g nW Q A) args s 0 0 A) 0 (b_X11_hats_0 J Q) := by
  unfold b_X11_hats_0
  refine s_aload_n X rfl dX11_hats_0 ?_
  refine s_get X (T := TX11) (C := RX11) (N := 8) tu_X11 rfl (by decide) tw_326 dX11_hats_1 ?_
  refine s_iload_n X rfl dX11_hats_4 ?_
  refine s_callVr X (m_X8_boroughAt l) tw_541 tw_542 tw_543 tw_121 tw_544 rfl (by decide +kernel) ⟨by decide, by decide⟩ dX11_hats_5 ?_
  refine s_astore_n X rfl (by decide) dX11_hats_8 ?_
  refine s_aload_n X rfl dX11_hats_9 ?_
  refine s_ifnonnull X (tgt := 15) dX11_hats_10 (by decide) ?_ ?_
  · refine s_iload_n X rfl dX11_hats_15 ?_
    refine s_if_eq X (tgt := 30) dX11_hats_16 (by decide) ?_ ?_
    · refine s_aload_n X rfl dX11_hats_30 ?_
      refine s_get X (T := TX11) (C := RX11) (N := 8) tu_X11 rfl (by decide) tw_333 dX11_hats_31 ?_
      refine s_aload_n X rfl dX11_hats_34 ?_
      refine s_callVm X (mm_X1_hatInches l) mq_X1_hatInches tw_927 tw_928 tw_929 tw_133 tw_930 rfl (by decide +kernel) ⟨by decide, by decide⟩ dX11_hats_35 ?_
      refine s_nw ?_
      exact s_X11_hats_38 X hJ
    · refine s_aload_n X rfl dX11_hats_19 ?_
      refine s_get X (T := TX11) (C := RX11) (N := 8) tu_X11 rfl (by decide) tw_333 dX11_hats_20 ?_
      refine s_aload_n X rfl dX11_hats_23 ?_
      refine s_callVm X (mm_X1_highestHat l) mq_X1_highestHat tw_923 tw_924 tw_925 tw_133 tw_926 rfl (by decide +kernel) ⟨by decide, by decide⟩ dX11_hats_24 ?_
      refine s_nw ?_
      refine s_goto X (tgt := 38) dX11_hats_27 (by decide) ?_
      exact s_X11_hats_38 X hJ
  · refine s_iconst X ⟨by decide, by decide⟩ dX11_hats_13 ?_
    exact s_iret X dX11_hats_14

def sp_X11_hats : qS := fun av w Q => ∃ (tp : Nat → Int) (ct : Nat → Int) (ln : Int) (fa : Int) (pl : Int) (b0f1 : Nat → Int) (b0f2 : Nat → Int) (b0f3 : Nat → Int) (b0f4 : Nat → Int) (b0f5 : Nat → Int) (b0f6 : Nat → Int) (b0f7 : Nat → Int) (b0u0 : Int) (b0u1 : Int) (b0u2 : Int) (b0u3 : Int) (b0u4 : Int) (b1f1 : Nat → Int) (b1f2 : Nat → Int) (b1f3 : Nat → Int) (b1f4 : Nat → Int) (b1f5 : Nat → Int) (b1f6 : Nat → Int) (b1f7 : Nat → Int) (b1u0 : Int) (b1u1 : Int) (b1u2 : Int) (b1u3 : Int) (b1u4 : Int) (crc1 : Nat → Int) (crc2 : Nat → Int) (crc3 : Nat → Int) (a : Int) (b : Int), av = [q2 0, q1 a, q1 b] ∧ w = [.inr (11, [q2 1, q2 25, q2 26, q2 27, q2 28, q2 29, q2 30, q2 21]), .inr (8, [q2 2, q2 3, q2 4, q2 31, q2 32, q2 33, q1 ln, q1 fa, q1 pl]), .inl (1, 600, .inl tp), .inl (0, 4, .inl ct), .inl (4, 2, .inr (.inr [some 5, some 13])), .inr (0, [q2 6, q2 7, q2 8, q2 9, q2 10, q2 11, q2 12, q1 b0u0, q1 b0u1, q1 b0u2, q1 b0u3, q1 b0u4]), .inl (0, 8, .inl b0f1), .inl (0, 8, .inl b0f2), .inl (0, 4, .inl b0f3), .inl (0, 32, .inl b0f4), .inl (0, 6, .inl b0f5), .inl (0, 6, .inl b0f6), .inl (0, 6, .inl b0f7), .inr (0, [q2 14, q2 15, q2 16, q2 17, q2 18, q2 19, q2 20, q1 b1u0, q1 b1u1, q1 b1u2, q1 b1u3, q1 b1u4]), .inl (0, 8, .inl b1f1), .inl (0, 8, .inl b1f2), .inl (0, 4, .inl b1f3), .inl (0, 32, .inl b1f4), .inl (0, 6, .inl b1f5), .inl (0, 6, .inl b1f6), .inl (0, 6, .inl b1f7), .inr (1, [q2 22, q2 23, q2 24]), .inl (0, 8, .inl crc1), .inl (0, 256, .inl crc2), .inl (3, 9, .inr (.inl crc3))] ∧ (q_rg 0 2 ct) ∧ (0 ≤ ln ∧ ln ≤ 600) ∧ (0 ≤ b0u0 ∧ b0u0 ≤ 8 ∧ 0 ≤ b0u3 ∧ b0u3 ≤ 6 ∧ 0 ≤ b0u4 ∧ b0u4 ≤ 6) ∧ (q_rg 0 9 b0f3) ∧ (0 ≤ b1u0 ∧ b1u0 ≤ 8 ∧ 0 ≤ b1u3 ∧ b1u3 ≤ 6 ∧ 0 ≤ b1u4 ∧ b1u4 ≤ 6) ∧ (q_rg 0 9 b1f3) ∧ (∀ (r : Int) (x_crc1 : Nat → Int) (x_crc2 : Nat → Int) (x_crc3 : Nat → Int), Q (some (q1 r)) ([.inr (11, [q2 1, q2 25, q2 26, q2 27, q2 28, q2 29, q2 30, q2 21]), .inr (8, [q2 2, q2 3, q2 4, q2 31, q2 32, q2 33, q1 ln, q1 fa, q1 pl]), .inl (1, 600, .inl tp), .inl (0, 4, .inl ct), .inl (4, 2, .inr (.inr [some 5, some 13])), .inr (0, [q2 6, q2 7, q2 8, q2 9, q2 10, q2 11, q2 12, q1 b0u0, q1 b0u1, q1 b0u2, q1 b0u3, q1 b0u4]), .inl (0, 8, .inl b0f1), .inl (0, 8, .inl b0f2), .inl (0, 4, .inl b0f3), .inl (0, 32, .inl b0f4), .inl (0, 6, .inl b0f5), .inl (0, 6, .inl b0f6), .inl (0, 6, .inl b0f7), .inr (0, [q2 14, q2 15, q2 16, q2 17, q2 18, q2 19, q2 20, q1 b1u0, q1 b1u1, q1 b1u2, q1 b1u3, q1 b1u4]), .inl (0, 8, .inl b1f1), .inl (0, 8, .inl b1f2), .inl (0, 4, .inl b1f3), .inl (0, 32, .inl b1f4), .inl (0, 6, .inl b1f5), .inl (0, 6, .inl b1f6), .inl (0, 6, .inl b1f7), .inr (1, [q2 22, q2 23, q2 24]), .inl (0, 8, .inl x_crc1), .inl (0, 256, .inl x_crc2), .inl (3, 9, .inr (.inl x_crc3))]))
set_option maxHeartbeats 4000000 in
set_option maxRecDepth 100000 in
theorem m_X11_hats (l : Launch) : q_M l yX11_hats cX11_hats 4 (some .int) 2 47 sp_X11_hats := by
  refine q_meth (by decide) (fun av w Q h => by obtain ⟨tp, ct, ln, fa, pl, b0f1, b0f2, b0f3, b0f4, b0f5, b0f6, b0f7, b0u0, b0u1, b0u2, b0u3, b0u4, b1f1, b1f2, b1f3, b1f4, b1f5, b1f6, b1f7, b1u0, b1u1, b1u2, b1u3, b1u4, crc1, crc2, crc3, a, b, rfl, rfl, hct, hln, hb0, hf0, hb1, hf1, hQ⟩ := h; exact Nat.le_of_ble_eq_true rfl) ?_
  intro p e R s m args below meth c dC dI k g A av w Q hsp oka okw X
  obtain ⟨tp, ct, ln, fa, pl, b0f1, b0f2, b0f3, b0f4, b0f5, b0f6, b0f7, b0u0, b0u1, b0u2, b0u3, b0u4, b1f1, b1f2, b1f3, b1f4, b1f5, b1f6, b1f7, b1u0, b1u1, b1u2, b1u3, b1u4, crc1, crc2, crc3, a, b, rfl, rfl, hct, hln, hb0, hf0, hb1, hf1, hQ⟩ := hsp
  have o_a : -2147483648 ≤ a ∧ a ≤ 2147483647 := oka _ (List.mem_of_getElem? (i := 1) rfl)
  have o_b : -2147483648 ≤ b ∧ b ≤ 2147483647 := oka _ (List.mem_of_getElem? (i := 2) rfl)
  refine s_mono (s_X11_hats_0 X (J := fun _ _ _ _ => False) (fun d => s_cutF)) ?_
  rintro lv st w' ⟨rfl, rfl, rfl⟩
  refine Exists.intro [1, 2, 3, 4, 31, 32, 33, 5, 13] (Exists.intro [q2 0, q1 _] (Exists.intro ((wT4_0 _ _ _ _ _)) (And.intro rfl (And.intro rfl (And.intro rfl (And.intro ⟨⟨_, rfl⟩, rfl⟩ ?_))))))
  refine Exists.intro _ (Exists.intro _ (Exists.intro _ (Exists.intro _ (Exists.intro _ (Exists.intro _ (And.intro rfl (And.intro rfl (?_))))))))
  intro z5 h5
  rcases h5 with rfl | ⟨rfl, rfl⟩ | ⟨rfl, rfl⟩
  · exact hQ _ _ _ _
  · apply And.intro
    · intro h16
      refine Exists.intro [21, 22, 23, 24, 5, 6, 7, 8, 9, 10, 11, 12] (Exists.intro [q2 0, q2 4] (Exists.intro ((wCo 0 _ _ _ ++ wBo 4 _ _ _ _ _ _ _ _ _ _ _ _)) (And.intro rfl (And.intro rfl (And.intro rfl (And.intro ⟨⟨_, rfl⟩, rfl⟩ (And.intro (Nat.le_of_ble_eq_true rfl) ?_)))))))
      refine Exists.intro _ (Exists.intro _ (Exists.intro _ (Exists.intro _ (Exists.intro _ (Exists.intro _ (Exists.intro _ (Exists.intro _ (Exists.intro _ (Exists.intro _ (Exists.intro _ (Exists.intro _ (Exists.intro _ (Exists.intro _ (Exists.intro _ (And.intro rfl (And.intro rfl (And.intro (by first | omega | assumption | exact q_rg_up (by assumption) (by omega) | exact q_rg_up (q_rg_up (by assumption) (by omega)) (by omega) | exact q_rg_cpy (by assumption) (by assumption)) (?_))))))))))))))))))
      intro z35 x1_35
      intro _
      exact hQ _ _ _ _
    · intro h16
      refine Exists.intro [21, 22, 23, 24, 5, 6, 7, 8, 9, 10, 11, 12] (Exists.intro [q2 0, q2 4] (Exists.intro ((wCo 0 _ _ _ ++ wBo 4 _ _ _ _ _ _ _ _ _ _ _ _)) (And.intro rfl (And.intro rfl (And.intro rfl (And.intro ⟨⟨_, rfl⟩, rfl⟩ (And.intro (Nat.le_of_ble_eq_true rfl) ?_)))))))
      refine Exists.intro _ (Exists.intro _ (Exists.intro _ (Exists.intro _ (Exists.intro _ (Exists.intro _ (Exists.intro _ (Exists.intro _ (Exists.intro _ (Exists.intro _ (Exists.intro _ (Exists.intro _ (Exists.intro _ (Exists.intro _ (Exists.intro _ (And.intro rfl (And.intro rfl (And.intro (by first | omega | assumption | exact q_rg_up (by assumption) (by omega) | exact q_rg_up (q_rg_up (by assumption) (by omega)) (by omega) | exact q_rg_cpy (by assumption) (by assumption)) (?_))))))))))))))))))
      intro z24 x1_24
      intro _
      exact hQ _ _ _ _
  · apply And.intro
    · intro h16
      refine Exists.intro [21, 22, 23, 24, 13, 14, 15, 16, 17, 18, 19, 20] (Exists.intro [q2 0, q2 4] (Exists.intro ((wCo 0 _ _ _ ++ wBo 4 _ _ _ _ _ _ _ _ _ _ _ _)) (And.intro rfl (And.intro rfl (And.intro rfl (And.intro ⟨⟨_, rfl⟩, rfl⟩ (And.intro (Nat.le_of_ble_eq_true rfl) ?_)))))))
      refine Exists.intro _ (Exists.intro _ (Exists.intro _ (Exists.intro _ (Exists.intro _ (Exists.intro _ (Exists.intro _ (Exists.intro _ (Exists.intro _ (Exists.intro _ (Exists.intro _ (Exists.intro _ (Exists.intro _ (Exists.intro _ (Exists.intro _ (And.intro rfl (And.intro rfl (And.intro (by first | omega | assumption | exact q_rg_up (by assumption) (by omega) | exact q_rg_up (q_rg_up (by assumption) (by omega)) (by omega) | exact q_rg_cpy (by assumption) (by assumption)) (?_))))))))))))))))))
      intro z35 x1_35
      intro _
      exact hQ _ _ _ _
    · intro h16
      refine Exists.intro [21, 22, 23, 24, 13, 14, 15, 16, 17, 18, 19, 20] (Exists.intro [q2 0, q2 4] (Exists.intro ((wCo 0 _ _ _ ++ wBo 4 _ _ _ _ _ _ _ _ _ _ _ _)) (And.intro rfl (And.intro rfl (And.intro rfl (And.intro ⟨⟨_, rfl⟩, rfl⟩ (And.intro (Nat.le_of_ble_eq_true rfl) ?_)))))))
      refine Exists.intro _ (Exists.intro _ (Exists.intro _ (Exists.intro _ (Exists.intro _ (Exists.intro _ (Exists.intro _ (Exists.intro _ (Exists.intro _ (Exists.intro _ (Exists.intro _ (Exists.intro _ (Exists.intro _ (Exists.intro _ (Exists.intro _ (And.intro rfl (And.intro rfl (And.intro (by first | omega | assumption | exact q_rg_up (by assumption) (by omega) | exact q_rg_up (q_rg_up (by assumption) (by omega)) (by omega) | exact q_rg_cpy (by assumption) (by assumption)) (?_))))))))))))))))))
      intro z24 x1_24
      intro _
      exact hQ _ _ _ _

theorem dX11_teams_0 : decode cX11_teams 0 = .ok (.aload_n 0, 1) := by decide +kernel
theorem dX11_teams_1 : decode cX11_teams 1 = .ok (.getfield 10, 3) := by decide +kernel
theorem dX11_teams_4 : decode cX11_teams 4 = .ok (.iload_n 1, 1) := by decide +kernel
theorem dX11_teams_5 : decode cX11_teams 5 = .ok (.invokevirtual 94, 3) := by decide +kernel
theorem dX11_teams_8 : decode cX11_teams 8 = .ok (.astore_n 3, 1) := by decide +kernel
theorem dX11_teams_9 : decode cX11_teams 9 = .ok (.aload_n 3, 1) := by decide +kernel
theorem dX11_teams_10 : decode cX11_teams 10 = .ok (.ifnull 11, 3) := by decide +kernel
theorem dX11_teams_13 : decode cX11_teams 13 = .ok (.aload_n 3, 1) := by decide +kernel
theorem dX11_teams_14 : decode cX11_teams 14 = .ok (.getfield 240, 3) := by decide +kernel
theorem dX11_teams_17 : decode cX11_teams 17 = .ok (.iconst 2, 1) := by decide +kernel
theorem dX11_teams_18 : decode cX11_teams 18 = .ok (.if_icmp .ge 5, 3) := by decide +kernel
theorem dX11_teams_21 : decode cX11_teams 21 = .ok (.iconst (-1), 1) := by decide +kernel
theorem dX11_teams_22 : decode cX11_teams 22 = .ok (.ireturn, 1) := by decide +kernel
theorem dX11_teams_23 : decode cX11_teams 23 = .ok (.aload_n 0, 1) := by decide +kernel
theorem dX11_teams_24 : decode cX11_teams 24 = .ok (.getfield 58, 3) := by decide +kernel
theorem dX11_teams_27 : decode cX11_teams 27 = .ok (.aload_n 3, 1) := by decide +kernel
theorem dX11_teams_28 : decode cX11_teams 28 = .ok (.invokevirtual 270, 3) := by decide +kernel
theorem dX11_teams_31 : decode cX11_teams 31 = .ok (.istore 4, 2) := by decide +kernel
theorem dX11_teams_33 : decode cX11_teams 33 = .ok (.iload_n 2, 1) := by decide +kernel
theorem dX11_teams_34 : decode cX11_teams 34 = .ok (.ifCond .eq 8, 3) := by decide +kernel
theorem dX11_teams_37 : decode cX11_teams 37 = .ok (.iload 4, 2) := by decide +kernel
theorem dX11_teams_39 : decode cX11_teams 39 = .ok (.goto 13, 3) := by decide +kernel
theorem dX11_teams_42 : decode cX11_teams 42 = .ok (.aload_n 0, 1) := by decide +kernel
theorem dX11_teams_43 : decode cX11_teams 43 = .ok (.getfield 58, 3) := by decide +kernel
theorem dX11_teams_46 : decode cX11_teams 46 = .ok (.aload_n 3, 1) := by decide +kernel
theorem dX11_teams_47 : decode cX11_teams 47 = .ok (.iload 4, 2) := by decide +kernel
theorem dX11_teams_49 : decode cX11_teams 49 = .ok (.invokevirtual 273, 3) := by decide +kernel
theorem dX11_teams_52 : decode cX11_teams 52 = .ok (.ireturn, 1) := by decide +kernel
def is_X11_teams : Nat → List Nat := fun d => []
set_option maxRecDepth 100000 in
def b_X11_teams_52 (J : Nat → List qV → List qV → qW → Prop) (Q : qR) : qK := x_iret Q
set_option maxRecDepth 100000 in
theorem s_X11_teams_52 {p : Program} {l : Launch} {e : Env} {R : Room} {s : State} {m : MethodId} {args : Array Value} {below : List Frame} {meth : Method} {c : Code} {nW : Nat} {dC : Nat → ClassId} {dI : Nat → Nat → Nat} {k : Nat → ClassId} {g : Nat → Nat} {A : Nat → Prop} {J : Nat → List qV → List qV → qW → Prop} {Q : qR} (X : q_X p R s m args meth c cX11_teams 5 nW 3 68 RX11 (some .int) dC dI k g A) (hJ : ∀ d : Nat, q_Sd p l e R s m args below meth c 5 nW dC dI k g A (MQ below (q_post (dC, dI) k g nW Q A) args s 0 0 A) d (x_cut (is_X11_teams d) (J d))) : q_Sd p l e R s m args below meth c 5 nW dC dI k g A (MQ below (q_post (dC, dI) k g nW Q A) args s 0 0 A) 52 (b_X11_teams_52 J Q) := by
  unfold b_X11_teams_52
  exact s_iret X dX11_teams_52
set_option maxRecDepth 100000 in
def b_X11_teams_21 (J : Nat → List qV → List qV → qW → Prop) (Q : qR) : qK := x_int (-1) (x_iret Q)
set_option maxRecDepth 100000 in
theorem s_X11_teams_21 {p : Program} {l : Launch} {e : Env} {R : Room} {s : State} {m : MethodId} {args : Array Value} {below : List Frame} {meth : Method} {c : Code} {nW : Nat} {dC : Nat → ClassId} {dI : Nat → Nat → Nat} {k : Nat → ClassId} {g : Nat → Nat} {A : Nat → Prop} {J : Nat → List qV → List qV → qW → Prop} {Q : qR} (X : q_X p R s m args meth c cX11_teams 5 nW 3 68 RX11 (some .int) dC dI k g A) (hJ : ∀ d : Nat, q_Sd p l e R s m args below meth c 5 nW dC dI k g A (MQ below (q_post (dC, dI) k g nW Q A) args s 0 0 A) d (x_cut (is_X11_teams d) (J d))) : q_Sd p l e R s m args below meth c 5 nW dC dI k g A (MQ below (q_post (dC, dI) k g nW Q A) args s 0 0 A) 21 (b_X11_teams_21 J Q) := by
  unfold b_X11_teams_21
  refine s_iconst X ⟨by decide, by decide⟩ dX11_teams_21 ?_
  exact s_iret X dX11_teams_22
set_option maxRecDepth 100000 in
def b_X11_teams_0 (J : Nat → List qV → List qV → qW → Prop) (Q : qR) : qK := x_aload 0 (x_get 11 0 (x_iload 1 (x_callr (some 8) 2 spr_X8_boroughAt (x_astore 3 (x_aload 3 (x_ifnull (b_X11_teams_21 J Q) (x_aload 3 (x_get 0 7 (x_int 2 (x_icmp_ge (x_aload 0 (x_get 11 7 (x_aload 3 (x_callm (some 1) 2 4 spm_X1_team (x_nw (x_istore 4 (x_iload 2 (x_if_eq (x_aload 0 (x_get 11 7 (x_aload 3 (x_iload 4 (x_callr (some 1) 3 spr_X1_difference (b_X11_teams_52 J Q)))))) (x_iload 4 (b_X11_teams_52 J Q)))))))))) (b_X11_teams_21 J Q)))))))))))
set_option maxRecDepth 100000 in
theorem s_X11_teams_0 {p : Program} {l : Launch} {e : Env} {R : Room} {s : State} {m : MethodId} {args : Array Value} {below : List Frame} {meth : Method} {c : Code} {nW : Nat} {dC : Nat → ClassId} {dI : Nat → Nat → Nat} {k : Nat → ClassId} {g : Nat → Nat} {A : Nat → Prop} {J : Nat → List qV → List qV → qW → Prop} {Q : qR} (X : q_X p R s m args meth c cX11_teams 5 nW 3 68 RX11 (some .int) dC dI k g A) (hJ : ∀ d : Nat, q_Sd p l e R s m args below meth c 5 nW dC dI k g A (MQ below (q_post (dC, dI) k g nW Q A) args s 0 0 A) d (x_cut (is_X11_teams d) (J d))) : q_Sd p l e R s m args below meth c 5 nW dC dI k g A (MQ below (q_post (dC, dI) k g nW Q A) args s 0 0 A) 0 (b_X11_teams_0 J Q) := by
  unfold b_X11_teams_0
  refine s_aload_n X rfl dX11_teams_0 ?_
  refine s_get X (T := TX11) (C := RX11) (N := 8) tu_X11 rfl (by decide) tw_326 dX11_teams_1 ?_
  refine s_iload_n X rfl dX11_teams_4 ?_
  refine s_callVr X (m_X8_boroughAt l) tw_541 tw_542 tw_543 tw_121 tw_544 rfl (by decide +kernel) ⟨by decide, by decide⟩ dX11_teams_5 ?_
  refine s_astore_n X rfl (by decide) dX11_teams_8 ?_
  refine s_aload_n X rfl dX11_teams_9 ?_
  refine s_ifnull X (tgt := 21) dX11_teams_10 (by decide) ?_ ?_
  · exact s_X11_teams_21 X hJ
  · refine s_aload_n X rfl dX11_teams_13 ?_
    refine s_get X (T := TX0) (C := RX0) (N := 12) tu_X0 rfl (by decide) tw_197 dX11_teams_14 ?_
    refine s_iconst X ⟨by decide, by decide⟩ dX11_teams_17 ?_
    refine s_icmp_ge X (tgt := 23) dX11_teams_18 (by decide) ?_ ?_
    · refine s_aload_n X rfl dX11_teams_23 ?_
      refine s_get X (T := TX11) (C := RX11) (N := 8) tu_X11 rfl (by decide) tw_333 dX11_teams_24 ?_
      refine s_aload_n X rfl dX11_teams_27 ?_
      refine s_callVm X (mm_X1_team l) mq_X1_team tw_935 tw_936 tw_937 tw_133 tw_938 rfl (by decide +kernel) ⟨by decide, by decide⟩ dX11_teams_28 ?_
      refine s_nw ?_
      refine s_istore X (by decide) dX11_teams_31 ?_
      refine s_iload_n X rfl dX11_teams_33 ?_
      refine s_if_eq X (tgt := 42) dX11_teams_34 (by decide) ?_ ?_
      · refine s_aload_n X rfl dX11_teams_42 ?_
        refine s_get X (T := TX11) (C := RX11) (N := 8) tu_X11 rfl (by decide) tw_333 dX11_teams_43 ?_
        refine s_aload_n X rfl dX11_teams_46 ?_
        refine s_iload X dX11_teams_47 ?_
        refine s_callVr X (m_X1_difference l) tw_946 tw_943 tw_944 tw_133 tw_945 rfl (by decide +kernel) ⟨by decide, by decide⟩ dX11_teams_49 ?_
        exact s_X11_teams_52 X hJ
      · refine s_iload X dX11_teams_37 ?_
        refine s_goto X (tgt := 52) dX11_teams_39 (by decide) ?_
        exact s_X11_teams_52 X hJ
    · exact s_X11_teams_21 X hJ

def sp_X11_teams : qS := fun av w Q => ∃ (tp : Nat → Int) (ct : Nat → Int) (ln : Int) (fa : Int) (pl : Int) (b0f1 : Nat → Int) (b0f2 : Nat → Int) (b0f3 : Nat → Int) (b0f4 : Nat → Int) (b0f5 : Nat → Int) (b0f6 : Nat → Int) (b0f7 : Nat → Int) (b0u0 : Int) (b0u1 : Int) (b0u2 : Int) (b0u3 : Int) (b0u4 : Int) (b1f1 : Nat → Int) (b1f2 : Nat → Int) (b1f3 : Nat → Int) (b1f4 : Nat → Int) (b1f5 : Nat → Int) (b1f6 : Nat → Int) (b1f7 : Nat → Int) (b1u0 : Int) (b1u1 : Int) (b1u2 : Int) (b1u3 : Int) (b1u4 : Int) (crc1 : Nat → Int) (crc2 : Nat → Int) (crc3 : Nat → Int) (a : Int) (b : Int), av = [q2 0, q1 a, q1 b] ∧ w = [.inr (11, [q2 1, q2 25, q2 26, q2 27, q2 28, q2 29, q2 30, q2 21]), .inr (8, [q2 2, q2 3, q2 4, q2 31, q2 32, q2 33, q1 ln, q1 fa, q1 pl]), .inl (1, 600, .inl tp), .inl (0, 4, .inl ct), .inl (4, 2, .inr (.inr [some 5, some 13])), .inr (0, [q2 6, q2 7, q2 8, q2 9, q2 10, q2 11, q2 12, q1 b0u0, q1 b0u1, q1 b0u2, q1 b0u3, q1 b0u4]), .inl (0, 8, .inl b0f1), .inl (0, 8, .inl b0f2), .inl (0, 4, .inl b0f3), .inl (0, 32, .inl b0f4), .inl (0, 6, .inl b0f5), .inl (0, 6, .inl b0f6), .inl (0, 6, .inl b0f7), .inr (0, [q2 14, q2 15, q2 16, q2 17, q2 18, q2 19, q2 20, q1 b1u0, q1 b1u1, q1 b1u2, q1 b1u3, q1 b1u4]), .inl (0, 8, .inl b1f1), .inl (0, 8, .inl b1f2), .inl (0, 4, .inl b1f3), .inl (0, 32, .inl b1f4), .inl (0, 6, .inl b1f5), .inl (0, 6, .inl b1f6), .inl (0, 6, .inl b1f7), .inr (1, [q2 22, q2 23, q2 24]), .inl (0, 8, .inl crc1), .inl (0, 256, .inl crc2), .inl (3, 9, .inr (.inl crc3))] ∧ (q_rg 0 2 ct) ∧ (0 ≤ ln ∧ ln ≤ 600) ∧ (0 ≤ b0u0 ∧ b0u0 ≤ 8 ∧ 0 ≤ b0u3 ∧ b0u3 ≤ 6 ∧ 0 ≤ b0u4 ∧ b0u4 ≤ 6) ∧ (q_rg 0 9 b0f3) ∧ (0 ≤ b1u0 ∧ b1u0 ≤ 8 ∧ 0 ≤ b1u3 ∧ b1u3 ≤ 6 ∧ 0 ≤ b1u4 ∧ b1u4 ≤ 6) ∧ (q_rg 0 9 b1f3) ∧ (∀ (r : Int) (x_crc1 : Nat → Int) (x_crc2 : Nat → Int) (x_crc3 : Nat → Int), Q (some (q1 r)) ([.inr (11, [q2 1, q2 25, q2 26, q2 27, q2 28, q2 29, q2 30, q2 21]), .inr (8, [q2 2, q2 3, q2 4, q2 31, q2 32, q2 33, q1 ln, q1 fa, q1 pl]), .inl (1, 600, .inl tp), .inl (0, 4, .inl ct), .inl (4, 2, .inr (.inr [some 5, some 13])), .inr (0, [q2 6, q2 7, q2 8, q2 9, q2 10, q2 11, q2 12, q1 b0u0, q1 b0u1, q1 b0u2, q1 b0u3, q1 b0u4]), .inl (0, 8, .inl b0f1), .inl (0, 8, .inl b0f2), .inl (0, 4, .inl b0f3), .inl (0, 32, .inl b0f4), .inl (0, 6, .inl b0f5), .inl (0, 6, .inl b0f6), .inl (0, 6, .inl b0f7), .inr (0, [q2 14, q2 15, q2 16, q2 17, q2 18, q2 19, q2 20, q1 b1u0, q1 b1u1, q1 b1u2, q1 b1u3, q1 b1u4]), .inl (0, 8, .inl b1f1), .inl (0, 8, .inl b1f2), .inl (0, 4, .inl b1f3), .inl (0, 32, .inl b1f4), .inl (0, 6, .inl b1f5), .inl (0, 6, .inl b1f6), .inl (0, 6, .inl b1f7), .inr (1, [q2 22, q2 23, q2 24]), .inl (0, 8, .inl x_crc1), .inl (0, 256, .inl x_crc2), .inl (3, 9, .inr (.inl x_crc3))]))
set_option maxHeartbeats 4000000 in
set_option maxRecDepth 100000 in
theorem m_X11_teams (l : Launch) : q_M l yX11_teams cX11_teams 5 (some .int) 3 68 sp_X11_teams := by
  refine q_meth (by decide) (fun av w Q h => by obtain ⟨tp, ct, ln, fa, pl, b0f1, b0f2, b0f3, b0f4, b0f5, b0f6, b0f7, b0u0, b0u1, b0u2, b0u3, b0u4, b1f1, b1f2, b1f3, b1f4, b1f5, b1f6, b1f7, b1u0, b1u1, b1u2, b1u3, b1u4, crc1, crc2, crc3, a, b, rfl, rfl, hct, hln, hb0, hf0, hb1, hf1, hQ⟩ := h; exact Nat.le_of_ble_eq_true rfl) ?_
  intro p e R s m args below meth c dC dI k g A av w Q hsp oka okw X
  obtain ⟨tp, ct, ln, fa, pl, b0f1, b0f2, b0f3, b0f4, b0f5, b0f6, b0f7, b0u0, b0u1, b0u2, b0u3, b0u4, b1f1, b1f2, b1f3, b1f4, b1f5, b1f6, b1f7, b1u0, b1u1, b1u2, b1u3, b1u4, crc1, crc2, crc3, a, b, rfl, rfl, hct, hln, hb0, hf0, hb1, hf1, hQ⟩ := hsp
  have o_a : -2147483648 ≤ a ∧ a ≤ 2147483647 := oka _ (List.mem_of_getElem? (i := 1) rfl)
  have o_b : -2147483648 ≤ b ∧ b ≤ 2147483647 := oka _ (List.mem_of_getElem? (i := 2) rfl)
  refine s_mono (s_X11_teams_0 X (J := fun _ _ _ _ => False) (fun d => s_cutF)) ?_
  rintro lv st w' ⟨rfl, rfl, rfl⟩
  refine Exists.intro [1, 2, 3, 4, 31, 32, 33, 5, 13] (Exists.intro [q2 0, q1 _] (Exists.intro ((wT4_0 _ _ _ _ _)) (And.intro rfl (And.intro rfl (And.intro rfl (And.intro ⟨⟨_, rfl⟩, rfl⟩ ?_))))))
  refine Exists.intro _ (Exists.intro _ (Exists.intro _ (Exists.intro _ (Exists.intro _ (Exists.intro _ (And.intro rfl (And.intro rfl (?_))))))))
  intro z5 h5
  rcases h5 with rfl | ⟨rfl, rfl⟩ | ⟨rfl, rfl⟩
  · exact hQ _ _ _ _
  · apply And.intro
    · intro h18
      refine Exists.intro [21, 22, 23, 24, 5, 6, 7, 8, 9, 10, 11, 12] (Exists.intro [q2 0, q2 4] (Exists.intro ((wCo 0 _ _ _ ++ wBo 4 _ _ _ _ _ _ _ _ _ _ _ _)) (And.intro rfl (And.intro rfl (And.intro rfl (And.intro ⟨⟨_, rfl⟩, rfl⟩ (And.intro (Nat.le_of_ble_eq_true rfl) ?_)))))))
      refine Exists.intro _ (Exists.intro _ (Exists.intro _ (Exists.intro _ (Exists.intro _ (Exists.intro _ (Exists.intro _ (Exists.intro _ (Exists.intro _ (Exists.intro _ (Exists.intro _ (Exists.intro _ (Exists.intro _ (Exists.intro _ (Exists.intro _ (And.intro rfl (And.intro rfl (And.intro (by first | omega | assumption | exact q_rg_up (by assumption) (by omega) | exact q_rg_up (q_rg_up (by assumption) (by omega)) (by omega) | exact q_rg_cpy (by assumption) (by assumption)) (?_))))))))))))))))))
      intro z28 x2_28
      intro _
      apply And.intro
      · intro h34
        refine Exists.intro [21, 22, 23, 24, 5, 6, 7, 8, 9, 10, 11, 12] (Exists.intro [q2 0, q2 4, q1 _] (Exists.intro ((wCo 0 _ _ _ ++ wBo 4 _ _ _ _ _ _ _ _ _ _ _ _)) (And.intro rfl (And.intro rfl (And.intro rfl (And.intro ⟨⟨_, rfl⟩, rfl⟩ ?_))))))
        refine Exists.intro _ (Exists.intro _ (Exists.intro _ (Exists.intro _ (Exists.intro _ (Exists.intro _ (Exists.intro _ (Exists.intro _ (Exists.intro _ (Exists.intro _ (Exists.intro _ (Exists.intro _ (Exists.intro _ (Exists.intro _ (Exists.intro _ (Exists.intro _ (And.intro rfl (And.intro rfl (And.intro (by first | omega | assumption | exact q_rg_up (by assumption) (by omega) | exact q_rg_up (q_rg_up (by assumption) (by omega)) (by omega) | exact q_rg_cpy (by assumption) (by assumption)) (?_)))))))))))))))))))
        intro z49
        exact hQ _ _ _ _
      · intro h34
        exact hQ _ _ _ _
    · intro h18
      exact hQ _ _ _ _
  · apply And.intro
    · intro h18
      refine Exists.intro [21, 22, 23, 24, 13, 14, 15, 16, 17, 18, 19, 20] (Exists.intro [q2 0, q2 4] (Exists.intro ((wCo 0 _ _ _ ++ wBo 4 _ _ _ _ _ _ _ _ _ _ _ _)) (And.intro rfl (And.intro rfl (And.intro rfl (And.intro ⟨⟨_, rfl⟩, rfl⟩ (And.intro (Nat.le_of_ble_eq_true rfl) ?_)))))))
      refine Exists.intro _ (Exists.intro _ (Exists.intro _ (Exists.intro _ (Exists.intro _ (Exists.intro _ (Exists.intro _ (Exists.intro _ (Exists.intro _ (Exists.intro _ (Exists.intro _ (Exists.intro _ (Exists.intro _ (Exists.intro _ (Exists.intro _ (And.intro rfl (And.intro rfl (And.intro (by first | omega | assumption | exact q_rg_up (by assumption) (by omega) | exact q_rg_up (q_rg_up (by assumption) (by omega)) (by omega) | exact q_rg_cpy (by assumption) (by assumption)) (?_))))))))))))))))))
      intro z28 x2_28
      intro _
      apply And.intro
      · intro h34
        refine Exists.intro [21, 22, 23, 24, 13, 14, 15, 16, 17, 18, 19, 20] (Exists.intro [q2 0, q2 4, q1 _] (Exists.intro ((wCo 0 _ _ _ ++ wBo 4 _ _ _ _ _ _ _ _ _ _ _ _)) (And.intro rfl (And.intro rfl (And.intro rfl (And.intro ⟨⟨_, rfl⟩, rfl⟩ ?_))))))
        refine Exists.intro _ (Exists.intro _ (Exists.intro _ (Exists.intro _ (Exists.intro _ (Exists.intro _ (Exists.intro _ (Exists.intro _ (Exists.intro _ (Exists.intro _ (Exists.intro _ (Exists.intro _ (Exists.intro _ (Exists.intro _ (Exists.intro _ (Exists.intro _ (And.intro rfl (And.intro rfl (And.intro (by first | omega | assumption | exact q_rg_up (by assumption) (by omega) | exact q_rg_up (q_rg_up (by assumption) (by omega)) (by omega) | exact q_rg_cpy (by assumption) (by assumption)) (?_)))))))))))))))))))
        intro z49
        exact hQ _ _ _ _
      · intro h34
        exact hQ _ _ _ _
    · intro h18
      exact hQ _ _ _ _

theorem dX11_shoulders_0 : decode cX11_shoulders 0 = .ok (.aload_n 0, 1) := by decide +kernel
theorem dX11_shoulders_1 : decode cX11_shoulders 1 = .ok (.getfield 10, 3) := by decide +kernel
theorem dX11_shoulders_4 : decode cX11_shoulders 4 = .ok (.iload_n 1, 1) := by decide +kernel
theorem dX11_shoulders_5 : decode cX11_shoulders 5 = .ok (.invokevirtual 94, 3) := by decide +kernel
theorem dX11_shoulders_8 : decode cX11_shoulders 8 = .ok (.astore_n 3, 1) := by decide +kernel
theorem dX11_shoulders_9 : decode cX11_shoulders 9 = .ok (.aload_n 3, 1) := by decide +kernel
theorem dX11_shoulders_10 : decode cX11_shoulders 10 = .ok (.ifnonnull 7, 3) := by decide +kernel
theorem dX11_shoulders_13 : decode cX11_shoulders 13 = .ok (.iconst (-1), 1) := by decide +kernel
theorem dX11_shoulders_14 : decode cX11_shoulders 14 = .ok (.goto 19, 3) := by decide +kernel
theorem dX11_shoulders_17 : decode cX11_shoulders 17 = .ok (.aload_n 0, 1) := by decide +kernel
theorem dX11_shoulders_18 : decode cX11_shoulders 18 = .ok (.getfield 58, 3) := by decide +kernel
theorem dX11_shoulders_21 : decode cX11_shoulders 21 = .ok (.aload_n 3, 1) := by decide +kernel
theorem dX11_shoulders_22 : decode cX11_shoulders 22 = .ok (.getfield 260, 3) := by decide +kernel
theorem dX11_shoulders_25 : decode cX11_shoulders 25 = .ok (.aload_n 3, 1) := by decide +kernel
theorem dX11_shoulders_26 : decode cX11_shoulders 26 = .ok (.getfield 240, 3) := by decide +kernel
theorem dX11_shoulders_29 : decode cX11_shoulders 29 = .ok (.iload_n 2, 1) := by decide +kernel
theorem dX11_shoulders_30 : decode cX11_shoulders 30 = .ok (.invokevirtual 200, 3) := by decide +kernel
theorem dX11_shoulders_33 : decode cX11_shoulders 33 = .ok (.ireturn, 1) := by decide +kernel
def is_X11_shoulders : Nat → List Nat := fun d => []
set_option maxRecDepth 100000 in
def b_X11_shoulders_33 (J : Nat → List qV → List qV → qW → Prop) (Q : qR) : qK := x_iret Q
set_option maxRecDepth 100000 in
theorem s_X11_shoulders_33 {p : Program} {l : Launch} {e : Env} {R : Room} {s : State} {m : MethodId} {args : Array Value} {below : List Frame} {meth : Method} {c : Code} {nW : Nat} {dC : Nat → ClassId} {dI : Nat → Nat → Nat} {k : Nat → ClassId} {g : Nat → Nat} {A : Nat → Prop} {J : Nat → List qV → List qV → qW → Prop} {Q : qR} (X : q_X p R s m args meth c cX11_shoulders 4 nW 2 49 RX11 (some .int) dC dI k g A) (hJ : ∀ d : Nat, q_Sd p l e R s m args below meth c 4 nW dC dI k g A (MQ below (q_post (dC, dI) k g nW Q A) args s 0 0 A) d (x_cut (is_X11_shoulders d) (J d))) : q_Sd p l e R s m args below meth c 4 nW dC dI k g A (MQ below (q_post (dC, dI) k g nW Q A) args s 0 0 A) 33 (b_X11_shoulders_33 J Q) := by
  unfold b_X11_shoulders_33
  exact s_iret X dX11_shoulders_33
set_option maxRecDepth 100000 in
def b_X11_shoulders_0 (J : Nat → List qV → List qV → qW → Prop) (Q : qR) : qK := x_aload 0 (x_get 11 0 (x_iload 1 (x_callr (some 8) 2 spr_X8_boroughAt (x_astore 3 (x_aload 3 (x_ifnonnull (x_aload 0 (x_get 11 7 (x_aload 3 (x_get 0 0 (x_aload 3 (x_get 0 7 (x_iload 2 (x_callm (some 1) 4 4 spm_X1_fewest (x_nw (b_X11_shoulders_33 J Q)))))))))) (x_int (-1) (b_X11_shoulders_33 J Q))))))))
set_option maxRecDepth 100000 in
theorem s_X11_shoulders_0 {p : Program} {l : Launch} {e : Env} {R : Room} {s : State} {m : MethodId} {args : Array Value} {below : List Frame} {meth : Method} {c : Code} {nW : Nat} {dC : Nat → ClassId} {dI : Nat → Nat → Nat} {k : Nat → ClassId} {g : Nat → Nat} {A : Nat → Prop} {J : Nat → List qV → List qV → qW → Prop} {Q : qR} (X : q_X p R s m args meth c cX11_shoulders 4 nW 2 49 RX11 (some .int) dC dI k g A) (hJ : ∀ d : Nat, q_Sd p l e R s m args below meth c 4 nW dC dI k g A (MQ below (q_post (dC, dI) k g nW Q A) args s 0 0 A) d (x_cut (is_X11_shoulders d) (J d))) : q_Sd p l e R s m args below meth c 4 nW dC dI k g A (MQ below (q_post (dC, dI) k g nW Q A) args s 0 0 A) 0 (b_X11_shoulders_0 J Q) := by
  unfold b_X11_shoulders_0
  refine s_aload_n X rfl dX11_shoulders_0 ?_
  refine s_get X (T := TX11) (C := RX11) (N := 8) tu_X11 rfl (by decide) tw_326 dX11_shoulders_1 ?_
  refine s_iload_n X rfl dX11_shoulders_4 ?_
  refine s_callVr X (m_X8_boroughAt l) tw_541 tw_542 tw_543 tw_121 tw_544 rfl (by decide +kernel) ⟨by decide, by decide⟩ dX11_shoulders_5 ?_
  refine s_astore_n X rfl (by decide) dX11_shoulders_8 ?_
  refine s_aload_n X rfl dX11_shoulders_9 ?_
  refine s_ifnonnull X (tgt := 17) dX11_shoulders_10 (by decide) ?_ ?_
  · refine s_aload_n X rfl dX11_shoulders_17 ?_
    refine s_get X (T := TX11) (C := RX11) (N := 8) tu_X11 rfl (by decide) tw_333 dX11_shoulders_18 ?_
    refine s_aload_n X rfl dX11_shoulders_21 ?_
    refine s_get X (T := TX0) (C := RX0) (N := 12) tu_X0 rfl (by decide) tw_171 dX11_shoulders_22 ?_
    refine s_aload_n X rfl dX11_shoulders_25 ?_
    refine s_get X (T := TX0) (C := RX0) (N := 12) tu_X0 rfl (by decide) tw_197 dX11_shoulders_26 ?_
    refine s_iload_n X rfl dX11_shoulders_29 ?_
    refine s_callVm X (mm_X1_fewest l) mq_X1_fewest tw_774 tw_775 tw_776 tw_133 tw_777 rfl (by decide +kernel) ⟨by decide, by decide⟩ dX11_shoulders_30 ?_
    refine s_nw ?_
    exact s_X11_shoulders_33 X hJ
  · refine s_iconst X ⟨by decide, by decide⟩ dX11_shoulders_13 ?_
    refine s_goto X (tgt := 33) dX11_shoulders_14 (by decide) ?_
    exact s_X11_shoulders_33 X hJ

def sp_X11_shoulders : qS := fun av w Q => ∃ (tp : Nat → Int) (ct : Nat → Int) (ln : Int) (fa : Int) (pl : Int) (b0f1 : Nat → Int) (b0f2 : Nat → Int) (b0f3 : Nat → Int) (b0f4 : Nat → Int) (b0f5 : Nat → Int) (b0f6 : Nat → Int) (b0f7 : Nat → Int) (b0u0 : Int) (b0u1 : Int) (b0u2 : Int) (b0u3 : Int) (b0u4 : Int) (b1f1 : Nat → Int) (b1f2 : Nat → Int) (b1f3 : Nat → Int) (b1f4 : Nat → Int) (b1f5 : Nat → Int) (b1f6 : Nat → Int) (b1f7 : Nat → Int) (b1u0 : Int) (b1u1 : Int) (b1u2 : Int) (b1u3 : Int) (b1u4 : Int) (crc1 : Nat → Int) (crc2 : Nat → Int) (crc3 : Nat → Int) (a : Int) (b : Int), av = [q2 0, q1 a, q1 b] ∧ w = [.inr (11, [q2 1, q2 25, q2 26, q2 27, q2 28, q2 29, q2 30, q2 21]), .inr (8, [q2 2, q2 3, q2 4, q2 31, q2 32, q2 33, q1 ln, q1 fa, q1 pl]), .inl (1, 600, .inl tp), .inl (0, 4, .inl ct), .inl (4, 2, .inr (.inr [some 5, some 13])), .inr (0, [q2 6, q2 7, q2 8, q2 9, q2 10, q2 11, q2 12, q1 b0u0, q1 b0u1, q1 b0u2, q1 b0u3, q1 b0u4]), .inl (0, 8, .inl b0f1), .inl (0, 8, .inl b0f2), .inl (0, 4, .inl b0f3), .inl (0, 32, .inl b0f4), .inl (0, 6, .inl b0f5), .inl (0, 6, .inl b0f6), .inl (0, 6, .inl b0f7), .inr (0, [q2 14, q2 15, q2 16, q2 17, q2 18, q2 19, q2 20, q1 b1u0, q1 b1u1, q1 b1u2, q1 b1u3, q1 b1u4]), .inl (0, 8, .inl b1f1), .inl (0, 8, .inl b1f2), .inl (0, 4, .inl b1f3), .inl (0, 32, .inl b1f4), .inl (0, 6, .inl b1f5), .inl (0, 6, .inl b1f6), .inl (0, 6, .inl b1f7), .inr (1, [q2 22, q2 23, q2 24]), .inl (0, 8, .inl crc1), .inl (0, 256, .inl crc2), .inl (3, 9, .inr (.inl crc3))] ∧ (q_rg 0 2 ct) ∧ (0 ≤ ln ∧ ln ≤ 600) ∧ (0 ≤ b0u0 ∧ b0u0 ≤ 8 ∧ 0 ≤ b0u3 ∧ b0u3 ≤ 6 ∧ 0 ≤ b0u4 ∧ b0u4 ≤ 6) ∧ (q_rg 0 9 b0f3) ∧ (0 ≤ b1u0 ∧ b1u0 ≤ 8 ∧ 0 ≤ b1u3 ∧ b1u3 ≤ 6 ∧ 0 ≤ b1u4 ∧ b1u4 ≤ 6) ∧ (q_rg 0 9 b1f3) ∧ (∀ (r : Int) (x_crc1 : Nat → Int) (x_crc2 : Nat → Int) (x_crc3 : Nat → Int), Q (some (q1 r)) ([.inr (11, [q2 1, q2 25, q2 26, q2 27, q2 28, q2 29, q2 30, q2 21]), .inr (8, [q2 2, q2 3, q2 4, q2 31, q2 32, q2 33, q1 ln, q1 fa, q1 pl]), .inl (1, 600, .inl tp), .inl (0, 4, .inl ct), .inl (4, 2, .inr (.inr [some 5, some 13])), .inr (0, [q2 6, q2 7, q2 8, q2 9, q2 10, q2 11, q2 12, q1 b0u0, q1 b0u1, q1 b0u2, q1 b0u3, q1 b0u4]), .inl (0, 8, .inl b0f1), .inl (0, 8, .inl b0f2), .inl (0, 4, .inl b0f3), .inl (0, 32, .inl b0f4), .inl (0, 6, .inl b0f5), .inl (0, 6, .inl b0f6), .inl (0, 6, .inl b0f7), .inr (0, [q2 14, q2 15, q2 16, q2 17, q2 18, q2 19, q2 20, q1 b1u0, q1 b1u1, q1 b1u2, q1 b1u3, q1 b1u4]), .inl (0, 8, .inl b1f1), .inl (0, 8, .inl b1f2), .inl (0, 4, .inl b1f3), .inl (0, 32, .inl b1f4), .inl (0, 6, .inl b1f5), .inl (0, 6, .inl b1f6), .inl (0, 6, .inl b1f7), .inr (1, [q2 22, q2 23, q2 24]), .inl (0, 8, .inl x_crc1), .inl (0, 256, .inl x_crc2), .inl (3, 9, .inr (.inl x_crc3))]))
set_option maxHeartbeats 4000000 in
set_option maxRecDepth 100000 in
theorem m_X11_shoulders (l : Launch) : q_M l yX11_shoulders cX11_shoulders 4 (some .int) 2 49 sp_X11_shoulders := by
  refine q_meth (by decide) (fun av w Q h => by obtain ⟨tp, ct, ln, fa, pl, b0f1, b0f2, b0f3, b0f4, b0f5, b0f6, b0f7, b0u0, b0u1, b0u2, b0u3, b0u4, b1f1, b1f2, b1f3, b1f4, b1f5, b1f6, b1f7, b1u0, b1u1, b1u2, b1u3, b1u4, crc1, crc2, crc3, a, b, rfl, rfl, hct, hln, hb0, hf0, hb1, hf1, hQ⟩ := h; exact Nat.le_of_ble_eq_true rfl) ?_
  intro p e R s m args below meth c dC dI k g A av w Q hsp oka okw X
  obtain ⟨tp, ct, ln, fa, pl, b0f1, b0f2, b0f3, b0f4, b0f5, b0f6, b0f7, b0u0, b0u1, b0u2, b0u3, b0u4, b1f1, b1f2, b1f3, b1f4, b1f5, b1f6, b1f7, b1u0, b1u1, b1u2, b1u3, b1u4, crc1, crc2, crc3, a, b, rfl, rfl, hct, hln, hb0, hf0, hb1, hf1, hQ⟩ := hsp
  have o_a : -2147483648 ≤ a ∧ a ≤ 2147483647 := oka _ (List.mem_of_getElem? (i := 1) rfl)
  have o_b : -2147483648 ≤ b ∧ b ≤ 2147483647 := oka _ (List.mem_of_getElem? (i := 2) rfl)
  refine s_mono (s_X11_shoulders_0 X (J := fun _ _ _ _ => False) (fun d => s_cutF)) ?_
  rintro lv st w' ⟨rfl, rfl, rfl⟩
  refine Exists.intro [1, 2, 3, 4, 31, 32, 33, 5, 13] (Exists.intro [q2 0, q1 _] (Exists.intro ((wT4_0 _ _ _ _ _)) (And.intro rfl (And.intro rfl (And.intro rfl (And.intro ⟨⟨_, rfl⟩, rfl⟩ ?_))))))
  refine Exists.intro _ (Exists.intro _ (Exists.intro _ (Exists.intro _ (Exists.intro _ (Exists.intro _ (And.intro rfl (And.intro rfl (?_))))))))
  intro z5 h5
  rcases h5 with rfl | ⟨rfl, rfl⟩ | ⟨rfl, rfl⟩
  · exact hQ _ _ _ _
  · refine Exists.intro [21, 22, 23, 24, 6] (Exists.intro [q2 0, q2 4, q1 _, q1 _] (Exists.intro ((wCo 0 _ _ _ ++ [.inl (0, 8, .inl _)])) (And.intro rfl (And.intro rfl (And.intro rfl (And.intro ⟨⟨_, rfl⟩, rfl⟩ (And.intro (Nat.le_of_ble_eq_true rfl) ?_)))))))
    refine Exists.intro _ (Exists.intro _ (Exists.intro _ (Exists.intro _ (Exists.intro _ (Exists.intro _ (And.intro rfl (And.intro rfl (And.intro (by first | omega | assumption | exact q_rg_up (by assumption) (by omega) | exact q_rg_up (q_rg_up (by assumption) (by omega)) (by omega) | exact q_rg_cpy (by assumption) (by assumption)) (?_)))))))))
    intro z30 x2_30
    intro _
    exact hQ _ _ _ _
  · refine Exists.intro [21, 22, 23, 24, 14] (Exists.intro [q2 0, q2 4, q1 _, q1 _] (Exists.intro ((wCo 0 _ _ _ ++ [.inl (0, 8, .inl _)])) (And.intro rfl (And.intro rfl (And.intro rfl (And.intro ⟨⟨_, rfl⟩, rfl⟩ (And.intro (Nat.le_of_ble_eq_true rfl) ?_)))))))
    refine Exists.intro _ (Exists.intro _ (Exists.intro _ (Exists.intro _ (Exists.intro _ (Exists.intro _ (And.intro rfl (And.intro rfl (And.intro (by first | omega | assumption | exact q_rg_up (by assumption) (by omega) | exact q_rg_up (q_rg_up (by assumption) (by omega)) (by omega) | exact q_rg_cpy (by assumption) (by assumption)) (?_)))))))))
    intro z30 x2_30
    intro _
    exact hQ _ _ _ _

theorem dX11_ledger_0 : decode cX11_ledger 0 = .ok (.aload_n 0, 1) := by decide +kernel
theorem dX11_ledger_1 : decode cX11_ledger 1 = .ok (.getfield 10, 3) := by decide +kernel
theorem dX11_ledger_4 : decode cX11_ledger 4 = .ok (.iload_n 1, 1) := by decide +kernel
theorem dX11_ledger_5 : decode cX11_ledger 5 = .ok (.invokevirtual 184, 3) := by decide +kernel
theorem dX11_ledger_8 : decode cX11_ledger 8 = .ok (.astore_n 3, 1) := by decide +kernel
theorem dX11_ledger_9 : decode cX11_ledger 9 = .ok (.aload_n 3, 1) := by decide +kernel
theorem dX11_ledger_10 : decode cX11_ledger 10 = .ok (.ifnonnull 6, 3) := by decide +kernel
theorem dX11_ledger_13 : decode cX11_ledger 13 = .ok (.bipush (-2), 2) := by decide +kernel
theorem dX11_ledger_15 : decode cX11_ledger 15 = .ok (.ireturn, 1) := by decide +kernel
theorem dX11_ledger_16 : decode cX11_ledger 16 = .ok (.iload_n 2, 1) := by decide +kernel
theorem dX11_ledger_17 : decode cX11_ledger 17 = .ok (.bipush 10, 2) := by decide +kernel
theorem dX11_ledger_19 : decode cX11_ledger 19 = .ok (.if_icmp .lt 19, 3) := by decide +kernel
theorem dX11_ledger_22 : decode cX11_ledger 22 = .ok (.iload_n 2, 1) := by decide +kernel
theorem dX11_ledger_23 : decode cX11_ledger 23 = .ok (.bipush 18, 2) := by decide +kernel
theorem dX11_ledger_25 : decode cX11_ledger 25 = .ok (.if_icmp .ge 13, 3) := by decide +kernel
theorem dX11_ledger_28 : decode cX11_ledger 28 = .ok (.aload_n 3, 1) := by decide +kernel
theorem dX11_ledger_29 : decode cX11_ledger 29 = .ok (.getfield 188, 3) := by decide +kernel
theorem dX11_ledger_32 : decode cX11_ledger 32 = .ok (.iload_n 2, 1) := by decide +kernel
theorem dX11_ledger_33 : decode cX11_ledger 33 = .ok (.bipush 10, 2) := by decide +kernel
theorem dX11_ledger_35 : decode cX11_ledger 35 = .ok (.isub, 1) := by decide +kernel
theorem dX11_ledger_36 : decode cX11_ledger 36 = .ok (.iaload, 1) := by decide +kernel
theorem dX11_ledger_37 : decode cX11_ledger 37 = .ok (.ireturn, 1) := by decide +kernel
theorem dX11_ledger_38 : decode cX11_ledger 38 = .ok (.iload_n 2, 1) := by decide +kernel
theorem dX11_ledger_39 : decode cX11_ledger 39 = .ok (.bipush 20, 2) := by decide +kernel
theorem dX11_ledger_41 : decode cX11_ledger 41 = .ok (.if_icmp .lt 18, 3) := by decide +kernel
theorem dX11_ledger_44 : decode cX11_ledger 44 = .ok (.iload_n 2, 1) := by decide +kernel
theorem dX11_ledger_45 : decode cX11_ledger 45 = .ok (.bipush 28, 2) := by decide +kernel
theorem dX11_ledger_47 : decode cX11_ledger 47 = .ok (.if_icmp .ge 12, 3) := by decide +kernel
theorem dX11_ledger_50 : decode cX11_ledger 50 = .ok (.aload_n 3, 1) := by decide +kernel
theorem dX11_ledger_51 : decode cX11_ledger 51 = .ok (.iload_n 2, 1) := by decide +kernel
theorem dX11_ledger_52 : decode cX11_ledger 52 = .ok (.bipush 20, 2) := by decide +kernel
theorem dX11_ledger_54 : decode cX11_ledger 54 = .ok (.isub, 1) := by decide +kernel
theorem dX11_ledger_55 : decode cX11_ledger 55 = .ok (.invokevirtual 194, 3) := by decide +kernel
theorem dX11_ledger_58 : decode cX11_ledger 58 = .ok (.ireturn, 1) := by decide +kernel
theorem dX11_ledger_59 : decode cX11_ledger 59 = .ok (.iload_n 2, 1) := by decide +kernel
theorem dX11_ledger_60 : decode cX11_ledger 60 = .ok (.tableswitch 73 0 3 #[32, 37, 55, 64], 32) := by decide +kernel
theorem dX11_ledger_92 : decode cX11_ledger 92 = .ok (.aload_n 3, 1) := by decide +kernel
theorem dX11_ledger_93 : decode cX11_ledger 93 = .ok (.getfield 197, 3) := by decide +kernel
theorem dX11_ledger_96 : decode cX11_ledger 96 = .ok (.ireturn, 1) := by decide +kernel
theorem dX11_ledger_97 : decode cX11_ledger 97 = .ok (.aload_n 0, 1) := by decide +kernel
theorem dX11_ledger_98 : decode cX11_ledger 98 = .ok (.getfield 58, 3) := by decide +kernel
theorem dX11_ledger_101 : decode cX11_ledger 101 = .ok (.aload_n 3, 1) := by decide +kernel
theorem dX11_ledger_102 : decode cX11_ledger 102 = .ok (.getfield 188, 3) := by decide +kernel
theorem dX11_ledger_105 : decode cX11_ledger 105 = .ok (.bipush 8, 2) := by decide +kernel
theorem dX11_ledger_107 : decode cX11_ledger 107 = .ok (.aload_n 3, 1) := by decide +kernel
theorem dX11_ledger_108 : decode cX11_ledger 108 = .ok (.getfield 197, 3) := by decide +kernel
theorem dX11_ledger_111 : decode cX11_ledger 111 = .ok (.invokevirtual 200, 3) := by decide +kernel
theorem dX11_ledger_114 : decode cX11_ledger 114 = .ok (.ireturn, 1) := by decide +kernel
theorem dX11_ledger_115 : decode cX11_ledger 115 = .ok (.aload_n 0, 1) := by decide +kernel
theorem dX11_ledger_116 : decode cX11_ledger 116 = .ok (.getfield 58, 3) := by decide +kernel
theorem dX11_ledger_119 : decode cX11_ledger 119 = .ok (.aload_n 3, 1) := by decide +kernel
theorem dX11_ledger_120 : decode cX11_ledger 120 = .ok (.invokevirtual 203, 3) := by decide +kernel
theorem dX11_ledger_123 : decode cX11_ledger 123 = .ok (.ireturn, 1) := by decide +kernel
theorem dX11_ledger_124 : decode cX11_ledger 124 = .ok (.aload_n 0, 1) := by decide +kernel
theorem dX11_ledger_125 : decode cX11_ledger 125 = .ok (.getfield 58, 3) := by decide +kernel
theorem dX11_ledger_128 : decode cX11_ledger 128 = .ok (.aload_n 3, 1) := by decide +kernel
theorem dX11_ledger_129 : decode cX11_ledger 129 = .ok (.invokevirtual 207, 3) := by decide +kernel
theorem dX11_ledger_132 : decode cX11_ledger 132 = .ok (.ireturn, 1) := by decide +kernel
theorem dX11_ledger_133 : decode cX11_ledger 133 = .ok (.bipush (-2), 2) := by decide +kernel
theorem dX11_ledger_135 : decode cX11_ledger 135 = .ok (.ireturn, 1) := by decide +kernel
def is_X11_ledger : Nat → List Nat := fun d => []
set_option maxRecDepth 100000 in
def b_X11_ledger_133 (J : Nat → List qV → List qV → qW → Prop) (Q : qR) : qK := x_int (-2) (x_iret Q)
set_option maxRecDepth 100000 in
theorem s_X11_ledger_133 {p : Program} {l : Launch} {e : Env} {R : Room} {s : State} {m : MethodId} {args : Array Value} {below : List Frame} {meth : Method} {c : Code} {nW : Nat} {dC : Nat → ClassId} {dI : Nat → Nat → Nat} {k : Nat → ClassId} {g : Nat → Nat} {A : Nat → Prop} {J : Nat → List qV → List qV → qW → Prop} {Q : qR} (X : q_X p R s m args meth c cX11_ledger 4 nW 2 49 RX11 (some .int) dC dI k g A) (hJ : ∀ d : Nat, q_Sd p l e R s m args below meth c 4 nW dC dI k g A (MQ below (q_post (dC, dI) k g nW Q A) args s 0 0 A) d (x_cut (is_X11_ledger d) (J d))) : q_Sd p l e R s m args below meth c 4 nW dC dI k g A (MQ below (q_post (dC, dI) k g nW Q A) args s 0 0 A) 133 (b_X11_ledger_133 J Q) := by
  unfold b_X11_ledger_133
  refine s_bipush X ⟨by decide, by decide⟩ (by decide) dX11_ledger_133 ?_
  exact s_iret X dX11_ledger_135
set_option maxRecDepth 100000 in
def b_X11_ledger_59 (J : Nat → List qV → List qV → qW → Prop) (Q : qR) : qK := x_iload 2 (x_sw 0 3 [x_aload 3 (x_get 3 1 (x_iret Q)), x_aload 0 (x_get 11 7 (x_aload 3 (x_get 3 0 (x_int 8 (x_aload 3 (x_get 3 1 (x_callm (some 1) 4 4 spm_X1_fewest (x_nw (x_iret Q))))))))), x_aload 0 (x_get 11 7 (x_aload 3 (x_callm (some 1) 2 4 spm_X1_exactWays (x_nw (x_iret Q))))), x_aload 0 (x_get 11 7 (x_aload 3 (x_callm (some 1) 2 4 spm_X1_firstExact (x_nw (x_iret Q)))))] (b_X11_ledger_133 J Q))
set_option maxRecDepth 100000 in
theorem s_X11_ledger_59 {p : Program} {l : Launch} {e : Env} {R : Room} {s : State} {m : MethodId} {args : Array Value} {below : List Frame} {meth : Method} {c : Code} {nW : Nat} {dC : Nat → ClassId} {dI : Nat → Nat → Nat} {k : Nat → ClassId} {g : Nat → Nat} {A : Nat → Prop} {J : Nat → List qV → List qV → qW → Prop} {Q : qR} (X : q_X p R s m args meth c cX11_ledger 4 nW 2 49 RX11 (some .int) dC dI k g A) (hJ : ∀ d : Nat, q_Sd p l e R s m args below meth c 4 nW dC dI k g A (MQ below (q_post (dC, dI) k g nW Q A) args s 0 0 A) d (x_cut (is_X11_ledger d) (J d))) : q_Sd p l e R s m args below meth c 4 nW dC dI k g A (MQ below (q_post (dC, dI) k g nW Q A) args s 0 0 A) 59 (b_X11_ledger_59 J Q) := by
  unfold b_X11_ledger_59
  refine s_iload_n X rfl dX11_ledger_59 ?_
  refine s_sw X (ts := [92, 97, 115, 124]) (td := 133) dX11_ledger_60 (by decide) (by decide) (by decide) rfl ?_ ?_
  · intro i t K ht hK
    match i, ht, hK with
    | 0, ht, hK =>
      cases ht
      cases hK
      refine s_aload_n X rfl dX11_ledger_92 ?_
      refine s_get X (T := TX3) (C := RX3) (N := 2) tu_X3 rfl (by decide) tw_236 dX11_ledger_93 ?_
      exact s_iret X dX11_ledger_96
    | 1, ht, hK =>
      cases ht
      cases hK
      refine s_aload_n X rfl dX11_ledger_97 ?_
      refine s_get X (T := TX11) (C := RX11) (N := 8) tu_X11 rfl (by decide) tw_333 dX11_ledger_98 ?_
      refine s_aload_n X rfl dX11_ledger_101 ?_
      refine s_get X (T := TX3) (C := RX3) (N := 2) tu_X3 rfl (by decide) tw_232 dX11_ledger_102 ?_
      refine s_bipush X ⟨by decide, by decide⟩ (by decide) dX11_ledger_105 ?_
      refine s_aload_n X rfl dX11_ledger_107 ?_
      refine s_get X (T := TX3) (C := RX3) (N := 2) tu_X3 rfl (by decide) tw_236 dX11_ledger_108 ?_
      refine s_callVm X (mm_X1_fewest l) mq_X1_fewest tw_774 tw_775 tw_776 tw_133 tw_777 rfl (by decide +kernel) ⟨by decide, by decide⟩ dX11_ledger_111 ?_
      refine s_nw ?_
      exact s_iret X dX11_ledger_114
    | 2, ht, hK =>
      cases ht
      cases hK
      refine s_aload_n X rfl dX11_ledger_115 ?_
      refine s_get X (T := TX11) (C := RX11) (N := 8) tu_X11 rfl (by decide) tw_333 dX11_ledger_116 ?_
      refine s_aload_n X rfl dX11_ledger_119 ?_
      refine s_callVm X (mm_X1_exactWays l) mq_X1_exactWays tw_782 tw_783 tw_784 tw_133 tw_785 rfl (by decide +kernel) ⟨by decide, by decide⟩ dX11_ledger_120 ?_
      refine s_nw ?_
      exact s_iret X dX11_ledger_123
    | 3, ht, hK =>
      cases ht
      cases hK
      refine s_aload_n X rfl dX11_ledger_124 ?_
      refine s_get X (T := TX11) (C := RX11) (N := 8) tu_X11 rfl (by decide) tw_333 dX11_ledger_125 ?_
      refine s_aload_n X rfl dX11_ledger_128 ?_
      refine s_callVm X (mm_X1_firstExact l) mq_X1_firstExact tw_789 tw_790 tw_791 tw_133 tw_792 rfl (by decide +kernel) ⟨by decide, by decide⟩ dX11_ledger_129 ?_
      refine s_nw ?_
      exact s_iret X dX11_ledger_132
    | i + 4, ht, hK => exact absurd ht (by simp)
  · exact s_X11_ledger_133 X hJ
set_option maxRecDepth 100000 in
def b_X11_ledger_38 (J : Nat → List qV → List qV → qW → Prop) (Q : qR) : qK := x_iload 2 (x_int 20 (x_icmp_lt (b_X11_ledger_59 J Q) (x_iload 2 (x_int 28 (x_icmp_ge (b_X11_ledger_59 J Q) (x_aload 3 (x_iload 2 (x_int 20 (x_isub (x_callr (some 3) 2 spr_X3_fairPart (x_iret Q)))))))))))
set_option maxRecDepth 100000 in
theorem s_X11_ledger_38 {p : Program} {l : Launch} {e : Env} {R : Room} {s : State} {m : MethodId} {args : Array Value} {below : List Frame} {meth : Method} {c : Code} {nW : Nat} {dC : Nat → ClassId} {dI : Nat → Nat → Nat} {k : Nat → ClassId} {g : Nat → Nat} {A : Nat → Prop} {J : Nat → List qV → List qV → qW → Prop} {Q : qR} (X : q_X p R s m args meth c cX11_ledger 4 nW 2 49 RX11 (some .int) dC dI k g A) (hJ : ∀ d : Nat, q_Sd p l e R s m args below meth c 4 nW dC dI k g A (MQ below (q_post (dC, dI) k g nW Q A) args s 0 0 A) d (x_cut (is_X11_ledger d) (J d))) : q_Sd p l e R s m args below meth c 4 nW dC dI k g A (MQ below (q_post (dC, dI) k g nW Q A) args s 0 0 A) 38 (b_X11_ledger_38 J Q) := by
  unfold b_X11_ledger_38
  refine s_iload_n X rfl dX11_ledger_38 ?_
  refine s_bipush X ⟨by decide, by decide⟩ (by decide) dX11_ledger_39 ?_
  refine s_icmp_lt X (tgt := 59) dX11_ledger_41 (by decide) ?_ ?_
  · exact s_X11_ledger_59 X hJ
  · refine s_iload_n X rfl dX11_ledger_44 ?_
    refine s_bipush X ⟨by decide, by decide⟩ (by decide) dX11_ledger_45 ?_
    refine s_icmp_ge X (tgt := 59) dX11_ledger_47 (by decide) ?_ ?_
    · exact s_X11_ledger_59 X hJ
    · refine s_aload_n X rfl dX11_ledger_50 ?_
      refine s_iload_n X rfl dX11_ledger_51 ?_
      refine s_bipush X ⟨by decide, by decide⟩ (by decide) dX11_ledger_52 ?_
      refine s_isub X dX11_ledger_54 ?_
      refine s_callVr X (m_X3_fairPart l) tw_767 tw_768 tw_769 tw_126 tw_770 rfl (by decide +kernel) ⟨by decide, by decide⟩ dX11_ledger_55 ?_
      exact s_iret X dX11_ledger_58
set_option maxRecDepth 100000 in
def b_X11_ledger_0 (J : Nat → List qV → List qV → qW → Prop) (Q : qR) : qK := x_aload 0 (x_get 11 0 (x_iload 1 (x_callr (some 8) 2 spr_X8_ledgerAt (x_astore 3 (x_aload 3 (x_ifnonnull (x_iload 2 (x_int 10 (x_icmp_lt (b_X11_ledger_38 J Q) (x_iload 2 (x_int 18 (x_icmp_ge (b_X11_ledger_38 J Q) (x_aload 3 (x_get 3 0 (x_iload 2 (x_int 10 (x_isub (x_iald (x_iret Q))))))))))))) (x_int (-2) (x_iret Q))))))))
set_option maxRecDepth 100000 in
theorem s_X11_ledger_0 {p : Program} {l : Launch} {e : Env} {R : Room} {s : State} {m : MethodId} {args : Array Value} {below : List Frame} {meth : Method} {c : Code} {nW : Nat} {dC : Nat → ClassId} {dI : Nat → Nat → Nat} {k : Nat → ClassId} {g : Nat → Nat} {A : Nat → Prop} {J : Nat → List qV → List qV → qW → Prop} {Q : qR} (X : q_X p R s m args meth c cX11_ledger 4 nW 2 49 RX11 (some .int) dC dI k g A) (hJ : ∀ d : Nat, q_Sd p l e R s m args below meth c 4 nW dC dI k g A (MQ below (q_post (dC, dI) k g nW Q A) args s 0 0 A) d (x_cut (is_X11_ledger d) (J d))) : q_Sd p l e R s m args below meth c 4 nW dC dI k g A (MQ below (q_post (dC, dI) k g nW Q A) args s 0 0 A) 0 (b_X11_ledger_0 J Q) := by
  unfold b_X11_ledger_0
  refine s_aload_n X rfl dX11_ledger_0 ?_
  refine s_get X (T := TX11) (C := RX11) (N := 8) tu_X11 rfl (by decide) tw_326 dX11_ledger_1 ?_
  refine s_iload_n X rfl dX11_ledger_4 ?_
  refine s_callVr X (m_X8_ledgerAt l) tw_763 tw_764 tw_765 tw_121 tw_766 rfl (by decide +kernel) ⟨by decide, by decide⟩ dX11_ledger_5 ?_
  refine s_astore_n X rfl (by decide) dX11_ledger_8 ?_
  refine s_aload_n X rfl dX11_ledger_9 ?_
  refine s_ifnonnull X (tgt := 16) dX11_ledger_10 (by decide) ?_ ?_
  · refine s_iload_n X rfl dX11_ledger_16 ?_
    refine s_bipush X ⟨by decide, by decide⟩ (by decide) dX11_ledger_17 ?_
    refine s_icmp_lt X (tgt := 38) dX11_ledger_19 (by decide) ?_ ?_
    · exact s_X11_ledger_38 X hJ
    · refine s_iload_n X rfl dX11_ledger_22 ?_
      refine s_bipush X ⟨by decide, by decide⟩ (by decide) dX11_ledger_23 ?_
      refine s_icmp_ge X (tgt := 38) dX11_ledger_25 (by decide) ?_ ?_
      · exact s_X11_ledger_38 X hJ
      · refine s_aload_n X rfl dX11_ledger_28 ?_
        refine s_get X (T := TX3) (C := RX3) (N := 2) tu_X3 rfl (by decide) tw_232 dX11_ledger_29 ?_
        refine s_iload_n X rfl dX11_ledger_32 ?_
        refine s_bipush X ⟨by decide, by decide⟩ (by decide) dX11_ledger_33 ?_
        refine s_isub X dX11_ledger_35 ?_
        refine s_iald X dX11_ledger_36 ?_
        exact s_iret X dX11_ledger_37
  · refine s_bipush X ⟨by decide, by decide⟩ (by decide) dX11_ledger_13 ?_
    exact s_iret X dX11_ledger_15

def sp_X11_ledger : qS := fun av w Q => ∃ (tp : Nat → Int) (ct : Nat → Int) (ln : Int) (fa : Int) (pl : Int) (l0g : Nat → Int) (l0o : Int) (l1g : Nat → Int) (l1o : Int) (crc1 : Nat → Int) (crc2 : Nat → Int) (crc3 : Nat → Int) (a : Int) (b : Int), av = [q2 0, q1 a, q1 b] ∧ w = [.inr (11, [q2 1, q2 13, q2 14, q2 15, q2 16, q2 17, q2 18, q2 9]), .inr (8, [q2 2, q2 3, q2 19, q2 20, q2 4, q2 21, q1 ln, q1 fa, q1 pl]), .inl (1, 600, .inl tp), .inl (0, 4, .inl ct), .inl (6, 2, .inr (.inr [some 5, some 7])), .inr (3, [q2 6, q1 l0o]), .inl (0, 8, .inl l0g), .inr (3, [q2 8, q1 l1o]), .inl (0, 8, .inl l1g), .inr (1, [q2 10, q2 11, q2 12]), .inl (0, 8, .inl crc1), .inl (0, 256, .inl crc2), .inl (3, 9, .inr (.inl crc3))] ∧ (q_rg 0 2 ct) ∧ (0 ≤ ln ∧ ln ≤ 600) ∧ (∀ (r : Int) (x_crc1 : Nat → Int) (x_crc2 : Nat → Int) (x_crc3 : Nat → Int), Q (some (q1 r)) ([.inr (11, [q2 1, q2 13, q2 14, q2 15, q2 16, q2 17, q2 18, q2 9]), .inr (8, [q2 2, q2 3, q2 19, q2 20, q2 4, q2 21, q1 ln, q1 fa, q1 pl]), .inl (1, 600, .inl tp), .inl (0, 4, .inl ct), .inl (6, 2, .inr (.inr [some 5, some 7])), .inr (3, [q2 6, q1 l0o]), .inl (0, 8, .inl l0g), .inr (3, [q2 8, q1 l1o]), .inl (0, 8, .inl l1g), .inr (1, [q2 10, q2 11, q2 12]), .inl (0, 8, .inl x_crc1), .inl (0, 256, .inl x_crc2), .inl (3, 9, .inr (.inl x_crc3))]))
set_option maxHeartbeats 4000000 in
set_option maxRecDepth 100000 in
theorem m_X11_ledger (l : Launch) : q_M l yX11_ledger cX11_ledger 4 (some .int) 2 49 sp_X11_ledger := by
  refine q_meth (by decide) (fun av w Q h => by obtain ⟨tp, ct, ln, fa, pl, l0g, l0o, l1g, l1o, crc1, crc2, crc3, a, b, rfl, rfl, hct, hln, hQ⟩ := h; exact Nat.le_of_ble_eq_true rfl) ?_
  intro p e R s m args below meth c dC dI k g A av w Q hsp oka okw X
  obtain ⟨tp, ct, ln, fa, pl, l0g, l0o, l1g, l1o, crc1, crc2, crc3, a, b, rfl, rfl, hct, hln, hQ⟩ := hsp
  have o_a : -2147483648 ≤ a ∧ a ≤ 2147483647 := oka _ (List.mem_of_getElem? (i := 1) rfl)
  have o_b : -2147483648 ≤ b ∧ b ≤ 2147483647 := oka _ (List.mem_of_getElem? (i := 2) rfl)
  refine s_mono (s_X11_ledger_0 X (J := fun _ _ _ _ => False) (fun d => s_cutF)) ?_
  rintro lv st w' ⟨rfl, rfl, rfl⟩
  refine Exists.intro [1, 2, 3, 4, 19, 20, 21, 5, 7] (Exists.intro [q2 0, q1 _] (Exists.intro ((wT4_2 _ _ _ _ _)) (And.intro rfl (And.intro rfl (And.intro rfl (And.intro ⟨⟨_, rfl⟩, rfl⟩ ?_))))))
  refine Exists.intro _ (Exists.intro _ (Exists.intro _ (Exists.intro _ (Exists.intro _ (Exists.intro _ (And.intro rfl (And.intro rfl (?_))))))))
  intro z5 h5
  rcases h5 with rfl | ⟨rfl, rfl⟩ | ⟨rfl, rfl⟩
  · exact hQ _ _ _ _
  · apply And.intro
    · intro h19
      apply And.intro
      · intro h41
        apply And.intro
        · apply And.intro
          · intro h60
            exact hQ _ _ _ _
          apply And.intro
          · intro h60
            refine Exists.intro [9, 10, 11, 12, 6] (Exists.intro [q2 0, q2 4, q1 _, q1 _] (Exists.intro ((wCo 0 _ _ _ ++ [.inl (0, 8, .inl _)])) (And.intro rfl (And.intro rfl (And.intro rfl (And.intro ⟨⟨_, rfl⟩, rfl⟩ (And.intro (Nat.le_of_ble_eq_true rfl) ?_)))))))
            refine Exists.intro _ (Exists.intro _ (Exists.intro _ (Exists.intro _ (Exists.intro _ (Exists.intro _ (And.intro rfl (And.intro rfl (And.intro (by first | omega | assumption | exact q_rg_up (by assumption) (by omega) | exact q_rg_up (q_rg_up (by assumption) (by omega)) (by omega) | exact q_rg_cpy (by assumption) (by assumption)) (?_)))))))))
            intro z111 x2_111
            intro _
            exact hQ _ _ _ _
          apply And.intro
          · intro h60
            refine Exists.intro [9, 10, 11, 12, 5, 6] (Exists.intro [q2 0, q2 4] (Exists.intro ((wCo 0 _ _ _ ++ wLo 4 _ _)) (And.intro rfl (And.intro rfl (And.intro rfl (And.intro ⟨⟨_, rfl⟩, rfl⟩ (And.intro (Nat.le_of_ble_eq_true rfl) ?_)))))))
            refine Exists.intro _ (Exists.intro _ (Exists.intro _ (Exists.intro _ (Exists.intro _ (And.intro rfl (And.intro rfl (?_)))))))
            intro z120 x2_120
            intro _
            exact hQ _ _ _ _
          apply And.intro
          · intro h60
            refine Exists.intro [9, 10, 11, 12, 5, 6] (Exists.intro [q2 0, q2 4] (Exists.intro ((wCo 0 _ _ _ ++ wLo 4 _ _)) (And.intro rfl (And.intro rfl (And.intro rfl (And.intro ⟨⟨_, rfl⟩, rfl⟩ (And.intro (Nat.le_of_ble_eq_true rfl) ?_)))))))
            refine Exists.intro _ (Exists.intro _ (Exists.intro _ (Exists.intro _ (Exists.intro _ (And.intro rfl (And.intro rfl (?_)))))))
            intro z129 x2_129
            intro _
            exact hQ _ _ _ _
          exact trivial
        · intro h60
          exact hQ _ _ _ _
      · intro h41
        apply And.intro
        · intro h47
          apply And.intro
          · apply And.intro
            · intro h60
              exact hQ _ _ _ _
            apply And.intro
            · intro h60
              refine Exists.intro [9, 10, 11, 12, 6] (Exists.intro [q2 0, q2 4, q1 _, q1 _] (Exists.intro ((wCo 0 _ _ _ ++ [.inl (0, 8, .inl _)])) (And.intro rfl (And.intro rfl (And.intro rfl (And.intro ⟨⟨_, rfl⟩, rfl⟩ (And.intro (Nat.le_of_ble_eq_true rfl) ?_)))))))
              refine Exists.intro _ (Exists.intro _ (Exists.intro _ (Exists.intro _ (Exists.intro _ (Exists.intro _ (And.intro rfl (And.intro rfl (And.intro (by first | omega | assumption | exact q_rg_up (by assumption) (by omega) | exact q_rg_up (q_rg_up (by assumption) (by omega)) (by omega) | exact q_rg_cpy (by assumption) (by assumption)) (?_)))))))))
              intro z111 x2_111
              intro _
              exact hQ _ _ _ _
            apply And.intro
            · intro h60
              refine Exists.intro [9, 10, 11, 12, 5, 6] (Exists.intro [q2 0, q2 4] (Exists.intro ((wCo 0 _ _ _ ++ wLo 4 _ _)) (And.intro rfl (And.intro rfl (And.intro rfl (And.intro ⟨⟨_, rfl⟩, rfl⟩ (And.intro (Nat.le_of_ble_eq_true rfl) ?_)))))))
              refine Exists.intro _ (Exists.intro _ (Exists.intro _ (Exists.intro _ (Exists.intro _ (And.intro rfl (And.intro rfl (?_)))))))
              intro z120 x2_120
              intro _
              exact hQ _ _ _ _
            apply And.intro
            · intro h60
              refine Exists.intro [9, 10, 11, 12, 5, 6] (Exists.intro [q2 0, q2 4] (Exists.intro ((wCo 0 _ _ _ ++ wLo 4 _ _)) (And.intro rfl (And.intro rfl (And.intro rfl (And.intro ⟨⟨_, rfl⟩, rfl⟩ (And.intro (Nat.le_of_ble_eq_true rfl) ?_)))))))
              refine Exists.intro _ (Exists.intro _ (Exists.intro _ (Exists.intro _ (Exists.intro _ (And.intro rfl (And.intro rfl (?_)))))))
              intro z129 x2_129
              intro _
              exact hQ _ _ _ _
            exact trivial
          · intro h60
            exact hQ _ _ _ _
        · intro h47
          intro z54 h54
          first | replace h54 := e_sub h54 (by omega) | replace h54 := e_rng h54
          refine Exists.intro [5, 6] (Exists.intro [q2 0, q1 _] (Exists.intro ((wLo 0 _ _)) (And.intro rfl (And.intro rfl (And.intro rfl (And.intro ⟨⟨_, rfl⟩, rfl⟩ ?_))))))
          refine Exists.intro _ (Exists.intro _ (Exists.intro _ (And.intro rfl (And.intro rfl (?_)))))
          intro z55
          exact hQ _ _ _ _
    · intro h19
      apply And.intro
      · intro h25
        apply And.intro
        · intro h41
          apply And.intro
          · apply And.intro
            · intro h60
              exact hQ _ _ _ _
            apply And.intro
            · intro h60
              refine Exists.intro [9, 10, 11, 12, 6] (Exists.intro [q2 0, q2 4, q1 _, q1 _] (Exists.intro ((wCo 0 _ _ _ ++ [.inl (0, 8, .inl _)])) (And.intro rfl (And.intro rfl (And.intro rfl (And.intro ⟨⟨_, rfl⟩, rfl⟩ (And.intro (Nat.le_of_ble_eq_true rfl) ?_)))))))
              refine Exists.intro _ (Exists.intro _ (Exists.intro _ (Exists.intro _ (Exists.intro _ (Exists.intro _ (And.intro rfl (And.intro rfl (And.intro (by first | omega | assumption | exact q_rg_up (by assumption) (by omega) | exact q_rg_up (q_rg_up (by assumption) (by omega)) (by omega) | exact q_rg_cpy (by assumption) (by assumption)) (?_)))))))))
              intro z111 x2_111
              intro _
              exact hQ _ _ _ _
            apply And.intro
            · intro h60
              refine Exists.intro [9, 10, 11, 12, 5, 6] (Exists.intro [q2 0, q2 4] (Exists.intro ((wCo 0 _ _ _ ++ wLo 4 _ _)) (And.intro rfl (And.intro rfl (And.intro rfl (And.intro ⟨⟨_, rfl⟩, rfl⟩ (And.intro (Nat.le_of_ble_eq_true rfl) ?_)))))))
              refine Exists.intro _ (Exists.intro _ (Exists.intro _ (Exists.intro _ (Exists.intro _ (And.intro rfl (And.intro rfl (?_)))))))
              intro z120 x2_120
              intro _
              exact hQ _ _ _ _
            apply And.intro
            · intro h60
              refine Exists.intro [9, 10, 11, 12, 5, 6] (Exists.intro [q2 0, q2 4] (Exists.intro ((wCo 0 _ _ _ ++ wLo 4 _ _)) (And.intro rfl (And.intro rfl (And.intro rfl (And.intro ⟨⟨_, rfl⟩, rfl⟩ (And.intro (Nat.le_of_ble_eq_true rfl) ?_)))))))
              refine Exists.intro _ (Exists.intro _ (Exists.intro _ (Exists.intro _ (Exists.intro _ (And.intro rfl (And.intro rfl (?_)))))))
              intro z129 x2_129
              intro _
              exact hQ _ _ _ _
            exact trivial
          · intro h60
            exact hQ _ _ _ _
        · intro h41
          apply And.intro
          · intro h47
            apply And.intro
            · apply And.intro
              · intro h60
                exact hQ _ _ _ _
              apply And.intro
              · intro h60
                refine Exists.intro [9, 10, 11, 12, 6] (Exists.intro [q2 0, q2 4, q1 _, q1 _] (Exists.intro ((wCo 0 _ _ _ ++ [.inl (0, 8, .inl _)])) (And.intro rfl (And.intro rfl (And.intro rfl (And.intro ⟨⟨_, rfl⟩, rfl⟩ (And.intro (Nat.le_of_ble_eq_true rfl) ?_)))))))
                refine Exists.intro _ (Exists.intro _ (Exists.intro _ (Exists.intro _ (Exists.intro _ (Exists.intro _ (And.intro rfl (And.intro rfl (And.intro (by first | omega | assumption | exact q_rg_up (by assumption) (by omega) | exact q_rg_up (q_rg_up (by assumption) (by omega)) (by omega) | exact q_rg_cpy (by assumption) (by assumption)) (?_)))))))))
                intro z111 x2_111
                intro _
                exact hQ _ _ _ _
              apply And.intro
              · intro h60
                refine Exists.intro [9, 10, 11, 12, 5, 6] (Exists.intro [q2 0, q2 4] (Exists.intro ((wCo 0 _ _ _ ++ wLo 4 _ _)) (And.intro rfl (And.intro rfl (And.intro rfl (And.intro ⟨⟨_, rfl⟩, rfl⟩ (And.intro (Nat.le_of_ble_eq_true rfl) ?_)))))))
                refine Exists.intro _ (Exists.intro _ (Exists.intro _ (Exists.intro _ (Exists.intro _ (And.intro rfl (And.intro rfl (?_)))))))
                intro z120 x2_120
                intro _
                exact hQ _ _ _ _
              apply And.intro
              · intro h60
                refine Exists.intro [9, 10, 11, 12, 5, 6] (Exists.intro [q2 0, q2 4] (Exists.intro ((wCo 0 _ _ _ ++ wLo 4 _ _)) (And.intro rfl (And.intro rfl (And.intro rfl (And.intro ⟨⟨_, rfl⟩, rfl⟩ (And.intro (Nat.le_of_ble_eq_true rfl) ?_)))))))
                refine Exists.intro _ (Exists.intro _ (Exists.intro _ (Exists.intro _ (Exists.intro _ (And.intro rfl (And.intro rfl (?_)))))))
                intro z129 x2_129
                intro _
                exact hQ _ _ _ _
              exact trivial
            · intro h60
              exact hQ _ _ _ _
          · intro h47
            intro z54 h54
            first | replace h54 := e_sub h54 (by omega) | replace h54 := e_rng h54
            refine Exists.intro [5, 6] (Exists.intro [q2 0, q1 _] (Exists.intro ((wLo 0 _ _)) (And.intro rfl (And.intro rfl (And.intro rfl (And.intro ⟨⟨_, rfl⟩, rfl⟩ ?_))))))
            refine Exists.intro _ (Exists.intro _ (Exists.intro _ (And.intro rfl (And.intro rfl (?_)))))
            intro z55
            exact hQ _ _ _ _
      · intro h25
        intro z35 h35
        first | replace h35 := e_sub h35 (by omega) | replace h35 := e_rng h35
        apply And.intro
        · exact ⟨by omega, by omega⟩
        intro z36 h36
        exact hQ _ _ _ _
  · apply And.intro
    · intro h19
      apply And.intro
      · intro h41
        apply And.intro
        · apply And.intro
          · intro h60
            exact hQ _ _ _ _
          apply And.intro
          · intro h60
            refine Exists.intro [9, 10, 11, 12, 8] (Exists.intro [q2 0, q2 4, q1 _, q1 _] (Exists.intro ((wCo 0 _ _ _ ++ [.inl (0, 8, .inl _)])) (And.intro rfl (And.intro rfl (And.intro rfl (And.intro ⟨⟨_, rfl⟩, rfl⟩ (And.intro (Nat.le_of_ble_eq_true rfl) ?_)))))))
            refine Exists.intro _ (Exists.intro _ (Exists.intro _ (Exists.intro _ (Exists.intro _ (Exists.intro _ (And.intro rfl (And.intro rfl (And.intro (by first | omega | assumption | exact q_rg_up (by assumption) (by omega) | exact q_rg_up (q_rg_up (by assumption) (by omega)) (by omega) | exact q_rg_cpy (by assumption) (by assumption)) (?_)))))))))
            intro z111 x2_111
            intro _
            exact hQ _ _ _ _
          apply And.intro
          · intro h60
            refine Exists.intro [9, 10, 11, 12, 7, 8] (Exists.intro [q2 0, q2 4] (Exists.intro ((wCo 0 _ _ _ ++ wLo 4 _ _)) (And.intro rfl (And.intro rfl (And.intro rfl (And.intro ⟨⟨_, rfl⟩, rfl⟩ (And.intro (Nat.le_of_ble_eq_true rfl) ?_)))))))
            refine Exists.intro _ (Exists.intro _ (Exists.intro _ (Exists.intro _ (Exists.intro _ (And.intro rfl (And.intro rfl (?_)))))))
            intro z120 x2_120
            intro _
            exact hQ _ _ _ _
          apply And.intro
          · intro h60
            refine Exists.intro [9, 10, 11, 12, 7, 8] (Exists.intro [q2 0, q2 4] (Exists.intro ((wCo 0 _ _ _ ++ wLo 4 _ _)) (And.intro rfl (And.intro rfl (And.intro rfl (And.intro ⟨⟨_, rfl⟩, rfl⟩ (And.intro (Nat.le_of_ble_eq_true rfl) ?_)))))))
            refine Exists.intro _ (Exists.intro _ (Exists.intro _ (Exists.intro _ (Exists.intro _ (And.intro rfl (And.intro rfl (?_)))))))
            intro z129 x2_129
            intro _
            exact hQ _ _ _ _
          exact trivial
        · intro h60
          exact hQ _ _ _ _
      · intro h41
        apply And.intro
        · intro h47
          apply And.intro
          · apply And.intro
            · intro h60
              exact hQ _ _ _ _
            apply And.intro
            · intro h60
              refine Exists.intro [9, 10, 11, 12, 8] (Exists.intro [q2 0, q2 4, q1 _, q1 _] (Exists.intro ((wCo 0 _ _ _ ++ [.inl (0, 8, .inl _)])) (And.intro rfl (And.intro rfl (And.intro rfl (And.intro ⟨⟨_, rfl⟩, rfl⟩ (And.intro (Nat.le_of_ble_eq_true rfl) ?_)))))))
              refine Exists.intro _ (Exists.intro _ (Exists.intro _ (Exists.intro _ (Exists.intro _ (Exists.intro _ (And.intro rfl (And.intro rfl (And.intro (by first | omega | assumption | exact q_rg_up (by assumption) (by omega) | exact q_rg_up (q_rg_up (by assumption) (by omega)) (by omega) | exact q_rg_cpy (by assumption) (by assumption)) (?_)))))))))
              intro z111 x2_111
              intro _
              exact hQ _ _ _ _
            apply And.intro
            · intro h60
              refine Exists.intro [9, 10, 11, 12, 7, 8] (Exists.intro [q2 0, q2 4] (Exists.intro ((wCo 0 _ _ _ ++ wLo 4 _ _)) (And.intro rfl (And.intro rfl (And.intro rfl (And.intro ⟨⟨_, rfl⟩, rfl⟩ (And.intro (Nat.le_of_ble_eq_true rfl) ?_)))))))
              refine Exists.intro _ (Exists.intro _ (Exists.intro _ (Exists.intro _ (Exists.intro _ (And.intro rfl (And.intro rfl (?_)))))))
              intro z120 x2_120
              intro _
              exact hQ _ _ _ _
            apply And.intro
            · intro h60
              refine Exists.intro [9, 10, 11, 12, 7, 8] (Exists.intro [q2 0, q2 4] (Exists.intro ((wCo 0 _ _ _ ++ wLo 4 _ _)) (And.intro rfl (And.intro rfl (And.intro rfl (And.intro ⟨⟨_, rfl⟩, rfl⟩ (And.intro (Nat.le_of_ble_eq_true rfl) ?_)))))))
              refine Exists.intro _ (Exists.intro _ (Exists.intro _ (Exists.intro _ (Exists.intro _ (And.intro rfl (And.intro rfl (?_)))))))
              intro z129 x2_129
              intro _
              exact hQ _ _ _ _
            exact trivial
          · intro h60
            exact hQ _ _ _ _
        · intro h47
          intro z54 h54
          first | replace h54 := e_sub h54 (by omega) | replace h54 := e_rng h54
          refine Exists.intro [7, 8] (Exists.intro [q2 0, q1 _] (Exists.intro ((wLo 0 _ _)) (And.intro rfl (And.intro rfl (And.intro rfl (And.intro ⟨⟨_, rfl⟩, rfl⟩ ?_))))))
          refine Exists.intro _ (Exists.intro _ (Exists.intro _ (And.intro rfl (And.intro rfl (?_)))))
          intro z55
          exact hQ _ _ _ _
    · intro h19
      apply And.intro
      · intro h25
        apply And.intro
        · intro h41
          apply And.intro
          · apply And.intro
            · intro h60
              exact hQ _ _ _ _
            apply And.intro
            · intro h60
              refine Exists.intro [9, 10, 11, 12, 8] (Exists.intro [q2 0, q2 4, q1 _, q1 _] (Exists.intro ((wCo 0 _ _ _ ++ [.inl (0, 8, .inl _)])) (And.intro rfl (And.intro rfl (And.intro rfl (And.intro ⟨⟨_, rfl⟩, rfl⟩ (And.intro (Nat.le_of_ble_eq_true rfl) ?_)))))))
              refine Exists.intro _ (Exists.intro _ (Exists.intro _ (Exists.intro _ (Exists.intro _ (Exists.intro _ (And.intro rfl (And.intro rfl (And.intro (by first | omega | assumption | exact q_rg_up (by assumption) (by omega) | exact q_rg_up (q_rg_up (by assumption) (by omega)) (by omega) | exact q_rg_cpy (by assumption) (by assumption)) (?_)))))))))
              intro z111 x2_111
              intro _
              exact hQ _ _ _ _
            apply And.intro
            · intro h60
              refine Exists.intro [9, 10, 11, 12, 7, 8] (Exists.intro [q2 0, q2 4] (Exists.intro ((wCo 0 _ _ _ ++ wLo 4 _ _)) (And.intro rfl (And.intro rfl (And.intro rfl (And.intro ⟨⟨_, rfl⟩, rfl⟩ (And.intro (Nat.le_of_ble_eq_true rfl) ?_)))))))
              refine Exists.intro _ (Exists.intro _ (Exists.intro _ (Exists.intro _ (Exists.intro _ (And.intro rfl (And.intro rfl (?_)))))))
              intro z120 x2_120
              intro _
              exact hQ _ _ _ _
            apply And.intro
            · intro h60
              refine Exists.intro [9, 10, 11, 12, 7, 8] (Exists.intro [q2 0, q2 4] (Exists.intro ((wCo 0 _ _ _ ++ wLo 4 _ _)) (And.intro rfl (And.intro rfl (And.intro rfl (And.intro ⟨⟨_, rfl⟩, rfl⟩ (And.intro (Nat.le_of_ble_eq_true rfl) ?_)))))))
              refine Exists.intro _ (Exists.intro _ (Exists.intro _ (Exists.intro _ (Exists.intro _ (And.intro rfl (And.intro rfl (?_)))))))
              intro z129 x2_129
              intro _
              exact hQ _ _ _ _
            exact trivial
          · intro h60
            exact hQ _ _ _ _
        · intro h41
          apply And.intro
          · intro h47
            apply And.intro
            · apply And.intro
              · intro h60
                exact hQ _ _ _ _
              apply And.intro
              · intro h60
                refine Exists.intro [9, 10, 11, 12, 8] (Exists.intro [q2 0, q2 4, q1 _, q1 _] (Exists.intro ((wCo 0 _ _ _ ++ [.inl (0, 8, .inl _)])) (And.intro rfl (And.intro rfl (And.intro rfl (And.intro ⟨⟨_, rfl⟩, rfl⟩ (And.intro (Nat.le_of_ble_eq_true rfl) ?_)))))))
                refine Exists.intro _ (Exists.intro _ (Exists.intro _ (Exists.intro _ (Exists.intro _ (Exists.intro _ (And.intro rfl (And.intro rfl (And.intro (by first | omega | assumption | exact q_rg_up (by assumption) (by omega) | exact q_rg_up (q_rg_up (by assumption) (by omega)) (by omega) | exact q_rg_cpy (by assumption) (by assumption)) (?_)))))))))
                intro z111 x2_111
                intro _
                exact hQ _ _ _ _
              apply And.intro
              · intro h60
                refine Exists.intro [9, 10, 11, 12, 7, 8] (Exists.intro [q2 0, q2 4] (Exists.intro ((wCo 0 _ _ _ ++ wLo 4 _ _)) (And.intro rfl (And.intro rfl (And.intro rfl (And.intro ⟨⟨_, rfl⟩, rfl⟩ (And.intro (Nat.le_of_ble_eq_true rfl) ?_)))))))
                refine Exists.intro _ (Exists.intro _ (Exists.intro _ (Exists.intro _ (Exists.intro _ (And.intro rfl (And.intro rfl (?_)))))))
                intro z120 x2_120
                intro _
                exact hQ _ _ _ _
              apply And.intro
              · intro h60
                refine Exists.intro [9, 10, 11, 12, 7, 8] (Exists.intro [q2 0, q2 4] (Exists.intro ((wCo 0 _ _ _ ++ wLo 4 _ _)) (And.intro rfl (And.intro rfl (And.intro rfl (And.intro ⟨⟨_, rfl⟩, rfl⟩ (And.intro (Nat.le_of_ble_eq_true rfl) ?_)))))))
                refine Exists.intro _ (Exists.intro _ (Exists.intro _ (Exists.intro _ (Exists.intro _ (And.intro rfl (And.intro rfl (?_)))))))
                intro z129 x2_129
                intro _
                exact hQ _ _ _ _
              exact trivial
            · intro h60
              exact hQ _ _ _ _
          · intro h47
            intro z54 h54
            first | replace h54 := e_sub h54 (by omega) | replace h54 := e_rng h54
            refine Exists.intro [7, 8] (Exists.intro [q2 0, q1 _] (Exists.intro ((wLo 0 _ _)) (And.intro rfl (And.intro rfl (And.intro rfl (And.intro ⟨⟨_, rfl⟩, rfl⟩ ?_))))))
            refine Exists.intro _ (Exists.intro _ (Exists.intro _ (And.intro rfl (And.intro rfl (?_)))))
            intro z55
            exact hQ _ _ _ _
      · intro h25
        intro z35 h35
        first | replace h35 := e_sub h35 (by omega) | replace h35 := e_rng h35
        apply And.intro
        · exact ⟨by omega, by omega⟩
        intro z36 h36
        exact hQ _ _ _ _

theorem dX11_drawn_0 : decode cX11_drawn 0 = .ok (.aload_n 0, 1) := by decide +kernel
theorem dX11_drawn_1 : decode cX11_drawn 1 = .ok (.getfield 10, 3) := by decide +kernel
theorem dX11_drawn_4 : decode cX11_drawn 4 = .ok (.iload_n 1, 1) := by decide +kernel
theorem dX11_drawn_5 : decode cX11_drawn 5 = .ok (.invokevirtual 94, 3) := by decide +kernel
theorem dX11_drawn_8 : decode cX11_drawn 8 = .ok (.astore 5, 2) := by decide +kernel
theorem dX11_drawn_10 : decode cX11_drawn 10 = .ok (.aload 5, 2) := by decide +kernel
theorem dX11_drawn_12 : decode cX11_drawn 12 = .ok (.ifnull 21, 3) := by decide +kernel
theorem dX11_drawn_15 : decode cX11_drawn 15 = .ok (.aload 5, 2) := by decide +kernel
theorem dX11_drawn_17 : decode cX11_drawn 17 = .ok (.getfield 240, 3) := by decide +kernel
theorem dX11_drawn_20 : decode cX11_drawn 20 = .ok (.ifCond .eq 13, 3) := by decide +kernel
theorem dX11_drawn_23 : decode cX11_drawn 23 = .ok (.iload_n 3, 1) := by decide +kernel
theorem dX11_drawn_24 : decode cX11_drawn 24 = .ok (.ifCond .lt 9, 3) := by decide +kernel
theorem dX11_drawn_27 : decode cX11_drawn 27 = .ok (.iload_n 3, 1) := by decide +kernel
theorem dX11_drawn_28 : decode cX11_drawn 28 = .ok (.bipush 60, 2) := by decide +kernel
theorem dX11_drawn_30 : decode cX11_drawn 30 = .ok (.if_icmp .le 6, 3) := by decide +kernel
theorem dX11_drawn_33 : decode cX11_drawn 33 = .ok (.bipush (-2), 2) := by decide +kernel
theorem dX11_drawn_35 : decode cX11_drawn 35 = .ok (.ireturn, 1) := by decide +kernel
theorem dX11_drawn_36 : decode cX11_drawn 36 = .ok (.aload_n 0, 1) := by decide +kernel
theorem dX11_drawn_37 : decode cX11_drawn 37 = .ok (.getfield 30, 3) := by decide +kernel
theorem dX11_drawn_40 : decode cX11_drawn 40 = .ok (.aload 5, 2) := by decide +kernel
theorem dX11_drawn_42 : decode cX11_drawn 42 = .ok (.iload_n 2, 1) := by decide +kernel
theorem dX11_drawn_43 : decode cX11_drawn 43 = .ok (.iload_n 3, 1) := by decide +kernel
theorem dX11_drawn_44 : decode cX11_drawn 44 = .ok (.invokevirtual 243, 3) := by decide +kernel
theorem dX11_drawn_47 : decode cX11_drawn 47 = .ok (.aload_n 0, 1) := by decide +kernel
theorem dX11_drawn_48 : decode cX11_drawn 48 = .ok (.getfield 30, 3) := by decide +kernel
theorem dX11_drawn_51 : decode cX11_drawn 51 = .ok (.aload 5, 2) := by decide +kernel
theorem dX11_drawn_53 : decode cX11_drawn 53 = .ok (.iload 4, 2) := by decide +kernel
theorem dX11_drawn_55 : decode cX11_drawn 55 = .ok (.invokevirtual 123, 3) := by decide +kernel
theorem dX11_drawn_58 : decode cX11_drawn 58 = .ok (.ireturn, 1) := by decide +kernel
def is_X11_drawn : Nat → List Nat := fun d => []
set_option maxRecDepth 100000 in
def b_X11_drawn_33 (J : Nat → List qV → List qV → qW → Prop) (Q : qR) : qK := x_int (-2) (x_iret Q)
set_option maxRecDepth 100000 in
theorem s_X11_drawn_33 {p : Program} {l : Launch} {e : Env} {R : Room} {s : State} {m : MethodId} {args : Array Value} {below : List Frame} {meth : Method} {c : Code} {nW : Nat} {dC : Nat → ClassId} {dI : Nat → Nat → Nat} {k : Nat → ClassId} {g : Nat → Nat} {A : Nat → Prop} {J : Nat → List qV → List qV → qW → Prop} {Q : qR} (X : q_X p R s m args meth c cX11_drawn 6 nW 4 116 RX11 (some .int) dC dI k g A) (hJ : ∀ d : Nat, q_Sd p l e R s m args below meth c 6 nW dC dI k g A (MQ below (q_post (dC, dI) k g nW Q A) args s 0 0 A) d (x_cut (is_X11_drawn d) (J d))) : q_Sd p l e R s m args below meth c 6 nW dC dI k g A (MQ below (q_post (dC, dI) k g nW Q A) args s 0 0 A) 33 (b_X11_drawn_33 J Q) := by
  unfold b_X11_drawn_33
  refine s_bipush X ⟨by decide, by decide⟩ (by decide) dX11_drawn_33 ?_
  exact s_iret X dX11_drawn_35
set_option maxRecDepth 100000 in
def b_X11_drawn_0 (J : Nat → List qV → List qV → qW → Prop) (Q : qR) : qK := x_aload 0 (x_get 11 0 (x_iload 1 (x_callr (some 8) 2 spr_X8_boroughAt (x_astore 5 (x_aload 5 (x_ifnull (b_X11_drawn_33 J Q) (x_aload 5 (x_get 0 7 (x_if_eq (b_X11_drawn_33 J Q) (x_iload 3 (x_if_lt (b_X11_drawn_33 J Q) (x_iload 3 (x_int 60 (x_icmp_le (x_aload 0 (x_get 11 3 (x_aload 5 (x_iload 2 (x_iload 3 (x_callm (some 9) 4 4 spm_X9_draw (x_nw (x_aload 0 (x_get 11 3 (x_aload 5 (x_iload 4 (x_callr (some 9) 3 spr_X9_look (x_iret Q))))))))))))) (b_X11_drawn_33 J Q)))))))))))))))
set_option maxRecDepth 100000 in
theorem s_X11_drawn_0 {p : Program} {l : Launch} {e : Env} {R : Room} {s : State} {m : MethodId} {args : Array Value} {below : List Frame} {meth : Method} {c : Code} {nW : Nat} {dC : Nat → ClassId} {dI : Nat → Nat → Nat} {k : Nat → ClassId} {g : Nat → Nat} {A : Nat → Prop} {J : Nat → List qV → List qV → qW → Prop} {Q : qR} (X : q_X p R s m args meth c cX11_drawn 6 nW 4 116 RX11 (some .int) dC dI k g A) (hJ : ∀ d : Nat, q_Sd p l e R s m args below meth c 6 nW dC dI k g A (MQ below (q_post (dC, dI) k g nW Q A) args s 0 0 A) d (x_cut (is_X11_drawn d) (J d))) : q_Sd p l e R s m args below meth c 6 nW dC dI k g A (MQ below (q_post (dC, dI) k g nW Q A) args s 0 0 A) 0 (b_X11_drawn_0 J Q) := by
  unfold b_X11_drawn_0
  refine s_aload_n X rfl dX11_drawn_0 ?_
  refine s_get X (T := TX11) (C := RX11) (N := 8) tu_X11 rfl (by decide) tw_326 dX11_drawn_1 ?_
  refine s_iload_n X rfl dX11_drawn_4 ?_
  refine s_callVr X (m_X8_boroughAt l) tw_541 tw_542 tw_543 tw_121 tw_544 rfl (by decide +kernel) ⟨by decide, by decide⟩ dX11_drawn_5 ?_
  refine s_astore X (by decide) dX11_drawn_8 ?_
  refine s_aload X dX11_drawn_10 ?_
  refine s_ifnull X (tgt := 33) dX11_drawn_12 (by decide) ?_ ?_
  · exact s_X11_drawn_33 X hJ
  · refine s_aload X dX11_drawn_15 ?_
    refine s_get X (T := TX0) (C := RX0) (N := 12) tu_X0 rfl (by decide) tw_197 dX11_drawn_17 ?_
    refine s_if_eq X (tgt := 33) dX11_drawn_20 (by decide) ?_ ?_
    · exact s_X11_drawn_33 X hJ
    · refine s_iload_n X rfl dX11_drawn_23 ?_
      refine s_if_lt X (tgt := 33) dX11_drawn_24 (by decide) ?_ ?_
      · exact s_X11_drawn_33 X hJ
      · refine s_iload_n X rfl dX11_drawn_27 ?_
        refine s_bipush X ⟨by decide, by decide⟩ (by decide) dX11_drawn_28 ?_
        refine s_icmp_le X (tgt := 36) dX11_drawn_30 (by decide) ?_ ?_
        · refine s_aload_n X rfl dX11_drawn_36 ?_
          refine s_get X (T := TX11) (C := RX11) (N := 8) tu_X11 rfl (by decide) tw_329 dX11_drawn_37 ?_
          refine s_aload X dX11_drawn_40 ?_
          refine s_iload_n X rfl dX11_drawn_42 ?_
          refine s_iload_n X rfl dX11_drawn_43 ?_
          refine s_callVm X (mm_X9_draw l) mq_X9_draw tw_878 tw_879 tw_880 tw_129 tw_881 rfl (by decide +kernel) ⟨by decide, by decide⟩ dX11_drawn_44 ?_
          refine s_nw ?_
          refine s_aload_n X rfl dX11_drawn_47 ?_
          refine s_get X (T := TX11) (C := RX11) (N := 8) tu_X11 rfl (by decide) tw_329 dX11_drawn_48 ?_
          refine s_aload X dX11_drawn_51 ?_
          refine s_iload X dX11_drawn_53 ?_
          refine s_callVr X (m_X9_look l) tw_608 tw_609 tw_610 tw_129 tw_611 rfl (by decide +kernel) ⟨by decide, by decide⟩ dX11_drawn_55 ?_
          exact s_iret X dX11_drawn_58
        · exact s_X11_drawn_33 X hJ

def sp_X11_drawn : qS := fun av w Q => ∃ (tp : Nat → Int) (ct : Nat → Int) (ln : Int) (fa : Int) (pl : Int) (b0f1 : Nat → Int) (b0f2 : Nat → Int) (b0f3 : Nat → Int) (b0f4 : Nat → Int) (b0f5 : Nat → Int) (b0f6 : Nat → Int) (b0f7 : Nat → Int) (b0u0 : Int) (b0u1 : Int) (b0u2 : Int) (b0u3 : Int) (b0u4 : Int) (b1f1 : Nat → Int) (b1f2 : Nat → Int) (b1f3 : Nat → Int) (b1f4 : Nat → Int) (b1f5 : Nat → Int) (b1f6 : Nat → Int) (b1f7 : Nat → Int) (b1u0 : Int) (b1u1 : Int) (b1u2 : Int) (b1u3 : Int) (b1u4 : Int) (wkh1 : Nat → Int) (wkh2 : Nat → Int) (wkh3 : Nat → Int) (wkp : Int) (wks : Int) (a : Int) (b : Int) (cc : Int) (dd : Int), av = [q2 0, q1 a, q1 b, q1 cc, q1 dd] ∧ w = [.inr (11, [q2 1, q2 25, q2 26, q2 21, q2 27, q2 28, q2 29, q2 30]), .inr (8, [q2 2, q2 3, q2 4, q2 31, q2 32, q2 33, q1 ln, q1 fa, q1 pl]), .inl (1, 600, .inl tp), .inl (0, 4, .inl ct), .inl (4, 2, .inr (.inr [some 5, some 13])), .inr (0, [q2 6, q2 7, q2 8, q2 9, q2 10, q2 11, q2 12, q1 b0u0, q1 b0u1, q1 b0u2, q1 b0u3, q1 b0u4]), .inl (0, 8, .inl b0f1), .inl (0, 8, .inl b0f2), .inl (0, 4, .inl b0f3), .inl (0, 32, .inl b0f4), .inl (0, 6, .inl b0f5), .inl (0, 6, .inl b0f6), .inl (0, 6, .inl b0f7), .inr (0, [q2 14, q2 15, q2 16, q2 17, q2 18, q2 19, q2 20, q1 b1u0, q1 b1u1, q1 b1u2, q1 b1u3, q1 b1u4]), .inl (0, 8, .inl b1f1), .inl (0, 8, .inl b1f2), .inl (0, 4, .inl b1f3), .inl (0, 32, .inl b1f4), .inl (0, 6, .inl b1f5), .inl (0, 6, .inl b1f6), .inl (0, 6, .inl b1f7), .inr (9, [q2 22, q2 23, q2 24, q1 wkp, q1 wks]), .inl (0, 8, .inl wkh1), .inl (0, 512, .inl wkh2), .inl (0, 512, .inl wkh3)] ∧ (q_rg 0 2 ct) ∧ (0 ≤ ln ∧ ln ≤ 600) ∧ (0 ≤ b0u0 ∧ b0u0 ≤ 8 ∧ 0 ≤ b0u3 ∧ b0u3 ≤ 6 ∧ 0 ≤ b0u4 ∧ b0u4 ≤ 6) ∧ (q_rg 0 9 b0f3) ∧ (0 ≤ b1u0 ∧ b1u0 ≤ 8 ∧ 0 ≤ b1u3 ∧ b1u3 ≤ 6 ∧ 0 ≤ b1u4 ∧ b1u4 ≤ 6) ∧ (q_rg 0 9 b1f3) ∧ (∀ (r : Int) (x_wkh1 : Nat → Int) (x_wkh2 : Nat → Int) (x_wkh3 : Nat → Int) (x_wkp : Int) (x_wks : Int), Q (some (q1 r)) ([.inr (11, [q2 1, q2 25, q2 26, q2 21, q2 27, q2 28, q2 29, q2 30]), .inr (8, [q2 2, q2 3, q2 4, q2 31, q2 32, q2 33, q1 ln, q1 fa, q1 pl]), .inl (1, 600, .inl tp), .inl (0, 4, .inl ct), .inl (4, 2, .inr (.inr [some 5, some 13])), .inr (0, [q2 6, q2 7, q2 8, q2 9, q2 10, q2 11, q2 12, q1 b0u0, q1 b0u1, q1 b0u2, q1 b0u3, q1 b0u4]), .inl (0, 8, .inl b0f1), .inl (0, 8, .inl b0f2), .inl (0, 4, .inl b0f3), .inl (0, 32, .inl b0f4), .inl (0, 6, .inl b0f5), .inl (0, 6, .inl b0f6), .inl (0, 6, .inl b0f7), .inr (0, [q2 14, q2 15, q2 16, q2 17, q2 18, q2 19, q2 20, q1 b1u0, q1 b1u1, q1 b1u2, q1 b1u3, q1 b1u4]), .inl (0, 8, .inl b1f1), .inl (0, 8, .inl b1f2), .inl (0, 4, .inl b1f3), .inl (0, 32, .inl b1f4), .inl (0, 6, .inl b1f5), .inl (0, 6, .inl b1f6), .inl (0, 6, .inl b1f7), .inr (9, [q2 22, q2 23, q2 24, q1 x_wkp, q1 x_wks]), .inl (0, 8, .inl x_wkh1), .inl (0, 512, .inl x_wkh2), .inl (0, 512, .inl x_wkh3)]))
set_option maxHeartbeats 4000000 in
set_option maxRecDepth 100000 in
theorem m_X11_drawn (l : Launch) : q_M l yX11_drawn cX11_drawn 6 (some .int) 4 116 sp_X11_drawn := by
  refine q_meth (by decide) (fun av w Q h => by obtain ⟨tp, ct, ln, fa, pl, b0f1, b0f2, b0f3, b0f4, b0f5, b0f6, b0f7, b0u0, b0u1, b0u2, b0u3, b0u4, b1f1, b1f2, b1f3, b1f4, b1f5, b1f6, b1f7, b1u0, b1u1, b1u2, b1u3, b1u4, wkh1, wkh2, wkh3, wkp, wks, a, b, cc, dd, rfl, rfl, hct, hln, hb0, hf0, hb1, hf1, hQ⟩ := h; exact Nat.le_of_ble_eq_true rfl) ?_
  intro p e R s m args below meth c dC dI k g A av w Q hsp oka okw X
  obtain ⟨tp, ct, ln, fa, pl, b0f1, b0f2, b0f3, b0f4, b0f5, b0f6, b0f7, b0u0, b0u1, b0u2, b0u3, b0u4, b1f1, b1f2, b1f3, b1f4, b1f5, b1f6, b1f7, b1u0, b1u1, b1u2, b1u3, b1u4, wkh1, wkh2, wkh3, wkp, wks, a, b, cc, dd, rfl, rfl, hct, hln, hb0, hf0, hb1, hf1, hQ⟩ := hsp
  have o_a : -2147483648 ≤ a ∧ a ≤ 2147483647 := oka _ (List.mem_of_getElem? (i := 1) rfl)
  have o_b : -2147483648 ≤ b ∧ b ≤ 2147483647 := oka _ (List.mem_of_getElem? (i := 2) rfl)
  have o_cc : -2147483648 ≤ cc ∧ cc ≤ 2147483647 := oka _ (List.mem_of_getElem? (i := 3) rfl)
  have o_dd : -2147483648 ≤ dd ∧ dd ≤ 2147483647 := oka _ (List.mem_of_getElem? (i := 4) rfl)
  refine s_mono (s_X11_drawn_0 X (J := fun _ _ _ _ => False) (fun d => s_cutF)) ?_
  rintro lv st w' ⟨rfl, rfl, rfl⟩
  refine Exists.intro [1, 2, 3, 4, 31, 32, 33, 5, 13] (Exists.intro [q2 0, q1 _] (Exists.intro ((wT4_0 _ _ _ _ _)) (And.intro rfl (And.intro rfl (And.intro rfl (And.intro ⟨⟨_, rfl⟩, rfl⟩ ?_))))))
  refine Exists.intro _ (Exists.intro _ (Exists.intro _ (Exists.intro _ (Exists.intro _ (Exists.intro _ (And.intro rfl (And.intro rfl (?_))))))))
  intro z5 h5
  rcases h5 with rfl | ⟨rfl, rfl⟩ | ⟨rfl, rfl⟩
  · exact hQ _ _ _ _ _ _
  · apply And.intro
    · intro h20
      exact hQ _ _ _ _ _ _
    · intro h20
      apply And.intro
      · intro h24
        exact hQ _ _ _ _ _ _
      · intro h24
        apply And.intro
        · intro h30
          refine Exists.intro [21, 22, 23, 24, 5, 6, 7, 8, 9, 10, 11, 12] (Exists.intro [q2 0, q2 4, q1 _, q1 _] (Exists.intro ((wKo 0 _ _ _ _ _ ++ wBo 4 _ _ _ _ _ _ _ _ _ _ _ _)) (And.intro rfl (And.intro rfl (And.intro rfl (And.intro ⟨⟨_, rfl⟩, rfl⟩ (And.intro (Nat.le_of_ble_eq_true rfl) ?_)))))))
          refine Exists.intro _ (Exists.intro _ (Exists.intro _ (Exists.intro _ (Exists.intro _ (Exists.intro _ (Exists.intro _ (Exists.intro _ (Exists.intro _ (Exists.intro _ (Exists.intro _ (Exists.intro _ (Exists.intro _ (Exists.intro _ (Exists.intro _ (Exists.intro _ (Exists.intro _ (Exists.intro _ (Exists.intro _ (And.intro rfl (And.intro rfl (And.intro (by first | omega | assumption | exact q_rg_up (by assumption) (by omega) | exact q_rg_up (q_rg_up (by assumption) (by omega)) (by omega) | exact q_rg_cpy (by assumption) (by assumption)) (?_))))))))))))))))))))))
          intro x1_44 x2_44 x3_44 x4_44 x5_44
          intro _
          refine Exists.intro [21, 22, 23, 24, 5, 6, 7, 8, 9, 10, 11, 12] (Exists.intro [q2 0, q2 4, q1 _] (Exists.intro ((wKo 0 _ _ _ _ _ ++ wBo 4 _ _ _ _ _ _ _ _ _ _ _ _)) (And.intro rfl (And.intro rfl (And.intro rfl (And.intro ⟨⟨_, rfl⟩, rfl⟩ ?_))))))
          refine Exists.intro _ (Exists.intro _ (Exists.intro _ (Exists.intro _ (Exists.intro _ (Exists.intro _ (Exists.intro _ (Exists.intro _ (Exists.intro _ (Exists.intro _ (Exists.intro _ (Exists.intro _ (Exists.intro _ (Exists.intro _ (Exists.intro _ (Exists.intro _ (Exists.intro _ (Exists.intro _ (And.intro rfl (And.intro rfl (And.intro (by first | omega | assumption | exact q_rg_up (by assumption) (by omega) | exact q_rg_up (q_rg_up (by assumption) (by omega)) (by omega) | exact q_rg_cpy (by assumption) (by assumption)) (?_)))))))))))))))))))))
          intro z55
          exact hQ _ _ _ _ _ _
        · intro h30
          exact hQ _ _ _ _ _ _
  · apply And.intro
    · intro h20
      exact hQ _ _ _ _ _ _
    · intro h20
      apply And.intro
      · intro h24
        exact hQ _ _ _ _ _ _
      · intro h24
        apply And.intro
        · intro h30
          refine Exists.intro [21, 22, 23, 24, 13, 14, 15, 16, 17, 18, 19, 20] (Exists.intro [q2 0, q2 4, q1 _, q1 _] (Exists.intro ((wKo 0 _ _ _ _ _ ++ wBo 4 _ _ _ _ _ _ _ _ _ _ _ _)) (And.intro rfl (And.intro rfl (And.intro rfl (And.intro ⟨⟨_, rfl⟩, rfl⟩ (And.intro (Nat.le_of_ble_eq_true rfl) ?_)))))))
          refine Exists.intro _ (Exists.intro _ (Exists.intro _ (Exists.intro _ (Exists.intro _ (Exists.intro _ (Exists.intro _ (Exists.intro _ (Exists.intro _ (Exists.intro _ (Exists.intro _ (Exists.intro _ (Exists.intro _ (Exists.intro _ (Exists.intro _ (Exists.intro _ (Exists.intro _ (Exists.intro _ (Exists.intro _ (And.intro rfl (And.intro rfl (And.intro (by first | omega | assumption | exact q_rg_up (by assumption) (by omega) | exact q_rg_up (q_rg_up (by assumption) (by omega)) (by omega) | exact q_rg_cpy (by assumption) (by assumption)) (?_))))))))))))))))))))))
          intro x1_44 x2_44 x3_44 x4_44 x5_44
          intro _
          refine Exists.intro [21, 22, 23, 24, 13, 14, 15, 16, 17, 18, 19, 20] (Exists.intro [q2 0, q2 4, q1 _] (Exists.intro ((wKo 0 _ _ _ _ _ ++ wBo 4 _ _ _ _ _ _ _ _ _ _ _ _)) (And.intro rfl (And.intro rfl (And.intro rfl (And.intro ⟨⟨_, rfl⟩, rfl⟩ ?_))))))
          refine Exists.intro _ (Exists.intro _ (Exists.intro _ (Exists.intro _ (Exists.intro _ (Exists.intro _ (Exists.intro _ (Exists.intro _ (Exists.intro _ (Exists.intro _ (Exists.intro _ (Exists.intro _ (Exists.intro _ (Exists.intro _ (Exists.intro _ (Exists.intro _ (Exists.intro _ (Exists.intro _ (And.intro rfl (And.intro rfl (And.intro (by first | omega | assumption | exact q_rg_up (by assumption) (by omega) | exact q_rg_up (q_rg_up (by assumption) (by omega)) (by omega) | exact q_rg_cpy (by assumption) (by assumption)) (?_)))))))))))))))))))))
          intro z55
          exact hQ _ _ _ _ _ _
        · intro h30
          exact hQ _ _ _ _ _ _
