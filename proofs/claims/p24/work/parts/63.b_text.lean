theorem dX12_text_0 : decode cX12_text 0 = .ok (.aload_n 0, 1) := by decide +kernel
theorem dX12_text_1 : decode cX12_text 1 = .ok (.iconst 0, 1) := by decide +kernel
theorem dX12_text_2 : decode cX12_text 2 = .ok (.putfield 88, 3) := by decide +kernel
theorem dX12_text_5 : decode cX12_text 5 = .ok (.aload_n 0, 1) := by decide +kernel
theorem dX12_text_6 : decode cX12_text 6 = .ok (.aload_n 0, 1) := by decide +kernel
theorem dX12_text_7 : decode cX12_text 7 = .ok (.getfield 13, 3) := by decide +kernel
theorem dX12_text_10 : decode cX12_text 10 = .ok (.iconst 0, 1) := by decide +kernel
theorem dX12_text_11 : decode cX12_text 11 = .ok (.iaload, 1) := by decide +kernel
theorem dX12_text_12 : decode cX12_text 12 = .ok (.putfield 111, 3) := by decide +kernel
theorem dX12_text_15 : decode cX12_text 15 = .ok (.aload_n 0, 1) := by decide +kernel
theorem dX12_text_16 : decode cX12_text 16 = .ok (.getfield 13, 3) := by decide +kernel
theorem dX12_text_19 : decode cX12_text 19 = .ok (.iconst 0, 1) := by decide +kernel
theorem dX12_text_20 : decode cX12_text 20 = .ok (.iconst 0, 1) := by decide +kernel
theorem dX12_text_21 : decode cX12_text 21 = .ok (.iastore, 1) := by decide +kernel
theorem dX12_text_22 : decode cX12_text 22 = .ok (.aload_n 0, 1) := by decide +kernel
theorem dX12_text_23 : decode cX12_text 23 = .ok (.getfield 17, 3) := by decide +kernel
theorem dX12_text_26 : decode cX12_text 26 = .ok (.iconst 0, 1) := by decide +kernel
theorem dX12_text_27 : decode cX12_text 27 = .ok (.iconst 0, 1) := by decide +kernel
theorem dX12_text_28 : decode cX12_text 28 = .ok (.iastore, 1) := by decide +kernel
theorem dX12_text_29 : decode cX12_text 29 = .ok (.aload_n 0, 1) := by decide +kernel
theorem dX12_text_30 : decode cX12_text 30 = .ok (.getfield 20, 3) := by decide +kernel
theorem dX12_text_33 : decode cX12_text 33 = .ok (.iconst 0, 1) := by decide +kernel
theorem dX12_text_34 : decode cX12_text 34 = .ok (.iconst (-1), 1) := by decide +kernel
theorem dX12_text_35 : decode cX12_text 35 = .ok (.iastore, 1) := by decide +kernel
theorem dX12_text_36 : decode cX12_text 36 = .ok (.iload_n 1, 1) := by decide +kernel
theorem dX12_text_37 : decode cX12_text 37 = .ok (.iconst 0, 1) := by decide +kernel
theorem dX12_text_38 : decode cX12_text 38 = .ok (.iconst 3, 1) := by decide +kernel
theorem dX12_text_39 : decode cX12_text 39 = .ok (.invokestatic 100, 3) := by decide +kernel
theorem dX12_text_42 : decode cX12_text 42 = .ok (.ifCond .eq 30, 3) := by decide +kernel
theorem dX12_text_45 : decode cX12_text 45 = .ok (.iload_n 2, 1) := by decide +kernel
theorem dX12_text_46 : decode cX12_text 46 = .ok (.iconst (-1), 1) := by decide +kernel
theorem dX12_text_47 : decode cX12_text 47 = .ok (.if_icmp .ne 16, 3) := by decide +kernel
theorem dX12_text_50 : decode cX12_text 50 = .ok (.aload_n 0, 1) := by decide +kernel
theorem dX12_text_51 : decode cX12_text 51 = .ok (.getfield 23, 3) := by decide +kernel
theorem dX12_text_54 : decode cX12_text 54 = .ok (.iload_n 1, 1) := by decide +kernel
theorem dX12_text_55 : decode cX12_text 55 = .ok (.iaload, 1) := by decide +kernel
theorem dX12_text_56 : decode cX12_text 56 = .ok (.iconst 2, 1) := by decide +kernel
theorem dX12_text_57 : decode cX12_text 57 = .ok (.if_icmp .ne 18, 3) := by decide +kernel
theorem dX12_text_60 : decode cX12_text 60 = .ok (.goto 12, 3) := by decide +kernel
theorem dX12_text_63 : decode cX12_text 63 = .ok (.aload_n 0, 1) := by decide +kernel
theorem dX12_text_64 : decode cX12_text 64 = .ok (.iload_n 1, 1) := by decide +kernel
theorem dX12_text_65 : decode cX12_text 65 = .ok (.iload_n 2, 1) := by decide +kernel
theorem dX12_text_66 : decode cX12_text 66 = .ok (.invokevirtual 287, 3) := by decide +kernel
theorem dX12_text_69 : decode cX12_text 69 = .ok (.ifCond .ne 6, 3) := by decide +kernel
theorem dX12_text_72 : decode cX12_text 72 = .ok (.bipush (-2), 2) := by decide +kernel
theorem dX12_text_74 : decode cX12_text 74 = .ok (.ireturn, 1) := by decide +kernel
theorem dX12_text_75 : decode cX12_text 75 = .ok (.aload_n 0, 1) := by decide +kernel
theorem dX12_text_76 : decode cX12_text 76 = .ok (.iload_n 1, 1) := by decide +kernel
theorem dX12_text_77 : decode cX12_text 77 = .ok (.invokevirtual 290, 3) := by decide +kernel
theorem dX12_text_80 : decode cX12_text 80 = .ok (.ifCond .ne 5, 3) := by decide +kernel
theorem dX12_text_83 : decode cX12_text 83 = .ok (.iconst (-1), 1) := by decide +kernel
theorem dX12_text_84 : decode cX12_text 84 = .ok (.ireturn, 1) := by decide +kernel
theorem dX12_text_85 : decode cX12_text 85 = .ok (.iload_n 2, 1) := by decide +kernel
theorem dX12_text_86 : decode cX12_text 86 = .ok (.iconst (-1), 1) := by decide +kernel
theorem dX12_text_87 : decode cX12_text 87 = .ok (.if_icmp .ne 12, 3) := by decide +kernel
theorem dX12_text_90 : decode cX12_text 90 = .ok (.aload_n 0, 1) := by decide +kernel
theorem dX12_text_91 : decode cX12_text 91 = .ok (.getfield 23, 3) := by decide +kernel
theorem dX12_text_94 : decode cX12_text 94 = .ok (.iload_n 1, 1) := by decide +kernel
theorem dX12_text_95 : decode cX12_text 95 = .ok (.iaload, 1) := by decide +kernel
theorem dX12_text_96 : decode cX12_text 96 = .ok (.goto 4, 3) := by decide +kernel
theorem dX12_text_99 : decode cX12_text 99 = .ok (.iload_n 2, 1) := by decide +kernel
theorem dX12_text_100 : decode cX12_text 100 = .ok (.istore_n 3, 1) := by decide +kernel
theorem dX12_text_101 : decode cX12_text 101 = .ok (.aload_n 0, 1) := by decide +kernel
theorem dX12_text_102 : decode cX12_text 102 = .ok (.getfield 23, 3) := by decide +kernel
theorem dX12_text_105 : decode cX12_text 105 = .ok (.iload_n 1, 1) := by decide +kernel
theorem dX12_text_106 : decode cX12_text 106 = .ok (.dup2, 1) := by decide +kernel
theorem dX12_text_107 : decode cX12_text 107 = .ok (.iaload, 1) := by decide +kernel
theorem dX12_text_108 : decode cX12_text 108 = .ok (.iload_n 2, 1) := by decide +kernel
theorem dX12_text_109 : decode cX12_text 109 = .ok (.iconst (-1), 1) := by decide +kernel
theorem dX12_text_110 : decode cX12_text 110 = .ok (.if_icmp .ne 7, 3) := by decide +kernel
theorem dX12_text_113 : decode cX12_text 113 = .ok (.iconst 1, 1) := by decide +kernel
theorem dX12_text_114 : decode cX12_text 114 = .ok (.goto 4, 3) := by decide +kernel
theorem dX12_text_117 : decode cX12_text 117 = .ok (.iconst 0, 1) := by decide +kernel
theorem dX12_text_118 : decode cX12_text 118 = .ok (.iadd, 1) := by decide +kernel
theorem dX12_text_119 : decode cX12_text 119 = .ok (.iastore, 1) := by decide +kernel
theorem dX12_text_120 : decode cX12_text 120 = .ok (.aload_n 0, 1) := by decide +kernel
theorem dX12_text_121 : decode cX12_text 121 = .ok (.iload_n 1, 1) := by decide +kernel
theorem dX12_text_122 : decode cX12_text 122 = .ok (.iload_n 3, 1) := by decide +kernel
theorem dX12_text_123 : decode cX12_text 123 = .ok (.invokevirtual 293, 3) := by decide +kernel
theorem dX12_text_126 : decode cX12_text 126 = .ok (.iload_n 3, 1) := by decide +kernel
theorem dX12_text_127 : decode cX12_text 127 = .ok (.ireturn, 1) := by decide +kernel
def is_X12_text : Nat → List Nat := fun d => if d = 75 then [0, 1, 2] else []
set_option maxRecDepth 100000 in
def b_X12_text_118 (J : Nat → List qV → List qV → qW → Prop) (Q : qR) : qK := x_iadd (x_iast (x_nw (x_aload 0 (x_iload 1 (x_iload 3 (x_call (some 12) 3 sp_X12_storeAll (x_nw (x_iload 3 (x_iret Q)))))))))
set_option maxRecDepth 100000 in
theorem s_X12_text_118 {p : Program} {l : Launch} {e : Env} {R : Room} {s : State} {m : MethodId} {args : Array Value} {below : List Frame} {meth : Method} {c : Code} {nW : Nat} {dC : Nat → ClassId} {dI : Nat → Nat → Nat} {k : Nat → ClassId} {g : Nat → Nat} {A : Nat → Prop} {J : Nat → List qV → List qV → qW → Prop} {Q : qR} (X : q_X p R s m args meth c cX12_text 4 nW 9 208 RX12 (some .int) dC dI k g A) (hJ : ∀ d : Nat, q_Sd p l e R s m args below meth c 4 nW dC dI k g A (MQ below (q_post (dC, dI) k g nW Q A) args s 0 0 A) d (x_cut (is_X12_text d) (J d))) : q_Sd p l e R s m args below meth c 4 nW dC dI k g A (MQ below (q_post (dC, dI) k g nW Q A) args s 0 0 A) 118 (b_X12_text_118 J Q) := by
  unfold b_X12_text_118
  refine s_iadd X dX12_text_118 ?_
  refine s_iast X dX12_text_119 ?_
  refine s_nw ?_
  refine s_aload_n X rfl dX12_text_120 ?_
  refine s_iload_n X rfl dX12_text_121 ?_
  refine s_iload_n X rfl dX12_text_122 ?_
  refine s_callV X (m_X12_storeAll l) tw_1172 tw_1173 tw_1618 tw_134 tw_1174 rfl (by decide +kernel) ⟨by decide, by decide⟩ dX12_text_123 ?_
  refine s_nw ?_
  refine s_iload_n X rfl dX12_text_126 ?_
  exact s_iret X dX12_text_127
set_option maxRecDepth 100000 in
def b_X12_text_100 (J : Nat → List qV → List qV → qW → Prop) (Q : qR) : qK := x_istore 3 (x_aload 0 (x_get 12 5 (x_iload 1 (x_dup2 (x_iald (x_iload 2 (x_int (-1) (x_icmp_ne (x_int 0 (b_X12_text_118 J Q)) (x_int 1 (b_X12_text_118 J Q))))))))))
set_option maxRecDepth 100000 in
theorem s_X12_text_100 {p : Program} {l : Launch} {e : Env} {R : Room} {s : State} {m : MethodId} {args : Array Value} {below : List Frame} {meth : Method} {c : Code} {nW : Nat} {dC : Nat → ClassId} {dI : Nat → Nat → Nat} {k : Nat → ClassId} {g : Nat → Nat} {A : Nat → Prop} {J : Nat → List qV → List qV → qW → Prop} {Q : qR} (X : q_X p R s m args meth c cX12_text 4 nW 9 208 RX12 (some .int) dC dI k g A) (hJ : ∀ d : Nat, q_Sd p l e R s m args below meth c 4 nW dC dI k g A (MQ below (q_post (dC, dI) k g nW Q A) args s 0 0 A) d (x_cut (is_X12_text d) (J d))) : q_Sd p l e R s m args below meth c 4 nW dC dI k g A (MQ below (q_post (dC, dI) k g nW Q A) args s 0 0 A) 100 (b_X12_text_100 J Q) := by
  unfold b_X12_text_100
  refine s_istore_n X rfl (by decide) dX12_text_100 ?_
  refine s_aload_n X rfl dX12_text_101 ?_
  refine s_get X (T := TX12) (C := RX12) (N := 45) tu_X12 rfl (by decide) tw_1002 dX12_text_102 ?_
  refine s_iload_n X rfl dX12_text_105 ?_
  refine s_dup2 X dX12_text_106 ?_
  refine s_iald X dX12_text_107 ?_
  refine s_iload_n X rfl dX12_text_108 ?_
  refine s_iconst X ⟨by decide, by decide⟩ dX12_text_109 ?_
  refine s_icmp_ne X (tgt := 117) dX12_text_110 (by decide) ?_ ?_
  · refine s_iconst X ⟨by decide, by decide⟩ dX12_text_117 ?_
    exact s_X12_text_118 X hJ
  · refine s_iconst X ⟨by decide, by decide⟩ dX12_text_113 ?_
    refine s_goto X (tgt := 118) dX12_text_114 (by decide) ?_
    exact s_X12_text_118 X hJ
set_option maxRecDepth 100000 in
def b_X12_text_75 (J : Nat → List qV → List qV → qW → Prop) (Q : qR) : qK := x_aload 0 (x_iload 1 (x_call (some 12) 2 sp_X12_readText (x_nw (x_if_ne (x_iload 2 (x_int (-1) (x_icmp_ne (x_iload 2 (b_X12_text_100 J Q)) (x_aload 0 (x_get 12 5 (x_iload 1 (x_iald (b_X12_text_100 J Q)))))))) (x_int (-1) (x_iret Q))))))
set_option maxRecDepth 100000 in
theorem s_X12_text_75 {p : Program} {l : Launch} {e : Env} {R : Room} {s : State} {m : MethodId} {args : Array Value} {below : List Frame} {meth : Method} {c : Code} {nW : Nat} {dC : Nat → ClassId} {dI : Nat → Nat → Nat} {k : Nat → ClassId} {g : Nat → Nat} {A : Nat → Prop} {J : Nat → List qV → List qV → qW → Prop} {Q : qR} (X : q_X p R s m args meth c cX12_text 4 nW 9 208 RX12 (some .int) dC dI k g A) (hJ : ∀ d : Nat, q_Sd p l e R s m args below meth c 4 nW dC dI k g A (MQ below (q_post (dC, dI) k g nW Q A) args s 0 0 A) d (x_cut (is_X12_text d) (J d))) : q_Sd p l e R s m args below meth c 4 nW dC dI k g A (MQ below (q_post (dC, dI) k g nW Q A) args s 0 0 A) 75 (b_X12_text_75 J Q) := by
  unfold b_X12_text_75
  refine s_aload_n X rfl dX12_text_75 ?_
  refine s_iload_n X rfl dX12_text_76 ?_
  refine s_callV X (m_X12_readText l) tw_1064 tw_1065 tw_1612 tw_134 tw_1066 rfl (by decide +kernel) ⟨by decide, by decide⟩ dX12_text_77 ?_
  refine s_nw ?_
  refine s_if_ne X (tgt := 85) dX12_text_80 (by decide) ?_ ?_
  · refine s_iload_n X rfl dX12_text_85 ?_
    refine s_iconst X ⟨by decide, by decide⟩ dX12_text_86 ?_
    refine s_icmp_ne X (tgt := 99) dX12_text_87 (by decide) ?_ ?_
    · refine s_iload_n X rfl dX12_text_99 ?_
      exact s_X12_text_100 X hJ
    · refine s_aload_n X rfl dX12_text_90 ?_
      refine s_get X (T := TX12) (C := RX12) (N := 45) tu_X12 rfl (by decide) tw_1002 dX12_text_91 ?_
      refine s_iload_n X rfl dX12_text_94 ?_
      refine s_iald X dX12_text_95 ?_
      refine s_goto X (tgt := 100) dX12_text_96 (by decide) ?_
      exact s_X12_text_100 X hJ
  · refine s_iconst X ⟨by decide, by decide⟩ dX12_text_83 ?_
    exact s_iret X dX12_text_84
set_option maxRecDepth 100000 in
def b_X12_text_72 (J : Nat → List qV → List qV → qW → Prop) (Q : qR) : qK := x_int (-2) (x_iret Q)
set_option maxRecDepth 100000 in
theorem s_X12_text_72 {p : Program} {l : Launch} {e : Env} {R : Room} {s : State} {m : MethodId} {args : Array Value} {below : List Frame} {meth : Method} {c : Code} {nW : Nat} {dC : Nat → ClassId} {dI : Nat → Nat → Nat} {k : Nat → ClassId} {g : Nat → Nat} {A : Nat → Prop} {J : Nat → List qV → List qV → qW → Prop} {Q : qR} (X : q_X p R s m args meth c cX12_text 4 nW 9 208 RX12 (some .int) dC dI k g A) (hJ : ∀ d : Nat, q_Sd p l e R s m args below meth c 4 nW dC dI k g A (MQ below (q_post (dC, dI) k g nW Q A) args s 0 0 A) d (x_cut (is_X12_text d) (J d))) : q_Sd p l e R s m args below meth c 4 nW dC dI k g A (MQ below (q_post (dC, dI) k g nW Q A) args s 0 0 A) 72 (b_X12_text_72 J Q) := by
  unfold b_X12_text_72
  refine s_bipush X ⟨by decide, by decide⟩ (by decide) dX12_text_72 ?_
  exact s_iret X dX12_text_74
set_option maxRecDepth 100000 in
def b_X12_text_36 (J : Nat → List qV → List qV → qW → Prop) (Q : qR) : qK := x_iload 1 (x_int 0 (x_int 3 (x_callr none 3 spr_X12_in (x_if_eq (b_X12_text_72 J Q) (x_iload 2 (x_int (-1) (x_icmp_ne (x_aload 0 (x_iload 1 (x_iload 2 (x_callr (some 12) 3 spr_X12_is (x_if_ne (x_cut [0, 1, 2] (J 75)) (b_X12_text_72 J Q)))))) (x_aload 0 (x_get 12 5 (x_iload 1 (x_iald (x_int 2 (x_icmp_ne (x_cut [0, 1, 2] (J 75)) (b_X12_text_72 J Q))))))))))))))
set_option maxRecDepth 100000 in
theorem s_X12_text_36 {p : Program} {l : Launch} {e : Env} {R : Room} {s : State} {m : MethodId} {args : Array Value} {below : List Frame} {meth : Method} {c : Code} {nW : Nat} {dC : Nat → ClassId} {dI : Nat → Nat → Nat} {k : Nat → ClassId} {g : Nat → Nat} {A : Nat → Prop} {J : Nat → List qV → List qV → qW → Prop} {Q : qR} (X : q_X p R s m args meth c cX12_text 4 nW 9 208 RX12 (some .int) dC dI k g A) (hJ : ∀ d : Nat, q_Sd p l e R s m args below meth c 4 nW dC dI k g A (MQ below (q_post (dC, dI) k g nW Q A) args s 0 0 A) d (x_cut (is_X12_text d) (J d))) : q_Sd p l e R s m args below meth c 4 nW dC dI k g A (MQ below (q_post (dC, dI) k g nW Q A) args s 0 0 A) 36 (b_X12_text_36 J Q) := by
  unfold b_X12_text_36
  refine s_iload_n X rfl dX12_text_36 ?_
  refine s_iconst X ⟨by decide, by decide⟩ dX12_text_37 ?_
  refine s_iconst X ⟨by decide, by decide⟩ dX12_text_38 ?_
  refine s_callSr X (m_X12_in l) tw_1054 tw_1055 tw_134 tw_1056 (by decide +kernel) ⟨by decide, by decide⟩ dX12_text_39 ?_
  refine s_if_eq X (tgt := 72) dX12_text_42 (by decide) ?_ ?_
  · exact s_X12_text_72 X hJ
  · refine s_iload_n X rfl dX12_text_45 ?_
    refine s_iconst X ⟨by decide, by decide⟩ dX12_text_46 ?_
    refine s_icmp_ne X (tgt := 63) dX12_text_47 (by decide) ?_ ?_
    · refine s_aload_n X rfl dX12_text_63 ?_
      refine s_iload_n X rfl dX12_text_64 ?_
      refine s_iload_n X rfl dX12_text_65 ?_
      refine s_callVr X (m_X12_is l) tw_1061 tw_1062 tw_1590 tw_134 tw_1063 rfl (by decide +kernel) ⟨by decide, by decide⟩ dX12_text_66 ?_
      refine s_if_ne X (tgt := 75) dX12_text_69 (by decide) ?_ ?_
      · exact hJ 75
      · exact s_X12_text_72 X hJ
    · refine s_aload_n X rfl dX12_text_50 ?_
      refine s_get X (T := TX12) (C := RX12) (N := 45) tu_X12 rfl (by decide) tw_1002 dX12_text_51 ?_
      refine s_iload_n X rfl dX12_text_54 ?_
      refine s_iald X dX12_text_55 ?_
      refine s_iconst X ⟨by decide, by decide⟩ dX12_text_56 ?_
      refine s_icmp_ne X (tgt := 75) dX12_text_57 (by decide) ?_ ?_
      · exact hJ 75
      · refine s_goto X (tgt := 72) dX12_text_60 (by decide) ?_
        exact s_X12_text_72 X hJ
set_option maxRecDepth 100000 in
def b_X12_text_0 (J : Nat → List qV → List qV → qW → Prop) (Q : qR) : qK := x_aload 0 (x_int 0 (x_put 12 0 q_oki (x_nw (x_aload 0 (x_aload 0 (x_get 12 2 (x_int 0 (x_iald (x_put 12 11 q_oki (x_nw (x_aload 0 (x_get 12 2 (x_int 0 (x_int 0 (x_iast (x_nw (x_aload 0 (x_get 12 3 (x_int 0 (x_int 0 (x_iast (x_nw (x_aload 0 (x_get 12 4 (x_int 0 (x_int (-1) (x_iast (x_nw (b_X12_text_36 J Q)))))))))))))))))))))))))))))
set_option maxRecDepth 100000 in
theorem s_X12_text_0 {p : Program} {l : Launch} {e : Env} {R : Room} {s : State} {m : MethodId} {args : Array Value} {below : List Frame} {meth : Method} {c : Code} {nW : Nat} {dC : Nat → ClassId} {dI : Nat → Nat → Nat} {k : Nat → ClassId} {g : Nat → Nat} {A : Nat → Prop} {J : Nat → List qV → List qV → qW → Prop} {Q : qR} (X : q_X p R s m args meth c cX12_text 4 nW 9 208 RX12 (some .int) dC dI k g A) (hJ : ∀ d : Nat, q_Sd p l e R s m args below meth c 4 nW dC dI k g A (MQ below (q_post (dC, dI) k g nW Q A) args s 0 0 A) d (x_cut (is_X12_text d) (J d))) : q_Sd p l e R s m args below meth c 4 nW dC dI k g A (MQ below (q_post (dC, dI) k g nW Q A) args s 0 0 A) 0 (b_X12_text_0 J Q) := by
  unfold b_X12_text_0
  refine s_aload_n X rfl dX12_text_0 ?_
  refine s_iconst X ⟨by decide, by decide⟩ dX12_text_1 ?_
  refine s_put X (T := TX12) (C := RX12) (N := 45) tu_X12 tyX12_ok nmX12 rfl (by decide) tw_997 rfl (by decide +kernel) q_oki_t dX12_text_2 ?_
  refine s_nw ?_
  refine s_aload_n X rfl dX12_text_5 ?_
  refine s_aload_n X rfl dX12_text_6 ?_
  refine s_get X (T := TX12) (C := RX12) (N := 45) tu_X12 rfl (by decide) tw_999 dX12_text_7 ?_
  refine s_iconst X ⟨by decide, by decide⟩ dX12_text_10 ?_
  refine s_iald X dX12_text_11 ?_
  refine s_put X (T := TX12) (C := RX12) (N := 45) tu_X12 tyX12_ok nmX12 rfl (by decide) tw_1008 rfl (by decide +kernel) q_oki_t dX12_text_12 ?_
  refine s_nw ?_
  refine s_aload_n X rfl dX12_text_15 ?_
  refine s_get X (T := TX12) (C := RX12) (N := 45) tu_X12 rfl (by decide) tw_999 dX12_text_16 ?_
  refine s_iconst X ⟨by decide, by decide⟩ dX12_text_19 ?_
  refine s_iconst X ⟨by decide, by decide⟩ dX12_text_20 ?_
  refine s_iast X dX12_text_21 ?_
  refine s_nw ?_
  refine s_aload_n X rfl dX12_text_22 ?_
  refine s_get X (T := TX12) (C := RX12) (N := 45) tu_X12 rfl (by decide) tw_1000 dX12_text_23 ?_
  refine s_iconst X ⟨by decide, by decide⟩ dX12_text_26 ?_
  refine s_iconst X ⟨by decide, by decide⟩ dX12_text_27 ?_
  refine s_iast X dX12_text_28 ?_
  refine s_nw ?_
  refine s_aload_n X rfl dX12_text_29 ?_
  refine s_get X (T := TX12) (C := RX12) (N := 45) tu_X12 rfl (by decide) tw_1001 dX12_text_30 ?_
  refine s_iconst X ⟨by decide, by decide⟩ dX12_text_33 ?_
  refine s_iconst X ⟨by decide, by decide⟩ dX12_text_34 ?_
  refine s_iast X dX12_text_35 ?_
  refine s_nw ?_
  exact s_X12_text_36 X hJ

def sp_X12_text : qS := fun av w Q => ∃ (mco : Int) (mre : Int) (mle : Int) (mbe : Int) (mso : Int) (mva : Int) (mwo : Int) (mwr : Int) (mlf : Int) (mlp : Int) (mfp : Int) (mfd : Int) (mgo : Int) (mbo : Int) (mpe : Int) (mye : Int) (mpr : Int) (mld : Int) (msi : Int) (mse : Int) (tp : Nat → Int) (siz : Nat → Int) (fa : Nat → Int) (fpl : Nat → Int) (mn : Nat → Int) (bs : Nat → Int) (ys : Nat → Int) (ls : Nat → Int) (ss : Nat → Int) (td : Nat → Int) (re : Nat → Int) (a : Int) (b : Int), av = [q2 0, q1 a, q1 b] ∧ w = [.inr (12, [q1 mco, q2 1, q2 2, q2 3, q2 4, q2 5, q2 6, q2 7, q2 8, q2 9, q1 mre, q1 mle, q1 mbe, q1 mso, q1 mva, q3 mwo, q1 mwr, q1 mlf, q1 mlp, q2 10, q2 11, q1 mfp, q1 mfd, q1 mgo, q1 mbo, q1 mpe, q1 mye, q2 12, q1 mpr, q2 13, q2 14, q2 15, q2 16, q1 mld, q2 17, q1 msi, q2 18, q2 19, q2 20, q2 21, q2 22, q1 mse, q2 23, q2 24, q2 25]), .inl (1, 2400, .inl tp), .inl (0, 4, .inl siz), .inl (0, 4, .inl fa), .inl (0, 4, .inl fpl), .inl (0, 16, .inl mn), .inl (0, 600, .inl bs), .inl (0, 1288, .inl ys), .inl (0, 72, .inl ls), .inl (0, 168, .inl ss), .inl (0, 161, .inl td), .inl (0, 4, .inl re)] ∧ (BI bs) ∧ (YI ys) ∧ (SI ss) ∧ (q_rg 0 2 mn) ∧ (q_rg 0 600 siz) ∧ (∀ (r : Int) (x_mco : Int) (x_mle : Int) (x_mre : Int) (x_mbe : Int) (x_mso : Int) (x_mva : Int) (x_mwo : Int) (x_mwr : Int) (x_mlf : Int) (x_mlp : Int) (x_mgo : Int) (x_mfp : Int) (x_mfd : Int) (x_re : Nat → Int) (x_td : Nat → Int) (x_siz : Nat → Int) (x_fa : Nat → Int) (x_fpl : Nat → Int) (x_mn : Nat → Int) (x_bs : Nat → Int) (x_ys : Nat → Int) (x_ls : Nat → Int) (x_ss : Nat → Int), (BI x_bs ∧ YI x_ys ∧ SI x_ss ∧ q_rg 0 2 x_mn ∧ q_rg 0 600 x_siz ∧ x_siz 0 = 0 ∧ szK siz x_siz) → Q (some (q1 r)) ([.inr (12, [q1 x_mco, q2 1, q2 2, q2 3, q2 4, q2 5, q2 6, q2 7, q2 8, q2 9, q1 x_mre, q1 x_mle, q1 x_mbe, q1 x_mso, q1 x_mva, q3 x_mwo, q1 x_mwr, q1 x_mlf, q1 x_mlp, q2 10, q2 11, q1 x_mfp, q1 x_mfd, q1 x_mgo, q1 mbo, q1 mpe, q1 mye, q2 12, q1 mpr, q2 13, q2 14, q2 15, q2 16, q1 mld, q2 17, q1 msi, q2 18, q2 19, q2 20, q2 21, q2 22, q1 mse, q2 23, q2 24, q2 25]), .inl (1, 2400, .inl tp), .inl (0, 4, .inl x_siz), .inl (0, 4, .inl x_fa), .inl (0, 4, .inl x_fpl), .inl (0, 16, .inl x_mn), .inl (0, 600, .inl x_bs), .inl (0, 1288, .inl x_ys), .inl (0, 72, .inl x_ls), .inl (0, 168, .inl x_ss), .inl (0, 161, .inl x_td), .inl (0, 4, .inl x_re)]))
def I_X12_text (mco : Int) (mre : Int) (mle : Int) (mbe : Int) (mso : Int) (mva : Int) (mwo : Int) (mwr : Int) (mlf : Int) (mlp : Int) (mfp : Int) (mfd : Int) (mgo : Int) (mbo : Int) (mpe : Int) (mye : Int) (mpr : Int) (mld : Int) (msi : Int) (mse : Int) (tp : Nat → Int) (siz : Nat → Int) (fa : Nat → Int) (fpl : Nat → Int) (mn : Nat → Int) (bs : Nat → Int) (ys : Nat → Int) (ls : Nat → Int) (ss : Nat → Int) (td : Nat → Int) (re : Nat → Int) (a : Int) (b : Int) : Nat → Nat → List qV → List qV → qW → Prop := fun dz mz vz sz wz => if dz = 75 then (∃ (y_mco : Int) (y_mle : Int) (y_siz : Nat → Int) (y_fa : Nat → Int) (y_fpl : Nat → Int), vz = [q2 0, q1 a, q1 b] ∧ sz = [] ∧ wz = [.inr (12, [q1 y_mco, q2 1, q2 2, q2 3, q2 4, q2 5, q2 6, q2 7, q2 8, q2 9, q1 mre, q1 y_mle, q1 mbe, q1 mso, q1 mva, q3 mwo, q1 mwr, q1 mlf, q1 mlp, q2 10, q2 11, q1 mfp, q1 mfd, q1 mgo, q1 mbo, q1 mpe, q1 mye, q2 12, q1 mpr, q2 13, q2 14, q2 15, q2 16, q1 mld, q2 17, q1 msi, q2 18, q2 19, q2 20, q2 21, q2 22, q1 mse, q2 23, q2 24, q2 25]), .inl (1, 2400, .inl tp), .inl (0, 4, .inl y_siz), .inl (0, 4, .inl y_fa), .inl (0, 4, .inl y_fpl), .inl (0, 16, .inl mn), .inl (0, 600, .inl bs), .inl (0, 1288, .inl ys), .inl (0, 72, .inl ls), .inl (0, 168, .inl ss), .inl (0, 161, .inl td), .inl (0, 4, .inl re)] ∧ mz = 3 ∧ (0 ≤ a ∧ a ≤ 3 ∧ (b = -1 → ¬ mn a.toNat = 2) ∧ (¬ b = -1 → 0 ≤ b ∧ b ≤ 1)) ∧ (0 ≤ y_mle ∧ y_mle ≤ 600) ∧ (q_rg 0 600 y_siz) ∧ (y_siz 0 = 0) ∧ (szK siz y_siz)) else False
set_option maxHeartbeats 4000000 in
set_option maxRecDepth 100000 in
theorem m_X12_text (l : Launch) : q_M l yX12_text cX12_text 4 (some .int) 9 208 sp_X12_text := by
  refine q_meth (by decide) (fun av w Q h => by obtain ⟨mco, mre, mle, mbe, mso, mva, mwo, mwr, mlf, mlp, mfp, mfd, mgo, mbo, mpe, mye, mpr, mld, msi, mse, tp, siz, fa, fpl, mn, bs, ys, ls, ss, td, re, a, b, rfl, rfl, hbi, hyi, hsi, hmn, hsz, hQ⟩ := h; exact Nat.le_of_ble_eq_true rfl) ?_
  intro p e R s m args below meth c dC dI k g A av w Q hsp oka okw X
  obtain ⟨mco, mre, mle, mbe, mso, mva, mwo, mwr, mlf, mlp, mfp, mfd, mgo, mbo, mpe, mye, mpr, mld, msi, mse, tp, siz, fa, fpl, mn, bs, ys, ls, ss, td, re, a, b, rfl, rfl, hbi, hyi, hsi, hmn, hsz, hQ⟩ := hsp
  have o_a : -2147483648 ≤ a ∧ a ≤ 2147483647 := oka _ (List.mem_of_getElem? (i := 1) rfl)
  have o_b : -2147483648 ≤ b ∧ b ≤ 2147483647 := oka _ (List.mem_of_getElem? (i := 2) rfl)
  refine s_mono (s_X12_text_0 X (J := fun dz vz sz wz => ∃ mz, I_X12_text mco mre mle mbe mso mva mwo mwr mlf mlp mfp mfd mgo mbo mpe mye mpr mld msi mse tp siz fa fpl mn bs ys ls ss td re a b dz mz vz sz wz) (q_loopn (I_X12_text mco mre mle mbe mso mva mwo mwr mlf mlp mfp mfd mgo mbo mpe mye mpr mld msi mse tp siz fa fpl mn bs ys ls ss td re a b) (fun dz J => if dz = 75 then b_X12_text_75 J Q else q_F) ?hs ?hv)) ?_
  case hs =>
    intro d J hJ
    by_cases h75 : d = 75
    · subst h75; exact s_X12_text_75 X hJ
    simp only [h75, if_false]
    exact s_F
  case hv =>
    intro dz mz vz sz wz hI okv oks okw hlen
    by_cases h75 : dz = 75
    · subst h75
      obtain ⟨y_mco, y_mle, y_siz, y_fa, y_fpl, rfl, rfl, rfl, hn, hs, hle, hsy, hz9, hk9⟩ := hI
      refine Exists.intro [0, 1, 11, 10, 3, 4, 2, 5, 6, 7, 8, 9, 12, 13, 14, 15, 16, 17, 18, 19, 20, 21, 22, 23, 24, 25] (Exists.intro [q2 0, q1 _] (Exists.intro ([.inr (12, [q1 _, q2 1, q2 6, q2 4, q2 5, q2 7, q2 8, q2 9, q2 10, q2 11, q1 _, q1 _, q1 _, q1 _, q1 _, q3 _, q1 _, q1 _, q1 _, q2 3, q2 2, q1 _, q1 _, q1 _, q1 _, q1 _, q1 _, q2 12, q1 _, q2 13, q2 14, q2 15, q2 16, q1 _, q2 17, q1 _, q2 18, q2 19, q2 20, q2 21, q2 22, q1 _, q2 23, q2 24, q2 25]), .inl (1, 2400, .inl _), .inl (0, 4, .inl _), .inl (0, 161, .inl _), .inl (0, 4, .inl _), .inl (0, 4, .inl _)]) (And.intro rfl (And.intro rfl (And.intro rfl (And.intro ⟨⟨_, rfl⟩, rfl⟩ ?_))))))
      refine Exists.intro _ (Exists.intro _ (Exists.intro _ (Exists.intro _ (Exists.intro _ (Exists.intro _ (Exists.intro _ (Exists.intro _ (Exists.intro _ (Exists.intro _ (Exists.intro _ (Exists.intro _ (Exists.intro _ (Exists.intro _ (Exists.intro _ (Exists.intro _ (Exists.intro _ (Exists.intro _ (Exists.intro _ (Exists.intro _ (Exists.intro _ (Exists.intro _ (Exists.intro _ (Exists.intro _ (Exists.intro _ (Exists.intro _ (And.intro rfl (And.intro rfl (And.intro (by first | omega | assumption | exact q_rg_up (by assumption) (by omega) | exact q_rg_up (q_rg_up (by assumption) (by omega)) (by omega) | exact q_rg_cpy (by assumption) (by assumption)) (And.intro (by first | omega | assumption | exact q_rg_up (by assumption) (by omega) | exact q_rg_up (q_rg_up (by assumption) (by omega)) (by omega) | exact q_rg_cpy (by assumption) (by assumption)) (?_))))))))))))))))))))))))))))))
      intro z77 x_mre_77 x_mbe_77 x_mso_77 x_mva_77 x_mwo_77 x_mwr_77 x_mlf_77 x_mlp_77 x_mgo_77 x_mfp_77 x_mfd_77 x_re_77 x_td_77 x_fa_77 x_fpl_77 h77
      apply And.intro
      · intro h80
        apply And.intro
        · intro h87
          apply And.intro
          · exact ⟨by omega, by omega⟩
          intro z107 h107
          have a107 := q_rg_at hmn h107
          apply And.intro
          · intro h110
            intro z118 h118
            first | replace h118 := e_add h118 (by omega) | replace h118 := e_rng h118
            apply And.intro
            · exact ⟨by omega, by omega⟩
            refine Exists.intro [0, 10, 6, 7, 8, 9, 1, 2, 3, 4, 5, 11, 12, 13, 14, 15, 16, 17, 18, 19, 20, 21, 22, 23, 24, 25] (Exists.intro [q2 0, q1 _, q1 _] (Exists.intro ([.inr (12, [q1 _, q2 6, q2 7, q2 8, q2 9, q2 10, q2 2, q2 3, q2 4, q2 5, q1 _, q1 _, q1 _, q1 _, q1 _, q3 _, q1 _, q1 _, q1 _, q2 1, q2 11, q1 _, q1 _, q1 _, q1 _, q1 _, q1 _, q2 12, q1 _, q2 13, q2 14, q2 15, q2 16, q1 _, q2 17, q1 _, q2 18, q2 19, q2 20, q2 21, q2 22, q1 _, q2 23, q2 24, q2 25]), .inl (0, 161, .inl _), .inl (0, 600, .inl _), .inl (0, 1288, .inl _), .inl (0, 72, .inl _), .inl (0, 168, .inl _)]) (And.intro rfl (And.intro rfl (And.intro rfl (And.intro ⟨⟨_, rfl⟩, rfl⟩ ?_))))))
            refine Exists.intro _ (Exists.intro _ (Exists.intro _ (Exists.intro _ (Exists.intro _ (Exists.intro _ (Exists.intro _ (Exists.intro _ (Exists.intro _ (Exists.intro _ (Exists.intro _ (Exists.intro _ (Exists.intro _ (Exists.intro _ (Exists.intro _ (Exists.intro _ (Exists.intro _ (Exists.intro _ (Exists.intro _ (Exists.intro _ (Exists.intro _ (Exists.intro _ (Exists.intro _ (Exists.intro _ (Exists.intro _ (Exists.intro _ (Exists.intro _ (And.intro rfl (And.intro rfl (And.intro (by first | omega | assumption | exact q_rg_up (by assumption) (by omega) | exact q_rg_up (q_rg_up (by assumption) (by omega)) (by omega) | exact q_rg_cpy (by assumption) (by assumption)) (And.intro (h77.2 (by omega)).1 (And.intro (h77.2 (by omega)).2 (And.intro (by first | omega | assumption | exact q_rg_up (by assumption) (by omega) | exact q_rg_up (q_rg_up (by assumption) (by omega)) (by omega) | exact q_rg_cpy (by assumption) (by assumption)) (And.intro (by first | omega | assumption | exact q_rg_up (by assumption) (by omega) | exact q_rg_up (q_rg_up (by assumption) (by omega)) (by omega) | exact q_rg_cpy (by assumption) (by assumption)) (And.intro (by first | omega | assumption | exact q_rg_up (by assumption) (by omega) | exact q_rg_up (q_rg_up (by assumption) (by omega)) (by omega) | exact q_rg_cpy (by assumption) (by assumption)) (?_)))))))))))))))))))))))))))))))))))
            intro x_bs_123 x_ys_123 x_ls_123 x_ss_123 h123
            exact hQ _ _ _ _ _ _ _ _ _ _ _ _ _ _ _ _ _ _ _ _ _ _ _ _ ⟨(by first | assumption | exact h123.1), (by first | assumption | exact h123.2.1), (by first | assumption | exact h123.2.2), (by first | assumption | exact q_rg_up (by assumption) (by omega)), (by first | assumption | exact q_rg_up (by assumption) (by omega)), (by first | exact q_up_s | exact hz9), (by first | exact szK_u szK_r | exact hk9)⟩
          · intro h110
            intro z118 h118
            first | replace h118 := e_add h118 (by omega) | replace h118 := e_rng h118
            apply And.intro
            · exact ⟨by omega, by omega⟩
            refine Exists.intro [0, 10, 6, 7, 8, 9, 1, 2, 3, 4, 5, 11, 12, 13, 14, 15, 16, 17, 18, 19, 20, 21, 22, 23, 24, 25] (Exists.intro [q2 0, q1 _, q1 _] (Exists.intro ([.inr (12, [q1 _, q2 6, q2 7, q2 8, q2 9, q2 10, q2 2, q2 3, q2 4, q2 5, q1 _, q1 _, q1 _, q1 _, q1 _, q3 _, q1 _, q1 _, q1 _, q2 1, q2 11, q1 _, q1 _, q1 _, q1 _, q1 _, q1 _, q2 12, q1 _, q2 13, q2 14, q2 15, q2 16, q1 _, q2 17, q1 _, q2 18, q2 19, q2 20, q2 21, q2 22, q1 _, q2 23, q2 24, q2 25]), .inl (0, 161, .inl _), .inl (0, 600, .inl _), .inl (0, 1288, .inl _), .inl (0, 72, .inl _), .inl (0, 168, .inl _)]) (And.intro rfl (And.intro rfl (And.intro rfl (And.intro ⟨⟨_, rfl⟩, rfl⟩ ?_))))))
            refine Exists.intro _ (Exists.intro _ (Exists.intro _ (Exists.intro _ (Exists.intro _ (Exists.intro _ (Exists.intro _ (Exists.intro _ (Exists.intro _ (Exists.intro _ (Exists.intro _ (Exists.intro _ (Exists.intro _ (Exists.intro _ (Exists.intro _ (Exists.intro _ (Exists.intro _ (Exists.intro _ (Exists.intro _ (Exists.intro _ (Exists.intro _ (Exists.intro _ (Exists.intro _ (Exists.intro _ (Exists.intro _ (Exists.intro _ (Exists.intro _ (And.intro rfl (And.intro rfl (And.intro (by first | omega | assumption | exact q_rg_up (by assumption) (by omega) | exact q_rg_up (q_rg_up (by assumption) (by omega)) (by omega) | exact q_rg_cpy (by assumption) (by assumption)) (And.intro (h77.2 (by omega)).1 (And.intro (h77.2 (by omega)).2 (And.intro (by first | omega | assumption | exact q_rg_up (by assumption) (by omega) | exact q_rg_up (q_rg_up (by assumption) (by omega)) (by omega) | exact q_rg_cpy (by assumption) (by assumption)) (And.intro (by first | omega | assumption | exact q_rg_up (by assumption) (by omega) | exact q_rg_up (q_rg_up (by assumption) (by omega)) (by omega) | exact q_rg_cpy (by assumption) (by assumption)) (And.intro (by first | omega | assumption | exact q_rg_up (by assumption) (by omega) | exact q_rg_up (q_rg_up (by assumption) (by omega)) (by omega) | exact q_rg_cpy (by assumption) (by assumption)) (?_)))))))))))))))))))))))))))))))))))
            intro x_bs_123 x_ys_123 x_ls_123 x_ss_123 h123
            exact hQ _ _ _ _ _ _ _ _ _ _ _ _ _ _ _ _ _ _ _ _ _ _ _ _ ⟨(by first | assumption | exact h123.1), (by first | assumption | exact h123.2.1), (by first | assumption | exact h123.2.2), (by first | assumption | exact q_rg_up (by assumption) (by omega)), (by first | assumption | exact q_rg_up (by assumption) (by omega)), (by first | exact q_up_s | exact hz9), (by first | exact szK_u szK_r | exact hk9)⟩
        · intro h87
          apply And.intro
          · exact ⟨by omega, by omega⟩
          intro z95 h95
          have a95 := q_rg_at hmn h95
          apply And.intro
          · exact ⟨by omega, by omega⟩
          intro z107 h107
          have a107 := q_rg_at hmn h107
          apply And.intro
          · intro h110
            intro z118 h118
            first | replace h118 := e_add h118 (by omega) | replace h118 := e_rng h118
            apply And.intro
            · exact ⟨by omega, by omega⟩
            refine Exists.intro [0, 10, 6, 7, 8, 9, 1, 2, 3, 4, 5, 11, 12, 13, 14, 15, 16, 17, 18, 19, 20, 21, 22, 23, 24, 25] (Exists.intro [q2 0, q1 _, q1 _] (Exists.intro ([.inr (12, [q1 _, q2 6, q2 7, q2 8, q2 9, q2 10, q2 2, q2 3, q2 4, q2 5, q1 _, q1 _, q1 _, q1 _, q1 _, q3 _, q1 _, q1 _, q1 _, q2 1, q2 11, q1 _, q1 _, q1 _, q1 _, q1 _, q1 _, q2 12, q1 _, q2 13, q2 14, q2 15, q2 16, q1 _, q2 17, q1 _, q2 18, q2 19, q2 20, q2 21, q2 22, q1 _, q2 23, q2 24, q2 25]), .inl (0, 161, .inl _), .inl (0, 600, .inl _), .inl (0, 1288, .inl _), .inl (0, 72, .inl _), .inl (0, 168, .inl _)]) (And.intro rfl (And.intro rfl (And.intro rfl (And.intro ⟨⟨_, rfl⟩, rfl⟩ ?_))))))
            refine Exists.intro _ (Exists.intro _ (Exists.intro _ (Exists.intro _ (Exists.intro _ (Exists.intro _ (Exists.intro _ (Exists.intro _ (Exists.intro _ (Exists.intro _ (Exists.intro _ (Exists.intro _ (Exists.intro _ (Exists.intro _ (Exists.intro _ (Exists.intro _ (Exists.intro _ (Exists.intro _ (Exists.intro _ (Exists.intro _ (Exists.intro _ (Exists.intro _ (Exists.intro _ (Exists.intro _ (Exists.intro _ (Exists.intro _ (Exists.intro _ (And.intro rfl (And.intro rfl (And.intro (by first | omega | assumption | exact q_rg_up (by assumption) (by omega) | exact q_rg_up (q_rg_up (by assumption) (by omega)) (by omega) | exact q_rg_cpy (by assumption) (by assumption)) (And.intro (h77.2 (by omega)).1 (And.intro (h77.2 (by omega)).2 (And.intro (by first | omega | assumption | exact q_rg_up (by assumption) (by omega) | exact q_rg_up (q_rg_up (by assumption) (by omega)) (by omega) | exact q_rg_cpy (by assumption) (by assumption)) (And.intro (by first | omega | assumption | exact q_rg_up (by assumption) (by omega) | exact q_rg_up (q_rg_up (by assumption) (by omega)) (by omega) | exact q_rg_cpy (by assumption) (by assumption)) (And.intro (by first | omega | assumption | exact q_rg_up (by assumption) (by omega) | exact q_rg_up (q_rg_up (by assumption) (by omega)) (by omega) | exact q_rg_cpy (by assumption) (by assumption)) (?_)))))))))))))))))))))))))))))))))))
            intro x_bs_123 x_ys_123 x_ls_123 x_ss_123 h123
            exact hQ _ _ _ _ _ _ _ _ _ _ _ _ _ _ _ _ _ _ _ _ _ _ _ _ ⟨(by first | assumption | exact h123.1), (by first | assumption | exact h123.2.1), (by first | assumption | exact h123.2.2), (by first | assumption | exact q_rg_up (by assumption) (by omega)), (by first | assumption | exact q_rg_up (by assumption) (by omega)), (by first | exact q_up_s | exact hz9), (by first | exact szK_u szK_r | exact hk9)⟩
          · intro h110
            intro z118 h118
            first | replace h118 := e_add h118 (by omega) | replace h118 := e_rng h118
            apply And.intro
            · exact ⟨by omega, by omega⟩
            refine Exists.intro [0, 10, 6, 7, 8, 9, 1, 2, 3, 4, 5, 11, 12, 13, 14, 15, 16, 17, 18, 19, 20, 21, 22, 23, 24, 25] (Exists.intro [q2 0, q1 _, q1 _] (Exists.intro ([.inr (12, [q1 _, q2 6, q2 7, q2 8, q2 9, q2 10, q2 2, q2 3, q2 4, q2 5, q1 _, q1 _, q1 _, q1 _, q1 _, q3 _, q1 _, q1 _, q1 _, q2 1, q2 11, q1 _, q1 _, q1 _, q1 _, q1 _, q1 _, q2 12, q1 _, q2 13, q2 14, q2 15, q2 16, q1 _, q2 17, q1 _, q2 18, q2 19, q2 20, q2 21, q2 22, q1 _, q2 23, q2 24, q2 25]), .inl (0, 161, .inl _), .inl (0, 600, .inl _), .inl (0, 1288, .inl _), .inl (0, 72, .inl _), .inl (0, 168, .inl _)]) (And.intro rfl (And.intro rfl (And.intro rfl (And.intro ⟨⟨_, rfl⟩, rfl⟩ ?_))))))
            refine Exists.intro _ (Exists.intro _ (Exists.intro _ (Exists.intro _ (Exists.intro _ (Exists.intro _ (Exists.intro _ (Exists.intro _ (Exists.intro _ (Exists.intro _ (Exists.intro _ (Exists.intro _ (Exists.intro _ (Exists.intro _ (Exists.intro _ (Exists.intro _ (Exists.intro _ (Exists.intro _ (Exists.intro _ (Exists.intro _ (Exists.intro _ (Exists.intro _ (Exists.intro _ (Exists.intro _ (Exists.intro _ (Exists.intro _ (Exists.intro _ (And.intro rfl (And.intro rfl (And.intro (by first | omega | assumption | exact q_rg_up (by assumption) (by omega) | exact q_rg_up (q_rg_up (by assumption) (by omega)) (by omega) | exact q_rg_cpy (by assumption) (by assumption)) (And.intro (h77.2 (by omega)).1 (And.intro (h77.2 (by omega)).2 (And.intro (by first | omega | assumption | exact q_rg_up (by assumption) (by omega) | exact q_rg_up (q_rg_up (by assumption) (by omega)) (by omega) | exact q_rg_cpy (by assumption) (by assumption)) (And.intro (by first | omega | assumption | exact q_rg_up (by assumption) (by omega) | exact q_rg_up (q_rg_up (by assumption) (by omega)) (by omega) | exact q_rg_cpy (by assumption) (by assumption)) (And.intro (by first | omega | assumption | exact q_rg_up (by assumption) (by omega) | exact q_rg_up (q_rg_up (by assumption) (by omega)) (by omega) | exact q_rg_cpy (by assumption) (by assumption)) (?_)))))))))))))))))))))))))))))))))))
            intro x_bs_123 x_ys_123 x_ls_123 x_ss_123 h123
            exact hQ _ _ _ _ _ _ _ _ _ _ _ _ _ _ _ _ _ _ _ _ _ _ _ _ ⟨(by first | assumption | exact h123.1), (by first | assumption | exact h123.2.1), (by first | assumption | exact h123.2.2), (by first | assumption | exact q_rg_up (by assumption) (by omega)), (by first | assumption | exact q_rg_up (by assumption) (by omega)), (by first | exact q_up_s | exact hz9), (by first | exact szK_u szK_r | exact hk9)⟩
      · intro h80
        exact hQ _ _ _ _ _ _ _ _ _ _ _ _ _ _ _ _ _ _ _ _ _ _ _ _ ⟨(by first | assumption | exact h123.1), (by first | assumption | exact h123.2.1), (by first | assumption | exact h123.2.2), (by first | assumption | exact q_rg_up (by assumption) (by omega)), (by first | assumption | exact q_rg_up (by assumption) (by omega)), (by first | exact q_up_s | exact hz9), (by first | exact szK_u szK_r | exact hk9)⟩
    simp only [I_X12_text, h75, if_false] at hI
  rintro lv st w' ⟨rfl, rfl, rfl⟩
  apply And.intro
  · exact trivial
  apply And.intro
  · exact ⟨by omega, by omega⟩
  intro z11 h11
  have a11 := q_rg_at hsz h11
  apply And.intro
  · exact trivial
  apply And.intro
  · exact ⟨by omega, by omega⟩
  apply And.intro
  · exact ⟨by omega, by omega⟩
  apply And.intro
  · exact ⟨by omega, by omega⟩
  refine Exists.intro [] (Exists.intro [q1 _, q1 _, q1 _] (Exists.intro [] (And.intro rfl (And.intro rfl (And.intro rfl (And.intro trivial ?_))))))
  refine Exists.intro _ (Exists.intro _ (Exists.intro _ (And.intro rfl (And.intro rfl (?_)))))
  intro z39 h39
  apply And.intro
  · intro h42
    first | replace h39 := dj1 h39 h42 | replace h39 := dj0 h39 h42
    exact hQ _ _ _ _ _ _ _ _ _ _ _ _ _ _ _ _ _ _ _ _ _ _ _ _ ⟨(by first | assumption | exact h123.1), (by first | assumption | exact h123.2.1), (by first | assumption | exact h123.2.2), (by first | assumption | exact q_rg_up (by assumption) (by omega)), (by first | assumption | exact q_rg_up (by assumption) (by omega)), (by first | exact q_up_s | exact hz9), (by first | exact szK_u szK_r | exact hk9)⟩
  · intro h42
    first | replace h39 := dj1 h39 h42 | replace h39 := dj0 h39 h42
    apply And.intro
    · intro h47
      refine Exists.intro [0, 5, 1, 2, 3, 4, 6, 7, 8, 9, 10, 11, 12, 13, 14, 15, 16, 17, 18, 19, 20, 21, 22, 23, 24, 25] (Exists.intro [q2 0, q1 _, q1 _] (Exists.intro ([.inr (12, [q1 _, q2 2, q2 3, q2 4, q2 5, q2 1, q2 6, q2 7, q2 8, q2 9, q1 _, q1 _, q1 _, q1 _, q1 _, q3 _, q1 _, q1 _, q1 _, q2 10, q2 11, q1 _, q1 _, q1 _, q1 _, q1 _, q1 _, q2 12, q1 _, q2 13, q2 14, q2 15, q2 16, q1 _, q2 17, q1 _, q2 18, q2 19, q2 20, q2 21, q2 22, q1 _, q2 23, q2 24, q2 25]), .inl (0, 16, .inl _)]) (And.intro rfl (And.intro rfl (And.intro rfl (And.intro ⟨⟨_, rfl⟩, rfl⟩ ?_))))))
      refine Exists.intro _ (Exists.intro _ (Exists.intro _ (Exists.intro _ (Exists.intro _ (Exists.intro _ (Exists.intro _ (Exists.intro _ (Exists.intro _ (Exists.intro _ (Exists.intro _ (Exists.intro _ (Exists.intro _ (Exists.intro _ (Exists.intro _ (Exists.intro _ (Exists.intro _ (Exists.intro _ (Exists.intro _ (Exists.intro _ (Exists.intro _ (Exists.intro _ (Exists.intro _ (And.intro rfl (And.intro rfl (And.intro (by first | omega | assumption | exact q_rg_up (by assumption) (by omega) | exact q_rg_up (q_rg_up (by assumption) (by omega)) (by omega) | exact q_rg_cpy (by assumption) (by assumption)) (And.intro (by first | omega | assumption | exact q_rg_up (by assumption) (by omega) | exact q_rg_up (q_rg_up (by assumption) (by omega)) (by omega) | exact q_rg_cpy (by assumption) (by assumption)) (?_)))))))))))))))))))))))))))
      intro z66 h66
      apply And.intro
      · intro h69
        first | replace h66 := dj1 h66 h69 | replace h66 := dj0 h66 h69
        exact ⟨_, _, _, _, _, _, rfl, rfl, rfl, rfl, (by first | omega | assumption | exact q_rg_up (by assumption) (by omega) | exact q_rg_up (q_rg_up (by assumption) (by omega)) (by omega) | exact q_rg_cpy (by assumption) (by assumption)), (by first | omega | assumption | exact q_rg_up (by assumption) (by omega) | exact q_rg_up (q_rg_up (by assumption) (by omega)) (by omega) | exact q_rg_cpy (by assumption) (by assumption)), (by first | assumption | exact q_rg_up (by assumption) (by omega)), (by first | exact q_up_s | exact hz9), (by first | exact szK_u szK_r | exact hk9)⟩
      · intro h69
        first | replace h66 := dj1 h66 h69 | replace h66 := dj0 h66 h69
        exact hQ _ _ _ _ _ _ _ _ _ _ _ _ _ _ _ _ _ _ _ _ _ _ _ _ ⟨(by first | assumption | exact h123.1), (by first | assumption | exact h123.2.1), (by first | assumption | exact h123.2.2), (by first | assumption | exact q_rg_up (by assumption) (by omega)), (by first | assumption | exact q_rg_up (by assumption) (by omega)), (by first | exact q_up_s | exact hz9), (by first | exact szK_u szK_r | exact hk9)⟩
    · intro h47
      apply And.intro
      · exact ⟨by omega, by omega⟩
      intro z55 h55
      have a55 := q_rg_at hmn h55
      apply And.intro
      · intro h57
        exact ⟨_, _, _, _, _, _, rfl, rfl, rfl, rfl, (by first | omega | assumption | exact q_rg_up (by assumption) (by omega) | exact q_rg_up (q_rg_up (by assumption) (by omega)) (by omega) | exact q_rg_cpy (by assumption) (by assumption)), (by first | omega | assumption | exact q_rg_up (by assumption) (by omega) | exact q_rg_up (q_rg_up (by assumption) (by omega)) (by omega) | exact q_rg_cpy (by assumption) (by assumption)), (by first | assumption | exact q_rg_up (by assumption) (by omega)), (by first | exact q_up_s | exact hz9), (by first | exact szK_u szK_r | exact hk9)⟩
      · intro h57
        exact hQ _ _ _ _ _ _ _ _ _ _ _ _ _ _ _ _ _ _ _ _ _ _ _ _ ⟨(by first | assumption | exact h123.1), (by first | assumption | exact h123.2.1), (by first | assumption | exact h123.2.2), (by first | assumption | exact q_rg_up (by assumption) (by omega)), (by first | assumption | exact q_rg_up (by assumption) (by omega)), (by first | exact q_up_s | exact hz9), (by first | exact szK_u szK_r | exact hk9)⟩
