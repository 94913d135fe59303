theorem dX12_copyAll_0 : decode cX12_copyAll 0 = .ok (.iconst 0, 1) := by decide +kernel
theorem dX12_copyAll_1 : decode cX12_copyAll 1 = .ok (.istore_n 3, 1) := by decide +kernel
theorem dX12_copyAll_2 : decode cX12_copyAll 2 = .ok (.iload_n 3, 1) := by decide +kernel
theorem dX12_copyAll_3 : decode cX12_copyAll 3 = .ok (.sipush 600, 3) := by decide +kernel
theorem dX12_copyAll_6 : decode cX12_copyAll 6 = .ok (.if_icmp .ge 33, 3) := by decide +kernel
theorem dX12_copyAll_9 : decode cX12_copyAll 9 = .ok (.aload_n 0, 1) := by decide +kernel
theorem dX12_copyAll_10 : decode cX12_copyAll 10 = .ok (.getfield 7, 3) := by decide +kernel
theorem dX12_copyAll_13 : decode cX12_copyAll 13 = .ok (.sipush 600, 3) := by decide +kernel
theorem dX12_copyAll_16 : decode cX12_copyAll 16 = .ok (.iload_n 2, 1) := by decide +kernel
theorem dX12_copyAll_17 : decode cX12_copyAll 17 = .ok (.imul, 1) := by decide +kernel
theorem dX12_copyAll_18 : decode cX12_copyAll 18 = .ok (.iload_n 3, 1) := by decide +kernel
theorem dX12_copyAll_19 : decode cX12_copyAll 19 = .ok (.iadd, 1) := by decide +kernel
theorem dX12_copyAll_20 : decode cX12_copyAll 20 = .ok (.aload_n 0, 1) := by decide +kernel
theorem dX12_copyAll_21 : decode cX12_copyAll 21 = .ok (.getfield 7, 3) := by decide +kernel
theorem dX12_copyAll_24 : decode cX12_copyAll 24 = .ok (.sipush 600, 3) := by decide +kernel
theorem dX12_copyAll_27 : decode cX12_copyAll 27 = .ok (.iload_n 1, 1) := by decide +kernel
theorem dX12_copyAll_28 : decode cX12_copyAll 28 = .ok (.imul, 1) := by decide +kernel
theorem dX12_copyAll_29 : decode cX12_copyAll 29 = .ok (.iload_n 3, 1) := by decide +kernel
theorem dX12_copyAll_30 : decode cX12_copyAll 30 = .ok (.iadd, 1) := by decide +kernel
theorem dX12_copyAll_31 : decode cX12_copyAll 31 = .ok (.baload, 1) := by decide +kernel
theorem dX12_copyAll_32 : decode cX12_copyAll 32 = .ok (.bastore, 1) := by decide +kernel
theorem dX12_copyAll_33 : decode cX12_copyAll 33 = .ok (.iinc 3 1, 3) := by decide +kernel
theorem dX12_copyAll_36 : decode cX12_copyAll 36 = .ok (.goto (-34), 3) := by decide +kernel
theorem dX12_copyAll_39 : decode cX12_copyAll 39 = .ok (.aload_n 0, 1) := by decide +kernel
theorem dX12_copyAll_40 : decode cX12_copyAll 40 = .ok (.getfield 13, 3) := by decide +kernel
theorem dX12_copyAll_43 : decode cX12_copyAll 43 = .ok (.iconst 1, 1) := by decide +kernel
theorem dX12_copyAll_44 : decode cX12_copyAll 44 = .ok (.iload_n 1, 1) := by decide +kernel
theorem dX12_copyAll_45 : decode cX12_copyAll 45 = .ok (.iload_n 2, 1) := by decide +kernel
theorem dX12_copyAll_46 : decode cX12_copyAll 46 = .ok (.invokestatic 96, 3) := by decide +kernel
theorem dX12_copyAll_49 : decode cX12_copyAll 49 = .ok (.aload_n 0, 1) := by decide +kernel
theorem dX12_copyAll_50 : decode cX12_copyAll 50 = .ok (.getfield 17, 3) := by decide +kernel
theorem dX12_copyAll_53 : decode cX12_copyAll 53 = .ok (.iconst 1, 1) := by decide +kernel
theorem dX12_copyAll_54 : decode cX12_copyAll 54 = .ok (.iload_n 1, 1) := by decide +kernel
theorem dX12_copyAll_55 : decode cX12_copyAll 55 = .ok (.iload_n 2, 1) := by decide +kernel
theorem dX12_copyAll_56 : decode cX12_copyAll 56 = .ok (.invokestatic 96, 3) := by decide +kernel
theorem dX12_copyAll_59 : decode cX12_copyAll 59 = .ok (.aload_n 0, 1) := by decide +kernel
theorem dX12_copyAll_60 : decode cX12_copyAll 60 = .ok (.getfield 20, 3) := by decide +kernel
theorem dX12_copyAll_63 : decode cX12_copyAll 63 = .ok (.iconst 1, 1) := by decide +kernel
theorem dX12_copyAll_64 : decode cX12_copyAll 64 = .ok (.iload_n 1, 1) := by decide +kernel
theorem dX12_copyAll_65 : decode cX12_copyAll 65 = .ok (.iload_n 2, 1) := by decide +kernel
theorem dX12_copyAll_66 : decode cX12_copyAll 66 = .ok (.invokestatic 96, 3) := by decide +kernel
theorem dX12_copyAll_69 : decode cX12_copyAll 69 = .ok (.aload_n 0, 1) := by decide +kernel
theorem dX12_copyAll_70 : decode cX12_copyAll 70 = .ok (.getfield 23, 3) := by decide +kernel
theorem dX12_copyAll_73 : decode cX12_copyAll 73 = .ok (.iconst 4, 1) := by decide +kernel
theorem dX12_copyAll_74 : decode cX12_copyAll 74 = .ok (.iload_n 1, 1) := by decide +kernel
theorem dX12_copyAll_75 : decode cX12_copyAll 75 = .ok (.iload_n 2, 1) := by decide +kernel
theorem dX12_copyAll_76 : decode cX12_copyAll 76 = .ok (.invokestatic 96, 3) := by decide +kernel
theorem dX12_copyAll_79 : decode cX12_copyAll 79 = .ok (.aload_n 0, 1) := by decide +kernel
theorem dX12_copyAll_80 : decode cX12_copyAll 80 = .ok (.getfield 26, 3) := by decide +kernel
theorem dX12_copyAll_83 : decode cX12_copyAll 83 = .ok (.sipush 150, 3) := by decide +kernel
theorem dX12_copyAll_86 : decode cX12_copyAll 86 = .ok (.iload_n 1, 1) := by decide +kernel
theorem dX12_copyAll_87 : decode cX12_copyAll 87 = .ok (.iload_n 2, 1) := by decide +kernel
theorem dX12_copyAll_88 : decode cX12_copyAll 88 = .ok (.invokestatic 96, 3) := by decide +kernel
theorem dX12_copyAll_91 : decode cX12_copyAll 91 = .ok (.aload_n 0, 1) := by decide +kernel
theorem dX12_copyAll_92 : decode cX12_copyAll 92 = .ok (.getfield 29, 3) := by decide +kernel
theorem dX12_copyAll_95 : decode cX12_copyAll 95 = .ok (.sipush 322, 3) := by decide +kernel
theorem dX12_copyAll_98 : decode cX12_copyAll 98 = .ok (.iload_n 1, 1) := by decide +kernel
theorem dX12_copyAll_99 : decode cX12_copyAll 99 = .ok (.iload_n 2, 1) := by decide +kernel
theorem dX12_copyAll_100 : decode cX12_copyAll 100 = .ok (.invokestatic 96, 3) := by decide +kernel
theorem dX12_copyAll_103 : decode cX12_copyAll 103 = .ok (.aload_n 0, 1) := by decide +kernel
theorem dX12_copyAll_104 : decode cX12_copyAll 104 = .ok (.getfield 32, 3) := by decide +kernel
theorem dX12_copyAll_107 : decode cX12_copyAll 107 = .ok (.bipush 18, 2) := by decide +kernel
theorem dX12_copyAll_109 : decode cX12_copyAll 109 = .ok (.iload_n 1, 1) := by decide +kernel
theorem dX12_copyAll_110 : decode cX12_copyAll 110 = .ok (.iload_n 2, 1) := by decide +kernel
theorem dX12_copyAll_111 : decode cX12_copyAll 111 = .ok (.invokestatic 96, 3) := by decide +kernel
theorem dX12_copyAll_114 : decode cX12_copyAll 114 = .ok (.aload_n 0, 1) := by decide +kernel
theorem dX12_copyAll_115 : decode cX12_copyAll 115 = .ok (.getfield 35, 3) := by decide +kernel
theorem dX12_copyAll_118 : decode cX12_copyAll 118 = .ok (.bipush 42, 2) := by decide +kernel
theorem dX12_copyAll_120 : decode cX12_copyAll 120 = .ok (.iload_n 1, 1) := by decide +kernel
theorem dX12_copyAll_121 : decode cX12_copyAll 121 = .ok (.iload_n 2, 1) := by decide +kernel
theorem dX12_copyAll_122 : decode cX12_copyAll 122 = .ok (.invokestatic 96, 3) := by decide +kernel
theorem dX12_copyAll_125 : decode cX12_copyAll 125 = .ok (.return_, 1) := by decide +kernel
def is_X12_copyAll : Nat → List Nat := fun d => if d = 2 then [0, 1, 2, 3] else []
set_option maxRecDepth 100000 in
def b_X12_copyAll_86 (J : Nat → List qV → List qV → qW → Prop) (Q : qR) : qK := x_iload 1 (x_iload 2 (x_call none 4 sp_X12_copyRow150 (x_nw (x_aload 0 (x_get 12 7 (x_int 322 (x_iload 1 (x_iload 2 (x_call none 4 sp_X12_copyRow322 (x_nw (x_aload 0 (x_get 12 8 (x_int 18 (x_iload 1 (x_iload 2 (x_call none 4 sp_X12_copyRow18 (x_nw (x_aload 0 (x_get 12 9 (x_int 42 (x_iload 1 (x_iload 2 (x_call none 4 sp_X12_copyRow42 (x_nw (x_vret Q)))))))))))))))))))))))))
set_option maxRecDepth 100000 in
theorem s_X12_copyAll_86 {p : Program} {l : Launch} {e : Env} {R : Room} {s : State} {m : MethodId} {args : Array Value} {below : List Frame} {meth : Method} {c : Code} {nW : Nat} {dC : Nat → ClassId} {dI : Nat → Nat → Nat} {k : Nat → ClassId} {g : Nat → Nat} {A : Nat → Prop} {J : Nat → List qV → List qV → qW → Prop} {Q : qR} (X : q_X p R s m args meth c cX12_copyAll 4 nW 1 24 RX12 none dC dI k g A) (hJ : ∀ d : Nat, q_Sd p l e R s m args below meth c 4 nW dC dI k g A (MQ below (q_post (dC, dI) k g nW Q A) args s 0 0 A) d (x_cut (is_X12_copyAll d) (J d))) : q_Sd p l e R s m args below meth c 4 nW dC dI k g A (MQ below (q_post (dC, dI) k g nW Q A) args s 0 0 A) 86 (b_X12_copyAll_86 J Q) := by
  unfold b_X12_copyAll_86
  refine s_iload_n X rfl dX12_copyAll_86 ?_
  refine s_iload_n X rfl dX12_copyAll_87 ?_
  refine s_callS X (m_X12_copyRow150 l) tw_1476 tw_1477 tw_134 tw_1478 (by decide +kernel) ⟨by decide, by decide⟩ dX12_copyAll_88 ?_
  refine s_nw ?_
  refine s_aload_n X rfl dX12_copyAll_91 ?_
  refine s_get X (T := TX12) (C := RX12) (N := 45) tu_X12 rfl (by decide) tw_1004 dX12_copyAll_92 ?_
  refine s_sipush X ⟨by decide, by decide⟩ (by decide) dX12_copyAll_95 ?_
  refine s_iload_n X rfl dX12_copyAll_98 ?_
  refine s_iload_n X rfl dX12_copyAll_99 ?_
  refine s_callS X (m_X12_copyRow322 l) tw_1476 tw_1477 tw_134 tw_1478 (by decide +kernel) ⟨by decide, by decide⟩ dX12_copyAll_100 ?_
  refine s_nw ?_
  refine s_aload_n X rfl dX12_copyAll_103 ?_
  refine s_get X (T := TX12) (C := RX12) (N := 45) tu_X12 rfl (by decide) tw_1005 dX12_copyAll_104 ?_
  refine s_bipush X ⟨by decide, by decide⟩ (by decide) dX12_copyAll_107 ?_
  refine s_iload_n X rfl dX12_copyAll_109 ?_
  refine s_iload_n X rfl dX12_copyAll_110 ?_
  refine s_callS X (m_X12_copyRow18 l) tw_1476 tw_1477 tw_134 tw_1478 (by decide +kernel) ⟨by decide, by decide⟩ dX12_copyAll_111 ?_
  refine s_nw ?_
  refine s_aload_n X rfl dX12_copyAll_114 ?_
  refine s_get X (T := TX12) (C := RX12) (N := 45) tu_X12 rfl (by decide) tw_1006 dX12_copyAll_115 ?_
  refine s_bipush X ⟨by decide, by decide⟩ (by decide) dX12_copyAll_118 ?_
  refine s_iload_n X rfl dX12_copyAll_120 ?_
  refine s_iload_n X rfl dX12_copyAll_121 ?_
  refine s_callS X (m_X12_copyRow42 l) tw_1476 tw_1477 tw_134 tw_1478 (by decide +kernel) ⟨by decide, by decide⟩ dX12_copyAll_122 ?_
  refine s_nw ?_
  exact s_vret X dX12_copyAll_125
set_option maxRecDepth 100000 in
def b_X12_copyAll_44 (J : Nat → List qV → List qV → qW → Prop) (Q : qR) : qK := x_iload 1 (x_iload 2 (x_call none 4 sp_X12_copyRow1 (x_nw (x_aload 0 (x_get 12 3 (x_int 1 (x_iload 1 (x_iload 2 (x_call none 4 sp_X12_copyRow1 (x_nw (x_aload 0 (x_get 12 4 (x_int 1 (x_iload 1 (x_iload 2 (x_call none 4 sp_X12_copyRow1 (x_nw (x_aload 0 (x_get 12 5 (x_int 4 (x_iload 1 (x_iload 2 (x_call none 4 sp_X12_copyRow4 (x_nw (x_aload 0 (x_get 12 6 (x_int 150 (b_X12_copyAll_86 J Q))))))))))))))))))))))))))))
set_option maxRecDepth 100000 in
theorem s_X12_copyAll_44 {p : Program} {l : Launch} {e : Env} {R : Room} {s : State} {m : MethodId} {args : Array Value} {below : List Frame} {meth : Method} {c : Code} {nW : Nat} {dC : Nat → ClassId} {dI : Nat → Nat → Nat} {k : Nat → ClassId} {g : Nat → Nat} {A : Nat → Prop} {J : Nat → List qV → List qV → qW → Prop} {Q : qR} (X : q_X p R s m args meth c cX12_copyAll 4 nW 1 24 RX12 none dC dI k g A) (hJ : ∀ d : Nat, q_Sd p l e R s m args below meth c 4 nW dC dI k g A (MQ below (q_post (dC, dI) k g nW Q A) args s 0 0 A) d (x_cut (is_X12_copyAll d) (J d))) : q_Sd p l e R s m args below meth c 4 nW dC dI k g A (MQ below (q_post (dC, dI) k g nW Q A) args s 0 0 A) 44 (b_X12_copyAll_44 J Q) := by
  unfold b_X12_copyAll_44
  refine s_iload_n X rfl dX12_copyAll_44 ?_
  refine s_iload_n X rfl dX12_copyAll_45 ?_
  refine s_callS X (m_X12_copyRow1 l) tw_1476 tw_1477 tw_134 tw_1478 (by decide +kernel) ⟨by decide, by decide⟩ dX12_copyAll_46 ?_
  refine s_nw ?_
  refine s_aload_n X rfl dX12_copyAll_49 ?_
  refine s_get X (T := TX12) (C := RX12) (N := 45) tu_X12 rfl (by decide) tw_1000 dX12_copyAll_50 ?_
  refine s_iconst X ⟨by decide, by decide⟩ dX12_copyAll_53 ?_
  refine s_iload_n X rfl dX12_copyAll_54 ?_
  refine s_iload_n X rfl dX12_copyAll_55 ?_
  refine s_callS X (m_X12_copyRow1 l) tw_1476 tw_1477 tw_134 tw_1478 (by decide +kernel) ⟨by decide, by decide⟩ dX12_copyAll_56 ?_
  refine s_nw ?_
  refine s_aload_n X rfl dX12_copyAll_59 ?_
  refine s_get X (T := TX12) (C := RX12) (N := 45) tu_X12 rfl (by decide) tw_1001 dX12_copyAll_60 ?_
  refine s_iconst X ⟨by decide, by decide⟩ dX12_copyAll_63 ?_
  refine s_iload_n X rfl dX12_copyAll_64 ?_
  refine s_iload_n X rfl dX12_copyAll_65 ?_
  refine s_callS X (m_X12_copyRow1 l) tw_1476 tw_1477 tw_134 tw_1478 (by decide +kernel) ⟨by decide, by decide⟩ dX12_copyAll_66 ?_
  refine s_nw ?_
  refine s_aload_n X rfl dX12_copyAll_69 ?_
  refine s_get X (T := TX12) (C := RX12) (N := 45) tu_X12 rfl (by decide) tw_1002 dX12_copyAll_70 ?_
  refine s_iconst X ⟨by decide, by decide⟩ dX12_copyAll_73 ?_
  refine s_iload_n X rfl dX12_copyAll_74 ?_
  refine s_iload_n X rfl dX12_copyAll_75 ?_
  refine s_callS X (m_X12_copyRow4 l) tw_1476 tw_1477 tw_134 tw_1478 (by decide +kernel) ⟨by decide, by decide⟩ dX12_copyAll_76 ?_
  refine s_nw ?_
  refine s_aload_n X rfl dX12_copyAll_79 ?_
  refine s_get X (T := TX12) (C := RX12) (N := 45) tu_X12 rfl (by decide) tw_1003 dX12_copyAll_80 ?_
  refine s_sipush X ⟨by decide, by decide⟩ (by decide) dX12_copyAll_83 ?_
  exact s_X12_copyAll_86 X hJ
set_option maxRecDepth 100000 in
def b_X12_copyAll_2 (J : Nat → List qV → List qV → qW → Prop) (Q : qR) : qK := x_iload 3 (x_int 600 (x_icmp_ge (x_aload 0 (x_get 12 2 (x_int 1 (b_X12_copyAll_44 J Q)))) (x_aload 0 (x_get 12 1 (x_int 600 (x_iload 2 (x_imul (x_iload 3 (x_iadd (x_aload 0 (x_get 12 1 (x_int 600 (x_iload 1 (x_imul (x_iload 3 (x_iadd (x_bald (x_bast (x_nw (x_iinc 3 1 (x_cut [0, 1, 2, 3] (J 2))))))))))))))))))))))
set_option maxRecDepth 100000 in
theorem s_X12_copyAll_2 {p : Program} {l : Launch} {e : Env} {R : Room} {s : State} {m : MethodId} {args : Array Value} {below : List Frame} {meth : Method} {c : Code} {nW : Nat} {dC : Nat → ClassId} {dI : Nat → Nat → Nat} {k : Nat → ClassId} {g : Nat → Nat} {A : Nat → Prop} {J : Nat → List qV → List qV → qW → Prop} {Q : qR} (X : q_X p R s m args meth c cX12_copyAll 4 nW 1 24 RX12 none dC dI k g A) (hJ : ∀ d : Nat, q_Sd p l e R s m args below meth c 4 nW dC dI k g A (MQ below (q_post (dC, dI) k g nW Q A) args s 0 0 A) d (x_cut (is_X12_copyAll d) (J d))) : q_Sd p l e R s m args below meth c 4 nW dC dI k g A (MQ below (q_post (dC, dI) k g nW Q A) args s 0 0 A) 2 (b_X12_copyAll_2 J Q) := by
  unfold b_X12_copyAll_2
  refine s_iload_n X rfl dX12_copyAll_2 ?_
  refine s_sipush X ⟨by decide, by decide⟩ (by decide) dX12_copyAll_3 ?_
  refine s_icmp_ge X (tgt := 39) dX12_copyAll_6 (by decide) ?_ ?_
  · refine s_aload_n X rfl dX12_copyAll_39 ?_
    refine s_get X (T := TX12) (C := RX12) (N := 45) tu_X12 rfl (by decide) tw_999 dX12_copyAll_40 ?_
    refine s_iconst X ⟨by decide, by decide⟩ dX12_copyAll_43 ?_
    exact s_X12_copyAll_44 X hJ
  · refine s_aload_n X rfl dX12_copyAll_9 ?_
    refine s_get X (T := TX12) (C := RX12) (N := 45) tu_X12 rfl (by decide) tw_998 dX12_copyAll_10 ?_
    refine s_sipush X ⟨by decide, by decide⟩ (by decide) dX12_copyAll_13 ?_
    refine s_iload_n X rfl dX12_copyAll_16 ?_
    refine s_imul X dX12_copyAll_17 ?_
    refine s_iload_n X rfl dX12_copyAll_18 ?_
    refine s_iadd X dX12_copyAll_19 ?_
    refine s_aload_n X rfl dX12_copyAll_20 ?_
    refine s_get X (T := TX12) (C := RX12) (N := 45) tu_X12 rfl (by decide) tw_998 dX12_copyAll_21 ?_
    refine s_sipush X ⟨by decide, by decide⟩ (by decide) dX12_copyAll_24 ?_
    refine s_iload_n X rfl dX12_copyAll_27 ?_
    refine s_imul X dX12_copyAll_28 ?_
    refine s_iload_n X rfl dX12_copyAll_29 ?_
    refine s_iadd X dX12_copyAll_30 ?_
    refine s_bald X dX12_copyAll_31 ?_
    refine s_bast X dX12_copyAll_32 ?_
    refine s_nw ?_
    refine s_iinc X (by decide) dX12_copyAll_33 ?_
    refine s_goto X (tgt := 2) dX12_copyAll_36 (by decide) ?_
    exact hJ 2
set_option maxRecDepth 100000 in
def b_X12_copyAll_0 (J : Nat → List qV → List qV → qW → Prop) (Q : qR) : qK := x_int 0 (x_istore 3 (x_cut [0, 1, 2, 3] (J 2)))
set_option maxRecDepth 100000 in
theorem s_X12_copyAll_0 {p : Program} {l : Launch} {e : Env} {R : Room} {s : State} {m : MethodId} {args : Array Value} {below : List Frame} {meth : Method} {c : Code} {nW : Nat} {dC : Nat → ClassId} {dI : Nat → Nat → Nat} {k : Nat → ClassId} {g : Nat → Nat} {A : Nat → Prop} {J : Nat → List qV → List qV → qW → Prop} {Q : qR} (X : q_X p R s m args meth c cX12_copyAll 4 nW 1 24 RX12 none dC dI k g A) (hJ : ∀ d : Nat, q_Sd p l e R s m args below meth c 4 nW dC dI k g A (MQ below (q_post (dC, dI) k g nW Q A) args s 0 0 A) d (x_cut (is_X12_copyAll d) (J d))) : q_Sd p l e R s m args below meth c 4 nW dC dI k g A (MQ below (q_post (dC, dI) k g nW Q A) args s 0 0 A) 0 (b_X12_copyAll_0 J Q) := by
  unfold b_X12_copyAll_0
  refine s_iconst X ⟨by decide, by decide⟩ dX12_copyAll_0 ?_
  refine s_istore_n X rfl (by decide) dX12_copyAll_1 ?_
  exact hJ 2

def sp_X12_copyAll : qS := fun av w Q => ∃ (mco : Int) (mre : Int) (mle : Int) (mbe : Int) (mso : Int) (mva : Int) (mwo : Int) (mwr : Int) (mlf : Int) (mlp : Int) (mfp : Int) (mfd : Int) (mgo : Int) (mbo : Int) (mpe : Int) (mye : Int) (mpr : Int) (mld : Int) (msi : Int) (mse : Int) (tp : Nat → Int) (siz : Nat → Int) (fa : Nat → Int) (fpl : Nat → Int) (mn : Nat → Int) (bs : Nat → Int) (ys : Nat → Int) (ls : Nat → Int) (ss : Nat → Int) (a : Int) (b : Int), av = [q2 0, q1 a, q1 b] ∧ w = [.inr (12, [q1 mco, q2 1, q2 2, q2 3, q2 4, q2 5, q2 6, q2 7, q2 8, q2 9, q1 mre, q1 mle, q1 mbe, q1 mso, q1 mva, q3 mwo, q1 mwr, q1 mlf, q1 mlp, q2 10, q2 11, q1 mfp, q1 mfd, q1 mgo, q1 mbo, q1 mpe, q1 mye, q2 12, q1 mpr, q2 13, q2 14, q2 15, q2 16, q1 mld, q2 17, q1 msi, q2 18, q2 19, q2 20, q2 21, q2 22, q1 mse, q2 23, q2 24, q2 25]), .inl (1, 2400, .inl tp), .inl (0, 4, .inl siz), .inl (0, 4, .inl fa), .inl (0, 4, .inl fpl), .inl (0, 16, .inl mn), .inl (0, 600, .inl bs), .inl (0, 1288, .inl ys), .inl (0, 72, .inl ls), .inl (0, 168, .inl ss)] ∧ (0 ≤ a ∧ a ≤ 3 ∧ 0 ≤ b ∧ b ≤ 3 ∧ ¬ a = b) ∧ (BI bs) ∧ (YI ys) ∧ (SI ss) ∧ (q_rg 0 2 mn) ∧ (q_rg 0 600 siz) ∧ (∀ (x_tp : Nat → Int) (x_siz : Nat → Int) (x_fa : Nat → Int) (x_fpl : Nat → Int) (x_mn : Nat → Int) (x_bs : Nat → Int) (x_ys : Nat → Int) (x_ls : Nat → Int) (x_ss : Nat → Int), ((BI x_bs ∧ YI x_ys ∧ SI x_ss ∧ q_rg 0 2 x_mn ∧ q_rg 0 600 x_siz) ∧ cpR 1 siz x_siz a b) → Q none ([.inr (12, [q1 mco, q2 1, q2 2, q2 3, q2 4, q2 5, q2 6, q2 7, q2 8, q2 9, q1 mre, q1 mle, q1 mbe, q1 mso, q1 mva, q3 mwo, q1 mwr, q1 mlf, q1 mlp, q2 10, q2 11, q1 mfp, q1 mfd, q1 mgo, q1 mbo, q1 mpe, q1 mye, q2 12, q1 mpr, q2 13, q2 14, q2 15, q2 16, q1 mld, q2 17, q1 msi, q2 18, q2 19, q2 20, q2 21, q2 22, q1 mse, q2 23, q2 24, q2 25]), .inl (1, 2400, .inl x_tp), .inl (0, 4, .inl x_siz), .inl (0, 4, .inl x_fa), .inl (0, 4, .inl x_fpl), .inl (0, 16, .inl x_mn), .inl (0, 600, .inl x_bs), .inl (0, 1288, .inl x_ys), .inl (0, 72, .inl x_ls), .inl (0, 168, .inl x_ss)]))
def I_X12_copyAll (mco : Int) (mre : Int) (mle : Int) (mbe : Int) (mso : Int) (mva : Int) (mwo : Int) (mwr : Int) (mlf : Int) (mlp : Int) (mfp : Int) (mfd : Int) (mgo : Int) (mbo : Int) (mpe : Int) (mye : Int) (mpr : Int) (mld : Int) (msi : Int) (mse : Int) (tp : Nat → Int) (siz : Nat → Int) (fa : Nat → Int) (fpl : Nat → Int) (mn : Nat → Int) (bs : Nat → Int) (ys : Nat → Int) (ls : Nat → Int) (ss : Nat → Int) (a : Int) (b : Int) : Nat → Nat → List qV → List qV → qW → Prop := fun dz mz vz sz wz => if dz = 2 then (∃ (y_tp : Nat → Int) (v3 : Int), vz = [q2 0, q1 a, q1 b, q1 v3] ∧ sz = [] ∧ wz = [.inr (12, [q1 mco, q2 1, q2 2, q2 3, q2 4, q2 5, q2 6, q2 7, q2 8, q2 9, q1 mre, q1 mle, q1 mbe, q1 mso, q1 mva, q3 mwo, q1 mwr, q1 mlf, q1 mlp, q2 10, q2 11, q1 mfp, q1 mfd, q1 mgo, q1 mbo, q1 mpe, q1 mye, q2 12, q1 mpr, q2 13, q2 14, q2 15, q2 16, q1 mld, q2 17, q1 msi, q2 18, q2 19, q2 20, q2 21, q2 22, q1 mse, q2 23, q2 24, q2 25]), .inl (1, 2400, .inl y_tp), .inl (0, 4, .inl siz), .inl (0, 4, .inl fa), .inl (0, 4, .inl fpl), .inl (0, 16, .inl mn), .inl (0, 600, .inl bs), .inl (0, 1288, .inl ys), .inl (0, 72, .inl ls), .inl (0, 168, .inl ss)] ∧ mz = (600 - v3).toNat ∧ (0 ≤ v3 ∧ v3 ≤ 600)) else False
set_option maxHeartbeats 4000000 in
set_option maxRecDepth 100000 in
theorem m_X12_copyAll (l : Launch) : q_M l yX12_copyAll cX12_copyAll 4 none 1 24 sp_X12_copyAll := by
  refine q_meth (by decide) (fun av w Q h => by obtain ⟨mco, mre, mle, mbe, mso, mva, mwo, mwr, mlf, mlp, mfp, mfd, mgo, mbo, mpe, mye, mpr, mld, msi, mse, tp, siz, fa, fpl, mn, bs, ys, ls, ss, a, b, rfl, rfl, ha, hbi, hyi, hsi, hmn, hsz, hQ⟩ := h; exact Nat.le_of_ble_eq_true rfl) ?_
  intro p e R s m args below meth c dC dI k g A av w Q hsp oka okw X
  obtain ⟨mco, mre, mle, mbe, mso, mva, mwo, mwr, mlf, mlp, mfp, mfd, mgo, mbo, mpe, mye, mpr, mld, msi, mse, tp, siz, fa, fpl, mn, bs, ys, ls, ss, a, b, rfl, rfl, ha, hbi, hyi, hsi, hmn, hsz, hQ⟩ := hsp
  have o_a : -2147483648 ≤ a ∧ a ≤ 2147483647 := oka _ (List.mem_of_getElem? (i := 1) rfl)
  have o_b : -2147483648 ≤ b ∧ b ≤ 2147483647 := oka _ (List.mem_of_getElem? (i := 2) rfl)
  refine s_mono (s_X12_copyAll_0 X (J := fun dz vz sz wz => ∃ mz, I_X12_copyAll mco mre mle mbe mso mva mwo mwr mlf mlp mfp mfd mgo mbo mpe mye mpr mld msi mse tp siz fa fpl mn bs ys ls ss a b dz mz vz sz wz) (q_loopn (I_X12_copyAll mco mre mle mbe mso mva mwo mwr mlf mlp mfp mfd mgo mbo mpe mye mpr mld msi mse tp siz fa fpl mn bs ys ls ss a b) (fun dz J => if dz = 2 then b_X12_copyAll_2 J Q else q_F) ?hs ?hv)) ?_
  case hs =>
    intro d J hJ
    by_cases h2 : d = 2
    · subst h2; exact s_X12_copyAll_2 X hJ
    simp only [h2, if_false]
    exact s_F
  case hv =>
    intro dz mz vz sz wz hI okv oks okw hlen
    by_cases h2 : dz = 2
    · subst h2
      obtain ⟨y_tp, v3, rfl, rfl, rfl, hn, hp⟩ := hI
      have d9 := (okw _ (List.mem_of_getElem? (i := 1) rfl)).2 rfl
      apply And.intro
      · intro h6
        refine Exists.intro [2] (Exists.intro [q2 0, q1 1, q1 _, q1 _] (Exists.intro ([.inl (0, 4, .inl _)]) (And.intro rfl (And.intro rfl (And.intro rfl (And.intro trivial ?_))))))
        refine Exists.intro _ (Exists.intro _ (Exists.intro _ (And.intro rfl (And.intro rfl (And.intro (by first | omega | assumption | exact q_rg_up (by assumption) (by omega) | exact q_rg_up (q_rg_up (by assumption) (by omega)) (by omega) | exact q_rg_cpy (by assumption) (by assumption)) (?_))))))
        intro g_46 h46
        refine Exists.intro [3] (Exists.intro [q2 0, q1 1, q1 _, q1 _] (Exists.intro ([.inl (0, 4, .inl _)]) (And.intro rfl (And.intro rfl (And.intro rfl (And.intro trivial ?_))))))
        refine Exists.intro _ (Exists.intro _ (Exists.intro _ (And.intro rfl (And.intro rfl (And.intro (by first | omega | assumption | exact q_rg_up (by assumption) (by omega) | exact q_rg_up (q_rg_up (by assumption) (by omega)) (by omega) | exact q_rg_cpy (by assumption) (by assumption)) (?_))))))
        intro g_56 h56
        refine Exists.intro [4] (Exists.intro [q2 0, q1 1, q1 _, q1 _] (Exists.intro ([.inl (0, 4, .inl _)]) (And.intro rfl (And.intro rfl (And.intro rfl (And.intro trivial ?_))))))
        refine Exists.intro _ (Exists.intro _ (Exists.intro _ (And.intro rfl (And.intro rfl (And.intro (by first | omega | assumption | exact q_rg_up (by assumption) (by omega) | exact q_rg_up (q_rg_up (by assumption) (by omega)) (by omega) | exact q_rg_cpy (by assumption) (by assumption)) (?_))))))
        intro g_66 h66
        refine Exists.intro [5] (Exists.intro [q2 0, q1 4, q1 _, q1 _] (Exists.intro ([.inl (0, 16, .inl _)]) (And.intro rfl (And.intro rfl (And.intro rfl (And.intro trivial ?_))))))
        refine Exists.intro _ (Exists.intro _ (Exists.intro _ (And.intro rfl (And.intro rfl (And.intro (by first | omega | assumption | exact q_rg_up (by assumption) (by omega) | exact q_rg_up (q_rg_up (by assumption) (by omega)) (by omega) | exact q_rg_cpy (by assumption) (by assumption)) (?_))))))
        intro g_76 h76
        refine Exists.intro [6] (Exists.intro [q2 0, q1 150, q1 _, q1 _] (Exists.intro ([.inl (0, 600, .inl _)]) (And.intro rfl (And.intro rfl (And.intro rfl (And.intro trivial ?_))))))
        refine Exists.intro _ (Exists.intro _ (Exists.intro _ (And.intro rfl (And.intro rfl (And.intro (by first | omega | assumption | exact q_rg_up (by assumption) (by omega) | exact q_rg_up (q_rg_up (by assumption) (by omega)) (by omega) | exact q_rg_cpy (by assumption) (by assumption)) (?_))))))
        intro g_88 h88
        refine Exists.intro [7] (Exists.intro [q2 0, q1 322, q1 _, q1 _] (Exists.intro ([.inl (0, 1288, .inl _)]) (And.intro rfl (And.intro rfl (And.intro rfl (And.intro trivial ?_))))))
        refine Exists.intro _ (Exists.intro _ (Exists.intro _ (And.intro rfl (And.intro rfl (And.intro (by first | omega | assumption | exact q_rg_up (by assumption) (by omega) | exact q_rg_up (q_rg_up (by assumption) (by omega)) (by omega) | exact q_rg_cpy (by assumption) (by assumption)) (?_))))))
        intro g_100 h100
        refine Exists.intro [8] (Exists.intro [q2 0, q1 18, q1 _, q1 _] (Exists.intro ([.inl (0, 72, .inl _)]) (And.intro rfl (And.intro rfl (And.intro rfl (And.intro trivial ?_))))))
        refine Exists.intro _ (Exists.intro _ (Exists.intro _ (And.intro rfl (And.intro rfl (And.intro (by first | omega | assumption | exact q_rg_up (by assumption) (by omega) | exact q_rg_up (q_rg_up (by assumption) (by omega)) (by omega) | exact q_rg_cpy (by assumption) (by assumption)) (?_))))))
        intro g_111 h111
        refine Exists.intro [9] (Exists.intro [q2 0, q1 42, q1 _, q1 _] (Exists.intro ([.inl (0, 168, .inl _)]) (And.intro rfl (And.intro rfl (And.intro rfl (And.intro trivial ?_))))))
        refine Exists.intro _ (Exists.intro _ (Exists.intro _ (And.intro rfl (And.intro rfl (And.intro (by first | omega | assumption | exact q_rg_up (by assumption) (by omega) | exact q_rg_up (q_rg_up (by assumption) (by omega)) (by omega) | exact q_rg_cpy (by assumption) (by assumption)) (?_))))))
        intro g_122 h122
        exact hQ _ _ _ _ _ _ _ _ _ ⟨⟨cpR_BI (by omega) (by omega) hbi h88, cpR_YI (by omega) (by omega) hyi h100, cpR_SI (by omega) (by omega) hsi h122, cpR_rg hmn h76, cpR_rg hsz h46⟩, h46⟩
      · intro h6
        intro z17 h17
        first | replace h17 := e_mul h17 (by omega) | replace h17 := e_rng h17
        intro z19 h19
        first | replace h19 := e_add h19 (by omega) | replace h19 := e_rng h19
        intro z28 h28
        first | replace h28 := e_mul h28 (by omega) | replace h28 := e_rng h28
        intro z30 h30
        first | replace h30 := e_add h30 (by omega) | replace h30 := e_rng h30
        apply And.intro
        · exact ⟨by omega, by omega⟩
        intro z31 h31
        have e31 : -128 ≤ z31 ∧ z31 ≤ 127 := by rw [h31]; exact d9 _
        apply And.intro
        · exact ⟨by omega, by omega⟩
        apply And.intro
        · first | omega | exact Or.inr rfl | exact Or.inl rfl
        intro z33 h33
        first | replace h33 := e_add h33 (by omega) | replace h33 := e_rng h33
        exact ⟨_, ⟨_, _, rfl, rfl, rfl, rfl, (by first | omega | assumption | exact q_rg_up (by assumption) (by omega) | exact q_rg_up (q_rg_up (by assumption) (by omega)) (by omega) | exact q_rg_cpy (by assumption) (by assumption))⟩, by omega⟩
    simp only [I_X12_copyAll, h2, if_false] at hI
  rintro lv st w' ⟨rfl, rfl, rfl⟩
  exact ⟨_, _, _, rfl, rfl, rfl, rfl, (by first | omega | assumption | exact q_rg_up (by assumption) (by omega) | exact q_rg_up (q_rg_up (by assumption) (by omega)) (by omega) | exact q_rg_cpy (by assumption) (by assumption))⟩

theorem dX12_image_0 : decode cX12_image 0 = .ok (.aload_n 0, 1) := by decide +kernel
theorem dX12_image_1 : decode cX12_image 1 = .ok (.iconst 0, 1) := by decide +kernel
theorem dX12_image_2 : decode cX12_image 2 = .ok (.putfield 88, 3) := by decide +kernel
theorem dX12_image_5 : decode cX12_image 5 = .ok (.iload_n 1, 1) := by decide +kernel
theorem dX12_image_6 : decode cX12_image 6 = .ok (.iconst 0, 1) := by decide +kernel
theorem dX12_image_7 : decode cX12_image 7 = .ok (.iconst 2, 1) := by decide +kernel
theorem dX12_image_8 : decode cX12_image 8 = .ok (.invokestatic 100, 3) := by decide +kernel
theorem dX12_image_11 : decode cX12_image 11 = .ok (.ifCond .ne 5, 3) := by decide +kernel
theorem dX12_image_14 : decode cX12_image 14 = .ok (.iconst 0, 1) := by decide +kernel
theorem dX12_image_15 : decode cX12_image 15 = .ok (.ireturn, 1) := by decide +kernel
theorem dX12_image_16 : decode cX12_image 16 = .ok (.aload_n 0, 1) := by decide +kernel
theorem dX12_image_17 : decode cX12_image 17 = .ok (.iconst 0, 1) := by decide +kernel
theorem dX12_image_18 : decode cX12_image 18 = .ok (.iload_n 1, 1) := by decide +kernel
theorem dX12_image_19 : decode cX12_image 19 = .ok (.iconst 1, 1) := by decide +kernel
theorem dX12_image_20 : decode cX12_image 20 = .ok (.iadd, 1) := by decide +kernel
theorem dX12_image_21 : decode cX12_image 21 = .ok (.invokevirtual 516, 3) := by decide +kernel
theorem dX12_image_24 : decode cX12_image 24 = .ok (.aload_n 0, 1) := by decide +kernel
theorem dX12_image_25 : decode cX12_image 25 = .ok (.getfield 84, 3) := by decide +kernel
theorem dX12_image_28 : decode cX12_image 28 = .ok (.iload_n 1, 1) := by decide +kernel
theorem dX12_image_29 : decode cX12_image 29 = .ok (.iconst 1, 1) := by decide +kernel
theorem dX12_image_30 : decode cX12_image 30 = .ok (.bastore, 1) := by decide +kernel
theorem dX12_image_31 : decode cX12_image 31 = .ok (.iconst 1, 1) := by decide +kernel
theorem dX12_image_32 : decode cX12_image 32 = .ok (.ireturn, 1) := by decide +kernel
def is_X12_image : Nat → List Nat := fun d => []
set_option maxRecDepth 100000 in
def b_X12_image_0 (J : Nat → List qV → List qV → qW → Prop) (Q : qR) : qK := x_aload 0 (x_int 0 (x_put 12 0 q_oki (x_nw (x_iload 1 (x_int 0 (x_int 2 (x_callr none 3 spr_X12_in (x_if_ne (x_aload 0 (x_int 0 (x_iload 1 (x_int 1 (x_iadd (x_call (some 12) 3 sp_X12_copyAll (x_nw (x_aload 0 (x_get 12 44 (x_iload 1 (x_int 1 (x_zast (x_nw (x_int 1 (x_zret Q))))))))))))))) (x_int 0 (x_zret Q))))))))))
set_option maxRecDepth 100000 in
theorem s_X12_image_0 {p : Program} {l : Launch} {e : Env} {R : Room} {s : State} {m : MethodId} {args : Array Value} {below : List Frame} {meth : Method} {c : Code} {nW : Nat} {dC : Nat → ClassId} {dI : Nat → Nat → Nat} {k : Nat → ClassId} {g : Nat → Nat} {A : Nat → Prop} {J : Nat → List qV → List qV → qW → Prop} {Q : qR} (X : q_X p R s m args meth c cX12_image 2 nW 2 47 RX12 (some .boolean) dC dI k g A) (hJ : ∀ d : Nat, q_Sd p l e R s m args below meth c 2 nW dC dI k g A (MQ below (q_post (dC, dI) k g nW Q A) args s 0 0 A) d (x_cut (is_X12_image d) (J d))) : q_Sd p l e R s m args below meth c 2 nW dC dI k g A (MQ below (q_post (dC, dI) k g nW Q A) args s 0 0 A) 0 (b_X12_image_0 J Q) := by
  unfold b_X12_image_0
  refine s_aload_n X rfl dX12_image_0 ?_
  refine s_iconst X ⟨by decide, by decide⟩ dX12_image_1 ?_
  refine s_put X (T := TX12) (C := RX12) (N := 45) tu_X12 tyX12_ok nmX12 rfl (by decide) tw_997 rfl (by decide +kernel) q_oki_t dX12_image_2 ?_
  refine s_nw ?_
  refine s_iload_n X rfl dX12_image_5 ?_
  refine s_iconst X ⟨by decide, by decide⟩ dX12_image_6 ?_
  refine s_iconst X ⟨by decide, by decide⟩ dX12_image_7 ?_
  refine s_callSr X (m_X12_in l) tw_1054 tw_1055 tw_134 tw_1056 (by decide +kernel) ⟨by decide, by decide⟩ dX12_image_8 ?_
  refine s_if_ne X (tgt := 16) dX12_image_11 (by decide) ?_ ?_
  · refine s_aload_n X rfl dX12_image_16 ?_
    refine s_iconst X ⟨by decide, by decide⟩ dX12_image_17 ?_
    refine s_iload_n X rfl dX12_image_18 ?_
    refine s_iconst X ⟨by decide, by decide⟩ dX12_image_19 ?_
    refine s_iadd X dX12_image_20 ?_
    refine s_callV X (m_X12_copyAll l) tw_1473 tw_1474 tw_1554 tw_134 tw_1475 rfl (by decide +kernel) ⟨by decide, by decide⟩ dX12_image_21 ?_
    refine s_nw ?_
    refine s_aload_n X rfl dX12_image_24 ?_
    refine s_get X (T := TX12) (C := RX12) (N := 45) tu_X12 rfl (by decide) tw_1041 dX12_image_25 ?_
    refine s_iload_n X rfl dX12_image_28 ?_
    refine s_iconst X ⟨by decide, by decide⟩ dX12_image_29 ?_
    refine s_zast X dX12_image_30 ?_
    refine s_nw ?_
    refine s_iconst X ⟨by decide, by decide⟩ dX12_image_31 ?_
    exact s_zret X dX12_image_32
  · refine s_iconst X ⟨by decide, by decide⟩ dX12_image_14 ?_
    exact s_zret X dX12_image_15

def sp_X12_image : qS := fun av w Q => ∃ (mco : Int) (mre : Int) (mle : Int) (mbe : Int) (mso : Int) (mva : Int) (mwo : Int) (mwr : Int) (mlf : Int) (mlp : Int) (mfp : Int) (mfd : Int) (mgo : Int) (mbo : Int) (mpe : Int) (mye : Int) (mpr : Int) (mld : Int) (msi : Int) (mse : Int) (tp : Nat → Int) (siz : Nat → Int) (fa : Nat → Int) (fpl : Nat → Int) (mn : Nat → Int) (bs : Nat → Int) (ys : Nat → Int) (ls : Nat → Int) (ss : Nat → Int) (kp : Nat → Int) (a : Int), av = [q2 0, q1 a] ∧ w = [.inr (12, [q1 mco, q2 1, q2 2, q2 3, q2 4, q2 5, q2 6, q2 7, q2 8, q2 9, q1 mre, q1 mle, q1 mbe, q1 mso, q1 mva, q3 mwo, q1 mwr, q1 mlf, q1 mlp, q2 11, q2 12, q1 mfp, q1 mfd, q1 mgo, q1 mbo, q1 mpe, q1 mye, q2 13, q1 mpr, q2 14, q2 15, q2 16, q2 17, q1 mld, q2 18, q1 msi, q2 19, q2 20, q2 21, q2 22, q2 23, q1 mse, q2 24, q2 25, q2 10]), .inl (1, 2400, .inl tp), .inl (0, 4, .inl siz), .inl (0, 4, .inl fa), .inl (0, 4, .inl fpl), .inl (0, 16, .inl mn), .inl (0, 600, .inl bs), .inl (0, 1288, .inl ys), .inl (0, 72, .inl ls), .inl (0, 168, .inl ss), .inl (2, 3, .inl kp)] ∧ (BI bs) ∧ (YI ys) ∧ (SI ss) ∧ (q_rg 0 2 mn) ∧ (q_rg 0 600 siz) ∧ (∀ (r : Int) (x_mco : Int) (x_tp : Nat → Int) (x_siz : Nat → Int) (x_fa : Nat → Int) (x_fpl : Nat → Int) (x_mn : Nat → Int) (x_bs : Nat → Int) (x_ys : Nat → Int) (x_ls : Nat → Int) (x_ss : Nat → Int) (x_kp : Nat → Int), (imR a r siz x_siz kp x_kp ∧ (BI x_bs ∧ YI x_ys ∧ SI x_ss ∧ q_rg 0 2 x_mn ∧ q_rg 0 600 x_siz)) → Q (some (q1 r)) ([.inr (12, [q1 x_mco, q2 1, q2 2, q2 3, q2 4, q2 5, q2 6, q2 7, q2 8, q2 9, q1 mre, q1 mle, q1 mbe, q1 mso, q1 mva, q3 mwo, q1 mwr, q1 mlf, q1 mlp, q2 11, q2 12, q1 mfp, q1 mfd, q1 mgo, q1 mbo, q1 mpe, q1 mye, q2 13, q1 mpr, q2 14, q2 15, q2 16, q2 17, q1 mld, q2 18, q1 msi, q2 19, q2 20, q2 21, q2 22, q2 23, q1 mse, q2 24, q2 25, q2 10]), .inl (1, 2400, .inl x_tp), .inl (0, 4, .inl x_siz), .inl (0, 4, .inl x_fa), .inl (0, 4, .inl x_fpl), .inl (0, 16, .inl x_mn), .inl (0, 600, .inl x_bs), .inl (0, 1288, .inl x_ys), .inl (0, 72, .inl x_ls), .inl (0, 168, .inl x_ss), .inl (2, 3, .inl x_kp)]))
set_option maxHeartbeats 4000000 in
set_option maxRecDepth 100000 in
theorem m_X12_image (l : Launch) : q_M l yX12_image cX12_image 2 (some .boolean) 2 47 sp_X12_image := by
  refine q_meth (by decide) (fun av w Q h => by obtain ⟨mco, mre, mle, mbe, mso, mva, mwo, mwr, mlf, mlp, mfp, mfd, mgo, mbo, mpe, mye, mpr, mld, msi, mse, tp, siz, fa, fpl, mn, bs, ys, ls, ss, kp, a, rfl, rfl, hbi, hyi, hsi, hmn, hsz, hQ⟩ := h; exact Nat.le_of_ble_eq_true rfl) ?_
  intro p e R s m args below meth c dC dI k g A av w Q hsp oka okw X
  obtain ⟨mco, mre, mle, mbe, mso, mva, mwo, mwr, mlf, mlp, mfp, mfd, mgo, mbo, mpe, mye, mpr, mld, msi, mse, tp, siz, fa, fpl, mn, bs, ys, ls, ss, kp, a, rfl, rfl, hbi, hyi, hsi, hmn, hsz, hQ⟩ := hsp
  have o_a : -2147483648 ≤ a ∧ a ≤ 2147483647 := oka _ (List.mem_of_getElem? (i := 1) rfl)
  refine s_mono (s_X12_image_0 X (J := fun _ _ _ _ => False) (fun d => s_cutF)) ?_
  rintro lv st w' ⟨rfl, rfl, rfl⟩
  apply And.intro
  · exact trivial
  refine Exists.intro [] (Exists.intro [q1 _, q1 _, q1 _] (Exists.intro [] (And.intro rfl (And.intro rfl (And.intro rfl (And.intro trivial ?_))))))
  refine Exists.intro _ (Exists.intro _ (Exists.intro _ (And.intro rfl (And.intro rfl (?_)))))
  intro z8 h8
  apply And.intro
  · intro h11
    first | replace h8 := dj1 h8 h11 | replace h8 := dj0 h8 h11
    intro z20 h20
    first | replace h20 := e_add h20 (by omega) | replace h20 := e_rng h20
    refine Exists.intro [0, 1, 2, 3, 4, 5, 6, 7, 8, 9, 11, 12, 13, 14, 15, 16, 17, 18, 19, 20, 21, 22, 23, 24, 25, 10] (Exists.intro [q2 0, q1 _, q1 _] (Exists.intro ([.inr (12, [q1 _, q2 1, q2 2, q2 3, q2 4, q2 5, q2 6, q2 7, q2 8, q2 9, q1 _, q1 _, q1 _, q1 _, q1 _, q3 _, q1 _, q1 _, q1 _, q2 10, q2 11, q1 _, q1 _, q1 _, q1 _, q1 _, q1 _, q2 12, q1 _, q2 13, q2 14, q2 15, q2 16, q1 _, q2 17, q1 _, q2 18, q2 19, q2 20, q2 21, q2 22, q1 _, q2 23, q2 24, q2 25]), .inl (1, 2400, .inl _), .inl (0, 4, .inl _), .inl (0, 4, .inl _), .inl (0, 4, .inl _), .inl (0, 16, .inl _), .inl (0, 600, .inl _), .inl (0, 1288, .inl _), .inl (0, 72, .inl _), .inl (0, 168, .inl _)]) (And.intro rfl (And.intro rfl (And.intro rfl (And.intro ⟨⟨_, rfl⟩, rfl⟩ ?_))))))
    refine Exists.intro _ (Exists.intro _ (Exists.intro _ (Exists.intro _ (Exists.intro _ (Exists.intro _ (Exists.intro _ (Exists.intro _ (Exists.intro _ (Exists.intro _ (Exists.intro _ (Exists.intro _ (Exists.intro _ (Exists.intro _ (Exists.intro _ (Exists.intro _ (Exists.intro _ (Exists.intro _ (Exists.intro _ (Exists.intro _ (Exists.intro _ (Exists.intro _ (Exists.intro _ (Exists.intro _ (Exists.intro _ (Exists.intro _ (Exists.intro _ (Exists.intro _ (Exists.intro _ (Exists.intro _ (Exists.intro _ (And.intro rfl (And.intro rfl (And.intro (by first | omega | assumption | exact q_rg_up (by assumption) (by omega) | exact q_rg_up (q_rg_up (by assumption) (by omega)) (by omega) | exact q_rg_cpy (by assumption) (by assumption)) (And.intro (by first | omega | assumption | exact q_rg_up (by assumption) (by omega) | exact q_rg_up (q_rg_up (by assumption) (by omega)) (by omega) | exact q_rg_cpy (by assumption) (by assumption)) (And.intro (by first | omega | assumption | exact q_rg_up (by assumption) (by omega) | exact q_rg_up (q_rg_up (by assumption) (by omega)) (by omega) | exact q_rg_cpy (by assumption) (by assumption)) (And.intro (by first | omega | assumption | exact q_rg_up (by assumption) (by omega) | exact q_rg_up (q_rg_up (by assumption) (by omega)) (by omega) | exact q_rg_cpy (by assumption) (by assumption)) (And.intro (by first | omega | assumption | exact q_rg_up (by assumption) (by omega) | exact q_rg_up (q_rg_up (by assumption) (by omega)) (by omega) | exact q_rg_cpy (by assumption) (by assumption)) (And.intro (by first | omega | assumption | exact q_rg_up (by assumption) (by omega) | exact q_rg_up (q_rg_up (by assumption) (by omega)) (by omega) | exact q_rg_cpy (by assumption) (by assumption)) (?_)))))))))))))))))))))))))))))))))))))))
    intro x_tp_21 x_siz_21 x_fa_21 x_fpl_21 x_mn_21 x_bs_21 x_ys_21 x_ls_21 x_ss_21 h21
    apply And.intro
    · exact ⟨by omega, by omega⟩
    apply And.intro
    · first | omega | exact Or.inr rfl | exact Or.inl rfl
    apply And.intro
    · first | exact Or.inl rfl | exact Or.inr rfl | omega
    exact hQ _ _ _ _ _ _ _ _ _ _ _ _ (by first | exact ⟨Or.inl ⟨rfl, ⟨by omega, by omega⟩, (by rw [show a + 1 = z20 by omega]; exact h21.2), rfl⟩, h21.1⟩ | exact ⟨Or.inr ⟨rfl, by omega, rfl, rfl⟩, hbi, hyi, hsi, hmn, hsz⟩)
  · intro h11
    first | replace h8 := dj1 h8 h11 | replace h8 := dj0 h8 h11
    apply And.intro
    · first | exact Or.inl rfl | exact Or.inr rfl | omega
    exact hQ _ _ _ _ _ _ _ _ _ _ _ _ (by first | exact ⟨Or.inl ⟨rfl, ⟨by omega, by omega⟩, (by rw [show a + 1 = z20 by omega]; exact h21.2), rfl⟩, h21.1⟩ | exact ⟨Or.inr ⟨rfl, by omega, rfl, rfl⟩, hbi, hyi, hsi, hmn, hsz⟩)

theorem dX12_again_0 : decode cX12_again 0 = .ok (.aload_n 0, 1) := by decide +kernel
theorem dX12_again_1 : decode cX12_again 1 = .ok (.iconst 0, 1) := by decide +kernel
theorem dX12_again_2 : decode cX12_again 2 = .ok (.putfield 88, 3) := by decide +kernel
theorem dX12_again_5 : decode cX12_again 5 = .ok (.iload_n 1, 1) := by decide +kernel
theorem dX12_again_6 : decode cX12_again 6 = .ok (.iconst 0, 1) := by decide +kernel
theorem dX12_again_7 : decode cX12_again 7 = .ok (.iconst 2, 1) := by decide +kernel
theorem dX12_again_8 : decode cX12_again 8 = .ok (.invokestatic 100, 3) := by decide +kernel
theorem dX12_again_11 : decode cX12_again 11 = .ok (.ifCond .eq 12, 3) := by decide +kernel
theorem dX12_again_14 : decode cX12_again 14 = .ok (.aload_n 0, 1) := by decide +kernel
theorem dX12_again_15 : decode cX12_again 15 = .ok (.getfield 84, 3) := by decide +kernel
theorem dX12_again_18 : decode cX12_again 18 = .ok (.iload_n 1, 1) := by decide +kernel
theorem dX12_again_19 : decode cX12_again 19 = .ok (.baload, 1) := by decide +kernel
theorem dX12_again_20 : decode cX12_again 20 = .ok (.ifCond .ne 5, 3) := by decide +kernel
theorem dX12_again_23 : decode cX12_again 23 = .ok (.iconst 0, 1) := by decide +kernel
theorem dX12_again_24 : decode cX12_again 24 = .ok (.ireturn, 1) := by decide +kernel
theorem dX12_again_25 : decode cX12_again 25 = .ok (.aload_n 0, 1) := by decide +kernel
theorem dX12_again_26 : decode cX12_again 26 = .ok (.iload_n 1, 1) := by decide +kernel
theorem dX12_again_27 : decode cX12_again 27 = .ok (.iconst 1, 1) := by decide +kernel
theorem dX12_again_28 : decode cX12_again 28 = .ok (.iadd, 1) := by decide +kernel
theorem dX12_again_29 : decode cX12_again 29 = .ok (.iconst 0, 1) := by decide +kernel
theorem dX12_again_30 : decode cX12_again 30 = .ok (.invokevirtual 516, 3) := by decide +kernel
theorem dX12_again_33 : decode cX12_again 33 = .ok (.iconst 1, 1) := by decide +kernel
theorem dX12_again_34 : decode cX12_again 34 = .ok (.ireturn, 1) := by decide +kernel
def is_X12_again : Nat → List Nat := fun d => []
set_option maxRecDepth 100000 in
def b_X12_again_23 (J : Nat → List qV → List qV → qW → Prop) (Q : qR) : qK := x_int 0 (x_zret Q)
set_option maxRecDepth 100000 in
theorem s_X12_again_23 {p : Program} {l : Launch} {e : Env} {R : Room} {s : State} {m : MethodId} {args : Array Value} {below : List Frame} {meth : Method} {c : Code} {nW : Nat} {dC : Nat → ClassId} {dI : Nat → Nat → Nat} {k : Nat → ClassId} {g : Nat → Nat} {A : Nat → Prop} {J : Nat → List qV → List qV → qW → Prop} {Q : qR} (X : q_X p R s m args meth c cX12_again 2 nW 2 47 RX12 (some .boolean) dC dI k g A) (hJ : ∀ d : Nat, q_Sd p l e R s m args below meth c 2 nW dC dI k g A (MQ below (q_post (dC, dI) k g nW Q A) args s 0 0 A) d (x_cut (is_X12_again d) (J d))) : q_Sd p l e R s m args below meth c 2 nW dC dI k g A (MQ below (q_post (dC, dI) k g nW Q A) args s 0 0 A) 23 (b_X12_again_23 J Q) := by
  unfold b_X12_again_23
  refine s_iconst X ⟨by decide, by decide⟩ dX12_again_23 ?_
  exact s_zret X dX12_again_24
set_option maxRecDepth 100000 in
def b_X12_again_0 (J : Nat → List qV → List qV → qW → Prop) (Q : qR) : qK := x_aload 0 (x_int 0 (x_put 12 0 q_oki (x_nw (x_iload 1 (x_int 0 (x_int 2 (x_callr none 3 spr_X12_in (x_if_eq (b_X12_again_23 J Q) (x_aload 0 (x_get 12 44 (x_iload 1 (x_zald (x_if_ne (x_aload 0 (x_iload 1 (x_int 1 (x_iadd (x_int 0 (x_call (some 12) 3 sp_X12_copyAll (x_nw (x_int 1 (x_zret Q))))))))) (b_X12_again_23 J Q))))))))))))))
set_option maxRecDepth 100000 in
theorem s_X12_again_0 {p : Program} {l : Launch} {e : Env} {R : Room} {s : State} {m : MethodId} {args : Array Value} {below : List Frame} {meth : Method} {c : Code} {nW : Nat} {dC : Nat → ClassId} {dI : Nat → Nat → Nat} {k : Nat → ClassId} {g : Nat → Nat} {A : Nat → Prop} {J : Nat → List qV → List qV → qW → Prop} {Q : qR} (X : q_X p R s m args meth c cX12_again 2 nW 2 47 RX12 (some .boolean) dC dI k g A) (hJ : ∀ d : Nat, q_Sd p l e R s m args below meth c 2 nW dC dI k g A (MQ below (q_post (dC, dI) k g nW Q A) args s 0 0 A) d (x_cut (is_X12_again d) (J d))) : q_Sd p l e R s m args below meth c 2 nW dC dI k g A (MQ below (q_post (dC, dI) k g nW Q A) args s 0 0 A) 0 (b_X12_again_0 J Q) := by
  unfold b_X12_again_0
  refine s_aload_n X rfl dX12_again_0 ?_
  refine s_iconst X ⟨by decide, by decide⟩ dX12_again_1 ?_
  refine s_put X (T := TX12) (C := RX12) (N := 45) tu_X12 tyX12_ok nmX12 rfl (by decide) tw_997 rfl (by decide +kernel) q_oki_t dX12_again_2 ?_
  refine s_nw ?_
  refine s_iload_n X rfl dX12_again_5 ?_
  refine s_iconst X ⟨by decide, by decide⟩ dX12_again_6 ?_
  refine s_iconst X ⟨by decide, by decide⟩ dX12_again_7 ?_
  refine s_callSr X (m_X12_in l) tw_1054 tw_1055 tw_134 tw_1056 (by decide +kernel) ⟨by decide, by decide⟩ dX12_again_8 ?_
  refine s_if_eq X (tgt := 23) dX12_again_11 (by decide) ?_ ?_
  · exact s_X12_again_23 X hJ
  · refine s_aload_n X rfl dX12_again_14 ?_
    refine s_get X (T := TX12) (C := RX12) (N := 45) tu_X12 rfl (by decide) tw_1041 dX12_again_15 ?_
    refine s_iload_n X rfl dX12_again_18 ?_
    refine s_zald X dX12_again_19 ?_
    refine s_if_ne X (tgt := 25) dX12_again_20 (by decide) ?_ ?_
    · refine s_aload_n X rfl dX12_again_25 ?_
      refine s_iload_n X rfl dX12_again_26 ?_
      refine s_iconst X ⟨by decide, by decide⟩ dX12_again_27 ?_
      refine s_iadd X dX12_again_28 ?_
      refine s_iconst X ⟨by decide, by decide⟩ dX12_again_29 ?_
      refine s_callV X (m_X12_copyAll l) tw_1473 tw_1474 tw_1554 tw_134 tw_1475 rfl (by decide +kernel) ⟨by decide, by decide⟩ dX12_again_30 ?_
      refine s_nw ?_
      refine s_iconst X ⟨by decide, by decide⟩ dX12_again_33 ?_
      exact s_zret X dX12_again_34
    · exact s_X12_again_23 X hJ

def sp_X12_again : qS := fun av w Q => ∃ (mco : Int) (mre : Int) (mle : Int) (mbe : Int) (mso : Int) (mva : Int) (mwo : Int) (mwr : Int) (mlf : Int) (mlp : Int) (mfp : Int) (mfd : Int) (mgo : Int) (mbo : Int) (mpe : Int) (mye : Int) (mpr : Int) (mld : Int) (msi : Int) (mse : Int) (tp : Nat → Int) (siz : Nat → Int) (fa : Nat → Int) (fpl : Nat → Int) (mn : Nat → Int) (bs : Nat → Int) (ys : Nat → Int) (ls : Nat → Int) (ss : Nat → Int) (kp : Nat → Int) (a : Int), av = [q2 0, q1 a] ∧ w = [.inr (12, [q1 mco, q2 1, q2 2, q2 3, q2 4, q2 5, q2 6, q2 7, q2 8, q2 9, q1 mre, q1 mle, q1 mbe, q1 mso, q1 mva, q3 mwo, q1 mwr, q1 mlf, q1 mlp, q2 11, q2 12, q1 mfp, q1 mfd, q1 mgo, q1 mbo, q1 mpe, q1 mye, q2 13, q1 mpr, q2 14, q2 15, q2 16, q2 17, q1 mld, q2 18, q1 msi, q2 19, q2 20, q2 21, q2 22, q2 23, q1 mse, q2 24, q2 25, q2 10]), .inl (1, 2400, .inl tp), .inl (0, 4, .inl siz), .inl (0, 4, .inl fa), .inl (0, 4, .inl fpl), .inl (0, 16, .inl mn), .inl (0, 600, .inl bs), .inl (0, 1288, .inl ys), .inl (0, 72, .inl ls), .inl (0, 168, .inl ss), .inl (2, 3, .inl kp)] ∧ (BI bs) ∧ (YI ys) ∧ (SI ss) ∧ (q_rg 0 2 mn) ∧ (q_rg 0 600 siz) ∧ (∀ (r : Int) (x_mco : Int) (x_tp : Nat → Int) (x_siz : Nat → Int) (x_fa : Nat → Int) (x_fpl : Nat → Int) (x_mn : Nat → Int) (x_bs : Nat → Int) (x_ys : Nat → Int) (x_ls : Nat → Int) (x_ss : Nat → Int), (agR a r kp siz x_siz ∧ (BI x_bs ∧ YI x_ys ∧ SI x_ss ∧ q_rg 0 2 x_mn ∧ q_rg 0 600 x_siz)) → Q (some (q1 r)) ([.inr (12, [q1 x_mco, q2 1, q2 2, q2 3, q2 4, q2 5, q2 6, q2 7, q2 8, q2 9, q1 mre, q1 mle, q1 mbe, q1 mso, q1 mva, q3 mwo, q1 mwr, q1 mlf, q1 mlp, q2 11, q2 12, q1 mfp, q1 mfd, q1 mgo, q1 mbo, q1 mpe, q1 mye, q2 13, q1 mpr, q2 14, q2 15, q2 16, q2 17, q1 mld, q2 18, q1 msi, q2 19, q2 20, q2 21, q2 22, q2 23, q1 mse, q2 24, q2 25, q2 10]), .inl (1, 2400, .inl x_tp), .inl (0, 4, .inl x_siz), .inl (0, 4, .inl x_fa), .inl (0, 4, .inl x_fpl), .inl (0, 16, .inl x_mn), .inl (0, 600, .inl x_bs), .inl (0, 1288, .inl x_ys), .inl (0, 72, .inl x_ls), .inl (0, 168, .inl x_ss), .inl (2, 3, .inl kp)]))
set_option maxHeartbeats 4000000 in
set_option maxRecDepth 100000 in
theorem m_X12_again (l : Launch) : q_M l yX12_again cX12_again 2 (some .boolean) 2 47 sp_X12_again := by
  refine q_meth (by decide) (fun av w Q h => by obtain ⟨mco, mre, mle, mbe, mso, mva, mwo, mwr, mlf, mlp, mfp, mfd, mgo, mbo, mpe, mye, mpr, mld, msi, mse, tp, siz, fa, fpl, mn, bs, ys, ls, ss, kp, a, rfl, rfl, hbi, hyi, hsi, hmn, hsz, hQ⟩ := h; exact Nat.le_of_ble_eq_true rfl) ?_
  intro p e R s m args below meth c dC dI k g A av w Q hsp oka okw X
  obtain ⟨mco, mre, mle, mbe, mso, mva, mwo, mwr, mlf, mlp, mfp, mfd, mgo, mbo, mpe, mye, mpr, mld, msi, mse, tp, siz, fa, fpl, mn, bs, ys, ls, ss, kp, a, rfl, rfl, hbi, hyi, hsi, hmn, hsz, hQ⟩ := hsp
  have o_a : -2147483648 ≤ a ∧ a ≤ 2147483647 := oka _ (List.mem_of_getElem? (i := 1) rfl)
  refine s_mono (s_X12_again_0 X (J := fun _ _ _ _ => False) (fun d => s_cutF)) ?_
  rintro lv st w' ⟨rfl, rfl, rfl⟩
  apply And.intro
  · exact trivial
  refine Exists.intro [] (Exists.intro [q1 _, q1 _, q1 _] (Exists.intro [] (And.intro rfl (And.intro rfl (And.intro rfl (And.intro trivial ?_))))))
  refine Exists.intro _ (Exists.intro _ (Exists.intro _ (And.intro rfl (And.intro rfl (?_)))))
  intro z8 h8
  apply And.intro
  · intro h11
    first | replace h8 := dj1 h8 h11 | replace h8 := dj0 h8 h11
    apply And.intro
    · first | exact Or.inl rfl | exact Or.inr rfl | omega
    exact hQ _ _ _ _ _ _ _ _ _ _ _ (by first | exact ⟨Or.inl ⟨rfl, ⟨by omega, by omega⟩, (by rw [← h19]; exact h20), (by rw [show a + 1 = z28 by omega]; exact h30.2)⟩, h30.1⟩ | exact ⟨Or.inr ⟨rfl, (fun h9 => h9.2 (by rw [← h19]; omega)), rfl⟩, hbi, hyi, hsi, hmn, hsz⟩ | exact ⟨Or.inr ⟨rfl, (fun h9 => by omega), rfl⟩, hbi, hyi, hsi, hmn, hsz⟩)
  · intro h11
    first | replace h8 := dj1 h8 h11 | replace h8 := dj0 h8 h11
    apply And.intro
    · exact ⟨by omega, by omega⟩
    intro z19 h19
    apply And.intro
    · intro h20
      intro z28 h28
      first | replace h28 := e_add h28 (by omega) | replace h28 := e_rng h28
      refine Exists.intro [0, 1, 2, 3, 4, 5, 6, 7, 8, 9, 11, 12, 13, 14, 15, 16, 17, 18, 19, 20, 21, 22, 23, 24, 25, 10] (Exists.intro [q2 0, q1 _, q1 _] (Exists.intro ([.inr (12, [q1 _, q2 1, q2 2, q2 3, q2 4, q2 5, q2 6, q2 7, q2 8, q2 9, q1 _, q1 _, q1 _, q1 _, q1 _, q3 _, q1 _, q1 _, q1 _, q2 10, q2 11, q1 _, q1 _, q1 _, q1 _, q1 _, q1 _, q2 12, q1 _, q2 13, q2 14, q2 15, q2 16, q1 _, q2 17, q1 _, q2 18, q2 19, q2 20, q2 21, q2 22, q1 _, q2 23, q2 24, q2 25]), .inl (1, 2400, .inl _), .inl (0, 4, .inl _), .inl (0, 4, .inl _), .inl (0, 4, .inl _), .inl (0, 16, .inl _), .inl (0, 600, .inl _), .inl (0, 1288, .inl _), .inl (0, 72, .inl _), .inl (0, 168, .inl _)]) (And.intro rfl (And.intro rfl (And.intro rfl (And.intro ⟨⟨_, rfl⟩, rfl⟩ ?_))))))
      refine Exists.intro _ (Exists.intro _ (Exists.intro _ (Exists.intro _ (Exists.intro _ (Exists.intro _ (Exists.intro _ (Exists.intro _ (Exists.intro _ (Exists.intro _ (Exists.intro _ (Exists.intro _ (Exists.intro _ (Exists.intro _ (Exists.intro _ (Exists.intro _ (Exists.intro _ (Exists.intro _ (Exists.intro _ (Exists.intro _ (Exists.intro _ (Exists.intro _ (Exists.intro _ (Exists.intro _ (Exists.intro _ (Exists.intro _ (Exists.intro _ (Exists.intro _ (Exists.intro _ (Exists.intro _ (Exists.intro _ (And.intro rfl (And.intro rfl (And.intro (by first | omega | assumption | exact q_rg_up (by assumption) (by omega) | exact q_rg_up (q_rg_up (by assumption) (by omega)) (by omega) | exact q_rg_cpy (by assumption) (by assumption)) (And.intro (by first | omega | assumption | exact q_rg_up (by assumption) (by omega) | exact q_rg_up (q_rg_up (by assumption) (by omega)) (by omega) | exact q_rg_cpy (by assumption) (by assumption)) (And.intro (by first | omega | assumption | exact q_rg_up (by assumption) (by omega) | exact q_rg_up (q_rg_up (by assumption) (by omega)) (by omega) | exact q_rg_cpy (by assumption) (by assumption)) (And.intro (by first | omega | assumption | exact q_rg_up (by assumption) (by omega) | exact q_rg_up (q_rg_up (by assumption) (by omega)) (by omega) | exact q_rg_cpy (by assumption) (by assumption)) (And.intro (by first | omega | assumption | exact q_rg_up (by assumption) (by omega) | exact q_rg_up (q_rg_up (by assumption) (by omega)) (by omega) | exact q_rg_cpy (by assumption) (by assumption)) (And.intro (by first | omega | assumption | exact q_rg_up (by assumption) (by omega) | exact q_rg_up (q_rg_up (by assumption) (by omega)) (by omega) | exact q_rg_cpy (by assumption) (by assumption)) (?_)))))))))))))))))))))))))))))))))))))))
      intro x_tp_30 x_siz_30 x_fa_30 x_fpl_30 x_mn_30 x_bs_30 x_ys_30 x_ls_30 x_ss_30 h30
      apply And.intro
      · first | exact Or.inl rfl | exact Or.inr rfl | omega
      exact hQ _ _ _ _ _ _ _ _ _ _ _ (by first | exact ⟨Or.inl ⟨rfl, ⟨by omega, by omega⟩, (by rw [← h19]; exact h20), (by rw [show a + 1 = z28 by omega]; exact h30.2)⟩, h30.1⟩ | exact ⟨Or.inr ⟨rfl, (fun h9 => h9.2 (by rw [← h19]; omega)), rfl⟩, hbi, hyi, hsi, hmn, hsz⟩ | exact ⟨Or.inr ⟨rfl, (fun h9 => by omega), rfl⟩, hbi, hyi, hsi, hmn, hsz⟩)
    · intro h20
      apply And.intro
      · first | exact Or.inl rfl | exact Or.inr rfl | omega
      exact hQ _ _ _ _ _ _ _ _ _ _ _ (by first | exact ⟨Or.inl ⟨rfl, ⟨by omega, by omega⟩, (by rw [← h19]; exact h20), (by rw [show a + 1 = z28 by omega]; exact h30.2)⟩, h30.1⟩ | exact ⟨Or.inr ⟨rfl, (fun h9 => h9.2 (by rw [← h19]; omega)), rfl⟩, hbi, hyi, hsi, hmn, hsz⟩ | exact ⟨Or.inr ⟨rfl, (fun h9 => by omega), rfl⟩, hbi, hyi, hsi, hmn, hsz⟩)
