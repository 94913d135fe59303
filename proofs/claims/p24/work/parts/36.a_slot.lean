theorem dX6_readSlot_0 : decode cX6_readSlot 0 = .ok (.aload_n 0, 1) := by decide +kernel
theorem dX6_readSlot_1 : decode cX6_readSlot 1 = .ok (.invokevirtual 55, 3) := by decide +kernel
theorem dX6_readSlot_4 : decode cX6_readSlot 4 = .ok (.iconst 3, 1) := by decide +kernel
theorem dX6_readSlot_5 : decode cX6_readSlot 5 = .ok (.iload_n 1, 1) := by decide +kernel
theorem dX6_readSlot_6 : decode cX6_readSlot 6 = .ok (.imul, 1) := by decide +kernel
theorem dX6_readSlot_7 : decode cX6_readSlot 7 = .ok (.iload_n 2, 1) := by decide +kernel
theorem dX6_readSlot_8 : decode cX6_readSlot 8 = .ok (.iadd, 1) := by decide +kernel
theorem dX6_readSlot_9 : decode cX6_readSlot 9 = .ok (.istore_n 3, 1) := by decide +kernel
theorem dX6_readSlot_10 : decode cX6_readSlot 10 = .ok (.getstatic 200, 3) := by decide +kernel
theorem dX6_readSlot_13 : decode cX6_readSlot 13 = .ok (.iload_n 3, 1) := by decide +kernel
theorem dX6_readSlot_14 : decode cX6_readSlot 14 = .ok (.iaload, 1) := by decide +kernel
theorem dX6_readSlot_15 : decode cX6_readSlot 15 = .ok (.iconst 2, 1) := by decide +kernel
theorem dX6_readSlot_16 : decode cX6_readSlot 16 = .ok (.if_icmp .ne 29, 3) := by decide +kernel
theorem dX6_readSlot_19 : decode cX6_readSlot 19 = .ok (.aload_n 0, 1) := by decide +kernel
theorem dX6_readSlot_20 : decode cX6_readSlot 20 = .ok (.getfield 39, 3) := by decide +kernel
theorem dX6_readSlot_23 : decode cX6_readSlot 23 = .ok (.iload_n 2, 1) := by decide +kernel
theorem dX6_readSlot_24 : decode cX6_readSlot 24 = .ok (.aload_n 0, 1) := by decide +kernel
theorem dX6_readSlot_25 : decode cX6_readSlot 25 = .ok (.invokevirtual 210, 3) := by decide +kernel
theorem dX6_readSlot_28 : decode cX6_readSlot 28 = .ok (.iastore, 1) := by decide +kernel
theorem dX6_readSlot_29 : decode cX6_readSlot 29 = .ok (.aload_n 0, 1) := by decide +kernel
theorem dX6_readSlot_30 : decode cX6_readSlot 30 = .ok (.getfield 39, 3) := by decide +kernel
theorem dX6_readSlot_33 : decode cX6_readSlot 33 = .ok (.iload_n 2, 1) := by decide +kernel
theorem dX6_readSlot_34 : decode cX6_readSlot 34 = .ok (.iaload, 1) := by decide +kernel
theorem dX6_readSlot_35 : decode cX6_readSlot 35 = .ok (.iconst (-1), 1) := by decide +kernel
theorem dX6_readSlot_36 : decode cX6_readSlot 36 = .ok (.if_icmp .eq 7, 3) := by decide +kernel
theorem dX6_readSlot_39 : decode cX6_readSlot 39 = .ok (.iconst 1, 1) := by decide +kernel
theorem dX6_readSlot_40 : decode cX6_readSlot 40 = .ok (.goto 4, 3) := by decide +kernel
theorem dX6_readSlot_43 : decode cX6_readSlot 43 = .ok (.iconst 0, 1) := by decide +kernel
theorem dX6_readSlot_44 : decode cX6_readSlot 44 = .ok (.ireturn, 1) := by decide +kernel
theorem dX6_readSlot_45 : decode cX6_readSlot 45 = .ok (.getstatic 200, 3) := by decide +kernel
theorem dX6_readSlot_48 : decode cX6_readSlot 48 = .ok (.iload_n 3, 1) := by decide +kernel
theorem dX6_readSlot_49 : decode cX6_readSlot 49 = .ok (.iaload, 1) := by decide +kernel
theorem dX6_readSlot_50 : decode cX6_readSlot 50 = .ok (.iconst 1, 1) := by decide +kernel
theorem dX6_readSlot_51 : decode cX6_readSlot 51 = .ok (.if_icmp .ne 11, 3) := by decide +kernel
theorem dX6_readSlot_54 : decode cX6_readSlot 54 = .ok (.aload_n 0, 1) := by decide +kernel
theorem dX6_readSlot_55 : decode cX6_readSlot 55 = .ok (.getfield 58, 3) := by decide +kernel
theorem dX6_readSlot_58 : decode cX6_readSlot 58 = .ok (.iconst 2, 1) := by decide +kernel
theorem dX6_readSlot_59 : decode cX6_readSlot 59 = .ok (.if_icmp .eq 5, 3) := by decide +kernel
theorem dX6_readSlot_62 : decode cX6_readSlot 62 = .ok (.iconst 0, 1) := by decide +kernel
theorem dX6_readSlot_63 : decode cX6_readSlot 63 = .ok (.ireturn, 1) := by decide +kernel
theorem dX6_readSlot_64 : decode cX6_readSlot 64 = .ok (.aload_n 0, 1) := by decide +kernel
theorem dX6_readSlot_65 : decode cX6_readSlot 65 = .ok (.getfield 39, 3) := by decide +kernel
theorem dX6_readSlot_68 : decode cX6_readSlot 68 = .ok (.iload_n 2, 1) := by decide +kernel
theorem dX6_readSlot_69 : decode cX6_readSlot 69 = .ok (.aload_n 0, 1) := by decide +kernel
theorem dX6_readSlot_70 : decode cX6_readSlot 70 = .ok (.getfield 130, 3) := by decide +kernel
theorem dX6_readSlot_73 : decode cX6_readSlot 73 = .ok (.iastore, 1) := by decide +kernel
theorem dX6_readSlot_74 : decode cX6_readSlot 74 = .ok (.iload_n 1, 1) := by decide +kernel
theorem dX6_readSlot_75 : decode cX6_readSlot 75 = .ok (.iconst 5, 1) := by decide +kernel
theorem dX6_readSlot_76 : decode cX6_readSlot 76 = .ok (.if_icmp .eq 9, 3) := by decide +kernel
theorem dX6_readSlot_79 : decode cX6_readSlot 79 = .ok (.iload_n 1, 1) := by decide +kernel
theorem dX6_readSlot_80 : decode cX6_readSlot 80 = .ok (.bipush 13, 2) := by decide +kernel
theorem dX6_readSlot_82 : decode cX6_readSlot 82 = .ok (.if_icmp .ne 25, 3) := by decide +kernel
theorem dX6_readSlot_85 : decode cX6_readSlot 85 = .ok (.iload_n 2, 1) := by decide +kernel
theorem dX6_readSlot_86 : decode cX6_readSlot 86 = .ok (.iconst 1, 1) := by decide +kernel
theorem dX6_readSlot_87 : decode cX6_readSlot 87 = .ok (.if_icmp .ne 20, 3) := by decide +kernel
theorem dX6_readSlot_90 : decode cX6_readSlot 90 = .ok (.aload_n 0, 1) := by decide +kernel
theorem dX6_readSlot_91 : decode cX6_readSlot 91 = .ok (.getfield 130, 3) := by decide +kernel
theorem dX6_readSlot_94 : decode cX6_readSlot 94 = .ok (.aload_n 0, 1) := by decide +kernel
theorem dX6_readSlot_95 : decode cX6_readSlot 95 = .ok (.getfield 39, 3) := by decide +kernel
theorem dX6_readSlot_98 : decode cX6_readSlot 98 = .ok (.iconst 0, 1) := by decide +kernel
theorem dX6_readSlot_99 : decode cX6_readSlot 99 = .ok (.iaload, 1) := by decide +kernel
theorem dX6_readSlot_100 : decode cX6_readSlot 100 = .ok (.if_icmp .ne 7, 3) := by decide +kernel
theorem dX6_readSlot_103 : decode cX6_readSlot 103 = .ok (.iconst 1, 1) := by decide +kernel
theorem dX6_readSlot_104 : decode cX6_readSlot 104 = .ok (.goto 4, 3) := by decide +kernel
theorem dX6_readSlot_107 : decode cX6_readSlot 107 = .ok (.iconst 0, 1) := by decide +kernel
theorem dX6_readSlot_108 : decode cX6_readSlot 108 = .ok (.istore 4, 2) := by decide +kernel
theorem dX6_readSlot_110 : decode cX6_readSlot 110 = .ok (.aload_n 0, 1) := by decide +kernel
theorem dX6_readSlot_111 : decode cX6_readSlot 111 = .ok (.getfield 130, 3) := by decide +kernel
theorem dX6_readSlot_114 : decode cX6_readSlot 114 = .ok (.getstatic 213, 3) := by decide +kernel
theorem dX6_readSlot_117 : decode cX6_readSlot 117 = .ok (.iload_n 3, 1) := by decide +kernel
theorem dX6_readSlot_118 : decode cX6_readSlot 118 = .ok (.iaload, 1) := by decide +kernel
theorem dX6_readSlot_119 : decode cX6_readSlot 119 = .ok (.if_icmp .lt 20, 3) := by decide +kernel
theorem dX6_readSlot_122 : decode cX6_readSlot 122 = .ok (.aload_n 0, 1) := by decide +kernel
theorem dX6_readSlot_123 : decode cX6_readSlot 123 = .ok (.getfield 130, 3) := by decide +kernel
theorem dX6_readSlot_126 : decode cX6_readSlot 126 = .ok (.getstatic 216, 3) := by decide +kernel
theorem dX6_readSlot_129 : decode cX6_readSlot 129 = .ok (.iload_n 3, 1) := by decide +kernel
theorem dX6_readSlot_130 : decode cX6_readSlot 130 = .ok (.iaload, 1) := by decide +kernel
theorem dX6_readSlot_131 : decode cX6_readSlot 131 = .ok (.if_icmp .gt 8, 3) := by decide +kernel
theorem dX6_readSlot_134 : decode cX6_readSlot 134 = .ok (.iload 4, 2) := by decide +kernel
theorem dX6_readSlot_136 : decode cX6_readSlot 136 = .ok (.ifCond .eq 12, 3) := by decide +kernel
theorem dX6_readSlot_139 : decode cX6_readSlot 139 = .ok (.aload_n 0, 1) := by decide +kernel
theorem dX6_readSlot_140 : decode cX6_readSlot 140 = .ok (.iconst 2, 1) := by decide +kernel
theorem dX6_readSlot_141 : decode cX6_readSlot 141 = .ok (.aload_n 0, 1) := by decide +kernel
theorem dX6_readSlot_142 : decode cX6_readSlot 142 = .ok (.getfield 72, 3) := by decide +kernel
theorem dX6_readSlot_145 : decode cX6_readSlot 145 = .ok (.invokevirtual 106, 3) := by decide +kernel
theorem dX6_readSlot_148 : decode cX6_readSlot 148 = .ok (.iconst 1, 1) := by decide +kernel
theorem dX6_readSlot_149 : decode cX6_readSlot 149 = .ok (.ireturn, 1) := by decide +kernel
def is_X6_readSlot : Nat → List Nat := fun d => []
set_option maxRecDepth 100000 in
def b_X6_readSlot_148 (J : Nat → List qV → List qV → qW → Prop) (Q : qR) : qK := x_int 1 (x_zret Q)
set_option maxRecDepth 100000 in
theorem s_X6_readSlot_148 {p : Program} {l : Launch} {e : Env} {R : Room} {s : State} {m : MethodId} {args : Array Value} {below : List Frame} {meth : Method} {c : Code} {nW : Nat} {dC : Nat → ClassId} {dI : Nat → Nat → Nat} {k : Nat → ClassId} {g : Nat → Nat} {A : Nat → Prop} {J : Nat → List qV → List qV → qW → Prop} {Q : qR} (X : q_X p R s m args meth c cX6_readSlot 5 nW 6 127 RX6 (some .boolean) dC dI k g A) (hJ : ∀ d : Nat, q_Sd p l e R s m args below meth c 5 nW dC dI k g A (MQ below (q_post (dC, dI) k g nW Q A) args s 0 0 A) d (x_cut (is_X6_readSlot d) (J d))) : q_Sd p l e R s m args below meth c 5 nW dC dI k g A (MQ below (q_post (dC, dI) k g nW Q A) args s 0 0 A) 148 (b_X6_readSlot_148 J Q) := by
  unfold b_X6_readSlot_148
  refine s_iconst X ⟨by decide, by decide⟩ dX6_readSlot_148 ?_
  exact s_zret X dX6_readSlot_149
set_option maxRecDepth 100000 in
def b_X6_readSlot_139 (J : Nat → List qV → List qV → qW → Prop) (Q : qR) : qK := x_aload 0 (x_int 2 (x_aload 0 (x_get 6 9 (x_call (some 6) 3 sp_X6_note (x_nw (b_X6_readSlot_148 J Q))))))
set_option maxRecDepth 100000 in
theorem s_X6_readSlot_139 {p : Program} {l : Launch} {e : Env} {R : Room} {s : State} {m : MethodId} {args : Array Value} {below : List Frame} {meth : Method} {c : Code} {nW : Nat} {dC : Nat → ClassId} {dI : Nat → Nat → Nat} {k : Nat → ClassId} {g : Nat → Nat} {A : Nat → Prop} {J : Nat → List qV → List qV → qW → Prop} {Q : qR} (X : q_X p R s m args meth c cX6_readSlot 5 nW 6 127 RX6 (some .boolean) dC dI k g A) (hJ : ∀ d : Nat, q_Sd p l e R s m args below meth c 5 nW dC dI k g A (MQ below (q_post (dC, dI) k g nW Q A) args s 0 0 A) d (x_cut (is_X6_readSlot d) (J d))) : q_Sd p l e R s m args below meth c 5 nW dC dI k g A (MQ below (q_post (dC, dI) k g nW Q A) args s 0 0 A) 139 (b_X6_readSlot_139 J Q) := by
  unfold b_X6_readSlot_139
  refine s_aload_n X rfl dX6_readSlot_139 ?_
  refine s_iconst X ⟨by decide, by decide⟩ dX6_readSlot_140 ?_
  refine s_aload_n X rfl dX6_readSlot_141 ?_
  refine s_get X (T := TX6) (C := RX6) (N := 15) tu_X6 rfl (by decide) tw_282 dX6_readSlot_142 ?_
  refine s_callV X (m_X6_note l) tw_391 tw_392 tw_1514 tw_128 tw_393 rfl (by decide +kernel) ⟨by decide, by decide⟩ dX6_readSlot_145 ?_
  refine s_nw ?_
  exact s_X6_readSlot_148 X hJ
set_option maxRecDepth 100000 in
def b_X6_readSlot_108 (J : Nat → List qV → List qV → qW → Prop) (Q : qR) : qK := x_istore 4 (x_aload 0 (x_get 6 12 (x_stat 2 (x_iload 3 (x_sald 2 qs_2 (x_icmp_lt (b_X6_readSlot_139 J Q) (x_aload 0 (x_get 6 12 (x_stat 3 (x_iload 3 (x_sald 3 qs_3 (x_icmp_gt (b_X6_readSlot_139 J Q) (x_iload 4 (x_if_eq (b_X6_readSlot_148 J Q) (b_X6_readSlot_139 J Q)))))))))))))))
set_option maxRecDepth 100000 in
theorem s_X6_readSlot_108 {p : Program} {l : Launch} {e : Env} {R : Room} {s : State} {m : MethodId} {args : Array Value} {below : List Frame} {meth : Method} {c : Code} {nW : Nat} {dC : Nat → ClassId} {dI : Nat → Nat → Nat} {k : Nat → ClassId} {g : Nat → Nat} {A : Nat → Prop} {J : Nat → List qV → List qV → qW → Prop} {Q : qR} (X : q_X p R s m args meth c cX6_readSlot 5 nW 6 127 RX6 (some .boolean) dC dI k g A) (hJ : ∀ d : Nat, q_Sd p l e R s m args below meth c 5 nW dC dI k g A (MQ below (q_post (dC, dI) k g nW Q A) args s 0 0 A) d (x_cut (is_X6_readSlot d) (J d))) : q_Sd p l e R s m args below meth c 5 nW dC dI k g A (MQ below (q_post (dC, dI) k g nW Q A) args s 0 0 A) 108 (b_X6_readSlot_108 J Q) := by
  unfold b_X6_readSlot_108
  refine s_istore X (by decide) dX6_readSlot_108 ?_
  refine s_aload_n X rfl dX6_readSlot_110 ?_
  refine s_get X (T := TX6) (C := RX6) (N := 15) tu_X6 rfl (by decide) tw_285 dX6_readSlot_111 ?_
  refine s_stat X (nm := _) (xs := qs_2) rfl (List.mem_of_getElem? (i := 1) rfl) dX6_readSlot_114 ?_
  refine s_iload_n X rfl dX6_readSlot_117 ?_
  refine s_sald X (nm := _) rfl qs_2_ok dX6_readSlot_118 ?_
  refine s_icmp_lt X (tgt := 139) dX6_readSlot_119 (by decide) ?_ ?_
  · exact s_X6_readSlot_139 X hJ
  · refine s_aload_n X rfl dX6_readSlot_122 ?_
    refine s_get X (T := TX6) (C := RX6) (N := 15) tu_X6 rfl (by decide) tw_285 dX6_readSlot_123 ?_
    refine s_stat X (nm := _) (xs := qs_3) rfl (List.mem_of_getElem? (i := 2) rfl) dX6_readSlot_126 ?_
    refine s_iload_n X rfl dX6_readSlot_129 ?_
    refine s_sald X (nm := _) rfl qs_3_ok dX6_readSlot_130 ?_
    refine s_icmp_gt X (tgt := 139) dX6_readSlot_131 (by decide) ?_ ?_
    · exact s_X6_readSlot_139 X hJ
    · refine s_iload X dX6_readSlot_134 ?_
      refine s_if_eq X (tgt := 148) dX6_readSlot_136 (by decide) ?_ ?_
      · exact s_X6_readSlot_148 X hJ
      · exact s_X6_readSlot_139 X hJ
set_option maxRecDepth 100000 in
def b_X6_readSlot_107 (J : Nat → List qV → List qV → qW → Prop) (Q : qR) : qK := x_int 0 (b_X6_readSlot_108 J Q)
set_option maxRecDepth 100000 in
theorem s_X6_readSlot_107 {p : Program} {l : Launch} {e : Env} {R : Room} {s : State} {m : MethodId} {args : Array Value} {below : List Frame} {meth : Method} {c : Code} {nW : Nat} {dC : Nat → ClassId} {dI : Nat → Nat → Nat} {k : Nat → ClassId} {g : Nat → Nat} {A : Nat → Prop} {J : Nat → List qV → List qV → qW → Prop} {Q : qR} (X : q_X p R s m args meth c cX6_readSlot 5 nW 6 127 RX6 (some .boolean) dC dI k g A) (hJ : ∀ d : Nat, q_Sd p l e R s m args below meth c 5 nW dC dI k g A (MQ below (q_post (dC, dI) k g nW Q A) args s 0 0 A) d (x_cut (is_X6_readSlot d) (J d))) : q_Sd p l e R s m args below meth c 5 nW dC dI k g A (MQ below (q_post (dC, dI) k g nW Q A) args s 0 0 A) 107 (b_X6_readSlot_107 J Q) := by
  unfold b_X6_readSlot_107
  refine s_iconst X ⟨by decide, by decide⟩ dX6_readSlot_107 ?_
  exact s_X6_readSlot_108 X hJ
set_option maxRecDepth 100000 in
def b_X6_readSlot_85 (J : Nat → List qV → List qV → qW → Prop) (Q : qR) : qK := x_iload 2 (x_int 1 (x_icmp_ne (b_X6_readSlot_107 J Q) (x_aload 0 (x_get 6 12 (x_aload 0 (x_get 6 4 (x_int 0 (x_iald (x_icmp_ne (b_X6_readSlot_107 J Q) (x_int 1 (b_X6_readSlot_108 J Q)))))))))))
set_option maxRecDepth 100000 in
theorem s_X6_readSlot_85 {p : Program} {l : Launch} {e : Env} {R : Room} {s : State} {m : MethodId} {args : Array Value} {below : List Frame} {meth : Method} {c : Code} {nW : Nat} {dC : Nat → ClassId} {dI : Nat → Nat → Nat} {k : Nat → ClassId} {g : Nat → Nat} {A : Nat → Prop} {J : Nat → List qV → List qV → qW → Prop} {Q : qR} (X : q_X p R s m args meth c cX6_readSlot 5 nW 6 127 RX6 (some .boolean) dC dI k g A) (hJ : ∀ d : Nat, q_Sd p l e R s m args below meth c 5 nW dC dI k g A (MQ below (q_post (dC, dI) k g nW Q A) args s 0 0 A) d (x_cut (is_X6_readSlot d) (J d))) : q_Sd p l e R s m args below meth c 5 nW dC dI k g A (MQ below (q_post (dC, dI) k g nW Q A) args s 0 0 A) 85 (b_X6_readSlot_85 J Q) := by
  unfold b_X6_readSlot_85
  refine s_iload_n X rfl dX6_readSlot_85 ?_
  refine s_iconst X ⟨by decide, by decide⟩ dX6_readSlot_86 ?_
  refine s_icmp_ne X (tgt := 107) dX6_readSlot_87 (by decide) ?_ ?_
  · exact s_X6_readSlot_107 X hJ
  · refine s_aload_n X rfl dX6_readSlot_90 ?_
    refine s_get X (T := TX6) (C := RX6) (N := 15) tu_X6 rfl (by decide) tw_285 dX6_readSlot_91 ?_
    refine s_aload_n X rfl dX6_readSlot_94 ?_
    refine s_get X (T := TX6) (C := RX6) (N := 15) tu_X6 rfl (by decide) tw_275 dX6_readSlot_95 ?_
    refine s_iconst X ⟨by decide, by decide⟩ dX6_readSlot_98 ?_
    refine s_iald X dX6_readSlot_99 ?_
    refine s_icmp_ne X (tgt := 107) dX6_readSlot_100 (by decide) ?_ ?_
    · exact s_X6_readSlot_107 X hJ
    · refine s_iconst X ⟨by decide, by decide⟩ dX6_readSlot_103 ?_
      refine s_goto X (tgt := 108) dX6_readSlot_104 (by decide) ?_
      exact s_X6_readSlot_108 X hJ
set_option maxRecDepth 100000 in
def b_X6_readSlot_62 (J : Nat → List qV → List qV → qW → Prop) (Q : qR) : qK := x_int 0 (x_zret Q)
set_option maxRecDepth 100000 in
theorem s_X6_readSlot_62 {p : Program} {l : Launch} {e : Env} {R : Room} {s : State} {m : MethodId} {args : Array Value} {below : List Frame} {meth : Method} {c : Code} {nW : Nat} {dC : Nat → ClassId} {dI : Nat → Nat → Nat} {k : Nat → ClassId} {g : Nat → Nat} {A : Nat → Prop} {J : Nat → List qV → List qV → qW → Prop} {Q : qR} (X : q_X p R s m args meth c cX6_readSlot 5 nW 6 127 RX6 (some .boolean) dC dI k g A) (hJ : ∀ d : Nat, q_Sd p l e R s m args below meth c 5 nW dC dI k g A (MQ below (q_post (dC, dI) k g nW Q A) args s 0 0 A) d (x_cut (is_X6_readSlot d) (J d))) : q_Sd p l e R s m args below meth c 5 nW dC dI k g A (MQ below (q_post (dC, dI) k g nW Q A) args s 0 0 A) 62 (b_X6_readSlot_62 J Q) := by
  unfold b_X6_readSlot_62
  refine s_iconst X ⟨by decide, by decide⟩ dX6_readSlot_62 ?_
  exact s_zret X dX6_readSlot_63
set_option maxRecDepth 100000 in
def b_X6_readSlot_44 (J : Nat → List qV → List qV → qW → Prop) (Q : qR) : qK := x_zret Q
set_option maxRecDepth 100000 in
theorem s_X6_readSlot_44 {p : Program} {l : Launch} {e : Env} {R : Room} {s : State} {m : MethodId} {args : Array Value} {below : List Frame} {meth : Method} {c : Code} {nW : Nat} {dC : Nat → ClassId} {dI : Nat → Nat → Nat} {k : Nat → ClassId} {g : Nat → Nat} {A : Nat → Prop} {J : Nat → List qV → List qV → qW → Prop} {Q : qR} (X : q_X p R s m args meth c cX6_readSlot 5 nW 6 127 RX6 (some .boolean) dC dI k g A) (hJ : ∀ d : Nat, q_Sd p l e R s m args below meth c 5 nW dC dI k g A (MQ below (q_post (dC, dI) k g nW Q A) args s 0 0 A) d (x_cut (is_X6_readSlot d) (J d))) : q_Sd p l e R s m args below meth c 5 nW dC dI k g A (MQ below (q_post (dC, dI) k g nW Q A) args s 0 0 A) 44 (b_X6_readSlot_44 J Q) := by
  unfold b_X6_readSlot_44
  exact s_zret X dX6_readSlot_44
set_option maxRecDepth 100000 in
def b_X6_readSlot_36 (J : Nat → List qV → List qV → qW → Prop) (Q : qR) : qK := x_icmp_eq (x_int 0 (b_X6_readSlot_44 J Q)) (x_int 1 (b_X6_readSlot_44 J Q))
set_option maxRecDepth 100000 in
theorem s_X6_readSlot_36 {p : Program} {l : Launch} {e : Env} {R : Room} {s : State} {m : MethodId} {args : Array Value} {below : List Frame} {meth : Method} {c : Code} {nW : Nat} {dC : Nat → ClassId} {dI : Nat → Nat → Nat} {k : Nat → ClassId} {g : Nat → Nat} {A : Nat → Prop} {J : Nat → List qV → List qV → qW → Prop} {Q : qR} (X : q_X p R s m args meth c cX6_readSlot 5 nW 6 127 RX6 (some .boolean) dC dI k g A) (hJ : ∀ d : Nat, q_Sd p l e R s m args below meth c 5 nW dC dI k g A (MQ below (q_post (dC, dI) k g nW Q A) args s 0 0 A) d (x_cut (is_X6_readSlot d) (J d))) : q_Sd p l e R s m args below meth c 5 nW dC dI k g A (MQ below (q_post (dC, dI) k g nW Q A) args s 0 0 A) 36 (b_X6_readSlot_36 J Q) := by
  unfold b_X6_readSlot_36
  refine s_icmp_eq X (tgt := 43) dX6_readSlot_36 (by decide) ?_ ?_
  · refine s_iconst X ⟨by decide, by decide⟩ dX6_readSlot_43 ?_
    exact s_X6_readSlot_44 X hJ
  · refine s_iconst X ⟨by decide, by decide⟩ dX6_readSlot_39 ?_
    refine s_goto X (tgt := 44) dX6_readSlot_40 (by decide) ?_
    exact s_X6_readSlot_44 X hJ
set_option maxRecDepth 100000 in
def b_X6_readSlot_0 (J : Nat → List qV → List qV → qW → Prop) (Q : qR) : qK := x_aload 0 (x_call (some 6) 1 sp_X6_advance (x_nw (x_int 3 (x_iload 1 (x_imul (x_iload 2 (x_iadd (x_istore 3 (x_stat 1 (x_iload 3 (x_sald 1 qs_1 (x_int 2 (x_icmp_ne (x_stat 1 (x_iload 3 (x_sald 1 qs_1 (x_int 1 (x_icmp_ne (b_X6_readSlot_62 J Q) (x_aload 0 (x_get 6 11 (x_int 2 (x_icmp_eq (x_aload 0 (x_get 6 4 (x_iload 2 (x_aload 0 (x_get 6 12 (x_iast (x_nw (x_iload 1 (x_int 5 (x_icmp_eq (b_X6_readSlot_85 J Q) (x_iload 1 (x_int 13 (x_icmp_ne (b_X6_readSlot_107 J Q) (b_X6_readSlot_85 J Q)))))))))))))) (b_X6_readSlot_62 J Q)))))))))) (x_aload 0 (x_get 6 4 (x_iload 2 (x_aload 0 (x_callr (some 6) 1 spr_X6_offenceWord (x_iast (x_nw (x_aload 0 (x_get 6 4 (x_iload 2 (x_iald (x_int (-1) (b_X6_readSlot_36 J Q))))))))))))))))))))))))))
set_option maxRecDepth 100000 in
theorem s_X6_readSlot_0 {p : Program} {l : Launch} {e : Env} {R : Room} {s : State} {m : MethodId} {args : Array Value} {below : List Frame} {meth : Method} {c : Code} {nW : Nat} {dC : Nat → ClassId} {dI : Nat → Nat → Nat} {k : Nat → ClassId} {g : Nat → Nat} {A : Nat → Prop} {J : Nat → List qV → List qV → qW → Prop} {Q : qR} (X : q_X p R s m args meth c cX6_readSlot 5 nW 6 127 RX6 (some .boolean) dC dI k g A) (hJ : ∀ d : Nat, q_Sd p l e R s m args below meth c 5 nW dC dI k g A (MQ below (q_post (dC, dI) k g nW Q A) args s 0 0 A) d (x_cut (is_X6_readSlot d) (J d))) : q_Sd p l e R s m args below meth c 5 nW dC dI k g A (MQ below (q_post (dC, dI) k g nW Q A) args s 0 0 A) 0 (b_X6_readSlot_0 J Q) := by
  unfold b_X6_readSlot_0
  refine s_aload_n X rfl dX6_readSlot_0 ?_
  refine s_callV X (m_X6_advance l) tw_373 tw_374 tw_1507 tw_128 tw_375 rfl (by decide +kernel) ⟨by decide, by decide⟩ dX6_readSlot_1 ?_
  refine s_nw ?_
  refine s_iconst X ⟨by decide, by decide⟩ dX6_readSlot_4 ?_
  refine s_iload_n X rfl dX6_readSlot_5 ?_
  refine s_imul X dX6_readSlot_6 ?_
  refine s_iload_n X rfl dX6_readSlot_7 ?_
  refine s_iadd X dX6_readSlot_8 ?_
  refine s_istore_n X rfl (by decide) dX6_readSlot_9 ?_
  refine s_stat X (nm := _) (xs := qs_1) rfl (List.mem_of_getElem? (i := 0) rfl) dX6_readSlot_10 ?_
  refine s_iload_n X rfl dX6_readSlot_13 ?_
  refine s_sald X (nm := _) rfl qs_1_ok dX6_readSlot_14 ?_
  refine s_iconst X ⟨by decide, by decide⟩ dX6_readSlot_15 ?_
  refine s_icmp_ne X (tgt := 45) dX6_readSlot_16 (by decide) ?_ ?_
  · refine s_stat X (nm := _) (xs := qs_1) rfl (List.mem_of_getElem? (i := 0) rfl) dX6_readSlot_45 ?_
    refine s_iload_n X rfl dX6_readSlot_48 ?_
    refine s_sald X (nm := _) rfl qs_1_ok dX6_readSlot_49 ?_
    refine s_iconst X ⟨by decide, by decide⟩ dX6_readSlot_50 ?_
    refine s_icmp_ne X (tgt := 62) dX6_readSlot_51 (by decide) ?_ ?_
    · exact s_X6_readSlot_62 X hJ
    · refine s_aload_n X rfl dX6_readSlot_54 ?_
      refine s_get X (T := TX6) (C := RX6) (N := 15) tu_X6 rfl (by decide) tw_284 dX6_readSlot_55 ?_
      refine s_iconst X ⟨by decide, by decide⟩ dX6_readSlot_58 ?_
      refine s_icmp_eq X (tgt := 64) dX6_readSlot_59 (by decide) ?_ ?_
      · refine s_aload_n X rfl dX6_readSlot_64 ?_
        refine s_get X (T := TX6) (C := RX6) (N := 15) tu_X6 rfl (by decide) tw_275 dX6_readSlot_65 ?_
        refine s_iload_n X rfl dX6_readSlot_68 ?_
        refine s_aload_n X rfl dX6_readSlot_69 ?_
        refine s_get X (T := TX6) (C := RX6) (N := 15) tu_X6 rfl (by decide) tw_285 dX6_readSlot_70 ?_
        refine s_iast X dX6_readSlot_73 ?_
        refine s_nw ?_
        refine s_iload_n X rfl dX6_readSlot_74 ?_
        refine s_iconst X ⟨by decide, by decide⟩ dX6_readSlot_75 ?_
        refine s_icmp_eq X (tgt := 85) dX6_readSlot_76 (by decide) ?_ ?_
        · exact s_X6_readSlot_85 X hJ
        · refine s_iload_n X rfl dX6_readSlot_79 ?_
          refine s_bipush X ⟨by decide, by decide⟩ (by decide) dX6_readSlot_80 ?_
          refine s_icmp_ne X (tgt := 107) dX6_readSlot_82 (by decide) ?_ ?_
          · exact s_X6_readSlot_107 X hJ
          · exact s_X6_readSlot_85 X hJ
      · exact s_X6_readSlot_62 X hJ
  · refine s_aload_n X rfl dX6_readSlot_19 ?_
    refine s_get X (T := TX6) (C := RX6) (N := 15) tu_X6 rfl (by decide) tw_275 dX6_readSlot_20 ?_
    refine s_iload_n X rfl dX6_readSlot_23 ?_
    refine s_aload_n X rfl dX6_readSlot_24 ?_
    refine s_callVr X (m_X6_offenceWord l) tw_466 tw_467 tw_1515 tw_128 tw_468 rfl (by decide +kernel) ⟨by decide, by decide⟩ dX6_readSlot_25 ?_
    refine s_iast X dX6_readSlot_28 ?_
    refine s_nw ?_
    refine s_aload_n X rfl dX6_readSlot_29 ?_
    refine s_get X (T := TX6) (C := RX6) (N := 15) tu_X6 rfl (by decide) tw_275 dX6_readSlot_30 ?_
    refine s_iload_n X rfl dX6_readSlot_33 ?_
    refine s_iald X dX6_readSlot_34 ?_
    refine s_iconst X ⟨by decide, by decide⟩ dX6_readSlot_35 ?_
    exact s_X6_readSlot_36 X hJ

def sp_X6_readSlot : qS := fun av w Q => ∃ (rln : Int) (rfa : Int) (rpl : Int) (rst : Int) (rnx : Int) (rtk : Int) (rnm : Int) (rnp : Int) (rnd : Int) (tp : Nat → Int) (rv : Nat → Int) (a : Int) (b : Int), av = [q2 0, q1 a, q1 b] ∧ w = [.inr (6, [q2 3, q2 4, q2 5, q2 6, q2 2, q2 1, q1 rln, q1 rfa, q1 rpl, q1 rst, q1 rnx, q1 rtk, q1 rnm, q1 rnp, q1 rnd]), .inl (1, 600, .inl tp), .inl (0, 3, .inl rv)] ∧ (0 ≤ rln ∧ rln ≤ 600 ∧ 0 ≤ rnx ∧ rnx ≤ rln ∧ 0 ≤ rst ∧ rst ≤ 600) ∧ (0 ≤ a ∧ a ≤ 16 ∧ 0 ≤ b ∧ b ≤ 2) ∧ (∀ (r : Int) (x_rst : Int) (x_rnx : Int) (x_rtk : Int) (x_rnm : Int) (x_rfa : Int) (x_rpl : Int) (x_rv : Nat → Int), ((r = 0 ∨ r = 1) ∧ (rnx ≤ x_rnx ∧ x_rnx ≤ rln ∧ 0 ≤ x_rst ∧ x_rst ≤ 600) ∧ (∀ j : Nat, j ≠ b.toNat → x_rv j = rv j) ∧ (r = 1 → a = 7 → b = 1 → x_rfa = 0 → 0 ≤ x_rv 1 ∧ x_rv 1 ≤ 9) ∧ (x_rfa = 0 → rfa = 0)) → Q (some (q1 r)) ([.inr (6, [q2 3, q2 4, q2 5, q2 6, q2 2, q2 1, q1 rln, q1 x_rfa, q1 x_rpl, q1 x_rst, q1 x_rnx, q1 x_rtk, q1 x_rnm, q1 rnp, q1 rnd]), .inl (1, 600, .inl tp), .inl (0, 3, .inl x_rv)]))
set_option maxHeartbeats 4000000 in
set_option maxRecDepth 100000 in
theorem m_X6_readSlot (l : Launch) : q_M l yX6_readSlot cX6_readSlot 5 (some .boolean) 6 127 sp_X6_readSlot := by
  refine q_meth (by decide) (fun av w Q h => by obtain ⟨rln, rfa, rpl, rst, rnx, rtk, rnm, rnp, rnd, tp, rv, a, b, rfl, rfl, hr, ha, hQ⟩ := h; exact Nat.le_of_ble_eq_true rfl) ?_
  intro p e R s m args below meth c dC dI k g A av w Q hsp oka okw X
  obtain ⟨rln, rfa, rpl, rst, rnx, rtk, rnm, rnp, rnd, tp, rv, a, b, rfl, rfl, hr, ha, hQ⟩ := hsp
  have o_a : -2147483648 ≤ a ∧ a ≤ 2147483647 := oka _ (List.mem_of_getElem? (i := 1) rfl)
  have o_b : -2147483648 ≤ b ∧ b ≤ 2147483647 := oka _ (List.mem_of_getElem? (i := 2) rfl)
  refine s_mono (s_X6_readSlot_0 X (J := fun _ _ _ _ => False) (fun d => s_cutF)) ?_
  rintro lv st w' ⟨rfl, rfl, rfl⟩
  refine Exists.intro [0, 1, 3, 4, 5, 6, 2] (Exists.intro [q2 0] (Exists.intro ([.inr (6, [q2 2, q2 3, q2 4, q2 5, q2 6, q2 1, q1 _, q1 _, q1 _, q1 _, q1 _, q1 _, q1 _, q1 _, q1 _]), .inl (1, 600, .inl _)]) (And.intro rfl (And.intro rfl (And.intro rfl (And.intro ⟨⟨_, rfl⟩, rfl⟩ ?_))))))
  refine Exists.intro _ (Exists.intro _ (Exists.intro _ (Exists.intro _ (Exists.intro _ (Exists.intro _ (Exists.intro _ (Exists.intro _ (Exists.intro _ (Exists.intro _ (And.intro rfl (And.intro rfl (And.intro (by first | omega | assumption | exact q_rg_up (by assumption) (by omega) | exact q_rg_up (q_rg_up (by assumption) (by omega)) (by omega) | exact q_rg_cpy (by assumption) (by assumption)) (?_)))))))))))))
  intro x_rst_1 x_rnx_1 x_rtk_1 x_rnm_1 h1
  intro z6 h6
  first | replace h6 := e_mul h6 (by omega) | replace h6 := e_rng h6
  intro z8 h8
  first | replace h8 := e_add h8 (by omega) | replace h8 := e_rng h8
  apply And.intro
  · exact ⟨by omega, by rw [show ((qs_1).length : Int) = 51 from rfl]; omega⟩
  intro z14 h14
  apply And.intro
  · intro h16
    apply And.intro
    · exact ⟨by omega, by rw [show ((qs_1).length : Int) = 51 from rfl]; omega⟩
    intro z49 h49
    apply And.intro
    · intro h51
      apply And.intro
      · first | exact Or.inl rfl | exact Or.inr rfl | omega
      exact hQ _ _ _ _ _ _ _ _ ⟨by omega, by omega, (by intro j hj; first | rfl | exact q_up_n hj), (by
    intro hr1 ha7 hb1 hf0
    have e22 : z8 = 22 := by omega
    subst hb1
    rw [e22] at h14
    have f14 : z14 = 1 := h14
    first
    | omega
    | (rw [e22] at h118 h130
       have f118 : z118 = 1 := h118
       have f130 : z130 = 9 := h130
       rw [show (1 : Int).toNat = 1 from rfl, q_up_s]
       omega)), by omega⟩
    · intro h51
      apply And.intro
      · intro h59
        apply And.intro
        · exact ⟨by omega, by omega⟩
        apply And.intro
        · intro h76
          apply And.intro
          · intro h87
            apply And.intro
            · exact ⟨by omega, by rw [show ((qs_2).length : Int) = 51 from rfl]; omega⟩
            intro z118 h118
            apply And.intro
            · intro h119
              refine Exists.intro [0, 3, 4, 5, 6, 2, 1] (Exists.intro [q2 0, q1 _, q1 _] (Exists.intro ([.inr (6, [q2 1, q2 2, q2 3, q2 4, q2 5, q2 6, q1 _, q1 _, q1 _, q1 _, q1 _, q1 _, q1 _, q1 _, q1 _])]) (And.intro rfl (And.intro rfl (And.intro rfl (And.intro ⟨⟨_, rfl⟩, rfl⟩ ?_))))))
              refine Exists.intro _ (Exists.intro _ (Exists.intro _ (Exists.intro _ (Exists.intro _ (Exists.intro _ (Exists.intro _ (Exists.intro _ (Exists.intro _ (Exists.intro _ (Exists.intro _ (And.intro rfl (And.intro rfl (?_)))))))))))))
              intro x_rfa_145 x_rpl_145 h145
              apply And.intro
              · first | exact Or.inl rfl | exact Or.inr rfl | omega
              exact hQ _ _ _ _ _ _ _ _ ⟨by omega, by omega, (by intro j hj; first | rfl | exact q_up_n hj), (by
    intro hr1 ha7 hb1 hf0
    have e22 : z8 = 22 := by omega
    subst hb1
    rw [e22] at h14
    have f14 : z14 = 1 := h14
    first
    | omega
    | (rw [e22] at h118 h130
       have f118 : z118 = 1 := h118
       have f130 : z130 = 9 := h130
       rw [show (1 : Int).toNat = 1 from rfl, q_up_s]
       omega)), by omega⟩
            · intro h119
              apply And.intro
              · exact ⟨by omega, by rw [show ((qs_3).length : Int) = 51 from rfl]; omega⟩
              intro z130 h130
              apply And.intro
              · intro h131
                refine Exists.intro [0, 3, 4, 5, 6, 2, 1] (Exists.intro [q2 0, q1 _, q1 _] (Exists.intro ([.inr (6, [q2 1, q2 2, q2 3, q2 4, q2 5, q2 6, q1 _, q1 _, q1 _, q1 _, q1 _, q1 _, q1 _, q1 _, q1 _])]) (And.intro rfl (And.intro rfl (And.intro rfl (And.intro ⟨⟨_, rfl⟩, rfl⟩ ?_))))))
                refine Exists.intro _ (Exists.intro _ (Exists.intro _ (Exists.intro _ (Exists.intro _ (Exists.intro _ (Exists.intro _ (Exists.intro _ (Exists.intro _ (Exists.intro _ (Exists.intro _ (And.intro rfl (And.intro rfl (?_)))))))))))))
                intro x_rfa_145 x_rpl_145 h145
                apply And.intro
                · first | exact Or.inl rfl | exact Or.inr rfl | omega
                exact hQ _ _ _ _ _ _ _ _ ⟨by omega, by omega, (by intro j hj; first | rfl | exact q_up_n hj), (by
    intro hr1 ha7 hb1 hf0
    have e22 : z8 = 22 := by omega
    subst hb1
    rw [e22] at h14
    have f14 : z14 = 1 := h14
    first
    | omega
    | (rw [e22] at h118 h130
       have f118 : z118 = 1 := h118
       have f130 : z130 = 9 := h130
       rw [show (1 : Int).toNat = 1 from rfl, q_up_s]
       omega)), by omega⟩
              · intro h131
                apply And.intro
                · intro h136
                  apply And.intro
                  · first | exact Or.inl rfl | exact Or.inr rfl | omega
                  exact hQ _ _ _ _ _ _ _ _ ⟨by omega, by omega, (by intro j hj; first | rfl | exact q_up_n hj), (by
    intro hr1 ha7 hb1 hf0
    have e22 : z8 = 22 := by omega
    subst hb1
    rw [e22] at h14
    have f14 : z14 = 1 := h14
    first
    | omega
    | (rw [e22] at h118 h130
       have f118 : z118 = 1 := h118
       have f130 : z130 = 9 := h130
       rw [show (1 : Int).toNat = 1 from rfl, q_up_s]
       omega)), by omega⟩
                · intro h136
                  refine Exists.intro [0, 3, 4, 5, 6, 2, 1] (Exists.intro [q2 0, q1 _, q1 _] (Exists.intro ([.inr (6, [q2 1, q2 2, q2 3, q2 4, q2 5, q2 6, q1 _, q1 _, q1 _, q1 _, q1 _, q1 _, q1 _, q1 _, q1 _])]) (And.intro rfl (And.intro rfl (And.intro rfl (And.intro ⟨⟨_, rfl⟩, rfl⟩ ?_))))))
                  refine Exists.intro _ (Exists.intro _ (Exists.intro _ (Exists.intro _ (Exists.intro _ (Exists.intro _ (Exists.intro _ (Exists.intro _ (Exists.intro _ (Exists.intro _ (Exists.intro _ (And.intro rfl (And.intro rfl (?_)))))))))))))
                  intro x_rfa_145 x_rpl_145 h145
                  apply And.intro
                  · first | exact Or.inl rfl | exact Or.inr rfl | omega
                  exact hQ _ _ _ _ _ _ _ _ ⟨by omega, by omega, (by intro j hj; first | rfl | exact q_up_n hj), (by
    intro hr1 ha7 hb1 hf0
    have e22 : z8 = 22 := by omega
    subst hb1
    rw [e22] at h14
    have f14 : z14 = 1 := h14
    first
    | omega
    | (rw [e22] at h118 h130
       have f118 : z118 = 1 := h118
       have f130 : z130 = 9 := h130
       rw [show (1 : Int).toNat = 1 from rfl, q_up_s]
       omega)), by omega⟩
          · intro h87
            apply And.intro
            · exact ⟨by omega, by omega⟩
            intro z99 h99
            apply And.intro
            · intro h100
              apply And.intro
              · exact ⟨by omega, by rw [show ((qs_2).length : Int) = 51 from rfl]; omega⟩
              intro z118 h118
              apply And.intro
              · intro h119
                refine Exists.intro [0, 3, 4, 5, 6, 2, 1] (Exists.intro [q2 0, q1 _, q1 _] (Exists.intro ([.inr (6, [q2 1, q2 2, q2 3, q2 4, q2 5, q2 6, q1 _, q1 _, q1 _, q1 _, q1 _, q1 _, q1 _, q1 _, q1 _])]) (And.intro rfl (And.intro rfl (And.intro rfl (And.intro ⟨⟨_, rfl⟩, rfl⟩ ?_))))))
                refine Exists.intro _ (Exists.intro _ (Exists.intro _ (Exists.intro _ (Exists.intro _ (Exists.intro _ (Exists.intro _ (Exists.intro _ (Exists.intro _ (Exists.intro _ (Exists.intro _ (And.intro rfl (And.intro rfl (?_)))))))))))))
                intro x_rfa_145 x_rpl_145 h145
                apply And.intro
                · first | exact Or.inl rfl | exact Or.inr rfl | omega
                exact hQ _ _ _ _ _ _ _ _ ⟨by omega, by omega, (by intro j hj; first | rfl | exact q_up_n hj), (by
    intro hr1 ha7 hb1 hf0
    have e22 : z8 = 22 := by omega
    subst hb1
    rw [e22] at h14
    have f14 : z14 = 1 := h14
    first
    | omega
    | (rw [e22] at h118 h130
       have f118 : z118 = 1 := h118
       have f130 : z130 = 9 := h130
       rw [show (1 : Int).toNat = 1 from rfl, q_up_s]
       omega)), by omega⟩
              · intro h119
                apply And.intro
                · exact ⟨by omega, by rw [show ((qs_3).length : Int) = 51 from rfl]; omega⟩
                intro z130 h130
                apply And.intro
                · intro h131
                  refine Exists.intro [0, 3, 4, 5, 6, 2, 1] (Exists.intro [q2 0, q1 _, q1 _] (Exists.intro ([.inr (6, [q2 1, q2 2, q2 3, q2 4, q2 5, q2 6, q1 _, q1 _, q1 _, q1 _, q1 _, q1 _, q1 _, q1 _, q1 _])]) (And.intro rfl (And.intro rfl (And.intro rfl (And.intro ⟨⟨_, rfl⟩, rfl⟩ ?_))))))
                  refine Exists.intro _ (Exists.intro _ (Exists.intro _ (Exists.intro _ (Exists.intro _ (Exists.intro _ (Exists.intro _ (Exists.intro _ (Exists.intro _ (Exists.intro _ (Exists.intro _ (And.intro rfl (And.intro rfl (?_)))))))))))))
                  intro x_rfa_145 x_rpl_145 h145
                  apply And.intro
                  · first | exact Or.inl rfl | exact Or.inr rfl | omega
                  exact hQ _ _ _ _ _ _ _ _ ⟨by omega, by omega, (by intro j hj; first | rfl | exact q_up_n hj), (by
    intro hr1 ha7 hb1 hf0
    have e22 : z8 = 22 := by omega
    subst hb1
    rw [e22] at h14
    have f14 : z14 = 1 := h14
    first
    | omega
    | (rw [e22] at h118 h130
       have f118 : z118 = 1 := h118
       have f130 : z130 = 9 := h130
       rw [show (1 : Int).toNat = 1 from rfl, q_up_s]
       omega)), by omega⟩
                · intro h131
                  apply And.intro
                  · intro h136
                    apply And.intro
                    · first | exact Or.inl rfl | exact Or.inr rfl | omega
                    exact hQ _ _ _ _ _ _ _ _ ⟨by omega, by omega, (by intro j hj; first | rfl | exact q_up_n hj), (by
    intro hr1 ha7 hb1 hf0
    have e22 : z8 = 22 := by omega
    subst hb1
    rw [e22] at h14
    have f14 : z14 = 1 := h14
    first
    | omega
    | (rw [e22] at h118 h130
       have f118 : z118 = 1 := h118
       have f130 : z130 = 9 := h130
       rw [show (1 : Int).toNat = 1 from rfl, q_up_s]
       omega)), by omega⟩
                  · intro h136
                    refine Exists.intro [0, 3, 4, 5, 6, 2, 1] (Exists.intro [q2 0, q1 _, q1 _] (Exists.intro ([.inr (6, [q2 1, q2 2, q2 3, q2 4, q2 5, q2 6, q1 _, q1 _, q1 _, q1 _, q1 _, q1 _, q1 _, q1 _, q1 _])]) (And.intro rfl (And.intro rfl (And.intro rfl (And.intro ⟨⟨_, rfl⟩, rfl⟩ ?_))))))
                    refine Exists.intro _ (Exists.intro _ (Exists.intro _ (Exists.intro _ (Exists.intro _ (Exists.intro _ (Exists.intro _ (Exists.intro _ (Exists.intro _ (Exists.intro _ (Exists.intro _ (And.intro rfl (And.intro rfl (?_)))))))))))))
                    intro x_rfa_145 x_rpl_145 h145
                    apply And.intro
                    · first | exact Or.inl rfl | exact Or.inr rfl | omega
                    exact hQ _ _ _ _ _ _ _ _ ⟨by omega, by omega, (by intro j hj; first | rfl | exact q_up_n hj), (by
    intro hr1 ha7 hb1 hf0
    have e22 : z8 = 22 := by omega
    subst hb1
    rw [e22] at h14
    have f14 : z14 = 1 := h14
    first
    | omega
    | (rw [e22] at h118 h130
       have f118 : z118 = 1 := h118
       have f130 : z130 = 9 := h130
       rw [show (1 : Int).toNat = 1 from rfl, q_up_s]
       omega)), by omega⟩
            · intro h100
              apply And.intro
              · exact ⟨by omega, by rw [show ((qs_2).length : Int) = 51 from rfl]; omega⟩
              intro z118 h118
              apply And.intro
              · intro h119
                refine Exists.intro [0, 3, 4, 5, 6, 2, 1] (Exists.intro [q2 0, q1 _, q1 _] (Exists.intro ([.inr (6, [q2 1, q2 2, q2 3, q2 4, q2 5, q2 6, q1 _, q1 _, q1 _, q1 _, q1 _, q1 _, q1 _, q1 _, q1 _])]) (And.intro rfl (And.intro rfl (And.intro rfl (And.intro ⟨⟨_, rfl⟩, rfl⟩ ?_))))))
                refine Exists.intro _ (Exists.intro _ (Exists.intro _ (Exists.intro _ (Exists.intro _ (Exists.intro _ (Exists.intro _ (Exists.intro _ (Exists.intro _ (Exists.intro _ (Exists.intro _ (And.intro rfl (And.intro rfl (?_)))))))))))))
                intro x_rfa_145 x_rpl_145 h145
                apply And.intro
                · first | exact Or.inl rfl | exact Or.inr rfl | omega
                exact hQ _ _ _ _ _ _ _ _ ⟨by omega, by omega, (by intro j hj; first | rfl | exact q_up_n hj), (by
    intro hr1 ha7 hb1 hf0
    have e22 : z8 = 22 := by omega
    subst hb1
    rw [e22] at h14
    have f14 : z14 = 1 := h14
    first
    | omega
    | (rw [e22] at h118 h130
       have f118 : z118 = 1 := h118
       have f130 : z130 = 9 := h130
       rw [show (1 : Int).toNat = 1 from rfl, q_up_s]
       omega)), by omega⟩
              · intro h119
                apply And.intro
                · exact ⟨by omega, by rw [show ((qs_3).length : Int) = 51 from rfl]; omega⟩
                intro z130 h130
                apply And.intro
                · intro h131
                  refine Exists.intro [0, 3, 4, 5, 6, 2, 1] (Exists.intro [q2 0, q1 _, q1 _] (Exists.intro ([.inr (6, [q2 1, q2 2, q2 3, q2 4, q2 5, q2 6, q1 _, q1 _, q1 _, q1 _, q1 _, q1 _, q1 _, q1 _, q1 _])]) (And.intro rfl (And.intro rfl (And.intro rfl (And.intro ⟨⟨_, rfl⟩, rfl⟩ ?_))))))
                  refine Exists.intro _ (Exists.intro _ (Exists.intro _ (Exists.intro _ (Exists.intro _ (Exists.intro _ (Exists.intro _ (Exists.intro _ (Exists.intro _ (Exists.intro _ (Exists.intro _ (And.intro rfl (And.intro rfl (?_)))))))))))))
                  intro x_rfa_145 x_rpl_145 h145
                  apply And.intro
                  · first | exact Or.inl rfl | exact Or.inr rfl | omega
                  exact hQ _ _ _ _ _ _ _ _ ⟨by omega, by omega, (by intro j hj; first | rfl | exact q_up_n hj), (by
    intro hr1 ha7 hb1 hf0
    have e22 : z8 = 22 := by omega
    subst hb1
    rw [e22] at h14
    have f14 : z14 = 1 := h14
    first
    | omega
    | (rw [e22] at h118 h130
       have f118 : z118 = 1 := h118
       have f130 : z130 = 9 := h130
       rw [show (1 : Int).toNat = 1 from rfl, q_up_s]
       omega)), by omega⟩
                · intro h131
                  apply And.intro
                  · intro h136
                    apply And.intro
                    · first | exact Or.inl rfl | exact Or.inr rfl | omega
                    exact hQ _ _ _ _ _ _ _ _ ⟨by omega, by omega, (by intro j hj; first | rfl | exact q_up_n hj), (by
    intro hr1 ha7 hb1 hf0
    have e22 : z8 = 22 := by omega
    subst hb1
    rw [e22] at h14
    have f14 : z14 = 1 := h14
    first
    | omega
    | (rw [e22] at h118 h130
       have f118 : z118 = 1 := h118
       have f130 : z130 = 9 := h130
       rw [show (1 : Int).toNat = 1 from rfl, q_up_s]
       omega)), by omega⟩
                  · intro h136
                    refine Exists.intro [0, 3, 4, 5, 6, 2, 1] (Exists.intro [q2 0, q1 _, q1 _] (Exists.intro ([.inr (6, [q2 1, q2 2, q2 3, q2 4, q2 5, q2 6, q1 _, q1 _, q1 _, q1 _, q1 _, q1 _, q1 _, q1 _, q1 _])]) (And.intro rfl (And.intro rfl (And.intro rfl (And.intro ⟨⟨_, rfl⟩, rfl⟩ ?_))))))
                    refine Exists.intro _ (Exists.intro _ (Exists.intro _ (Exists.intro _ (Exists.intro _ (Exists.intro _ (Exists.intro _ (Exists.intro _ (Exists.intro _ (Exists.intro _ (Exists.intro _ (And.intro rfl (And.intro rfl (?_)))))))))))))
                    intro x_rfa_145 x_rpl_145 h145
                    apply And.intro
                    · first | exact Or.inl rfl | exact Or.inr rfl | omega
                    exact hQ _ _ _ _ _ _ _ _ ⟨by omega, by omega, (by intro j hj; first | rfl | exact q_up_n hj), (by
    intro hr1 ha7 hb1 hf0
    have e22 : z8 = 22 := by omega
    subst hb1
    rw [e22] at h14
    have f14 : z14 = 1 := h14
    first
    | omega
    | (rw [e22] at h118 h130
       have f118 : z118 = 1 := h118
       have f130 : z130 = 9 := h130
       rw [show (1 : Int).toNat = 1 from rfl, q_up_s]
       omega)), by omega⟩
        · intro h76
          apply And.intro
          · intro h82
            apply And.intro
            · exact ⟨by omega, by rw [show ((qs_2).length : Int) = 51 from rfl]; omega⟩
            intro z118 h118
            apply And.intro
            · intro h119
              refine Exists.intro [0, 3, 4, 5, 6, 2, 1] (Exists.intro [q2 0, q1 _, q1 _] (Exists.intro ([.inr (6, [q2 1, q2 2, q2 3, q2 4, q2 5, q2 6, q1 _, q1 _, q1 _, q1 _, q1 _, q1 _, q1 _, q1 _, q1 _])]) (And.intro rfl (And.intro rfl (And.intro rfl (And.intro ⟨⟨_, rfl⟩, rfl⟩ ?_))))))
              refine Exists.intro _ (Exists.intro _ (Exists.intro _ (Exists.intro _ (Exists.intro _ (Exists.intro _ (Exists.intro _ (Exists.intro _ (Exists.intro _ (Exists.intro _ (Exists.intro _ (And.intro rfl (And.intro rfl (?_)))))))))))))
              intro x_rfa_145 x_rpl_145 h145
              apply And.intro
              · first | exact Or.inl rfl | exact Or.inr rfl | omega
              exact hQ _ _ _ _ _ _ _ _ ⟨by omega, by omega, (by intro j hj; first | rfl | exact q_up_n hj), (by
    intro hr1 ha7 hb1 hf0
    have e22 : z8 = 22 := by omega
    subst hb1
    rw [e22] at h14
    have f14 : z14 = 1 := h14
    first
    | omega
    | (rw [e22] at h118 h130
       have f118 : z118 = 1 := h118
       have f130 : z130 = 9 := h130
       rw [show (1 : Int).toNat = 1 from rfl, q_up_s]
       omega)), by omega⟩
            · intro h119
              apply And.intro
              · exact ⟨by omega, by rw [show ((qs_3).length : Int) = 51 from rfl]; omega⟩
              intro z130 h130
              apply And.intro
              · intro h131
                refine Exists.intro [0, 3, 4, 5, 6, 2, 1] (Exists.intro [q2 0, q1 _, q1 _] (Exists.intro ([.inr (6, [q2 1, q2 2, q2 3, q2 4, q2 5, q2 6, q1 _, q1 _, q1 _, q1 _, q1 _, q1 _, q1 _, q1 _, q1 _])]) (And.intro rfl (And.intro rfl (And.intro rfl (And.intro ⟨⟨_, rfl⟩, rfl⟩ ?_))))))
                refine Exists.intro _ (Exists.intro _ (Exists.intro _ (Exists.intro _ (Exists.intro _ (Exists.intro _ (Exists.intro _ (Exists.intro _ (Exists.intro _ (Exists.intro _ (Exists.intro _ (And.intro rfl (And.intro rfl (?_)))))))))))))
                intro x_rfa_145 x_rpl_145 h145
                apply And.intro
                · first | exact Or.inl rfl | exact Or.inr rfl | omega
                exact hQ _ _ _ _ _ _ _ _ ⟨by omega, by omega, (by intro j hj; first | rfl | exact q_up_n hj), (by
    intro hr1 ha7 hb1 hf0
    have e22 : z8 = 22 := by omega
    subst hb1
    rw [e22] at h14
    have f14 : z14 = 1 := h14
    first
    | omega
    | (rw [e22] at h118 h130
       have f118 : z118 = 1 := h118
       have f130 : z130 = 9 := h130
       rw [show (1 : Int).toNat = 1 from rfl, q_up_s]
       omega)), by omega⟩
              · intro h131
                apply And.intro
                · intro h136
                  apply And.intro
                  · first | exact Or.inl rfl | exact Or.inr rfl | omega
                  exact hQ _ _ _ _ _ _ _ _ ⟨by omega, by omega, (by intro j hj; first | rfl | exact q_up_n hj), (by
    intro hr1 ha7 hb1 hf0
    have e22 : z8 = 22 := by omega
    subst hb1
    rw [e22] at h14
    have f14 : z14 = 1 := h14
    first
    | omega
    | (rw [e22] at h118 h130
       have f118 : z118 = 1 := h118
       have f130 : z130 = 9 := h130
       rw [show (1 : Int).toNat = 1 from rfl, q_up_s]
       omega)), by omega⟩
                · intro h136
                  refine Exists.intro [0, 3, 4, 5, 6, 2, 1] (Exists.intro [q2 0, q1 _, q1 _] (Exists.intro ([.inr (6, [q2 1, q2 2, q2 3, q2 4, q2 5, q2 6, q1 _, q1 _, q1 _, q1 _, q1 _, q1 _, q1 _, q1 _, q1 _])]) (And.intro rfl (And.intro rfl (And.intro rfl (And.intro ⟨⟨_, rfl⟩, rfl⟩ ?_))))))
                  refine Exists.intro _ (Exists.intro _ (Exists.intro _ (Exists.intro _ (Exists.intro _ (Exists.intro _ (Exists.intro _ (Exists.intro _ (Exists.intro _ (Exists.intro _ (Exists.intro _ (And.intro rfl (And.intro rfl (?_)))))))))))))
                  intro x_rfa_145 x_rpl_145 h145
                  apply And.intro
                  · first | exact Or.inl rfl | exact Or.inr rfl | omega
                  exact hQ _ _ _ _ _ _ _ _ ⟨by omega, by omega, (by intro j hj; first | rfl | exact q_up_n hj), (by
    intro hr1 ha7 hb1 hf0
    have e22 : z8 = 22 := by omega
    subst hb1
    rw [e22] at h14
    have f14 : z14 = 1 := h14
    first
    | omega
    | (rw [e22] at h118 h130
       have f118 : z118 = 1 := h118
       have f130 : z130 = 9 := h130
       rw [show (1 : Int).toNat = 1 from rfl, q_up_s]
       omega)), by omega⟩
          · intro h82
            apply And.intro
            · intro h87
              apply And.intro
              · exact ⟨by omega, by rw [show ((qs_2).length : Int) = 51 from rfl]; omega⟩
              intro z118 h118
              apply And.intro
              · intro h119
                refine Exists.intro [0, 3, 4, 5, 6, 2, 1] (Exists.intro [q2 0, q1 _, q1 _] (Exists.intro ([.inr (6, [q2 1, q2 2, q2 3, q2 4, q2 5, q2 6, q1 _, q1 _, q1 _, q1 _, q1 _, q1 _, q1 _, q1 _, q1 _])]) (And.intro rfl (And.intro rfl (And.intro rfl (And.intro ⟨⟨_, rfl⟩, rfl⟩ ?_))))))
                refine Exists.intro _ (Exists.intro _ (Exists.intro _ (Exists.intro _ (Exists.intro _ (Exists.intro _ (Exists.intro _ (Exists.intro _ (Exists.intro _ (Exists.intro _ (Exists.intro _ (And.intro rfl (And.intro rfl (?_)))))))))))))
                intro x_rfa_145 x_rpl_145 h145
                apply And.intro
                · first | exact Or.inl rfl | exact Or.inr rfl | omega
                exact hQ _ _ _ _ _ _ _ _ ⟨by omega, by omega, (by intro j hj; first | rfl | exact q_up_n hj), (by
    intro hr1 ha7 hb1 hf0
    have e22 : z8 = 22 := by omega
    subst hb1
    rw [e22] at h14
    have f14 : z14 = 1 := h14
    first
    | omega
    | (rw [e22] at h118 h130
       have f118 : z118 = 1 := h118
       have f130 : z130 = 9 := h130
       rw [show (1 : Int).toNat = 1 from rfl, q_up_s]
       omega)), by omega⟩
              · intro h119
                apply And.intro
                · exact ⟨by omega, by rw [show ((qs_3).length : Int) = 51 from rfl]; omega⟩
                intro z130 h130
                apply And.intro
                · intro h131
                  refine Exists.intro [0, 3, 4, 5, 6, 2, 1] (Exists.intro [q2 0, q1 _, q1 _] (Exists.intro ([.inr (6, [q2 1, q2 2, q2 3, q2 4, q2 5, q2 6, q1 _, q1 _, q1 _, q1 _, q1 _, q1 _, q1 _, q1 _, q1 _])]) (And.intro rfl (And.intro rfl (And.intro rfl (And.intro ⟨⟨_, rfl⟩, rfl⟩ ?_))))))
                  refine Exists.intro _ (Exists.intro _ (Exists.intro _ (Exists.intro _ (Exists.intro _ (Exists.intro _ (Exists.intro _ (Exists.intro _ (Exists.intro _ (Exists.intro _ (Exists.intro _ (And.intro rfl (And.intro rfl (?_)))))))))))))
                  intro x_rfa_145 x_rpl_145 h145
                  apply And.intro
                  · first | exact Or.inl rfl | exact Or.inr rfl | omega
                  exact hQ _ _ _ _ _ _ _ _ ⟨by omega, by omega, (by intro j hj; first | rfl | exact q_up_n hj), (by
    intro hr1 ha7 hb1 hf0
    have e22 : z8 = 22 := by omega
    subst hb1
    rw [e22] at h14
    have f14 : z14 = 1 := h14
    first
    | omega
    | (rw [e22] at h118 h130
       have f118 : z118 = 1 := h118
       have f130 : z130 = 9 := h130
       rw [show (1 : Int).toNat = 1 from rfl, q_up_s]
       omega)), by omega⟩
                · intro h131
                  apply And.intro
                  · intro h136
                    apply And.intro
                    · first | exact Or.inl rfl | exact Or.inr rfl | omega
                    exact hQ _ _ _ _ _ _ _ _ ⟨by omega, by omega, (by intro j hj; first | rfl | exact q_up_n hj), (by
    intro hr1 ha7 hb1 hf0
    have e22 : z8 = 22 := by omega
    subst hb1
    rw [e22] at h14
    have f14 : z14 = 1 := h14
    first
    | omega
    | (rw [e22] at h118 h130
       have f118 : z118 = 1 := h118
       have f130 : z130 = 9 := h130
       rw [show (1 : Int).toNat = 1 from rfl, q_up_s]
       omega)), by omega⟩
                  · intro h136
                    refine Exists.intro [0, 3, 4, 5, 6, 2, 1] (Exists.intro [q2 0, q1 _, q1 _] (Exists.intro ([.inr (6, [q2 1, q2 2, q2 3, q2 4, q2 5, q2 6, q1 _, q1 _, q1 _, q1 _, q1 _, q1 _, q1 _, q1 _, q1 _])]) (And.intro rfl (And.intro rfl (And.intro rfl (And.intro ⟨⟨_, rfl⟩, rfl⟩ ?_))))))
                    refine Exists.intro _ (Exists.intro _ (Exists.intro _ (Exists.intro _ (Exists.intro _ (Exists.intro _ (Exists.intro _ (Exists.intro _ (Exists.intro _ (Exists.intro _ (Exists.intro _ (And.intro rfl (And.intro rfl (?_)))))))))))))
                    intro x_rfa_145 x_rpl_145 h145
                    apply And.intro
                    · first | exact Or.inl rfl | exact Or.inr rfl | omega
                    exact hQ _ _ _ _ _ _ _ _ ⟨by omega, by omega, (by intro j hj; first | rfl | exact q_up_n hj), (by
    intro hr1 ha7 hb1 hf0
    have e22 : z8 = 22 := by omega
    subst hb1
    rw [e22] at h14
    have f14 : z14 = 1 := h14
    first
    | omega
    | (rw [e22] at h118 h130
       have f118 : z118 = 1 := h118
       have f130 : z130 = 9 := h130
       rw [show (1 : Int).toNat = 1 from rfl, q_up_s]
       omega)), by omega⟩
            · intro h87
              apply And.intro
              · exact ⟨by omega, by omega⟩
              intro z99 h99
              apply And.intro
              · intro h100
                apply And.intro
                · exact ⟨by omega, by rw [show ((qs_2).length : Int) = 51 from rfl]; omega⟩
                intro z118 h118
                apply And.intro
                · intro h119
                  refine Exists.intro [0, 3, 4, 5, 6, 2, 1] (Exists.intro [q2 0, q1 _, q1 _] (Exists.intro ([.inr (6, [q2 1, q2 2, q2 3, q2 4, q2 5, q2 6, q1 _, q1 _, q1 _, q1 _, q1 _, q1 _, q1 _, q1 _, q1 _])]) (And.intro rfl (And.intro rfl (And.intro rfl (And.intro ⟨⟨_, rfl⟩, rfl⟩ ?_))))))
                  refine Exists.intro _ (Exists.intro _ (Exists.intro _ (Exists.intro _ (Exists.intro _ (Exists.intro _ (Exists.intro _ (Exists.intro _ (Exists.intro _ (Exists.intro _ (Exists.intro _ (And.intro rfl (And.intro rfl (?_)))))))))))))
                  intro x_rfa_145 x_rpl_145 h145
                  apply And.intro
                  · first | exact Or.inl rfl | exact Or.inr rfl | omega
                  exact hQ _ _ _ _ _ _ _ _ ⟨by omega, by omega, (by intro j hj; first | rfl | exact q_up_n hj), (by
    intro hr1 ha7 hb1 hf0
    have e22 : z8 = 22 := by omega
    subst hb1
    rw [e22] at h14
    have f14 : z14 = 1 := h14
    first
    | omega
    | (rw [e22] at h118 h130
       have f118 : z118 = 1 := h118
       have f130 : z130 = 9 := h130
       rw [show (1 : Int).toNat = 1 from rfl, q_up_s]
       omega)), by omega⟩
                · intro h119
                  apply And.intro
                  · exact ⟨by omega, by rw [show ((qs_3).length : Int) = 51 from rfl]; omega⟩
                  intro z130 h130
                  apply And.intro
                  · intro h131
                    refine Exists.intro [0, 3, 4, 5, 6, 2, 1] (Exists.intro [q2 0, q1 _, q1 _] (Exists.intro ([.inr (6, [q2 1, q2 2, q2 3, q2 4, q2 5, q2 6, q1 _, q1 _, q1 _, q1 _, q1 _, q1 _, q1 _, q1 _, q1 _])]) (And.intro rfl (And.intro rfl (And.intro rfl (And.intro ⟨⟨_, rfl⟩, rfl⟩ ?_))))))
                    refine Exists.intro _ (Exists.intro _ (Exists.intro _ (Exists.intro _ (Exists.intro _ (Exists.intro _ (Exists.intro _ (Exists.intro _ (Exists.intro _ (Exists.intro _ (Exists.intro _ (And.intro rfl (And.intro rfl (?_)))))))))))))
                    intro x_rfa_145 x_rpl_145 h145
                    apply And.intro
                    · first | exact Or.inl rfl | exact Or.inr rfl | omega
                    exact hQ _ _ _ _ _ _ _ _ ⟨by omega, by omega, (by intro j hj; first | rfl | exact q_up_n hj), (by
    intro hr1 ha7 hb1 hf0
    have e22 : z8 = 22 := by omega
    subst hb1
    rw [e22] at h14
    have f14 : z14 = 1 := h14
    first
    | omega
    | (rw [e22] at h118 h130
       have f118 : z118 = 1 := h118
       have f130 : z130 = 9 := h130
       rw [show (1 : Int).toNat = 1 from rfl, q_up_s]
       omega)), by omega⟩
                  · intro h131
                    apply And.intro
                    · intro h136
                      apply And.intro
                      · first | exact Or.inl rfl | exact Or.inr rfl | omega
                      exact hQ _ _ _ _ _ _ _ _ ⟨by omega, by omega, (by intro j hj; first | rfl | exact q_up_n hj), (by
    intro hr1 ha7 hb1 hf0
    have e22 : z8 = 22 := by omega
    subst hb1
    rw [e22] at h14
    have f14 : z14 = 1 := h14
    first
    | omega
    | (rw [e22] at h118 h130
       have f118 : z118 = 1 := h118
       have f130 : z130 = 9 := h130
       rw [show (1 : Int).toNat = 1 from rfl, q_up_s]
       omega)), by omega⟩
                    · intro h136
                      refine Exists.intro [0, 3, 4, 5, 6, 2, 1] (Exists.intro [q2 0, q1 _, q1 _] (Exists.intro ([.inr (6, [q2 1, q2 2, q2 3, q2 4, q2 5, q2 6, q1 _, q1 _, q1 _, q1 _, q1 _, q1 _, q1 _, q1 _, q1 _])]) (And.intro rfl (And.intro rfl (And.intro rfl (And.intro ⟨⟨_, rfl⟩, rfl⟩ ?_))))))
                      refine Exists.intro _ (Exists.intro _ (Exists.intro _ (Exists.intro _ (Exists.intro _ (Exists.intro _ (Exists.intro _ (Exists.intro _ (Exists.intro _ (Exists.intro _ (Exists.intro _ (And.intro rfl (And.intro rfl (?_)))))))))))))
                      intro x_rfa_145 x_rpl_145 h145
                      apply And.intro
                      · first | exact Or.inl rfl | exact Or.inr rfl | omega
                      exact hQ _ _ _ _ _ _ _ _ ⟨by omega, by omega, (by intro j hj; first | rfl | exact q_up_n hj), (by
    intro hr1 ha7 hb1 hf0
    have e22 : z8 = 22 := by omega
    subst hb1
    rw [e22] at h14
    have f14 : z14 = 1 := h14
    first
    | omega
    | (rw [e22] at h118 h130
       have f118 : z118 = 1 := h118
       have f130 : z130 = 9 := h130
       rw [show (1 : Int).toNat = 1 from rfl, q_up_s]
       omega)), by omega⟩
              · intro h100
                apply And.intro
                · exact ⟨by omega, by rw [show ((qs_2).length : Int) = 51 from rfl]; omega⟩
                intro z118 h118
                apply And.intro
                · intro h119
                  refine Exists.intro [0, 3, 4, 5, 6, 2, 1] (Exists.intro [q2 0, q1 _, q1 _] (Exists.intro ([.inr (6, [q2 1, q2 2, q2 3, q2 4, q2 5, q2 6, q1 _, q1 _, q1 _, q1 _, q1 _, q1 _, q1 _, q1 _, q1 _])]) (And.intro rfl (And.intro rfl (And.intro rfl (And.intro ⟨⟨_, rfl⟩, rfl⟩ ?_))))))
                  refine Exists.intro _ (Exists.intro _ (Exists.intro _ (Exists.intro _ (Exists.intro _ (Exists.intro _ (Exists.intro _ (Exists.intro _ (Exists.intro _ (Exists.intro _ (Exists.intro _ (And.intro rfl (And.intro rfl (?_)))))))))))))
                  intro x_rfa_145 x_rpl_145 h145
                  apply And.intro
                  · first | exact Or.inl rfl | exact Or.inr rfl | omega
                  exact hQ _ _ _ _ _ _ _ _ ⟨by omega, by omega, (by intro j hj; first | rfl | exact q_up_n hj), (by
    intro hr1 ha7 hb1 hf0
    have e22 : z8 = 22 := by omega
    subst hb1
    rw [e22] at h14
    have f14 : z14 = 1 := h14
    first
    | omega
    | (rw [e22] at h118 h130
       have f118 : z118 = 1 := h118
       have f130 : z130 = 9 := h130
       rw [show (1 : Int).toNat = 1 from rfl, q_up_s]
       omega)), by omega⟩
                · intro h119
                  apply And.intro
                  · exact ⟨by omega, by rw [show ((qs_3).length : Int) = 51 from rfl]; omega⟩
                  intro z130 h130
                  apply And.intro
                  · intro h131
                    refine Exists.intro [0, 3, 4, 5, 6, 2, 1] (Exists.intro [q2 0, q1 _, q1 _] (Exists.intro ([.inr (6, [q2 1, q2 2, q2 3, q2 4, q2 5, q2 6, q1 _, q1 _, q1 _, q1 _, q1 _, q1 _, q1 _, q1 _, q1 _])]) (And.intro rfl (And.intro rfl (And.intro rfl (And.intro ⟨⟨_, rfl⟩, rfl⟩ ?_))))))
                    refine Exists.intro _ (Exists.intro _ (Exists.intro _ (Exists.intro _ (Exists.intro _ (Exists.intro _ (Exists.intro _ (Exists.intro _ (Exists.intro _ (Exists.intro _ (Exists.intro _ (And.intro rfl (And.intro rfl (?_)))))))))))))
                    intro x_rfa_145 x_rpl_145 h145
                    apply And.intro
                    · first | exact Or.inl rfl | exact Or.inr rfl | omega
                    exact hQ _ _ _ _ _ _ _ _ ⟨by omega, by omega, (by intro j hj; first | rfl | exact q_up_n hj), (by
    intro hr1 ha7 hb1 hf0
    have e22 : z8 = 22 := by omega
    subst hb1
    rw [e22] at h14
    have f14 : z14 = 1 := h14
    first
    | omega
    | (rw [e22] at h118 h130
       have f118 : z118 = 1 := h118
       have f130 : z130 = 9 := h130
       rw [show (1 : Int).toNat = 1 from rfl, q_up_s]
       omega)), by omega⟩
                  · intro h131
                    apply And.intro
                    · intro h136
                      apply And.intro
                      · first | exact Or.inl rfl | exact Or.inr rfl | omega
                      exact hQ _ _ _ _ _ _ _ _ ⟨by omega, by omega, (by intro j hj; first | rfl | exact q_up_n hj), (by
    intro hr1 ha7 hb1 hf0
    have e22 : z8 = 22 := by omega
    subst hb1
    rw [e22] at h14
    have f14 : z14 = 1 := h14
    first
    | omega
    | (rw [e22] at h118 h130
       have f118 : z118 = 1 := h118
       have f130 : z130 = 9 := h130
       rw [show (1 : Int).toNat = 1 from rfl, q_up_s]
       omega)), by omega⟩
                    · intro h136
                      refine Exists.intro [0, 3, 4, 5, 6, 2, 1] (Exists.intro [q2 0, q1 _, q1 _] (Exists.intro ([.inr (6, [q2 1, q2 2, q2 3, q2 4, q2 5, q2 6, q1 _, q1 _, q1 _, q1 _, q1 _, q1 _, q1 _, q1 _, q1 _])]) (And.intro rfl (And.intro rfl (And.intro rfl (And.intro ⟨⟨_, rfl⟩, rfl⟩ ?_))))))
                      refine Exists.intro _ (Exists.intro _ (Exists.intro _ (Exists.intro _ (Exists.intro _ (Exists.intro _ (Exists.intro _ (Exists.intro _ (Exists.intro _ (Exists.intro _ (Exists.intro _ (And.intro rfl (And.intro rfl (?_)))))))))))))
                      intro x_rfa_145 x_rpl_145 h145
                      apply And.intro
                      · first | exact Or.inl rfl | exact Or.inr rfl | omega
                      exact hQ _ _ _ _ _ _ _ _ ⟨by omega, by omega, (by intro j hj; first | rfl | exact q_up_n hj), (by
    intro hr1 ha7 hb1 hf0
    have e22 : z8 = 22 := by omega
    subst hb1
    rw [e22] at h14
    have f14 : z14 = 1 := h14
    first
    | omega
    | (rw [e22] at h118 h130
       have f118 : z118 = 1 := h118
       have f130 : z130 = 9 := h130
       rw [show (1 : Int).toNat = 1 from rfl, q_up_s]
       omega)), by omega⟩
      · intro h59
        apply And.intro
        · first | exact Or.inl rfl | exact Or.inr rfl | omega
        exact hQ _ _ _ _ _ _ _ _ ⟨by omega, by omega, (by intro j hj; first | rfl | exact q_up_n hj), (by
    intro hr1 ha7 hb1 hf0
    have e22 : z8 = 22 := by omega
    subst hb1
    rw [e22] at h14
    have f14 : z14 = 1 := h14
    first
    | omega
    | (rw [e22] at h118 h130
       have f118 : z118 = 1 := h118
       have f130 : z130 = 9 := h130
       rw [show (1 : Int).toNat = 1 from rfl, q_up_s]
       omega)), by omega⟩
  · intro h16
    refine Exists.intro [0, 1, 3, 4, 5, 6, 2] (Exists.intro [q2 0] (Exists.intro ([.inr (6, [q2 2, q2 3, q2 4, q2 5, q2 6, q2 1, q1 _, q1 _, q1 _, q1 _, q1 _, q1 _, q1 _, q1 _, q1 _]), .inl (1, 600, .inl _)]) (And.intro rfl (And.intro rfl (And.intro rfl (And.intro ⟨⟨_, rfl⟩, rfl⟩ ?_))))))
    refine Exists.intro _ (Exists.intro _ (Exists.intro _ (Exists.intro _ (Exists.intro _ (Exists.intro _ (Exists.intro _ (Exists.intro _ (Exists.intro _ (Exists.intro _ (And.intro rfl (And.intro rfl (?_))))))))))))
    intro z25 h25
    apply And.intro
    · exact ⟨by omega, by omega⟩
    apply And.intro
    · exact ⟨by omega, by omega⟩
    intro z34 h34
    apply And.intro
    · intro h36
      apply And.intro
      · first | exact Or.inl rfl | exact Or.inr rfl | omega
      exact hQ _ _ _ _ _ _ _ _ ⟨by omega, by omega, (by intro j hj; first | rfl | exact q_up_n hj), (by
    intro hr1 ha7 hb1 hf0
    have e22 : z8 = 22 := by omega
    subst hb1
    rw [e22] at h14
    have f14 : z14 = 1 := h14
    first
    | omega
    | (rw [e22] at h118 h130
       have f118 : z118 = 1 := h118
       have f130 : z130 = 9 := h130
       rw [show (1 : Int).toNat = 1 from rfl, q_up_s]
       omega)), by omega⟩
    · intro h36
      apply And.intro
      · first | exact Or.inl rfl | exact Or.inr rfl | omega
      exact hQ _ _ _ _ _ _ _ _ ⟨by omega, by omega, (by intro j hj; first | rfl | exact q_up_n hj), (by
    intro hr1 ha7 hb1 hf0
    have e22 : z8 = 22 := by omega
    subst hb1
    rw [e22] at h14
    have f14 : z14 = 1 := h14
    first
    | omega
    | (rw [e22] at h118 h130
       have f118 : z118 = 1 := h118
       have f130 : z130 = 9 := h130
       rw [show (1 : Int).toNat = 1 from rfl, q_up_s]
       omega)), by omega⟩

theorem dX6_close_0 : decode cX6_close 0 = .ok (.iload_n 1, 1) := by decide +kernel
theorem dX6_close_1 : decode cX6_close 1 = .ok (.ifCond .eq 4, 3) := by decide +kernel
theorem dX6_close_4 : decode cX6_close 4 = .ok (.return_, 1) := by decide +kernel
theorem dX6_close_5 : decode cX6_close 5 = .ok (.aload_n 0, 1) := by decide +kernel
theorem dX6_close_6 : decode cX6_close 6 = .ok (.getfield 97, 3) := by decide +kernel
theorem dX6_close_9 : decode cX6_close 9 = .ok (.aload_n 0, 1) := by decide +kernel
theorem dX6_close_10 : decode cX6_close 10 = .ok (.getfield 12, 3) := by decide +kernel
theorem dX6_close_13 : decode cX6_close 13 = .ok (.getfield 103, 3) := by decide +kernel
theorem dX6_close_16 : decode cX6_close 16 = .ok (.ishr, 1) := by decide +kernel
theorem dX6_close_17 : decode cX6_close 17 = .ok (.ifCond .eq 12, 3) := by decide +kernel
theorem dX6_close_20 : decode cX6_close 20 = .ok (.aload_n 0, 1) := by decide +kernel
theorem dX6_close_21 : decode cX6_close 21 = .ok (.iconst 4, 1) := by decide +kernel
theorem dX6_close_22 : decode cX6_close 22 = .ok (.aload_n 0, 1) := by decide +kernel
theorem dX6_close_23 : decode cX6_close 23 = .ok (.getfield 51, 3) := by decide +kernel
theorem dX6_close_26 : decode cX6_close 26 = .ok (.invokevirtual 106, 3) := by decide +kernel
theorem dX6_close_29 : decode cX6_close 29 = .ok (.aload_n 0, 1) := by decide +kernel
theorem dX6_close_30 : decode cX6_close 30 = .ok (.getfield 100, 3) := by decide +kernel
theorem dX6_close_33 : decode cX6_close 33 = .ok (.aload_n 0, 1) := by decide +kernel
theorem dX6_close_34 : decode cX6_close 34 = .ok (.getfield 12, 3) := by decide +kernel
theorem dX6_close_37 : decode cX6_close 37 = .ok (.getfield 110, 3) := by decide +kernel
theorem dX6_close_40 : decode cX6_close 40 = .ok (.ishr, 1) := by decide +kernel
theorem dX6_close_41 : decode cX6_close 41 = .ok (.ifCond .eq 12, 3) := by decide +kernel
theorem dX6_close_44 : decode cX6_close 44 = .ok (.aload_n 0, 1) := by decide +kernel
theorem dX6_close_45 : decode cX6_close 45 = .ok (.iconst 5, 1) := by decide +kernel
theorem dX6_close_46 : decode cX6_close 46 = .ok (.aload_n 0, 1) := by decide +kernel
theorem dX6_close_47 : decode cX6_close 47 = .ok (.getfield 51, 3) := by decide +kernel
theorem dX6_close_50 : decode cX6_close 50 = .ok (.invokevirtual 106, 3) := by decide +kernel
theorem dX6_close_53 : decode cX6_close 53 = .ok (.aload_n 0, 1) := by decide +kernel
theorem dX6_close_54 : decode cX6_close 54 = .ok (.getfield 69, 3) := by decide +kernel
theorem dX6_close_57 : decode cX6_close 57 = .ok (.ifCond .ne 23, 3) := by decide +kernel
theorem dX6_close_60 : decode cX6_close 60 = .ok (.aload_n 0, 1) := by decide +kernel
theorem dX6_close_61 : decode cX6_close 61 = .ok (.getfield 12, 3) := by decide +kernel
theorem dX6_close_64 : decode cX6_close 64 = .ok (.invokevirtual 113, 3) := by decide +kernel
theorem dX6_close_67 : decode cX6_close 67 = .ok (.ifCond .eq 13, 3) := by decide +kernel
theorem dX6_close_70 : decode cX6_close 70 = .ok (.aload_n 0, 1) := by decide +kernel
theorem dX6_close_71 : decode cX6_close 71 = .ok (.bipush 6, 2) := by decide +kernel
theorem dX6_close_73 : decode cX6_close 73 = .ok (.aload_n 0, 1) := by decide +kernel
theorem dX6_close_74 : decode cX6_close 74 = .ok (.getfield 51, 3) := by decide +kernel
theorem dX6_close_77 : decode cX6_close 77 = .ok (.invokevirtual 106, 3) := by decide +kernel
theorem dX6_close_80 : decode cX6_close 80 = .ok (.return_, 1) := by decide +kernel
def is_X6_close : Nat → List Nat := fun d => []
set_option maxRecDepth 100000 in
def b_X6_close_80 (J : Nat → List qV → List qV → qW → Prop) (Q : qR) : qK := x_vret Q
set_option maxRecDepth 100000 in
theorem s_X6_close_80 {p : Program} {l : Launch} {e : Env} {R : Room} {s : State} {m : MethodId} {args : Array Value} {below : List Frame} {meth : Method} {c : Code} {nW : Nat} {dC : Nat → ClassId} {dI : Nat → Nat → Nat} {k : Nat → ClassId} {g : Nat → Nat} {A : Nat → Prop} {J : Nat → List qV → List qV → qW → Prop} {Q : qR} (X : q_X p R s m args meth c cX6_close 2 nW 2 44 RX6 none dC dI k g A) (hJ : ∀ d : Nat, q_Sd p l e R s m args below meth c 2 nW dC dI k g A (MQ below (q_post (dC, dI) k g nW Q A) args s 0 0 A) d (x_cut (is_X6_close d) (J d))) : q_Sd p l e R s m args below meth c 2 nW dC dI k g A (MQ below (q_post (dC, dI) k g nW Q A) args s 0 0 A) 80 (b_X6_close_80 J Q) := by
  unfold b_X6_close_80
  exact s_vret X dX6_close_80
set_option maxRecDepth 100000 in
def b_X6_close_53 (J : Nat → List qV → List qV → qW → Prop) (Q : qR) : qK := x_aload 0 (x_get 6 7 (x_if_ne (b_X6_close_80 J Q) (x_aload 0 (x_get 6 0 (x_callr (some 0) 1 spr_X0_goesRound (x_if_eq (b_X6_close_80 J Q) (x_aload 0 (x_int 6 (x_aload 0 (x_get 6 6 (x_call (some 6) 3 sp_X6_note (x_nw (b_X6_close_80 J Q)))))))))))))
set_option maxRecDepth 100000 in
theorem s_X6_close_53 {p : Program} {l : Launch} {e : Env} {R : Room} {s : State} {m : MethodId} {args : Array Value} {below : List Frame} {meth : Method} {c : Code} {nW : Nat} {dC : Nat → ClassId} {dI : Nat → Nat → Nat} {k : Nat → ClassId} {g : Nat → Nat} {A : Nat → Prop} {J : Nat → List qV → List qV → qW → Prop} {Q : qR} (X : q_X p R s m args meth c cX6_close 2 nW 2 44 RX6 none dC dI k g A) (hJ : ∀ d : Nat, q_Sd p l e R s m args below meth c 2 nW dC dI k g A (MQ below (q_post (dC, dI) k g nW Q A) args s 0 0 A) d (x_cut (is_X6_close d) (J d))) : q_Sd p l e R s m args below meth c 2 nW dC dI k g A (MQ below (q_post (dC, dI) k g nW Q A) args s 0 0 A) 53 (b_X6_close_53 J Q) := by
  unfold b_X6_close_53
  refine s_aload_n X rfl dX6_close_53 ?_
  refine s_get X (T := TX6) (C := RX6) (N := 15) tu_X6 rfl (by decide) tw_278 dX6_close_54 ?_
  refine s_if_ne X (tgt := 80) dX6_close_57 (by decide) ?_ ?_
  · exact s_X6_close_80 X hJ
  · refine s_aload_n X rfl dX6_close_60 ?_
    refine s_get X (T := TX6) (C := RX6) (N := 15) tu_X6 rfl (by decide) tw_267 dX6_close_61 ?_
    refine s_callVr X (m_X0_goesRound l) tw_394 tw_395 tw_396 tw_122 tw_397 rfl (by decide +kernel) ⟨by decide, by decide⟩ dX6_close_64 ?_
    refine s_if_eq X (tgt := 80) dX6_close_67 (by decide) ?_ ?_
    · exact s_X6_close_80 X hJ
    · refine s_aload_n X rfl dX6_close_70 ?_
      refine s_bipush X ⟨by decide, by decide⟩ (by decide) dX6_close_71 ?_
      refine s_aload_n X rfl dX6_close_73 ?_
      refine s_get X (T := TX6) (C := RX6) (N := 15) tu_X6 rfl (by decide) tw_277 dX6_close_74 ?_
      refine s_callV X (m_X6_note l) tw_391 tw_392 tw_1514 tw_128 tw_393 rfl (by decide +kernel) ⟨by decide, by decide⟩ dX6_close_77 ?_
      refine s_nw ?_
      exact s_X6_close_80 X hJ
set_option maxRecDepth 100000 in
def b_X6_close_29 (J : Nat → List qV → List qV → qW → Prop) (Q : qR) : qK := x_aload 0 (x_get 6 14 (x_aload 0 (x_get 6 0 (x_get 0 10 (x_ishr (x_if_eq (b_X6_close_53 J Q) (x_aload 0 (x_int 5 (x_aload 0 (x_get 6 6 (x_call (some 6) 3 sp_X6_note (x_nw (b_X6_close_53 J Q)))))))))))))
set_option maxRecDepth 100000 in
theorem s_X6_close_29 {p : Program} {l : Launch} {e : Env} {R : Room} {s : State} {m : MethodId} {args : Array Value} {below : List Frame} {meth : Method} {c : Code} {nW : Nat} {dC : Nat → ClassId} {dI : Nat → Nat → Nat} {k : Nat → ClassId} {g : Nat → Nat} {A : Nat → Prop} {J : Nat → List qV → List qV → qW → Prop} {Q : qR} (X : q_X p R s m args meth c cX6_close 2 nW 2 44 RX6 none dC dI k g A) (hJ : ∀ d : Nat, q_Sd p l e R s m args below meth c 2 nW dC dI k g A (MQ below (q_post (dC, dI) k g nW Q A) args s 0 0 A) d (x_cut (is_X6_close d) (J d))) : q_Sd p l e R s m args below meth c 2 nW dC dI k g A (MQ below (q_post (dC, dI) k g nW Q A) args s 0 0 A) 29 (b_X6_close_29 J Q) := by
  unfold b_X6_close_29
  refine s_aload_n X rfl dX6_close_29 ?_
  refine s_get X (T := TX6) (C := RX6) (N := 15) tu_X6 rfl (by decide) tw_287 dX6_close_30 ?_
  refine s_aload_n X rfl dX6_close_33 ?_
  refine s_get X (T := TX6) (C := RX6) (N := 15) tu_X6 rfl (by decide) tw_267 dX6_close_34 ?_
  refine s_get X (T := TX0) (C := RX0) (N := 12) tu_X0 rfl (by decide) tw_204 dX6_close_37 ?_
  refine s_ishr X dX6_close_40 ?_
  refine s_if_eq X (tgt := 53) dX6_close_41 (by decide) ?_ ?_
  · exact s_X6_close_53 X hJ
  · refine s_aload_n X rfl dX6_close_44 ?_
    refine s_iconst X ⟨by decide, by decide⟩ dX6_close_45 ?_
    refine s_aload_n X rfl dX6_close_46 ?_
    refine s_get X (T := TX6) (C := RX6) (N := 15) tu_X6 rfl (by decide) tw_277 dX6_close_47 ?_
    refine s_callV X (m_X6_note l) tw_391 tw_392 tw_1514 tw_128 tw_393 rfl (by decide +kernel) ⟨by decide, by decide⟩ dX6_close_50 ?_
    refine s_nw ?_
    exact s_X6_close_53 X hJ
set_option maxRecDepth 100000 in
def b_X6_close_0 (J : Nat → List qV → List qV → qW → Prop) (Q : qR) : qK := x_iload 1 (x_if_eq (x_aload 0 (x_get 6 13 (x_aload 0 (x_get 6 0 (x_get 0 7 (x_ishr (x_if_eq (b_X6_close_29 J Q) (x_aload 0 (x_int 4 (x_aload 0 (x_get 6 6 (x_call (some 6) 3 sp_X6_note (x_nw (b_X6_close_29 J Q)))))))))))))) (x_vret Q))
set_option maxRecDepth 100000 in
theorem s_X6_close_0 {p : Program} {l : Launch} {e : Env} {R : Room} {s : State} {m : MethodId} {args : Array Value} {below : List Frame} {meth : Method} {c : Code} {nW : Nat} {dC : Nat → ClassId} {dI : Nat → Nat → Nat} {k : Nat → ClassId} {g : Nat → Nat} {A : Nat → Prop} {J : Nat → List qV → List qV → qW → Prop} {Q : qR} (X : q_X p R s m args meth c cX6_close 2 nW 2 44 RX6 none dC dI k g A) (hJ : ∀ d : Nat, q_Sd p l e R s m args below meth c 2 nW dC dI k g A (MQ below (q_post (dC, dI) k g nW Q A) args s 0 0 A) d (x_cut (is_X6_close d) (J d))) : q_Sd p l e R s m args below meth c 2 nW dC dI k g A (MQ below (q_post (dC, dI) k g nW Q A) args s 0 0 A) 0 (b_X6_close_0 J Q) := by
  unfold b_X6_close_0
  refine s_iload_n X rfl dX6_close_0 ?_
  refine s_if_eq X (tgt := 5) dX6_close_1 (by decide) ?_ ?_
  · refine s_aload_n X rfl dX6_close_5 ?_
    refine s_get X (T := TX6) (C := RX6) (N := 15) tu_X6 rfl (by decide) tw_286 dX6_close_6 ?_
    refine s_aload_n X rfl dX6_close_9 ?_
    refine s_get X (T := TX6) (C := RX6) (N := 15) tu_X6 rfl (by decide) tw_267 dX6_close_10 ?_
    refine s_get X (T := TX0) (C := RX0) (N := 12) tu_X0 rfl (by decide) tw_195 dX6_close_13 ?_
    refine s_ishr X dX6_close_16 ?_
    refine s_if_eq X (tgt := 29) dX6_close_17 (by decide) ?_ ?_
    · exact s_X6_close_29 X hJ
    · refine s_aload_n X rfl dX6_close_20 ?_
      refine s_iconst X ⟨by decide, by decide⟩ dX6_close_21 ?_
      refine s_aload_n X rfl dX6_close_22 ?_
      refine s_get X (T := TX6) (C := RX6) (N := 15) tu_X6 rfl (by decide) tw_277 dX6_close_23 ?_
      refine s_callV X (m_X6_note l) tw_391 tw_392 tw_1514 tw_128 tw_393 rfl (by decide +kernel) ⟨by decide, by decide⟩ dX6_close_26 ?_
      refine s_nw ?_
      exact s_X6_close_29 X hJ
  · exact s_vret X dX6_close_4

def sp_X6_close : qS := fun av w Q => ∃ (rln : Int) (rfa : Int) (rpl : Int) (rst : Int) (rnx : Int) (rtk : Int) (rnm : Int) (rnp : Int) (rnd : Int) (rbf1 : Nat → Int) (rbf2 : Nat → Int) (rbf3 : Nat → Int) (rbf4 : Nat → Int) (rbf5 : Nat → Int) (rbf6 : Nat → Int) (rbf7 : Nat → Int) (rbu0 : Int) (rbu1 : Int) (rbu2 : Int) (rbu3 : Int) (rbu4 : Int) (a : Int), av = [q2 0, q1 a] ∧ w = [.inr (6, [q2 1, q2 9, q2 10, q2 11, q2 12, q2 13, q1 rln, q1 rfa, q1 rpl, q1 rst, q1 rnx, q1 rtk, q1 rnm, q1 rnp, q1 rnd]), .inr (0, [q2 2, q2 3, q2 4, q2 5, q2 6, q2 7, q2 8, q1 rbu0, q1 rbu1, q1 rbu2, q1 rbu3, q1 rbu4]), .inl (0, 8, .inl rbf1), .inl (0, 8, .inl rbf2), .inl (0, 4, .inl rbf3), .inl (0, 32, .inl rbf4), .inl (0, 6, .inl rbf5), .inl (0, 6, .inl rbf6), .inl (0, 6, .inl rbf7)] ∧ (0 ≤ rbu0 ∧ rbu0 ≤ 8 ∧ 0 ≤ rbu3 ∧ rbu3 ≤ 6 ∧ 0 ≤ rbu4 ∧ rbu4 ≤ 6) ∧ (∀ (x_rfa : Int) (x_rpl : Int), (x_rfa = 0 → rfa = 0) → Q none ([.inr (6, [q2 1, q2 9, q2 10, q2 11, q2 12, q2 13, q1 rln, q1 x_rfa, q1 x_rpl, q1 rst, q1 rnx, q1 rtk, q1 rnm, q1 rnp, q1 rnd]), .inr (0, [q2 2, q2 3, q2 4, q2 5, q2 6, q2 7, q2 8, q1 rbu0, q1 rbu1, q1 rbu2, q1 rbu3, q1 rbu4]), .inl (0, 8, .inl rbf1), .inl (0, 8, .inl rbf2), .inl (0, 4, .inl rbf3), .inl (0, 32, .inl rbf4), .inl (0, 6, .inl rbf5), .inl (0, 6, .inl rbf6), .inl (0, 6, .inl rbf7)]))
set_option maxHeartbeats 4000000 in
set_option maxRecDepth 100000 in
theorem m_X6_close (l : Launch) : q_M l yX6_close cX6_close 2 none 2 44 sp_X6_close := by
  refine q_meth (by decide) (fun av w Q h => by obtain ⟨rln, rfa, rpl, rst, rnx, rtk, rnm, rnp, rnd, rbf1, rbf2, rbf3, rbf4, rbf5, rbf6, rbf7, rbu0, rbu1, rbu2, rbu3, rbu4, a, rfl, rfl, hrb, hQ⟩ := h; exact Nat.le_of_ble_eq_true rfl) ?_
  intro p e R s m args below meth c dC dI k g A av w Q hsp oka okw X
  obtain ⟨rln, rfa, rpl, rst, rnx, rtk, rnm, rnp, rnd, rbf1, rbf2, rbf3, rbf4, rbf5, rbf6, rbf7, rbu0, rbu1, rbu2, rbu3, rbu4, a, rfl, rfl, hrb, hQ⟩ := hsp
  have o_a : -2147483648 ≤ a ∧ a ≤ 2147483647 := oka _ (List.mem_of_getElem? (i := 1) rfl)
  refine s_mono (s_X6_close_0 X (J := fun _ _ _ _ => False) (fun d => s_cutF)) ?_
  rintro lv st w' ⟨rfl, rfl, rfl⟩
  apply And.intro
  · intro h1
    intro z16 h16
    replace h16 := e_rng h16
    apply And.intro
    · intro h17
      intro z40 h40
      replace h40 := e_rng h40
      apply And.intro
      · intro h41
        apply And.intro
        · intro h57
          exact hQ _ _ (by first | omega | assumption | exact q_rg_up (by assumption) (by omega) | exact q_rg_up (q_rg_up (by assumption) (by omega)) (by omega) | exact q_rg_cpy (by assumption) (by assumption))
        · intro h57
          refine Exists.intro [1, 2, 3, 4, 5, 6, 7, 8] (Exists.intro [q2 0] (Exists.intro (wB _ _ _ _ _ _ _ _ _ _ _ _) (And.intro rfl (And.intro rfl (And.intro rfl (And.intro ⟨⟨_, rfl⟩, rfl⟩ ?_))))))
          refine Exists.intro _ (Exists.intro _ (Exists.intro _ (Exists.intro _ (Exists.intro _ (Exists.intro _ (Exists.intro _ (Exists.intro _ (Exists.intro _ (Exists.intro _ (Exists.intro _ (Exists.intro _ (And.intro rfl (And.intro rfl (And.intro (by first | omega | assumption | exact q_rg_up (by assumption) (by omega) | exact q_rg_up (q_rg_up (by assumption) (by omega)) (by omega) | exact q_rg_cpy (by assumption) (by assumption)) (?_)))))))))))))))
          intro z64 h64
          apply And.intro
          · intro h67
            exact hQ _ _ (by first | omega | assumption | exact q_rg_up (by assumption) (by omega) | exact q_rg_up (q_rg_up (by assumption) (by omega)) (by omega) | exact q_rg_cpy (by assumption) (by assumption))
          · intro h67
            refine Exists.intro [0, 1, 9, 10, 11, 12, 13] (Exists.intro [q2 0, q1 _, q1 _] (Exists.intro ([.inr (6, [q2 1, q2 2, q2 3, q2 4, q2 5, q2 6, q1 _, q1 _, q1 _, q1 _, q1 _, q1 _, q1 _, q1 _, q1 _])]) (And.intro rfl (And.intro rfl (And.intro rfl (And.intro ⟨⟨_, rfl⟩, rfl⟩ ?_))))))
            refine Exists.intro _ (Exists.intro _ (Exists.intro _ (Exists.intro _ (Exists.intro _ (Exists.intro _ (Exists.intro _ (Exists.intro _ (Exists.intro _ (Exists.intro _ (Exists.intro _ (And.intro rfl (And.intro rfl (?_)))))))))))))
            intro x_rfa_77 x_rpl_77 h77
            exact hQ _ _ (by first | omega | assumption | exact q_rg_up (by assumption) (by omega) | exact q_rg_up (q_rg_up (by assumption) (by omega)) (by omega) | exact q_rg_cpy (by assumption) (by assumption))
      · intro h41
        refine Exists.intro [0, 1, 9, 10, 11, 12, 13] (Exists.intro [q2 0, q1 _, q1 _] (Exists.intro ([.inr (6, [q2 1, q2 2, q2 3, q2 4, q2 5, q2 6, q1 _, q1 _, q1 _, q1 _, q1 _, q1 _, q1 _, q1 _, q1 _])]) (And.intro rfl (And.intro rfl (And.intro rfl (And.intro ⟨⟨_, rfl⟩, rfl⟩ ?_))))))
        refine Exists.intro _ (Exists.intro _ (Exists.intro _ (Exists.intro _ (Exists.intro _ (Exists.intro _ (Exists.intro _ (Exists.intro _ (Exists.intro _ (Exists.intro _ (Exists.intro _ (And.intro rfl (And.intro rfl (?_)))))))))))))
        intro x_rfa_50 x_rpl_50 h50
        apply And.intro
        · intro h57
          exact hQ _ _ (by first | omega | assumption | exact q_rg_up (by assumption) (by omega) | exact q_rg_up (q_rg_up (by assumption) (by omega)) (by omega) | exact q_rg_cpy (by assumption) (by assumption))
        · intro h57
          refine Exists.intro [1, 2, 3, 4, 5, 6, 7, 8] (Exists.intro [q2 0] (Exists.intro (wB _ _ _ _ _ _ _ _ _ _ _ _) (And.intro rfl (And.intro rfl (And.intro rfl (And.intro ⟨⟨_, rfl⟩, rfl⟩ ?_))))))
          refine Exists.intro _ (Exists.intro _ (Exists.intro _ (Exists.intro _ (Exists.intro _ (Exists.intro _ (Exists.intro _ (Exists.intro _ (Exists.intro _ (Exists.intro _ (Exists.intro _ (Exists.intro _ (And.intro rfl (And.intro rfl (And.intro (by first | omega | assumption | exact q_rg_up (by assumption) (by omega) | exact q_rg_up (q_rg_up (by assumption) (by omega)) (by omega) | exact q_rg_cpy (by assumption) (by assumption)) (?_)))))))))))))))
          intro z64 h64
          apply And.intro
          · intro h67
            exact hQ _ _ (by first | omega | assumption | exact q_rg_up (by assumption) (by omega) | exact q_rg_up (q_rg_up (by assumption) (by omega)) (by omega) | exact q_rg_cpy (by assumption) (by assumption))
          · intro h67
            refine Exists.intro [0, 1, 9, 10, 11, 12, 13] (Exists.intro [q2 0, q1 _, q1 _] (Exists.intro ([.inr (6, [q2 1, q2 2, q2 3, q2 4, q2 5, q2 6, q1 _, q1 _, q1 _, q1 _, q1 _, q1 _, q1 _, q1 _, q1 _])]) (And.intro rfl (And.intro rfl (And.intro rfl (And.intro ⟨⟨_, rfl⟩, rfl⟩ ?_))))))
            refine Exists.intro _ (Exists.intro _ (Exists.intro _ (Exists.intro _ (Exists.intro _ (Exists.intro _ (Exists.intro _ (Exists.intro _ (Exists.intro _ (Exists.intro _ (Exists.intro _ (And.intro rfl (And.intro rfl (?_)))))))))))))
            intro x_rfa_77 x_rpl_77 h77
            exact hQ _ _ (by first | omega | assumption | exact q_rg_up (by assumption) (by omega) | exact q_rg_up (q_rg_up (by assumption) (by omega)) (by omega) | exact q_rg_cpy (by assumption) (by assumption))
    · intro h17
      refine Exists.intro [0, 1, 9, 10, 11, 12, 13] (Exists.intro [q2 0, q1 _, q1 _] (Exists.intro ([.inr (6, [q2 1, q2 2, q2 3, q2 4, q2 5, q2 6, q1 _, q1 _, q1 _, q1 _, q1 _, q1 _, q1 _, q1 _, q1 _])]) (And.intro rfl (And.intro rfl (And.intro rfl (And.intro ⟨⟨_, rfl⟩, rfl⟩ ?_))))))
      refine Exists.intro _ (Exists.intro _ (Exists.intro _ (Exists.intro _ (Exists.intro _ (Exists.intro _ (Exists.intro _ (Exists.intro _ (Exists.intro _ (Exists.intro _ (Exists.intro _ (And.intro rfl (And.intro rfl (?_)))))))))))))
      intro x_rfa_26 x_rpl_26 h26
      intro z40 h40
      replace h40 := e_rng h40
      apply And.intro
      · intro h41
        apply And.intro
        · intro h57
          exact hQ _ _ (by first | omega | assumption | exact q_rg_up (by assumption) (by omega) | exact q_rg_up (q_rg_up (by assumption) (by omega)) (by omega) | exact q_rg_cpy (by assumption) (by assumption))
        · intro h57
          refine Exists.intro [1, 2, 3, 4, 5, 6, 7, 8] (Exists.intro [q2 0] (Exists.intro (wB _ _ _ _ _ _ _ _ _ _ _ _) (And.intro rfl (And.intro rfl (And.intro rfl (And.intro ⟨⟨_, rfl⟩, rfl⟩ ?_))))))
          refine Exists.intro _ (Exists.intro _ (Exists.intro _ (Exists.intro _ (Exists.intro _ (Exists.intro _ (Exists.intro _ (Exists.intro _ (Exists.intro _ (Exists.intro _ (Exists.intro _ (Exists.intro _ (And.intro rfl (And.intro rfl (And.intro (by first | omega | assumption | exact q_rg_up (by assumption) (by omega) | exact q_rg_up (q_rg_up (by assumption) (by omega)) (by omega) | exact q_rg_cpy (by assumption) (by assumption)) (?_)))))))))))))))
          intro z64 h64
          apply And.intro
          · intro h67
            exact hQ _ _ (by first | omega | assumption | exact q_rg_up (by assumption) (by omega) | exact q_rg_up (q_rg_up (by assumption) (by omega)) (by omega) | exact q_rg_cpy (by assumption) (by assumption))
          · intro h67
            refine Exists.intro [0, 1, 9, 10, 11, 12, 13] (Exists.intro [q2 0, q1 _, q1 _] (Exists.intro ([.inr (6, [q2 1, q2 2, q2 3, q2 4, q2 5, q2 6, q1 _, q1 _, q1 _, q1 _, q1 _, q1 _, q1 _, q1 _, q1 _])]) (And.intro rfl (And.intro rfl (And.intro rfl (And.intro ⟨⟨_, rfl⟩, rfl⟩ ?_))))))
            refine Exists.intro _ (Exists.intro _ (Exists.intro _ (Exists.intro _ (Exists.intro _ (Exists.intro _ (Exists.intro _ (Exists.intro _ (Exists.intro _ (Exists.intro _ (Exists.intro _ (And.intro rfl (And.intro rfl (?_)))))))))))))
            intro x_rfa_77 x_rpl_77 h77
            exact hQ _ _ (by first | omega | assumption | exact q_rg_up (by assumption) (by omega) | exact q_rg_up (q_rg_up (by assumption) (by omega)) (by omega) | exact q_rg_cpy (by assumption) (by assumption))
      · intro h41
        refine Exists.intro [0, 1, 9, 10, 11, 12, 13] (Exists.intro [q2 0, q1 _, q1 _] (Exists.intro ([.inr (6, [q2 1, q2 2, q2 3, q2 4, q2 5, q2 6, q1 _, q1 _, q1 _, q1 _, q1 _, q1 _, q1 _, q1 _, q1 _])]) (And.intro rfl (And.intro rfl (And.intro rfl (And.intro ⟨⟨_, rfl⟩, rfl⟩ ?_))))))
        refine Exists.intro _ (Exists.intro _ (Exists.intro _ (Exists.intro _ (Exists.intro _ (Exists.intro _ (Exists.intro _ (Exists.intro _ (Exists.intro _ (Exists.intro _ (Exists.intro _ (And.intro rfl (And.intro rfl (?_)))))))))))))
        intro x_rfa_50 x_rpl_50 h50
        apply And.intro
        · intro h57
          exact hQ _ _ (by first | omega | assumption | exact q_rg_up (by assumption) (by omega) | exact q_rg_up (q_rg_up (by assumption) (by omega)) (by omega) | exact q_rg_cpy (by assumption) (by assumption))
        · intro h57
          refine Exists.intro [1, 2, 3, 4, 5, 6, 7, 8] (Exists.intro [q2 0] (Exists.intro (wB _ _ _ _ _ _ _ _ _ _ _ _) (And.intro rfl (And.intro rfl (And.intro rfl (And.intro ⟨⟨_, rfl⟩, rfl⟩ ?_))))))
          refine Exists.intro _ (Exists.intro _ (Exists.intro _ (Exists.intro _ (Exists.intro _ (Exists.intro _ (Exists.intro _ (Exists.intro _ (Exists.intro _ (Exists.intro _ (Exists.intro _ (Exists.intro _ (And.intro rfl (And.intro rfl (And.intro (by first | omega | assumption | exact q_rg_up (by assumption) (by omega) | exact q_rg_up (q_rg_up (by assumption) (by omega)) (by omega) | exact q_rg_cpy (by assumption) (by assumption)) (?_)))))))))))))))
          intro z64 h64
          apply And.intro
          · intro h67
            exact hQ _ _ (by first | omega | assumption | exact q_rg_up (by assumption) (by omega) | exact q_rg_up (q_rg_up (by assumption) (by omega)) (by omega) | exact q_rg_cpy (by assumption) (by assumption))
          · intro h67
            refine Exists.intro [0, 1, 9, 10, 11, 12, 13] (Exists.intro [q2 0, q1 _, q1 _] (Exists.intro ([.inr (6, [q2 1, q2 2, q2 3, q2 4, q2 5, q2 6, q1 _, q1 _, q1 _, q1 _, q1 _, q1 _, q1 _, q1 _, q1 _])]) (And.intro rfl (And.intro rfl (And.intro rfl (And.intro ⟨⟨_, rfl⟩, rfl⟩ ?_))))))
            refine Exists.intro _ (Exists.intro _ (Exists.intro _ (Exists.intro _ (Exists.intro _ (Exists.intro _ (Exists.intro _ (Exists.intro _ (Exists.intro _ (Exists.intro _ (Exists.intro _ (And.intro rfl (And.intro rfl (?_)))))))))))))
            intro x_rfa_77 x_rpl_77 h77
            exact hQ _ _ (by first | omega | assumption | exact q_rg_up (by assumption) (by omega) | exact q_rg_up (q_rg_up (by assumption) (by omega)) (by omega) | exact q_rg_cpy (by assumption) (by assumption))
  · intro h1
    exact hQ _ _ (by first | omega | assumption | exact q_rg_up (by assumption) (by omega) | exact q_rg_up (q_rg_up (by assumption) (by omega)) (by omega) | exact q_rg_cpy (by assumption) (by assumption))
