theorem dX9_fewestGifts_0 : decode cX9_fewestGifts 0 = .ok (.aload_n 1, 1) := by decide +kernel
theorem dX9_fewestGifts_1 : decode cX9_fewestGifts 1 = .ok (.getfield 62, 3) := by decide +kernel
theorem dX9_fewestGifts_4 : decode cX9_fewestGifts 4 = .ok (.iconst 1, 1) := by decide +kernel
theorem dX9_fewestGifts_5 : decode cX9_fewestGifts 5 = .ok (.iadd, 1) := by decide +kernel
theorem dX9_fewestGifts_6 : decode cX9_fewestGifts 6 = .ok (.istore_n 2, 1) := by decide +kernel
theorem dX9_fewestGifts_7 : decode cX9_fewestGifts 7 = .ok (.aload_n 0, 1) := by decide +kernel
theorem dX9_fewestGifts_8 : decode cX9_fewestGifts 8 = .ok (.getfield 15, 3) := by decide +kernel
theorem dX9_fewestGifts_11 : decode cX9_fewestGifts 11 = .ok (.iconst 0, 1) := by decide +kernel
theorem dX9_fewestGifts_12 : decode cX9_fewestGifts 12 = .ok (.iconst 0, 1) := by decide +kernel
theorem dX9_fewestGifts_13 : decode cX9_fewestGifts 13 = .ok (.iastore, 1) := by decide +kernel
theorem dX9_fewestGifts_14 : decode cX9_fewestGifts 14 = .ok (.aload_n 0, 1) := by decide +kernel
theorem dX9_fewestGifts_15 : decode cX9_fewestGifts 15 = .ok (.getfield 18, 3) := by decide +kernel
theorem dX9_fewestGifts_18 : decode cX9_fewestGifts 18 = .ok (.iconst 0, 1) := by decide +kernel
theorem dX9_fewestGifts_19 : decode cX9_fewestGifts 19 = .ok (.iconst 0, 1) := by decide +kernel
theorem dX9_fewestGifts_20 : decode cX9_fewestGifts 20 = .ok (.iastore, 1) := by decide +kernel
theorem dX9_fewestGifts_21 : decode cX9_fewestGifts 21 = .ok (.iconst 0, 1) := by decide +kernel
theorem dX9_fewestGifts_22 : decode cX9_fewestGifts 22 = .ok (.istore_n 3, 1) := by decide +kernel
theorem dX9_fewestGifts_23 : decode cX9_fewestGifts 23 = .ok (.iload_n 3, 1) := by decide +kernel
theorem dX9_fewestGifts_24 : decode cX9_fewestGifts 24 = .ok (.iload_n 2, 1) := by decide +kernel
theorem dX9_fewestGifts_25 : decode cX9_fewestGifts 25 = .ok (.if_icmp .ge 83, 3) := by decide +kernel
theorem dX9_fewestGifts_28 : decode cX9_fewestGifts 28 = .ok (.iload_n 3, 1) := by decide +kernel
theorem dX9_fewestGifts_29 : decode cX9_fewestGifts 29 = .ok (.bipush 8, 2) := by decide +kernel
theorem dX9_fewestGifts_31 : decode cX9_fewestGifts 31 = .ok (.if_icmp .gt 77, 3) := by decide +kernel
theorem dX9_fewestGifts_34 : decode cX9_fewestGifts 34 = .ok (.iload_n 3, 1) := by decide +kernel
theorem dX9_fewestGifts_35 : decode cX9_fewestGifts 35 = .ok (.aload_n 1, 1) := by decide +kernel
theorem dX9_fewestGifts_36 : decode cX9_fewestGifts 36 = .ok (.getfield 62, 3) := by decide +kernel
theorem dX9_fewestGifts_39 : decode cX9_fewestGifts 39 = .ok (.if_icmp .ge 19, 3) := by decide +kernel
theorem dX9_fewestGifts_42 : decode cX9_fewestGifts 42 = .ok (.aload_n 0, 1) := by decide +kernel
theorem dX9_fewestGifts_43 : decode cX9_fewestGifts 43 = .ok (.getfield 9, 3) := by decide +kernel
theorem dX9_fewestGifts_46 : decode cX9_fewestGifts 46 = .ok (.iload_n 3, 1) := by decide +kernel
theorem dX9_fewestGifts_47 : decode cX9_fewestGifts 47 = .ok (.iaload, 1) := by decide +kernel
theorem dX9_fewestGifts_48 : decode cX9_fewestGifts 48 = .ok (.aload_n 1, 1) := by decide +kernel
theorem dX9_fewestGifts_49 : decode cX9_fewestGifts 49 = .ok (.getfield 21, 3) := by decide +kernel
theorem dX9_fewestGifts_52 : decode cX9_fewestGifts 52 = .ok (.iload_n 3, 1) := by decide +kernel
theorem dX9_fewestGifts_53 : decode cX9_fewestGifts 53 = .ok (.iaload, 1) := by decide +kernel
theorem dX9_fewestGifts_54 : decode cX9_fewestGifts 54 = .ok (.isub, 1) := by decide +kernel
theorem dX9_fewestGifts_55 : decode cX9_fewestGifts 55 = .ok (.goto 7, 3) := by decide +kernel
theorem dX9_fewestGifts_58 : decode cX9_fewestGifts 58 = .ok (.aload_n 0, 1) := by decide +kernel
theorem dX9_fewestGifts_59 : decode cX9_fewestGifts 59 = .ok (.getfield 30, 3) := by decide +kernel
theorem dX9_fewestGifts_62 : decode cX9_fewestGifts 62 = .ok (.istore 4, 2) := by decide +kernel
theorem dX9_fewestGifts_64 : decode cX9_fewestGifts 64 = .ok (.iconst 0, 1) := by decide +kernel
theorem dX9_fewestGifts_65 : decode cX9_fewestGifts 65 = .ok (.istore 5, 2) := by decide +kernel
theorem dX9_fewestGifts_67 : decode cX9_fewestGifts 67 = .ok (.iload 5, 2) := by decide +kernel
theorem dX9_fewestGifts_69 : decode cX9_fewestGifts 69 = .ok (.iconst 1, 1) := by decide +kernel
theorem dX9_fewestGifts_70 : decode cX9_fewestGifts 70 = .ok (.iload_n 3, 1) := by decide +kernel
theorem dX9_fewestGifts_71 : decode cX9_fewestGifts 71 = .ok (.ishl, 1) := by decide +kernel
theorem dX9_fewestGifts_72 : decode cX9_fewestGifts 72 = .ok (.if_icmp .ge 30, 3) := by decide +kernel
theorem dX9_fewestGifts_75 : decode cX9_fewestGifts 75 = .ok (.aload_n 0, 1) := by decide +kernel
theorem dX9_fewestGifts_76 : decode cX9_fewestGifts 76 = .ok (.getfield 15, 3) := by decide +kernel
theorem dX9_fewestGifts_79 : decode cX9_fewestGifts 79 = .ok (.iload 5, 2) := by decide +kernel
theorem dX9_fewestGifts_81 : decode cX9_fewestGifts 81 = .ok (.iconst 1, 1) := by decide +kernel
theorem dX9_fewestGifts_82 : decode cX9_fewestGifts 82 = .ok (.iload_n 3, 1) := by decide +kernel
theorem dX9_fewestGifts_83 : decode cX9_fewestGifts 83 = .ok (.ishl, 1) := by decide +kernel
theorem dX9_fewestGifts_84 : decode cX9_fewestGifts 84 = .ok (.ior, 1) := by decide +kernel
theorem dX9_fewestGifts_85 : decode cX9_fewestGifts 85 = .ok (.aload_n 0, 1) := by decide +kernel
theorem dX9_fewestGifts_86 : decode cX9_fewestGifts 86 = .ok (.getfield 15, 3) := by decide +kernel
theorem dX9_fewestGifts_89 : decode cX9_fewestGifts 89 = .ok (.iload 5, 2) := by decide +kernel
theorem dX9_fewestGifts_91 : decode cX9_fewestGifts 91 = .ok (.iaload, 1) := by decide +kernel
theorem dX9_fewestGifts_92 : decode cX9_fewestGifts 92 = .ok (.iload 4, 2) := by decide +kernel
theorem dX9_fewestGifts_94 : decode cX9_fewestGifts 94 = .ok (.iadd, 1) := by decide +kernel
theorem dX9_fewestGifts_95 : decode cX9_fewestGifts 95 = .ok (.iastore, 1) := by decide +kernel
theorem dX9_fewestGifts_96 : decode cX9_fewestGifts 96 = .ok (.iinc 5 1, 3) := by decide +kernel
theorem dX9_fewestGifts_99 : decode cX9_fewestGifts 99 = .ok (.goto (-32), 3) := by decide +kernel
theorem dX9_fewestGifts_102 : decode cX9_fewestGifts 102 = .ok (.iinc 3 1, 3) := by decide +kernel
theorem dX9_fewestGifts_105 : decode cX9_fewestGifts 105 = .ok (.goto (-82), 3) := by decide +kernel
theorem dX9_fewestGifts_108 : decode cX9_fewestGifts 108 = .ok (.iconst 1, 1) := by decide +kernel
theorem dX9_fewestGifts_109 : decode cX9_fewestGifts 109 = .ok (.iload_n 2, 1) := by decide +kernel
theorem dX9_fewestGifts_110 : decode cX9_fewestGifts 110 = .ok (.ishl, 1) := by decide +kernel
theorem dX9_fewestGifts_111 : decode cX9_fewestGifts 111 = .ok (.iconst 1, 1) := by decide +kernel
theorem dX9_fewestGifts_112 : decode cX9_fewestGifts 112 = .ok (.isub, 1) := by decide +kernel
theorem dX9_fewestGifts_113 : decode cX9_fewestGifts 113 = .ok (.istore_n 3, 1) := by decide +kernel
theorem dX9_fewestGifts_114 : decode cX9_fewestGifts 114 = .ok (.aload_n 0, 1) := by decide +kernel
theorem dX9_fewestGifts_115 : decode cX9_fewestGifts 115 = .ok (.getfield 15, 3) := by decide +kernel
theorem dX9_fewestGifts_118 : decode cX9_fewestGifts 118 = .ok (.iload_n 3, 1) := by decide +kernel
theorem dX9_fewestGifts_119 : decode cX9_fewestGifts 119 = .ok (.iaload, 1) := by decide +kernel
theorem dX9_fewestGifts_120 : decode cX9_fewestGifts 120 = .ok (.ifCond .eq 5, 3) := by decide +kernel
theorem dX9_fewestGifts_123 : decode cX9_fewestGifts 123 = .ok (.iconst (-1), 1) := by decide +kernel
theorem dX9_fewestGifts_124 : decode cX9_fewestGifts 124 = .ok (.ireturn, 1) := by decide +kernel
theorem dX9_fewestGifts_125 : decode cX9_fewestGifts 125 = .ok (.iconst 1, 1) := by decide +kernel
theorem dX9_fewestGifts_126 : decode cX9_fewestGifts 126 = .ok (.istore 4, 2) := by decide +kernel
theorem dX9_fewestGifts_128 : decode cX9_fewestGifts 128 = .ok (.iload 4, 2) := by decide +kernel
theorem dX9_fewestGifts_130 : decode cX9_fewestGifts 130 = .ok (.iload_n 3, 1) := by decide +kernel
theorem dX9_fewestGifts_131 : decode cX9_fewestGifts 131 = .ok (.if_icmp .gt 39, 3) := by decide +kernel
theorem dX9_fewestGifts_134 : decode cX9_fewestGifts 134 = .ok (.aload_n 0, 1) := by decide +kernel
theorem dX9_fewestGifts_135 : decode cX9_fewestGifts 135 = .ok (.getfield 18, 3) := by decide +kernel
theorem dX9_fewestGifts_138 : decode cX9_fewestGifts 138 = .ok (.iload 4, 2) := by decide +kernel
theorem dX9_fewestGifts_140 : decode cX9_fewestGifts 140 = .ok (.aload_n 0, 1) := by decide +kernel
theorem dX9_fewestGifts_141 : decode cX9_fewestGifts 141 = .ok (.iload 4, 2) := by decide +kernel
theorem dX9_fewestGifts_143 : decode cX9_fewestGifts 143 = .ok (.iload_n 2, 1) := by decide +kernel
theorem dX9_fewestGifts_144 : decode cX9_fewestGifts 144 = .ok (.invokevirtual 120, 3) := by decide +kernel
theorem dX9_fewestGifts_147 : decode cX9_fewestGifts 147 = .ok (.aload_n 0, 1) := by decide +kernel
theorem dX9_fewestGifts_148 : decode cX9_fewestGifts 148 = .ok (.getfield 15, 3) := by decide +kernel
theorem dX9_fewestGifts_151 : decode cX9_fewestGifts 151 = .ok (.iload 4, 2) := by decide +kernel
theorem dX9_fewestGifts_153 : decode cX9_fewestGifts 153 = .ok (.iaload, 1) := by decide +kernel
theorem dX9_fewestGifts_154 : decode cX9_fewestGifts 154 = .ok (.ifCond .ne 7, 3) := by decide +kernel
theorem dX9_fewestGifts_157 : decode cX9_fewestGifts 157 = .ok (.iconst 1, 1) := by decide +kernel
theorem dX9_fewestGifts_158 : decode cX9_fewestGifts 158 = .ok (.goto 4, 3) := by decide +kernel
theorem dX9_fewestGifts_161 : decode cX9_fewestGifts 161 = .ok (.iconst 0, 1) := by decide +kernel
theorem dX9_fewestGifts_162 : decode cX9_fewestGifts 162 = .ok (.iadd, 1) := by decide +kernel
theorem dX9_fewestGifts_163 : decode cX9_fewestGifts 163 = .ok (.iastore, 1) := by decide +kernel
theorem dX9_fewestGifts_164 : decode cX9_fewestGifts 164 = .ok (.iinc 4 1, 3) := by decide +kernel
theorem dX9_fewestGifts_167 : decode cX9_fewestGifts 167 = .ok (.goto (-39), 3) := by decide +kernel
theorem dX9_fewestGifts_170 : decode cX9_fewestGifts 170 = .ok (.iload_n 2, 1) := by decide +kernel
theorem dX9_fewestGifts_171 : decode cX9_fewestGifts 171 = .ok (.aload_n 0, 1) := by decide +kernel
theorem dX9_fewestGifts_172 : decode cX9_fewestGifts 172 = .ok (.getfield 18, 3) := by decide +kernel
theorem dX9_fewestGifts_175 : decode cX9_fewestGifts 175 = .ok (.iload_n 3, 1) := by decide +kernel
theorem dX9_fewestGifts_176 : decode cX9_fewestGifts 176 = .ok (.iaload, 1) := by decide +kernel
theorem dX9_fewestGifts_177 : decode cX9_fewestGifts 177 = .ok (.isub, 1) := by decide +kernel
theorem dX9_fewestGifts_178 : decode cX9_fewestGifts 178 = .ok (.ireturn, 1) := by decide +kernel
def is_X9_fewestGifts : Nat → List Nat := fun d => if d = 23 then [0, 1, 2, 3] else if d = 67 then [0, 1, 2, 3, 4, 5] else if d = 128 then [0, 2, 3, 4] else []
set_option maxRecDepth 100000 in
def b_X9_fewestGifts_162 (J : Nat → List qV → List qV → qW → Prop) (Q : qR) : qK := x_iadd (x_iast (x_nw (x_iinc 4 1 (x_cut [0, 2, 3, 4] (J 128)))))
set_option maxRecDepth 100000 in
theorem s_X9_fewestGifts_162 {p : Program} {l : Launch} {e : Env} {R : Room} {s : State} {m : MethodId} {args : Array Value} {below : List Frame} {meth : Method} {c : Code} {nW : Nat} {dC : Nat → ClassId} {dI : Nat → Nat → Nat} {k : Nat → ClassId} {g : Nat → Nat} {A : Nat → Prop} {J : Nat → List qV → List qV → qW → Prop} {Q : qR} (X : q_X p R s m args meth c cX9_fewestGifts 6 nW 2 45 RX9 (some .int) dC dI k g A) (hJ : ∀ d : Nat, q_Sd p l e R s m args below meth c 6 nW dC dI k g A (MQ below (q_post (dC, dI) k g nW Q A) args s 0 0 A) d (x_cut (is_X9_fewestGifts d) (J d))) : q_Sd p l e R s m args below meth c 6 nW dC dI k g A (MQ below (q_post (dC, dI) k g nW Q A) args s 0 0 A) 162 (b_X9_fewestGifts_162 J Q) := by
  unfold b_X9_fewestGifts_162
  refine s_iadd X dX9_fewestGifts_162 ?_
  refine s_iast X dX9_fewestGifts_163 ?_
  refine s_nw ?_
  refine s_iinc X (by decide) dX9_fewestGifts_164 ?_
  refine s_goto X (tgt := 128) dX9_fewestGifts_167 (by decide) ?_
  exact hJ 128
set_option maxRecDepth 100000 in
def b_X9_fewestGifts_128 (J : Nat → List qV → List qV → qW → Prop) (Q : qR) : qK := x_iload 4 (x_iload 3 (x_icmp_gt (x_iload 2 (x_aload 0 (x_get 9 2 (x_iload 3 (x_iald (x_isub (x_iret Q))))))) (x_aload 0 (x_get 9 2 (x_iload 4 (x_aload 0 (x_iload 4 (x_iload 2 (x_callr (some 9) 3 spr_X9_mostGroups (x_aload 0 (x_get 9 1 (x_iload 4 (x_iald (x_if_ne (x_int 0 (b_X9_fewestGifts_162 J Q)) (x_int 1 (b_X9_fewestGifts_162 J Q))))))))))))))))
set_option maxRecDepth 100000 in
theorem s_X9_fewestGifts_128 {p : Program} {l : Launch} {e : Env} {R : Room} {s : State} {m : MethodId} {args : Array Value} {below : List Frame} {meth : Method} {c : Code} {nW : Nat} {dC : Nat → ClassId} {dI : Nat → Nat → Nat} {k : Nat → ClassId} {g : Nat → Nat} {A : Nat → Prop} {J : Nat → List qV → List qV → qW → Prop} {Q : qR} (X : q_X p R s m args meth c cX9_fewestGifts 6 nW 2 45 RX9 (some .int) dC dI k g A) (hJ : ∀ d : Nat, q_Sd p l e R s m args below meth c 6 nW dC dI k g A (MQ below (q_post (dC, dI) k g nW Q A) args s 0 0 A) d (x_cut (is_X9_fewestGifts d) (J d))) : q_Sd p l e R s m args below meth c 6 nW dC dI k g A (MQ below (q_post (dC, dI) k g nW Q A) args s 0 0 A) 128 (b_X9_fewestGifts_128 J Q) := by
  unfold b_X9_fewestGifts_128
  refine s_iload X dX9_fewestGifts_128 ?_
  refine s_iload_n X rfl dX9_fewestGifts_130 ?_
  refine s_icmp_gt X (tgt := 170) dX9_fewestGifts_131 (by decide) ?_ ?_
  · refine s_iload_n X rfl dX9_fewestGifts_170 ?_
    refine s_aload_n X rfl dX9_fewestGifts_171 ?_
    refine s_get X (T := TX9) (C := RX9) (N := 5) tu_X9 rfl (by decide) tw_293 dX9_fewestGifts_172 ?_
    refine s_iload_n X rfl dX9_fewestGifts_175 ?_
    refine s_iald X dX9_fewestGifts_176 ?_
    refine s_isub X dX9_fewestGifts_177 ?_
    exact s_iret X dX9_fewestGifts_178
  · refine s_aload_n X rfl dX9_fewestGifts_134 ?_
    refine s_get X (T := TX9) (C := RX9) (N := 5) tu_X9 rfl (by decide) tw_293 dX9_fewestGifts_135 ?_
    refine s_iload X dX9_fewestGifts_138 ?_
    refine s_aload_n X rfl dX9_fewestGifts_140 ?_
    refine s_iload X dX9_fewestGifts_141 ?_
    refine s_iload_n X rfl dX9_fewestGifts_143 ?_
    refine s_callVr X (m_X9_mostGroups l) tw_973 tw_974 tw_1542 tw_129 tw_975 rfl (by decide +kernel) ⟨by decide, by decide⟩ dX9_fewestGifts_144 ?_
    refine s_aload_n X rfl dX9_fewestGifts_147 ?_
    refine s_get X (T := TX9) (C := RX9) (N := 5) tu_X9 rfl (by decide) tw_292 dX9_fewestGifts_148 ?_
    refine s_iload X dX9_fewestGifts_151 ?_
    refine s_iald X dX9_fewestGifts_153 ?_
    refine s_if_ne X (tgt := 161) dX9_fewestGifts_154 (by decide) ?_ ?_
    · refine s_iconst X ⟨by decide, by decide⟩ dX9_fewestGifts_161 ?_
      exact s_X9_fewestGifts_162 X hJ
    · refine s_iconst X ⟨by decide, by decide⟩ dX9_fewestGifts_157 ?_
      refine s_goto X (tgt := 162) dX9_fewestGifts_158 (by decide) ?_
      exact s_X9_fewestGifts_162 X hJ
set_option maxRecDepth 100000 in
def b_X9_fewestGifts_108 (J : Nat → List qV → List qV → qW → Prop) (Q : qR) : qK := x_int 1 (x_iload 2 (x_ishl (x_int 1 (x_isub (x_istore 3 (x_aload 0 (x_get 9 1 (x_iload 3 (x_iald (x_if_eq (x_int 1 (x_istore 4 (x_cut [0, 2, 3, 4] (J 128)))) (x_int (-1) (x_iret Q))))))))))))
set_option maxRecDepth 100000 in
theorem s_X9_fewestGifts_108 {p : Program} {l : Launch} {e : Env} {R : Room} {s : State} {m : MethodId} {args : Array Value} {below : List Frame} {meth : Method} {c : Code} {nW : Nat} {dC : Nat → ClassId} {dI : Nat → Nat → Nat} {k : Nat → ClassId} {g : Nat → Nat} {A : Nat → Prop} {J : Nat → List qV → List qV → qW → Prop} {Q : qR} (X : q_X p R s m args meth c cX9_fewestGifts 6 nW 2 45 RX9 (some .int) dC dI k g A) (hJ : ∀ d : Nat, q_Sd p l e R s m args below meth c 6 nW dC dI k g A (MQ below (q_post (dC, dI) k g nW Q A) args s 0 0 A) d (x_cut (is_X9_fewestGifts d) (J d))) : q_Sd p l e R s m args below meth c 6 nW dC dI k g A (MQ below (q_post (dC, dI) k g nW Q A) args s 0 0 A) 108 (b_X9_fewestGifts_108 J Q) := by
  unfold b_X9_fewestGifts_108
  refine s_iconst X ⟨by decide, by decide⟩ dX9_fewestGifts_108 ?_
  refine s_iload_n X rfl dX9_fewestGifts_109 ?_
  refine s_ishl X dX9_fewestGifts_110 ?_
  refine s_iconst X ⟨by decide, by decide⟩ dX9_fewestGifts_111 ?_
  refine s_isub X dX9_fewestGifts_112 ?_
  refine s_istore_n X rfl (by decide) dX9_fewestGifts_113 ?_
  refine s_aload_n X rfl dX9_fewestGifts_114 ?_
  refine s_get X (T := TX9) (C := RX9) (N := 5) tu_X9 rfl (by decide) tw_292 dX9_fewestGifts_115 ?_
  refine s_iload_n X rfl dX9_fewestGifts_118 ?_
  refine s_iald X dX9_fewestGifts_119 ?_
  refine s_if_eq X (tgt := 125) dX9_fewestGifts_120 (by decide) ?_ ?_
  · refine s_iconst X ⟨by decide, by decide⟩ dX9_fewestGifts_125 ?_
    refine s_istore X (by decide) dX9_fewestGifts_126 ?_
    exact hJ 128
  · refine s_iconst X ⟨by decide, by decide⟩ dX9_fewestGifts_123 ?_
    exact s_iret X dX9_fewestGifts_124
set_option maxRecDepth 100000 in
def b_X9_fewestGifts_67 (J : Nat → List qV → List qV → qW → Prop) (Q : qR) : qK := x_iload 5 (x_int 1 (x_iload 3 (x_ishl (x_icmp_ge (x_iinc 3 1 (x_cut [0, 1, 2, 3] (J 23))) (x_aload 0 (x_get 9 1 (x_iload 5 (x_int 1 (x_iload 3 (x_ishl (x_ior (x_aload 0 (x_get 9 1 (x_iload 5 (x_iald (x_iload 4 (x_iadd (x_iast (x_nw (x_iinc 5 1 (x_cut [0, 1, 2, 3, 4, 5] (J 67))))))))))))))))))))))
set_option maxRecDepth 100000 in
theorem s_X9_fewestGifts_67 {p : Program} {l : Launch} {e : Env} {R : Room} {s : State} {m : MethodId} {args : Array Value} {below : List Frame} {meth : Method} {c : Code} {nW : Nat} {dC : Nat → ClassId} {dI : Nat → Nat → Nat} {k : Nat → ClassId} {g : Nat → Nat} {A : Nat → Prop} {J : Nat → List qV → List qV → qW → Prop} {Q : qR} (X : q_X p R s m args meth c cX9_fewestGifts 6 nW 2 45 RX9 (some .int) dC dI k g A) (hJ : ∀ d : Nat, q_Sd p l e R s m args below meth c 6 nW dC dI k g A (MQ below (q_post (dC, dI) k g nW Q A) args s 0 0 A) d (x_cut (is_X9_fewestGifts d) (J d))) : q_Sd p l e R s m args below meth c 6 nW dC dI k g A (MQ below (q_post (dC, dI) k g nW Q A) args s 0 0 A) 67 (b_X9_fewestGifts_67 J Q) := by
  unfold b_X9_fewestGifts_67
  refine s_iload X dX9_fewestGifts_67 ?_
  refine s_iconst X ⟨by decide, by decide⟩ dX9_fewestGifts_69 ?_
  refine s_iload_n X rfl dX9_fewestGifts_70 ?_
  refine s_ishl X dX9_fewestGifts_71 ?_
  refine s_icmp_ge X (tgt := 102) dX9_fewestGifts_72 (by decide) ?_ ?_
  · refine s_iinc X (by decide) dX9_fewestGifts_102 ?_
    refine s_goto X (tgt := 23) dX9_fewestGifts_105 (by decide) ?_
    exact hJ 23
  · refine s_aload_n X rfl dX9_fewestGifts_75 ?_
    refine s_get X (T := TX9) (C := RX9) (N := 5) tu_X9 rfl (by decide) tw_292 dX9_fewestGifts_76 ?_
    refine s_iload X dX9_fewestGifts_79 ?_
    refine s_iconst X ⟨by decide, by decide⟩ dX9_fewestGifts_81 ?_
    refine s_iload_n X rfl dX9_fewestGifts_82 ?_
    refine s_ishl X dX9_fewestGifts_83 ?_
    refine s_ior X dX9_fewestGifts_84 ?_
    refine s_aload_n X rfl dX9_fewestGifts_85 ?_
    refine s_get X (T := TX9) (C := RX9) (N := 5) tu_X9 rfl (by decide) tw_292 dX9_fewestGifts_86 ?_
    refine s_iload X dX9_fewestGifts_89 ?_
    refine s_iald X dX9_fewestGifts_91 ?_
    refine s_iload X dX9_fewestGifts_92 ?_
    refine s_iadd X dX9_fewestGifts_94 ?_
    refine s_iast X dX9_fewestGifts_95 ?_
    refine s_nw ?_
    refine s_iinc X (by decide) dX9_fewestGifts_96 ?_
    refine s_goto X (tgt := 67) dX9_fewestGifts_99 (by decide) ?_
    exact hJ 67
set_option maxRecDepth 100000 in
def b_X9_fewestGifts_62 (J : Nat → List qV → List qV → qW → Prop) (Q : qR) : qK := x_istore 4 (x_int 0 (x_istore 5 (x_cut [0, 1, 2, 3, 4, 5] (J 67))))
set_option maxRecDepth 100000 in
theorem s_X9_fewestGifts_62 {p : Program} {l : Launch} {e : Env} {R : Room} {s : State} {m : MethodId} {args : Array Value} {below : List Frame} {meth : Method} {c : Code} {nW : Nat} {dC : Nat → ClassId} {dI : Nat → Nat → Nat} {k : Nat → ClassId} {g : Nat → Nat} {A : Nat → Prop} {J : Nat → List qV → List qV → qW → Prop} {Q : qR} (X : q_X p R s m args meth c cX9_fewestGifts 6 nW 2 45 RX9 (some .int) dC dI k g A) (hJ : ∀ d : Nat, q_Sd p l e R s m args below meth c 6 nW dC dI k g A (MQ below (q_post (dC, dI) k g nW Q A) args s 0 0 A) d (x_cut (is_X9_fewestGifts d) (J d))) : q_Sd p l e R s m args below meth c 6 nW dC dI k g A (MQ below (q_post (dC, dI) k g nW Q A) args s 0 0 A) 62 (b_X9_fewestGifts_62 J Q) := by
  unfold b_X9_fewestGifts_62
  refine s_istore X (by decide) dX9_fewestGifts_62 ?_
  refine s_iconst X ⟨by decide, by decide⟩ dX9_fewestGifts_64 ?_
  refine s_istore X (by decide) dX9_fewestGifts_65 ?_
  exact hJ 67
set_option maxRecDepth 100000 in
def b_X9_fewestGifts_23 (J : Nat → List qV → List qV → qW → Prop) (Q : qR) : qK := x_iload 3 (x_iload 2 (x_icmp_ge (b_X9_fewestGifts_108 J Q) (x_iload 3 (x_int 8 (x_icmp_gt (b_X9_fewestGifts_108 J Q) (x_iload 3 (x_aload 1 (x_get 0 7 (x_icmp_ge (x_aload 0 (x_get 9 3 (b_X9_fewestGifts_62 J Q))) (x_aload 0 (x_get 9 0 (x_iload 3 (x_iald (x_aload 1 (x_get 0 0 (x_iload 3 (x_iald (x_isub (b_X9_fewestGifts_62 J Q)))))))))))))))))))
set_option maxRecDepth 100000 in
theorem s_X9_fewestGifts_23 {p : Program} {l : Launch} {e : Env} {R : Room} {s : State} {m : MethodId} {args : Array Value} {below : List Frame} {meth : Method} {c : Code} {nW : Nat} {dC : Nat → ClassId} {dI : Nat → Nat → Nat} {k : Nat → ClassId} {g : Nat → Nat} {A : Nat → Prop} {J : Nat → List qV → List qV → qW → Prop} {Q : qR} (X : q_X p R s m args meth c cX9_fewestGifts 6 nW 2 45 RX9 (some .int) dC dI k g A) (hJ : ∀ d : Nat, q_Sd p l e R s m args below meth c 6 nW dC dI k g A (MQ below (q_post (dC, dI) k g nW Q A) args s 0 0 A) d (x_cut (is_X9_fewestGifts d) (J d))) : q_Sd p l e R s m args below meth c 6 nW dC dI k g A (MQ below (q_post (dC, dI) k g nW Q A) args s 0 0 A) 23 (b_X9_fewestGifts_23 J Q) := by
  unfold b_X9_fewestGifts_23
  refine s_iload_n X rfl dX9_fewestGifts_23 ?_
  refine s_iload_n X rfl dX9_fewestGifts_24 ?_
  refine s_icmp_ge X (tgt := 108) dX9_fewestGifts_25 (by decide) ?_ ?_
  · exact s_X9_fewestGifts_108 X hJ
  · refine s_iload_n X rfl dX9_fewestGifts_28 ?_
    refine s_bipush X ⟨by decide, by decide⟩ (by decide) dX9_fewestGifts_29 ?_
    refine s_icmp_gt X (tgt := 108) dX9_fewestGifts_31 (by decide) ?_ ?_
    · exact s_X9_fewestGifts_108 X hJ
    · refine s_iload_n X rfl dX9_fewestGifts_34 ?_
      refine s_aload_n X rfl dX9_fewestGifts_35 ?_
      refine s_get X (T := TX0) (C := RX0) (N := 12) tu_X0 rfl (by decide) tw_196 dX9_fewestGifts_36 ?_
      refine s_icmp_ge X (tgt := 58) dX9_fewestGifts_39 (by decide) ?_ ?_
      · refine s_aload_n X rfl dX9_fewestGifts_58 ?_
        refine s_get X (T := TX9) (C := RX9) (N := 5) tu_X9 rfl (by decide) tw_294 dX9_fewestGifts_59 ?_
        exact s_X9_fewestGifts_62 X hJ
      · refine s_aload_n X rfl dX9_fewestGifts_42 ?_
        refine s_get X (T := TX9) (C := RX9) (N := 5) tu_X9 rfl (by decide) tw_291 dX9_fewestGifts_43 ?_
        refine s_iload_n X rfl dX9_fewestGifts_46 ?_
        refine s_iald X dX9_fewestGifts_47 ?_
        refine s_aload_n X rfl dX9_fewestGifts_48 ?_
        refine s_get X (T := TX0) (C := RX0) (N := 12) tu_X0 rfl (by decide) tw_165 dX9_fewestGifts_49 ?_
        refine s_iload_n X rfl dX9_fewestGifts_52 ?_
        refine s_iald X dX9_fewestGifts_53 ?_
        refine s_isub X dX9_fewestGifts_54 ?_
        refine s_goto X (tgt := 62) dX9_fewestGifts_55 (by decide) ?_
        exact s_X9_fewestGifts_62 X hJ
set_option maxRecDepth 100000 in
def b_X9_fewestGifts_0 (J : Nat → List qV → List qV → qW → Prop) (Q : qR) : qK := x_aload 1 (x_get 0 7 (x_int 1 (x_iadd (x_istore 2 (x_aload 0 (x_get 9 1 (x_int 0 (x_int 0 (x_iast (x_nw (x_aload 0 (x_get 9 2 (x_int 0 (x_int 0 (x_iast (x_nw (x_int 0 (x_istore 3 (x_cut [0, 1, 2, 3] (J 23))))))))))))))))))))
set_option maxRecDepth 100000 in
theorem s_X9_fewestGifts_0 {p : Program} {l : Launch} {e : Env} {R : Room} {s : State} {m : MethodId} {args : Array Value} {below : List Frame} {meth : Method} {c : Code} {nW : Nat} {dC : Nat → ClassId} {dI : Nat → Nat → Nat} {k : Nat → ClassId} {g : Nat → Nat} {A : Nat → Prop} {J : Nat → List qV → List qV → qW → Prop} {Q : qR} (X : q_X p R s m args meth c cX9_fewestGifts 6 nW 2 45 RX9 (some .int) dC dI k g A) (hJ : ∀ d : Nat, q_Sd p l e R s m args below meth c 6 nW dC dI k g A (MQ below (q_post (dC, dI) k g nW Q A) args s 0 0 A) d (x_cut (is_X9_fewestGifts d) (J d))) : q_Sd p l e R s m args below meth c 6 nW dC dI k g A (MQ below (q_post (dC, dI) k g nW Q A) args s 0 0 A) 0 (b_X9_fewestGifts_0 J Q) := by
  unfold b_X9_fewestGifts_0
  refine s_aload_n X rfl dX9_fewestGifts_0 ?_
  refine s_get X (T := TX0) (C := RX0) (N := 12) tu_X0 rfl (by decide) tw_196 dX9_fewestGifts_1 ?_
  refine s_iconst X ⟨by decide, by decide⟩ dX9_fewestGifts_4 ?_
  refine s_iadd X dX9_fewestGifts_5 ?_
  refine s_istore_n X rfl (by decide) dX9_fewestGifts_6 ?_
  refine s_aload_n X rfl dX9_fewestGifts_7 ?_
  refine s_get X (T := TX9) (C := RX9) (N := 5) tu_X9 rfl (by decide) tw_292 dX9_fewestGifts_8 ?_
  refine s_iconst X ⟨by decide, by decide⟩ dX9_fewestGifts_11 ?_
  refine s_iconst X ⟨by decide, by decide⟩ dX9_fewestGifts_12 ?_
  refine s_iast X dX9_fewestGifts_13 ?_
  refine s_nw ?_
  refine s_aload_n X rfl dX9_fewestGifts_14 ?_
  refine s_get X (T := TX9) (C := RX9) (N := 5) tu_X9 rfl (by decide) tw_293 dX9_fewestGifts_15 ?_
  refine s_iconst X ⟨by decide, by decide⟩ dX9_fewestGifts_18 ?_
  refine s_iconst X ⟨by decide, by decide⟩ dX9_fewestGifts_19 ?_
  refine s_iast X dX9_fewestGifts_20 ?_
  refine s_nw ?_
  refine s_iconst X ⟨by decide, by decide⟩ dX9_fewestGifts_21 ?_
  refine s_istore_n X rfl (by decide) dX9_fewestGifts_22 ?_
  exact hJ 23

def sp_X9_fewestGifts : qS := fun av w Q => ∃ (h1 : Nat → Int) (h2 : Nat → Int) (h3 : Nat → Int) (p0 : Int) (s0 : Int) (f1 : Nat → Int) (f2 : Nat → Int) (f3 : Nat → Int) (f4 : Nat → Int) (f5 : Nat → Int) (f6 : Nat → Int) (f7 : Nat → Int) (u0 : Int) (u1 : Int) (u2 : Int) (u3 : Int) (u4 : Int), av = [q2 0, q2 4] ∧ w = (wKo 0 h1 h2 h3 p0 s0 ++ wBo 4 f1 f2 f3 f4 f5 f6 f7 u0 u1 u2 u3 u4) ∧ (0 ≤ u0 ∧ u0 ≤ 8) ∧ (∀ (r : Int) (x1 : Nat → Int) (x2 : Nat → Int) (x3 : Nat → Int) (x4 : Int) (x5 : Int), Q (some (q1 r)) ((wKo 0 x1 x2 x3 x4 x5 ++ wBo 4 f1 f2 f3 f4 f5 f6 f7 u0 u1 u2 u3 u4)))
def I_X9_fewestGifts (h1 : Nat → Int) (h2 : Nat → Int) (h3 : Nat → Int) (p0 : Int) (s0 : Int) (f1 : Nat → Int) (f2 : Nat → Int) (f3 : Nat → Int) (f4 : Nat → Int) (f5 : Nat → Int) (f6 : Nat → Int) (f7 : Nat → Int) (u0 : Int) (u1 : Int) (u2 : Int) (u3 : Int) (u4 : Int) : Nat → Nat → List qV → List qV → qW → Prop := fun dz mz vz sz wz => if dz = 23 then (∃ (y1 : Nat → Int) (y2 : Nat → Int) (y3 : Nat → Int) (y4 : Int) (y5 : Int) (v2 : Int) (v3 : Int), vz = [q2 0, q2 4, q1 v2, q1 v3] ∧ sz = [] ∧ wz = (wKo 0 y1 y2 y3 y4 y5 ++ wBo 4 f1 f2 f3 f4 f5 f6 f7 u0 u1 u2 u3 u4) ∧ mz = 10000 + 1000 * (9 - v3).toNat ∧ (0 ≤ v3 ∧ v3 ≤ 9 ∧ v2 = u0 + 1)) else if dz = 67 then (∃ (y1 : Nat → Int) (y2 : Nat → Int) (y3 : Nat → Int) (y4 : Int) (y5 : Int) (v2 : Int) (v3 : Int) (v4 : Int) (v5 : Int), vz = [q2 0, q2 4, q1 v2, q1 v3, q1 v4, q1 v5] ∧ sz = [] ∧ wz = (wKo 0 y1 y2 y3 y4 y5 ++ wBo 4 f1 f2 f3 f4 f5 f6 f7 u0 u1 u2 u3 u4) ∧ mz = 10000 + 1000 * (9 - v3).toNat - 500 + (257 - v5).toNat ∧ (0 ≤ v3 ∧ v3 ≤ 8 ∧ v2 = u0 + 1) ∧ (0 ≤ v5 ∧ v5 ≤ 256)) else if dz = 128 then (∃ (y1 : Nat → Int) (y2 : Nat → Int) (y3 : Nat → Int) (y4 : Int) (y5 : Int) (v2 : Int) (v3 : Int) (v4 : Int), vz = [q2 0, q1 v2, q1 v3, q1 v4] ∧ sz = [] ∧ wz = (wKo 0 y1 y2 y3 y4 y5 ++ wBo 4 f1 f2 f3 f4 f5 f6 f7 u0 u1 u2 u3 u4) ∧ mz = (513 - v4).toNat ∧ (v2 = u0 + 1 ∧ 1 ≤ v3 ∧ v3 ≤ 511 ∧ 1 ≤ v4 ∧ v4 ≤ 512)) else False
set_option maxHeartbeats 4000000 in
set_option maxRecDepth 100000 in
theorem m_X9_fewestGifts (l : Launch) : q_M l yX9_fewestGifts cX9_fewestGifts 6 (some .int) 2 45 sp_X9_fewestGifts := by
  refine q_meth (by decide) (fun av w Q h => by obtain ⟨h1, h2, h3, p0, s0, f1, f2, f3, f4, f5, f6, f7, u0, u1, u2, u3, u4, rfl, rfl, hu0, hQ⟩ := h; exact Nat.le_of_ble_eq_true rfl) ?_
  intro p e R s m args below meth c dC dI k g A av w Q hsp oka okw X
  obtain ⟨h1, h2, h3, p0, s0, f1, f2, f3, f4, f5, f6, f7, u0, u1, u2, u3, u4, rfl, rfl, hu0, hQ⟩ := hsp
  refine s_mono (s_X9_fewestGifts_0 X (J := fun dz vz sz wz => ∃ mz, I_X9_fewestGifts h1 h2 h3 p0 s0 f1 f2 f3 f4 f5 f6 f7 u0 u1 u2 u3 u4 dz mz vz sz wz) (q_loopn (I_X9_fewestGifts h1 h2 h3 p0 s0 f1 f2 f3 f4 f5 f6 f7 u0 u1 u2 u3 u4) (fun dz J => if dz = 23 then b_X9_fewestGifts_23 J Q else if dz = 67 then b_X9_fewestGifts_67 J Q else if dz = 128 then b_X9_fewestGifts_128 J Q else q_F) ?hs ?hv)) ?_
  case hs =>
    intro d J hJ
    by_cases h23 : d = 23
    · subst h23; exact s_X9_fewestGifts_23 X hJ
    by_cases h67 : d = 67
    · subst h67; exact s_X9_fewestGifts_67 X hJ
    by_cases h128 : d = 128
    · subst h128; exact s_X9_fewestGifts_128 X hJ
    simp only [h23, h67, h128, if_false]
    exact s_F
  case hv =>
    intro dz mz vz sz wz hI okv oks okw hlen
    by_cases h23 : dz = 23
    · subst h23
      obtain ⟨y1, y2, y3, y4, y5, v2, v3, rfl, rfl, rfl, hn, hp⟩ := hI
      apply And.intro
      · intro h25
        intro z110 h110
        first | replace h110 := e_shl h110 (by omega) | replace h110 := e_rng h110
        intro z112 h112
        first | replace h112 := e_sub h112 (by omega) | replace h112 := e_rng h112
        apply And.intro
        · exact ⟨by omega, by omega⟩
        intro z119 h119
        apply And.intro
        · intro h120
          exact ⟨_, ⟨_, _, _, _, _, _, _, _, rfl, rfl, rfl, rfl, (by first | omega | assumption | exact q_rg_up (by assumption) (by omega) | exact q_rg_up (q_rg_up (by assumption) (by omega)) (by omega) | exact q_rg_cpy (by assumption) (by assumption))⟩, by omega⟩
        · intro h120
          exact hQ _ _ _ _ _ _
      · intro h25
        apply And.intro
        · intro h31
          intro z110 h110
          first | replace h110 := e_shl h110 (by omega) | replace h110 := e_rng h110
          intro z112 h112
          first | replace h112 := e_sub h112 (by omega) | replace h112 := e_rng h112
          apply And.intro
          · exact ⟨by omega, by omega⟩
          intro z119 h119
          apply And.intro
          · intro h120
            exact ⟨_, ⟨_, _, _, _, _, _, _, _, rfl, rfl, rfl, rfl, (by first | omega | assumption | exact q_rg_up (by assumption) (by omega) | exact q_rg_up (q_rg_up (by assumption) (by omega)) (by omega) | exact q_rg_cpy (by assumption) (by assumption))⟩, by omega⟩
          · intro h120
            exact hQ _ _ _ _ _ _
        · intro h31
          apply And.intro
          · intro h39
            exact ⟨_, ⟨_, _, _, _, _, _, _, _, _, rfl, rfl, rfl, rfl, (by first | omega | assumption | exact q_rg_up (by assumption) (by omega) | exact q_rg_up (q_rg_up (by assumption) (by omega)) (by omega) | exact q_rg_cpy (by assumption) (by assumption)), (by first | omega | assumption | exact q_rg_up (by assumption) (by omega) | exact q_rg_up (q_rg_up (by assumption) (by omega)) (by omega) | exact q_rg_cpy (by assumption) (by assumption))⟩, by omega⟩
          · intro h39
            apply And.intro
            · exact ⟨by omega, by omega⟩
            intro z47 h47
            apply And.intro
            · exact ⟨by omega, by omega⟩
            intro z53 h53
            intro z54 h54
            first | replace h54 := e_sub h54 (by omega) | replace h54 := e_rng h54
            exact ⟨_, ⟨_, _, _, _, _, _, _, _, _, rfl, rfl, rfl, rfl, (by first | omega | assumption | exact q_rg_up (by assumption) (by omega) | exact q_rg_up (q_rg_up (by assumption) (by omega)) (by omega) | exact q_rg_cpy (by assumption) (by assumption)), (by first | omega | assumption | exact q_rg_up (by assumption) (by omega) | exact q_rg_up (q_rg_up (by assumption) (by omega)) (by omega) | exact q_rg_cpy (by assumption) (by assumption))⟩, by omega⟩
    by_cases h67 : dz = 67
    · subst h67
      obtain ⟨y1, y2, y3, y4, y5, v2, v3, v4, v5, rfl, rfl, rfl, hn, hp, hq⟩ := hI
      intro z71 h71
      first | replace h71 := e_shl h71 (by omega) | replace h71 := e_rng h71
      apply And.intro
      · intro h72
        intro z102 h102
        first | replace h102 := e_add h102 (by omega) | replace h102 := e_rng h102
        exact ⟨_, ⟨_, _, _, _, _, _, _, rfl, rfl, rfl, rfl, (by first | omega | assumption | exact q_rg_up (by assumption) (by omega) | exact q_rg_up (q_rg_up (by assumption) (by omega)) (by omega) | exact q_rg_cpy (by assumption) (by assumption))⟩, by omega⟩
      · intro h72
        intro z83 h83
        first | replace h83 := e_shl h83 (by omega) | replace h83 := e_rng h83
        intro z84 h84
        first | replace h84 := e_or8 h84 (by omega) (by omega) | replace h84 := e_or9 h84 (by omega) (by omega) | replace h84 := e_rng h84
        apply And.intro
        · exact ⟨by omega, by omega⟩
        intro z91 h91
        intro z94 h94
        first | replace h94 := e_add h94 (by omega) | replace h94 := e_rng h94
        apply And.intro
        · exact ⟨by omega, by omega⟩
        intro z96 h96
        first | replace h96 := e_add h96 (by omega) | replace h96 := e_rng h96
        exact ⟨_, ⟨_, _, _, _, _, _, _, _, _, rfl, rfl, rfl, rfl, (by first | omega | assumption | exact q_rg_up (by assumption) (by omega) | exact q_rg_up (q_rg_up (by assumption) (by omega)) (by omega) | exact q_rg_cpy (by assumption) (by assumption)), (by first | omega | assumption | exact q_rg_up (by assumption) (by omega) | exact q_rg_up (q_rg_up (by assumption) (by omega)) (by omega) | exact q_rg_cpy (by assumption) (by assumption))⟩, by omega⟩
    by_cases h128 : dz = 128
    · subst h128
      obtain ⟨y1, y2, y3, y4, y5, v2, v3, v4, rfl, rfl, rfl, hn, hp⟩ := hI
      apply And.intro
      · intro h131
        apply And.intro
        · exact ⟨by omega, by omega⟩
        intro z176 h176
        intro z177 h177
        first | replace h177 := e_sub h177 (by omega) | replace h177 := e_rng h177
        exact hQ _ _ _ _ _ _
      · intro h131
        refine Exists.intro [0, 1, 2, 3] (Exists.intro [q2 0, q1 _, q1 _] (Exists.intro ((wKo 0 _ _ _ _ _)) (And.intro rfl (And.intro rfl (And.intro rfl (And.intro ⟨⟨_, rfl⟩, rfl⟩ ?_))))))
        refine Exists.intro _ (Exists.intro _ (Exists.intro _ (Exists.intro _ (Exists.intro _ (Exists.intro _ (Exists.intro _ (And.intro rfl (And.intro rfl (And.intro (by first | omega | assumption | exact q_rg_up (by assumption) (by omega) | exact q_rg_up (q_rg_up (by assumption) (by omega)) (by omega) | exact q_rg_cpy (by assumption) (by assumption)) (?_))))))))))
        intro z144
        apply And.intro
        · exact ⟨by omega, by omega⟩
        intro z153 h153
        apply And.intro
        · intro h154
          intro z162 h162
          first | replace h162 := e_add h162 (by omega) | replace h162 := e_rng h162
          apply And.intro
          · exact ⟨by omega, by omega⟩
          intro z164 h164
          first | replace h164 := e_add h164 (by omega) | replace h164 := e_rng h164
          exact ⟨_, ⟨_, _, _, _, _, _, _, _, rfl, rfl, rfl, rfl, (by first | omega | assumption | exact q_rg_up (by assumption) (by omega) | exact q_rg_up (q_rg_up (by assumption) (by omega)) (by omega) | exact q_rg_cpy (by assumption) (by assumption))⟩, by omega⟩
        · intro h154
          intro z162 h162
          first | replace h162 := e_add h162 (by omega) | replace h162 := e_rng h162
          apply And.intro
          · exact ⟨by omega, by omega⟩
          intro z164 h164
          first | replace h164 := e_add h164 (by omega) | replace h164 := e_rng h164
          exact ⟨_, ⟨_, _, _, _, _, _, _, _, rfl, rfl, rfl, rfl, (by first | omega | assumption | exact q_rg_up (by assumption) (by omega) | exact q_rg_up (q_rg_up (by assumption) (by omega)) (by omega) | exact q_rg_cpy (by assumption) (by assumption))⟩, by omega⟩
    simp only [I_X9_fewestGifts, h23, h67, h128, if_false] at hI
  rintro lv st w' ⟨rfl, rfl, rfl⟩
  intro z5 h5
  first | replace h5 := e_add h5 (by omega) | replace h5 := e_rng h5
  apply And.intro
  · exact ⟨by omega, by omega⟩
  apply And.intro
  · exact ⟨by omega, by omega⟩
  exact ⟨_, _, _, _, _, _, _, _, rfl, rfl, rfl, rfl, (by first | omega | assumption | exact q_rg_up (by assumption) (by omega) | exact q_rg_up (q_rg_up (by assumption) (by omega)) (by omega) | exact q_rg_cpy (by assumption) (by assumption))⟩
