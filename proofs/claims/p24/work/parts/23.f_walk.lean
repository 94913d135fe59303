theorem dX9_draw_0 : decode cX9_draw 0 = .ok (.aload_n 0, 1) := by decide +kernel
theorem dX9_draw_1 : decode cX9_draw 1 = .ok (.aload_n 1, 1) := by decide +kernel
theorem dX9_draw_2 : decode cX9_draw 2 = .ok (.invokevirtual 34, 3) := by decide +kernel
theorem dX9_draw_5 : decode cX9_draw 5 = .ok (.aload_n 0, 1) := by decide +kernel
theorem dX9_draw_6 : decode cX9_draw 6 = .ok (.iload_n 2, 1) := by decide +kernel
theorem dX9_draw_7 : decode cX9_draw 7 = .ok (.putfield 59, 3) := by decide +kernel
theorem dX9_draw_10 : decode cX9_draw 10 = .ok (.iconst 0, 1) := by decide +kernel
theorem dX9_draw_11 : decode cX9_draw 11 = .ok (.istore 4, 2) := by decide +kernel
theorem dX9_draw_13 : decode cX9_draw 13 = .ok (.iload 4, 2) := by decide +kernel
theorem dX9_draw_15 : decode cX9_draw 15 = .ok (.iload_n 3, 1) := by decide +kernel
theorem dX9_draw_16 : decode cX9_draw 16 = .ok (.if_icmp .ge 153, 3) := by decide +kernel
theorem dX9_draw_19 : decode cX9_draw 19 = .ok (.aload_n 0, 1) := by decide +kernel
theorem dX9_draw_20 : decode cX9_draw 20 = .ok (.aload_n 1, 1) := by decide +kernel
theorem dX9_draw_21 : decode cX9_draw 21 = .ok (.getfield 62, 3) := by decide +kernel
theorem dX9_draw_24 : decode cX9_draw 24 = .ok (.invokevirtual 65, 3) := by decide +kernel
theorem dX9_draw_27 : decode cX9_draw 27 = .ok (.istore 5, 2) := by decide +kernel
theorem dX9_draw_29 : decode cX9_draw 29 = .ok (.aload_n 0, 1) := by decide +kernel
theorem dX9_draw_30 : decode cX9_draw 30 = .ok (.bipush 8, 2) := by decide +kernel
theorem dX9_draw_32 : decode cX9_draw 32 = .ok (.invokevirtual 65, 3) := by decide +kernel
theorem dX9_draw_35 : decode cX9_draw 35 = .ok (.istore 6, 2) := by decide +kernel
theorem dX9_draw_37 : decode cX9_draw 37 = .ok (.iload 6, 2) := by decide +kernel
theorem dX9_draw_39 : decode cX9_draw 39 = .ok (.iconst 4, 1) := by decide +kernel
theorem dX9_draw_40 : decode cX9_draw 40 = .ok (.if_icmp .ge 18, 3) := by decide +kernel
theorem dX9_draw_43 : decode cX9_draw 43 = .ok (.aload_n 0, 1) := by decide +kernel
theorem dX9_draw_44 : decode cX9_draw 44 = .ok (.aload_n 1, 1) := by decide +kernel
theorem dX9_draw_45 : decode cX9_draw 45 = .ok (.iconst 0, 1) := by decide +kernel
theorem dX9_draw_46 : decode cX9_draw 46 = .ok (.iload 5, 2) := by decide +kernel
theorem dX9_draw_48 : decode cX9_draw 48 = .ok (.iload 6, 2) := by decide +kernel
theorem dX9_draw_50 : decode cX9_draw 50 = .ok (.iconst (-1), 1) := by decide +kernel
theorem dX9_draw_51 : decode cX9_draw 51 = .ok (.invokevirtual 55, 3) := by decide +kernel
theorem dX9_draw_54 : decode cX9_draw 54 = .ok (.pop, 1) := by decide +kernel
theorem dX9_draw_55 : decode cX9_draw 55 = .ok (.goto 108, 3) := by decide +kernel
theorem dX9_draw_58 : decode cX9_draw 58 = .ok (.iload 6, 2) := by decide +kernel
theorem dX9_draw_60 : decode cX9_draw 60 = .ok (.iconst 4, 1) := by decide +kernel
theorem dX9_draw_61 : decode cX9_draw 61 = .ok (.if_icmp .ne 21, 3) := by decide +kernel
theorem dX9_draw_64 : decode cX9_draw 64 = .ok (.aload_n 0, 1) := by decide +kernel
theorem dX9_draw_65 : decode cX9_draw 65 = .ok (.aload_n 1, 1) := by decide +kernel
theorem dX9_draw_66 : decode cX9_draw 66 = .ok (.iconst 1, 1) := by decide +kernel
theorem dX9_draw_67 : decode cX9_draw 67 = .ok (.iload 5, 2) := by decide +kernel
theorem dX9_draw_69 : decode cX9_draw 69 = .ok (.aload_n 0, 1) := by decide +kernel
theorem dX9_draw_70 : decode cX9_draw 70 = .ok (.iconst 4, 1) := by decide +kernel
theorem dX9_draw_71 : decode cX9_draw 71 = .ok (.invokevirtual 65, 3) := by decide +kernel
theorem dX9_draw_74 : decode cX9_draw 74 = .ok (.iconst (-1), 1) := by decide +kernel
theorem dX9_draw_75 : decode cX9_draw 75 = .ok (.invokevirtual 55, 3) := by decide +kernel
theorem dX9_draw_78 : decode cX9_draw 78 = .ok (.pop, 1) := by decide +kernel
theorem dX9_draw_79 : decode cX9_draw 79 = .ok (.goto 84, 3) := by decide +kernel
theorem dX9_draw_82 : decode cX9_draw 82 = .ok (.iload 6, 2) := by decide +kernel
theorem dX9_draw_84 : decode cX9_draw 84 = .ok (.iconst 5, 1) := by decide +kernel
theorem dX9_draw_85 : decode cX9_draw 85 = .ok (.if_icmp .ne 23, 3) := by decide +kernel
theorem dX9_draw_88 : decode cX9_draw 88 = .ok (.aload_n 0, 1) := by decide +kernel
theorem dX9_draw_89 : decode cX9_draw 89 = .ok (.aload_n 1, 1) := by decide +kernel
theorem dX9_draw_90 : decode cX9_draw 90 = .ok (.iconst 2, 1) := by decide +kernel
theorem dX9_draw_91 : decode cX9_draw 91 = .ok (.iload 5, 2) := by decide +kernel
theorem dX9_draw_93 : decode cX9_draw 93 = .ok (.iconst 1, 1) := by decide +kernel
theorem dX9_draw_94 : decode cX9_draw 94 = .ok (.aload_n 0, 1) := by decide +kernel
theorem dX9_draw_95 : decode cX9_draw 95 = .ok (.iconst 5, 1) := by decide +kernel
theorem dX9_draw_96 : decode cX9_draw 96 = .ok (.invokevirtual 65, 3) := by decide +kernel
theorem dX9_draw_99 : decode cX9_draw 99 = .ok (.iadd, 1) := by decide +kernel
theorem dX9_draw_100 : decode cX9_draw 100 = .ok (.iconst (-1), 1) := by decide +kernel
theorem dX9_draw_101 : decode cX9_draw 101 = .ok (.invokevirtual 55, 3) := by decide +kernel
theorem dX9_draw_104 : decode cX9_draw 104 = .ok (.pop, 1) := by decide +kernel
theorem dX9_draw_105 : decode cX9_draw 105 = .ok (.goto 58, 3) := by decide +kernel
theorem dX9_draw_108 : decode cX9_draw 108 = .ok (.iload 6, 2) := by decide +kernel
theorem dX9_draw_110 : decode cX9_draw 110 = .ok (.bipush 6, 2) := by decide +kernel
theorem dX9_draw_112 : decode cX9_draw 112 = .ok (.if_icmp .ne 23, 3) := by decide +kernel
theorem dX9_draw_115 : decode cX9_draw 115 = .ok (.aload_n 0, 1) := by decide +kernel
theorem dX9_draw_116 : decode cX9_draw 116 = .ok (.aload_n 1, 1) := by decide +kernel
theorem dX9_draw_117 : decode cX9_draw 117 = .ok (.iconst 3, 1) := by decide +kernel
theorem dX9_draw_118 : decode cX9_draw 118 = .ok (.iload 5, 2) := by decide +kernel
theorem dX9_draw_120 : decode cX9_draw 120 = .ok (.iconst 1, 1) := by decide +kernel
theorem dX9_draw_121 : decode cX9_draw 121 = .ok (.aload_n 0, 1) := by decide +kernel
theorem dX9_draw_122 : decode cX9_draw 122 = .ok (.iconst 5, 1) := by decide +kernel
theorem dX9_draw_123 : decode cX9_draw 123 = .ok (.invokevirtual 65, 3) := by decide +kernel
theorem dX9_draw_126 : decode cX9_draw 126 = .ok (.iadd, 1) := by decide +kernel
theorem dX9_draw_127 : decode cX9_draw 127 = .ok (.iconst (-1), 1) := by decide +kernel
theorem dX9_draw_128 : decode cX9_draw 128 = .ok (.invokevirtual 55, 3) := by decide +kernel
theorem dX9_draw_131 : decode cX9_draw 131 = .ok (.pop, 1) := by decide +kernel
theorem dX9_draw_132 : decode cX9_draw 132 = .ok (.goto 31, 3) := by decide +kernel
theorem dX9_draw_135 : decode cX9_draw 135 = .ok (.aload_n 0, 1) := by decide +kernel
theorem dX9_draw_136 : decode cX9_draw 136 = .ok (.aload_n 1, 1) := by decide +kernel
theorem dX9_draw_137 : decode cX9_draw 137 = .ok (.getfield 62, 3) := by decide +kernel
theorem dX9_draw_140 : decode cX9_draw 140 = .ok (.invokevirtual 65, 3) := by decide +kernel
theorem dX9_draw_143 : decode cX9_draw 143 = .ok (.istore 7, 2) := by decide +kernel
theorem dX9_draw_145 : decode cX9_draw 145 = .ok (.aload_n 0, 1) := by decide +kernel
theorem dX9_draw_146 : decode cX9_draw 146 = .ok (.aload_n 1, 1) := by decide +kernel
theorem dX9_draw_147 : decode cX9_draw 147 = .ok (.iconst 4, 1) := by decide +kernel
theorem dX9_draw_148 : decode cX9_draw 148 = .ok (.iload 5, 2) := by decide +kernel
theorem dX9_draw_150 : decode cX9_draw 150 = .ok (.iload 7, 2) := by decide +kernel
theorem dX9_draw_152 : decode cX9_draw 152 = .ok (.iconst 1, 1) := by decide +kernel
theorem dX9_draw_153 : decode cX9_draw 153 = .ok (.aload_n 0, 1) := by decide +kernel
theorem dX9_draw_154 : decode cX9_draw 154 = .ok (.iconst 5, 1) := by decide +kernel
theorem dX9_draw_155 : decode cX9_draw 155 = .ok (.invokevirtual 65, 3) := by decide +kernel
theorem dX9_draw_158 : decode cX9_draw 158 = .ok (.iadd, 1) := by decide +kernel
theorem dX9_draw_159 : decode cX9_draw 159 = .ok (.invokevirtual 55, 3) := by decide +kernel
theorem dX9_draw_162 : decode cX9_draw 162 = .ok (.pop, 1) := by decide +kernel
theorem dX9_draw_163 : decode cX9_draw 163 = .ok (.iinc 4 1, 3) := by decide +kernel
theorem dX9_draw_166 : decode cX9_draw 166 = .ok (.goto (-153), 3) := by decide +kernel
theorem dX9_draw_169 : decode cX9_draw 169 = .ok (.return_, 1) := by decide +kernel
def is_X9_draw : Nat → List Nat := fun d => if d = 13 then [0, 1, 3, 4] else []
set_option maxRecDepth 100000 in
def b_X9_draw_163 (J : Nat → List qV → List qV → qW → Prop) (Q : qR) : qK := x_iinc 4 1 (x_cut [0, 1, 3, 4] (J 13))
set_option maxRecDepth 100000 in
theorem s_X9_draw_163 {p : Program} {l : Launch} {e : Env} {R : Room} {s : State} {m : MethodId} {args : Array Value} {below : List Frame} {meth : Method} {c : Code} {nW : Nat} {dC : Nat → ClassId} {dI : Nat → Nat → Nat} {k : Nat → ClassId} {g : Nat → Nat} {A : Nat → Prop} {J : Nat → List qV → List qV → qW → Prop} {Q : qR} (X : q_X p R s m args meth c cX9_draw 8 nW 3 89 RX9 none dC dI k g A) (hJ : ∀ d : Nat, q_Sd p l e R s m args below meth c 8 nW dC dI k g A (MQ below (q_post (dC, dI) k g nW Q A) args s 0 0 A) d (x_cut (is_X9_draw d) (J d))) : q_Sd p l e R s m args below meth c 8 nW dC dI k g A (MQ below (q_post (dC, dI) k g nW Q A) args s 0 0 A) 163 (b_X9_draw_163 J Q) := by
  unfold b_X9_draw_163
  refine s_iinc X (by decide) dX9_draw_163 ?_
  refine s_goto X (tgt := 13) dX9_draw_166 (by decide) ?_
  exact hJ 13
set_option maxRecDepth 100000 in
def b_X9_draw_137 (J : Nat → List qV → List qV → qW → Prop) (Q : qR) : qK := x_get 0 7 (x_call (some 9) 2 sp_X9_below (x_nw (x_istore 7 (x_aload 0 (x_aload 1 (x_int 4 (x_iload 5 (x_iload 7 (x_int 1 (x_aload 0 (x_int 5 (x_call (some 9) 2 sp_X9_below (x_nw (x_iadd (x_call (some 9) 6 sp_X9_act (x_nw (x_pop (b_X9_draw_163 J Q))))))))))))))))))
set_option maxRecDepth 100000 in
theorem s_X9_draw_137 {p : Program} {l : Launch} {e : Env} {R : Room} {s : State} {m : MethodId} {args : Array Value} {below : List Frame} {meth : Method} {c : Code} {nW : Nat} {dC : Nat → ClassId} {dI : Nat → Nat → Nat} {k : Nat → ClassId} {g : Nat → Nat} {A : Nat → Prop} {J : Nat → List qV → List qV → qW → Prop} {Q : qR} (X : q_X p R s m args meth c cX9_draw 8 nW 3 89 RX9 none dC dI k g A) (hJ : ∀ d : Nat, q_Sd p l e R s m args below meth c 8 nW dC dI k g A (MQ below (q_post (dC, dI) k g nW Q A) args s 0 0 A) d (x_cut (is_X9_draw d) (J d))) : q_Sd p l e R s m args below meth c 8 nW dC dI k g A (MQ below (q_post (dC, dI) k g nW Q A) args s 0 0 A) 137 (b_X9_draw_137 J Q) := by
  unfold b_X9_draw_137
  refine s_get X (T := TX0) (C := RX0) (N := 12) tu_X0 rfl (by decide) tw_196 dX9_draw_137 ?_
  refine s_callV X (m_X9_below l) tw_882 tw_883 tw_1536 tw_129 tw_884 rfl (by decide +kernel) ⟨by decide, by decide⟩ dX9_draw_140 ?_
  refine s_nw ?_
  refine s_istore X (by decide) dX9_draw_143 ?_
  refine s_aload_n X rfl dX9_draw_145 ?_
  refine s_aload_n X rfl dX9_draw_146 ?_
  refine s_iconst X ⟨by decide, by decide⟩ dX9_draw_147 ?_
  refine s_iload X dX9_draw_148 ?_
  refine s_iload X dX9_draw_150 ?_
  refine s_iconst X ⟨by decide, by decide⟩ dX9_draw_152 ?_
  refine s_aload_n X rfl dX9_draw_153 ?_
  refine s_iconst X ⟨by decide, by decide⟩ dX9_draw_154 ?_
  refine s_callV X (m_X9_below l) tw_882 tw_883 tw_1536 tw_129 tw_884 rfl (by decide +kernel) ⟨by decide, by decide⟩ dX9_draw_155 ?_
  refine s_nw ?_
  refine s_iadd X dX9_draw_158 ?_
  refine s_callV X (m_X9_act l) tw_579 tw_580 tw_1532 tw_129 tw_581 rfl (by decide +kernel) ⟨by decide, by decide⟩ dX9_draw_159 ?_
  refine s_nw ?_
  refine s_pop X dX9_draw_162 ?_
  exact s_X9_draw_163 X hJ
set_option maxRecDepth 100000 in
def b_X9_draw_96 (J : Nat → List qV → List qV → qW → Prop) (Q : qR) : qK := x_call (some 9) 2 sp_X9_below (x_nw (x_iadd (x_int (-1) (x_call (some 9) 6 sp_X9_act (x_nw (x_pop (b_X9_draw_163 J Q)))))))
set_option maxRecDepth 100000 in
theorem s_X9_draw_96 {p : Program} {l : Launch} {e : Env} {R : Room} {s : State} {m : MethodId} {args : Array Value} {below : List Frame} {meth : Method} {c : Code} {nW : Nat} {dC : Nat → ClassId} {dI : Nat → Nat → Nat} {k : Nat → ClassId} {g : Nat → Nat} {A : Nat → Prop} {J : Nat → List qV → List qV → qW → Prop} {Q : qR} (X : q_X p R s m args meth c cX9_draw 8 nW 3 89 RX9 none dC dI k g A) (hJ : ∀ d : Nat, q_Sd p l e R s m args below meth c 8 nW dC dI k g A (MQ below (q_post (dC, dI) k g nW Q A) args s 0 0 A) d (x_cut (is_X9_draw d) (J d))) : q_Sd p l e R s m args below meth c 8 nW dC dI k g A (MQ below (q_post (dC, dI) k g nW Q A) args s 0 0 A) 96 (b_X9_draw_96 J Q) := by
  unfold b_X9_draw_96
  refine s_callV X (m_X9_below l) tw_882 tw_883 tw_1536 tw_129 tw_884 rfl (by decide +kernel) ⟨by decide, by decide⟩ dX9_draw_96 ?_
  refine s_nw ?_
  refine s_iadd X dX9_draw_99 ?_
  refine s_iconst X ⟨by decide, by decide⟩ dX9_draw_100 ?_
  refine s_callV X (m_X9_act l) tw_579 tw_580 tw_1532 tw_129 tw_581 rfl (by decide +kernel) ⟨by decide, by decide⟩ dX9_draw_101 ?_
  refine s_nw ?_
  refine s_pop X dX9_draw_104 ?_
  refine s_goto X (tgt := 163) dX9_draw_105 (by decide) ?_
  exact s_X9_draw_163 X hJ
set_option maxRecDepth 100000 in
def b_X9_draw_58 (J : Nat → List qV → List qV → qW → Prop) (Q : qR) : qK := x_iload 6 (x_int 4 (x_icmp_ne (x_iload 6 (x_int 5 (x_icmp_ne (x_iload 6 (x_int 6 (x_icmp_ne (x_aload 0 (x_aload 1 (b_X9_draw_137 J Q))) (x_aload 0 (x_aload 1 (x_int 3 (x_iload 5 (x_int 1 (x_aload 0 (x_int 5 (x_call (some 9) 2 sp_X9_below (x_nw (x_iadd (x_int (-1) (x_call (some 9) 6 sp_X9_act (x_nw (x_pop (b_X9_draw_163 J Q)))))))))))))))))) (x_aload 0 (x_aload 1 (x_int 2 (x_iload 5 (x_int 1 (x_aload 0 (x_int 5 (b_X9_draw_96 J Q))))))))))) (x_aload 0 (x_aload 1 (x_int 1 (x_iload 5 (x_aload 0 (x_int 4 (x_call (some 9) 2 sp_X9_below (x_nw (x_int (-1) (x_call (some 9) 6 sp_X9_act (x_nw (x_pop (b_X9_draw_163 J Q)))))))))))))))
set_option maxRecDepth 100000 in
theorem s_X9_draw_58 {p : Program} {l : Launch} {e : Env} {R : Room} {s : State} {m : MethodId} {args : Array Value} {below : List Frame} {meth : Method} {c : Code} {nW : Nat} {dC : Nat → ClassId} {dI : Nat → Nat → Nat} {k : Nat → ClassId} {g : Nat → Nat} {A : Nat → Prop} {J : Nat → List qV → List qV → qW → Prop} {Q : qR} (X : q_X p R s m args meth c cX9_draw 8 nW 3 89 RX9 none dC dI k g A) (hJ : ∀ d : Nat, q_Sd p l e R s m args below meth c 8 nW dC dI k g A (MQ below (q_post (dC, dI) k g nW Q A) args s 0 0 A) d (x_cut (is_X9_draw d) (J d))) : q_Sd p l e R s m args below meth c 8 nW dC dI k g A (MQ below (q_post (dC, dI) k g nW Q A) args s 0 0 A) 58 (b_X9_draw_58 J Q) := by
  unfold b_X9_draw_58
  refine s_iload X dX9_draw_58 ?_
  refine s_iconst X ⟨by decide, by decide⟩ dX9_draw_60 ?_
  refine s_icmp_ne X (tgt := 82) dX9_draw_61 (by decide) ?_ ?_
  · refine s_iload X dX9_draw_82 ?_
    refine s_iconst X ⟨by decide, by decide⟩ dX9_draw_84 ?_
    refine s_icmp_ne X (tgt := 108) dX9_draw_85 (by decide) ?_ ?_
    · refine s_iload X dX9_draw_108 ?_
      refine s_bipush X ⟨by decide, by decide⟩ (by decide) dX9_draw_110 ?_
      refine s_icmp_ne X (tgt := 135) dX9_draw_112 (by decide) ?_ ?_
      · refine s_aload_n X rfl dX9_draw_135 ?_
        refine s_aload_n X rfl dX9_draw_136 ?_
        exact s_X9_draw_137 X hJ
      · refine s_aload_n X rfl dX9_draw_115 ?_
        refine s_aload_n X rfl dX9_draw_116 ?_
        refine s_iconst X ⟨by decide, by decide⟩ dX9_draw_117 ?_
        refine s_iload X dX9_draw_118 ?_
        refine s_iconst X ⟨by decide, by decide⟩ dX9_draw_120 ?_
        refine s_aload_n X rfl dX9_draw_121 ?_
        refine s_iconst X ⟨by decide, by decide⟩ dX9_draw_122 ?_
        refine s_callV X (m_X9_below l) tw_882 tw_883 tw_1536 tw_129 tw_884 rfl (by decide +kernel) ⟨by decide, by decide⟩ dX9_draw_123 ?_
        refine s_nw ?_
        refine s_iadd X dX9_draw_126 ?_
        refine s_iconst X ⟨by decide, by decide⟩ dX9_draw_127 ?_
        refine s_callV X (m_X9_act l) tw_579 tw_580 tw_1532 tw_129 tw_581 rfl (by decide +kernel) ⟨by decide, by decide⟩ dX9_draw_128 ?_
        refine s_nw ?_
        refine s_pop X dX9_draw_131 ?_
        refine s_goto X (tgt := 163) dX9_draw_132 (by decide) ?_
        exact s_X9_draw_163 X hJ
    · refine s_aload_n X rfl dX9_draw_88 ?_
      refine s_aload_n X rfl dX9_draw_89 ?_
      refine s_iconst X ⟨by decide, by decide⟩ dX9_draw_90 ?_
      refine s_iload X dX9_draw_91 ?_
      refine s_iconst X ⟨by decide, by decide⟩ dX9_draw_93 ?_
      refine s_aload_n X rfl dX9_draw_94 ?_
      refine s_iconst X ⟨by decide, by decide⟩ dX9_draw_95 ?_
      exact s_X9_draw_96 X hJ
  · refine s_aload_n X rfl dX9_draw_64 ?_
    refine s_aload_n X rfl dX9_draw_65 ?_
    refine s_iconst X ⟨by decide, by decide⟩ dX9_draw_66 ?_
    refine s_iload X dX9_draw_67 ?_
    refine s_aload_n X rfl dX9_draw_69 ?_
    refine s_iconst X ⟨by decide, by decide⟩ dX9_draw_70 ?_
    refine s_callV X (m_X9_below l) tw_882 tw_883 tw_1536 tw_129 tw_884 rfl (by decide +kernel) ⟨by decide, by decide⟩ dX9_draw_71 ?_
    refine s_nw ?_
    refine s_iconst X ⟨by decide, by decide⟩ dX9_draw_74 ?_
    refine s_callV X (m_X9_act l) tw_579 tw_580 tw_1532 tw_129 tw_581 rfl (by decide +kernel) ⟨by decide, by decide⟩ dX9_draw_75 ?_
    refine s_nw ?_
    refine s_pop X dX9_draw_78 ?_
    refine s_goto X (tgt := 163) dX9_draw_79 (by decide) ?_
    exact s_X9_draw_163 X hJ
set_option maxRecDepth 100000 in
def b_X9_draw_13 (J : Nat → List qV → List qV → qW → Prop) (Q : qR) : qK := x_iload 4 (x_iload 3 (x_icmp_ge (x_vret Q) (x_aload 0 (x_aload 1 (x_get 0 7 (x_call (some 9) 2 sp_X9_below (x_nw (x_istore 5 (x_aload 0 (x_int 8 (x_call (some 9) 2 sp_X9_below (x_nw (x_istore 6 (x_iload 6 (x_int 4 (x_icmp_ge (b_X9_draw_58 J Q) (x_aload 0 (x_aload 1 (x_int 0 (x_iload 5 (x_iload 6 (x_int (-1) (x_call (some 9) 6 sp_X9_act (x_nw (x_pop (b_X9_draw_163 J Q))))))))))))))))))))))))))
set_option maxRecDepth 100000 in
theorem s_X9_draw_13 {p : Program} {l : Launch} {e : Env} {R : Room} {s : State} {m : MethodId} {args : Array Value} {below : List Frame} {meth : Method} {c : Code} {nW : Nat} {dC : Nat → ClassId} {dI : Nat → Nat → Nat} {k : Nat → ClassId} {g : Nat → Nat} {A : Nat → Prop} {J : Nat → List qV → List qV → qW → Prop} {Q : qR} (X : q_X p R s m args meth c cX9_draw 8 nW 3 89 RX9 none dC dI k g A) (hJ : ∀ d : Nat, q_Sd p l e R s m args below meth c 8 nW dC dI k g A (MQ below (q_post (dC, dI) k g nW Q A) args s 0 0 A) d (x_cut (is_X9_draw d) (J d))) : q_Sd p l e R s m args below meth c 8 nW dC dI k g A (MQ below (q_post (dC, dI) k g nW Q A) args s 0 0 A) 13 (b_X9_draw_13 J Q) := by
  unfold b_X9_draw_13
  refine s_iload X dX9_draw_13 ?_
  refine s_iload_n X rfl dX9_draw_15 ?_
  refine s_icmp_ge X (tgt := 169) dX9_draw_16 (by decide) ?_ ?_
  · exact s_vret X dX9_draw_169
  · refine s_aload_n X rfl dX9_draw_19 ?_
    refine s_aload_n X rfl dX9_draw_20 ?_
    refine s_get X (T := TX0) (C := RX0) (N := 12) tu_X0 rfl (by decide) tw_196 dX9_draw_21 ?_
    refine s_callV X (m_X9_below l) tw_882 tw_883 tw_1536 tw_129 tw_884 rfl (by decide +kernel) ⟨by decide, by decide⟩ dX9_draw_24 ?_
    refine s_nw ?_
    refine s_istore X (by decide) dX9_draw_27 ?_
    refine s_aload_n X rfl dX9_draw_29 ?_
    refine s_bipush X ⟨by decide, by decide⟩ (by decide) dX9_draw_30 ?_
    refine s_callV X (m_X9_below l) tw_882 tw_883 tw_1536 tw_129 tw_884 rfl (by decide +kernel) ⟨by decide, by decide⟩ dX9_draw_32 ?_
    refine s_nw ?_
    refine s_istore X (by decide) dX9_draw_35 ?_
    refine s_iload X dX9_draw_37 ?_
    refine s_iconst X ⟨by decide, by decide⟩ dX9_draw_39 ?_
    refine s_icmp_ge X (tgt := 58) dX9_draw_40 (by decide) ?_ ?_
    · exact s_X9_draw_58 X hJ
    · refine s_aload_n X rfl dX9_draw_43 ?_
      refine s_aload_n X rfl dX9_draw_44 ?_
      refine s_iconst X ⟨by decide, by decide⟩ dX9_draw_45 ?_
      refine s_iload X dX9_draw_46 ?_
      refine s_iload X dX9_draw_48 ?_
      refine s_iconst X ⟨by decide, by decide⟩ dX9_draw_50 ?_
      refine s_callV X (m_X9_act l) tw_579 tw_580 tw_1532 tw_129 tw_581 rfl (by decide +kernel) ⟨by decide, by decide⟩ dX9_draw_51 ?_
      refine s_nw ?_
      refine s_pop X dX9_draw_54 ?_
      refine s_goto X (tgt := 163) dX9_draw_55 (by decide) ?_
      exact s_X9_draw_163 X hJ
set_option maxRecDepth 100000 in
def b_X9_draw_0 (J : Nat → List qV → List qV → qW → Prop) (Q : qR) : qK := x_aload 0 (x_aload 1 (x_call (some 9) 2 sp_X9_begin (x_nw (x_aload 0 (x_iload 2 (x_put 9 4 q_oki (x_nw (x_int 0 (x_istore 4 (x_cut [0, 1, 3, 4] (J 13)))))))))))
set_option maxRecDepth 100000 in
theorem s_X9_draw_0 {p : Program} {l : Launch} {e : Env} {R : Room} {s : State} {m : MethodId} {args : Array Value} {below : List Frame} {meth : Method} {c : Code} {nW : Nat} {dC : Nat → ClassId} {dI : Nat → Nat → Nat} {k : Nat → ClassId} {g : Nat → Nat} {A : Nat → Prop} {J : Nat → List qV → List qV → qW → Prop} {Q : qR} (X : q_X p R s m args meth c cX9_draw 8 nW 3 89 RX9 none dC dI k g A) (hJ : ∀ d : Nat, q_Sd p l e R s m args below meth c 8 nW dC dI k g A (MQ below (q_post (dC, dI) k g nW Q A) args s 0 0 A) d (x_cut (is_X9_draw d) (J d))) : q_Sd p l e R s m args below meth c 8 nW dC dI k g A (MQ below (q_post (dC, dI) k g nW Q A) args s 0 0 A) 0 (b_X9_draw_0 J Q) := by
  unfold b_X9_draw_0
  refine s_aload_n X rfl dX9_draw_0 ?_
  refine s_aload_n X rfl dX9_draw_1 ?_
  refine s_callV X (m_X9_begin l) tw_575 tw_576 tw_1535 tw_129 tw_577 rfl (by decide +kernel) ⟨by decide, by decide⟩ dX9_draw_2 ?_
  refine s_nw ?_
  refine s_aload_n X rfl dX9_draw_5 ?_
  refine s_iload_n X rfl dX9_draw_6 ?_
  refine s_put X (T := TX9) (C := RX9) (N := 5) tu_X9 tyX9_ok nmX9 rfl (by decide) tw_295 rfl (by decide +kernel) q_oki_t dX9_draw_7 ?_
  refine s_nw ?_
  refine s_iconst X ⟨by decide, by decide⟩ dX9_draw_10 ?_
  refine s_istore X (by decide) dX9_draw_11 ?_
  exact hJ 13

def sp_X9_draw : qS := fun av w Q => ∃ (h1 : Nat → Int) (h2 : Nat → Int) (h3 : Nat → Int) (p0 : Int) (s0 : Int) (f1 : Nat → Int) (f2 : Nat → Int) (f3 : Nat → Int) (f4 : Nat → Int) (f5 : Nat → Int) (f6 : Nat → Int) (f7 : Nat → Int) (u0 : Int) (u1 : Int) (u2 : Int) (u3 : Int) (u4 : Int) (a : Int) (b : Int), av = [q2 0, q2 4, q1 a, q1 b] ∧ w = (wKo 0 h1 h2 h3 p0 s0 ++ wBo 4 f1 f2 f3 f4 f5 f6 f7 u0 u1 u2 u3 u4) ∧ (0 ≤ u0 ∧ u0 ≤ 8) ∧ (∀ (x1 : Nat → Int) (x2 : Nat → Int) (x3 : Nat → Int) (x4 : Int) (x5 : Int), Q none ((wKo 0 x1 x2 x3 x4 x5 ++ wBo 4 f1 f2 f3 f4 f5 f6 f7 u0 u1 u2 u3 u4)))
def I_X9_draw (h1 : Nat → Int) (h2 : Nat → Int) (h3 : Nat → Int) (p0 : Int) (s0 : Int) (f1 : Nat → Int) (f2 : Nat → Int) (f3 : Nat → Int) (f4 : Nat → Int) (f5 : Nat → Int) (f6 : Nat → Int) (f7 : Nat → Int) (u0 : Int) (u1 : Int) (u2 : Int) (u3 : Int) (u4 : Int) (a : Int) (b : Int) : Nat → Nat → List qV → List qV → qW → Prop := fun dz mz vz sz wz => if dz = 13 then (∃ (y1 : Nat → Int) (y2 : Nat → Int) (y3 : Nat → Int) (y4 : Int) (y5 : Int) (v4 : Int), vz = [q2 0, q2 4, q1 b, q1 v4] ∧ sz = [] ∧ wz = (wKo 0 y1 y2 y3 y4 y5 ++ wBo 4 f1 f2 f3 f4 f5 f6 f7 u0 u1 u2 u3 u4) ∧ mz = (b - v4).toNat ∧ (0 ≤ v4 ∧ (v4 ≤ b ∨ v4 = 0))) else False
set_option maxHeartbeats 4000000 in
set_option maxRecDepth 100000 in
theorem m_X9_draw (l : Launch) : q_M l yX9_draw cX9_draw 8 none 3 89 sp_X9_draw := by
  refine q_meth (by decide) (fun av w Q h => by obtain ⟨h1, h2, h3, p0, s0, f1, f2, f3, f4, f5, f6, f7, u0, u1, u2, u3, u4, a, b, rfl, rfl, hu0, hQ⟩ := h; exact Nat.le_of_ble_eq_true rfl) ?_
  intro p e R s m args below meth c dC dI k g A av w Q hsp oka okw X
  obtain ⟨h1, h2, h3, p0, s0, f1, f2, f3, f4, f5, f6, f7, u0, u1, u2, u3, u4, a, b, rfl, rfl, hu0, hQ⟩ := hsp
  have o_a : -2147483648 ≤ a ∧ a ≤ 2147483647 := oka _ (List.mem_of_getElem? (i := 2) rfl)
  have o_b : -2147483648 ≤ b ∧ b ≤ 2147483647 := oka _ (List.mem_of_getElem? (i := 3) rfl)
  refine s_mono (s_X9_draw_0 X (J := fun dz vz sz wz => ∃ mz, I_X9_draw h1 h2 h3 p0 s0 f1 f2 f3 f4 f5 f6 f7 u0 u1 u2 u3 u4 a b dz mz vz sz wz) (q_loopn (I_X9_draw h1 h2 h3 p0 s0 f1 f2 f3 f4 f5 f6 f7 u0 u1 u2 u3 u4 a b) (fun dz J => if dz = 13 then b_X9_draw_13 J Q else q_F) ?hs ?hv)) ?_
  case hs =>
    intro d J hJ
    by_cases h13 : d = 13
    · subst h13; exact s_X9_draw_13 X hJ
    simp only [h13, if_false]
    exact s_F
  case hv =>
    intro dz mz vz sz wz hI okv oks okw hlen
    by_cases h13 : dz = 13
    · subst h13
      obtain ⟨y1, y2, y3, y4, y5, v4, rfl, rfl, rfl, hn, hp⟩ := hI
      apply And.intro
      · intro h16
        exact hQ _ _ _ _ _
      · intro h16
        refine Exists.intro [0, 1, 2, 3] (Exists.intro [q2 0, q1 _] (Exists.intro ((wKo 0 _ _ _ _ _)) (And.intro rfl (And.intro rfl (And.intro rfl (And.intro ⟨⟨_, rfl⟩, rfl⟩ ?_))))))
        refine Exists.intro _ (Exists.intro _ (Exists.intro _ (Exists.intro _ (Exists.intro _ (Exists.intro _ (And.intro rfl (And.intro rfl (?_))))))))
        intro z24 x1_24 x2_24 x3_24 x4_24 x5_24 h24
        refine Exists.intro [0, 1, 2, 3] (Exists.intro [q2 0, q1 _] (Exists.intro ((wKo 0 _ _ _ _ _)) (And.intro rfl (And.intro rfl (And.intro rfl (And.intro ⟨⟨_, rfl⟩, rfl⟩ ?_))))))
        refine Exists.intro _ (Exists.intro _ (Exists.intro _ (Exists.intro _ (Exists.intro _ (Exists.intro _ (And.intro rfl (And.intro rfl (?_))))))))
        intro z32 x1_32 x2_32 x3_32 x4_32 x5_32 h32
        apply And.intro
        · intro h40
          apply And.intro
          · intro h61
            apply And.intro
            · intro h85
              apply And.intro
              · intro h112
                refine Exists.intro [0, 1, 2, 3] (Exists.intro [q2 0, q1 _] (Exists.intro ((wKo 0 _ _ _ _ _)) (And.intro rfl (And.intro rfl (And.intro rfl (And.intro ⟨⟨_, rfl⟩, rfl⟩ ?_))))))
                refine Exists.intro _ (Exists.intro _ (Exists.intro _ (Exists.intro _ (Exists.intro _ (Exists.intro _ (And.intro rfl (And.intro rfl (?_))))))))
                intro z140 x1_140 x2_140 x3_140 x4_140 x5_140 h140
                refine Exists.intro [0, 1, 2, 3] (Exists.intro [q2 0, q1 _] (Exists.intro ((wKo 0 _ _ _ _ _)) (And.intro rfl (And.intro rfl (And.intro rfl (And.intro ⟨⟨_, rfl⟩, rfl⟩ ?_))))))
                refine Exists.intro _ (Exists.intro _ (Exists.intro _ (Exists.intro _ (Exists.intro _ (Exists.intro _ (And.intro rfl (And.intro rfl (?_))))))))
                intro z155 x1_155 x2_155 x3_155 x4_155 x5_155 h155
                intro z158 h158
                first | replace h158 := e_add h158 (by omega) | replace h158 := e_rng h158
                refine Exists.intro [0, 1, 2, 3, 4, 5, 6, 7, 8, 9, 10, 11] (Exists.intro [q2 0, q2 4, q1 _, q1 _, q1 _, q1 _] (Exists.intro ((wKo 0 _ _ _ _ _ ++ wBo 4 _ _ _ _ _ _ _ _ _ _ _ _)) (And.intro rfl (And.intro rfl (And.intro rfl (And.intro ⟨⟨_, rfl⟩, rfl⟩ ?_))))))
                refine Exists.intro _ (Exists.intro _ (Exists.intro _ (Exists.intro _ (Exists.intro _ (Exists.intro _ (Exists.intro _ (Exists.intro _ (Exists.intro _ (Exists.intro _ (Exists.intro _ (Exists.intro _ (Exists.intro _ (Exists.intro _ (Exists.intro _ (Exists.intro _ (Exists.intro _ (Exists.intro _ (Exists.intro _ (Exists.intro _ (Exists.intro _ (And.intro rfl (And.intro rfl (And.intro (by first | omega | assumption | exact q_rg_up (by assumption) (by omega) | exact q_rg_up (q_rg_up (by assumption) (by omega)) (by omega) | exact q_rg_cpy (by assumption) (by assumption)) (?_))))))))))))))))))))))))
                intro z159 x1_159 x2_159 x3_159 x4_159 x5_159 h159
                intro z163 h163
                first | replace h163 := e_add h163 (by omega) | replace h163 := e_rng h163
                exact ⟨_, ⟨_, _, _, _, _, _, rfl, rfl, rfl, rfl, (by first | omega | assumption | exact q_rg_up (by assumption) (by omega) | exact q_rg_up (q_rg_up (by assumption) (by omega)) (by omega) | exact q_rg_cpy (by assumption) (by assumption))⟩, by omega⟩
              · intro h112
                refine Exists.intro [0, 1, 2, 3] (Exists.intro [q2 0, q1 _] (Exists.intro ((wKo 0 _ _ _ _ _)) (And.intro rfl (And.intro rfl (And.intro rfl (And.intro ⟨⟨_, rfl⟩, rfl⟩ ?_))))))
                refine Exists.intro _ (Exists.intro _ (Exists.intro _ (Exists.intro _ (Exists.intro _ (Exists.intro _ (And.intro rfl (And.intro rfl (?_))))))))
                intro z123 x1_123 x2_123 x3_123 x4_123 x5_123 h123
                intro z126 h126
                first | replace h126 := e_add h126 (by omega) | replace h126 := e_rng h126
                refine Exists.intro [0, 1, 2, 3, 4, 5, 6, 7, 8, 9, 10, 11] (Exists.intro [q2 0, q2 4, q1 _, q1 _, q1 _, q1 _] (Exists.intro ((wKo 0 _ _ _ _ _ ++ wBo 4 _ _ _ _ _ _ _ _ _ _ _ _)) (And.intro rfl (And.intro rfl (And.intro rfl (And.intro ⟨⟨_, rfl⟩, rfl⟩ ?_))))))
                refine Exists.intro _ (Exists.intro _ (Exists.intro _ (Exists.intro _ (Exists.intro _ (Exists.intro _ (Exists.intro _ (Exists.intro _ (Exists.intro _ (Exists.intro _ (Exists.intro _ (Exists.intro _ (Exists.intro _ (Exists.intro _ (Exists.intro _ (Exists.intro _ (Exists.intro _ (Exists.intro _ (Exists.intro _ (Exists.intro _ (Exists.intro _ (And.intro rfl (And.intro rfl (And.intro (by first | omega | assumption | exact q_rg_up (by assumption) (by omega) | exact q_rg_up (q_rg_up (by assumption) (by omega)) (by omega) | exact q_rg_cpy (by assumption) (by assumption)) (?_))))))))))))))))))))))))
                intro z128 x1_128 x2_128 x3_128 x4_128 x5_128 h128
                intro z163 h163
                first | replace h163 := e_add h163 (by omega) | replace h163 := e_rng h163
                exact ⟨_, ⟨_, _, _, _, _, _, rfl, rfl, rfl, rfl, (by first | omega | assumption | exact q_rg_up (by assumption) (by omega) | exact q_rg_up (q_rg_up (by assumption) (by omega)) (by omega) | exact q_rg_cpy (by assumption) (by assumption))⟩, by omega⟩
            · intro h85
              refine Exists.intro [0, 1, 2, 3] (Exists.intro [q2 0, q1 _] (Exists.intro ((wKo 0 _ _ _ _ _)) (And.intro rfl (And.intro rfl (And.intro rfl (And.intro ⟨⟨_, rfl⟩, rfl⟩ ?_))))))
              refine Exists.intro _ (Exists.intro _ (Exists.intro _ (Exists.intro _ (Exists.intro _ (Exists.intro _ (And.intro rfl (And.intro rfl (?_))))))))
              intro z96 x1_96 x2_96 x3_96 x4_96 x5_96 h96
              intro z99 h99
              first | replace h99 := e_add h99 (by omega) | replace h99 := e_rng h99
              refine Exists.intro [0, 1, 2, 3, 4, 5, 6, 7, 8, 9, 10, 11] (Exists.intro [q2 0, q2 4, q1 _, q1 _, q1 _, q1 _] (Exists.intro ((wKo 0 _ _ _ _ _ ++ wBo 4 _ _ _ _ _ _ _ _ _ _ _ _)) (And.intro rfl (And.intro rfl (And.intro rfl (And.intro ⟨⟨_, rfl⟩, rfl⟩ ?_))))))
              refine Exists.intro _ (Exists.intro _ (Exists.intro _ (Exists.intro _ (Exists.intro _ (Exists.intro _ (Exists.intro _ (Exists.intro _ (Exists.intro _ (Exists.intro _ (Exists.intro _ (Exists.intro _ (Exists.intro _ (Exists.intro _ (Exists.intro _ (Exists.intro _ (Exists.intro _ (Exists.intro _ (Exists.intro _ (Exists.intro _ (Exists.intro _ (And.intro rfl (And.intro rfl (And.intro (by first | omega | assumption | exact q_rg_up (by assumption) (by omega) | exact q_rg_up (q_rg_up (by assumption) (by omega)) (by omega) | exact q_rg_cpy (by assumption) (by assumption)) (?_))))))))))))))))))))))))
              intro z101 x1_101 x2_101 x3_101 x4_101 x5_101 h101
              intro z163 h163
              first | replace h163 := e_add h163 (by omega) | replace h163 := e_rng h163
              exact ⟨_, ⟨_, _, _, _, _, _, rfl, rfl, rfl, rfl, (by first | omega | assumption | exact q_rg_up (by assumption) (by omega) | exact q_rg_up (q_rg_up (by assumption) (by omega)) (by omega) | exact q_rg_cpy (by assumption) (by assumption))⟩, by omega⟩
          · intro h61
            refine Exists.intro [0, 1, 2, 3] (Exists.intro [q2 0, q1 _] (Exists.intro ((wKo 0 _ _ _ _ _)) (And.intro rfl (And.intro rfl (And.intro rfl (And.intro ⟨⟨_, rfl⟩, rfl⟩ ?_))))))
            refine Exists.intro _ (Exists.intro _ (Exists.intro _ (Exists.intro _ (Exists.intro _ (Exists.intro _ (And.intro rfl (And.intro rfl (?_))))))))
            intro z71 x1_71 x2_71 x3_71 x4_71 x5_71 h71
            refine Exists.intro [0, 1, 2, 3, 4, 5, 6, 7, 8, 9, 10, 11] (Exists.intro [q2 0, q2 4, q1 _, q1 _, q1 _, q1 _] (Exists.intro ((wKo 0 _ _ _ _ _ ++ wBo 4 _ _ _ _ _ _ _ _ _ _ _ _)) (And.intro rfl (And.intro rfl (And.intro rfl (And.intro ⟨⟨_, rfl⟩, rfl⟩ ?_))))))
            refine Exists.intro _ (Exists.intro _ (Exists.intro _ (Exists.intro _ (Exists.intro _ (Exists.intro _ (Exists.intro _ (Exists.intro _ (Exists.intro _ (Exists.intro _ (Exists.intro _ (Exists.intro _ (Exists.intro _ (Exists.intro _ (Exists.intro _ (Exists.intro _ (Exists.intro _ (Exists.intro _ (Exists.intro _ (Exists.intro _ (Exists.intro _ (And.intro rfl (And.intro rfl (And.intro (by first | omega | assumption | exact q_rg_up (by assumption) (by omega) | exact q_rg_up (q_rg_up (by assumption) (by omega)) (by omega) | exact q_rg_cpy (by assumption) (by assumption)) (?_))))))))))))))))))))))))
            intro z75 x1_75 x2_75 x3_75 x4_75 x5_75 h75
            intro z163 h163
            first | replace h163 := e_add h163 (by omega) | replace h163 := e_rng h163
            exact ⟨_, ⟨_, _, _, _, _, _, rfl, rfl, rfl, rfl, (by first | omega | assumption | exact q_rg_up (by assumption) (by omega) | exact q_rg_up (q_rg_up (by assumption) (by omega)) (by omega) | exact q_rg_cpy (by assumption) (by assumption))⟩, by omega⟩
        · intro h40
          refine Exists.intro [0, 1, 2, 3, 4, 5, 6, 7, 8, 9, 10, 11] (Exists.intro [q2 0, q2 4, q1 _, q1 _, q1 _, q1 _] (Exists.intro ((wKo 0 _ _ _ _ _ ++ wBo 4 _ _ _ _ _ _ _ _ _ _ _ _)) (And.intro rfl (And.intro rfl (And.intro rfl (And.intro ⟨⟨_, rfl⟩, rfl⟩ ?_))))))
          refine Exists.intro _ (Exists.intro _ (Exists.intro _ (Exists.intro _ (Exists.intro _ (Exists.intro _ (Exists.intro _ (Exists.intro _ (Exists.intro _ (Exists.intro _ (Exists.intro _ (Exists.intro _ (Exists.intro _ (Exists.intro _ (Exists.intro _ (Exists.intro _ (Exists.intro _ (Exists.intro _ (Exists.intro _ (Exists.intro _ (Exists.intro _ (And.intro rfl (And.intro rfl (And.intro (by first | omega | assumption | exact q_rg_up (by assumption) (by omega) | exact q_rg_up (q_rg_up (by assumption) (by omega)) (by omega) | exact q_rg_cpy (by assumption) (by assumption)) (?_))))))))))))))))))))))))
          intro z51 x1_51 x2_51 x3_51 x4_51 x5_51 h51
          intro z163 h163
          first | replace h163 := e_add h163 (by omega) | replace h163 := e_rng h163
          exact ⟨_, ⟨_, _, _, _, _, _, rfl, rfl, rfl, rfl, (by first | omega | assumption | exact q_rg_up (by assumption) (by omega) | exact q_rg_up (q_rg_up (by assumption) (by omega)) (by omega) | exact q_rg_cpy (by assumption) (by assumption))⟩, by omega⟩
    simp only [I_X9_draw, h13, if_false] at hI
  rintro lv st w' ⟨rfl, rfl, rfl⟩
  refine Exists.intro [0, 1, 2, 3, 4, 5, 6, 7, 8, 9, 10, 11] (Exists.intro [q2 0, q2 4] (Exists.intro ((wKo 0 _ _ _ _ _ ++ wBo 4 _ _ _ _ _ _ _ _ _ _ _ _)) (And.intro rfl (And.intro rfl (And.intro rfl (And.intro ⟨⟨_, rfl⟩, rfl⟩ ?_))))))
  refine Exists.intro _ (Exists.intro _ (Exists.intro _ (Exists.intro _ (Exists.intro _ (Exists.intro _ (Exists.intro _ (Exists.intro _ (Exists.intro _ (Exists.intro _ (Exists.intro _ (Exists.intro _ (Exists.intro _ (Exists.intro _ (Exists.intro _ (Exists.intro _ (Exists.intro _ (And.intro rfl (And.intro rfl (?_)))))))))))))))))))
  intro x1_2 x2_2 x3_2 x4_2 x5_2
  apply And.intro
  · exact trivial
  exact ⟨_, _, _, _, _, _, _, rfl, rfl, rfl, rfl, (by first | omega | assumption | exact q_rg_up (by assumption) (by omega) | exact q_rg_up (q_rg_up (by assumption) (by omega)) (by omega) | exact q_rg_cpy (by assumption) (by assumption))⟩
