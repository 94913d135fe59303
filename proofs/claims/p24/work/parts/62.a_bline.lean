theorem dX12_boroughLine_0 : decode cX12_boroughLine 0 = .ok (.lload_n 1, 1) := by decide +kernel
theorem dX12_boroughLine_1 : decode cX12_boroughLine 1 = .ok (.ldc2_w 187, 3) := by decide +kernel
theorem dX12_boroughLine_4 : decode cX12_boroughLine 4 = .ok (.lcmp, 1) := by decide +kernel
theorem dX12_boroughLine_5 : decode cX12_boroughLine 5 = .ok (.ifCond .eq 19, 3) := by decide +kernel
theorem dX12_boroughLine_8 : decode cX12_boroughLine 8 = .ok (.lload_n 1, 1) := by decide +kernel
theorem dX12_boroughLine_9 : decode cX12_boroughLine 9 = .ok (.ldc2_w 189, 3) := by decide +kernel
theorem dX12_boroughLine_12 : decode cX12_boroughLine 12 = .ok (.lcmp, 1) := by decide +kernel
theorem dX12_boroughLine_13 : decode cX12_boroughLine 13 = .ok (.ifCond .eq 11, 3) := by decide +kernel
theorem dX12_boroughLine_16 : decode cX12_boroughLine 16 = .ok (.lload_n 1, 1) := by decide +kernel
theorem dX12_boroughLine_17 : decode cX12_boroughLine 17 = .ok (.ldc2_w 191, 3) := by decide +kernel
theorem dX12_boroughLine_20 : decode cX12_boroughLine 20 = .ok (.lcmp, 1) := by decide +kernel
theorem dX12_boroughLine_21 : decode cX12_boroughLine 21 = .ok (.ifCond .ne 109, 3) := by decide +kernel
theorem dX12_boroughLine_24 : decode cX12_boroughLine 24 = .ok (.lload_n 1, 1) := by decide +kernel
theorem dX12_boroughLine_25 : decode cX12_boroughLine 25 = .ok (.ldc2_w 187, 3) := by decide +kernel
theorem dX12_boroughLine_28 : decode cX12_boroughLine 28 = .ok (.lcmp, 1) := by decide +kernel
theorem dX12_boroughLine_29 : decode cX12_boroughLine 29 = .ok (.ifCond .ne 7, 3) := by decide +kernel
theorem dX12_boroughLine_32 : decode cX12_boroughLine 32 = .ok (.iconst 0, 1) := by decide +kernel
theorem dX12_boroughLine_33 : decode cX12_boroughLine 33 = .ok (.goto 16, 3) := by decide +kernel
theorem dX12_boroughLine_36 : decode cX12_boroughLine 36 = .ok (.lload_n 1, 1) := by decide +kernel
theorem dX12_boroughLine_37 : decode cX12_boroughLine 37 = .ok (.ldc2_w 189, 3) := by decide +kernel
theorem dX12_boroughLine_40 : decode cX12_boroughLine 40 = .ok (.lcmp, 1) := by decide +kernel
theorem dX12_boroughLine_41 : decode cX12_boroughLine 41 = .ok (.ifCond .ne 7, 3) := by decide +kernel
theorem dX12_boroughLine_44 : decode cX12_boroughLine 44 = .ok (.iconst 3, 1) := by decide +kernel
theorem dX12_boroughLine_45 : decode cX12_boroughLine 45 = .ok (.goto 4, 3) := by decide +kernel
theorem dX12_boroughLine_48 : decode cX12_boroughLine 48 = .ok (.iconst 4, 1) := by decide +kernel
theorem dX12_boroughLine_49 : decode cX12_boroughLine 49 = .ok (.istore 4, 2) := by decide +kernel
theorem dX12_boroughLine_51 : decode cX12_boroughLine 51 = .ok (.lload_n 1, 1) := by decide +kernel
theorem dX12_boroughLine_52 : decode cX12_boroughLine 52 = .ok (.ldc2_w 187, 3) := by decide +kernel
theorem dX12_boroughLine_55 : decode cX12_boroughLine 55 = .ok (.lcmp, 1) := by decide +kernel
theorem dX12_boroughLine_56 : decode cX12_boroughLine 56 = .ok (.ifCond .ne 8, 3) := by decide +kernel
theorem dX12_boroughLine_59 : decode cX12_boroughLine 59 = .ok (.bipush 8, 2) := by decide +kernel
theorem dX12_boroughLine_61 : decode cX12_boroughLine 61 = .ok (.goto 18, 3) := by decide +kernel
theorem dX12_boroughLine_64 : decode cX12_boroughLine 64 = .ok (.lload_n 1, 1) := by decide +kernel
theorem dX12_boroughLine_65 : decode cX12_boroughLine 65 = .ok (.ldc2_w 189, 3) := by decide +kernel
theorem dX12_boroughLine_68 : decode cX12_boroughLine 68 = .ok (.lcmp, 1) := by decide +kernel
theorem dX12_boroughLine_69 : decode cX12_boroughLine 69 = .ok (.ifCond .ne 8, 3) := by decide +kernel
theorem dX12_boroughLine_72 : decode cX12_boroughLine 72 = .ok (.bipush 6, 2) := by decide +kernel
theorem dX12_boroughLine_74 : decode cX12_boroughLine 74 = .ok (.goto 5, 3) := by decide +kernel
theorem dX12_boroughLine_77 : decode cX12_boroughLine 77 = .ok (.bipush 6, 2) := by decide +kernel
theorem dX12_boroughLine_79 : decode cX12_boroughLine 79 = .ok (.istore 5, 2) := by decide +kernel
theorem dX12_boroughLine_81 : decode cX12_boroughLine 81 = .ok (.aload_n 0, 1) := by decide +kernel
theorem dX12_boroughLine_82 : decode cX12_boroughLine 82 = .ok (.iload 4, 2) := by decide +kernel
theorem dX12_boroughLine_84 : decode cX12_boroughLine 84 = .ok (.iload 5, 2) := by decide +kernel
theorem dX12_boroughLine_86 : decode cX12_boroughLine 86 = .ok (.iload_n 3, 1) := by decide +kernel
theorem dX12_boroughLine_87 : decode cX12_boroughLine 87 = .ok (.invokevirtual 193, 3) := by decide +kernel
theorem dX12_boroughLine_90 : decode cX12_boroughLine 90 = .ok (.aload_n 0, 1) := by decide +kernel
theorem dX12_boroughLine_91 : decode cX12_boroughLine 91 = .ok (.invokevirtual 152, 3) := by decide +kernel
theorem dX12_boroughLine_94 : decode cX12_boroughLine 94 = .ok (.aload_n 0, 1) := by decide +kernel
theorem dX12_boroughLine_95 : decode cX12_boroughLine 95 = .ok (.iload 4, 2) := by decide +kernel
theorem dX12_boroughLine_97 : decode cX12_boroughLine 97 = .ok (.lload_n 1, 1) := by decide +kernel
theorem dX12_boroughLine_98 : decode cX12_boroughLine 98 = .ok (.ldc2_w 187, 3) := by decide +kernel
theorem dX12_boroughLine_101 : decode cX12_boroughLine 101 = .ok (.lcmp, 1) := by decide +kernel
theorem dX12_boroughLine_102 : decode cX12_boroughLine 102 = .ok (.ifCond .ne 7, 3) := by decide +kernel
theorem dX12_boroughLine_105 : decode cX12_boroughLine 105 = .ok (.iconst 5, 1) := by decide +kernel
theorem dX12_boroughLine_106 : decode cX12_boroughLine 106 = .ok (.goto 18, 3) := by decide +kernel
theorem dX12_boroughLine_109 : decode cX12_boroughLine 109 = .ok (.lload_n 1, 1) := by decide +kernel
theorem dX12_boroughLine_110 : decode cX12_boroughLine 110 = .ok (.ldc2_w 189, 3) := by decide +kernel
theorem dX12_boroughLine_113 : decode cX12_boroughLine 113 = .ok (.lcmp, 1) := by decide +kernel
theorem dX12_boroughLine_114 : decode cX12_boroughLine 114 = .ok (.ifCond .ne 8, 3) := by decide +kernel
theorem dX12_boroughLine_117 : decode cX12_boroughLine 117 = .ok (.bipush 25, 2) := by decide +kernel
theorem dX12_boroughLine_119 : decode cX12_boroughLine 119 = .ok (.goto 5, 3) := by decide +kernel
theorem dX12_boroughLine_122 : decode cX12_boroughLine 122 = .ok (.bipush 37, 2) := by decide +kernel
theorem dX12_boroughLine_124 : decode cX12_boroughLine 124 = .ok (.iload 5, 2) := by decide +kernel
theorem dX12_boroughLine_126 : decode cX12_boroughLine 126 = .ok (.invokevirtual 197, 3) := by decide +kernel
theorem dX12_boroughLine_129 : decode cX12_boroughLine 129 = .ok (.ireturn, 1) := by decide +kernel
theorem dX12_boroughLine_130 : decode cX12_boroughLine 130 = .ok (.lload_n 1, 1) := by decide +kernel
theorem dX12_boroughLine_131 : decode cX12_boroughLine 131 = .ok (.ldc2_w 200, 3) := by decide +kernel
theorem dX12_boroughLine_134 : decode cX12_boroughLine 134 = .ok (.lcmp, 1) := by decide +kernel
theorem dX12_boroughLine_135 : decode cX12_boroughLine 135 = .ok (.ifCond .eq 48, 3) := by decide +kernel
theorem dX12_boroughLine_138 : decode cX12_boroughLine 138 = .ok (.lload_n 1, 1) := by decide +kernel
theorem dX12_boroughLine_139 : decode cX12_boroughLine 139 = .ok (.ldc2_w 202, 3) := by decide +kernel
theorem dX12_boroughLine_142 : decode cX12_boroughLine 142 = .ok (.lcmp, 1) := by decide +kernel
theorem dX12_boroughLine_143 : decode cX12_boroughLine 143 = .ok (.ifCond .eq 40, 3) := by decide +kernel
theorem dX12_boroughLine_146 : decode cX12_boroughLine 146 = .ok (.lload_n 1, 1) := by decide +kernel
theorem dX12_boroughLine_147 : decode cX12_boroughLine 147 = .ok (.ldc2_w 204, 3) := by decide +kernel
theorem dX12_boroughLine_150 : decode cX12_boroughLine 150 = .ok (.lcmp, 1) := by decide +kernel
theorem dX12_boroughLine_151 : decode cX12_boroughLine 151 = .ok (.ifCond .eq 32, 3) := by decide +kernel
theorem dX12_boroughLine_154 : decode cX12_boroughLine 154 = .ok (.lload_n 1, 1) := by decide +kernel
theorem dX12_boroughLine_155 : decode cX12_boroughLine 155 = .ok (.ldc2_w 206, 3) := by decide +kernel
theorem dX12_boroughLine_158 : decode cX12_boroughLine 158 = .ok (.lcmp, 1) := by decide +kernel
theorem dX12_boroughLine_159 : decode cX12_boroughLine 159 = .ok (.ifCond .eq 24, 3) := by decide +kernel
theorem dX12_boroughLine_162 : decode cX12_boroughLine 162 = .ok (.lload_n 1, 1) := by decide +kernel
theorem dX12_boroughLine_163 : decode cX12_boroughLine 163 = .ok (.ldc2_w 208, 3) := by decide +kernel
theorem dX12_boroughLine_166 : decode cX12_boroughLine 166 = .ok (.lcmp, 1) := by decide +kernel
theorem dX12_boroughLine_167 : decode cX12_boroughLine 167 = .ok (.ifCond .eq 16, 3) := by decide +kernel
theorem dX12_boroughLine_170 : decode cX12_boroughLine 170 = .ok (.lload_n 1, 1) := by decide +kernel
theorem dX12_boroughLine_171 : decode cX12_boroughLine 171 = .ok (.ldc2_w 210, 3) := by decide +kernel
theorem dX12_boroughLine_174 : decode cX12_boroughLine 174 = .ok (.lcmp, 1) := by decide +kernel
theorem dX12_boroughLine_175 : decode cX12_boroughLine 175 = .ok (.ifCond .eq 8, 3) := by decide +kernel
theorem dX12_boroughLine_178 : decode cX12_boroughLine 178 = .ok (.aload_n 0, 1) := by decide +kernel
theorem dX12_boroughLine_179 : decode cX12_boroughLine 179 = .ok (.invokevirtual 140, 3) := by decide +kernel
theorem dX12_boroughLine_182 : decode cX12_boroughLine 182 = .ok (.ireturn, 1) := by decide +kernel
theorem dX12_boroughLine_183 : decode cX12_boroughLine 183 = .ok (.aload_n 0, 1) := by decide +kernel
theorem dX12_boroughLine_184 : decode cX12_boroughLine 184 = .ok (.invokevirtual 152, 3) := by decide +kernel
theorem dX12_boroughLine_187 : decode cX12_boroughLine 187 = .ok (.lload_n 1, 1) := by decide +kernel
theorem dX12_boroughLine_188 : decode cX12_boroughLine 188 = .ok (.ldc2_w 200, 3) := by decide +kernel
theorem dX12_boroughLine_191 : decode cX12_boroughLine 191 = .ok (.lcmp, 1) := by decide +kernel
theorem dX12_boroughLine_192 : decode cX12_boroughLine 192 = .ok (.ifCond .eq 11, 3) := by decide +kernel
theorem dX12_boroughLine_195 : decode cX12_boroughLine 195 = .ok (.lload_n 1, 1) := by decide +kernel
theorem dX12_boroughLine_196 : decode cX12_boroughLine 196 = .ok (.ldc2_w 202, 3) := by decide +kernel
theorem dX12_boroughLine_199 : decode cX12_boroughLine 199 = .ok (.lcmp, 1) := by decide +kernel
theorem dX12_boroughLine_200 : decode cX12_boroughLine 200 = .ok (.ifCond .ne 23, 3) := by decide +kernel
theorem dX12_boroughLine_203 : decode cX12_boroughLine 203 = .ok (.lload_n 1, 1) := by decide +kernel
theorem dX12_boroughLine_204 : decode cX12_boroughLine 204 = .ok (.ldc2_w 200, 3) := by decide +kernel
theorem dX12_boroughLine_207 : decode cX12_boroughLine 207 = .ok (.lcmp, 1) := by decide +kernel
theorem dX12_boroughLine_208 : decode cX12_boroughLine 208 = .ok (.ifCond .ne 10, 3) := by decide +kernel
theorem dX12_boroughLine_211 : decode cX12_boroughLine 211 = .ok (.aload_n 0, 1) := by decide +kernel
theorem dX12_boroughLine_212 : decode cX12_boroughLine 212 = .ok (.invokevirtual 212, 3) := by decide +kernel
theorem dX12_boroughLine_215 : decode cX12_boroughLine 215 = .ok (.goto 7, 3) := by decide +kernel
theorem dX12_boroughLine_218 : decode cX12_boroughLine 218 = .ok (.aload_n 0, 1) := by decide +kernel
theorem dX12_boroughLine_219 : decode cX12_boroughLine 219 = .ok (.invokevirtual 215, 3) := by decide +kernel
theorem dX12_boroughLine_222 : decode cX12_boroughLine 222 = .ok (.ireturn, 1) := by decide +kernel
theorem dX12_boroughLine_223 : decode cX12_boroughLine 223 = .ok (.lload_n 1, 1) := by decide +kernel
theorem dX12_boroughLine_224 : decode cX12_boroughLine 224 = .ok (.ldc2_w 204, 3) := by decide +kernel
theorem dX12_boroughLine_227 : decode cX12_boroughLine 227 = .ok (.lcmp, 1) := by decide +kernel
theorem dX12_boroughLine_228 : decode cX12_boroughLine 228 = .ok (.ifCond .ne 10, 3) := by decide +kernel
theorem dX12_boroughLine_231 : decode cX12_boroughLine 231 = .ok (.aload_n 0, 1) := by decide +kernel
theorem dX12_boroughLine_232 : decode cX12_boroughLine 232 = .ok (.invokevirtual 218, 3) := by decide +kernel
theorem dX12_boroughLine_235 : decode cX12_boroughLine 235 = .ok (.goto 37, 3) := by decide +kernel
theorem dX12_boroughLine_238 : decode cX12_boroughLine 238 = .ok (.lload_n 1, 1) := by decide +kernel
theorem dX12_boroughLine_239 : decode cX12_boroughLine 239 = .ok (.ldc2_w 206, 3) := by decide +kernel
theorem dX12_boroughLine_242 : decode cX12_boroughLine 242 = .ok (.lcmp, 1) := by decide +kernel
theorem dX12_boroughLine_243 : decode cX12_boroughLine 243 = .ok (.ifCond .ne 10, 3) := by decide +kernel
theorem dX12_boroughLine_246 : decode cX12_boroughLine 246 = .ok (.aload_n 0, 1) := by decide +kernel
theorem dX12_boroughLine_247 : decode cX12_boroughLine 247 = .ok (.invokevirtual 221, 3) := by decide +kernel
theorem dX12_boroughLine_250 : decode cX12_boroughLine 250 = .ok (.goto 22, 3) := by decide +kernel
theorem dX12_boroughLine_253 : decode cX12_boroughLine 253 = .ok (.lload_n 1, 1) := by decide +kernel
theorem dX12_boroughLine_254 : decode cX12_boroughLine 254 = .ok (.ldc2_w 208, 3) := by decide +kernel
theorem dX12_boroughLine_257 : decode cX12_boroughLine 257 = .ok (.lcmp, 1) := by decide +kernel
theorem dX12_boroughLine_258 : decode cX12_boroughLine 258 = .ok (.ifCond .ne 10, 3) := by decide +kernel
theorem dX12_boroughLine_261 : decode cX12_boroughLine 261 = .ok (.aload_n 0, 1) := by decide +kernel
theorem dX12_boroughLine_262 : decode cX12_boroughLine 262 = .ok (.invokevirtual 224, 3) := by decide +kernel
theorem dX12_boroughLine_265 : decode cX12_boroughLine 265 = .ok (.goto 7, 3) := by decide +kernel
theorem dX12_boroughLine_268 : decode cX12_boroughLine 268 = .ok (.aload_n 0, 1) := by decide +kernel
theorem dX12_boroughLine_269 : decode cX12_boroughLine 269 = .ok (.invokevirtual 227, 3) := by decide +kernel
theorem dX12_boroughLine_272 : decode cX12_boroughLine 272 = .ok (.ireturn, 1) := by decide +kernel
def is_X12_boroughLine : Nat → List Nat := fun d => if d = 24 then [0, 1, 3] else if d = 49 then [0, 1, 3] else if d = 79 then [0, 1, 3, 4] else if d = 124 then [5] else if d = 183 then [0, 1] else []
set_option maxRecDepth 100000 in
def b_X12_boroughLine_272 (J : Nat → List qV → List qV → qW → Prop) (Q : qR) : qK := x_zret Q
set_option maxRecDepth 100000 in
theorem s_X12_boroughLine_272 {p : Program} {l : Launch} {e : Env} {R : Room} {s : State} {m : MethodId} {args : Array Value} {below : List Frame} {meth : Method} {c : Code} {nW : Nat} {dC : Nat → ClassId} {dI : Nat → Nat → Nat} {k : Nat → ClassId} {g : Nat → Nat} {A : Nat → Prop} {J : Nat → List qV → List qV → qW → Prop} {Q : qR} (X : q_X p R s m args meth c cX12_boroughLine 6 nW 5 114 RX12 (some .boolean) dC dI k g A) (hJ : ∀ d : Nat, q_Sd p l e R s m args below meth c 6 nW dC dI k g A (MQ below (q_post (dC, dI) k g nW Q A) args s 0 0 A) d (x_cut (is_X12_boroughLine d) (J d))) : q_Sd p l e R s m args below meth c 6 nW dC dI k g A (MQ below (q_post (dC, dI) k g nW Q A) args s 0 0 A) 272 (b_X12_boroughLine_272 J Q) := by
  unfold b_X12_boroughLine_272
  exact s_zret X dX12_boroughLine_272
set_option maxRecDepth 100000 in
def b_X12_boroughLine_222 (J : Nat → List qV → List qV → qW → Prop) (Q : qR) : qK := x_zret Q
set_option maxRecDepth 100000 in
theorem s_X12_boroughLine_222 {p : Program} {l : Launch} {e : Env} {R : Room} {s : State} {m : MethodId} {args : Array Value} {below : List Frame} {meth : Method} {c : Code} {nW : Nat} {dC : Nat → ClassId} {dI : Nat → Nat → Nat} {k : Nat → ClassId} {g : Nat → Nat} {A : Nat → Prop} {J : Nat → List qV → List qV → qW → Prop} {Q : qR} (X : q_X p R s m args meth c cX12_boroughLine 6 nW 5 114 RX12 (some .boolean) dC dI k g A) (hJ : ∀ d : Nat, q_Sd p l e R s m args below meth c 6 nW dC dI k g A (MQ below (q_post (dC, dI) k g nW Q A) args s 0 0 A) d (x_cut (is_X12_boroughLine d) (J d))) : q_Sd p l e R s m args below meth c 6 nW dC dI k g A (MQ below (q_post (dC, dI) k g nW Q A) args s 0 0 A) 222 (b_X12_boroughLine_222 J Q) := by
  unfold b_X12_boroughLine_222
  exact s_zret X dX12_boroughLine_222
set_option maxRecDepth 100000 in
def b_X12_boroughLine_203 (J : Nat → List qV → List qV → qW → Prop) (Q : qR) : qK := x_lload 1 (x_lng 1886351218 (x_lcmp (x_if_ne (x_aload 0 (x_call (some 12) 1 sp_X12_caughtLine (x_nw (b_X12_boroughLine_222 J Q)))) (x_aload 0 (x_call (some 12) 1 sp_X12_poorLine (x_nw (b_X12_boroughLine_222 J Q)))))))
set_option maxRecDepth 100000 in
theorem s_X12_boroughLine_203 {p : Program} {l : Launch} {e : Env} {R : Room} {s : State} {m : MethodId} {args : Array Value} {below : List Frame} {meth : Method} {c : Code} {nW : Nat} {dC : Nat → ClassId} {dI : Nat → Nat → Nat} {k : Nat → ClassId} {g : Nat → Nat} {A : Nat → Prop} {J : Nat → List qV → List qV → qW → Prop} {Q : qR} (X : q_X p R s m args meth c cX12_boroughLine 6 nW 5 114 RX12 (some .boolean) dC dI k g A) (hJ : ∀ d : Nat, q_Sd p l e R s m args below meth c 6 nW dC dI k g A (MQ below (q_post (dC, dI) k g nW Q A) args s 0 0 A) d (x_cut (is_X12_boroughLine d) (J d))) : q_Sd p l e R s m args below meth c 6 nW dC dI k g A (MQ below (q_post (dC, dI) k g nW Q A) args s 0 0 A) 203 (b_X12_boroughLine_203 J Q) := by
  unfold b_X12_boroughLine_203
  refine s_lload_n X rfl dX12_boroughLine_203 ?_
  refine s_ldc2 X ⟨by decide, by decide⟩ tw_1106 dX12_boroughLine_204 ?_
  refine s_lcmp X dX12_boroughLine_207 ?_
  refine s_if_ne X (tgt := 218) dX12_boroughLine_208 (by decide) ?_ ?_
  · refine s_aload_n X rfl dX12_boroughLine_218 ?_
    refine s_callV X (m_X12_caughtLine l) tw_1121 tw_1122 tw_1552 tw_134 tw_1123 rfl (by decide +kernel) ⟨by decide, by decide⟩ dX12_boroughLine_219 ?_
    refine s_nw ?_
    exact s_X12_boroughLine_222 X hJ
  · refine s_aload_n X rfl dX12_boroughLine_211 ?_
    refine s_callV X (m_X12_poorLine l) tw_1112 tw_1113 tw_1609 tw_134 tw_1114 rfl (by decide +kernel) ⟨by decide, by decide⟩ dX12_boroughLine_212 ?_
    refine s_nw ?_
    refine s_goto X (tgt := 222) dX12_boroughLine_215 (by decide) ?_
    exact s_X12_boroughLine_222 X hJ
set_option maxRecDepth 100000 in
def b_X12_boroughLine_183 (J : Nat → List qV → List qV → qW → Prop) (Q : qR) : qK := x_aload 0 (x_call (some 12) 1 sp_X12_token (x_nw (x_lload 1 (x_lng 1886351218 (x_lcmp (x_if_eq (b_X12_boroughLine_203 J Q) (x_lload 1 (x_lng 109270232688756 (x_lcmp (x_if_ne (x_lload 1 (x_lng 426953501796 (x_lcmp (x_if_ne (x_lload 1 (x_lng 1885434739 (x_lcmp (x_if_ne (x_lload 1 (x_lng 427071599731 (x_lcmp (x_if_ne (x_aload 0 (x_call (some 12) 1 sp_X12_wishLine (x_nw (b_X12_boroughLine_272 J Q)))) (x_aload 0 (x_call (some 12) 1 sp_X12_costLine (x_nw (b_X12_boroughLine_272 J Q)))))))) (x_aload 0 (x_call (some 12) 1 sp_X12_passLine (x_nw (b_X12_boroughLine_272 J Q)))))))) (x_aload 0 (x_call (some 12) 1 sp_X12_childLine (x_nw (b_X12_boroughLine_272 J Q)))))))) (b_X12_boroughLine_203 J Q)))))))))))
set_option maxRecDepth 100000 in
theorem s_X12_boroughLine_183 {p : Program} {l : Launch} {e : Env} {R : Room} {s : State} {m : MethodId} {args : Array Value} {below : List Frame} {meth : Method} {c : Code} {nW : Nat} {dC : Nat → ClassId} {dI : Nat → Nat → Nat} {k : Nat → ClassId} {g : Nat → Nat} {A : Nat → Prop} {J : Nat → List qV → List qV → qW → Prop} {Q : qR} (X : q_X p R s m args meth c cX12_boroughLine 6 nW 5 114 RX12 (some .boolean) dC dI k g A) (hJ : ∀ d : Nat, q_Sd p l e R s m args below meth c 6 nW dC dI k g A (MQ below (q_post (dC, dI) k g nW Q A) args s 0 0 A) d (x_cut (is_X12_boroughLine d) (J d))) : q_Sd p l e R s m args below meth c 6 nW dC dI k g A (MQ below (q_post (dC, dI) k g nW Q A) args s 0 0 A) 183 (b_X12_boroughLine_183 J Q) := by
  unfold b_X12_boroughLine_183
  refine s_aload_n X rfl dX12_boroughLine_183 ?_
  refine s_callV X (m_X12_token l) tw_1070 tw_1071 tw_1627 tw_134 tw_1072 rfl (by decide +kernel) ⟨by decide, by decide⟩ dX12_boroughLine_184 ?_
  refine s_nw ?_
  refine s_lload_n X rfl dX12_boroughLine_187 ?_
  refine s_ldc2 X ⟨by decide, by decide⟩ tw_1106 dX12_boroughLine_188 ?_
  refine s_lcmp X dX12_boroughLine_191 ?_
  refine s_if_eq X (tgt := 203) dX12_boroughLine_192 (by decide) ?_ ?_
  · exact s_X12_boroughLine_203 X hJ
  · refine s_lload_n X rfl dX12_boroughLine_195 ?_
    refine s_ldc2 X ⟨by decide, by decide⟩ tw_1107 dX12_boroughLine_196 ?_
    refine s_lcmp X dX12_boroughLine_199 ?_
    refine s_if_ne X (tgt := 223) dX12_boroughLine_200 (by decide) ?_ ?_
    · refine s_lload_n X rfl dX12_boroughLine_223 ?_
      refine s_ldc2 X ⟨by decide, by decide⟩ tw_1108 dX12_boroughLine_224 ?_
      refine s_lcmp X dX12_boroughLine_227 ?_
      refine s_if_ne X (tgt := 238) dX12_boroughLine_228 (by decide) ?_ ?_
      · refine s_lload_n X rfl dX12_boroughLine_238 ?_
        refine s_ldc2 X ⟨by decide, by decide⟩ tw_1109 dX12_boroughLine_239 ?_
        refine s_lcmp X dX12_boroughLine_242 ?_
        refine s_if_ne X (tgt := 253) dX12_boroughLine_243 (by decide) ?_ ?_
        · refine s_lload_n X rfl dX12_boroughLine_253 ?_
          refine s_ldc2 X ⟨by decide, by decide⟩ tw_1110 dX12_boroughLine_254 ?_
          refine s_lcmp X dX12_boroughLine_257 ?_
          refine s_if_ne X (tgt := 268) dX12_boroughLine_258 (by decide) ?_ ?_
          · refine s_aload_n X rfl dX12_boroughLine_268 ?_
            refine s_callV X (m_X12_wishLine l) tw_1140 tw_1141 tw_1630 tw_134 tw_1142 rfl (by decide +kernel) ⟨by decide, by decide⟩ dX12_boroughLine_269 ?_
            refine s_nw ?_
            exact s_X12_boroughLine_272 X hJ
          · refine s_aload_n X rfl dX12_boroughLine_261 ?_
            refine s_callV X (m_X12_costLine l) tw_1130 tw_1131 tw_1555 tw_134 tw_1132 rfl (by decide +kernel) ⟨by decide, by decide⟩ dX12_boroughLine_262 ?_
            refine s_nw ?_
            refine s_goto X (tgt := 272) dX12_boroughLine_265 (by decide) ?_
            exact s_X12_boroughLine_272 X hJ
        · refine s_aload_n X rfl dX12_boroughLine_246 ?_
          refine s_callV X (m_X12_passLine l) tw_1127 tw_1128 tw_1606 tw_134 tw_1129 rfl (by decide +kernel) ⟨by decide, by decide⟩ dX12_boroughLine_247 ?_
          refine s_nw ?_
          refine s_goto X (tgt := 272) dX12_boroughLine_250 (by decide) ?_
          exact s_X12_boroughLine_272 X hJ
      · refine s_aload_n X rfl dX12_boroughLine_231 ?_
        refine s_callV X (m_X12_childLine l) tw_1124 tw_1125 tw_1553 tw_134 tw_1126 rfl (by decide +kernel) ⟨by decide, by decide⟩ dX12_boroughLine_232 ?_
        refine s_nw ?_
        refine s_goto X (tgt := 272) dX12_boroughLine_235 (by decide) ?_
        exact s_X12_boroughLine_272 X hJ
    · exact s_X12_boroughLine_203 X hJ
set_option maxRecDepth 100000 in
def b_X12_boroughLine_171 (J : Nat → List qV → List qV → qW → Prop) (Q : qR) : qK := x_lng 2003399528 (x_lcmp (x_if_eq (x_cut [0, 1] (J 183)) (x_aload 0 (x_call (some 12) 1 sp_X12_fails (x_nw (x_zret Q))))))
set_option maxRecDepth 100000 in
theorem s_X12_boroughLine_171 {p : Program} {l : Launch} {e : Env} {R : Room} {s : State} {m : MethodId} {args : Array Value} {below : List Frame} {meth : Method} {c : Code} {nW : Nat} {dC : Nat → ClassId} {dI : Nat → Nat → Nat} {k : Nat → ClassId} {g : Nat → Nat} {A : Nat → Prop} {J : Nat → List qV → List qV → qW → Prop} {Q : qR} (X : q_X p R s m args meth c cX12_boroughLine 6 nW 5 114 RX12 (some .boolean) dC dI k g A) (hJ : ∀ d : Nat, q_Sd p l e R s m args below meth c 6 nW dC dI k g A (MQ below (q_post (dC, dI) k g nW Q A) args s 0 0 A) d (x_cut (is_X12_boroughLine d) (J d))) : q_Sd p l e R s m args below meth c 6 nW dC dI k g A (MQ below (q_post (dC, dI) k g nW Q A) args s 0 0 A) 171 (b_X12_boroughLine_171 J Q) := by
  unfold b_X12_boroughLine_171
  refine s_ldc2 X ⟨by decide, by decide⟩ tw_1111 dX12_boroughLine_171 ?_
  refine s_lcmp X dX12_boroughLine_174 ?_
  refine s_if_eq X (tgt := 183) dX12_boroughLine_175 (by decide) ?_ ?_
  · exact hJ 183
  · refine s_aload_n X rfl dX12_boroughLine_178 ?_
    refine s_callV X (m_X12_fails l) tw_1103 tw_1104 tw_1568 tw_134 tw_1105 rfl (by decide +kernel) ⟨by decide, by decide⟩ dX12_boroughLine_179 ?_
    refine s_nw ?_
    exact s_zret X dX12_boroughLine_182
set_option maxRecDepth 100000 in
def b_X12_boroughLine_124 (J : Nat → List qV → List qV → qW → Prop) (Q : qR) : qK := x_iload 5 (x_call (some 12) 4 sp_X12_furtherLine (x_nw (x_zret Q)))
set_option maxRecDepth 100000 in
theorem s_X12_boroughLine_124 {p : Program} {l : Launch} {e : Env} {R : Room} {s : State} {m : MethodId} {args : Array Value} {below : List Frame} {meth : Method} {c : Code} {nW : Nat} {dC : Nat → ClassId} {dI : Nat → Nat → Nat} {k : Nat → ClassId} {g : Nat → Nat} {A : Nat → Prop} {J : Nat → List qV → List qV → qW → Prop} {Q : qR} (X : q_X p R s m args meth c cX12_boroughLine 6 nW 5 114 RX12 (some .boolean) dC dI k g A) (hJ : ∀ d : Nat, q_Sd p l e R s m args below meth c 6 nW dC dI k g A (MQ below (q_post (dC, dI) k g nW Q A) args s 0 0 A) d (x_cut (is_X12_boroughLine d) (J d))) : q_Sd p l e R s m args below meth c 6 nW dC dI k g A (MQ below (q_post (dC, dI) k g nW Q A) args s 0 0 A) 124 (b_X12_boroughLine_124 J Q) := by
  unfold b_X12_boroughLine_124
  refine s_iload X dX12_boroughLine_124 ?_
  refine s_callV X (m_X12_furtherLine l) tw_1094 tw_1095 tw_1579 tw_134 tw_1096 rfl (by decide +kernel) ⟨by decide, by decide⟩ dX12_boroughLine_126 ?_
  refine s_nw ?_
  exact s_zret X dX12_boroughLine_129
set_option maxRecDepth 100000 in
def b_X12_boroughLine_79 (J : Nat → List qV → List qV → qW → Prop) (Q : qR) : qK := x_istore 5 (x_aload 0 (x_iload 4 (x_iload 5 (x_iload 3 (x_call (some 12) 4 sp_X12_full (x_nw (x_aload 0 (x_call (some 12) 1 sp_X12_token (x_nw (x_aload 0 (x_iload 4 (x_lload 1 (x_lng 123581014175598 (x_lcmp (x_if_ne (x_lload 1 (x_lng 1685024626 (x_lcmp (x_if_ne (x_int 37 (x_cut [5] (J 124))) (x_int 25 (x_cut [5] (J 124))))))) (x_int 5 (x_cut [5] (J 124))))))))))))))))))
set_option maxRecDepth 100000 in
theorem s_X12_boroughLine_79 {p : Program} {l : Launch} {e : Env} {R : Room} {s : State} {m : MethodId} {args : Array Value} {below : List Frame} {meth : Method} {c : Code} {nW : Nat} {dC : Nat → ClassId} {dI : Nat → Nat → Nat} {k : Nat → ClassId} {g : Nat → Nat} {A : Nat → Prop} {J : Nat → List qV → List qV → qW → Prop} {Q : qR} (X : q_X p R s m args meth c cX12_boroughLine 6 nW 5 114 RX12 (some .boolean) dC dI k g A) (hJ : ∀ d : Nat, q_Sd p l e R s m args below meth c 6 nW dC dI k g A (MQ below (q_post (dC, dI) k g nW Q A) args s 0 0 A) d (x_cut (is_X12_boroughLine d) (J d))) : q_Sd p l e R s m args below meth c 6 nW dC dI k g A (MQ below (q_post (dC, dI) k g nW Q A) args s 0 0 A) 79 (b_X12_boroughLine_79 J Q) := by
  unfold b_X12_boroughLine_79
  refine s_istore X (by decide) dX12_boroughLine_79 ?_
  refine s_aload_n X rfl dX12_boroughLine_81 ?_
  refine s_iload X dX12_boroughLine_82 ?_
  refine s_iload X dX12_boroughLine_84 ?_
  refine s_iload_n X rfl dX12_boroughLine_86 ?_
  refine s_callV X (m_X12_full l) tw_1088 tw_1089 tw_1578 tw_134 tw_1090 rfl (by decide +kernel) ⟨by decide, by decide⟩ dX12_boroughLine_87 ?_
  refine s_nw ?_
  refine s_aload_n X rfl dX12_boroughLine_90 ?_
  refine s_callV X (m_X12_token l) tw_1070 tw_1071 tw_1627 tw_134 tw_1072 rfl (by decide +kernel) ⟨by decide, by decide⟩ dX12_boroughLine_91 ?_
  refine s_nw ?_
  refine s_aload_n X rfl dX12_boroughLine_94 ?_
  refine s_iload X dX12_boroughLine_95 ?_
  refine s_lload_n X rfl dX12_boroughLine_97 ?_
  refine s_ldc2 X ⟨by decide, by decide⟩ tw_1085 dX12_boroughLine_98 ?_
  refine s_lcmp X dX12_boroughLine_101 ?_
  refine s_if_ne X (tgt := 109) dX12_boroughLine_102 (by decide) ?_ ?_
  · refine s_lload_n X rfl dX12_boroughLine_109 ?_
    refine s_ldc2 X ⟨by decide, by decide⟩ tw_1086 dX12_boroughLine_110 ?_
    refine s_lcmp X dX12_boroughLine_113 ?_
    refine s_if_ne X (tgt := 122) dX12_boroughLine_114 (by decide) ?_ ?_
    · refine s_bipush X ⟨by decide, by decide⟩ (by decide) dX12_boroughLine_122 ?_
      exact hJ 124
    · refine s_bipush X ⟨by decide, by decide⟩ (by decide) dX12_boroughLine_117 ?_
      refine s_goto X (tgt := 124) dX12_boroughLine_119 (by decide) ?_
      exact hJ 124
  · refine s_iconst X ⟨by decide, by decide⟩ dX12_boroughLine_105 ?_
    refine s_goto X (tgt := 124) dX12_boroughLine_106 (by decide) ?_
    exact hJ 124
set_option maxRecDepth 100000 in
def b_X12_boroughLine_49 (J : Nat → List qV → List qV → qW → Prop) (Q : qR) : qK := x_istore 4 (x_lload 1 (x_lng 123581014175598 (x_lcmp (x_if_ne (x_lload 1 (x_lng 1685024626 (x_lcmp (x_if_ne (x_int 6 (x_cut [0, 1, 3, 4] (J 79))) (x_int 6 (x_cut [0, 1, 3, 4] (J 79))))))) (x_int 8 (x_cut [0, 1, 3, 4] (J 79)))))))
set_option maxRecDepth 100000 in
theorem s_X12_boroughLine_49 {p : Program} {l : Launch} {e : Env} {R : Room} {s : State} {m : MethodId} {args : Array Value} {below : List Frame} {meth : Method} {c : Code} {nW : Nat} {dC : Nat → ClassId} {dI : Nat → Nat → Nat} {k : Nat → ClassId} {g : Nat → Nat} {A : Nat → Prop} {J : Nat → List qV → List qV → qW → Prop} {Q : qR} (X : q_X p R s m args meth c cX12_boroughLine 6 nW 5 114 RX12 (some .boolean) dC dI k g A) (hJ : ∀ d : Nat, q_Sd p l e R s m args below meth c 6 nW dC dI k g A (MQ below (q_post (dC, dI) k g nW Q A) args s 0 0 A) d (x_cut (is_X12_boroughLine d) (J d))) : q_Sd p l e R s m args below meth c 6 nW dC dI k g A (MQ below (q_post (dC, dI) k g nW Q A) args s 0 0 A) 49 (b_X12_boroughLine_49 J Q) := by
  unfold b_X12_boroughLine_49
  refine s_istore X (by decide) dX12_boroughLine_49 ?_
  refine s_lload_n X rfl dX12_boroughLine_51 ?_
  refine s_ldc2 X ⟨by decide, by decide⟩ tw_1085 dX12_boroughLine_52 ?_
  refine s_lcmp X dX12_boroughLine_55 ?_
  refine s_if_ne X (tgt := 64) dX12_boroughLine_56 (by decide) ?_ ?_
  · refine s_lload_n X rfl dX12_boroughLine_64 ?_
    refine s_ldc2 X ⟨by decide, by decide⟩ tw_1086 dX12_boroughLine_65 ?_
    refine s_lcmp X dX12_boroughLine_68 ?_
    refine s_if_ne X (tgt := 77) dX12_boroughLine_69 (by decide) ?_ ?_
    · refine s_bipush X ⟨by decide, by decide⟩ (by decide) dX12_boroughLine_77 ?_
      exact hJ 79
    · refine s_bipush X ⟨by decide, by decide⟩ (by decide) dX12_boroughLine_72 ?_
      refine s_goto X (tgt := 79) dX12_boroughLine_74 (by decide) ?_
      exact hJ 79
  · refine s_bipush X ⟨by decide, by decide⟩ (by decide) dX12_boroughLine_59 ?_
    refine s_goto X (tgt := 79) dX12_boroughLine_61 (by decide) ?_
    exact hJ 79
set_option maxRecDepth 100000 in
def b_X12_boroughLine_24 (J : Nat → List qV → List qV → qW → Prop) (Q : qR) : qK := x_lload 1 (x_lng 123581014175598 (x_lcmp (x_if_ne (x_lload 1 (x_lng 1685024626 (x_lcmp (x_if_ne (x_int 4 (x_cut [0, 1, 3] (J 49))) (x_int 3 (x_cut [0, 1, 3] (J 49))))))) (x_int 0 (x_cut [0, 1, 3] (J 49))))))
set_option maxRecDepth 100000 in
theorem s_X12_boroughLine_24 {p : Program} {l : Launch} {e : Env} {R : Room} {s : State} {m : MethodId} {args : Array Value} {below : List Frame} {meth : Method} {c : Code} {nW : Nat} {dC : Nat → ClassId} {dI : Nat → Nat → Nat} {k : Nat → ClassId} {g : Nat → Nat} {A : Nat → Prop} {J : Nat → List qV → List qV → qW → Prop} {Q : qR} (X : q_X p R s m args meth c cX12_boroughLine 6 nW 5 114 RX12 (some .boolean) dC dI k g A) (hJ : ∀ d : Nat, q_Sd p l e R s m args below meth c 6 nW dC dI k g A (MQ below (q_post (dC, dI) k g nW Q A) args s 0 0 A) d (x_cut (is_X12_boroughLine d) (J d))) : q_Sd p l e R s m args below meth c 6 nW dC dI k g A (MQ below (q_post (dC, dI) k g nW Q A) args s 0 0 A) 24 (b_X12_boroughLine_24 J Q) := by
  unfold b_X12_boroughLine_24
  refine s_lload_n X rfl dX12_boroughLine_24 ?_
  refine s_ldc2 X ⟨by decide, by decide⟩ tw_1085 dX12_boroughLine_25 ?_
  refine s_lcmp X dX12_boroughLine_28 ?_
  refine s_if_ne X (tgt := 36) dX12_boroughLine_29 (by decide) ?_ ?_
  · refine s_lload_n X rfl dX12_boroughLine_36 ?_
    refine s_ldc2 X ⟨by decide, by decide⟩ tw_1086 dX12_boroughLine_37 ?_
    refine s_lcmp X dX12_boroughLine_40 ?_
    refine s_if_ne X (tgt := 48) dX12_boroughLine_41 (by decide) ?_ ?_
    · refine s_iconst X ⟨by decide, by decide⟩ dX12_boroughLine_48 ?_
      exact hJ 49
    · refine s_iconst X ⟨by decide, by decide⟩ dX12_boroughLine_44 ?_
      refine s_goto X (tgt := 49) dX12_boroughLine_45 (by decide) ?_
      exact hJ 49
  · refine s_iconst X ⟨by decide, by decide⟩ dX12_boroughLine_32 ?_
    refine s_goto X (tgt := 49) dX12_boroughLine_33 (by decide) ?_
    exact hJ 49
set_option maxRecDepth 100000 in
def b_X12_boroughLine_0 (J : Nat → List qV → List qV → qW → Prop) (Q : qR) : qK := x_lload 1 (x_lng 123581014175598 (x_lcmp (x_if_eq (x_cut [0, 1, 3] (J 24)) (x_lload 1 (x_lng 1685024626 (x_lcmp (x_if_eq (x_cut [0, 1, 3] (J 24)) (x_lload 1 (x_lng 2003792491 (x_lcmp (x_if_ne (x_lload 1 (x_lng 1886351218 (x_lcmp (x_if_eq (x_cut [0, 1] (J 183)) (x_lload 1 (x_lng 109270232688756 (x_lcmp (x_if_eq (x_cut [0, 1] (J 183)) (x_lload 1 (x_lng 426953501796 (x_lcmp (x_if_eq (x_cut [0, 1] (J 183)) (x_lload 1 (x_lng 1885434739 (x_lcmp (x_if_eq (x_cut [0, 1] (J 183)) (x_lload 1 (x_lng 427071599731 (x_lcmp (x_if_eq (x_cut [0, 1] (J 183)) (x_lload 1 (b_X12_boroughLine_171 J Q)))))))))))))))))))))) (x_cut [0, 1, 3] (J 24)))))))))))))
set_option maxRecDepth 100000 in
theorem s_X12_boroughLine_0 {p : Program} {l : Launch} {e : Env} {R : Room} {s : State} {m : MethodId} {args : Array Value} {below : List Frame} {meth : Method} {c : Code} {nW : Nat} {dC : Nat → ClassId} {dI : Nat → Nat → Nat} {k : Nat → ClassId} {g : Nat → Nat} {A : Nat → Prop} {J : Nat → List qV → List qV → qW → Prop} {Q : qR} (X : q_X p R s m args meth c cX12_boroughLine 6 nW 5 114 RX12 (some .boolean) dC dI k g A) (hJ : ∀ d : Nat, q_Sd p l e R s m args below meth c 6 nW dC dI k g A (MQ below (q_post (dC, dI) k g nW Q A) args s 0 0 A) d (x_cut (is_X12_boroughLine d) (J d))) : q_Sd p l e R s m args below meth c 6 nW dC dI k g A (MQ below (q_post (dC, dI) k g nW Q A) args s 0 0 A) 0 (b_X12_boroughLine_0 J Q) := by
  unfold b_X12_boroughLine_0
  refine s_lload_n X rfl dX12_boroughLine_0 ?_
  refine s_ldc2 X ⟨by decide, by decide⟩ tw_1085 dX12_boroughLine_1 ?_
  refine s_lcmp X dX12_boroughLine_4 ?_
  refine s_if_eq X (tgt := 24) dX12_boroughLine_5 (by decide) ?_ ?_
  · exact hJ 24
  · refine s_lload_n X rfl dX12_boroughLine_8 ?_
    refine s_ldc2 X ⟨by decide, by decide⟩ tw_1086 dX12_boroughLine_9 ?_
    refine s_lcmp X dX12_boroughLine_12 ?_
    refine s_if_eq X (tgt := 24) dX12_boroughLine_13 (by decide) ?_ ?_
    · exact hJ 24
    · refine s_lload_n X rfl dX12_boroughLine_16 ?_
      refine s_ldc2 X ⟨by decide, by decide⟩ tw_1087 dX12_boroughLine_17 ?_
      refine s_lcmp X dX12_boroughLine_20 ?_
      refine s_if_ne X (tgt := 130) dX12_boroughLine_21 (by decide) ?_ ?_
      · refine s_lload_n X rfl dX12_boroughLine_130 ?_
        refine s_ldc2 X ⟨by decide, by decide⟩ tw_1106 dX12_boroughLine_131 ?_
        refine s_lcmp X dX12_boroughLine_134 ?_
        refine s_if_eq X (tgt := 183) dX12_boroughLine_135 (by decide) ?_ ?_
        · exact hJ 183
        · refine s_lload_n X rfl dX12_boroughLine_138 ?_
          refine s_ldc2 X ⟨by decide, by decide⟩ tw_1107 dX12_boroughLine_139 ?_
          refine s_lcmp X dX12_boroughLine_142 ?_
          refine s_if_eq X (tgt := 183) dX12_boroughLine_143 (by decide) ?_ ?_
          · exact hJ 183
          · refine s_lload_n X rfl dX12_boroughLine_146 ?_
            refine s_ldc2 X ⟨by decide, by decide⟩ tw_1108 dX12_boroughLine_147 ?_
            refine s_lcmp X dX12_boroughLine_150 ?_
            refine s_if_eq X (tgt := 183) dX12_boroughLine_151 (by decide) ?_ ?_
            · exact hJ 183
            · refine s_lload_n X rfl dX12_boroughLine_154 ?_
              refine s_ldc2 X ⟨by decide, by decide⟩ tw_1109 dX12_boroughLine_155 ?_
              refine s_lcmp X dX12_boroughLine_158 ?_
              refine s_if_eq X (tgt := 183) dX12_boroughLine_159 (by decide) ?_ ?_
              · exact hJ 183
              · refine s_lload_n X rfl dX12_boroughLine_162 ?_
                refine s_ldc2 X ⟨by decide, by decide⟩ tw_1110 dX12_boroughLine_163 ?_
                refine s_lcmp X dX12_boroughLine_166 ?_
                refine s_if_eq X (tgt := 183) dX12_boroughLine_167 (by decide) ?_ ?_
                · exact hJ 183
                · refine s_lload_n X rfl dX12_boroughLine_170 ?_
                  exact s_X12_boroughLine_171 X hJ
      · exact hJ 24

def sp_X12_boroughLine : qS := fun av w Q => ∃ (mco : Int) (mre : Int) (mle : Int) (mbe : Int) (mso : Int) (mva : Int) (mwo : Int) (mwr : Int) (mlf : Int) (mlp : Int) (mfp : Int) (mfd : Int) (mgo : Int) (mbo : Int) (mpe : Int) (mye : Int) (mpr : Int) (mld : Int) (msi : Int) (mse : Int) (tp : Nat → Int) (re : Nat → Int) (td : Nat → Int) (ww : Int) (b : Int), av = [q2 0, q3 ww, q1 b] ∧ w = [.inr (12, [q1 mco, q2 1, q2 4, q2 5, q2 6, q2 7, q2 8, q2 9, q2 10, q2 11, q1 mre, q1 mle, q1 mbe, q1 mso, q1 mva, q3 mwo, q1 mwr, q1 mlf, q1 mlp, q2 3, q2 2, q1 mfp, q1 mfd, q1 mgo, q1 mbo, q1 mpe, q1 mye, q2 12, q1 mpr, q2 13, q2 14, q2 15, q2 16, q1 mld, q2 17, q1 msi, q2 18, q2 19, q2 20, q2 21, q2 22, q1 mse, q2 23, q2 24, q2 25]), .inl (1, 2400, .inl tp), .inl (0, 4, .inl re), .inl (0, 161, .inl td)] ∧ (0 ≤ mre ∧ mre ≤ mle ∧ mle ≤ 600) ∧ (BT td 0) ∧ (∀ (r : Int) (x_mre : Int) (x_mbe : Int) (x_mso : Int) (x_mva : Int) (x_mwo : Int) (x_mwr : Int) (x_mlf : Int) (x_mlp : Int) (x_mgo : Int) (x_mfp : Int) (x_mfd : Int) (x_re : Nat → Int) (x_td : Nat → Int), ((r = 0 ∨ r = 1 ∧ (x_mso = 0 ∨ mre < x_mre)) ∧ mre ≤ x_mre ∧ x_mre ≤ mle ∧ BT x_td 0) → Q (some (q1 r)) ([.inr (12, [q1 mco, q2 1, q2 4, q2 5, q2 6, q2 7, q2 8, q2 9, q2 10, q2 11, q1 x_mre, q1 mle, q1 x_mbe, q1 x_mso, q1 x_mva, q3 x_mwo, q1 x_mwr, q1 x_mlf, q1 x_mlp, q2 3, q2 2, q1 x_mfp, q1 x_mfd, q1 x_mgo, q1 mbo, q1 mpe, q1 mye, q2 12, q1 mpr, q2 13, q2 14, q2 15, q2 16, q1 mld, q2 17, q1 msi, q2 18, q2 19, q2 20, q2 21, q2 22, q1 mse, q2 23, q2 24, q2 25]), .inl (1, 2400, .inl tp), .inl (0, 4, .inl x_re), .inl (0, 161, .inl x_td)]))
def I_X12_boroughLine (mco : Int) (mre : Int) (mle : Int) (mbe : Int) (mso : Int) (mva : Int) (mwo : Int) (mwr : Int) (mlf : Int) (mlp : Int) (mfp : Int) (mfd : Int) (mgo : Int) (mbo : Int) (mpe : Int) (mye : Int) (mpr : Int) (mld : Int) (msi : Int) (mse : Int) (tp : Nat → Int) (re : Nat → Int) (td : Nat → Int) (ww : Int) (b : Int) : Nat → Nat → List qV → List qV → qW → Prop := fun dz mz vz sz wz => if dz = 24 then (∃ (u9 : Unit), vz = [q2 0, q3 ww, q1 b] ∧ sz = [] ∧ wz = [.inr (12, [q1 mco, q2 1, q2 4, q2 5, q2 6, q2 7, q2 8, q2 9, q2 10, q2 11, q1 mre, q1 mle, q1 mbe, q1 mso, q1 mva, q3 mwo, q1 mwr, q1 mlf, q1 mlp, q2 3, q2 2, q1 mfp, q1 mfd, q1 mgo, q1 mbo, q1 mpe, q1 mye, q2 12, q1 mpr, q2 13, q2 14, q2 15, q2 16, q1 mld, q2 17, q1 msi, q2 18, q2 19, q2 20, q2 21, q2 22, q1 mse, q2 23, q2 24, q2 25]), .inl (1, 2400, .inl tp), .inl (0, 4, .inl re), .inl (0, 161, .inl td)] ∧ mz = 5) else if dz = 49 then (∃ (s0 : Int), vz = [q2 0, q3 ww, q1 b] ∧ sz = [q1 s0] ∧ wz = [.inr (12, [q1 mco, q2 1, q2 4, q2 5, q2 6, q2 7, q2 8, q2 9, q2 10, q2 11, q1 mre, q1 mle, q1 mbe, q1 mso, q1 mva, q3 mwo, q1 mwr, q1 mlf, q1 mlp, q2 3, q2 2, q1 mfp, q1 mfd, q1 mgo, q1 mbo, q1 mpe, q1 mye, q2 12, q1 mpr, q2 13, q2 14, q2 15, q2 16, q1 mld, q2 17, q1 msi, q2 18, q2 19, q2 20, q2 21, q2 22, q1 mse, q2 23, q2 24, q2 25]), .inl (1, 2400, .inl tp), .inl (0, 4, .inl re), .inl (0, 161, .inl td)] ∧ mz = 4 ∧ ((s0 = 0 ∧ cmR ww 123581014175598 = 0 ∨ s0 = 3 ∧ ¬ cmR ww 123581014175598 = 0 ∧ cmR ww 1685024626 = 0 ∨ s0 = 4 ∧ ¬ cmR ww 123581014175598 = 0 ∧ ¬ cmR ww 1685024626 = 0))) else if dz = 79 then (∃ (s0 : Int) (v4 : Int), vz = [q2 0, q3 ww, q1 b, q1 v4] ∧ sz = [q1 s0] ∧ wz = [.inr (12, [q1 mco, q2 1, q2 4, q2 5, q2 6, q2 7, q2 8, q2 9, q2 10, q2 11, q1 mre, q1 mle, q1 mbe, q1 mso, q1 mva, q3 mwo, q1 mwr, q1 mlf, q1 mlp, q2 3, q2 2, q1 mfp, q1 mfd, q1 mgo, q1 mbo, q1 mpe, q1 mye, q2 12, q1 mpr, q2 13, q2 14, q2 15, q2 16, q1 mld, q2 17, q1 msi, q2 18, q2 19, q2 20, q2 21, q2 22, q1 mse, q2 23, q2 24, q2 25]), .inl (1, 2400, .inl tp), .inl (0, 4, .inl re), .inl (0, 161, .inl td)] ∧ mz = 3 ∧ ((v4 = 0 ∧ cmR ww 123581014175598 = 0 ∨ v4 = 3 ∧ ¬ cmR ww 123581014175598 = 0 ∧ cmR ww 1685024626 = 0 ∨ v4 = 4 ∧ ¬ cmR ww 123581014175598 = 0 ∧ ¬ cmR ww 1685024626 = 0)) ∧ ((s0 = 8 ∧ cmR ww 123581014175598 = 0 ∨ s0 = 6 ∧ ¬ cmR ww 123581014175598 = 0 ∧ cmR ww 1685024626 = 0 ∨ s0 = 6 ∧ ¬ cmR ww 123581014175598 = 0 ∧ ¬ cmR ww 1685024626 = 0))) else if dz = 124 then (∃ (y_mre : Int) (y_mbe : Int) (y_mso : Int) (y_mva : Int) (y_mwo : Int) (y_mlf : Int) (y_mlp : Int) (s0 : Int) (s1 : Int) (v5 : Int), vz = [q1 v5] ∧ sz = [q1 s0, q1 s1, q2 0] ∧ wz = [.inr (12, [q1 mco, q2 1, q2 4, q2 5, q2 6, q2 7, q2 8, q2 9, q2 10, q2 11, q1 y_mre, q1 mle, q1 y_mbe, q1 y_mso, q1 y_mva, q3 y_mwo, q1 mwr, q1 y_mlf, q1 y_mlp, q2 3, q2 2, q1 mfp, q1 mfd, q1 mgo, q1 mbo, q1 mpe, q1 mye, q2 12, q1 mpr, q2 13, q2 14, q2 15, q2 16, q1 mld, q2 17, q1 msi, q2 18, q2 19, q2 20, q2 21, q2 22, q1 mse, q2 23, q2 24, q2 25]), .inl (1, 2400, .inl tp), .inl (0, 4, .inl re), .inl (0, 161, .inl td)] ∧ mz = 2 ∧ (mre ≤ y_mre ∧ y_mre ≤ mle ∧ (y_mso = 0 ∨ mre < y_mre)) ∧ ((s1 = 0 ∧ s0 = 5 ∧ v5 = 8) ∨ (s1 = 3 ∧ s0 = 25 ∧ v5 = 6) ∨ (s1 = 4 ∧ s0 = 37 ∧ v5 = 6))) else if dz = 183 then (∃ (u9 : Unit), vz = [q2 0, q3 ww] ∧ sz = [] ∧ wz = [.inr (12, [q1 mco, q2 1, q2 4, q2 5, q2 6, q2 7, q2 8, q2 9, q2 10, q2 11, q1 mre, q1 mle, q1 mbe, q1 mso, q1 mva, q3 mwo, q1 mwr, q1 mlf, q1 mlp, q2 3, q2 2, q1 mfp, q1 mfd, q1 mgo, q1 mbo, q1 mpe, q1 mye, q2 12, q1 mpr, q2 13, q2 14, q2 15, q2 16, q1 mld, q2 17, q1 msi, q2 18, q2 19, q2 20, q2 21, q2 22, q1 mse, q2 23, q2 24, q2 25]), .inl (1, 2400, .inl tp), .inl (0, 4, .inl re), .inl (0, 161, .inl td)] ∧ mz = 1) else False
set_option maxHeartbeats 4000000 in
set_option maxRecDepth 100000 in
theorem m_X12_boroughLine (l : Launch) : q_M l yX12_boroughLine cX12_boroughLine 6 (some .boolean) 5 114 sp_X12_boroughLine := by
  refine q_meth (by decide) (fun av w Q h => by obtain ⟨mco, mre, mle, mbe, mso, mva, mwo, mwr, mlf, mlp, mfp, mfd, mgo, mbo, mpe, mye, mpr, mld, msi, mse, tp, re, td, ww, b, rfl, rfl, htp, hbt, hQ⟩ := h; exact Nat.le_of_ble_eq_true rfl) ?_
  intro p e R s m args below meth c dC dI k g A av w Q hsp oka okw X
  obtain ⟨mco, mre, mle, mbe, mso, mva, mwo, mwr, mlf, mlp, mfp, mfd, mgo, mbo, mpe, mye, mpr, mld, msi, mse, tp, re, td, ww, b, rfl, rfl, htp, hbt, hQ⟩ := hsp
  have o_b : -2147483648 ≤ b ∧ b ≤ 2147483647 := oka _ (List.mem_of_getElem? (i := 2) rfl)
  refine s_mono (s_X12_boroughLine_0 X (J := fun dz vz sz wz => ∃ mz, I_X12_boroughLine mco mre mle mbe mso mva mwo mwr mlf mlp mfp mfd mgo mbo mpe mye mpr mld msi mse tp re td ww b dz mz vz sz wz) (q_loopn (I_X12_boroughLine mco mre mle mbe mso mva mwo mwr mlf mlp mfp mfd mgo mbo mpe mye mpr mld msi mse tp re td ww b) (fun dz J => if dz = 24 then b_X12_boroughLine_24 J Q else if dz = 49 then b_X12_boroughLine_49 J Q else if dz = 79 then b_X12_boroughLine_79 J Q else if dz = 124 then b_X12_boroughLine_124 J Q else if dz = 183 then b_X12_boroughLine_183 J Q else q_F) ?hs ?hv)) ?_
  case hs =>
    intro d J hJ
    by_cases h24 : d = 24
    · subst h24; exact s_X12_boroughLine_24 X hJ
    by_cases h49 : d = 49
    · subst h49; exact s_X12_boroughLine_49 X hJ
    by_cases h79 : d = 79
    · subst h79; exact s_X12_boroughLine_79 X hJ
    by_cases h124 : d = 124
    · subst h124; exact s_X12_boroughLine_124 X hJ
    by_cases h183 : d = 183
    · subst h183; exact s_X12_boroughLine_183 X hJ
    simp only [h24, h49, h79, h124, h183, if_false]
    exact s_F
  case hv =>
    intro dz mz vz sz wz hI okv oks okw hlen
    by_cases h24 : dz = 24
    · subst h24
      obtain ⟨_, rfl, rfl, rfl, hn⟩ := hI
      intro z28 h28
      have r28 : z28 = cmR _ _ := h28
      apply And.intro
      · intro h29
        intro z40 h40
        have r40 : z40 = cmR _ _ := h40
        apply And.intro
        · intro h41
          exact ⟨_, ⟨_, rfl, rfl, rfl, rfl, (by first | omega | assumption | exact q_rg_up (by assumption) (by omega) | exact q_rg_up (q_rg_up (by assumption) (by omega)) (by omega) | exact q_rg_cpy (by assumption) (by assumption))⟩, by omega⟩
        · intro h41
          exact ⟨_, ⟨_, rfl, rfl, rfl, rfl, (by first | omega | assumption | exact q_rg_up (by assumption) (by omega) | exact q_rg_up (q_rg_up (by assumption) (by omega)) (by omega) | exact q_rg_cpy (by assumption) (by assumption))⟩, by omega⟩
      · intro h29
        exact ⟨_, ⟨_, rfl, rfl, rfl, rfl, (by first | omega | assumption | exact q_rg_up (by assumption) (by omega) | exact q_rg_up (q_rg_up (by assumption) (by omega)) (by omega) | exact q_rg_cpy (by assumption) (by assumption))⟩, by omega⟩
    by_cases h49 : dz = 49
    · subst h49
      obtain ⟨s0, rfl, rfl, rfl, hn, hs⟩ := hI
      intro z55 h55
      have r55 : z55 = cmR _ _ := h55
      apply And.intro
      · intro h56
        intro z68 h68
        have r68 : z68 = cmR _ _ := h68
        apply And.intro
        · intro h69
          exact ⟨_, ⟨_, _, rfl, rfl, rfl, rfl, (by first | omega | assumption | exact q_rg_up (by assumption) (by omega) | exact q_rg_up (q_rg_up (by assumption) (by omega)) (by omega) | exact q_rg_cpy (by assumption) (by assumption)), (by first | omega | assumption | exact q_rg_up (by assumption) (by omega) | exact q_rg_up (q_rg_up (by assumption) (by omega)) (by omega) | exact q_rg_cpy (by assumption) (by assumption))⟩, by omega⟩
        · intro h69
          exact ⟨_, ⟨_, _, rfl, rfl, rfl, rfl, (by first | omega | assumption | exact q_rg_up (by assumption) (by omega) | exact q_rg_up (q_rg_up (by assumption) (by omega)) (by omega) | exact q_rg_cpy (by assumption) (by assumption)), (by first | omega | assumption | exact q_rg_up (by assumption) (by omega) | exact q_rg_up (q_rg_up (by assumption) (by omega)) (by omega) | exact q_rg_cpy (by assumption) (by assumption))⟩, by omega⟩
      · intro h56
        exact ⟨_, ⟨_, _, rfl, rfl, rfl, rfl, (by first | omega | assumption | exact q_rg_up (by assumption) (by omega) | exact q_rg_up (q_rg_up (by assumption) (by omega)) (by omega) | exact q_rg_cpy (by assumption) (by assumption)), (by first | omega | assumption | exact q_rg_up (by assumption) (by omega) | exact q_rg_up (q_rg_up (by assumption) (by omega)) (by omega) | exact q_rg_cpy (by assumption) (by assumption))⟩, by omega⟩
    by_cases h79 : dz = 79
    · subst h79
      obtain ⟨s0, v4, rfl, rfl, rfl, hn, hs, ht⟩ := hI
      refine Exists.intro [0, 3, 1, 4, 5, 6, 7, 8, 9, 10, 11, 2, 12, 13, 14, 15, 16, 17, 18, 19, 20, 21, 22, 23, 24, 25] (Exists.intro [q2 0, q1 _, q1 _, q1 _] (Exists.intro ([.inr (12, [q1 _, q2 2, q2 3, q2 4, q2 5, q2 6, q2 7, q2 8, q2 9, q2 10, q1 _, q1 _, q1 _, q1 _, q1 _, q3 _, q1 _, q1 _, q1 _, q2 1, q2 11, q1 _, q1 _, q1 _, q1 _, q1 _, q1 _, q2 12, q1 _, q2 13, q2 14, q2 15, q2 16, q1 _, q2 17, q1 _, q2 18, q2 19, q2 20, q2 21, q2 22, q1 _, q2 23, q2 24, q2 25]), .inl (0, 161, .inl _)]) (And.intro rfl (And.intro rfl (And.intro rfl (And.intro ⟨⟨_, rfl⟩, rfl⟩ ?_))))))
      refine Exists.intro _ (Exists.intro _ (Exists.intro _ (Exists.intro _ (Exists.intro _ (Exists.intro _ (Exists.intro _ (Exists.intro _ (Exists.intro _ (Exists.intro _ (Exists.intro _ (Exists.intro _ (Exists.intro _ (Exists.intro _ (Exists.intro _ (Exists.intro _ (Exists.intro _ (Exists.intro _ (Exists.intro _ (Exists.intro _ (Exists.intro _ (Exists.intro _ (Exists.intro _ (Exists.intro _ (And.intro rfl (And.intro rfl (And.intro (by first | omega | assumption | exact q_rg_up (by assumption) (by omega) | exact q_rg_up (q_rg_up (by assumption) (by omega)) (by omega) | exact q_rg_cpy (by assumption) (by assumption)) (?_)))))))))))))))))))))))))))
      intro x_mlf_87 x_mlp_87
      refine Exists.intro [0, 1, 4, 5, 6, 7, 8, 9, 10, 11, 3, 2, 12, 13, 14, 15, 16, 17, 18, 19, 20, 21, 22, 23, 24, 25] (Exists.intro [q2 0] (Exists.intro ([.inr (12, [q1 _, q2 1, q2 2, q2 3, q2 4, q2 5, q2 6, q2 7, q2 8, q2 9, q1 _, q1 _, q1 _, q1 _, q1 _, q3 _, q1 _, q1 _, q1 _, q2 10, q2 11, q1 _, q1 _, q1 _, q1 _, q1 _, q1 _, q2 12, q1 _, q2 13, q2 14, q2 15, q2 16, q1 _, q2 17, q1 _, q2 18, q2 19, q2 20, q2 21, q2 22, q1 _, q2 23, q2 24, q2 25]), .inl (1, 2400, .inl _)]) (And.intro rfl (And.intro rfl (And.intro rfl (And.intro ⟨⟨_, rfl⟩, rfl⟩ ?_))))))
      refine Exists.intro _ (Exists.intro _ (Exists.intro _ (Exists.intro _ (Exists.intro _ (Exists.intro _ (Exists.intro _ (Exists.intro _ (Exists.intro _ (Exists.intro _ (Exists.intro _ (Exists.intro _ (Exists.intro _ (Exists.intro _ (Exists.intro _ (Exists.intro _ (Exists.intro _ (Exists.intro _ (Exists.intro _ (Exists.intro _ (Exists.intro _ (And.intro rfl (And.intro rfl (And.intro (by first | omega | assumption | exact q_rg_up (by assumption) (by omega) | exact q_rg_up (q_rg_up (by assumption) (by omega)) (by omega) | exact q_rg_cpy (by assumption) (by assumption)) (?_))))))))))))))))))))))))
      intro x_mre_91 x_mbe_91 x_mso_91 x_mva_91 x_mwo_91 h91
      intro z101 h101
      have r101 : z101 = cmR _ _ := h101
      apply And.intro
      · intro h102
        intro z113 h113
        have r113 : z113 = cmR _ _ := h113
        apply And.intro
        · intro h114
          exact ⟨_, ⟨_, _, _, _, _, _, _, _, _, _, rfl, rfl, rfl, rfl, (by first | omega | assumption | exact q_rg_up (by assumption) (by omega) | exact q_rg_up (q_rg_up (by assumption) (by omega)) (by omega) | exact q_rg_cpy (by assumption) (by assumption)), (by first | omega | assumption | exact q_rg_up (by assumption) (by omega) | exact q_rg_up (q_rg_up (by assumption) (by omega)) (by omega) | exact q_rg_cpy (by assumption) (by assumption))⟩, by omega⟩
        · intro h114
          exact ⟨_, ⟨_, _, _, _, _, _, _, _, _, _, rfl, rfl, rfl, rfl, (by first | omega | assumption | exact q_rg_up (by assumption) (by omega) | exact q_rg_up (q_rg_up (by assumption) (by omega)) (by omega) | exact q_rg_cpy (by assumption) (by assumption)), (by first | omega | assumption | exact q_rg_up (by assumption) (by omega) | exact q_rg_up (q_rg_up (by assumption) (by omega)) (by omega) | exact q_rg_cpy (by assumption) (by assumption))⟩, by omega⟩
      · intro h102
        exact ⟨_, ⟨_, _, _, _, _, _, _, _, _, _, rfl, rfl, rfl, rfl, (by first | omega | assumption | exact q_rg_up (by assumption) (by omega) | exact q_rg_up (q_rg_up (by assumption) (by omega)) (by omega) | exact q_rg_cpy (by assumption) (by assumption)), (by first | omega | assumption | exact q_rg_up (by assumption) (by omega) | exact q_rg_up (q_rg_up (by assumption) (by omega)) (by omega) | exact q_rg_cpy (by assumption) (by assumption))⟩, by omega⟩
    by_cases h124 : dz = 124
    · subst h124
      obtain ⟨y_mre, y_mbe, y_mso, y_mva, y_mwo, y_mlf, y_mlp, s0, s1, v5, rfl, rfl, rfl, hn, hk, hs⟩ := hI
      refine Exists.intro [0, 1, 2, 3, 4, 5, 6, 7, 8, 9, 10, 11, 12, 13, 14, 15, 16, 17, 18, 19, 20, 21, 22, 23, 24, 25] (Exists.intro [q2 0, q1 _, q1 _, q1 _] (Exists.intro ([.inr (12, [q1 _, q2 1, q2 4, q2 5, q2 6, q2 7, q2 8, q2 9, q2 10, q2 11, q1 _, q1 _, q1 _, q1 _, q1 _, q3 _, q1 _, q1 _, q1 _, q2 3, q2 2, q1 _, q1 _, q1 _, q1 _, q1 _, q1 _, q2 12, q1 _, q2 13, q2 14, q2 15, q2 16, q1 _, q2 17, q1 _, q2 18, q2 19, q2 20, q2 21, q2 22, q1 _, q2 23, q2 24, q2 25]), .inl (1, 2400, .inl _), .inl (0, 4, .inl _), .inl (0, 161, .inl _)]) (And.intro rfl (And.intro rfl (And.intro rfl (And.intro ⟨⟨_, rfl⟩, rfl⟩ ?_))))))
      refine Exists.intro _ (Exists.intro _ (Exists.intro _ (Exists.intro _ (Exists.intro _ (Exists.intro _ (Exists.intro _ (Exists.intro _ (Exists.intro _ (Exists.intro _ (Exists.intro _ (Exists.intro _ (Exists.intro _ (Exists.intro _ (Exists.intro _ (Exists.intro _ (Exists.intro _ (Exists.intro _ (Exists.intro _ (Exists.intro _ (Exists.intro _ (Exists.intro _ (Exists.intro _ (Exists.intro _ (Exists.intro _ (Exists.intro _ (And.intro rfl (And.intro rfl (And.intro (by first | omega | assumption | exact q_rg_up (by assumption) (by omega) | exact q_rg_up (q_rg_up (by assumption) (by omega)) (by omega) | exact q_rg_cpy (by assumption) (by assumption)) (And.intro (by first | omega | assumption | exact q_rg_up (by assumption) (by omega) | exact q_rg_up (q_rg_up (by assumption) (by omega)) (by omega) | exact q_rg_cpy (by assumption) (by assumption)) (And.intro (by first | omega | assumption | exact q_rg_up (by assumption) (by omega) | exact q_rg_up (q_rg_up (by assumption) (by omega)) (by omega) | exact q_rg_cpy (by assumption) (by assumption)) (?_)))))))))))))))))))))))))))))))
      intro z126 x_mre_126 x_mbe_126 x_mso_126 x_mva_126 x_mwo_126 x_mwr_126 x_mlf_126 x_mlp_126 x_mgo_126 x_re_126 x_td_126 h126
      apply And.intro
      · first | exact Or.inl rfl | exact Or.inr rfl | omega
      exact hQ _ _ _ _ _ _ _ _ _ _ _ _ _ _ ⟨by omega, by omega, by omega, (by first | assumption | exact h126.2.2.2 | exact h212.2.2.2 | exact h219.2.2.2 | exact h232.2.2.2 | exact h247.2.2.2 | exact h262.2.2.2 | exact h269.2.2.2)⟩
    by_cases h183 : dz = 183
    · subst h183
      obtain ⟨_, rfl, rfl, rfl, hn⟩ := hI
      refine Exists.intro [0, 1, 4, 5, 6, 7, 8, 9, 10, 11, 3, 2, 12, 13, 14, 15, 16, 17, 18, 19, 20, 21, 22, 23, 24, 25] (Exists.intro [q2 0] (Exists.intro ([.inr (12, [q1 _, q2 1, q2 2, q2 3, q2 4, q2 5, q2 6, q2 7, q2 8, q2 9, q1 _, q1 _, q1 _, q1 _, q1 _, q3 _, q1 _, q1 _, q1 _, q2 10, q2 11, q1 _, q1 _, q1 _, q1 _, q1 _, q1 _, q2 12, q1 _, q2 13, q2 14, q2 15, q2 16, q1 _, q2 17, q1 _, q2 18, q2 19, q2 20, q2 21, q2 22, q1 _, q2 23, q2 24, q2 25]), .inl (1, 2400, .inl _)]) (And.intro rfl (And.intro rfl (And.intro rfl (And.intro ⟨⟨_, rfl⟩, rfl⟩ ?_))))))
      refine Exists.intro _ (Exists.intro _ (Exists.intro _ (Exists.intro _ (Exists.intro _ (Exists.intro _ (Exists.intro _ (Exists.intro _ (Exists.intro _ (Exists.intro _ (Exists.intro _ (Exists.intro _ (Exists.intro _ (Exists.intro _ (Exists.intro _ (Exists.intro _ (Exists.intro _ (Exists.intro _ (Exists.intro _ (Exists.intro _ (Exists.intro _ (And.intro rfl (And.intro rfl (And.intro (by first | omega | assumption | exact q_rg_up (by assumption) (by omega) | exact q_rg_up (q_rg_up (by assumption) (by omega)) (by omega) | exact q_rg_cpy (by assumption) (by assumption)) (?_))))))))))))))))))))))))
      intro x_mre_184 x_mbe_184 x_mso_184 x_mva_184 x_mwo_184 h184
      intro z191 h191
      have r191 : z191 = cmR _ _ := h191
      apply And.intro
      · intro h192
        intro z207 h207
        have r207 : z207 = cmR _ _ := h207
        apply And.intro
        · intro h208
          refine Exists.intro [0, 1, 2, 3, 4, 5, 6, 7, 8, 9, 10, 11, 12, 13, 14, 15, 16, 17, 18, 19, 20, 21, 22, 23, 24, 25] (Exists.intro [q2 0] (Exists.intro ([.inr (12, [q1 _, q2 1, q2 4, q2 5, q2 6, q2 7, q2 8, q2 9, q2 10, q2 11, q1 _, q1 _, q1 _, q1 _, q1 _, q3 _, q1 _, q1 _, q1 _, q2 3, q2 2, q1 _, q1 _, q1 _, q1 _, q1 _, q1 _, q2 12, q1 _, q2 13, q2 14, q2 15, q2 16, q1 _, q2 17, q1 _, q2 18, q2 19, q2 20, q2 21, q2 22, q1 _, q2 23, q2 24, q2 25]), .inl (1, 2400, .inl _), .inl (0, 4, .inl _), .inl (0, 161, .inl _)]) (And.intro rfl (And.intro rfl (And.intro rfl (And.intro ⟨⟨_, rfl⟩, rfl⟩ ?_))))))
          refine Exists.intro _ (Exists.intro _ (Exists.intro _ (Exists.intro _ (Exists.intro _ (Exists.intro _ (Exists.intro _ (Exists.intro _ (Exists.intro _ (Exists.intro _ (Exists.intro _ (Exists.intro _ (Exists.intro _ (Exists.intro _ (Exists.intro _ (Exists.intro _ (Exists.intro _ (Exists.intro _ (Exists.intro _ (Exists.intro _ (Exists.intro _ (Exists.intro _ (Exists.intro _ (And.intro rfl (And.intro rfl (And.intro (by first | omega | assumption | exact q_rg_up (by assumption) (by omega) | exact q_rg_up (q_rg_up (by assumption) (by omega)) (by omega) | exact q_rg_cpy (by assumption) (by assumption)) (And.intro (by first | omega | assumption | exact q_rg_up (by assumption) (by omega) | exact q_rg_up (q_rg_up (by assumption) (by omega)) (by omega) | exact q_rg_cpy (by assumption) (by assumption)) (?_)))))))))))))))))))))))))))
          intro z219 x_mre_219 x_mbe_219 x_mso_219 x_mva_219 x_mwo_219 x_mwr_219 x_mlf_219 x_mlp_219 x_mgo_219 x_re_219 x_td_219 h219
          apply And.intro
          · first | exact Or.inl rfl | exact Or.inr rfl | omega
          exact hQ _ _ _ _ _ _ _ _ _ _ _ _ _ _ ⟨by omega, by omega, by omega, (by first | assumption | exact h126.2.2.2 | exact h212.2.2.2 | exact h219.2.2.2 | exact h232.2.2.2 | exact h247.2.2.2 | exact h262.2.2.2 | exact h269.2.2.2)⟩
        · intro h208
          refine Exists.intro [0, 1, 2, 3, 4, 5, 6, 7, 8, 9, 10, 11, 12, 13, 14, 15, 16, 17, 18, 19, 20, 21, 22, 23, 24, 25] (Exists.intro [q2 0] (Exists.intro ([.inr (12, [q1 _, q2 1, q2 4, q2 5, q2 6, q2 7, q2 8, q2 9, q2 10, q2 11, q1 _, q1 _, q1 _, q1 _, q1 _, q3 _, q1 _, q1 _, q1 _, q2 3, q2 2, q1 _, q1 _, q1 _, q1 _, q1 _, q1 _, q2 12, q1 _, q2 13, q2 14, q2 15, q2 16, q1 _, q2 17, q1 _, q2 18, q2 19, q2 20, q2 21, q2 22, q1 _, q2 23, q2 24, q2 25]), .inl (1, 2400, .inl _), .inl (0, 4, .inl _), .inl (0, 161, .inl _)]) (And.intro rfl (And.intro rfl (And.intro rfl (And.intro ⟨⟨_, rfl⟩, rfl⟩ ?_))))))
          refine Exists.intro _ (Exists.intro _ (Exists.intro _ (Exists.intro _ (Exists.intro _ (Exists.intro _ (Exists.intro _ (Exists.intro _ (Exists.intro _ (Exists.intro _ (Exists.intro _ (Exists.intro _ (Exists.intro _ (Exists.intro _ (Exists.intro _ (Exists.intro _ (Exists.intro _ (Exists.intro _ (Exists.intro _ (Exists.intro _ (Exists.intro _ (Exists.intro _ (Exists.intro _ (And.intro rfl (And.intro rfl (And.intro (by first | omega | assumption | exact q_rg_up (by assumption) (by omega) | exact q_rg_up (q_rg_up (by assumption) (by omega)) (by omega) | exact q_rg_cpy (by assumption) (by assumption)) (And.intro (by first | omega | assumption | exact q_rg_up (by assumption) (by omega) | exact q_rg_up (q_rg_up (by assumption) (by omega)) (by omega) | exact q_rg_cpy (by assumption) (by assumption)) (?_)))))))))))))))))))))))))))
          intro z212 x_mre_212 x_mbe_212 x_mso_212 x_mva_212 x_mwo_212 x_mwr_212 x_mlf_212 x_mlp_212 x_mgo_212 x_mfp_212 x_re_212 x_td_212 h212
          apply And.intro
          · first | exact Or.inl rfl | exact Or.inr rfl | omega
          exact hQ _ _ _ _ _ _ _ _ _ _ _ _ _ _ ⟨by omega, by omega, by omega, (by first | assumption | exact h126.2.2.2 | exact h212.2.2.2 | exact h219.2.2.2 | exact h232.2.2.2 | exact h247.2.2.2 | exact h262.2.2.2 | exact h269.2.2.2)⟩
      · intro h192
        intro z199 h199
        have r199 : z199 = cmR _ _ := h199
        apply And.intro
        · intro h200
          intro z227 h227
          have r227 : z227 = cmR _ _ := h227
          apply And.intro
          · intro h228
            intro z242 h242
            have r242 : z242 = cmR _ _ := h242
            apply And.intro
            · intro h243
              intro z257 h257
              have r257 : z257 = cmR _ _ := h257
              apply And.intro
              · intro h258
                refine Exists.intro [0, 1, 2, 3, 4, 5, 6, 7, 8, 9, 10, 11, 12, 13, 14, 15, 16, 17, 18, 19, 20, 21, 22, 23, 24, 25] (Exists.intro [q2 0] (Exists.intro ([.inr (12, [q1 _, q2 1, q2 4, q2 5, q2 6, q2 7, q2 8, q2 9, q2 10, q2 11, q1 _, q1 _, q1 _, q1 _, q1 _, q3 _, q1 _, q1 _, q1 _, q2 3, q2 2, q1 _, q1 _, q1 _, q1 _, q1 _, q1 _, q2 12, q1 _, q2 13, q2 14, q2 15, q2 16, q1 _, q2 17, q1 _, q2 18, q2 19, q2 20, q2 21, q2 22, q1 _, q2 23, q2 24, q2 25]), .inl (1, 2400, .inl _), .inl (0, 4, .inl _), .inl (0, 161, .inl _)]) (And.intro rfl (And.intro rfl (And.intro rfl (And.intro ⟨⟨_, rfl⟩, rfl⟩ ?_))))))
                refine Exists.intro _ (Exists.intro _ (Exists.intro _ (Exists.intro _ (Exists.intro _ (Exists.intro _ (Exists.intro _ (Exists.intro _ (Exists.intro _ (Exists.intro _ (Exists.intro _ (Exists.intro _ (Exists.intro _ (Exists.intro _ (Exists.intro _ (Exists.intro _ (Exists.intro _ (Exists.intro _ (Exists.intro _ (Exists.intro _ (Exists.intro _ (Exists.intro _ (Exists.intro _ (And.intro rfl (And.intro rfl (And.intro (by first | omega | assumption | exact q_rg_up (by assumption) (by omega) | exact q_rg_up (q_rg_up (by assumption) (by omega)) (by omega) | exact q_rg_cpy (by assumption) (by assumption)) (And.intro (by first | omega | assumption | exact q_rg_up (by assumption) (by omega) | exact q_rg_up (q_rg_up (by assumption) (by omega)) (by omega) | exact q_rg_cpy (by assumption) (by assumption)) (?_)))))))))))))))))))))))))))
                intro z269 x_mre_269 x_mbe_269 x_mso_269 x_mva_269 x_mwo_269 x_mwr_269 x_mlf_269 x_mlp_269 x_mgo_269 x_mfp_269 x_re_269 x_td_269 h269
                apply And.intro
                · first | exact Or.inl rfl | exact Or.inr rfl | omega
                exact hQ _ _ _ _ _ _ _ _ _ _ _ _ _ _ ⟨by omega, by omega, by omega, (by first | assumption | exact h126.2.2.2 | exact h212.2.2.2 | exact h219.2.2.2 | exact h232.2.2.2 | exact h247.2.2.2 | exact h262.2.2.2 | exact h269.2.2.2)⟩
              · intro h258
                refine Exists.intro [0, 1, 2, 3, 4, 5, 6, 7, 8, 9, 10, 11, 12, 13, 14, 15, 16, 17, 18, 19, 20, 21, 22, 23, 24, 25] (Exists.intro [q2 0] (Exists.intro ([.inr (12, [q1 _, q2 1, q2 4, q2 5, q2 6, q2 7, q2 8, q2 9, q2 10, q2 11, q1 _, q1 _, q1 _, q1 _, q1 _, q3 _, q1 _, q1 _, q1 _, q2 3, q2 2, q1 _, q1 _, q1 _, q1 _, q1 _, q1 _, q2 12, q1 _, q2 13, q2 14, q2 15, q2 16, q1 _, q2 17, q1 _, q2 18, q2 19, q2 20, q2 21, q2 22, q1 _, q2 23, q2 24, q2 25]), .inl (1, 2400, .inl _), .inl (0, 4, .inl _), .inl (0, 161, .inl _)]) (And.intro rfl (And.intro rfl (And.intro rfl (And.intro ⟨⟨_, rfl⟩, rfl⟩ ?_))))))
                refine Exists.intro _ (Exists.intro _ (Exists.intro _ (Exists.intro _ (Exists.intro _ (Exists.intro _ (Exists.intro _ (Exists.intro _ (Exists.intro _ (Exists.intro _ (Exists.intro _ (Exists.intro _ (Exists.intro _ (Exists.intro _ (Exists.intro _ (Exists.intro _ (Exists.intro _ (Exists.intro _ (Exists.intro _ (Exists.intro _ (Exists.intro _ (Exists.intro _ (Exists.intro _ (And.intro rfl (And.intro rfl (And.intro (by first | omega | assumption | exact q_rg_up (by assumption) (by omega) | exact q_rg_up (q_rg_up (by assumption) (by omega)) (by omega) | exact q_rg_cpy (by assumption) (by assumption)) (And.intro (by first | omega | assumption | exact q_rg_up (by assumption) (by omega) | exact q_rg_up (q_rg_up (by assumption) (by omega)) (by omega) | exact q_rg_cpy (by assumption) (by assumption)) (?_)))))))))))))))))))))))))))
                intro z262 x_mre_262 x_mbe_262 x_mso_262 x_mva_262 x_mwo_262 x_mwr_262 x_mlf_262 x_mlp_262 x_mgo_262 x_re_262 x_td_262 h262
                apply And.intro
                · first | exact Or.inl rfl | exact Or.inr rfl | omega
                exact hQ _ _ _ _ _ _ _ _ _ _ _ _ _ _ ⟨by omega, by omega, by omega, (by first | assumption | exact h126.2.2.2 | exact h212.2.2.2 | exact h219.2.2.2 | exact h232.2.2.2 | exact h247.2.2.2 | exact h262.2.2.2 | exact h269.2.2.2)⟩
            · intro h243
              refine Exists.intro [0, 1, 2, 3, 4, 5, 6, 7, 8, 9, 10, 11, 12, 13, 14, 15, 16, 17, 18, 19, 20, 21, 22, 23, 24, 25] (Exists.intro [q2 0] (Exists.intro ([.inr (12, [q1 _, q2 1, q2 4, q2 5, q2 6, q2 7, q2 8, q2 9, q2 10, q2 11, q1 _, q1 _, q1 _, q1 _, q1 _, q3 _, q1 _, q1 _, q1 _, q2 3, q2 2, q1 _, q1 _, q1 _, q1 _, q1 _, q1 _, q2 12, q1 _, q2 13, q2 14, q2 15, q2 16, q1 _, q2 17, q1 _, q2 18, q2 19, q2 20, q2 21, q2 22, q1 _, q2 23, q2 24, q2 25]), .inl (1, 2400, .inl _), .inl (0, 4, .inl _), .inl (0, 161, .inl _)]) (And.intro rfl (And.intro rfl (And.intro rfl (And.intro ⟨⟨_, rfl⟩, rfl⟩ ?_))))))
              refine Exists.intro _ (Exists.intro _ (Exists.intro _ (Exists.intro _ (Exists.intro _ (Exists.intro _ (Exists.intro _ (Exists.intro _ (Exists.intro _ (Exists.intro _ (Exists.intro _ (Exists.intro _ (Exists.intro _ (Exists.intro _ (Exists.intro _ (Exists.intro _ (Exists.intro _ (Exists.intro _ (Exists.intro _ (Exists.intro _ (Exists.intro _ (Exists.intro _ (Exists.intro _ (And.intro rfl (And.intro rfl (And.intro (by first | omega | assumption | exact q_rg_up (by assumption) (by omega) | exact q_rg_up (q_rg_up (by assumption) (by omega)) (by omega) | exact q_rg_cpy (by assumption) (by assumption)) (And.intro (by first | omega | assumption | exact q_rg_up (by assumption) (by omega) | exact q_rg_up (q_rg_up (by assumption) (by omega)) (by omega) | exact q_rg_cpy (by assumption) (by assumption)) (?_)))))))))))))))))))))))))))
              intro z247 x_mre_247 x_mbe_247 x_mso_247 x_mva_247 x_mwo_247 x_mwr_247 x_mlf_247 x_mlp_247 x_mgo_247 x_mfp_247 x_mfd_247 x_re_247 x_td_247 h247
              apply And.intro
              · first | exact Or.inl rfl | exact Or.inr rfl | omega
              exact hQ _ _ _ _ _ _ _ _ _ _ _ _ _ _ ⟨by omega, by omega, by omega, (by first | assumption | exact h126.2.2.2 | exact h212.2.2.2 | exact h219.2.2.2 | exact h232.2.2.2 | exact h247.2.2.2 | exact h262.2.2.2 | exact h269.2.2.2)⟩
          · intro h228
            refine Exists.intro [0, 1, 2, 3, 4, 5, 6, 7, 8, 9, 10, 11, 12, 13, 14, 15, 16, 17, 18, 19, 20, 21, 22, 23, 24, 25] (Exists.intro [q2 0] (Exists.intro ([.inr (12, [q1 _, q2 1, q2 4, q2 5, q2 6, q2 7, q2 8, q2 9, q2 10, q2 11, q1 _, q1 _, q1 _, q1 _, q1 _, q3 _, q1 _, q1 _, q1 _, q2 3, q2 2, q1 _, q1 _, q1 _, q1 _, q1 _, q1 _, q2 12, q1 _, q2 13, q2 14, q2 15, q2 16, q1 _, q2 17, q1 _, q2 18, q2 19, q2 20, q2 21, q2 22, q1 _, q2 23, q2 24, q2 25]), .inl (1, 2400, .inl _), .inl (0, 4, .inl _), .inl (0, 161, .inl _)]) (And.intro rfl (And.intro rfl (And.intro rfl (And.intro ⟨⟨_, rfl⟩, rfl⟩ ?_))))))
            refine Exists.intro _ (Exists.intro _ (Exists.intro _ (Exists.intro _ (Exists.intro _ (Exists.intro _ (Exists.intro _ (Exists.intro _ (Exists.intro _ (Exists.intro _ (Exists.intro _ (Exists.intro _ (Exists.intro _ (Exists.intro _ (Exists.intro _ (Exists.intro _ (Exists.intro _ (Exists.intro _ (Exists.intro _ (Exists.intro _ (Exists.intro _ (Exists.intro _ (Exists.intro _ (And.intro rfl (And.intro rfl (And.intro (by first | omega | assumption | exact q_rg_up (by assumption) (by omega) | exact q_rg_up (q_rg_up (by assumption) (by omega)) (by omega) | exact q_rg_cpy (by assumption) (by assumption)) (And.intro (by first | omega | assumption | exact q_rg_up (by assumption) (by omega) | exact q_rg_up (q_rg_up (by assumption) (by omega)) (by omega) | exact q_rg_cpy (by assumption) (by assumption)) (?_)))))))))))))))))))))))))))
            intro z232 x_mre_232 x_mbe_232 x_mso_232 x_mva_232 x_mwo_232 x_mwr_232 x_mlf_232 x_mlp_232 x_mgo_232 x_mfp_232 x_re_232 x_td_232 h232
            apply And.intro
            · first | exact Or.inl rfl | exact Or.inr rfl | omega
            exact hQ _ _ _ _ _ _ _ _ _ _ _ _ _ _ ⟨by omega, by omega, by omega, (by first | assumption | exact h126.2.2.2 | exact h212.2.2.2 | exact h219.2.2.2 | exact h232.2.2.2 | exact h247.2.2.2 | exact h262.2.2.2 | exact h269.2.2.2)⟩
        · intro h200
          intro z207 h207
          have r207 : z207 = cmR _ _ := h207
          apply And.intro
          · intro h208
            refine Exists.intro [0, 1, 2, 3, 4, 5, 6, 7, 8, 9, 10, 11, 12, 13, 14, 15, 16, 17, 18, 19, 20, 21, 22, 23, 24, 25] (Exists.intro [q2 0] (Exists.intro ([.inr (12, [q1 _, q2 1, q2 4, q2 5, q2 6, q2 7, q2 8, q2 9, q2 10, q2 11, q1 _, q1 _, q1 _, q1 _, q1 _, q3 _, q1 _, q1 _, q1 _, q2 3, q2 2, q1 _, q1 _, q1 _, q1 _, q1 _, q1 _, q2 12, q1 _, q2 13, q2 14, q2 15, q2 16, q1 _, q2 17, q1 _, q2 18, q2 19, q2 20, q2 21, q2 22, q1 _, q2 23, q2 24, q2 25]), .inl (1, 2400, .inl _), .inl (0, 4, .inl _), .inl (0, 161, .inl _)]) (And.intro rfl (And.intro rfl (And.intro rfl (And.intro ⟨⟨_, rfl⟩, rfl⟩ ?_))))))
            refine Exists.intro _ (Exists.intro _ (Exists.intro _ (Exists.intro _ (Exists.intro _ (Exists.intro _ (Exists.intro _ (Exists.intro _ (Exists.intro _ (Exists.intro _ (Exists.intro _ (Exists.intro _ (Exists.intro _ (Exists.intro _ (Exists.intro _ (Exists.intro _ (Exists.intro _ (Exists.intro _ (Exists.intro _ (Exists.intro _ (Exists.intro _ (Exists.intro _ (Exists.intro _ (And.intro rfl (And.intro rfl (And.intro (by first | omega | assumption | exact q_rg_up (by assumption) (by omega) | exact q_rg_up (q_rg_up (by assumption) (by omega)) (by omega) | exact q_rg_cpy (by assumption) (by assumption)) (And.intro (by first | omega | assumption | exact q_rg_up (by assumption) (by omega) | exact q_rg_up (q_rg_up (by assumption) (by omega)) (by omega) | exact q_rg_cpy (by assumption) (by assumption)) (?_)))))))))))))))))))))))))))
            intro z219 x_mre_219 x_mbe_219 x_mso_219 x_mva_219 x_mwo_219 x_mwr_219 x_mlf_219 x_mlp_219 x_mgo_219 x_re_219 x_td_219 h219
            apply And.intro
            · first | exact Or.inl rfl | exact Or.inr rfl | omega
            exact hQ _ _ _ _ _ _ _ _ _ _ _ _ _ _ ⟨by omega, by omega, by omega, (by first | assumption | exact h126.2.2.2 | exact h212.2.2.2 | exact h219.2.2.2 | exact h232.2.2.2 | exact h247.2.2.2 | exact h262.2.2.2 | exact h269.2.2.2)⟩
          · intro h208
            refine Exists.intro [0, 1, 2, 3, 4, 5, 6, 7, 8, 9, 10, 11, 12, 13, 14, 15, 16, 17, 18, 19, 20, 21, 22, 23, 24, 25] (Exists.intro [q2 0] (Exists.intro ([.inr (12, [q1 _, q2 1, q2 4, q2 5, q2 6, q2 7, q2 8, q2 9, q2 10, q2 11, q1 _, q1 _, q1 _, q1 _, q1 _, q3 _, q1 _, q1 _, q1 _, q2 3, q2 2, q1 _, q1 _, q1 _, q1 _, q1 _, q1 _, q2 12, q1 _, q2 13, q2 14, q2 15, q2 16, q1 _, q2 17, q1 _, q2 18, q2 19, q2 20, q2 21, q2 22, q1 _, q2 23, q2 24, q2 25]), .inl (1, 2400, .inl _), .inl (0, 4, .inl _), .inl (0, 161, .inl _)]) (And.intro rfl (And.intro rfl (And.intro rfl (And.intro ⟨⟨_, rfl⟩, rfl⟩ ?_))))))
            refine Exists.intro _ (Exists.intro _ (Exists.intro _ (Exists.intro _ (Exists.intro _ (Exists.intro _ (Exists.intro _ (Exists.intro _ (Exists.intro _ (Exists.intro _ (Exists.intro _ (Exists.intro _ (Exists.intro _ (Exists.intro _ (Exists.intro _ (Exists.intro _ (Exists.intro _ (Exists.intro _ (Exists.intro _ (Exists.intro _ (Exists.intro _ (Exists.intro _ (Exists.intro _ (And.intro rfl (And.intro rfl (And.intro (by first | omega | assumption | exact q_rg_up (by assumption) (by omega) | exact q_rg_up (q_rg_up (by assumption) (by omega)) (by omega) | exact q_rg_cpy (by assumption) (by assumption)) (And.intro (by first | omega | assumption | exact q_rg_up (by assumption) (by omega) | exact q_rg_up (q_rg_up (by assumption) (by omega)) (by omega) | exact q_rg_cpy (by assumption) (by assumption)) (?_)))))))))))))))))))))))))))
            intro z212 x_mre_212 x_mbe_212 x_mso_212 x_mva_212 x_mwo_212 x_mwr_212 x_mlf_212 x_mlp_212 x_mgo_212 x_mfp_212 x_re_212 x_td_212 h212
            apply And.intro
            · first | exact Or.inl rfl | exact Or.inr rfl | omega
            exact hQ _ _ _ _ _ _ _ _ _ _ _ _ _ _ ⟨by omega, by omega, by omega, (by first | assumption | exact h126.2.2.2 | exact h212.2.2.2 | exact h219.2.2.2 | exact h232.2.2.2 | exact h247.2.2.2 | exact h262.2.2.2 | exact h269.2.2.2)⟩
    simp only [I_X12_boroughLine, h24, h49, h79, h124, h183, if_false] at hI
  rintro lv st w' ⟨rfl, rfl, rfl⟩
  intro z4 h4
  have r4 : z4 = cmR _ _ := h4
  apply And.intro
  · intro h5
    exact ⟨_, (), rfl, rfl, rfl, rfl⟩
  · intro h5
    intro z12 h12
    have r12 : z12 = cmR _ _ := h12
    apply And.intro
    · intro h13
      exact ⟨_, (), rfl, rfl, rfl, rfl⟩
    · intro h13
      intro z20 h20
      have r20 : z20 = cmR _ _ := h20
      apply And.intro
      · intro h21
        intro z134 h134
        have r134 : z134 = cmR _ _ := h134
        apply And.intro
        · intro h135
          exact ⟨_, (), rfl, rfl, rfl, rfl⟩
        · intro h135
          intro z142 h142
          have r142 : z142 = cmR _ _ := h142
          apply And.intro
          · intro h143
            exact ⟨_, (), rfl, rfl, rfl, rfl⟩
          · intro h143
            intro z150 h150
            have r150 : z150 = cmR _ _ := h150
            apply And.intro
            · intro h151
              exact ⟨_, (), rfl, rfl, rfl, rfl⟩
            · intro h151
              intro z158 h158
              have r158 : z158 = cmR _ _ := h158
              apply And.intro
              · intro h159
                exact ⟨_, (), rfl, rfl, rfl, rfl⟩
              · intro h159
                intro z166 h166
                have r166 : z166 = cmR _ _ := h166
                apply And.intro
                · intro h167
                  exact ⟨_, (), rfl, rfl, rfl, rfl⟩
                · intro h167
                  intro z174 h174
                  have r174 : z174 = cmR _ _ := h174
                  apply And.intro
                  · intro h175
                    exact ⟨_, (), rfl, rfl, rfl, rfl⟩
                  · intro h175
                    refine Exists.intro [0, 1, 4, 5, 6, 7, 8, 9, 10, 11, 3, 2, 12, 13, 14, 15, 16, 17, 18, 19, 20, 21, 22, 23, 24, 25] (Exists.intro [q2 0] (Exists.intro ([.inr (12, [q1 _, q2 1, q2 2, q2 3, q2 4, q2 5, q2 6, q2 7, q2 8, q2 9, q1 _, q1 _, q1 _, q1 _, q1 _, q3 _, q1 _, q1 _, q1 _, q2 10, q2 11, q1 _, q1 _, q1 _, q1 _, q1 _, q1 _, q2 12, q1 _, q2 13, q2 14, q2 15, q2 16, q1 _, q2 17, q1 _, q2 18, q2 19, q2 20, q2 21, q2 22, q1 _, q2 23, q2 24, q2 25])]) (And.intro rfl (And.intro rfl (And.intro rfl (And.intro ⟨⟨_, rfl⟩, rfl⟩ ?_))))))
                    refine Exists.intro _ (Exists.intro _ (Exists.intro _ (Exists.intro _ (Exists.intro _ (Exists.intro _ (Exists.intro _ (Exists.intro _ (Exists.intro _ (Exists.intro _ (Exists.intro _ (Exists.intro _ (Exists.intro _ (Exists.intro _ (Exists.intro _ (Exists.intro _ (Exists.intro _ (Exists.intro _ (Exists.intro _ (Exists.intro _ (And.intro rfl (And.intro rfl (?_))))))))))))))))))))))
                    intro z179 x_mwr_179 h179
                    apply And.intro
                    · first | exact Or.inl rfl | exact Or.inr rfl | omega
                    exact hQ _ _ _ _ _ _ _ _ _ _ _ _ _ _ ⟨by omega, by omega, by omega, (by first | assumption | exact h126.2.2.2 | exact h212.2.2.2 | exact h219.2.2.2 | exact h232.2.2.2 | exact h247.2.2.2 | exact h262.2.2.2 | exact h269.2.2.2)⟩
      · intro h21
        exact ⟨_, (), rfl, rfl, rfl, rfl⟩
