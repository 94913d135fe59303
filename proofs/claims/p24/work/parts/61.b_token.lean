theorem dX12_token_0 : decode cX12_token 0 = .ok (.aload_n 0, 1) := by decide +kernel
theorem dX12_token_1 : decode cX12_token 1 = .ok (.invokevirtual 114, 3) := by decide +kernel
theorem dX12_token_4 : decode cX12_token 4 = .ok (.bipush 10, 2) := by decide +kernel
theorem dX12_token_6 : decode cX12_token 6 = .ok (.if_icmp .eq 12, 3) := by decide +kernel
theorem dX12_token_9 : decode cX12_token 9 = .ok (.aload_n 0, 1) := by decide +kernel
theorem dX12_token_10 : decode cX12_token 10 = .ok (.invokevirtual 114, 3) := by decide +kernel
theorem dX12_token_13 : decode cX12_token 13 = .ok (.bipush 32, 2) := by decide +kernel
theorem dX12_token_15 : decode cX12_token 15 = .ok (.if_icmp .ne 16, 3) := by decide +kernel
theorem dX12_token_18 : decode cX12_token 18 = .ok (.aload_n 0, 1) := by decide +kernel
theorem dX12_token_19 : decode cX12_token 19 = .ok (.dup, 1) := by decide +kernel
theorem dX12_token_20 : decode cX12_token 20 = .ok (.getfield 108, 3) := by decide +kernel
theorem dX12_token_23 : decode cX12_token 23 = .ok (.iconst 1, 1) := by decide +kernel
theorem dX12_token_24 : decode cX12_token 24 = .ok (.iadd, 1) := by decide +kernel
theorem dX12_token_25 : decode cX12_token 25 = .ok (.putfield 108, 3) := by decide +kernel
theorem dX12_token_28 : decode cX12_token 28 = .ok (.goto (-28), 3) := by decide +kernel
theorem dX12_token_31 : decode cX12_token 31 = .ok (.aload_n 0, 1) := by decide +kernel
theorem dX12_token_32 : decode cX12_token 32 = .ok (.aload_n 0, 1) := by decide +kernel
theorem dX12_token_33 : decode cX12_token 33 = .ok (.getfield 108, 3) := by decide +kernel
theorem dX12_token_36 : decode cX12_token 36 = .ok (.putfield 118, 3) := by decide +kernel
theorem dX12_token_39 : decode cX12_token 39 = .ok (.aload_n 0, 1) := by decide +kernel
theorem dX12_token_40 : decode cX12_token 40 = .ok (.invokevirtual 114, 3) := by decide +kernel
theorem dX12_token_43 : decode cX12_token 43 = .ok (.istore_n 1, 1) := by decide +kernel
theorem dX12_token_44 : decode cX12_token 44 = .ok (.aload_n 0, 1) := by decide +kernel
theorem dX12_token_45 : decode cX12_token 45 = .ok (.lconst 0, 1) := by decide +kernel
theorem dX12_token_46 : decode cX12_token 46 = .ok (.putfield 121, 3) := by decide +kernel
theorem dX12_token_49 : decode cX12_token 49 = .ok (.iconst 0, 1) := by decide +kernel
theorem dX12_token_50 : decode cX12_token 50 = .ok (.istore_n 2, 1) := by decide +kernel
theorem dX12_token_51 : decode cX12_token 51 = .ok (.iload_n 1, 1) := by decide +kernel
theorem dX12_token_52 : decode cX12_token 52 = .ok (.ifCond .ge 11, 3) := by decide +kernel
theorem dX12_token_55 : decode cX12_token 55 = .ok (.aload_n 0, 1) := by decide +kernel
theorem dX12_token_56 : decode cX12_token 56 = .ok (.iconst 0, 1) := by decide +kernel
theorem dX12_token_57 : decode cX12_token 57 = .ok (.putfield 125, 3) := by decide +kernel
theorem dX12_token_60 : decode cX12_token 60 = .ok (.goto 206, 3) := by decide +kernel
theorem dX12_token_63 : decode cX12_token 63 = .ok (.iload_n 1, 1) := by decide +kernel
theorem dX12_token_64 : decode cX12_token 64 = .ok (.bipush 97, 2) := by decide +kernel
theorem dX12_token_66 : decode cX12_token 66 = .ok (.bipush 122, 2) := by decide +kernel
theorem dX12_token_68 : decode cX12_token 68 = .ok (.invokestatic 100, 3) := by decide +kernel
theorem dX12_token_71 : decode cX12_token 71 = .ok (.ifCond .eq 76, 3) := by decide +kernel
theorem dX12_token_74 : decode cX12_token 74 = .ok (.aload_n 0, 1) := by decide +kernel
theorem dX12_token_75 : decode cX12_token 75 = .ok (.invokevirtual 114, 3) := by decide +kernel
theorem dX12_token_78 : decode cX12_token 78 = .ok (.bipush 97, 2) := by decide +kernel
theorem dX12_token_80 : decode cX12_token 80 = .ok (.bipush 122, 2) := by decide +kernel
theorem dX12_token_82 : decode cX12_token 82 = .ok (.invokestatic 100, 3) := by decide +kernel
theorem dX12_token_85 : decode cX12_token 85 = .ok (.ifCond .eq 36, 3) := by decide +kernel
theorem dX12_token_88 : decode cX12_token 88 = .ok (.aload_n 0, 1) := by decide +kernel
theorem dX12_token_89 : decode cX12_token 89 = .ok (.aload_n 0, 1) := by decide +kernel
theorem dX12_token_90 : decode cX12_token 90 = .ok (.getfield 121, 3) := by decide +kernel
theorem dX12_token_93 : decode cX12_token 93 = .ok (.bipush 8, 2) := by decide +kernel
theorem dX12_token_95 : decode cX12_token 95 = .ok (.lshl, 1) := by decide +kernel
theorem dX12_token_96 : decode cX12_token 96 = .ok (.aload_n 0, 1) := by decide +kernel
theorem dX12_token_97 : decode cX12_token 97 = .ok (.invokevirtual 114, 3) := by decide +kernel
theorem dX12_token_100 : decode cX12_token 100 = .ok (.i2l, 1) := by decide +kernel
theorem dX12_token_101 : decode cX12_token 101 = .ok (.lor, 1) := by decide +kernel
theorem dX12_token_102 : decode cX12_token 102 = .ok (.putfield 121, 3) := by decide +kernel
theorem dX12_token_105 : decode cX12_token 105 = .ok (.aload_n 0, 1) := by decide +kernel
theorem dX12_token_106 : decode cX12_token 106 = .ok (.dup, 1) := by decide +kernel
theorem dX12_token_107 : decode cX12_token 107 = .ok (.getfield 108, 3) := by decide +kernel
theorem dX12_token_110 : decode cX12_token 110 = .ok (.iconst 1, 1) := by decide +kernel
theorem dX12_token_111 : decode cX12_token 111 = .ok (.iadd, 1) := by decide +kernel
theorem dX12_token_112 : decode cX12_token 112 = .ok (.putfield 108, 3) := by decide +kernel
theorem dX12_token_115 : decode cX12_token 115 = .ok (.iinc 2 1, 3) := by decide +kernel
theorem dX12_token_118 : decode cX12_token 118 = .ok (.goto (-44), 3) := by decide +kernel
theorem dX12_token_121 : decode cX12_token 121 = .ok (.aload_n 0, 1) := by decide +kernel
theorem dX12_token_122 : decode cX12_token 122 = .ok (.iload_n 2, 1) := by decide +kernel
theorem dX12_token_123 : decode cX12_token 123 = .ok (.bipush 8, 2) := by decide +kernel
theorem dX12_token_125 : decode cX12_token 125 = .ok (.if_icmp .le 7, 3) := by decide +kernel
theorem dX12_token_128 : decode cX12_token 128 = .ok (.lconst 0, 1) := by decide +kernel
theorem dX12_token_129 : decode cX12_token 129 = .ok (.goto 7, 3) := by decide +kernel
theorem dX12_token_132 : decode cX12_token 132 = .ok (.aload_n 0, 1) := by decide +kernel
theorem dX12_token_133 : decode cX12_token 133 = .ok (.getfield 121, 3) := by decide +kernel
theorem dX12_token_136 : decode cX12_token 136 = .ok (.putfield 121, 3) := by decide +kernel
theorem dX12_token_139 : decode cX12_token 139 = .ok (.aload_n 0, 1) := by decide +kernel
theorem dX12_token_140 : decode cX12_token 140 = .ok (.iconst 2, 1) := by decide +kernel
theorem dX12_token_141 : decode cX12_token 141 = .ok (.putfield 125, 3) := by decide +kernel
theorem dX12_token_144 : decode cX12_token 144 = .ok (.goto 122, 3) := by decide +kernel
theorem dX12_token_147 : decode cX12_token 147 = .ok (.iload_n 1, 1) := by decide +kernel
theorem dX12_token_148 : decode cX12_token 148 = .ok (.bipush 48, 2) := by decide +kernel
theorem dX12_token_150 : decode cX12_token 150 = .ok (.bipush 57, 2) := by decide +kernel
theorem dX12_token_152 : decode cX12_token 152 = .ok (.invokestatic 100, 3) := by decide +kernel
theorem dX12_token_155 : decode cX12_token 155 = .ok (.ifCond .eq 86, 3) := by decide +kernel
theorem dX12_token_158 : decode cX12_token 158 = .ok (.aload_n 0, 1) := by decide +kernel
theorem dX12_token_159 : decode cX12_token 159 = .ok (.iconst 0, 1) := by decide +kernel
theorem dX12_token_160 : decode cX12_token 160 = .ok (.putfield 128, 3) := by decide +kernel
theorem dX12_token_163 : decode cX12_token 163 = .ok (.aload_n 0, 1) := by decide +kernel
theorem dX12_token_164 : decode cX12_token 164 = .ok (.invokevirtual 114, 3) := by decide +kernel
theorem dX12_token_167 : decode cX12_token 167 = .ok (.bipush 48, 2) := by decide +kernel
theorem dX12_token_169 : decode cX12_token 169 = .ok (.bipush 57, 2) := by decide +kernel
theorem dX12_token_171 : decode cX12_token 171 = .ok (.invokestatic 100, 3) := by decide +kernel
theorem dX12_token_174 : decode cX12_token 174 = .ok (.ifCond .eq 50, 3) := by decide +kernel
theorem dX12_token_177 : decode cX12_token 177 = .ok (.aload_n 0, 1) := by decide +kernel
theorem dX12_token_178 : decode cX12_token 178 = .ok (.iload_n 2, 1) := by decide +kernel
theorem dX12_token_179 : decode cX12_token 179 = .ok (.iconst 2, 1) := by decide +kernel
theorem dX12_token_180 : decode cX12_token 180 = .ok (.if_icmp .ge 21, 3) := by decide +kernel
theorem dX12_token_183 : decode cX12_token 183 = .ok (.bipush 10, 2) := by decide +kernel
theorem dX12_token_185 : decode cX12_token 185 = .ok (.aload_n 0, 1) := by decide +kernel
theorem dX12_token_186 : decode cX12_token 186 = .ok (.getfield 128, 3) := by decide +kernel
theorem dX12_token_189 : decode cX12_token 189 = .ok (.imul, 1) := by decide +kernel
theorem dX12_token_190 : decode cX12_token 190 = .ok (.aload_n 0, 1) := by decide +kernel
theorem dX12_token_191 : decode cX12_token 191 = .ok (.invokevirtual 114, 3) := by decide +kernel
theorem dX12_token_194 : decode cX12_token 194 = .ok (.iadd, 1) := by decide +kernel
theorem dX12_token_195 : decode cX12_token 195 = .ok (.bipush 48, 2) := by decide +kernel
theorem dX12_token_197 : decode cX12_token 197 = .ok (.isub, 1) := by decide +kernel
theorem dX12_token_198 : decode cX12_token 198 = .ok (.goto 7, 3) := by decide +kernel
theorem dX12_token_201 : decode cX12_token 201 = .ok (.aload_n 0, 1) := by decide +kernel
theorem dX12_token_202 : decode cX12_token 202 = .ok (.getfield 128, 3) := by decide +kernel
theorem dX12_token_205 : decode cX12_token 205 = .ok (.putfield 128, 3) := by decide +kernel
theorem dX12_token_208 : decode cX12_token 208 = .ok (.aload_n 0, 1) := by decide +kernel
theorem dX12_token_209 : decode cX12_token 209 = .ok (.dup, 1) := by decide +kernel
theorem dX12_token_210 : decode cX12_token 210 = .ok (.getfield 108, 3) := by decide +kernel
theorem dX12_token_213 : decode cX12_token 213 = .ok (.iconst 1, 1) := by decide +kernel
theorem dX12_token_214 : decode cX12_token 214 = .ok (.iadd, 1) := by decide +kernel
theorem dX12_token_215 : decode cX12_token 215 = .ok (.putfield 108, 3) := by decide +kernel
theorem dX12_token_218 : decode cX12_token 218 = .ok (.iinc 2 1, 3) := by decide +kernel
theorem dX12_token_221 : decode cX12_token 221 = .ok (.goto (-58), 3) := by decide +kernel
theorem dX12_token_224 : decode cX12_token 224 = .ok (.aload_n 0, 1) := by decide +kernel
theorem dX12_token_225 : decode cX12_token 225 = .ok (.iload_n 2, 1) := by decide +kernel
theorem dX12_token_226 : decode cX12_token 226 = .ok (.iconst 2, 1) := by decide +kernel
theorem dX12_token_227 : decode cX12_token 227 = .ok (.if_icmp .le 7, 3) := by decide +kernel
theorem dX12_token_230 : decode cX12_token 230 = .ok (.iconst 1, 1) := by decide +kernel
theorem dX12_token_231 : decode cX12_token 231 = .ok (.goto 4, 3) := by decide +kernel
theorem dX12_token_234 : decode cX12_token 234 = .ok (.iconst 3, 1) := by decide +kernel
theorem dX12_token_235 : decode cX12_token 235 = .ok (.putfield 125, 3) := by decide +kernel
theorem dX12_token_238 : decode cX12_token 238 = .ok (.goto 28, 3) := by decide +kernel
theorem dX12_token_241 : decode cX12_token 241 = .ok (.aload_n 0, 1) := by decide +kernel
theorem dX12_token_242 : decode cX12_token 242 = .ok (.dup, 1) := by decide +kernel
theorem dX12_token_243 : decode cX12_token 243 = .ok (.getfield 108, 3) := by decide +kernel
theorem dX12_token_246 : decode cX12_token 246 = .ok (.iconst 1, 1) := by decide +kernel
theorem dX12_token_247 : decode cX12_token 247 = .ok (.iadd, 1) := by decide +kernel
theorem dX12_token_248 : decode cX12_token 248 = .ok (.putfield 108, 3) := by decide +kernel
theorem dX12_token_251 : decode cX12_token 251 = .ok (.aload_n 0, 1) := by decide +kernel
theorem dX12_token_252 : decode cX12_token 252 = .ok (.iload_n 1, 1) := by decide +kernel
theorem dX12_token_253 : decode cX12_token 253 = .ok (.bipush 59, 2) := by decide +kernel
theorem dX12_token_255 : decode cX12_token 255 = .ok (.if_icmp .ne 7, 3) := by decide +kernel
theorem dX12_token_258 : decode cX12_token 258 = .ok (.iconst 4, 1) := by decide +kernel
theorem dX12_token_259 : decode cX12_token 259 = .ok (.goto 4, 3) := by decide +kernel
theorem dX12_token_262 : decode cX12_token 262 = .ok (.iconst 1, 1) := by decide +kernel
theorem dX12_token_263 : decode cX12_token 263 = .ok (.putfield 125, 3) := by decide +kernel
theorem dX12_token_266 : decode cX12_token 266 = .ok (.return_, 1) := by decide +kernel
def is_X12_token : Nat → List Nat := fun d => if d = 0 then [0] else if d = 74 then [0, 2] else if d = 163 then [0, 2] else []
set_option maxRecDepth 100000 in
def b_X12_token_266 (J : Nat → List qV → List qV → qW → Prop) (Q : qR) : qK := x_vret Q
set_option maxRecDepth 100000 in
theorem s_X12_token_266 {p : Program} {l : Launch} {e : Env} {R : Room} {s : State} {m : MethodId} {args : Array Value} {below : List Frame} {meth : Method} {c : Code} {nW : Nat} {dC : Nat → ClassId} {dI : Nat → Nat → Nat} {k : Nat → ClassId} {g : Nat → Nat} {A : Nat → Prop} {J : Nat → List qV → List qV → qW → Prop} {Q : qR} (X : q_X p R s m args meth c cX12_token 3 nW 1 22 RX12 none dC dI k g A) (hJ : ∀ d : Nat, q_Sd p l e R s m args below meth c 3 nW dC dI k g A (MQ below (q_post (dC, dI) k g nW Q A) args s 0 0 A) d (x_cut (is_X12_token d) (J d))) : q_Sd p l e R s m args below meth c 3 nW dC dI k g A (MQ below (q_post (dC, dI) k g nW Q A) args s 0 0 A) 266 (b_X12_token_266 J Q) := by
  unfold b_X12_token_266
  exact s_vret X dX12_token_266
set_option maxRecDepth 100000 in
def b_X12_token_263 (J : Nat → List qV → List qV → qW → Prop) (Q : qR) : qK := x_put 12 13 q_oki (x_nw (b_X12_token_266 J Q))
set_option maxRecDepth 100000 in
theorem s_X12_token_263 {p : Program} {l : Launch} {e : Env} {R : Room} {s : State} {m : MethodId} {args : Array Value} {below : List Frame} {meth : Method} {c : Code} {nW : Nat} {dC : Nat → ClassId} {dI : Nat → Nat → Nat} {k : Nat → ClassId} {g : Nat → Nat} {A : Nat → Prop} {J : Nat → List qV → List qV → qW → Prop} {Q : qR} (X : q_X p R s m args meth c cX12_token 3 nW 1 22 RX12 none dC dI k g A) (hJ : ∀ d : Nat, q_Sd p l e R s m args below meth c 3 nW dC dI k g A (MQ below (q_post (dC, dI) k g nW Q A) args s 0 0 A) d (x_cut (is_X12_token d) (J d))) : q_Sd p l e R s m args below meth c 3 nW dC dI k g A (MQ below (q_post (dC, dI) k g nW Q A) args s 0 0 A) 263 (b_X12_token_263 J Q) := by
  unfold b_X12_token_263
  refine s_put X (T := TX12) (C := RX12) (N := 45) tu_X12 tyX12_ok nmX12 rfl (by decide) tw_1010 rfl (by decide +kernel) q_oki_t dX12_token_263 ?_
  refine s_nw ?_
  exact s_X12_token_266 X hJ
set_option maxRecDepth 100000 in
def b_X12_token_235 (J : Nat → List qV → List qV → qW → Prop) (Q : qR) : qK := x_put 12 13 q_oki (x_nw (b_X12_token_266 J Q))
set_option maxRecDepth 100000 in
theorem s_X12_token_235 {p : Program} {l : Launch} {e : Env} {R : Room} {s : State} {m : MethodId} {args : Array Value} {below : List Frame} {meth : Method} {c : Code} {nW : Nat} {dC : Nat → ClassId} {dI : Nat → Nat → Nat} {k : Nat → ClassId} {g : Nat → Nat} {A : Nat → Prop} {J : Nat → List qV → List qV → qW → Prop} {Q : qR} (X : q_X p R s m args meth c cX12_token 3 nW 1 22 RX12 none dC dI k g A) (hJ : ∀ d : Nat, q_Sd p l e R s m args below meth c 3 nW dC dI k g A (MQ below (q_post (dC, dI) k g nW Q A) args s 0 0 A) d (x_cut (is_X12_token d) (J d))) : q_Sd p l e R s m args below meth c 3 nW dC dI k g A (MQ below (q_post (dC, dI) k g nW Q A) args s 0 0 A) 235 (b_X12_token_235 J Q) := by
  unfold b_X12_token_235
  refine s_put X (T := TX12) (C := RX12) (N := 45) tu_X12 tyX12_ok nmX12 rfl (by decide) tw_1010 rfl (by decide +kernel) q_oki_t dX12_token_235 ?_
  refine s_nw ?_
  refine s_goto X (tgt := 266) dX12_token_238 (by decide) ?_
  exact s_X12_token_266 X hJ
set_option maxRecDepth 100000 in
def b_X12_token_205 (J : Nat → List qV → List qV → qW → Prop) (Q : qR) : qK := x_put 12 14 q_oki (x_nw (x_aload 0 (x_dup (x_get 12 10 (x_int 1 (x_iadd (x_put 12 10 q_oki (x_nw (x_iinc 2 1 (x_cut [0, 2] (J 163)))))))))))
set_option maxRecDepth 100000 in
theorem s_X12_token_205 {p : Program} {l : Launch} {e : Env} {R : Room} {s : State} {m : MethodId} {args : Array Value} {below : List Frame} {meth : Method} {c : Code} {nW : Nat} {dC : Nat → ClassId} {dI : Nat → Nat → Nat} {k : Nat → ClassId} {g : Nat → Nat} {A : Nat → Prop} {J : Nat → List qV → List qV → qW → Prop} {Q : qR} (X : q_X p R s m args meth c cX12_token 3 nW 1 22 RX12 none dC dI k g A) (hJ : ∀ d : Nat, q_Sd p l e R s m args below meth c 3 nW dC dI k g A (MQ below (q_post (dC, dI) k g nW Q A) args s 0 0 A) d (x_cut (is_X12_token d) (J d))) : q_Sd p l e R s m args below meth c 3 nW dC dI k g A (MQ below (q_post (dC, dI) k g nW Q A) args s 0 0 A) 205 (b_X12_token_205 J Q) := by
  unfold b_X12_token_205
  refine s_put X (T := TX12) (C := RX12) (N := 45) tu_X12 tyX12_ok nmX12 rfl (by decide) tw_1011 rfl (by decide +kernel) q_oki_t dX12_token_205 ?_
  refine s_nw ?_
  refine s_aload_n X rfl dX12_token_208 ?_
  refine s_dup X dX12_token_209 ?_
  refine s_get X (T := TX12) (C := RX12) (N := 45) tu_X12 rfl (by decide) tw_1007 dX12_token_210 ?_
  refine s_iconst X ⟨by decide, by decide⟩ dX12_token_213 ?_
  refine s_iadd X dX12_token_214 ?_
  refine s_put X (T := TX12) (C := RX12) (N := 45) tu_X12 tyX12_ok nmX12 rfl (by decide) tw_1007 rfl (by decide +kernel) q_oki_t dX12_token_215 ?_
  refine s_nw ?_
  refine s_iinc X (by decide) dX12_token_218 ?_
  refine s_goto X (tgt := 163) dX12_token_221 (by decide) ?_
  exact hJ 163
set_option maxRecDepth 100000 in
def b_X12_token_163 (J : Nat → List qV → List qV → qW → Prop) (Q : qR) : qK := x_aload 0 (x_callr (some 12) 1 spr_X12_see (x_int 48 (x_int 57 (x_callr none 3 spr_X12_in (x_if_eq (x_aload 0 (x_iload 2 (x_int 2 (x_icmp_le (x_int 3 (b_X12_token_235 J Q)) (x_int 1 (b_X12_token_235 J Q)))))) (x_aload 0 (x_iload 2 (x_int 2 (x_icmp_ge (x_aload 0 (x_get 12 14 (b_X12_token_205 J Q))) (x_int 10 (x_aload 0 (x_get 12 14 (x_imul (x_aload 0 (x_callr (some 12) 1 spr_X12_see (x_iadd (x_int 48 (x_isub (b_X12_token_205 J Q)))))))))))))))))))
set_option maxRecDepth 100000 in
theorem s_X12_token_163 {p : Program} {l : Launch} {e : Env} {R : Room} {s : State} {m : MethodId} {args : Array Value} {below : List Frame} {meth : Method} {c : Code} {nW : Nat} {dC : Nat → ClassId} {dI : Nat → Nat → Nat} {k : Nat → ClassId} {g : Nat → Nat} {A : Nat → Prop} {J : Nat → List qV → List qV → qW → Prop} {Q : qR} (X : q_X p R s m args meth c cX12_token 3 nW 1 22 RX12 none dC dI k g A) (hJ : ∀ d : Nat, q_Sd p l e R s m args below meth c 3 nW dC dI k g A (MQ below (q_post (dC, dI) k g nW Q A) args s 0 0 A) d (x_cut (is_X12_token d) (J d))) : q_Sd p l e R s m args below meth c 3 nW dC dI k g A (MQ below (q_post (dC, dI) k g nW Q A) args s 0 0 A) 163 (b_X12_token_163 J Q) := by
  unfold b_X12_token_163
  refine s_aload_n X rfl dX12_token_163 ?_
  refine s_callVr X (m_X12_see l) tw_1073 tw_1074 tw_1614 tw_134 tw_1075 rfl (by decide +kernel) ⟨by decide, by decide⟩ dX12_token_164 ?_
  refine s_bipush X ⟨by decide, by decide⟩ (by decide) dX12_token_167 ?_
  refine s_bipush X ⟨by decide, by decide⟩ (by decide) dX12_token_169 ?_
  refine s_callSr X (m_X12_in l) tw_1054 tw_1055 tw_134 tw_1056 (by decide +kernel) ⟨by decide, by decide⟩ dX12_token_171 ?_
  refine s_if_eq X (tgt := 224) dX12_token_174 (by decide) ?_ ?_
  · refine s_aload_n X rfl dX12_token_224 ?_
    refine s_iload_n X rfl dX12_token_225 ?_
    refine s_iconst X ⟨by decide, by decide⟩ dX12_token_226 ?_
    refine s_icmp_le X (tgt := 234) dX12_token_227 (by decide) ?_ ?_
    · refine s_iconst X ⟨by decide, by decide⟩ dX12_token_234 ?_
      exact s_X12_token_235 X hJ
    · refine s_iconst X ⟨by decide, by decide⟩ dX12_token_230 ?_
      refine s_goto X (tgt := 235) dX12_token_231 (by decide) ?_
      exact s_X12_token_235 X hJ
  · refine s_aload_n X rfl dX12_token_177 ?_
    refine s_iload_n X rfl dX12_token_178 ?_
    refine s_iconst X ⟨by decide, by decide⟩ dX12_token_179 ?_
    refine s_icmp_ge X (tgt := 201) dX12_token_180 (by decide) ?_ ?_
    · refine s_aload_n X rfl dX12_token_201 ?_
      refine s_get X (T := TX12) (C := RX12) (N := 45) tu_X12 rfl (by decide) tw_1011 dX12_token_202 ?_
      exact s_X12_token_205 X hJ
    · refine s_bipush X ⟨by decide, by decide⟩ (by decide) dX12_token_183 ?_
      refine s_aload_n X rfl dX12_token_185 ?_
      refine s_get X (T := TX12) (C := RX12) (N := 45) tu_X12 rfl (by decide) tw_1011 dX12_token_186 ?_
      refine s_imul X dX12_token_189 ?_
      refine s_aload_n X rfl dX12_token_190 ?_
      refine s_callVr X (m_X12_see l) tw_1073 tw_1074 tw_1614 tw_134 tw_1075 rfl (by decide +kernel) ⟨by decide, by decide⟩ dX12_token_191 ?_
      refine s_iadd X dX12_token_194 ?_
      refine s_bipush X ⟨by decide, by decide⟩ (by decide) dX12_token_195 ?_
      refine s_isub X dX12_token_197 ?_
      refine s_goto X (tgt := 205) dX12_token_198 (by decide) ?_
      exact s_X12_token_205 X hJ
set_option maxRecDepth 100000 in
def b_X12_token_136 (J : Nat → List qV → List qV → qW → Prop) (Q : qR) : qK := x_put 12 15 q_okj (x_nw (x_aload 0 (x_int 2 (x_put 12 13 q_oki (x_nw (b_X12_token_266 J Q))))))
set_option maxRecDepth 100000 in
theorem s_X12_token_136 {p : Program} {l : Launch} {e : Env} {R : Room} {s : State} {m : MethodId} {args : Array Value} {below : List Frame} {meth : Method} {c : Code} {nW : Nat} {dC : Nat → ClassId} {dI : Nat → Nat → Nat} {k : Nat → ClassId} {g : Nat → Nat} {A : Nat → Prop} {J : Nat → List qV → List qV → qW → Prop} {Q : qR} (X : q_X p R s m args meth c cX12_token 3 nW 1 22 RX12 none dC dI k g A) (hJ : ∀ d : Nat, q_Sd p l e R s m args below meth c 3 nW dC dI k g A (MQ below (q_post (dC, dI) k g nW Q A) args s 0 0 A) d (x_cut (is_X12_token d) (J d))) : q_Sd p l e R s m args below meth c 3 nW dC dI k g A (MQ below (q_post (dC, dI) k g nW Q A) args s 0 0 A) 136 (b_X12_token_136 J Q) := by
  unfold b_X12_token_136
  refine s_put X (T := TX12) (C := RX12) (N := 45) tu_X12 tyX12_ok nmX12 rfl (by decide) tw_1012 rfl (by decide +kernel) q_okj_t dX12_token_136 ?_
  refine s_nw ?_
  refine s_aload_n X rfl dX12_token_139 ?_
  refine s_iconst X ⟨by decide, by decide⟩ dX12_token_140 ?_
  refine s_put X (T := TX12) (C := RX12) (N := 45) tu_X12 tyX12_ok nmX12 rfl (by decide) tw_1010 rfl (by decide +kernel) q_oki_t dX12_token_141 ?_
  refine s_nw ?_
  refine s_goto X (tgt := 266) dX12_token_144 (by decide) ?_
  exact s_X12_token_266 X hJ
set_option maxRecDepth 100000 in
def b_X12_token_121 (J : Nat → List qV → List qV → qW → Prop) (Q : qR) : qK := x_aload 0 (x_iload 2 (x_int 8 (x_icmp_le (x_aload 0 (x_get 12 15 (b_X12_token_136 J Q))) (x_lng 0 (b_X12_token_136 J Q)))))
set_option maxRecDepth 100000 in
theorem s_X12_token_121 {p : Program} {l : Launch} {e : Env} {R : Room} {s : State} {m : MethodId} {args : Array Value} {below : List Frame} {meth : Method} {c : Code} {nW : Nat} {dC : Nat → ClassId} {dI : Nat → Nat → Nat} {k : Nat → ClassId} {g : Nat → Nat} {A : Nat → Prop} {J : Nat → List qV → List qV → qW → Prop} {Q : qR} (X : q_X p R s m args meth c cX12_token 3 nW 1 22 RX12 none dC dI k g A) (hJ : ∀ d : Nat, q_Sd p l e R s m args below meth c 3 nW dC dI k g A (MQ below (q_post (dC, dI) k g nW Q A) args s 0 0 A) d (x_cut (is_X12_token d) (J d))) : q_Sd p l e R s m args below meth c 3 nW dC dI k g A (MQ below (q_post (dC, dI) k g nW Q A) args s 0 0 A) 121 (b_X12_token_121 J Q) := by
  unfold b_X12_token_121
  refine s_aload_n X rfl dX12_token_121 ?_
  refine s_iload_n X rfl dX12_token_122 ?_
  refine s_bipush X ⟨by decide, by decide⟩ (by decide) dX12_token_123 ?_
  refine s_icmp_le X (tgt := 132) dX12_token_125 (by decide) ?_ ?_
  · refine s_aload_n X rfl dX12_token_132 ?_
    refine s_get X (T := TX12) (C := RX12) (N := 45) tu_X12 rfl (by decide) tw_1012 dX12_token_133 ?_
    exact s_X12_token_136 X hJ
  · refine s_lconst X ⟨by decide, by decide⟩ (by decide) dX12_token_128 ?_
    refine s_goto X (tgt := 136) dX12_token_129 (by decide) ?_
    exact s_X12_token_136 X hJ
set_option maxRecDepth 100000 in
def b_X12_token_74 (J : Nat → List qV → List qV → qW → Prop) (Q : qR) : qK := x_aload 0 (x_callr (some 12) 1 spr_X12_see (x_int 97 (x_int 122 (x_callr none 3 spr_X12_in (x_if_eq (b_X12_token_121 J Q) (x_aload 0 (x_aload 0 (x_get 12 15 (x_int 8 (x_lshl (x_aload 0 (x_callr (some 12) 1 spr_X12_see (x_i2l (x_lor (x_put 12 15 q_okj (x_nw (x_aload 0 (x_dup (x_get 12 10 (x_int 1 (x_iadd (x_put 12 10 q_oki (x_nw (x_iinc 2 1 (x_cut [0, 2] (J 74))))))))))))))))))))))))))
set_option maxRecDepth 100000 in
theorem s_X12_token_74 {p : Program} {l : Launch} {e : Env} {R : Room} {s : State} {m : MethodId} {args : Array Value} {below : List Frame} {meth : Method} {c : Code} {nW : Nat} {dC : Nat → ClassId} {dI : Nat → Nat → Nat} {k : Nat → ClassId} {g : Nat → Nat} {A : Nat → Prop} {J : Nat → List qV → List qV → qW → Prop} {Q : qR} (X : q_X p R s m args meth c cX12_token 3 nW 1 22 RX12 none dC dI k g A) (hJ : ∀ d : Nat, q_Sd p l e R s m args below meth c 3 nW dC dI k g A (MQ below (q_post (dC, dI) k g nW Q A) args s 0 0 A) d (x_cut (is_X12_token d) (J d))) : q_Sd p l e R s m args below meth c 3 nW dC dI k g A (MQ below (q_post (dC, dI) k g nW Q A) args s 0 0 A) 74 (b_X12_token_74 J Q) := by
  unfold b_X12_token_74
  refine s_aload_n X rfl dX12_token_74 ?_
  refine s_callVr X (m_X12_see l) tw_1073 tw_1074 tw_1614 tw_134 tw_1075 rfl (by decide +kernel) ⟨by decide, by decide⟩ dX12_token_75 ?_
  refine s_bipush X ⟨by decide, by decide⟩ (by decide) dX12_token_78 ?_
  refine s_bipush X ⟨by decide, by decide⟩ (by decide) dX12_token_80 ?_
  refine s_callSr X (m_X12_in l) tw_1054 tw_1055 tw_134 tw_1056 (by decide +kernel) ⟨by decide, by decide⟩ dX12_token_82 ?_
  refine s_if_eq X (tgt := 121) dX12_token_85 (by decide) ?_ ?_
  · exact s_X12_token_121 X hJ
  · refine s_aload_n X rfl dX12_token_88 ?_
    refine s_aload_n X rfl dX12_token_89 ?_
    refine s_get X (T := TX12) (C := RX12) (N := 45) tu_X12 rfl (by decide) tw_1012 dX12_token_90 ?_
    refine s_bipush X ⟨by decide, by decide⟩ (by decide) dX12_token_93 ?_
    refine s_lshl X dX12_token_95 ?_
    refine s_aload_n X rfl dX12_token_96 ?_
    refine s_callVr X (m_X12_see l) tw_1073 tw_1074 tw_1614 tw_134 tw_1075 rfl (by decide +kernel) ⟨by decide, by decide⟩ dX12_token_97 ?_
    refine s_i2l X dX12_token_100 ?_
    refine s_lor X dX12_token_101 ?_
    refine s_put X (T := TX12) (C := RX12) (N := 45) tu_X12 tyX12_ok nmX12 rfl (by decide) tw_1012 rfl (by decide +kernel) q_okj_t dX12_token_102 ?_
    refine s_nw ?_
    refine s_aload_n X rfl dX12_token_105 ?_
    refine s_dup X dX12_token_106 ?_
    refine s_get X (T := TX12) (C := RX12) (N := 45) tu_X12 rfl (by decide) tw_1007 dX12_token_107 ?_
    refine s_iconst X ⟨by decide, by decide⟩ dX12_token_110 ?_
    refine s_iadd X dX12_token_111 ?_
    refine s_put X (T := TX12) (C := RX12) (N := 45) tu_X12 tyX12_ok nmX12 rfl (by decide) tw_1007 rfl (by decide +kernel) q_oki_t dX12_token_112 ?_
    refine s_nw ?_
    refine s_iinc X (by decide) dX12_token_115 ?_
    refine s_goto X (tgt := 74) dX12_token_118 (by decide) ?_
    exact hJ 74
set_option maxRecDepth 100000 in
def b_X12_token_60 (J : Nat → List qV → List qV → qW → Prop) (Q : qR) : qK := b_X12_token_266 J Q
set_option maxRecDepth 100000 in
theorem s_X12_token_60 {p : Program} {l : Launch} {e : Env} {R : Room} {s : State} {m : MethodId} {args : Array Value} {below : List Frame} {meth : Method} {c : Code} {nW : Nat} {dC : Nat → ClassId} {dI : Nat → Nat → Nat} {k : Nat → ClassId} {g : Nat → Nat} {A : Nat → Prop} {J : Nat → List qV → List qV → qW → Prop} {Q : qR} (X : q_X p R s m args meth c cX12_token 3 nW 1 22 RX12 none dC dI k g A) (hJ : ∀ d : Nat, q_Sd p l e R s m args below meth c 3 nW dC dI k g A (MQ below (q_post (dC, dI) k g nW Q A) args s 0 0 A) d (x_cut (is_X12_token d) (J d))) : q_Sd p l e R s m args below meth c 3 nW dC dI k g A (MQ below (q_post (dC, dI) k g nW Q A) args s 0 0 A) 60 (b_X12_token_60 J Q) := by
  unfold b_X12_token_60
  refine s_goto X (tgt := 266) dX12_token_60 (by decide) ?_
  exact s_X12_token_266 X hJ
set_option maxRecDepth 100000 in
def b_X12_token_18 (J : Nat → List qV → List qV → qW → Prop) (Q : qR) : qK := x_aload 0 (x_dup (x_get 12 10 (x_int 1 (x_iadd (x_put 12 10 q_oki (x_nw (x_cut [0] (J 0))))))))
set_option maxRecDepth 100000 in
theorem s_X12_token_18 {p : Program} {l : Launch} {e : Env} {R : Room} {s : State} {m : MethodId} {args : Array Value} {below : List Frame} {meth : Method} {c : Code} {nW : Nat} {dC : Nat → ClassId} {dI : Nat → Nat → Nat} {k : Nat → ClassId} {g : Nat → Nat} {A : Nat → Prop} {J : Nat → List qV → List qV → qW → Prop} {Q : qR} (X : q_X p R s m args meth c cX12_token 3 nW 1 22 RX12 none dC dI k g A) (hJ : ∀ d : Nat, q_Sd p l e R s m args below meth c 3 nW dC dI k g A (MQ below (q_post (dC, dI) k g nW Q A) args s 0 0 A) d (x_cut (is_X12_token d) (J d))) : q_Sd p l e R s m args below meth c 3 nW dC dI k g A (MQ below (q_post (dC, dI) k g nW Q A) args s 0 0 A) 18 (b_X12_token_18 J Q) := by
  unfold b_X12_token_18
  refine s_aload_n X rfl dX12_token_18 ?_
  refine s_dup X dX12_token_19 ?_
  refine s_get X (T := TX12) (C := RX12) (N := 45) tu_X12 rfl (by decide) tw_1007 dX12_token_20 ?_
  refine s_iconst X ⟨by decide, by decide⟩ dX12_token_23 ?_
  refine s_iadd X dX12_token_24 ?_
  refine s_put X (T := TX12) (C := RX12) (N := 45) tu_X12 tyX12_ok nmX12 rfl (by decide) tw_1007 rfl (by decide +kernel) q_oki_t dX12_token_25 ?_
  refine s_nw ?_
  refine s_goto X (tgt := 0) dX12_token_28 (by decide) ?_
  exact hJ 0
set_option maxRecDepth 100000 in
def b_X12_token_0 (J : Nat → List qV → List qV → qW → Prop) (Q : qR) : qK := x_aload 0 (x_callr (some 12) 1 spr_X12_see (x_int 10 (x_icmp_eq (b_X12_token_18 J Q) (x_aload 0 (x_callr (some 12) 1 spr_X12_see (x_int 32 (x_icmp_ne (x_aload 0 (x_aload 0 (x_get 12 10 (x_put 12 12 q_oki (x_nw (x_aload 0 (x_callr (some 12) 1 spr_X12_see (x_istore 1 (x_aload 0 (x_lng 0 (x_put 12 15 q_okj (x_nw (x_int 0 (x_istore 2 (x_iload 1 (x_if_ge (x_iload 1 (x_int 97 (x_int 122 (x_callr none 3 spr_X12_in (x_if_eq (x_iload 1 (x_int 48 (x_int 57 (x_callr none 3 spr_X12_in (x_if_eq (x_aload 0 (x_dup (x_get 12 10 (x_int 1 (x_iadd (x_put 12 10 q_oki (x_nw (x_aload 0 (x_iload 1 (x_int 59 (x_icmp_ne (x_int 1 (b_X12_token_263 J Q)) (x_int 4 (b_X12_token_263 J Q))))))))))))) (x_aload 0 (x_int 0 (x_put 12 14 q_oki (x_nw (x_cut [0, 2] (J 163))))))))))) (x_cut [0, 2] (J 74))))))) (x_aload 0 (x_int 0 (x_put 12 13 q_oki (x_nw (b_X12_token_60 J Q))))))))))))))))))))) (b_X12_token_18 J Q))))))))
set_option maxRecDepth 100000 in
theorem s_X12_token_0 {p : Program} {l : Launch} {e : Env} {R : Room} {s : State} {m : MethodId} {args : Array Value} {below : List Frame} {meth : Method} {c : Code} {nW : Nat} {dC : Nat → ClassId} {dI : Nat → Nat → Nat} {k : Nat → ClassId} {g : Nat → Nat} {A : Nat → Prop} {J : Nat → List qV → List qV → qW → Prop} {Q : qR} (X : q_X p R s m args meth c cX12_token 3 nW 1 22 RX12 none dC dI k g A) (hJ : ∀ d : Nat, q_Sd p l e R s m args below meth c 3 nW dC dI k g A (MQ below (q_post (dC, dI) k g nW Q A) args s 0 0 A) d (x_cut (is_X12_token d) (J d))) : q_Sd p l e R s m args below meth c 3 nW dC dI k g A (MQ below (q_post (dC, dI) k g nW Q A) args s 0 0 A) 0 (b_X12_token_0 J Q) := by
  unfold b_X12_token_0
  refine s_aload_n X rfl dX12_token_0 ?_
  refine s_callVr X (m_X12_see l) tw_1073 tw_1074 tw_1614 tw_134 tw_1075 rfl (by decide +kernel) ⟨by decide, by decide⟩ dX12_token_1 ?_
  refine s_bipush X ⟨by decide, by decide⟩ (by decide) dX12_token_4 ?_
  refine s_icmp_eq X (tgt := 18) dX12_token_6 (by decide) ?_ ?_
  · exact s_X12_token_18 X hJ
  · refine s_aload_n X rfl dX12_token_9 ?_
    refine s_callVr X (m_X12_see l) tw_1073 tw_1074 tw_1614 tw_134 tw_1075 rfl (by decide +kernel) ⟨by decide, by decide⟩ dX12_token_10 ?_
    refine s_bipush X ⟨by decide, by decide⟩ (by decide) dX12_token_13 ?_
    refine s_icmp_ne X (tgt := 31) dX12_token_15 (by decide) ?_ ?_
    · refine s_aload_n X rfl dX12_token_31 ?_
      refine s_aload_n X rfl dX12_token_32 ?_
      refine s_get X (T := TX12) (C := RX12) (N := 45) tu_X12 rfl (by decide) tw_1007 dX12_token_33 ?_
      refine s_put X (T := TX12) (C := RX12) (N := 45) tu_X12 tyX12_ok nmX12 rfl (by decide) tw_1009 rfl (by decide +kernel) q_oki_t dX12_token_36 ?_
      refine s_nw ?_
      refine s_aload_n X rfl dX12_token_39 ?_
      refine s_callVr X (m_X12_see l) tw_1073 tw_1074 tw_1614 tw_134 tw_1075 rfl (by decide +kernel) ⟨by decide, by decide⟩ dX12_token_40 ?_
      refine s_istore_n X rfl (by decide) dX12_token_43 ?_
      refine s_aload_n X rfl dX12_token_44 ?_
      refine s_lconst X ⟨by decide, by decide⟩ (by decide) dX12_token_45 ?_
      refine s_put X (T := TX12) (C := RX12) (N := 45) tu_X12 tyX12_ok nmX12 rfl (by decide) tw_1012 rfl (by decide +kernel) q_okj_t dX12_token_46 ?_
      refine s_nw ?_
      refine s_iconst X ⟨by decide, by decide⟩ dX12_token_49 ?_
      refine s_istore_n X rfl (by decide) dX12_token_50 ?_
      refine s_iload_n X rfl dX12_token_51 ?_
      refine s_if_ge X (tgt := 63) dX12_token_52 (by decide) ?_ ?_
      · refine s_iload_n X rfl dX12_token_63 ?_
        refine s_bipush X ⟨by decide, by decide⟩ (by decide) dX12_token_64 ?_
        refine s_bipush X ⟨by decide, by decide⟩ (by decide) dX12_token_66 ?_
        refine s_callSr X (m_X12_in l) tw_1054 tw_1055 tw_134 tw_1056 (by decide +kernel) ⟨by decide, by decide⟩ dX12_token_68 ?_
        refine s_if_eq X (tgt := 147) dX12_token_71 (by decide) ?_ ?_
        · refine s_iload_n X rfl dX12_token_147 ?_
          refine s_bipush X ⟨by decide, by decide⟩ (by decide) dX12_token_148 ?_
          refine s_bipush X ⟨by decide, by decide⟩ (by decide) dX12_token_150 ?_
          refine s_callSr X (m_X12_in l) tw_1054 tw_1055 tw_134 tw_1056 (by decide +kernel) ⟨by decide, by decide⟩ dX12_token_152 ?_
          refine s_if_eq X (tgt := 241) dX12_token_155 (by decide) ?_ ?_
          · refine s_aload_n X rfl dX12_token_241 ?_
            refine s_dup X dX12_token_242 ?_
            refine s_get X (T := TX12) (C := RX12) (N := 45) tu_X12 rfl (by decide) tw_1007 dX12_token_243 ?_
            refine s_iconst X ⟨by decide, by decide⟩ dX12_token_246 ?_
            refine s_iadd X dX12_token_247 ?_
            refine s_put X (T := TX12) (C := RX12) (N := 45) tu_X12 tyX12_ok nmX12 rfl (by decide) tw_1007 rfl (by decide +kernel) q_oki_t dX12_token_248 ?_
            refine s_nw ?_
            refine s_aload_n X rfl dX12_token_251 ?_
            refine s_iload_n X rfl dX12_token_252 ?_
            refine s_bipush X ⟨by decide, by decide⟩ (by decide) dX12_token_253 ?_
            refine s_icmp_ne X (tgt := 262) dX12_token_255 (by decide) ?_ ?_
            · refine s_iconst X ⟨by decide, by decide⟩ dX12_token_262 ?_
              exact s_X12_token_263 X hJ
            · refine s_iconst X ⟨by decide, by decide⟩ dX12_token_258 ?_
              refine s_goto X (tgt := 263) dX12_token_259 (by decide) ?_
              exact s_X12_token_263 X hJ
          · refine s_aload_n X rfl dX12_token_158 ?_
            refine s_iconst X ⟨by decide, by decide⟩ dX12_token_159 ?_
            refine s_put X (T := TX12) (C := RX12) (N := 45) tu_X12 tyX12_ok nmX12 rfl (by decide) tw_1011 rfl (by decide +kernel) q_oki_t dX12_token_160 ?_
            refine s_nw ?_
            exact hJ 163
        · exact hJ 74
      · refine s_aload_n X rfl dX12_token_55 ?_
        refine s_iconst X ⟨by decide, by decide⟩ dX12_token_56 ?_
        refine s_put X (T := TX12) (C := RX12) (N := 45) tu_X12 tyX12_ok nmX12 rfl (by decide) tw_1010 rfl (by decide +kernel) q_oki_t dX12_token_57 ?_
        refine s_nw ?_
        exact s_X12_token_60 X hJ
    · exact s_X12_token_18 X hJ

def sp_X12_token : qS := fun av w Q => ∃ (mco : Int) (mre : Int) (mle : Int) (mbe : Int) (mso : Int) (mva : Int) (mwo : Int) (mwr : Int) (mlf : Int) (mlp : Int) (mfp : Int) (mfd : Int) (mgo : Int) (mbo : Int) (mpe : Int) (mye : Int) (mpr : Int) (mld : Int) (msi : Int) (mse : Int) (tp : Nat → Int), av = [q2 0] ∧ w = [.inr (12, [q1 mco, q2 1, q2 2, q2 3, q2 4, q2 5, q2 6, q2 7, q2 8, q2 9, q1 mre, q1 mle, q1 mbe, q1 mso, q1 mva, q3 mwo, q1 mwr, q1 mlf, q1 mlp, q2 10, q2 11, q1 mfp, q1 mfd, q1 mgo, q1 mbo, q1 mpe, q1 mye, q2 12, q1 mpr, q2 13, q2 14, q2 15, q2 16, q1 mld, q2 17, q1 msi, q2 18, q2 19, q2 20, q2 21, q2 22, q1 mse, q2 23, q2 24, q2 25]), .inl (1, 2400, .inl tp)] ∧ (0 ≤ mre ∧ mre ≤ mle ∧ mle ≤ 600) ∧ (∀ (x_mre : Int) (x_mbe : Int) (x_mso : Int) (x_mva : Int) (x_mwo : Int), (mre ≤ x_mre ∧ x_mre ≤ mle ∧ (x_mso = 0 ∨ mre < x_mre)) → Q none ([.inr (12, [q1 mco, q2 1, q2 2, q2 3, q2 4, q2 5, q2 6, q2 7, q2 8, q2 9, q1 x_mre, q1 mle, q1 x_mbe, q1 x_mso, q1 x_mva, q3 x_mwo, q1 mwr, q1 mlf, q1 mlp, q2 10, q2 11, q1 mfp, q1 mfd, q1 mgo, q1 mbo, q1 mpe, q1 mye, q2 12, q1 mpr, q2 13, q2 14, q2 15, q2 16, q1 mld, q2 17, q1 msi, q2 18, q2 19, q2 20, q2 21, q2 22, q1 mse, q2 23, q2 24, q2 25]), .inl (1, 2400, .inl tp)]))
def I_X12_token (mco : Int) (mre : Int) (mle : Int) (mbe : Int) (mso : Int) (mva : Int) (mwo : Int) (mwr : Int) (mlf : Int) (mlp : Int) (mfp : Int) (mfd : Int) (mgo : Int) (mbo : Int) (mpe : Int) (mye : Int) (mpr : Int) (mld : Int) (msi : Int) (mse : Int) (tp : Nat → Int) : Nat → Nat → List qV → List qV → qW → Prop := fun dz mz vz sz wz => if dz = 0 then (∃ (y_mre : Int), vz = [q2 0] ∧ sz = [] ∧ wz = [.inr (12, [q1 mco, q2 1, q2 2, q2 3, q2 4, q2 5, q2 6, q2 7, q2 8, q2 9, q1 y_mre, q1 mle, q1 mbe, q1 mso, q1 mva, q3 mwo, q1 mwr, q1 mlf, q1 mlp, q2 10, q2 11, q1 mfp, q1 mfd, q1 mgo, q1 mbo, q1 mpe, q1 mye, q2 12, q1 mpr, q2 13, q2 14, q2 15, q2 16, q1 mld, q2 17, q1 msi, q2 18, q2 19, q2 20, q2 21, q2 22, q1 mse, q2 23, q2 24, q2 25]), .inl (1, 2400, .inl tp)] ∧ mz = 10000 + (mle - y_mre).toNat ∧ (mre ≤ y_mre ∧ y_mre ≤ mle)) else if dz = 74 then (∃ (y_mre : Int) (y_mbe : Int) (y_mso : Int) (y_mva : Int) (y_mwo : Int) (v2 : Int), vz = [q2 0, q1 v2] ∧ sz = [] ∧ wz = [.inr (12, [q1 mco, q2 1, q2 2, q2 3, q2 4, q2 5, q2 6, q2 7, q2 8, q2 9, q1 y_mre, q1 mle, q1 y_mbe, q1 y_mso, q1 y_mva, q3 y_mwo, q1 mwr, q1 mlf, q1 mlp, q2 10, q2 11, q1 mfp, q1 mfd, q1 mgo, q1 mbo, q1 mpe, q1 mye, q2 12, q1 mpr, q2 13, q2 14, q2 15, q2 16, q1 mld, q2 17, q1 msi, q2 18, q2 19, q2 20, q2 21, q2 22, q1 mse, q2 23, q2 24, q2 25]), .inl (1, 2400, .inl tp)] ∧ mz = (mle - y_mre).toNat ∧ (mre ≤ y_mre ∧ y_mre ≤ mle ∧ 0 ≤ v2 ∧ v2 ≤ y_mre ∧ (mre < y_mre ∨ 97 ≤ seeR tp y_mre mle ∧ seeR tp y_mre mle ≤ 122))) else if dz = 163 then (∃ (y_mre : Int) (y_mbe : Int) (y_mso : Int) (y_mva : Int) (y_mwo : Int) (v2 : Int), vz = [q2 0, q1 v2] ∧ sz = [] ∧ wz = [.inr (12, [q1 mco, q2 1, q2 2, q2 3, q2 4, q2 5, q2 6, q2 7, q2 8, q2 9, q1 y_mre, q1 mle, q1 y_mbe, q1 y_mso, q1 y_mva, q3 y_mwo, q1 mwr, q1 mlf, q1 mlp, q2 10, q2 11, q1 mfp, q1 mfd, q1 mgo, q1 mbo, q1 mpe, q1 mye, q2 12, q1 mpr, q2 13, q2 14, q2 15, q2 16, q1 mld, q2 17, q1 msi, q2 18, q2 19, q2 20, q2 21, q2 22, q1 mse, q2 23, q2 24, q2 25]), .inl (1, 2400, .inl tp)] ∧ mz = (mle - y_mre).toNat ∧ (mre ≤ y_mre ∧ y_mre ≤ mle ∧ 0 ≤ v2 ∧ v2 ≤ y_mre ∧ (mre < y_mre ∨ 48 ≤ seeR tp y_mre mle ∧ seeR tp y_mre mle ≤ 57))) else False
set_option maxHeartbeats 4000000 in
set_option maxRecDepth 100000 in
theorem m_X12_token (l : Launch) : q_M l yX12_token cX12_token 3 none 1 22 sp_X12_token := by
  refine q_meth (by decide) (fun av w Q h => by obtain ⟨mco, mre, mle, mbe, mso, mva, mwo, mwr, mlf, mlp, mfp, mfd, mgo, mbo, mpe, mye, mpr, mld, msi, mse, tp, rfl, rfl, htp, hQ⟩ := h; exact Nat.le_of_ble_eq_true rfl) ?_
  intro p e R s m args below meth c dC dI k g A av w Q hsp oka okw X
  obtain ⟨mco, mre, mle, mbe, mso, mva, mwo, mwr, mlf, mlp, mfp, mfd, mgo, mbo, mpe, mye, mpr, mld, msi, mse, tp, rfl, rfl, htp, hQ⟩ := hsp
  refine s_mono (q_loopn (is := is_X12_token) (I_X12_token mco mre mle mbe mso mva mwo mwr mlf mlp mfp mfd mgo mbo mpe mye mpr mld msi mse tp) (fun dz J => if dz = 0 then b_X12_token_0 J Q else if dz = 74 then b_X12_token_74 J Q else if dz = 163 then b_X12_token_163 J Q else q_F) ?hs ?hv 0) ?_
  case hs =>
    intro d J hJ
    by_cases h0 : d = 0
    · subst h0; exact s_X12_token_0 X hJ
    by_cases h74 : d = 74
    · subst h74; exact s_X12_token_74 X hJ
    by_cases h163 : d = 163
    · subst h163; exact s_X12_token_163 X hJ
    simp only [h0, h74, h163, if_false]
    exact s_F
  case hv =>
    intro dz mz vz sz wz hI okv oks okw hlen
    by_cases h0 : dz = 0
    · subst h0
      obtain ⟨y_mre, rfl, rfl, rfl, hn, hp⟩ := hI
      refine Exists.intro [0, 1, 2, 3, 4, 5, 6, 7, 8, 9, 10, 11, 12, 13, 14, 15, 16, 17, 18, 19, 20, 21, 22, 23, 24, 25] (Exists.intro [q2 0] (Exists.intro ([.inr (12, [q1 _, q2 1, q2 2, q2 3, q2 4, q2 5, q2 6, q2 7, q2 8, q2 9, q1 _, q1 _, q1 _, q1 _, q1 _, q3 _, q1 _, q1 _, q1 _, q2 10, q2 11, q1 _, q1 _, q1 _, q1 _, q1 _, q1 _, q2 12, q1 _, q2 13, q2 14, q2 15, q2 16, q1 _, q2 17, q1 _, q2 18, q2 19, q2 20, q2 21, q2 22, q1 _, q2 23, q2 24, q2 25]), .inl (1, 2400, .inl _)]) (And.intro rfl (And.intro rfl (And.intro rfl (And.intro ⟨⟨_, rfl⟩, rfl⟩ ?_))))))
      refine Exists.intro _ (Exists.intro _ (Exists.intro _ (Exists.intro _ (Exists.intro _ (Exists.intro _ (Exists.intro _ (Exists.intro _ (Exists.intro _ (Exists.intro _ (Exists.intro _ (Exists.intro _ (Exists.intro _ (Exists.intro _ (Exists.intro _ (Exists.intro _ (Exists.intro _ (Exists.intro _ (Exists.intro _ (Exists.intro _ (Exists.intro _ (And.intro rfl (And.intro rfl (And.intro (by first | omega | assumption | exact q_rg_up (by assumption) (by omega) | exact q_rg_up (q_rg_up (by assumption) (by omega)) (by omega) | exact q_rg_cpy (by assumption) (by assumption)) (?_))))))))))))))))))))))))
      intro z1 h1
      apply And.intro
      · intro h6
        intro z24 h24
        first | replace h24 := e_add h24 (by omega) | replace h24 := e_rng h24
        apply And.intro
        · exact trivial
        exact ⟨_, ⟨_, rfl, rfl, rfl, rfl, (by first | omega | assumption | exact q_rg_up (by assumption) (by omega) | exact q_rg_up (q_rg_up (by assumption) (by omega)) (by omega) | exact q_rg_cpy (by assumption) (by assumption))⟩, by omega⟩
      · intro h6
        refine Exists.intro [0, 1, 2, 3, 4, 5, 6, 7, 8, 9, 10, 11, 12, 13, 14, 15, 16, 17, 18, 19, 20, 21, 22, 23, 24, 25] (Exists.intro [q2 0] (Exists.intro ([.inr (12, [q1 _, q2 1, q2 2, q2 3, q2 4, q2 5, q2 6, q2 7, q2 8, q2 9, q1 _, q1 _, q1 _, q1 _, q1 _, q3 _, q1 _, q1 _, q1 _, q2 10, q2 11, q1 _, q1 _, q1 _, q1 _, q1 _, q1 _, q2 12, q1 _, q2 13, q2 14, q2 15, q2 16, q1 _, q2 17, q1 _, q2 18, q2 19, q2 20, q2 21, q2 22, q1 _, q2 23, q2 24, q2 25]), .inl (1, 2400, .inl _)]) (And.intro rfl (And.intro rfl (And.intro rfl (And.intro ⟨⟨_, rfl⟩, rfl⟩ ?_))))))
        refine Exists.intro _ (Exists.intro _ (Exists.intro _ (Exists.intro _ (Exists.intro _ (Exists.intro _ (Exists.intro _ (Exists.intro _ (Exists.intro _ (Exists.intro _ (Exists.intro _ (Exists.intro _ (Exists.intro _ (Exists.intro _ (Exists.intro _ (Exists.intro _ (Exists.intro _ (Exists.intro _ (Exists.intro _ (Exists.intro _ (Exists.intro _ (And.intro rfl (And.intro rfl (And.intro (by first | omega | assumption | exact q_rg_up (by assumption) (by omega) | exact q_rg_up (q_rg_up (by assumption) (by omega)) (by omega) | exact q_rg_cpy (by assumption) (by assumption)) (?_))))))))))))))))))))))))
        intro z10 h10
        apply And.intro
        · intro h15
          apply And.intro
          · exact trivial
          refine Exists.intro [0, 1, 2, 3, 4, 5, 6, 7, 8, 9, 10, 11, 12, 13, 14, 15, 16, 17, 18, 19, 20, 21, 22, 23, 24, 25] (Exists.intro [q2 0] (Exists.intro ([.inr (12, [q1 _, q2 1, q2 2, q2 3, q2 4, q2 5, q2 6, q2 7, q2 8, q2 9, q1 _, q1 _, q1 _, q1 _, q1 _, q3 _, q1 _, q1 _, q1 _, q2 10, q2 11, q1 _, q1 _, q1 _, q1 _, q1 _, q1 _, q2 12, q1 _, q2 13, q2 14, q2 15, q2 16, q1 _, q2 17, q1 _, q2 18, q2 19, q2 20, q2 21, q2 22, q1 _, q2 23, q2 24, q2 25]), .inl (1, 2400, .inl _)]) (And.intro rfl (And.intro rfl (And.intro rfl (And.intro ⟨⟨_, rfl⟩, rfl⟩ ?_))))))
          refine Exists.intro _ (Exists.intro _ (Exists.intro _ (Exists.intro _ (Exists.intro _ (Exists.intro _ (Exists.intro _ (Exists.intro _ (Exists.intro _ (Exists.intro _ (Exists.intro _ (Exists.intro _ (Exists.intro _ (Exists.intro _ (Exists.intro _ (Exists.intro _ (Exists.intro _ (Exists.intro _ (Exists.intro _ (Exists.intro _ (Exists.intro _ (And.intro rfl (And.intro rfl (And.intro (by first | omega | assumption | exact q_rg_up (by assumption) (by omega) | exact q_rg_up (q_rg_up (by assumption) (by omega)) (by omega) | exact q_rg_cpy (by assumption) (by assumption)) (?_))))))))))))))))))))))))
          intro z40 h40
          apply And.intro
          · exact trivial
          apply And.intro
          · intro h52
            refine Exists.intro [] (Exists.intro [q1 _, q1 _, q1 _] (Exists.intro [] (And.intro rfl (And.intro rfl (And.intro rfl (And.intro trivial ?_))))))
            refine Exists.intro _ (Exists.intro _ (Exists.intro _ (And.intro rfl (And.intro rfl (?_)))))
            intro z68 h68
            apply And.intro
            · intro h71
              first | replace h68 := dj1 h68 h71 | replace h68 := dj0 h68 h71
              refine Exists.intro [] (Exists.intro [q1 _, q1 _, q1 _] (Exists.intro [] (And.intro rfl (And.intro rfl (And.intro rfl (And.intro trivial ?_))))))
              refine Exists.intro _ (Exists.intro _ (Exists.intro _ (And.intro rfl (And.intro rfl (?_)))))
              intro z152 h152
              apply And.intro
              · intro h155
                first | replace h152 := dj1 h152 h155 | replace h152 := dj0 h152 h155
                intro z247 h247
                first | replace h247 := e_add h247 (by omega) | replace h247 := e_rng h247
                apply And.intro
                · exact trivial
                apply And.intro
                · intro h255
                  apply And.intro
                  · exact trivial
                  exact hQ _ _ _ _ _ (by first | omega | assumption | exact q_rg_up (by assumption) (by omega) | exact q_rg_up (q_rg_up (by assumption) (by omega)) (by omega) | exact q_rg_cpy (by assumption) (by assumption))
                · intro h255
                  apply And.intro
                  · exact trivial
                  exact hQ _ _ _ _ _ (by first | omega | assumption | exact q_rg_up (by assumption) (by omega) | exact q_rg_up (q_rg_up (by assumption) (by omega)) (by omega) | exact q_rg_cpy (by assumption) (by assumption))
              · intro h155
                first | replace h152 := dj1 h152 h155 | replace h152 := dj0 h152 h155
                apply And.intro
                · exact trivial
                exact ⟨_, ⟨_, _, _, _, _, _, rfl, rfl, rfl, rfl, (by first | omega | assumption | exact q_rg_up (by assumption) (by omega) | exact q_rg_up (q_rg_up (by assumption) (by omega)) (by omega) | exact q_rg_cpy (by assumption) (by assumption))⟩, by omega⟩
            · intro h71
              first | replace h68 := dj1 h68 h71 | replace h68 := dj0 h68 h71
              exact ⟨_, ⟨_, _, _, _, _, _, rfl, rfl, rfl, rfl, (by first | omega | assumption | exact q_rg_up (by assumption) (by omega) | exact q_rg_up (q_rg_up (by assumption) (by omega)) (by omega) | exact q_rg_cpy (by assumption) (by assumption))⟩, by omega⟩
          · intro h52
            apply And.intro
            · exact trivial
            exact hQ _ _ _ _ _ (by first | omega | assumption | exact q_rg_up (by assumption) (by omega) | exact q_rg_up (q_rg_up (by assumption) (by omega)) (by omega) | exact q_rg_cpy (by assumption) (by assumption))
        · intro h15
          intro z24 h24
          first | replace h24 := e_add h24 (by omega) | replace h24 := e_rng h24
          apply And.intro
          · exact trivial
          exact ⟨_, ⟨_, rfl, rfl, rfl, rfl, (by first | omega | assumption | exact q_rg_up (by assumption) (by omega) | exact q_rg_up (q_rg_up (by assumption) (by omega)) (by omega) | exact q_rg_cpy (by assumption) (by assumption))⟩, by omega⟩
    by_cases h74 : dz = 74
    · subst h74
      obtain ⟨y_mre, y_mbe, y_mso, y_mva, y_mwo, v2, rfl, rfl, rfl, hn, hp⟩ := hI
      refine Exists.intro [0, 1, 2, 3, 4, 5, 6, 7, 8, 9, 10, 11, 12, 13, 14, 15, 16, 17, 18, 19, 20, 21, 22, 23, 24, 25] (Exists.intro [q2 0] (Exists.intro ([.inr (12, [q1 _, q2 1, q2 2, q2 3, q2 4, q2 5, q2 6, q2 7, q2 8, q2 9, q1 _, q1 _, q1 _, q1 _, q1 _, q3 _, q1 _, q1 _, q1 _, q2 10, q2 11, q1 _, q1 _, q1 _, q1 _, q1 _, q1 _, q2 12, q1 _, q2 13, q2 14, q2 15, q2 16, q1 _, q2 17, q1 _, q2 18, q2 19, q2 20, q2 21, q2 22, q1 _, q2 23, q2 24, q2 25]), .inl (1, 2400, .inl _)]) (And.intro rfl (And.intro rfl (And.intro rfl (And.intro ⟨⟨_, rfl⟩, rfl⟩ ?_))))))
      refine Exists.intro _ (Exists.intro _ (Exists.intro _ (Exists.intro _ (Exists.intro _ (Exists.intro _ (Exists.intro _ (Exists.intro _ (Exists.intro _ (Exists.intro _ (Exists.intro _ (Exists.intro _ (Exists.intro _ (Exists.intro _ (Exists.intro _ (Exists.intro _ (Exists.intro _ (Exists.intro _ (Exists.intro _ (Exists.intro _ (Exists.intro _ (And.intro rfl (And.intro rfl (And.intro (by first | omega | assumption | exact q_rg_up (by assumption) (by omega) | exact q_rg_up (q_rg_up (by assumption) (by omega)) (by omega) | exact q_rg_cpy (by assumption) (by assumption)) (?_))))))))))))))))))))))))
      intro z75 h75
      refine Exists.intro [] (Exists.intro [q1 _, q1 _, q1 _] (Exists.intro [] (And.intro rfl (And.intro rfl (And.intro rfl (And.intro trivial ?_))))))
      refine Exists.intro _ (Exists.intro _ (Exists.intro _ (And.intro rfl (And.intro rfl (?_)))))
      intro z82 h82
      apply And.intro
      · intro h85
        first | replace h82 := dj1 h82 h85 | replace h82 := dj0 h82 h85
        apply And.intro
        · intro h125
          apply And.intro
          · exact trivial
          apply And.intro
          · exact trivial
          exact hQ _ _ _ _ _ (by first | omega | assumption | exact q_rg_up (by assumption) (by omega) | exact q_rg_up (q_rg_up (by assumption) (by omega)) (by omega) | exact q_rg_cpy (by assumption) (by assumption))
        · intro h125
          apply And.intro
          · exact trivial
          apply And.intro
          · exact trivial
          exact hQ _ _ _ _ _ (by first | omega | assumption | exact q_rg_up (by assumption) (by omega) | exact q_rg_up (q_rg_up (by assumption) (by omega)) (by omega) | exact q_rg_cpy (by assumption) (by assumption))
      · intro h85
        first | replace h82 := dj1 h82 h85 | replace h82 := dj0 h82 h85
        intro z95 h95
        replace h95 := e_rngl h95
        refine Exists.intro [0, 1, 2, 3, 4, 5, 6, 7, 8, 9, 10, 11, 12, 13, 14, 15, 16, 17, 18, 19, 20, 21, 22, 23, 24, 25] (Exists.intro [q2 0] (Exists.intro ([.inr (12, [q1 _, q2 1, q2 2, q2 3, q2 4, q2 5, q2 6, q2 7, q2 8, q2 9, q1 _, q1 _, q1 _, q1 _, q1 _, q3 _, q1 _, q1 _, q1 _, q2 10, q2 11, q1 _, q1 _, q1 _, q1 _, q1 _, q1 _, q2 12, q1 _, q2 13, q2 14, q2 15, q2 16, q1 _, q2 17, q1 _, q2 18, q2 19, q2 20, q2 21, q2 22, q1 _, q2 23, q2 24, q2 25]), .inl (1, 2400, .inl _)]) (And.intro rfl (And.intro rfl (And.intro rfl (And.intro ⟨⟨_, rfl⟩, rfl⟩ ?_))))))
        refine Exists.intro _ (Exists.intro _ (Exists.intro _ (Exists.intro _ (Exists.intro _ (Exists.intro _ (Exists.intro _ (Exists.intro _ (Exists.intro _ (Exists.intro _ (Exists.intro _ (Exists.intro _ (Exists.intro _ (Exists.intro _ (Exists.intro _ (Exists.intro _ (Exists.intro _ (Exists.intro _ (Exists.intro _ (Exists.intro _ (Exists.intro _ (And.intro rfl (And.intro rfl (And.intro (by first | omega | assumption | exact q_rg_up (by assumption) (by omega) | exact q_rg_up (q_rg_up (by assumption) (by omega)) (by omega) | exact q_rg_cpy (by assumption) (by assumption)) (?_))))))))))))))))))))))))
        intro z97 h97
        intro z101 h101
        replace h101 := e_rngl h101
        apply And.intro
        · exact trivial
        intro z111 h111
        first | replace h111 := e_add h111 (by omega) | replace h111 := e_rng h111
        apply And.intro
        · exact trivial
        intro z115 h115
        first | replace h115 := e_add h115 (by omega) | replace h115 := e_rng h115
        exact ⟨_, ⟨_, _, _, _, _, _, rfl, rfl, rfl, rfl, (by first | omega | assumption | exact q_rg_up (by assumption) (by omega) | exact q_rg_up (q_rg_up (by assumption) (by omega)) (by omega) | exact q_rg_cpy (by assumption) (by assumption))⟩, by omega⟩
    by_cases h163 : dz = 163
    · subst h163
      obtain ⟨y_mre, y_mbe, y_mso, y_mva, y_mwo, v2, rfl, rfl, rfl, hn, hp⟩ := hI
      refine Exists.intro [0, 1, 2, 3, 4, 5, 6, 7, 8, 9, 10, 11, 12, 13, 14, 15, 16, 17, 18, 19, 20, 21, 22, 23, 24, 25] (Exists.intro [q2 0] (Exists.intro ([.inr (12, [q1 _, q2 1, q2 2, q2 3, q2 4, q2 5, q2 6, q2 7, q2 8, q2 9, q1 _, q1 _, q1 _, q1 _, q1 _, q3 _, q1 _, q1 _, q1 _, q2 10, q2 11, q1 _, q1 _, q1 _, q1 _, q1 _, q1 _, q2 12, q1 _, q2 13, q2 14, q2 15, q2 16, q1 _, q2 17, q1 _, q2 18, q2 19, q2 20, q2 21, q2 22, q1 _, q2 23, q2 24, q2 25]), .inl (1, 2400, .inl _)]) (And.intro rfl (And.intro rfl (And.intro rfl (And.intro ⟨⟨_, rfl⟩, rfl⟩ ?_))))))
      refine Exists.intro _ (Exists.intro _ (Exists.intro _ (Exists.intro _ (Exists.intro _ (Exists.intro _ (Exists.intro _ (Exists.intro _ (Exists.intro _ (Exists.intro _ (Exists.intro _ (Exists.intro _ (Exists.intro _ (Exists.intro _ (Exists.intro _ (Exists.intro _ (Exists.intro _ (Exists.intro _ (Exists.intro _ (Exists.intro _ (Exists.intro _ (And.intro rfl (And.intro rfl (And.intro (by first | omega | assumption | exact q_rg_up (by assumption) (by omega) | exact q_rg_up (q_rg_up (by assumption) (by omega)) (by omega) | exact q_rg_cpy (by assumption) (by assumption)) (?_))))))))))))))))))))))))
      intro z164 h164
      refine Exists.intro [] (Exists.intro [q1 _, q1 _, q1 _] (Exists.intro [] (And.intro rfl (And.intro rfl (And.intro rfl (And.intro trivial ?_))))))
      refine Exists.intro _ (Exists.intro _ (Exists.intro _ (And.intro rfl (And.intro rfl (?_)))))
      intro z171 h171
      apply And.intro
      · intro h174
        first | replace h171 := dj1 h171 h174 | replace h171 := dj0 h171 h174
        apply And.intro
        · intro h227
          apply And.intro
          · exact trivial
          exact hQ _ _ _ _ _ (by first | omega | assumption | exact q_rg_up (by assumption) (by omega) | exact q_rg_up (q_rg_up (by assumption) (by omega)) (by omega) | exact q_rg_cpy (by assumption) (by assumption))
        · intro h227
          apply And.intro
          · exact trivial
          exact hQ _ _ _ _ _ (by first | omega | assumption | exact q_rg_up (by assumption) (by omega) | exact q_rg_up (q_rg_up (by assumption) (by omega)) (by omega) | exact q_rg_cpy (by assumption) (by assumption))
      · intro h174
        first | replace h171 := dj1 h171 h174 | replace h171 := dj0 h171 h174
        apply And.intro
        · intro h180
          apply And.intro
          · exact trivial
          intro z214 h214
          first | replace h214 := e_add h214 (by omega) | replace h214 := e_rng h214
          apply And.intro
          · exact trivial
          intro z218 h218
          first | replace h218 := e_add h218 (by omega) | replace h218 := e_rng h218
          exact ⟨_, ⟨_, _, _, _, _, _, rfl, rfl, rfl, rfl, (by first | omega | assumption | exact q_rg_up (by assumption) (by omega) | exact q_rg_up (q_rg_up (by assumption) (by omega)) (by omega) | exact q_rg_cpy (by assumption) (by assumption))⟩, by omega⟩
        · intro h180
          intro z189 h189
          first | replace h189 := e_mul h189 (by omega) | replace h189 := e_rng h189
          refine Exists.intro [0, 1, 2, 3, 4, 5, 6, 7, 8, 9, 10, 11, 12, 13, 14, 15, 16, 17, 18, 19, 20, 21, 22, 23, 24, 25] (Exists.intro [q2 0] (Exists.intro ([.inr (12, [q1 _, q2 1, q2 2, q2 3, q2 4, q2 5, q2 6, q2 7, q2 8, q2 9, q1 _, q1 _, q1 _, q1 _, q1 _, q3 _, q1 _, q1 _, q1 _, q2 10, q2 11, q1 _, q1 _, q1 _, q1 _, q1 _, q1 _, q2 12, q1 _, q2 13, q2 14, q2 15, q2 16, q1 _, q2 17, q1 _, q2 18, q2 19, q2 20, q2 21, q2 22, q1 _, q2 23, q2 24, q2 25]), .inl (1, 2400, .inl _)]) (And.intro rfl (And.intro rfl (And.intro rfl (And.intro ⟨⟨_, rfl⟩, rfl⟩ ?_))))))
          refine Exists.intro _ (Exists.intro _ (Exists.intro _ (Exists.intro _ (Exists.intro _ (Exists.intro _ (Exists.intro _ (Exists.intro _ (Exists.intro _ (Exists.intro _ (Exists.intro _ (Exists.intro _ (Exists.intro _ (Exists.intro _ (Exists.intro _ (Exists.intro _ (Exists.intro _ (Exists.intro _ (Exists.intro _ (Exists.intro _ (Exists.intro _ (And.intro rfl (And.intro rfl (And.intro (by first | omega | assumption | exact q_rg_up (by assumption) (by omega) | exact q_rg_up (q_rg_up (by assumption) (by omega)) (by omega) | exact q_rg_cpy (by assumption) (by assumption)) (?_))))))))))))))))))))))))
          intro z191 h191
          intro z194 h194
          first | replace h194 := e_add h194 (by omega) | replace h194 := e_rng h194
          intro z197 h197
          first | replace h197 := e_sub h197 (by omega) | replace h197 := e_rng h197
          apply And.intro
          · exact trivial
          intro z214 h214
          first | replace h214 := e_add h214 (by omega) | replace h214 := e_rng h214
          apply And.intro
          · exact trivial
          intro z218 h218
          first | replace h218 := e_add h218 (by omega) | replace h218 := e_rng h218
          exact ⟨_, ⟨_, _, _, _, _, _, rfl, rfl, rfl, rfl, (by first | omega | assumption | exact q_rg_up (by assumption) (by omega) | exact q_rg_up (q_rg_up (by assumption) (by omega)) (by omega) | exact q_rg_cpy (by assumption) (by assumption))⟩, by omega⟩
    simp only [I_X12_token, h0, h74, h163, if_false] at hI
  rintro lv st w' ⟨rfl, rfl, rfl⟩
  exact ⟨_, _, rfl, rfl, rfl, rfl, (by first | omega | assumption | exact q_rg_up (by assumption) (by omega) | exact q_rg_up (q_rg_up (by assumption) (by omega)) (by omega) | exact q_rg_cpy (by assumption) (by assumption))⟩
