theorem dX12_borough_0 : decode cX12_borough 0 = .ok (.aload_n 0, 1) := by decide +kernel
theorem dX12_borough_1 : decode cX12_borough 1 = .ok (.iconst 0, 1) := by decide +kernel
theorem dX12_borough_2 : decode cX12_borough 2 = .ok (.putfield 88, 3) := by decide +kernel
theorem dX12_borough_5 : decode cX12_borough 5 = .ok (.aload_n 0, 1) := by decide +kernel
theorem dX12_borough_6 : decode cX12_borough 6 = .ok (.iload_n 1, 1) := by decide +kernel
theorem dX12_borough_7 : decode cX12_borough 7 = .ok (.invokevirtual 306, 3) := by decide +kernel
theorem dX12_borough_10 : decode cX12_borough 10 = .ok (.ifCond .ne 6, 3) := by decide +kernel
theorem dX12_borough_13 : decode cX12_borough 13 = .ok (.bipush (-2), 2) := by decide +kernel
theorem dX12_borough_15 : decode cX12_borough 15 = .ok (.ireturn, 1) := by decide +kernel
theorem dX12_borough_16 : decode cX12_borough 16 = .ok (.iload_n 2, 1) := by decide +kernel
theorem dX12_borough_17 : decode cX12_borough 17 = .ok (.bipush 70, 2) := by decide +kernel
theorem dX12_borough_19 : decode cX12_borough 19 = .ok (.bipush 101, 2) := by decide +kernel
theorem dX12_borough_21 : decode cX12_borough 21 = .ok (.invokestatic 100, 3) := by decide +kernel
theorem dX12_borough_24 : decode cX12_borough 24 = .ok (.ifCond .eq 33, 3) := by decide +kernel
theorem dX12_borough_27 : decode cX12_borough 27 = .ok (.aload_n 0, 1) := by decide +kernel
theorem dX12_borough_28 : decode cX12_borough 28 = .ok (.iload_n 2, 1) := by decide +kernel
theorem dX12_borough_29 : decode cX12_borough 29 = .ok (.bipush 70, 2) := by decide +kernel
theorem dX12_borough_31 : decode cX12_borough 31 = .ok (.isub, 1) := by decide +kernel
theorem dX12_borough_32 : decode cX12_borough 32 = .ok (.iconst 4, 1) := by decide +kernel
theorem dX12_borough_33 : decode cX12_borough 33 = .ok (.idiv, 1) := by decide +kernel
theorem dX12_borough_34 : decode cX12_borough 34 = .ok (.invokevirtual 309, 3) := by decide +kernel
theorem dX12_borough_37 : decode cX12_borough 37 = .ok (.ifCond .eq 17, 3) := by decide +kernel
theorem dX12_borough_40 : decode cX12_borough 40 = .ok (.aload_n 0, 1) := by decide +kernel
theorem dX12_borough_41 : decode cX12_borough 41 = .ok (.bipush 43, 2) := by decide +kernel
theorem dX12_borough_43 : decode cX12_borough 43 = .ok (.iload_n 2, 1) := by decide +kernel
theorem dX12_borough_44 : decode cX12_borough 44 = .ok (.iadd, 1) := by decide +kernel
theorem dX12_borough_45 : decode cX12_borough 45 = .ok (.bipush 70, 2) := by decide +kernel
theorem dX12_borough_47 : decode cX12_borough 47 = .ok (.isub, 1) := by decide +kernel
theorem dX12_borough_48 : decode cX12_borough 48 = .ok (.invokevirtual 299, 3) := by decide +kernel
theorem dX12_borough_51 : decode cX12_borough 51 = .ok (.goto 5, 3) := by decide +kernel
theorem dX12_borough_54 : decode cX12_borough 54 = .ok (.bipush (-2), 2) := by decide +kernel
theorem dX12_borough_56 : decode cX12_borough 56 = .ok (.ireturn, 1) := by decide +kernel
theorem dX12_borough_57 : decode cX12_borough 57 = .ok (.iload_n 2, 1) := by decide +kernel
theorem dX12_borough_58 : decode cX12_borough 58 = .ok (.bipush 10, 2) := by decide +kernel
theorem dX12_borough_60 : decode cX12_borough 60 = .ok (.irem, 1) := by decide +kernel
theorem dX12_borough_61 : decode cX12_borough 61 = .ok (.istore_n 3, 1) := by decide +kernel
theorem dX12_borough_62 : decode cX12_borough 62 = .ok (.iload_n 2, 1) := by decide +kernel
theorem dX12_borough_63 : decode cX12_borough 63 = .ok (.bipush 10, 2) := by decide +kernel
theorem dX12_borough_65 : decode cX12_borough 65 = .ok (.idiv, 1) := by decide +kernel
theorem dX12_borough_66 : decode cX12_borough 66 = .ok (.tableswitch 191 1 6 #[38, 59, 81, 104, 133, 162], 38) := by decide +kernel
theorem dX12_borough_104 : decode cX12_borough 104 = .ok (.aload_n 0, 1) := by decide +kernel
theorem dX12_borough_105 : decode cX12_borough 105 = .ok (.iload_n 3, 1) := by decide +kernel
theorem dX12_borough_106 : decode cX12_borough 106 = .ok (.invokevirtual 309, 3) := by decide +kernel
theorem dX12_borough_109 : decode cX12_borough 109 = .ok (.ifCond .eq 13, 3) := by decide +kernel
theorem dX12_borough_112 : decode cX12_borough 112 = .ok (.aload_n 0, 1) := by decide +kernel
theorem dX12_borough_113 : decode cX12_borough 113 = .ok (.iconst 5, 1) := by decide +kernel
theorem dX12_borough_114 : decode cX12_borough 114 = .ok (.iload_n 3, 1) := by decide +kernel
theorem dX12_borough_115 : decode cX12_borough 115 = .ok (.iadd, 1) := by decide +kernel
theorem dX12_borough_116 : decode cX12_borough 116 = .ok (.invokevirtual 299, 3) := by decide +kernel
theorem dX12_borough_119 : decode cX12_borough 119 = .ok (.goto 5, 3) := by decide +kernel
theorem dX12_borough_122 : decode cX12_borough 122 = .ok (.bipush (-2), 2) := by decide +kernel
theorem dX12_borough_124 : decode cX12_borough 124 = .ok (.ireturn, 1) := by decide +kernel
theorem dX12_borough_125 : decode cX12_borough 125 = .ok (.aload_n 0, 1) := by decide +kernel
theorem dX12_borough_126 : decode cX12_borough 126 = .ok (.iload_n 3, 1) := by decide +kernel
theorem dX12_borough_127 : decode cX12_borough 127 = .ok (.invokevirtual 309, 3) := by decide +kernel
theorem dX12_borough_130 : decode cX12_borough 130 = .ok (.ifCond .eq 14, 3) := by decide +kernel
theorem dX12_borough_133 : decode cX12_borough 133 = .ok (.aload_n 0, 1) := by decide +kernel
theorem dX12_borough_134 : decode cX12_borough 134 = .ok (.bipush 13, 2) := by decide +kernel
theorem dX12_borough_136 : decode cX12_borough 136 = .ok (.iload_n 3, 1) := by decide +kernel
theorem dX12_borough_137 : decode cX12_borough 137 = .ok (.iadd, 1) := by decide +kernel
theorem dX12_borough_138 : decode cX12_borough 138 = .ok (.invokevirtual 299, 3) := by decide +kernel
theorem dX12_borough_141 : decode cX12_borough 141 = .ok (.goto 5, 3) := by decide +kernel
theorem dX12_borough_144 : decode cX12_borough 144 = .ok (.bipush (-2), 2) := by decide +kernel
theorem dX12_borough_146 : decode cX12_borough 146 = .ok (.ireturn, 1) := by decide +kernel
theorem dX12_borough_147 : decode cX12_borough 147 = .ok (.iload_n 3, 1) := by decide +kernel
theorem dX12_borough_148 : decode cX12_borough 148 = .ok (.iconst 0, 1) := by decide +kernel
theorem dX12_borough_149 : decode cX12_borough 149 = .ok (.iconst 3, 1) := by decide +kernel
theorem dX12_borough_150 : decode cX12_borough 150 = .ok (.invokestatic 100, 3) := by decide +kernel
theorem dX12_borough_153 : decode cX12_borough 153 = .ok (.ifCond .eq 14, 3) := by decide +kernel
theorem dX12_borough_156 : decode cX12_borough 156 = .ok (.aload_n 0, 1) := by decide +kernel
theorem dX12_borough_157 : decode cX12_borough 157 = .ok (.bipush 21, 2) := by decide +kernel
theorem dX12_borough_159 : decode cX12_borough 159 = .ok (.iload_n 3, 1) := by decide +kernel
theorem dX12_borough_160 : decode cX12_borough 160 = .ok (.iadd, 1) := by decide +kernel
theorem dX12_borough_161 : decode cX12_borough 161 = .ok (.invokevirtual 299, 3) := by decide +kernel
theorem dX12_borough_164 : decode cX12_borough 164 = .ok (.goto 5, 3) := by decide +kernel
theorem dX12_borough_167 : decode cX12_borough 167 = .ok (.bipush (-2), 2) := by decide +kernel
theorem dX12_borough_169 : decode cX12_borough 169 = .ok (.ireturn, 1) := by decide +kernel
theorem dX12_borough_170 : decode cX12_borough 170 = .ok (.iload_n 3, 1) := by decide +kernel
theorem dX12_borough_171 : decode cX12_borough 171 = .ok (.iconst 0, 1) := by decide +kernel
theorem dX12_borough_172 : decode cX12_borough 172 = .ok (.aload_n 0, 1) := by decide +kernel
theorem dX12_borough_173 : decode cX12_borough 173 = .ok (.iconst 3, 1) := by decide +kernel
theorem dX12_borough_174 : decode cX12_borough 174 = .ok (.invokevirtual 299, 3) := by decide +kernel
theorem dX12_borough_177 : decode cX12_borough 177 = .ok (.iconst 1, 1) := by decide +kernel
theorem dX12_borough_178 : decode cX12_borough 178 = .ok (.isub, 1) := by decide +kernel
theorem dX12_borough_179 : decode cX12_borough 179 = .ok (.invokestatic 100, 3) := by decide +kernel
theorem dX12_borough_182 : decode cX12_borough 182 = .ok (.ifCond .eq 14, 3) := by decide +kernel
theorem dX12_borough_185 : decode cX12_borough 185 = .ok (.aload_n 0, 1) := by decide +kernel
theorem dX12_borough_186 : decode cX12_borough 186 = .ok (.bipush 25, 2) := by decide +kernel
theorem dX12_borough_188 : decode cX12_borough 188 = .ok (.iload_n 3, 1) := by decide +kernel
theorem dX12_borough_189 : decode cX12_borough 189 = .ok (.iadd, 1) := by decide +kernel
theorem dX12_borough_190 : decode cX12_borough 190 = .ok (.invokevirtual 299, 3) := by decide +kernel
theorem dX12_borough_193 : decode cX12_borough 193 = .ok (.goto 5, 3) := by decide +kernel
theorem dX12_borough_196 : decode cX12_borough 196 = .ok (.bipush (-2), 2) := by decide +kernel
theorem dX12_borough_198 : decode cX12_borough 198 = .ok (.ireturn, 1) := by decide +kernel
theorem dX12_borough_199 : decode cX12_borough 199 = .ok (.iload_n 3, 1) := by decide +kernel
theorem dX12_borough_200 : decode cX12_borough 200 = .ok (.iconst 0, 1) := by decide +kernel
theorem dX12_borough_201 : decode cX12_borough 201 = .ok (.aload_n 0, 1) := by decide +kernel
theorem dX12_borough_202 : decode cX12_borough 202 = .ok (.iconst 3, 1) := by decide +kernel
theorem dX12_borough_203 : decode cX12_borough 203 = .ok (.invokevirtual 299, 3) := by decide +kernel
theorem dX12_borough_206 : decode cX12_borough 206 = .ok (.iconst 1, 1) := by decide +kernel
theorem dX12_borough_207 : decode cX12_borough 207 = .ok (.isub, 1) := by decide +kernel
theorem dX12_borough_208 : decode cX12_borough 208 = .ok (.invokestatic 100, 3) := by decide +kernel
theorem dX12_borough_211 : decode cX12_borough 211 = .ok (.ifCond .eq 14, 3) := by decide +kernel
theorem dX12_borough_214 : decode cX12_borough 214 = .ok (.aload_n 0, 1) := by decide +kernel
theorem dX12_borough_215 : decode cX12_borough 215 = .ok (.bipush 31, 2) := by decide +kernel
theorem dX12_borough_217 : decode cX12_borough 217 = .ok (.iload_n 3, 1) := by decide +kernel
theorem dX12_borough_218 : decode cX12_borough 218 = .ok (.iadd, 1) := by decide +kernel
theorem dX12_borough_219 : decode cX12_borough 219 = .ok (.invokevirtual 299, 3) := by decide +kernel
theorem dX12_borough_222 : decode cX12_borough 222 = .ok (.goto 5, 3) := by decide +kernel
theorem dX12_borough_225 : decode cX12_borough 225 = .ok (.bipush (-2), 2) := by decide +kernel
theorem dX12_borough_227 : decode cX12_borough 227 = .ok (.ireturn, 1) := by decide +kernel
theorem dX12_borough_228 : decode cX12_borough 228 = .ok (.iload_n 3, 1) := by decide +kernel
theorem dX12_borough_229 : decode cX12_borough 229 = .ok (.iconst 0, 1) := by decide +kernel
theorem dX12_borough_230 : decode cX12_borough 230 = .ok (.aload_n 0, 1) := by decide +kernel
theorem dX12_borough_231 : decode cX12_borough 231 = .ok (.iconst 4, 1) := by decide +kernel
theorem dX12_borough_232 : decode cX12_borough 232 = .ok (.invokevirtual 299, 3) := by decide +kernel
theorem dX12_borough_235 : decode cX12_borough 235 = .ok (.iconst 1, 1) := by decide +kernel
theorem dX12_borough_236 : decode cX12_borough 236 = .ok (.isub, 1) := by decide +kernel
theorem dX12_borough_237 : decode cX12_borough 237 = .ok (.invokestatic 100, 3) := by decide +kernel
theorem dX12_borough_240 : decode cX12_borough 240 = .ok (.ifCond .eq 14, 3) := by decide +kernel
theorem dX12_borough_243 : decode cX12_borough 243 = .ok (.aload_n 0, 1) := by decide +kernel
theorem dX12_borough_244 : decode cX12_borough 244 = .ok (.bipush 37, 2) := by decide +kernel
theorem dX12_borough_246 : decode cX12_borough 246 = .ok (.iload_n 3, 1) := by decide +kernel
theorem dX12_borough_247 : decode cX12_borough 247 = .ok (.iadd, 1) := by decide +kernel
theorem dX12_borough_248 : decode cX12_borough 248 = .ok (.invokevirtual 299, 3) := by decide +kernel
theorem dX12_borough_251 : decode cX12_borough 251 = .ok (.goto 5, 3) := by decide +kernel
theorem dX12_borough_254 : decode cX12_borough 254 = .ok (.bipush (-2), 2) := by decide +kernel
theorem dX12_borough_256 : decode cX12_borough 256 = .ok (.ireturn, 1) := by decide +kernel
theorem dX12_borough_257 : decode cX12_borough 257 = .ok (.iload_n 2, 1) := by decide +kernel
theorem dX12_borough_258 : decode cX12_borough 258 = .ok (.iconst 0, 1) := by decide +kernel
theorem dX12_borough_259 : decode cX12_borough 259 = .ok (.iconst 4, 1) := by decide +kernel
theorem dX12_borough_260 : decode cX12_borough 260 = .ok (.invokestatic 100, 3) := by decide +kernel
theorem dX12_borough_263 : decode cX12_borough 263 = .ok (.ifCond .eq 11, 3) := by decide +kernel
theorem dX12_borough_266 : decode cX12_borough 266 = .ok (.aload_n 0, 1) := by decide +kernel
theorem dX12_borough_267 : decode cX12_borough 267 = .ok (.iload_n 2, 1) := by decide +kernel
theorem dX12_borough_268 : decode cX12_borough 268 = .ok (.invokevirtual 299, 3) := by decide +kernel
theorem dX12_borough_271 : decode cX12_borough 271 = .ok (.goto 5, 3) := by decide +kernel
theorem dX12_borough_274 : decode cX12_borough 274 = .ok (.bipush (-2), 2) := by decide +kernel
theorem dX12_borough_276 : decode cX12_borough 276 = .ok (.ireturn, 1) := by decide +kernel
def is_X12_borough : Nat → List Nat := fun d => []
set_option maxRecDepth 100000 in
def b_X12_borough_276 (J : Nat → List qV → List qV → qW → Prop) (Q : qR) : qK := x_iret Q
set_option maxRecDepth 100000 in
theorem s_X12_borough_276 {p : Program} {l : Launch} {e : Env} {R : Room} {s : State} {m : MethodId} {args : Array Value} {below : List Frame} {meth : Method} {c : Code} {nW : Nat} {dC : Nat → ClassId} {dI : Nat → Nat → Nat} {k : Nat → ClassId} {g : Nat → Nat} {A : Nat → Prop} {J : Nat → List qV → List qV → qW → Prop} {Q : qR} (X : q_X p R s m args meth c cX12_borough 4 nW 3 65 RX12 (some .int) dC dI k g A) (hJ : ∀ d : Nat, q_Sd p l e R s m args below meth c 4 nW dC dI k g A (MQ below (q_post (dC, dI) k g nW Q A) args s 0 0 A) d (x_cut (is_X12_borough d) (J d))) : q_Sd p l e R s m args below meth c 4 nW dC dI k g A (MQ below (q_post (dC, dI) k g nW Q A) args s 0 0 A) 276 (b_X12_borough_276 J Q) := by
  unfold b_X12_borough_276
  exact s_iret X dX12_borough_276
set_option maxRecDepth 100000 in
def b_X12_borough_256 (J : Nat → List qV → List qV → qW → Prop) (Q : qR) : qK := x_iret Q
set_option maxRecDepth 100000 in
theorem s_X12_borough_256 {p : Program} {l : Launch} {e : Env} {R : Room} {s : State} {m : MethodId} {args : Array Value} {below : List Frame} {meth : Method} {c : Code} {nW : Nat} {dC : Nat → ClassId} {dI : Nat → Nat → Nat} {k : Nat → ClassId} {g : Nat → Nat} {A : Nat → Prop} {J : Nat → List qV → List qV → qW → Prop} {Q : qR} (X : q_X p R s m args meth c cX12_borough 4 nW 3 65 RX12 (some .int) dC dI k g A) (hJ : ∀ d : Nat, q_Sd p l e R s m args below meth c 4 nW dC dI k g A (MQ below (q_post (dC, dI) k g nW Q A) args s 0 0 A) d (x_cut (is_X12_borough d) (J d))) : q_Sd p l e R s m args below meth c 4 nW dC dI k g A (MQ below (q_post (dC, dI) k g nW Q A) args s 0 0 A) 256 (b_X12_borough_256 J Q) := by
  unfold b_X12_borough_256
  exact s_iret X dX12_borough_256
set_option maxRecDepth 100000 in
def b_X12_borough_227 (J : Nat → List qV → List qV → qW → Prop) (Q : qR) : qK := x_iret Q
set_option maxRecDepth 100000 in
theorem s_X12_borough_227 {p : Program} {l : Launch} {e : Env} {R : Room} {s : State} {m : MethodId} {args : Array Value} {below : List Frame} {meth : Method} {c : Code} {nW : Nat} {dC : Nat → ClassId} {dI : Nat → Nat → Nat} {k : Nat → ClassId} {g : Nat → Nat} {A : Nat → Prop} {J : Nat → List qV → List qV → qW → Prop} {Q : qR} (X : q_X p R s m args meth c cX12_borough 4 nW 3 65 RX12 (some .int) dC dI k g A) (hJ : ∀ d : Nat, q_Sd p l e R s m args below meth c 4 nW dC dI k g A (MQ below (q_post (dC, dI) k g nW Q A) args s 0 0 A) d (x_cut (is_X12_borough d) (J d))) : q_Sd p l e R s m args below meth c 4 nW dC dI k g A (MQ below (q_post (dC, dI) k g nW Q A) args s 0 0 A) 227 (b_X12_borough_227 J Q) := by
  unfold b_X12_borough_227
  exact s_iret X dX12_borough_227
set_option maxRecDepth 100000 in
def b_X12_borough_198 (J : Nat → List qV → List qV → qW → Prop) (Q : qR) : qK := x_iret Q
set_option maxRecDepth 100000 in
theorem s_X12_borough_198 {p : Program} {l : Launch} {e : Env} {R : Room} {s : State} {m : MethodId} {args : Array Value} {below : List Frame} {meth : Method} {c : Code} {nW : Nat} {dC : Nat → ClassId} {dI : Nat → Nat → Nat} {k : Nat → ClassId} {g : Nat → Nat} {A : Nat → Prop} {J : Nat → List qV → List qV → qW → Prop} {Q : qR} (X : q_X p R s m args meth c cX12_borough 4 nW 3 65 RX12 (some .int) dC dI k g A) (hJ : ∀ d : Nat, q_Sd p l e R s m args below meth c 4 nW dC dI k g A (MQ below (q_post (dC, dI) k g nW Q A) args s 0 0 A) d (x_cut (is_X12_borough d) (J d))) : q_Sd p l e R s m args below meth c 4 nW dC dI k g A (MQ below (q_post (dC, dI) k g nW Q A) args s 0 0 A) 198 (b_X12_borough_198 J Q) := by
  unfold b_X12_borough_198
  exact s_iret X dX12_borough_198
set_option maxRecDepth 100000 in
def b_X12_borough_169 (J : Nat → List qV → List qV → qW → Prop) (Q : qR) : qK := x_iret Q
set_option maxRecDepth 100000 in
theorem s_X12_borough_169 {p : Program} {l : Launch} {e : Env} {R : Room} {s : State} {m : MethodId} {args : Array Value} {below : List Frame} {meth : Method} {c : Code} {nW : Nat} {dC : Nat → ClassId} {dI : Nat → Nat → Nat} {k : Nat → ClassId} {g : Nat → Nat} {A : Nat → Prop} {J : Nat → List qV → List qV → qW → Prop} {Q : qR} (X : q_X p R s m args meth c cX12_borough 4 nW 3 65 RX12 (some .int) dC dI k g A) (hJ : ∀ d : Nat, q_Sd p l e R s m args below meth c 4 nW dC dI k g A (MQ below (q_post (dC, dI) k g nW Q A) args s 0 0 A) d (x_cut (is_X12_borough d) (J d))) : q_Sd p l e R s m args below meth c 4 nW dC dI k g A (MQ below (q_post (dC, dI) k g nW Q A) args s 0 0 A) 169 (b_X12_borough_169 J Q) := by
  unfold b_X12_borough_169
  exact s_iret X dX12_borough_169
set_option maxRecDepth 100000 in
def b_X12_borough_146 (J : Nat → List qV → List qV → qW → Prop) (Q : qR) : qK := x_iret Q
set_option maxRecDepth 100000 in
theorem s_X12_borough_146 {p : Program} {l : Launch} {e : Env} {R : Room} {s : State} {m : MethodId} {args : Array Value} {below : List Frame} {meth : Method} {c : Code} {nW : Nat} {dC : Nat → ClassId} {dI : Nat → Nat → Nat} {k : Nat → ClassId} {g : Nat → Nat} {A : Nat → Prop} {J : Nat → List qV → List qV → qW → Prop} {Q : qR} (X : q_X p R s m args meth c cX12_borough 4 nW 3 65 RX12 (some .int) dC dI k g A) (hJ : ∀ d : Nat, q_Sd p l e R s m args below meth c 4 nW dC dI k g A (MQ below (q_post (dC, dI) k g nW Q A) args s 0 0 A) d (x_cut (is_X12_borough d) (J d))) : q_Sd p l e R s m args below meth c 4 nW dC dI k g A (MQ below (q_post (dC, dI) k g nW Q A) args s 0 0 A) 146 (b_X12_borough_146 J Q) := by
  unfold b_X12_borough_146
  exact s_iret X dX12_borough_146
set_option maxRecDepth 100000 in
def b_X12_borough_124 (J : Nat → List qV → List qV → qW → Prop) (Q : qR) : qK := x_iret Q
set_option maxRecDepth 100000 in
theorem s_X12_borough_124 {p : Program} {l : Launch} {e : Env} {R : Room} {s : State} {m : MethodId} {args : Array Value} {below : List Frame} {meth : Method} {c : Code} {nW : Nat} {dC : Nat → ClassId} {dI : Nat → Nat → Nat} {k : Nat → ClassId} {g : Nat → Nat} {A : Nat → Prop} {J : Nat → List qV → List qV → qW → Prop} {Q : qR} (X : q_X p R s m args meth c cX12_borough 4 nW 3 65 RX12 (some .int) dC dI k g A) (hJ : ∀ d : Nat, q_Sd p l e R s m args below meth c 4 nW dC dI k g A (MQ below (q_post (dC, dI) k g nW Q A) args s 0 0 A) d (x_cut (is_X12_borough d) (J d))) : q_Sd p l e R s m args below meth c 4 nW dC dI k g A (MQ below (q_post (dC, dI) k g nW Q A) args s 0 0 A) 124 (b_X12_borough_124 J Q) := by
  unfold b_X12_borough_124
  exact s_iret X dX12_borough_124
set_option maxRecDepth 100000 in
def b_X12_borough_56 (J : Nat → List qV → List qV → qW → Prop) (Q : qR) : qK := x_iret Q
set_option maxRecDepth 100000 in
theorem s_X12_borough_56 {p : Program} {l : Launch} {e : Env} {R : Room} {s : State} {m : MethodId} {args : Array Value} {below : List Frame} {meth : Method} {c : Code} {nW : Nat} {dC : Nat → ClassId} {dI : Nat → Nat → Nat} {k : Nat → ClassId} {g : Nat → Nat} {A : Nat → Prop} {J : Nat → List qV → List qV → qW → Prop} {Q : qR} (X : q_X p R s m args meth c cX12_borough 4 nW 3 65 RX12 (some .int) dC dI k g A) (hJ : ∀ d : Nat, q_Sd p l e R s m args below meth c 4 nW dC dI k g A (MQ below (q_post (dC, dI) k g nW Q A) args s 0 0 A) d (x_cut (is_X12_borough d) (J d))) : q_Sd p l e R s m args below meth c 4 nW dC dI k g A (MQ below (q_post (dC, dI) k g nW Q A) args s 0 0 A) 56 (b_X12_borough_56 J Q) := by
  unfold b_X12_borough_56
  exact s_iret X dX12_borough_56
set_option maxRecDepth 100000 in
def b_X12_borough_43 (J : Nat → List qV → List qV → qW → Prop) (Q : qR) : qK := x_iload 2 (x_iadd (x_int 70 (x_isub (x_callr (some 12) 2 spr_X12_of (b_X12_borough_56 J Q)))))
set_option maxRecDepth 100000 in
theorem s_X12_borough_43 {p : Program} {l : Launch} {e : Env} {R : Room} {s : State} {m : MethodId} {args : Array Value} {below : List Frame} {meth : Method} {c : Code} {nW : Nat} {dC : Nat → ClassId} {dI : Nat → Nat → Nat} {k : Nat → ClassId} {g : Nat → Nat} {A : Nat → Prop} {J : Nat → List qV → List qV → qW → Prop} {Q : qR} (X : q_X p R s m args meth c cX12_borough 4 nW 3 65 RX12 (some .int) dC dI k g A) (hJ : ∀ d : Nat, q_Sd p l e R s m args below meth c 4 nW dC dI k g A (MQ below (q_post (dC, dI) k g nW Q A) args s 0 0 A) d (x_cut (is_X12_borough d) (J d))) : q_Sd p l e R s m args below meth c 4 nW dC dI k g A (MQ below (q_post (dC, dI) k g nW Q A) args s 0 0 A) 43 (b_X12_borough_43 J Q) := by
  unfold b_X12_borough_43
  refine s_iload_n X rfl dX12_borough_43 ?_
  refine s_iadd X dX12_borough_44 ?_
  refine s_bipush X ⟨by decide, by decide⟩ (by decide) dX12_borough_45 ?_
  refine s_isub X dX12_borough_47 ?_
  refine s_callVr X (m_X12_of l) tw_1189 tw_1190 tw_1603 tw_134 tw_1191 rfl (by decide +kernel) ⟨by decide, by decide⟩ dX12_borough_48 ?_
  refine s_goto X (tgt := 56) dX12_borough_51 (by decide) ?_
  exact s_X12_borough_56 X hJ
set_option maxRecDepth 100000 in
def b_X12_borough_0 (J : Nat → List qV → List qV → qW → Prop) (Q : qR) : qK := x_aload 0 (x_int 0 (x_put 12 0 q_oki (x_nw (x_aload 0 (x_iload 1 (x_call (some 12) 2 sp_X12_hand (x_nw (x_if_ne (x_iload 2 (x_int 70 (x_int 101 (x_callr none 3 spr_X12_in (x_if_eq (x_iload 2 (x_int 10 (x_irem (x_istore 3 (x_iload 2 (x_int 10 (x_idiv (x_sw 1 6 [x_aload 0 (x_iload 3 (x_callr (some 12) 2 spr_X12_isPerson (x_if_eq (x_int (-2) (b_X12_borough_124 J Q)) (x_aload 0 (x_int 5 (x_iload 3 (x_iadd (x_callr (some 12) 2 spr_X12_of (b_X12_borough_124 J Q))))))))), x_aload 0 (x_iload 3 (x_callr (some 12) 2 spr_X12_isPerson (x_if_eq (x_int (-2) (b_X12_borough_146 J Q)) (x_aload 0 (x_int 13 (x_iload 3 (x_iadd (x_callr (some 12) 2 spr_X12_of (b_X12_borough_146 J Q))))))))), x_iload 3 (x_int 0 (x_int 3 (x_callr none 3 spr_X12_in (x_if_eq (x_int (-2) (b_X12_borough_169 J Q)) (x_aload 0 (x_int 21 (x_iload 3 (x_iadd (x_callr (some 12) 2 spr_X12_of (b_X12_borough_169 J Q)))))))))), x_iload 3 (x_int 0 (x_aload 0 (x_int 3 (x_callr (some 12) 2 spr_X12_of (x_int 1 (x_isub (x_callr none 3 spr_X12_in (x_if_eq (x_int (-2) (b_X12_borough_198 J Q)) (x_aload 0 (x_int 25 (x_iload 3 (x_iadd (x_callr (some 12) 2 spr_X12_of (b_X12_borough_198 J Q)))))))))))))), x_iload 3 (x_int 0 (x_aload 0 (x_int 3 (x_callr (some 12) 2 spr_X12_of (x_int 1 (x_isub (x_callr none 3 spr_X12_in (x_if_eq (x_int (-2) (b_X12_borough_227 J Q)) (x_aload 0 (x_int 31 (x_iload 3 (x_iadd (x_callr (some 12) 2 spr_X12_of (b_X12_borough_227 J Q)))))))))))))), x_iload 3 (x_int 0 (x_aload 0 (x_int 4 (x_callr (some 12) 2 spr_X12_of (x_int 1 (x_isub (x_callr none 3 spr_X12_in (x_if_eq (x_int (-2) (b_X12_borough_256 J Q)) (x_aload 0 (x_int 37 (x_iload 3 (x_iadd (x_callr (some 12) 2 spr_X12_of (b_X12_borough_256 J Q))))))))))))))] (x_iload 2 (x_int 0 (x_int 4 (x_callr none 3 spr_X12_in (x_if_eq (x_int (-2) (b_X12_borough_276 J Q)) (x_aload 0 (x_iload 2 (x_callr (some 12) 2 spr_X12_of (b_X12_borough_276 J Q))))))))))))))))) (x_aload 0 (x_iload 2 (x_int 70 (x_isub (x_int 4 (x_idiv (x_callr (some 12) 2 spr_X12_isPerson (x_if_eq (x_int (-2) (b_X12_borough_56 J Q)) (x_aload 0 (x_int 43 (b_X12_borough_43 J Q)))))))))))))))) (x_int (-2) (x_iret Q))))))))))
set_option maxRecDepth 100000 in
theorem s_X12_borough_0 {p : Program} {l : Launch} {e : Env} {R : Room} {s : State} {m : MethodId} {args : Array Value} {below : List Frame} {meth : Method} {c : Code} {nW : Nat} {dC : Nat → ClassId} {dI : Nat → Nat → Nat} {k : Nat → ClassId} {g : Nat → Nat} {A : Nat → Prop} {J : Nat → List qV → List qV → qW → Prop} {Q : qR} (X : q_X p R s m args meth c cX12_borough 4 nW 3 65 RX12 (some .int) dC dI k g A) (hJ : ∀ d : Nat, q_Sd p l e R s m args below meth c 4 nW dC dI k g A (MQ below (q_post (dC, dI) k g nW Q A) args s 0 0 A) d (x_cut (is_X12_borough d) (J d))) : q_Sd p l e R s m args below meth c 4 nW dC dI k g A (MQ below (q_post (dC, dI) k g nW Q A) args s 0 0 A) 0 (b_X12_borough_0 J Q) := by
  unfold b_X12_borough_0
  refine s_aload_n X rfl dX12_borough_0 ?_
  refine s_iconst X ⟨by decide, by decide⟩ dX12_borough_1 ?_
  refine s_put X (T := TX12) (C := RX12) (N := 45) tu_X12 tyX12_ok nmX12 rfl (by decide) tw_997 rfl (by decide +kernel) q_oki_t dX12_borough_2 ?_
  refine s_nw ?_
  refine s_aload_n X rfl dX12_borough_5 ?_
  refine s_iload_n X rfl dX12_borough_6 ?_
  refine s_callV X (m_X12_hand l) tw_1186 tw_1187 tw_1585 tw_134 tw_1188 rfl (by decide +kernel) ⟨by decide, by decide⟩ dX12_borough_7 ?_
  refine s_nw ?_
  refine s_if_ne X (tgt := 16) dX12_borough_10 (by decide) ?_ ?_
  · refine s_iload_n X rfl dX12_borough_16 ?_
    refine s_bipush X ⟨by decide, by decide⟩ (by decide) dX12_borough_17 ?_
    refine s_bipush X ⟨by decide, by decide⟩ (by decide) dX12_borough_19 ?_
    refine s_callSr X (m_X12_in l) tw_1054 tw_1055 tw_134 tw_1056 (by decide +kernel) ⟨by decide, by decide⟩ dX12_borough_21 ?_
    refine s_if_eq X (tgt := 57) dX12_borough_24 (by decide) ?_ ?_
    · refine s_iload_n X rfl dX12_borough_57 ?_
      refine s_bipush X ⟨by decide, by decide⟩ (by decide) dX12_borough_58 ?_
      refine s_irem X dX12_borough_60 ?_
      refine s_istore_n X rfl (by decide) dX12_borough_61 ?_
      refine s_iload_n X rfl dX12_borough_62 ?_
      refine s_bipush X ⟨by decide, by decide⟩ (by decide) dX12_borough_63 ?_
      refine s_idiv X dX12_borough_65 ?_
      refine s_sw X (ts := [104, 125, 147, 170, 199, 228]) (td := 257) dX12_borough_66 (by decide) (by decide) (by decide) rfl ?_ ?_
      · intro i t K ht hK
        match i, ht, hK with
        | 0, ht, hK =>
          cases ht
          cases hK
          refine s_aload_n X rfl dX12_borough_104 ?_
          refine s_iload_n X rfl dX12_borough_105 ?_
          refine s_callVr X (m_X12_isPerson l) tw_1192 tw_1193 tw_1591 tw_134 tw_1194 rfl (by decide +kernel) ⟨by decide, by decide⟩ dX12_borough_106 ?_
          refine s_if_eq X (tgt := 122) dX12_borough_109 (by decide) ?_ ?_
          · refine s_bipush X ⟨by decide, by decide⟩ (by decide) dX12_borough_122 ?_
            exact s_X12_borough_124 X hJ
          · refine s_aload_n X rfl dX12_borough_112 ?_
            refine s_iconst X ⟨by decide, by decide⟩ dX12_borough_113 ?_
            refine s_iload_n X rfl dX12_borough_114 ?_
            refine s_iadd X dX12_borough_115 ?_
            refine s_callVr X (m_X12_of l) tw_1189 tw_1190 tw_1603 tw_134 tw_1191 rfl (by decide +kernel) ⟨by decide, by decide⟩ dX12_borough_116 ?_
            refine s_goto X (tgt := 124) dX12_borough_119 (by decide) ?_
            exact s_X12_borough_124 X hJ
        | 1, ht, hK =>
          cases ht
          cases hK
          refine s_aload_n X rfl dX12_borough_125 ?_
          refine s_iload_n X rfl dX12_borough_126 ?_
          refine s_callVr X (m_X12_isPerson l) tw_1192 tw_1193 tw_1591 tw_134 tw_1194 rfl (by decide +kernel) ⟨by decide, by decide⟩ dX12_borough_127 ?_
          refine s_if_eq X (tgt := 144) dX12_borough_130 (by decide) ?_ ?_
          · refine s_bipush X ⟨by decide, by decide⟩ (by decide) dX12_borough_144 ?_
            exact s_X12_borough_146 X hJ
          · refine s_aload_n X rfl dX12_borough_133 ?_
            refine s_bipush X ⟨by decide, by decide⟩ (by decide) dX12_borough_134 ?_
            refine s_iload_n X rfl dX12_borough_136 ?_
            refine s_iadd X dX12_borough_137 ?_
            refine s_callVr X (m_X12_of l) tw_1189 tw_1190 tw_1603 tw_134 tw_1191 rfl (by decide +kernel) ⟨by decide, by decide⟩ dX12_borough_138 ?_
            refine s_goto X (tgt := 146) dX12_borough_141 (by decide) ?_
            exact s_X12_borough_146 X hJ
        | 2, ht, hK =>
          cases ht
          cases hK
          refine s_iload_n X rfl dX12_borough_147 ?_
          refine s_iconst X ⟨by decide, by decide⟩ dX12_borough_148 ?_
          refine s_iconst X ⟨by decide, by decide⟩ dX12_borough_149 ?_
          refine s_callSr X (m_X12_in l) tw_1054 tw_1055 tw_134 tw_1056 (by decide +kernel) ⟨by decide, by decide⟩ dX12_borough_150 ?_
          refine s_if_eq X (tgt := 167) dX12_borough_153 (by decide) ?_ ?_
          · refine s_bipush X ⟨by decide, by decide⟩ (by decide) dX12_borough_167 ?_
            exact s_X12_borough_169 X hJ
          · refine s_aload_n X rfl dX12_borough_156 ?_
            refine s_bipush X ⟨by decide, by decide⟩ (by decide) dX12_borough_157 ?_
            refine s_iload_n X rfl dX12_borough_159 ?_
            refine s_iadd X dX12_borough_160 ?_
            refine s_callVr X (m_X12_of l) tw_1189 tw_1190 tw_1603 tw_134 tw_1191 rfl (by decide +kernel) ⟨by decide, by decide⟩ dX12_borough_161 ?_
            refine s_goto X (tgt := 169) dX12_borough_164 (by decide) ?_
            exact s_X12_borough_169 X hJ
        | 3, ht, hK =>
          cases ht
          cases hK
          refine s_iload_n X rfl dX12_borough_170 ?_
          refine s_iconst X ⟨by decide, by decide⟩ dX12_borough_171 ?_
          refine s_aload_n X rfl dX12_borough_172 ?_
          refine s_iconst X ⟨by decide, by decide⟩ dX12_borough_173 ?_
          refine s_callVr X (m_X12_of l) tw_1189 tw_1190 tw_1603 tw_134 tw_1191 rfl (by decide +kernel) ⟨by decide, by decide⟩ dX12_borough_174 ?_
          refine s_iconst X ⟨by decide, by decide⟩ dX12_borough_177 ?_
          refine s_isub X dX12_borough_178 ?_
          refine s_callSr X (m_X12_in l) tw_1054 tw_1055 tw_134 tw_1056 (by decide +kernel) ⟨by decide, by decide⟩ dX12_borough_179 ?_
          refine s_if_eq X (tgt := 196) dX12_borough_182 (by decide) ?_ ?_
          · refine s_bipush X ⟨by decide, by decide⟩ (by decide) dX12_borough_196 ?_
            exact s_X12_borough_198 X hJ
          · refine s_aload_n X rfl dX12_borough_185 ?_
            refine s_bipush X ⟨by decide, by decide⟩ (by decide) dX12_borough_186 ?_
            refine s_iload_n X rfl dX12_borough_188 ?_
            refine s_iadd X dX12_borough_189 ?_
            refine s_callVr X (m_X12_of l) tw_1189 tw_1190 tw_1603 tw_134 tw_1191 rfl (by decide +kernel) ⟨by decide, by decide⟩ dX12_borough_190 ?_
            refine s_goto X (tgt := 198) dX12_borough_193 (by decide) ?_
            exact s_X12_borough_198 X hJ
        | 4, ht, hK =>
          cases ht
          cases hK
          refine s_iload_n X rfl dX12_borough_199 ?_
          refine s_iconst X ⟨by decide, by decide⟩ dX12_borough_200 ?_
          refine s_aload_n X rfl dX12_borough_201 ?_
          refine s_iconst X ⟨by decide, by decide⟩ dX12_borough_202 ?_
          refine s_callVr X (m_X12_of l) tw_1189 tw_1190 tw_1603 tw_134 tw_1191 rfl (by decide +kernel) ⟨by decide, by decide⟩ dX12_borough_203 ?_
          refine s_iconst X ⟨by decide, by decide⟩ dX12_borough_206 ?_
          refine s_isub X dX12_borough_207 ?_
          refine s_callSr X (m_X12_in l) tw_1054 tw_1055 tw_134 tw_1056 (by decide +kernel) ⟨by decide, by decide⟩ dX12_borough_208 ?_
          refine s_if_eq X (tgt := 225) dX12_borough_211 (by decide) ?_ ?_
          · refine s_bipush X ⟨by decide, by decide⟩ (by decide) dX12_borough_225 ?_
            exact s_X12_borough_227 X hJ
          · refine s_aload_n X rfl dX12_borough_214 ?_
            refine s_bipush X ⟨by decide, by decide⟩ (by decide) dX12_borough_215 ?_
            refine s_iload_n X rfl dX12_borough_217 ?_
            refine s_iadd X dX12_borough_218 ?_
            refine s_callVr X (m_X12_of l) tw_1189 tw_1190 tw_1603 tw_134 tw_1191 rfl (by decide +kernel) ⟨by decide, by decide⟩ dX12_borough_219 ?_
            refine s_goto X (tgt := 227) dX12_borough_222 (by decide) ?_
            exact s_X12_borough_227 X hJ
        | 5, ht, hK =>
          cases ht
          cases hK
          refine s_iload_n X rfl dX12_borough_228 ?_
          refine s_iconst X ⟨by decide, by decide⟩ dX12_borough_229 ?_
          refine s_aload_n X rfl dX12_borough_230 ?_
          refine s_iconst X ⟨by decide, by decide⟩ dX12_borough_231 ?_
          refine s_callVr X (m_X12_of l) tw_1189 tw_1190 tw_1603 tw_134 tw_1191 rfl (by decide +kernel) ⟨by decide, by decide⟩ dX12_borough_232 ?_
          refine s_iconst X ⟨by decide, by decide⟩ dX12_borough_235 ?_
          refine s_isub X dX12_borough_236 ?_
          refine s_callSr X (m_X12_in l) tw_1054 tw_1055 tw_134 tw_1056 (by decide +kernel) ⟨by decide, by decide⟩ dX12_borough_237 ?_
          refine s_if_eq X (tgt := 254) dX12_borough_240 (by decide) ?_ ?_
          · refine s_bipush X ⟨by decide, by decide⟩ (by decide) dX12_borough_254 ?_
            exact s_X12_borough_256 X hJ
          · refine s_aload_n X rfl dX12_borough_243 ?_
            refine s_bipush X ⟨by decide, by decide⟩ (by decide) dX12_borough_244 ?_
            refine s_iload_n X rfl dX12_borough_246 ?_
            refine s_iadd X dX12_borough_247 ?_
            refine s_callVr X (m_X12_of l) tw_1189 tw_1190 tw_1603 tw_134 tw_1191 rfl (by decide +kernel) ⟨by decide, by decide⟩ dX12_borough_248 ?_
            refine s_goto X (tgt := 256) dX12_borough_251 (by decide) ?_
            exact s_X12_borough_256 X hJ
        | i + 6, ht, hK => exact absurd ht (by simp)
      · refine s_iload_n X rfl dX12_borough_257 ?_
        refine s_iconst X ⟨by decide, by decide⟩ dX12_borough_258 ?_
        refine s_iconst X ⟨by decide, by decide⟩ dX12_borough_259 ?_
        refine s_callSr X (m_X12_in l) tw_1054 tw_1055 tw_134 tw_1056 (by decide +kernel) ⟨by decide, by decide⟩ dX12_borough_260 ?_
        refine s_if_eq X (tgt := 274) dX12_borough_263 (by decide) ?_ ?_
        · refine s_bipush X ⟨by decide, by decide⟩ (by decide) dX12_borough_274 ?_
          exact s_X12_borough_276 X hJ
        · refine s_aload_n X rfl dX12_borough_266 ?_
          refine s_iload_n X rfl dX12_borough_267 ?_
          refine s_callVr X (m_X12_of l) tw_1189 tw_1190 tw_1603 tw_134 tw_1191 rfl (by decide +kernel) ⟨by decide, by decide⟩ dX12_borough_268 ?_
          refine s_goto X (tgt := 276) dX12_borough_271 (by decide) ?_
          exact s_X12_borough_276 X hJ
    · refine s_aload_n X rfl dX12_borough_27 ?_
      refine s_iload_n X rfl dX12_borough_28 ?_
      refine s_bipush X ⟨by decide, by decide⟩ (by decide) dX12_borough_29 ?_
      refine s_isub X dX12_borough_31 ?_
      refine s_iconst X ⟨by decide, by decide⟩ dX12_borough_32 ?_
      refine s_idiv X dX12_borough_33 ?_
      refine s_callVr X (m_X12_isPerson l) tw_1192 tw_1193 tw_1591 tw_134 tw_1194 rfl (by decide +kernel) ⟨by decide, by decide⟩ dX12_borough_34 ?_
      refine s_if_eq X (tgt := 54) dX12_borough_37 (by decide) ?_ ?_
      · refine s_bipush X ⟨by decide, by decide⟩ (by decide) dX12_borough_54 ?_
        exact s_X12_borough_56 X hJ
      · refine s_aload_n X rfl dX12_borough_40 ?_
        refine s_bipush X ⟨by decide, by decide⟩ (by decide) dX12_borough_41 ?_
        exact s_X12_borough_43 X hJ
  · refine s_bipush X ⟨by decide, by decide⟩ (by decide) dX12_borough_13 ?_
    exact s_iret X dX12_borough_15

def sp_X12_borough : qS := fun av w Q => ∃ (mco : Int) (mre : Int) (mle : Int) (mbe : Int) (mso : Int) (mva : Int) (mwo : Int) (mwr : Int) (mlf : Int) (mlp : Int) (mfp : Int) (mfd : Int) (mgo : Int) (mbo : Int) (mpe : Int) (mye : Int) (mpr : Int) (mld : Int) (msi : Int) (mse : Int) (mn : Nat → Int) (bs : Nat → Int) (a : Int) (b : Int), av = [q2 0, q1 a, q1 b] ∧ w = [.inr (12, [q1 mco, q2 3, q2 4, q2 5, q2 6, q2 1, q2 2, q2 7, q2 8, q2 9, q1 mre, q1 mle, q1 mbe, q1 mso, q1 mva, q3 mwo, q1 mwr, q1 mlf, q1 mlp, q2 10, q2 11, q1 mfp, q1 mfd, q1 mgo, q1 mbo, q1 mpe, q1 mye, q2 12, q1 mpr, q2 13, q2 14, q2 15, q2 16, q1 mld, q2 17, q1 msi, q2 18, q2 19, q2 20, q2 21, q2 22, q1 mse, q2 23, q2 24, q2 25]), .inl (0, 16, .inl mn), .inl (0, 600, .inl bs)] ∧ (q_rg 0 2 mn) ∧ (BI bs) ∧ (∀ (r : Int) (x_mco : Int) (x_mbo : Int) (x_mpe : Int), Q (some (q1 r)) ([.inr (12, [q1 x_mco, q2 3, q2 4, q2 5, q2 6, q2 1, q2 2, q2 7, q2 8, q2 9, q1 mre, q1 mle, q1 mbe, q1 mso, q1 mva, q3 mwo, q1 mwr, q1 mlf, q1 mlp, q2 10, q2 11, q1 mfp, q1 mfd, q1 mgo, q1 x_mbo, q1 x_mpe, q1 mye, q2 12, q1 mpr, q2 13, q2 14, q2 15, q2 16, q1 mld, q2 17, q1 msi, q2 18, q2 19, q2 20, q2 21, q2 22, q1 mse, q2 23, q2 24, q2 25]), .inl (0, 16, .inl mn), .inl (0, 600, .inl bs)]))
set_option maxHeartbeats 4000000 in
set_option maxRecDepth 100000 in
theorem m_X12_borough (l : Launch) : q_M l yX12_borough cX12_borough 4 (some .int) 3 65 sp_X12_borough := by
  refine q_meth (by decide) (fun av w Q h => by obtain ⟨mco, mre, mle, mbe, mso, mva, mwo, mwr, mlf, mlp, mfp, mfd, mgo, mbo, mpe, mye, mpr, mld, msi, mse, mn, bs, a, b, rfl, rfl, hmn, hbi, hQ⟩ := h; exact Nat.le_of_ble_eq_true rfl) ?_
  intro p e R s m args below meth c dC dI k g A av w Q hsp oka okw X
  obtain ⟨mco, mre, mle, mbe, mso, mva, mwo, mwr, mlf, mlp, mfp, mfd, mgo, mbo, mpe, mye, mpr, mld, msi, mse, mn, bs, a, b, rfl, rfl, hmn, hbi, hQ⟩ := hsp
  have o_a : -2147483648 ≤ a ∧ a ≤ 2147483647 := oka _ (List.mem_of_getElem? (i := 1) rfl)
  have o_b : -2147483648 ≤ b ∧ b ≤ 2147483647 := oka _ (List.mem_of_getElem? (i := 2) rfl)
  refine s_mono (s_X12_borough_0 X (J := fun _ _ _ _ => False) (fun d => s_cutF)) ?_
  rintro lv st w' ⟨rfl, rfl, rfl⟩
  apply And.intro
  · exact trivial
  refine Exists.intro [0, 1, 2, 3, 4, 5, 6, 7, 8, 9, 10, 11, 12, 13, 14, 15, 16, 17, 18, 19, 20, 21, 22, 23, 24, 25] (Exists.intro [q2 0, q1 _] (Exists.intro ([.inr (12, [q1 _, q2 3, q2 4, q2 5, q2 6, q2 1, q2 2, q2 7, q2 8, q2 9, q1 _, q1 _, q1 _, q1 _, q1 _, q3 _, q1 _, q1 _, q1 _, q2 10, q2 11, q1 _, q1 _, q1 _, q1 _, q1 _, q1 _, q2 12, q1 _, q2 13, q2 14, q2 15, q2 16, q1 _, q2 17, q1 _, q2 18, q2 19, q2 20, q2 21, q2 22, q1 _, q2 23, q2 24, q2 25]), .inl (0, 16, .inl _), .inl (0, 600, .inl _)]) (And.intro rfl (And.intro rfl (And.intro rfl (And.intro ⟨⟨_, rfl⟩, rfl⟩ ?_))))))
  refine Exists.intro _ (Exists.intro _ (Exists.intro _ (Exists.intro _ (Exists.intro _ (Exists.intro _ (Exists.intro _ (Exists.intro _ (Exists.intro _ (Exists.intro _ (Exists.intro _ (Exists.intro _ (Exists.intro _ (Exists.intro _ (Exists.intro _ (Exists.intro _ (Exists.intro _ (Exists.intro _ (Exists.intro _ (Exists.intro _ (Exists.intro _ (Exists.intro _ (Exists.intro _ (And.intro rfl (And.intro rfl (And.intro (by first | omega | assumption | exact q_rg_up (by assumption) (by omega) | exact q_rg_up (q_rg_up (by assumption) (by omega)) (by omega) | exact q_rg_cpy (by assumption) (by assumption)) (And.intro (by first | omega | assumption | exact q_rg_up (by assumption) (by omega) | exact q_rg_up (q_rg_up (by assumption) (by omega)) (by omega) | exact q_rg_cpy (by assumption) (by assumption)) (?_)))))))))))))))))))))))))))
  intro z7 x_mbo_7 x_mpe_7 h7
  apply And.intro
  · intro h10
    first | replace h7 := dj1 h7 h10 | replace h7 := dj0 h7 h10
    refine Exists.intro [] (Exists.intro [q1 _, q1 _, q1 _] (Exists.intro [] (And.intro rfl (And.intro rfl (And.intro rfl (And.intro trivial ?_))))))
    refine Exists.intro _ (Exists.intro _ (Exists.intro _ (And.intro rfl (And.intro rfl (?_)))))
    intro z21 h21
    apply And.intro
    · intro h24
      first | replace h21 := dj1 h21 h24 | replace h21 := dj0 h21 h24
      apply And.intro
      · first | omega | (intro e9; omega)
      intro z60 h60
      first | replace h60 := e_rem h60 (by omega) (by omega) | replace h60 := e_rng h60
      apply And.intro
      · first | omega | (intro e9; omega)
      intro z65 h65
      first | replace h65 := e_div h65 (by omega) (by omega) | replace h65 := e_rng h65
      apply And.intro
      · apply And.intro
        · intro h66
          refine Exists.intro [0, 3, 4, 5, 6, 1, 2, 7, 8, 9, 10, 11, 12, 13, 14, 15, 16, 17, 18, 19, 20, 21, 22, 23, 24, 25] (Exists.intro [q2 0, q1 _] (Exists.intro ([.inr (12, [q1 _, q2 1, q2 2, q2 3, q2 4, q2 5, q2 6, q2 7, q2 8, q2 9, q1 _, q1 _, q1 _, q1 _, q1 _, q3 _, q1 _, q1 _, q1 _, q2 10, q2 11, q1 _, q1 _, q1 _, q1 _, q1 _, q1 _, q2 12, q1 _, q2 13, q2 14, q2 15, q2 16, q1 _, q2 17, q1 _, q2 18, q2 19, q2 20, q2 21, q2 22, q1 _, q2 23, q2 24, q2 25])]) (And.intro rfl (And.intro rfl (And.intro rfl (And.intro ⟨⟨_, rfl⟩, rfl⟩ ?_))))))
          refine Exists.intro _ (Exists.intro _ (Exists.intro _ (Exists.intro _ (Exists.intro _ (Exists.intro _ (Exists.intro _ (Exists.intro _ (Exists.intro _ (Exists.intro _ (Exists.intro _ (Exists.intro _ (Exists.intro _ (Exists.intro _ (Exists.intro _ (Exists.intro _ (Exists.intro _ (Exists.intro _ (Exists.intro _ (Exists.intro _ (Exists.intro _ (And.intro rfl (And.intro rfl (And.intro (by first | omega | assumption | exact q_rg_up (by assumption) (by omega) | exact q_rg_up (q_rg_up (by assumption) (by omega)) (by omega) | exact q_rg_cpy (by assumption) (by assumption)) (?_))))))))))))))))))))))))
          intro z106 h106
          apply And.intro
          · intro h109
            first | replace h106 := dj1 h106 h109 | replace h106 := dj0 h106 h109
            exact hQ _ _ _ _
          · intro h109
            first | replace h106 := dj1 h106 h109 | replace h106 := dj0 h106 h109
            intro z115 h115
            first | replace h115 := e_add h115 (by omega) | replace h115 := e_rng h115
            refine Exists.intro [0, 2, 3, 4, 5, 6, 1, 7, 8, 9, 10, 11, 12, 13, 14, 15, 16, 17, 18, 19, 20, 21, 22, 23, 24, 25] (Exists.intro [q2 0, q1 _] (Exists.intro ([.inr (12, [q1 _, q2 2, q2 3, q2 4, q2 5, q2 6, q2 1, q2 7, q2 8, q2 9, q1 _, q1 _, q1 _, q1 _, q1 _, q3 _, q1 _, q1 _, q1 _, q2 10, q2 11, q1 _, q1 _, q1 _, q1 _, q1 _, q1 _, q2 12, q1 _, q2 13, q2 14, q2 15, q2 16, q1 _, q2 17, q1 _, q2 18, q2 19, q2 20, q2 21, q2 22, q1 _, q2 23, q2 24, q2 25]), .inl (0, 600, .inl _)]) (And.intro rfl (And.intro rfl (And.intro rfl (And.intro ⟨⟨_, rfl⟩, rfl⟩ ?_))))))
            refine Exists.intro _ (Exists.intro _ (Exists.intro _ (Exists.intro _ (Exists.intro _ (Exists.intro _ (Exists.intro _ (Exists.intro _ (Exists.intro _ (Exists.intro _ (Exists.intro _ (Exists.intro _ (Exists.intro _ (Exists.intro _ (Exists.intro _ (Exists.intro _ (Exists.intro _ (Exists.intro _ (Exists.intro _ (Exists.intro _ (Exists.intro _ (Exists.intro _ (And.intro rfl (And.intro rfl (And.intro (by first | omega | assumption | exact q_rg_up (by assumption) (by omega) | exact q_rg_up (q_rg_up (by assumption) (by omega)) (by omega) | exact q_rg_cpy (by assumption) (by assumption)) (And.intro (by first | omega | assumption | exact q_rg_up (by assumption) (by omega) | exact q_rg_up (q_rg_up (by assumption) (by omega)) (by omega) | exact q_rg_cpy (by assumption) (by assumption)) (And.intro (by first | omega | assumption | exact q_rg_up (by assumption) (by omega) | exact q_rg_up (q_rg_up (by assumption) (by omega)) (by omega) | exact q_rg_cpy (by assumption) (by assumption)) (?_)))))))))))))))))))))))))))
            intro z116 h116
            obtain ⟨h116, k116⟩ := h116
            first | replace k116 := OFQ_13 k116 (by omega) | replace k116 := OFQ_21 k116 (by omega) | clear k116
            exact hQ _ _ _ _
        apply And.intro
        · intro h66
          refine Exists.intro [0, 3, 4, 5, 6, 1, 2, 7, 8, 9, 10, 11, 12, 13, 14, 15, 16, 17, 18, 19, 20, 21, 22, 23, 24, 25] (Exists.intro [q2 0, q1 _] (Exists.intro ([.inr (12, [q1 _, q2 1, q2 2, q2 3, q2 4, q2 5, q2 6, q2 7, q2 8, q2 9, q1 _, q1 _, q1 _, q1 _, q1 _, q3 _, q1 _, q1 _, q1 _, q2 10, q2 11, q1 _, q1 _, q1 _, q1 _, q1 _, q1 _, q2 12, q1 _, q2 13, q2 14, q2 15, q2 16, q1 _, q2 17, q1 _, q2 18, q2 19, q2 20, q2 21, q2 22, q1 _, q2 23, q2 24, q2 25])]) (And.intro rfl (And.intro rfl (And.intro rfl (And.intro ⟨⟨_, rfl⟩, rfl⟩ ?_))))))
          refine Exists.intro _ (Exists.intro _ (Exists.intro _ (Exists.intro _ (Exists.intro _ (Exists.intro _ (Exists.intro _ (Exists.intro _ (Exists.intro _ (Exists.intro _ (Exists.intro _ (Exists.intro _ (Exists.intro _ (Exists.intro _ (Exists.intro _ (Exists.intro _ (Exists.intro _ (Exists.intro _ (Exists.intro _ (Exists.intro _ (Exists.intro _ (And.intro rfl (And.intro rfl (And.intro (by first | omega | assumption | exact q_rg_up (by assumption) (by omega) | exact q_rg_up (q_rg_up (by assumption) (by omega)) (by omega) | exact q_rg_cpy (by assumption) (by assumption)) (?_))))))))))))))))))))))))
          intro z127 h127
          apply And.intro
          · intro h130
            first | replace h127 := dj1 h127 h130 | replace h127 := dj0 h127 h130
            exact hQ _ _ _ _
          · intro h130
            first | replace h127 := dj1 h127 h130 | replace h127 := dj0 h127 h130
            intro z137 h137
            first | replace h137 := e_add h137 (by omega) | replace h137 := e_rng h137
            refine Exists.intro [0, 2, 3, 4, 5, 6, 1, 7, 8, 9, 10, 11, 12, 13, 14, 15, 16, 17, 18, 19, 20, 21, 22, 23, 24, 25] (Exists.intro [q2 0, q1 _] (Exists.intro ([.inr (12, [q1 _, q2 2, q2 3, q2 4, q2 5, q2 6, q2 1, q2 7, q2 8, q2 9, q1 _, q1 _, q1 _, q1 _, q1 _, q3 _, q1 _, q1 _, q1 _, q2 10, q2 11, q1 _, q1 _, q1 _, q1 _, q1 _, q1 _, q2 12, q1 _, q2 13, q2 14, q2 15, q2 16, q1 _, q2 17, q1 _, q2 18, q2 19, q2 20, q2 21, q2 22, q1 _, q2 23, q2 24, q2 25]), .inl (0, 600, .inl _)]) (And.intro rfl (And.intro rfl (And.intro rfl (And.intro ⟨⟨_, rfl⟩, rfl⟩ ?_))))))
            refine Exists.intro _ (Exists.intro _ (Exists.intro _ (Exists.intro _ (Exists.intro _ (Exists.intro _ (Exists.intro _ (Exists.intro _ (Exists.intro _ (Exists.intro _ (Exists.intro _ (Exists.intro _ (Exists.intro _ (Exists.intro _ (Exists.intro _ (Exists.intro _ (Exists.intro _ (Exists.intro _ (Exists.intro _ (Exists.intro _ (Exists.intro _ (Exists.intro _ (And.intro rfl (And.intro rfl (And.intro (by first | omega | assumption | exact q_rg_up (by assumption) (by omega) | exact q_rg_up (q_rg_up (by assumption) (by omega)) (by omega) | exact q_rg_cpy (by assumption) (by assumption)) (And.intro (by first | omega | assumption | exact q_rg_up (by assumption) (by omega) | exact q_rg_up (q_rg_up (by assumption) (by omega)) (by omega) | exact q_rg_cpy (by assumption) (by assumption)) (And.intro (by first | omega | assumption | exact q_rg_up (by assumption) (by omega) | exact q_rg_up (q_rg_up (by assumption) (by omega)) (by omega) | exact q_rg_cpy (by assumption) (by assumption)) (?_)))))))))))))))))))))))))))
            intro z138 h138
            obtain ⟨h138, k138⟩ := h138
            first | replace k138 := OFQ_13 k138 (by omega) | replace k138 := OFQ_21 k138 (by omega) | clear k138
            exact hQ _ _ _ _
        apply And.intro
        · intro h66
          refine Exists.intro [] (Exists.intro [q1 _, q1 _, q1 _] (Exists.intro [] (And.intro rfl (And.intro rfl (And.intro rfl (And.intro trivial ?_))))))
          refine Exists.intro _ (Exists.intro _ (Exists.intro _ (And.intro rfl (And.intro rfl (?_)))))
          intro z150 h150
          apply And.intro
          · intro h153
            first | replace h150 := dj1 h150 h153 | replace h150 := dj0 h150 h153
            exact hQ _ _ _ _
          · intro h153
            first | replace h150 := dj1 h150 h153 | replace h150 := dj0 h150 h153
            intro z160 h160
            first | replace h160 := e_add h160 (by omega) | replace h160 := e_rng h160
            refine Exists.intro [0, 2, 3, 4, 5, 6, 1, 7, 8, 9, 10, 11, 12, 13, 14, 15, 16, 17, 18, 19, 20, 21, 22, 23, 24, 25] (Exists.intro [q2 0, q1 _] (Exists.intro ([.inr (12, [q1 _, q2 2, q2 3, q2 4, q2 5, q2 6, q2 1, q2 7, q2 8, q2 9, q1 _, q1 _, q1 _, q1 _, q1 _, q3 _, q1 _, q1 _, q1 _, q2 10, q2 11, q1 _, q1 _, q1 _, q1 _, q1 _, q1 _, q2 12, q1 _, q2 13, q2 14, q2 15, q2 16, q1 _, q2 17, q1 _, q2 18, q2 19, q2 20, q2 21, q2 22, q1 _, q2 23, q2 24, q2 25]), .inl (0, 600, .inl _)]) (And.intro rfl (And.intro rfl (And.intro rfl (And.intro ⟨⟨_, rfl⟩, rfl⟩ ?_))))))
            refine Exists.intro _ (Exists.intro _ (Exists.intro _ (Exists.intro _ (Exists.intro _ (Exists.intro _ (Exists.intro _ (Exists.intro _ (Exists.intro _ (Exists.intro _ (Exists.intro _ (Exists.intro _ (Exists.intro _ (Exists.intro _ (Exists.intro _ (Exists.intro _ (Exists.intro _ (Exists.intro _ (Exists.intro _ (Exists.intro _ (Exists.intro _ (Exists.intro _ (And.intro rfl (And.intro rfl (And.intro (by first | omega | assumption | exact q_rg_up (by assumption) (by omega) | exact q_rg_up (q_rg_up (by assumption) (by omega)) (by omega) | exact q_rg_cpy (by assumption) (by assumption)) (And.intro (by first | omega | assumption | exact q_rg_up (by assumption) (by omega) | exact q_rg_up (q_rg_up (by assumption) (by omega)) (by omega) | exact q_rg_cpy (by assumption) (by assumption)) (And.intro (by first | omega | assumption | exact q_rg_up (by assumption) (by omega) | exact q_rg_up (q_rg_up (by assumption) (by omega)) (by omega) | exact q_rg_cpy (by assumption) (by assumption)) (?_)))))))))))))))))))))))))))
            intro z161 h161
            obtain ⟨h161, k161⟩ := h161
            first | replace k161 := OFQ_13 k161 (by omega) | replace k161 := OFQ_21 k161 (by omega) | clear k161
            exact hQ _ _ _ _
        apply And.intro
        · intro h66
          refine Exists.intro [0, 2, 3, 4, 5, 6, 1, 7, 8, 9, 10, 11, 12, 13, 14, 15, 16, 17, 18, 19, 20, 21, 22, 23, 24, 25] (Exists.intro [q2 0, q1 _] (Exists.intro ([.inr (12, [q1 _, q2 2, q2 3, q2 4, q2 5, q2 6, q2 1, q2 7, q2 8, q2 9, q1 _, q1 _, q1 _, q1 _, q1 _, q3 _, q1 _, q1 _, q1 _, q2 10, q2 11, q1 _, q1 _, q1 _, q1 _, q1 _, q1 _, q2 12, q1 _, q2 13, q2 14, q2 15, q2 16, q1 _, q2 17, q1 _, q2 18, q2 19, q2 20, q2 21, q2 22, q1 _, q2 23, q2 24, q2 25]), .inl (0, 600, .inl _)]) (And.intro rfl (And.intro rfl (And.intro rfl (And.intro ⟨⟨_, rfl⟩, rfl⟩ ?_))))))
          refine Exists.intro _ (Exists.intro _ (Exists.intro _ (Exists.intro _ (Exists.intro _ (Exists.intro _ (Exists.intro _ (Exists.intro _ (Exists.intro _ (Exists.intro _ (Exists.intro _ (Exists.intro _ (Exists.intro _ (Exists.intro _ (Exists.intro _ (Exists.intro _ (Exists.intro _ (Exists.intro _ (Exists.intro _ (Exists.intro _ (Exists.intro _ (Exists.intro _ (And.intro rfl (And.intro rfl (And.intro (by first | omega | assumption | exact q_rg_up (by assumption) (by omega) | exact q_rg_up (q_rg_up (by assumption) (by omega)) (by omega) | exact q_rg_cpy (by assumption) (by assumption)) (And.intro (by first | omega | assumption | exact q_rg_up (by assumption) (by omega) | exact q_rg_up (q_rg_up (by assumption) (by omega)) (by omega) | exact q_rg_cpy (by assumption) (by assumption)) (And.intro (by first | omega | assumption | exact q_rg_up (by assumption) (by omega) | exact q_rg_up (q_rg_up (by assumption) (by omega)) (by omega) | exact q_rg_cpy (by assumption) (by assumption)) (?_)))))))))))))))))))))))))))
          intro z174 h174
          obtain ⟨h174, k174⟩ := h174
          replace k174 := OFQ_3 k174 (by omega)
          intro z178 h178
          first | replace h178 := e_sub h178 (by omega) | replace h178 := e_rng h178
          refine Exists.intro [] (Exists.intro [q1 _, q1 _, q1 _] (Exists.intro [] (And.intro rfl (And.intro rfl (And.intro rfl (And.intro trivial ?_))))))
          refine Exists.intro _ (Exists.intro _ (Exists.intro _ (And.intro rfl (And.intro rfl (?_)))))
          intro z179 h179
          apply And.intro
          · intro h182
            first | replace h179 := dj1 h179 h182 | replace h179 := dj0 h179 h182
            exact hQ _ _ _ _
          · intro h182
            first | replace h179 := dj1 h179 h182 | replace h179 := dj0 h179 h182
            intro z189 h189
            first | replace h189 := e_add h189 (by omega) | replace h189 := e_rng h189
            refine Exists.intro [0, 2, 3, 4, 5, 6, 1, 7, 8, 9, 10, 11, 12, 13, 14, 15, 16, 17, 18, 19, 20, 21, 22, 23, 24, 25] (Exists.intro [q2 0, q1 _] (Exists.intro ([.inr (12, [q1 _, q2 2, q2 3, q2 4, q2 5, q2 6, q2 1, q2 7, q2 8, q2 9, q1 _, q1 _, q1 _, q1 _, q1 _, q3 _, q1 _, q1 _, q1 _, q2 10, q2 11, q1 _, q1 _, q1 _, q1 _, q1 _, q1 _, q2 12, q1 _, q2 13, q2 14, q2 15, q2 16, q1 _, q2 17, q1 _, q2 18, q2 19, q2 20, q2 21, q2 22, q1 _, q2 23, q2 24, q2 25]), .inl (0, 600, .inl _)]) (And.intro rfl (And.intro rfl (And.intro rfl (And.intro ⟨⟨_, rfl⟩, rfl⟩ ?_))))))
            refine Exists.intro _ (Exists.intro _ (Exists.intro _ (Exists.intro _ (Exists.intro _ (Exists.intro _ (Exists.intro _ (Exists.intro _ (Exists.intro _ (Exists.intro _ (Exists.intro _ (Exists.intro _ (Exists.intro _ (Exists.intro _ (Exists.intro _ (Exists.intro _ (Exists.intro _ (Exists.intro _ (Exists.intro _ (Exists.intro _ (Exists.intro _ (Exists.intro _ (And.intro rfl (And.intro rfl (And.intro (by first | omega | assumption | exact q_rg_up (by assumption) (by omega) | exact q_rg_up (q_rg_up (by assumption) (by omega)) (by omega) | exact q_rg_cpy (by assumption) (by assumption)) (And.intro (by first | omega | assumption | exact q_rg_up (by assumption) (by omega) | exact q_rg_up (q_rg_up (by assumption) (by omega)) (by omega) | exact q_rg_cpy (by assumption) (by assumption)) (And.intro (by first | omega | assumption | exact q_rg_up (by assumption) (by omega) | exact q_rg_up (q_rg_up (by assumption) (by omega)) (by omega) | exact q_rg_cpy (by assumption) (by assumption)) (?_)))))))))))))))))))))))))))
            intro z190 h190
            obtain ⟨h190, k190⟩ := h190
            first | replace k190 := OFQ_13 k190 (by omega) | replace k190 := OFQ_21 k190 (by omega) | clear k190
            exact hQ _ _ _ _
        apply And.intro
        · intro h66
          refine Exists.intro [0, 2, 3, 4, 5, 6, 1, 7, 8, 9, 10, 11, 12, 13, 14, 15, 16, 17, 18, 19, 20, 21, 22, 23, 24, 25] (Exists.intro [q2 0, q1 _] (Exists.intro ([.inr (12, [q1 _, q2 2, q2 3, q2 4, q2 5, q2 6, q2 1, q2 7, q2 8, q2 9, q1 _, q1 _, q1 _, q1 _, q1 _, q3 _, q1 _, q1 _, q1 _, q2 10, q2 11, q1 _, q1 _, q1 _, q1 _, q1 _, q1 _, q2 12, q1 _, q2 13, q2 14, q2 15, q2 16, q1 _, q2 17, q1 _, q2 18, q2 19, q2 20, q2 21, q2 22, q1 _, q2 23, q2 24, q2 25]), .inl (0, 600, .inl _)]) (And.intro rfl (And.intro rfl (And.intro rfl (And.intro ⟨⟨_, rfl⟩, rfl⟩ ?_))))))
          refine Exists.intro _ (Exists.intro _ (Exists.intro _ (Exists.intro _ (Exists.intro _ (Exists.intro _ (Exists.intro _ (Exists.intro _ (Exists.intro _ (Exists.intro _ (Exists.intro _ (Exists.intro _ (Exists.intro _ (Exists.intro _ (Exists.intro _ (Exists.intro _ (Exists.intro _ (Exists.intro _ (Exists.intro _ (Exists.intro _ (Exists.intro _ (Exists.intro _ (And.intro rfl (And.intro rfl (And.intro (by first | omega | assumption | exact q_rg_up (by assumption) (by omega) | exact q_rg_up (q_rg_up (by assumption) (by omega)) (by omega) | exact q_rg_cpy (by assumption) (by assumption)) (And.intro (by first | omega | assumption | exact q_rg_up (by assumption) (by omega) | exact q_rg_up (q_rg_up (by assumption) (by omega)) (by omega) | exact q_rg_cpy (by assumption) (by assumption)) (And.intro (by first | omega | assumption | exact q_rg_up (by assumption) (by omega) | exact q_rg_up (q_rg_up (by assumption) (by omega)) (by omega) | exact q_rg_cpy (by assumption) (by assumption)) (?_)))))))))))))))))))))))))))
          intro z203 h203
          obtain ⟨h203, k203⟩ := h203
          replace k203 := OFQ_3 k203 (by omega)
          intro z207 h207
          first | replace h207 := e_sub h207 (by omega) | replace h207 := e_rng h207
          refine Exists.intro [] (Exists.intro [q1 _, q1 _, q1 _] (Exists.intro [] (And.intro rfl (And.intro rfl (And.intro rfl (And.intro trivial ?_))))))
          refine Exists.intro _ (Exists.intro _ (Exists.intro _ (And.intro rfl (And.intro rfl (?_)))))
          intro z208 h208
          apply And.intro
          · intro h211
            first | replace h208 := dj1 h208 h211 | replace h208 := dj0 h208 h211
            exact hQ _ _ _ _
          · intro h211
            first | replace h208 := dj1 h208 h211 | replace h208 := dj0 h208 h211
            intro z218 h218
            first | replace h218 := e_add h218 (by omega) | replace h218 := e_rng h218
            refine Exists.intro [0, 2, 3, 4, 5, 6, 1, 7, 8, 9, 10, 11, 12, 13, 14, 15, 16, 17, 18, 19, 20, 21, 22, 23, 24, 25] (Exists.intro [q2 0, q1 _] (Exists.intro ([.inr (12, [q1 _, q2 2, q2 3, q2 4, q2 5, q2 6, q2 1, q2 7, q2 8, q2 9, q1 _, q1 _, q1 _, q1 _, q1 _, q3 _, q1 _, q1 _, q1 _, q2 10, q2 11, q1 _, q1 _, q1 _, q1 _, q1 _, q1 _, q2 12, q1 _, q2 13, q2 14, q2 15, q2 16, q1 _, q2 17, q1 _, q2 18, q2 19, q2 20, q2 21, q2 22, q1 _, q2 23, q2 24, q2 25]), .inl (0, 600, .inl _)]) (And.intro rfl (And.intro rfl (And.intro rfl (And.intro ⟨⟨_, rfl⟩, rfl⟩ ?_))))))
            refine Exists.intro _ (Exists.intro _ (Exists.intro _ (Exists.intro _ (Exists.intro _ (Exists.intro _ (Exists.intro _ (Exists.intro _ (Exists.intro _ (Exists.intro _ (Exists.intro _ (Exists.intro _ (Exists.intro _ (Exists.intro _ (Exists.intro _ (Exists.intro _ (Exists.intro _ (Exists.intro _ (Exists.intro _ (Exists.intro _ (Exists.intro _ (Exists.intro _ (And.intro rfl (And.intro rfl (And.intro (by first | omega | assumption | exact q_rg_up (by assumption) (by omega) | exact q_rg_up (q_rg_up (by assumption) (by omega)) (by omega) | exact q_rg_cpy (by assumption) (by assumption)) (And.intro (by first | omega | assumption | exact q_rg_up (by assumption) (by omega) | exact q_rg_up (q_rg_up (by assumption) (by omega)) (by omega) | exact q_rg_cpy (by assumption) (by assumption)) (And.intro (by first | omega | assumption | exact q_rg_up (by assumption) (by omega) | exact q_rg_up (q_rg_up (by assumption) (by omega)) (by omega) | exact q_rg_cpy (by assumption) (by assumption)) (?_)))))))))))))))))))))))))))
            intro z219 h219
            obtain ⟨h219, k219⟩ := h219
            first | replace k219 := OFQ_13 k219 (by omega) | replace k219 := OFQ_21 k219 (by omega) | clear k219
            exact hQ _ _ _ _
        apply And.intro
        · intro h66
          refine Exists.intro [0, 2, 3, 4, 5, 6, 1, 7, 8, 9, 10, 11, 12, 13, 14, 15, 16, 17, 18, 19, 20, 21, 22, 23, 24, 25] (Exists.intro [q2 0, q1 _] (Exists.intro ([.inr (12, [q1 _, q2 2, q2 3, q2 4, q2 5, q2 6, q2 1, q2 7, q2 8, q2 9, q1 _, q1 _, q1 _, q1 _, q1 _, q3 _, q1 _, q1 _, q1 _, q2 10, q2 11, q1 _, q1 _, q1 _, q1 _, q1 _, q1 _, q2 12, q1 _, q2 13, q2 14, q2 15, q2 16, q1 _, q2 17, q1 _, q2 18, q2 19, q2 20, q2 21, q2 22, q1 _, q2 23, q2 24, q2 25]), .inl (0, 600, .inl _)]) (And.intro rfl (And.intro rfl (And.intro rfl (And.intro ⟨⟨_, rfl⟩, rfl⟩ ?_))))))
          refine Exists.intro _ (Exists.intro _ (Exists.intro _ (Exists.intro _ (Exists.intro _ (Exists.intro _ (Exists.intro _ (Exists.intro _ (Exists.intro _ (Exists.intro _ (Exists.intro _ (Exists.intro _ (Exists.intro _ (Exists.intro _ (Exists.intro _ (Exists.intro _ (Exists.intro _ (Exists.intro _ (Exists.intro _ (Exists.intro _ (Exists.intro _ (Exists.intro _ (And.intro rfl (And.intro rfl (And.intro (by first | omega | assumption | exact q_rg_up (by assumption) (by omega) | exact q_rg_up (q_rg_up (by assumption) (by omega)) (by omega) | exact q_rg_cpy (by assumption) (by assumption)) (And.intro (by first | omega | assumption | exact q_rg_up (by assumption) (by omega) | exact q_rg_up (q_rg_up (by assumption) (by omega)) (by omega) | exact q_rg_cpy (by assumption) (by assumption)) (And.intro (by first | omega | assumption | exact q_rg_up (by assumption) (by omega) | exact q_rg_up (q_rg_up (by assumption) (by omega)) (by omega) | exact q_rg_cpy (by assumption) (by assumption)) (?_)))))))))))))))))))))))))))
          intro z232 h232
          obtain ⟨h232, k232⟩ := h232
          replace k232 := OFQ_3 k232 (by omega)
          intro z236 h236
          first | replace h236 := e_sub h236 (by omega) | replace h236 := e_rng h236
          refine Exists.intro [] (Exists.intro [q1 _, q1 _, q1 _] (Exists.intro [] (And.intro rfl (And.intro rfl (And.intro rfl (And.intro trivial ?_))))))
          refine Exists.intro _ (Exists.intro _ (Exists.intro _ (And.intro rfl (And.intro rfl (?_)))))
          intro z237 h237
          apply And.intro
          · intro h240
            first | replace h237 := dj1 h237 h240 | replace h237 := dj0 h237 h240
            exact hQ _ _ _ _
          · intro h240
            first | replace h237 := dj1 h237 h240 | replace h237 := dj0 h237 h240
            intro z247 h247
            first | replace h247 := e_add h247 (by omega) | replace h247 := e_rng h247
            refine Exists.intro [0, 2, 3, 4, 5, 6, 1, 7, 8, 9, 10, 11, 12, 13, 14, 15, 16, 17, 18, 19, 20, 21, 22, 23, 24, 25] (Exists.intro [q2 0, q1 _] (Exists.intro ([.inr (12, [q1 _, q2 2, q2 3, q2 4, q2 5, q2 6, q2 1, q2 7, q2 8, q2 9, q1 _, q1 _, q1 _, q1 _, q1 _, q3 _, q1 _, q1 _, q1 _, q2 10, q2 11, q1 _, q1 _, q1 _, q1 _, q1 _, q1 _, q2 12, q1 _, q2 13, q2 14, q2 15, q2 16, q1 _, q2 17, q1 _, q2 18, q2 19, q2 20, q2 21, q2 22, q1 _, q2 23, q2 24, q2 25]), .inl (0, 600, .inl _)]) (And.intro rfl (And.intro rfl (And.intro rfl (And.intro ⟨⟨_, rfl⟩, rfl⟩ ?_))))))
            refine Exists.intro _ (Exists.intro _ (Exists.intro _ (Exists.intro _ (Exists.intro _ (Exists.intro _ (Exists.intro _ (Exists.intro _ (Exists.intro _ (Exists.intro _ (Exists.intro _ (Exists.intro _ (Exists.intro _ (Exists.intro _ (Exists.intro _ (Exists.intro _ (Exists.intro _ (Exists.intro _ (Exists.intro _ (Exists.intro _ (Exists.intro _ (Exists.intro _ (And.intro rfl (And.intro rfl (And.intro (by first | omega | assumption | exact q_rg_up (by assumption) (by omega) | exact q_rg_up (q_rg_up (by assumption) (by omega)) (by omega) | exact q_rg_cpy (by assumption) (by assumption)) (And.intro (by first | omega | assumption | exact q_rg_up (by assumption) (by omega) | exact q_rg_up (q_rg_up (by assumption) (by omega)) (by omega) | exact q_rg_cpy (by assumption) (by assumption)) (And.intro (by first | omega | assumption | exact q_rg_up (by assumption) (by omega) | exact q_rg_up (q_rg_up (by assumption) (by omega)) (by omega) | exact q_rg_cpy (by assumption) (by assumption)) (?_)))))))))))))))))))))))))))
            intro z248 h248
            obtain ⟨h248, k248⟩ := h248
            first | replace k248 := OFQ_13 k248 (by omega) | replace k248 := OFQ_21 k248 (by omega) | clear k248
            exact hQ _ _ _ _
        exact trivial
      · intro h66
        refine Exists.intro [] (Exists.intro [q1 _, q1 _, q1 _] (Exists.intro [] (And.intro rfl (And.intro rfl (And.intro rfl (And.intro trivial ?_))))))
        refine Exists.intro _ (Exists.intro _ (Exists.intro _ (And.intro rfl (And.intro rfl (?_)))))
        intro z260 h260
        apply And.intro
        · intro h263
          first | replace h260 := dj1 h260 h263 | replace h260 := dj0 h260 h263
          exact hQ _ _ _ _
        · intro h263
          first | replace h260 := dj1 h260 h263 | replace h260 := dj0 h260 h263
          refine Exists.intro [0, 2, 3, 4, 5, 6, 1, 7, 8, 9, 10, 11, 12, 13, 14, 15, 16, 17, 18, 19, 20, 21, 22, 23, 24, 25] (Exists.intro [q2 0, q1 _] (Exists.intro ([.inr (12, [q1 _, q2 2, q2 3, q2 4, q2 5, q2 6, q2 1, q2 7, q2 8, q2 9, q1 _, q1 _, q1 _, q1 _, q1 _, q3 _, q1 _, q1 _, q1 _, q2 10, q2 11, q1 _, q1 _, q1 _, q1 _, q1 _, q1 _, q2 12, q1 _, q2 13, q2 14, q2 15, q2 16, q1 _, q2 17, q1 _, q2 18, q2 19, q2 20, q2 21, q2 22, q1 _, q2 23, q2 24, q2 25]), .inl (0, 600, .inl _)]) (And.intro rfl (And.intro rfl (And.intro rfl (And.intro ⟨⟨_, rfl⟩, rfl⟩ ?_))))))
          refine Exists.intro _ (Exists.intro _ (Exists.intro _ (Exists.intro _ (Exists.intro _ (Exists.intro _ (Exists.intro _ (Exists.intro _ (Exists.intro _ (Exists.intro _ (Exists.intro _ (Exists.intro _ (Exists.intro _ (Exists.intro _ (Exists.intro _ (Exists.intro _ (Exists.intro _ (Exists.intro _ (Exists.intro _ (Exists.intro _ (Exists.intro _ (Exists.intro _ (And.intro rfl (And.intro rfl (And.intro (by first | omega | assumption | exact q_rg_up (by assumption) (by omega) | exact q_rg_up (q_rg_up (by assumption) (by omega)) (by omega) | exact q_rg_cpy (by assumption) (by assumption)) (And.intro (by first | omega | assumption | exact q_rg_up (by assumption) (by omega) | exact q_rg_up (q_rg_up (by assumption) (by omega)) (by omega) | exact q_rg_cpy (by assumption) (by assumption)) (And.intro (by first | omega | assumption | exact q_rg_up (by assumption) (by omega) | exact q_rg_up (q_rg_up (by assumption) (by omega)) (by omega) | exact q_rg_cpy (by assumption) (by assumption)) (?_)))))))))))))))))))))))))))
          intro z268 h268
          obtain ⟨h268, k268⟩ := h268
          first | replace k268 := OFQ_13 k268 (by omega) | replace k268 := OFQ_21 k268 (by omega) | clear k268
          exact hQ _ _ _ _
    · intro h24
      first | replace h21 := dj1 h21 h24 | replace h21 := dj0 h21 h24
      intro z31 h31
      first | replace h31 := e_sub h31 (by omega) | replace h31 := e_rng h31
      apply And.intro
      · first | omega | (intro e9; omega)
      intro z33 h33
      first | replace h33 := e_div h33 (by omega) (by omega) | replace h33 := e_rng h33
      refine Exists.intro [0, 3, 4, 5, 6, 1, 2, 7, 8, 9, 10, 11, 12, 13, 14, 15, 16, 17, 18, 19, 20, 21, 22, 23, 24, 25] (Exists.intro [q2 0, q1 _] (Exists.intro ([.inr (12, [q1 _, q2 1, q2 2, q2 3, q2 4, q2 5, q2 6, q2 7, q2 8, q2 9, q1 _, q1 _, q1 _, q1 _, q1 _, q3 _, q1 _, q1 _, q1 _, q2 10, q2 11, q1 _, q1 _, q1 _, q1 _, q1 _, q1 _, q2 12, q1 _, q2 13, q2 14, q2 15, q2 16, q1 _, q2 17, q1 _, q2 18, q2 19, q2 20, q2 21, q2 22, q1 _, q2 23, q2 24, q2 25])]) (And.intro rfl (And.intro rfl (And.intro rfl (And.intro ⟨⟨_, rfl⟩, rfl⟩ ?_))))))
      refine Exists.intro _ (Exists.intro _ (Exists.intro _ (Exists.intro _ (Exists.intro _ (Exists.intro _ (Exists.intro _ (Exists.intro _ (Exists.intro _ (Exists.intro _ (Exists.intro _ (Exists.intro _ (Exists.intro _ (Exists.intro _ (Exists.intro _ (Exists.intro _ (Exists.intro _ (Exists.intro _ (Exists.intro _ (Exists.intro _ (Exists.intro _ (And.intro rfl (And.intro rfl (And.intro (by first | omega | assumption | exact q_rg_up (by assumption) (by omega) | exact q_rg_up (q_rg_up (by assumption) (by omega)) (by omega) | exact q_rg_cpy (by assumption) (by assumption)) (?_))))))))))))))))))))))))
      intro z34 h34
      apply And.intro
      · intro h37
        first | replace h34 := dj1 h34 h37 | replace h34 := dj0 h34 h37
        exact hQ _ _ _ _
      · intro h37
        first | replace h34 := dj1 h34 h37 | replace h34 := dj0 h34 h37
        intro z44 h44
        first | replace h44 := e_add h44 (by omega) | replace h44 := e_rng h44
        intro z47 h47
        first | replace h47 := e_sub h47 (by omega) | replace h47 := e_rng h47
        refine Exists.intro [0, 2, 3, 4, 5, 6, 1, 7, 8, 9, 10, 11, 12, 13, 14, 15, 16, 17, 18, 19, 20, 21, 22, 23, 24, 25] (Exists.intro [q2 0, q1 _] (Exists.intro ([.inr (12, [q1 _, q2 2, q2 3, q2 4, q2 5, q2 6, q2 1, q2 7, q2 8, q2 9, q1 _, q1 _, q1 _, q1 _, q1 _, q3 _, q1 _, q1 _, q1 _, q2 10, q2 11, q1 _, q1 _, q1 _, q1 _, q1 _, q1 _, q2 12, q1 _, q2 13, q2 14, q2 15, q2 16, q1 _, q2 17, q1 _, q2 18, q2 19, q2 20, q2 21, q2 22, q1 _, q2 23, q2 24, q2 25]), .inl (0, 600, .inl _)]) (And.intro rfl (And.intro rfl (And.intro rfl (And.intro ⟨⟨_, rfl⟩, rfl⟩ ?_))))))
        refine Exists.intro _ (Exists.intro _ (Exists.intro _ (Exists.intro _ (Exists.intro _ (Exists.intro _ (Exists.intro _ (Exists.intro _ (Exists.intro _ (Exists.intro _ (Exists.intro _ (Exists.intro _ (Exists.intro _ (Exists.intro _ (Exists.intro _ (Exists.intro _ (Exists.intro _ (Exists.intro _ (Exists.intro _ (Exists.intro _ (Exists.intro _ (Exists.intro _ (And.intro rfl (And.intro rfl (And.intro (by first | omega | assumption | exact q_rg_up (by assumption) (by omega) | exact q_rg_up (q_rg_up (by assumption) (by omega)) (by omega) | exact q_rg_cpy (by assumption) (by assumption)) (And.intro (by first | omega | assumption | exact q_rg_up (by assumption) (by omega) | exact q_rg_up (q_rg_up (by assumption) (by omega)) (by omega) | exact q_rg_cpy (by assumption) (by assumption)) (And.intro (by first | omega | assumption | exact q_rg_up (by assumption) (by omega) | exact q_rg_up (q_rg_up (by assumption) (by omega)) (by omega) | exact q_rg_cpy (by assumption) (by assumption)) (?_)))))))))))))))))))))))))))
        intro z48 h48
        obtain ⟨h48, k48⟩ := h48
        first | replace k48 := OFQ_13 k48 (by omega) | replace k48 := OFQ_21 k48 (by omega) | clear k48
        exact hQ _ _ _ _
  · intro h10
    first | replace h7 := dj1 h7 h10 | replace h7 := dj0 h7 h10
    exact hQ _ _ _ _
