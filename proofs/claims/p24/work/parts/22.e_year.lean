theorem dX10_copy_0 : decode cX10_copy 0 = .ok (.aload_n 1, 1) := by decide +kernel
theorem dX10_copy_1 : decode cX10_copy 1 = .ok (.getfield 9, 3) := by decide +kernel
theorem dX10_copy_4 : decode cX10_copy 4 = .ok (.iconst 0, 1) := by decide +kernel
theorem dX10_copy_5 : decode cX10_copy 5 = .ok (.aload_n 0, 1) := by decide +kernel
theorem dX10_copy_6 : decode cX10_copy 6 = .ok (.getfield 9, 3) := by decide +kernel
theorem dX10_copy_9 : decode cX10_copy 9 = .ok (.iconst 0, 1) := by decide +kernel
theorem dX10_copy_10 : decode cX10_copy 10 = .ok (.bipush 40, 2) := by decide +kernel
theorem dX10_copy_12 : decode cX10_copy 12 = .ok (.invokestatic 24, 3) := by decide +kernel
theorem dX10_copy_15 : decode cX10_copy 15 = .ok (.aload_n 1, 1) := by decide +kernel
theorem dX10_copy_16 : decode cX10_copy 16 = .ok (.getfield 15, 3) := by decide +kernel
theorem dX10_copy_19 : decode cX10_copy 19 = .ok (.iconst 0, 1) := by decide +kernel
theorem dX10_copy_20 : decode cX10_copy 20 = .ok (.aload_n 0, 1) := by decide +kernel
theorem dX10_copy_21 : decode cX10_copy 21 = .ok (.getfield 15, 3) := by decide +kernel
theorem dX10_copy_24 : decode cX10_copy 24 = .ok (.iconst 0, 1) := by decide +kernel
theorem dX10_copy_25 : decode cX10_copy 25 = .ok (.bipush 40, 2) := by decide +kernel
theorem dX10_copy_27 : decode cX10_copy 27 = .ok (.invokestatic 24, 3) := by decide +kernel
theorem dX10_copy_30 : decode cX10_copy 30 = .ok (.aload_n 1, 1) := by decide +kernel
theorem dX10_copy_31 : decode cX10_copy 31 = .ok (.getfield 18, 3) := by decide +kernel
theorem dX10_copy_34 : decode cX10_copy 34 = .ok (.iconst 0, 1) := by decide +kernel
theorem dX10_copy_35 : decode cX10_copy 35 = .ok (.aload_n 0, 1) := by decide +kernel
theorem dX10_copy_36 : decode cX10_copy 36 = .ok (.getfield 18, 3) := by decide +kernel
theorem dX10_copy_39 : decode cX10_copy 39 = .ok (.iconst 0, 1) := by decide +kernel
theorem dX10_copy_40 : decode cX10_copy 40 = .ok (.bipush 40, 2) := by decide +kernel
theorem dX10_copy_42 : decode cX10_copy 42 = .ok (.invokestatic 24, 3) := by decide +kernel
theorem dX10_copy_45 : decode cX10_copy 45 = .ok (.aload_n 1, 1) := by decide +kernel
theorem dX10_copy_46 : decode cX10_copy 46 = .ok (.getfield 21, 3) := by decide +kernel
theorem dX10_copy_49 : decode cX10_copy 49 = .ok (.iconst 0, 1) := by decide +kernel
theorem dX10_copy_50 : decode cX10_copy 50 = .ok (.aload_n 0, 1) := by decide +kernel
theorem dX10_copy_51 : decode cX10_copy 51 = .ok (.getfield 21, 3) := by decide +kernel
theorem dX10_copy_54 : decode cX10_copy 54 = .ok (.iconst 0, 1) := by decide +kernel
theorem dX10_copy_55 : decode cX10_copy 55 = .ok (.bipush 40, 2) := by decide +kernel
theorem dX10_copy_57 : decode cX10_copy 57 = .ok (.invokestatic 24, 3) := by decide +kernel
theorem dX10_copy_60 : decode cX10_copy 60 = .ok (.aload_n 0, 1) := by decide +kernel
theorem dX10_copy_61 : decode cX10_copy 61 = .ok (.aload_n 1, 1) := by decide +kernel
theorem dX10_copy_62 : decode cX10_copy 62 = .ok (.getfield 30, 3) := by decide +kernel
theorem dX10_copy_65 : decode cX10_copy 65 = .ok (.putfield 30, 3) := by decide +kernel
theorem dX10_copy_68 : decode cX10_copy 68 = .ok (.return_, 1) := by decide +kernel
def is_X10_copy : Nat → List Nat := fun d => []
set_option maxRecDepth 100000 in
def b_X10_copy_45 (J : Nat → List qV → List qV → qW → Prop) (Q : qR) : qK := x_aload 1 (x_get 10 3 (x_int 0 (x_aload 0 (x_get 10 3 (x_int 0 (x_int 40 (x_copy (x_nw (x_aload 0 (x_aload 1 (x_get 10 4 (x_put 10 4 q_oki (x_nw (x_vret Q))))))))))))))
set_option maxRecDepth 100000 in
theorem s_X10_copy_45 {p : Program} {l : Launch} {e : Env} {R : Room} {s : State} {m : MethodId} {args : Array Value} {below : List Frame} {meth : Method} {c : Code} {nW : Nat} {dC : Nat → ClassId} {dI : Nat → Nat → Nat} {k : Nat → ClassId} {g : Nat → Nat} {A : Nat → Prop} {J : Nat → List qV → List qV → qW → Prop} {Q : qR} (X : q_X p R s m args meth c cX10_copy 2 nW 1 68 RX10 none dC dI k g A) (hJ : ∀ d : Nat, q_Sd p l e R s m args below meth c 2 nW dC dI k g A (MQ below (q_post (dC, dI) k g nW Q A) args s 0 0 A) d (x_cut (is_X10_copy d) (J d))) : q_Sd p l e R s m args below meth c 2 nW dC dI k g A (MQ below (q_post (dC, dI) k g nW Q A) args s 0 0 A) 45 (b_X10_copy_45 J Q) := by
  unfold b_X10_copy_45
  refine s_aload_n X rfl dX10_copy_45 ?_
  refine s_get X (T := TX10) (C := RX10) (N := 5) tu_X10 rfl (by decide) tw_221 dX10_copy_46 ?_
  refine s_iconst X ⟨by decide, by decide⟩ dX10_copy_49 ?_
  refine s_aload_n X rfl dX10_copy_50 ?_
  refine s_get X (T := TX10) (C := RX10) (N := 5) tu_X10 rfl (by decide) tw_221 dX10_copy_51 ?_
  refine s_iconst X ⟨by decide, by decide⟩ dX10_copy_54 ?_
  refine s_bipush X ⟨by decide, by decide⟩ (by decide) dX10_copy_55 ?_
  refine s_copy X tw_519 tw_163 tw_162 tw_124 ⟨by decide, by decide⟩ dX10_copy_57 ?_
  refine s_nw ?_
  refine s_aload_n X rfl dX10_copy_60 ?_
  refine s_aload_n X rfl dX10_copy_61 ?_
  refine s_get X (T := TX10) (C := RX10) (N := 5) tu_X10 rfl (by decide) tw_223 dX10_copy_62 ?_
  refine s_put X (T := TX10) (C := RX10) (N := 5) tu_X10 tyX10_ok nmX10 rfl (by decide) tw_223 rfl (by decide +kernel) q_oki_t dX10_copy_65 ?_
  refine s_nw ?_
  exact s_vret X dX10_copy_68
set_option maxRecDepth 100000 in
def b_X10_copy_0 (J : Nat → List qV → List qV → qW → Prop) (Q : qR) : qK := x_aload 1 (x_get 10 0 (x_int 0 (x_aload 0 (x_get 10 0 (x_int 0 (x_int 40 (x_copy (x_nw (x_aload 1 (x_get 10 1 (x_int 0 (x_aload 0 (x_get 10 1 (x_int 0 (x_int 40 (x_copy (x_nw (x_aload 1 (x_get 10 2 (x_int 0 (x_aload 0 (x_get 10 2 (x_int 0 (x_int 40 (x_copy (x_nw (b_X10_copy_45 J Q)))))))))))))))))))))))))))
set_option maxRecDepth 100000 in
theorem s_X10_copy_0 {p : Program} {l : Launch} {e : Env} {R : Room} {s : State} {m : MethodId} {args : Array Value} {below : List Frame} {meth : Method} {c : Code} {nW : Nat} {dC : Nat → ClassId} {dI : Nat → Nat → Nat} {k : Nat → ClassId} {g : Nat → Nat} {A : Nat → Prop} {J : Nat → List qV → List qV → qW → Prop} {Q : qR} (X : q_X p R s m args meth c cX10_copy 2 nW 1 68 RX10 none dC dI k g A) (hJ : ∀ d : Nat, q_Sd p l e R s m args below meth c 2 nW dC dI k g A (MQ below (q_post (dC, dI) k g nW Q A) args s 0 0 A) d (x_cut (is_X10_copy d) (J d))) : q_Sd p l e R s m args below meth c 2 nW dC dI k g A (MQ below (q_post (dC, dI) k g nW Q A) args s 0 0 A) 0 (b_X10_copy_0 J Q) := by
  unfold b_X10_copy_0
  refine s_aload_n X rfl dX10_copy_0 ?_
  refine s_get X (T := TX10) (C := RX10) (N := 5) tu_X10 rfl (by decide) tw_215 dX10_copy_1 ?_
  refine s_iconst X ⟨by decide, by decide⟩ dX10_copy_4 ?_
  refine s_aload_n X rfl dX10_copy_5 ?_
  refine s_get X (T := TX10) (C := RX10) (N := 5) tu_X10 rfl (by decide) tw_215 dX10_copy_6 ?_
  refine s_iconst X ⟨by decide, by decide⟩ dX10_copy_9 ?_
  refine s_bipush X ⟨by decide, by decide⟩ (by decide) dX10_copy_10 ?_
  refine s_copy X tw_519 tw_163 tw_162 tw_124 ⟨by decide, by decide⟩ dX10_copy_12 ?_
  refine s_nw ?_
  refine s_aload_n X rfl dX10_copy_15 ?_
  refine s_get X (T := TX10) (C := RX10) (N := 5) tu_X10 rfl (by decide) tw_217 dX10_copy_16 ?_
  refine s_iconst X ⟨by decide, by decide⟩ dX10_copy_19 ?_
  refine s_aload_n X rfl dX10_copy_20 ?_
  refine s_get X (T := TX10) (C := RX10) (N := 5) tu_X10 rfl (by decide) tw_217 dX10_copy_21 ?_
  refine s_iconst X ⟨by decide, by decide⟩ dX10_copy_24 ?_
  refine s_bipush X ⟨by decide, by decide⟩ (by decide) dX10_copy_25 ?_
  refine s_copy X tw_519 tw_163 tw_162 tw_124 ⟨by decide, by decide⟩ dX10_copy_27 ?_
  refine s_nw ?_
  refine s_aload_n X rfl dX10_copy_30 ?_
  refine s_get X (T := TX10) (C := RX10) (N := 5) tu_X10 rfl (by decide) tw_219 dX10_copy_31 ?_
  refine s_iconst X ⟨by decide, by decide⟩ dX10_copy_34 ?_
  refine s_aload_n X rfl dX10_copy_35 ?_
  refine s_get X (T := TX10) (C := RX10) (N := 5) tu_X10 rfl (by decide) tw_219 dX10_copy_36 ?_
  refine s_iconst X ⟨by decide, by decide⟩ dX10_copy_39 ?_
  refine s_bipush X ⟨by decide, by decide⟩ (by decide) dX10_copy_40 ?_
  refine s_copy X tw_519 tw_163 tw_162 tw_124 ⟨by decide, by decide⟩ dX10_copy_42 ?_
  refine s_nw ?_
  exact s_X10_copy_45 X hJ

def sp_X10_copy : qS := fun av w Q => ∃ (k1 : Nat → Int) (k2 : Nat → Int) (k3 : Nat → Int) (k4 : Nat → Int) (d : Int) (g1 : Nat → Int) (g2 : Nat → Int) (g3 : Nat → Int) (g4 : Nat → Int) (t0 : Int), av = [q2 0, q2 5] ∧ w = (wYo 0 k1 k2 k3 k4 d ++ wYo 5 g1 g2 g3 g4 t0) ∧ (Q none ((wYo 0 (va_cpy g1 k1 0 0 40) (va_cpy g2 k2 0 0 40) (va_cpy g3 k3 0 0 40) (va_cpy g4 k4 0 0 40) t0 ++ wYo 5 g1 g2 g3 g4 t0)))
set_option maxHeartbeats 4000000 in
set_option maxRecDepth 100000 in
theorem m_X10_copy (l : Launch) : q_M l yX10_copy cX10_copy 2 none 1 68 sp_X10_copy := by
  refine q_meth (by decide) (fun av w Q h => by obtain ⟨k1, k2, k3, k4, d, g1, g2, g3, g4, t0, rfl, rfl, hQ⟩ := h; exact Nat.le_of_ble_eq_true rfl) ?_
  intro p e R s m args below meth c dC dI k g A av w Q hsp oka okw X
  obtain ⟨k1, k2, k3, k4, d, g1, g2, g3, g4, t0, rfl, rfl, hQ⟩ := hsp
  refine s_mono (s_X10_copy_0 X (J := fun _ _ _ _ => False) (fun d => s_cutF)) ?_
  rintro lv st w' ⟨rfl, rfl, rfl⟩
  apply And.intro
  · exact ⟨by omega, by omega, by omega, by first | omega | decide, by omega⟩
  apply And.intro
  · exact ⟨by omega, by omega, by omega, by first | omega | decide, by omega⟩
  apply And.intro
  · exact ⟨by omega, by omega, by omega, by first | omega | decide, by omega⟩
  apply And.intro
  · exact ⟨by omega, by omega, by omega, by first | omega | decide, by omega⟩
  apply And.intro
  · exact trivial
  exact hQ

theorem dX10_add_0 : decode cX10_add 0 = .ok (.aload_n 0, 1) := by decide +kernel
theorem dX10_add_1 : decode cX10_add 1 = .ok (.getfield 30, 3) := by decide +kernel
theorem dX10_add_4 : decode cX10_add 4 = .ok (.bipush 40, 2) := by decide +kernel
theorem dX10_add_6 : decode cX10_add 6 = .ok (.if_icmp .ge 54, 3) := by decide +kernel
theorem dX10_add_9 : decode cX10_add 9 = .ok (.aload_n 0, 1) := by decide +kernel
theorem dX10_add_10 : decode cX10_add 10 = .ok (.getfield 9, 3) := by decide +kernel
theorem dX10_add_13 : decode cX10_add 13 = .ok (.aload_n 0, 1) := by decide +kernel
theorem dX10_add_14 : decode cX10_add 14 = .ok (.getfield 30, 3) := by decide +kernel
theorem dX10_add_17 : decode cX10_add 17 = .ok (.iload_n 1, 1) := by decide +kernel
theorem dX10_add_18 : decode cX10_add 18 = .ok (.iastore, 1) := by decide +kernel
theorem dX10_add_19 : decode cX10_add 19 = .ok (.aload_n 0, 1) := by decide +kernel
theorem dX10_add_20 : decode cX10_add 20 = .ok (.getfield 15, 3) := by decide +kernel
theorem dX10_add_23 : decode cX10_add 23 = .ok (.aload_n 0, 1) := by decide +kernel
theorem dX10_add_24 : decode cX10_add 24 = .ok (.getfield 30, 3) := by decide +kernel
theorem dX10_add_27 : decode cX10_add 27 = .ok (.iload_n 2, 1) := by decide +kernel
theorem dX10_add_28 : decode cX10_add 28 = .ok (.iastore, 1) := by decide +kernel
theorem dX10_add_29 : decode cX10_add 29 = .ok (.aload_n 0, 1) := by decide +kernel
theorem dX10_add_30 : decode cX10_add 30 = .ok (.getfield 18, 3) := by decide +kernel
theorem dX10_add_33 : decode cX10_add 33 = .ok (.aload_n 0, 1) := by decide +kernel
theorem dX10_add_34 : decode cX10_add 34 = .ok (.getfield 30, 3) := by decide +kernel
theorem dX10_add_37 : decode cX10_add 37 = .ok (.iload_n 3, 1) := by decide +kernel
theorem dX10_add_38 : decode cX10_add 38 = .ok (.iastore, 1) := by decide +kernel
theorem dX10_add_39 : decode cX10_add 39 = .ok (.aload_n 0, 1) := by decide +kernel
theorem dX10_add_40 : decode cX10_add 40 = .ok (.getfield 21, 3) := by decide +kernel
theorem dX10_add_43 : decode cX10_add 43 = .ok (.aload_n 0, 1) := by decide +kernel
theorem dX10_add_44 : decode cX10_add 44 = .ok (.getfield 30, 3) := by decide +kernel
theorem dX10_add_47 : decode cX10_add 47 = .ok (.iload 4, 2) := by decide +kernel
theorem dX10_add_49 : decode cX10_add 49 = .ok (.iastore, 1) := by decide +kernel
theorem dX10_add_50 : decode cX10_add 50 = .ok (.aload_n 0, 1) := by decide +kernel
theorem dX10_add_51 : decode cX10_add 51 = .ok (.dup, 1) := by decide +kernel
theorem dX10_add_52 : decode cX10_add 52 = .ok (.getfield 30, 3) := by decide +kernel
theorem dX10_add_55 : decode cX10_add 55 = .ok (.iconst 1, 1) := by decide +kernel
theorem dX10_add_56 : decode cX10_add 56 = .ok (.iadd, 1) := by decide +kernel
theorem dX10_add_57 : decode cX10_add 57 = .ok (.putfield 30, 3) := by decide +kernel
theorem dX10_add_60 : decode cX10_add 60 = .ok (.return_, 1) := by decide +kernel
def is_X10_add : Nat → List Nat := fun d => []
set_option maxRecDepth 100000 in
def b_X10_add_60 (J : Nat → List qV → List qV → qW → Prop) (Q : qR) : qK := x_vret Q
set_option maxRecDepth 100000 in
theorem s_X10_add_60 {p : Program} {l : Launch} {e : Env} {R : Room} {s : State} {m : MethodId} {args : Array Value} {below : List Frame} {meth : Method} {c : Code} {nW : Nat} {dC : Nat → ClassId} {dI : Nat → Nat → Nat} {k : Nat → ClassId} {g : Nat → Nat} {A : Nat → Prop} {J : Nat → List qV → List qV → qW → Prop} {Q : qR} (X : q_X p R s m args meth c cX10_add 5 nW 0 0 RX10 none dC dI k g A) (hJ : ∀ d : Nat, q_Sd p l e R s m args below meth c 5 nW dC dI k g A (MQ below (q_post (dC, dI) k g nW Q A) args s 0 0 A) d (x_cut (is_X10_add d) (J d))) : q_Sd p l e R s m args below meth c 5 nW dC dI k g A (MQ below (q_post (dC, dI) k g nW Q A) args s 0 0 A) 60 (b_X10_add_60 J Q) := by
  unfold b_X10_add_60
  exact s_vret X dX10_add_60
set_option maxRecDepth 100000 in
def b_X10_add_43 (J : Nat → List qV → List qV → qW → Prop) (Q : qR) : qK := x_aload 0 (x_get 10 4 (x_iload 4 (x_iast (x_nw (x_aload 0 (x_dup (x_get 10 4 (x_int 1 (x_iadd (x_put 10 4 q_oki (x_nw (b_X10_add_60 J Q))))))))))))
set_option maxRecDepth 100000 in
theorem s_X10_add_43 {p : Program} {l : Launch} {e : Env} {R : Room} {s : State} {m : MethodId} {args : Array Value} {below : List Frame} {meth : Method} {c : Code} {nW : Nat} {dC : Nat → ClassId} {dI : Nat → Nat → Nat} {k : Nat → ClassId} {g : Nat → Nat} {A : Nat → Prop} {J : Nat → List qV → List qV → qW → Prop} {Q : qR} (X : q_X p R s m args meth c cX10_add 5 nW 0 0 RX10 none dC dI k g A) (hJ : ∀ d : Nat, q_Sd p l e R s m args below meth c 5 nW dC dI k g A (MQ below (q_post (dC, dI) k g nW Q A) args s 0 0 A) d (x_cut (is_X10_add d) (J d))) : q_Sd p l e R s m args below meth c 5 nW dC dI k g A (MQ below (q_post (dC, dI) k g nW Q A) args s 0 0 A) 43 (b_X10_add_43 J Q) := by
  unfold b_X10_add_43
  refine s_aload_n X rfl dX10_add_43 ?_
  refine s_get X (T := TX10) (C := RX10) (N := 5) tu_X10 rfl (by decide) tw_223 dX10_add_44 ?_
  refine s_iload X dX10_add_47 ?_
  refine s_iast X dX10_add_49 ?_
  refine s_nw ?_
  refine s_aload_n X rfl dX10_add_50 ?_
  refine s_dup X dX10_add_51 ?_
  refine s_get X (T := TX10) (C := RX10) (N := 5) tu_X10 rfl (by decide) tw_223 dX10_add_52 ?_
  refine s_iconst X ⟨by decide, by decide⟩ dX10_add_55 ?_
  refine s_iadd X dX10_add_56 ?_
  refine s_put X (T := TX10) (C := RX10) (N := 5) tu_X10 tyX10_ok nmX10 rfl (by decide) tw_223 rfl (by decide +kernel) q_oki_t dX10_add_57 ?_
  refine s_nw ?_
  exact s_X10_add_60 X hJ
set_option maxRecDepth 100000 in
def b_X10_add_0 (J : Nat → List qV → List qV → qW → Prop) (Q : qR) : qK := x_aload 0 (x_get 10 4 (x_int 40 (x_icmp_ge (b_X10_add_60 J Q) (x_aload 0 (x_get 10 0 (x_aload 0 (x_get 10 4 (x_iload 1 (x_iast (x_nw (x_aload 0 (x_get 10 1 (x_aload 0 (x_get 10 4 (x_iload 2 (x_iast (x_nw (x_aload 0 (x_get 10 2 (x_aload 0 (x_get 10 4 (x_iload 3 (x_iast (x_nw (x_aload 0 (x_get 10 3 (b_X10_add_43 J Q)))))))))))))))))))))))))))
set_option maxRecDepth 100000 in
theorem s_X10_add_0 {p : Program} {l : Launch} {e : Env} {R : Room} {s : State} {m : MethodId} {args : Array Value} {below : List Frame} {meth : Method} {c : Code} {nW : Nat} {dC : Nat → ClassId} {dI : Nat → Nat → Nat} {k : Nat → ClassId} {g : Nat → Nat} {A : Nat → Prop} {J : Nat → List qV → List qV → qW → Prop} {Q : qR} (X : q_X p R s m args meth c cX10_add 5 nW 0 0 RX10 none dC dI k g A) (hJ : ∀ d : Nat, q_Sd p l e R s m args below meth c 5 nW dC dI k g A (MQ below (q_post (dC, dI) k g nW Q A) args s 0 0 A) d (x_cut (is_X10_add d) (J d))) : q_Sd p l e R s m args below meth c 5 nW dC dI k g A (MQ below (q_post (dC, dI) k g nW Q A) args s 0 0 A) 0 (b_X10_add_0 J Q) := by
  unfold b_X10_add_0
  refine s_aload_n X rfl dX10_add_0 ?_
  refine s_get X (T := TX10) (C := RX10) (N := 5) tu_X10 rfl (by decide) tw_223 dX10_add_1 ?_
  refine s_bipush X ⟨by decide, by decide⟩ (by decide) dX10_add_4 ?_
  refine s_icmp_ge X (tgt := 60) dX10_add_6 (by decide) ?_ ?_
  · exact s_X10_add_60 X hJ
  · refine s_aload_n X rfl dX10_add_9 ?_
    refine s_get X (T := TX10) (C := RX10) (N := 5) tu_X10 rfl (by decide) tw_215 dX10_add_10 ?_
    refine s_aload_n X rfl dX10_add_13 ?_
    refine s_get X (T := TX10) (C := RX10) (N := 5) tu_X10 rfl (by decide) tw_223 dX10_add_14 ?_
    refine s_iload_n X rfl dX10_add_17 ?_
    refine s_iast X dX10_add_18 ?_
    refine s_nw ?_
    refine s_aload_n X rfl dX10_add_19 ?_
    refine s_get X (T := TX10) (C := RX10) (N := 5) tu_X10 rfl (by decide) tw_217 dX10_add_20 ?_
    refine s_aload_n X rfl dX10_add_23 ?_
    refine s_get X (T := TX10) (C := RX10) (N := 5) tu_X10 rfl (by decide) tw_223 dX10_add_24 ?_
    refine s_iload_n X rfl dX10_add_27 ?_
    refine s_iast X dX10_add_28 ?_
    refine s_nw ?_
    refine s_aload_n X rfl dX10_add_29 ?_
    refine s_get X (T := TX10) (C := RX10) (N := 5) tu_X10 rfl (by decide) tw_219 dX10_add_30 ?_
    refine s_aload_n X rfl dX10_add_33 ?_
    refine s_get X (T := TX10) (C := RX10) (N := 5) tu_X10 rfl (by decide) tw_223 dX10_add_34 ?_
    refine s_iload_n X rfl dX10_add_37 ?_
    refine s_iast X dX10_add_38 ?_
    refine s_nw ?_
    refine s_aload_n X rfl dX10_add_39 ?_
    refine s_get X (T := TX10) (C := RX10) (N := 5) tu_X10 rfl (by decide) tw_221 dX10_add_40 ?_
    exact s_X10_add_43 X hJ

def sp_X10_add : qS := fun av w Q => ∃ (k1 : Nat → Int) (k2 : Nat → Int) (k3 : Nat → Int) (k4 : Nat → Int) (d : Int) (a : Int) (b : Int) (e : Int) (f : Int), av = [q2 0, q1 a, q1 b, q1 e, q1 f] ∧ w = (wYo 0 k1 k2 k3 k4 d) ∧ (0 ≤ d ∧ d ≤ 40) ∧ (∀ (g1 : Nat → Int) (g2 : Nat → Int) (g3 : Nat → Int) (g4 : Nat → Int) (t : Int), (0 ≤ t ∧ t ≤ 40) → Q none ((wYo 0 g1 g2 g3 g4 t)))
set_option maxHeartbeats 4000000 in
set_option maxRecDepth 100000 in
theorem m_X10_add (l : Launch) : q_M l yX10_add cX10_add 5 none 0 0 sp_X10_add := by
  refine q_meth (by decide) (fun av w Q h => by obtain ⟨k1, k2, k3, k4, d, a, b, e, f, rfl, rfl, hd, hQ⟩ := h; exact Nat.le_of_ble_eq_true rfl) ?_
  intro p e R s m args below meth c dC dI k g A av w Q hsp oka okw X
  obtain ⟨k1, k2, k3, k4, d, a, b, e, f, rfl, rfl, hd, hQ⟩ := hsp
  have o_a : -2147483648 ≤ a ∧ a ≤ 2147483647 := oka _ (List.mem_of_getElem? (i := 1) rfl)
  have o_b : -2147483648 ≤ b ∧ b ≤ 2147483647 := oka _ (List.mem_of_getElem? (i := 2) rfl)
  have o_e : -2147483648 ≤ e ∧ e ≤ 2147483647 := oka _ (List.mem_of_getElem? (i := 3) rfl)
  have o_f : -2147483648 ≤ f ∧ f ≤ 2147483647 := oka _ (List.mem_of_getElem? (i := 4) rfl)
  refine s_mono (s_X10_add_0 X (J := fun _ _ _ _ => False) (fun d => s_cutF)) ?_
  rintro lv st w' ⟨rfl, rfl, rfl⟩
  apply And.intro
  · intro h6
    exact hQ _ _ _ _ _ (by first | omega | assumption | exact q_rg_up (by assumption) (by omega) | exact q_rg_up (q_rg_up (by assumption) (by omega)) (by omega) | exact q_rg_cpy (by assumption) (by assumption))
  · intro h6
    apply And.intro
    · exact ⟨by omega, by omega⟩
    apply And.intro
    · exact ⟨by omega, by omega⟩
    apply And.intro
    · exact ⟨by omega, by omega⟩
    apply And.intro
    · exact ⟨by omega, by omega⟩
    intro z56 h56
    first | replace h56 := e_add h56 (by omega) | replace h56 := e_rng h56
    apply And.intro
    · exact trivial
    exact hQ _ _ _ _ _ (by first | omega | assumption | exact q_rg_up (by assumption) (by omega) | exact q_rg_up (q_rg_up (by assumption) (by omega)) (by omega) | exact q_rg_cpy (by assumption) (by assumption))

theorem dX10_look_0 : decode cX10_look 0 = .ok (.iload_n 1, 1) := by decide +kernel
theorem dX10_look_1 : decode cX10_look 1 = .ok (.ifCond .lt 17, 3) := by decide +kernel
theorem dX10_look_4 : decode cX10_look 4 = .ok (.iload_n 1, 1) := by decide +kernel
theorem dX10_look_5 : decode cX10_look 5 = .ok (.aload_n 0, 1) := by decide +kernel
theorem dX10_look_6 : decode cX10_look 6 = .ok (.getfield 30, 3) := by decide +kernel
theorem dX10_look_9 : decode cX10_look 9 = .ok (.if_icmp .ge 9, 3) := by decide +kernel
theorem dX10_look_12 : decode cX10_look 12 = .ok (.iload_n 1, 1) := by decide +kernel
theorem dX10_look_13 : decode cX10_look 13 = .ok (.bipush 40, 2) := by decide +kernel
theorem dX10_look_15 : decode cX10_look 15 = .ok (.if_icmp .lt 6, 3) := by decide +kernel
theorem dX10_look_18 : decode cX10_look 18 = .ok (.bipush (-2), 2) := by decide +kernel
theorem dX10_look_20 : decode cX10_look 20 = .ok (.ireturn, 1) := by decide +kernel
theorem dX10_look_21 : decode cX10_look 21 = .ok (.iload_n 2, 1) := by decide +kernel
theorem dX10_look_22 : decode cX10_look 22 = .ok (.tableswitch 58 0 3 #[30, 37, 44, 51], 30) := by decide +kernel
theorem dX10_look_52 : decode cX10_look 52 = .ok (.aload_n 0, 1) := by decide +kernel
theorem dX10_look_53 : decode cX10_look 53 = .ok (.getfield 9, 3) := by decide +kernel
theorem dX10_look_56 : decode cX10_look 56 = .ok (.iload_n 1, 1) := by decide +kernel
theorem dX10_look_57 : decode cX10_look 57 = .ok (.iaload, 1) := by decide +kernel
theorem dX10_look_58 : decode cX10_look 58 = .ok (.ireturn, 1) := by decide +kernel
theorem dX10_look_59 : decode cX10_look 59 = .ok (.aload_n 0, 1) := by decide +kernel
theorem dX10_look_60 : decode cX10_look 60 = .ok (.getfield 15, 3) := by decide +kernel
theorem dX10_look_63 : decode cX10_look 63 = .ok (.iload_n 1, 1) := by decide +kernel
theorem dX10_look_64 : decode cX10_look 64 = .ok (.iaload, 1) := by decide +kernel
theorem dX10_look_65 : decode cX10_look 65 = .ok (.ireturn, 1) := by decide +kernel
theorem dX10_look_66 : decode cX10_look 66 = .ok (.aload_n 0, 1) := by decide +kernel
theorem dX10_look_67 : decode cX10_look 67 = .ok (.getfield 18, 3) := by decide +kernel
theorem dX10_look_70 : decode cX10_look 70 = .ok (.iload_n 1, 1) := by decide +kernel
theorem dX10_look_71 : decode cX10_look 71 = .ok (.iaload, 1) := by decide +kernel
theorem dX10_look_72 : decode cX10_look 72 = .ok (.ireturn, 1) := by decide +kernel
theorem dX10_look_73 : decode cX10_look 73 = .ok (.aload_n 0, 1) := by decide +kernel
theorem dX10_look_74 : decode cX10_look 74 = .ok (.getfield 21, 3) := by decide +kernel
theorem dX10_look_77 : decode cX10_look 77 = .ok (.iload_n 1, 1) := by decide +kernel
theorem dX10_look_78 : decode cX10_look 78 = .ok (.iaload, 1) := by decide +kernel
theorem dX10_look_79 : decode cX10_look 79 = .ok (.ireturn, 1) := by decide +kernel
theorem dX10_look_80 : decode cX10_look 80 = .ok (.bipush (-2), 2) := by decide +kernel
theorem dX10_look_82 : decode cX10_look 82 = .ok (.ireturn, 1) := by decide +kernel
def is_X10_look : Nat → List Nat := fun d => []
set_option maxRecDepth 100000 in
def b_X10_look_80 (J : Nat → List qV → List qV → qW → Prop) (Q : qR) : qK := x_int (-2) (x_iret Q)
set_option maxRecDepth 100000 in
theorem s_X10_look_80 {p : Program} {l : Launch} {e : Env} {R : Room} {s : State} {m : MethodId} {args : Array Value} {below : List Frame} {meth : Method} {c : Code} {nW : Nat} {dC : Nat → ClassId} {dI : Nat → Nat → Nat} {k : Nat → ClassId} {g : Nat → Nat} {A : Nat → Prop} {J : Nat → List qV → List qV → qW → Prop} {Q : qR} (X : q_X p R s m args meth c cX10_look 3 nW 0 0 RX10 (some .int) dC dI k g A) (hJ : ∀ d : Nat, q_Sd p l e R s m args below meth c 3 nW dC dI k g A (MQ below (q_post (dC, dI) k g nW Q A) args s 0 0 A) d (x_cut (is_X10_look d) (J d))) : q_Sd p l e R s m args below meth c 3 nW dC dI k g A (MQ below (q_post (dC, dI) k g nW Q A) args s 0 0 A) 80 (b_X10_look_80 J Q) := by
  unfold b_X10_look_80
  refine s_bipush X ⟨by decide, by decide⟩ (by decide) dX10_look_80 ?_
  exact s_iret X dX10_look_82
set_option maxRecDepth 100000 in
def b_X10_look_18 (J : Nat → List qV → List qV → qW → Prop) (Q : qR) : qK := x_int (-2) (x_iret Q)
set_option maxRecDepth 100000 in
theorem s_X10_look_18 {p : Program} {l : Launch} {e : Env} {R : Room} {s : State} {m : MethodId} {args : Array Value} {below : List Frame} {meth : Method} {c : Code} {nW : Nat} {dC : Nat → ClassId} {dI : Nat → Nat → Nat} {k : Nat → ClassId} {g : Nat → Nat} {A : Nat → Prop} {J : Nat → List qV → List qV → qW → Prop} {Q : qR} (X : q_X p R s m args meth c cX10_look 3 nW 0 0 RX10 (some .int) dC dI k g A) (hJ : ∀ d : Nat, q_Sd p l e R s m args below meth c 3 nW dC dI k g A (MQ below (q_post (dC, dI) k g nW Q A) args s 0 0 A) d (x_cut (is_X10_look d) (J d))) : q_Sd p l e R s m args below meth c 3 nW dC dI k g A (MQ below (q_post (dC, dI) k g nW Q A) args s 0 0 A) 18 (b_X10_look_18 J Q) := by
  unfold b_X10_look_18
  refine s_bipush X ⟨by decide, by decide⟩ (by decide) dX10_look_18 ?_
  exact s_iret X dX10_look_20
set_option maxRecDepth 100000 in
def b_X10_look_0 (J : Nat → List qV → List qV → qW → Prop) (Q : qR) : qK := x_iload 1 (x_if_lt (b_X10_look_18 J Q) (x_iload 1 (x_aload 0 (x_get 10 4 (x_icmp_ge (b_X10_look_18 J Q) (x_iload 1 (x_int 40 (x_icmp_lt (x_iload 2 (x_sw 0 3 [x_aload 0 (x_get 10 0 (x_iload 1 (x_iald (x_iret Q)))), x_aload 0 (x_get 10 1 (x_iload 1 (x_iald (x_iret Q)))), x_aload 0 (x_get 10 2 (x_iload 1 (x_iald (x_iret Q)))), x_aload 0 (x_get 10 3 (x_iload 1 (x_iald (x_iret Q))))] (b_X10_look_80 J Q))) (b_X10_look_18 J Q)))))))))
set_option maxRecDepth 100000 in
theorem s_X10_look_0 {p : Program} {l : Launch} {e : Env} {R : Room} {s : State} {m : MethodId} {args : Array Value} {below : List Frame} {meth : Method} {c : Code} {nW : Nat} {dC : Nat → ClassId} {dI : Nat → Nat → Nat} {k : Nat → ClassId} {g : Nat → Nat} {A : Nat → Prop} {J : Nat → List qV → List qV → qW → Prop} {Q : qR} (X : q_X p R s m args meth c cX10_look 3 nW 0 0 RX10 (some .int) dC dI k g A) (hJ : ∀ d : Nat, q_Sd p l e R s m args below meth c 3 nW dC dI k g A (MQ below (q_post (dC, dI) k g nW Q A) args s 0 0 A) d (x_cut (is_X10_look d) (J d))) : q_Sd p l e R s m args below meth c 3 nW dC dI k g A (MQ below (q_post (dC, dI) k g nW Q A) args s 0 0 A) 0 (b_X10_look_0 J Q) := by
  unfold b_X10_look_0
  refine s_iload_n X rfl dX10_look_0 ?_
  refine s_if_lt X (tgt := 18) dX10_look_1 (by decide) ?_ ?_
  · exact s_X10_look_18 X hJ
  · refine s_iload_n X rfl dX10_look_4 ?_
    refine s_aload_n X rfl dX10_look_5 ?_
    refine s_get X (T := TX10) (C := RX10) (N := 5) tu_X10 rfl (by decide) tw_223 dX10_look_6 ?_
    refine s_icmp_ge X (tgt := 18) dX10_look_9 (by decide) ?_ ?_
    · exact s_X10_look_18 X hJ
    · refine s_iload_n X rfl dX10_look_12 ?_
      refine s_bipush X ⟨by decide, by decide⟩ (by decide) dX10_look_13 ?_
      refine s_icmp_lt X (tgt := 21) dX10_look_15 (by decide) ?_ ?_
      · refine s_iload_n X rfl dX10_look_21 ?_
        refine s_sw X (ts := [52, 59, 66, 73]) (td := 80) dX10_look_22 (by decide) (by decide) (by decide) rfl ?_ ?_
        · intro i t K ht hK
          match i, ht, hK with
          | 0, ht, hK =>
            cases ht
            cases hK
            refine s_aload_n X rfl dX10_look_52 ?_
            refine s_get X (T := TX10) (C := RX10) (N := 5) tu_X10 rfl (by decide) tw_215 dX10_look_53 ?_
            refine s_iload_n X rfl dX10_look_56 ?_
            refine s_iald X dX10_look_57 ?_
            exact s_iret X dX10_look_58
          | 1, ht, hK =>
            cases ht
            cases hK
            refine s_aload_n X rfl dX10_look_59 ?_
            refine s_get X (T := TX10) (C := RX10) (N := 5) tu_X10 rfl (by decide) tw_217 dX10_look_60 ?_
            refine s_iload_n X rfl dX10_look_63 ?_
            refine s_iald X dX10_look_64 ?_
            exact s_iret X dX10_look_65
          | 2, ht, hK =>
            cases ht
            cases hK
            refine s_aload_n X rfl dX10_look_66 ?_
            refine s_get X (T := TX10) (C := RX10) (N := 5) tu_X10 rfl (by decide) tw_219 dX10_look_67 ?_
            refine s_iload_n X rfl dX10_look_70 ?_
            refine s_iald X dX10_look_71 ?_
            exact s_iret X dX10_look_72
          | 3, ht, hK =>
            cases ht
            cases hK
            refine s_aload_n X rfl dX10_look_73 ?_
            refine s_get X (T := TX10) (C := RX10) (N := 5) tu_X10 rfl (by decide) tw_221 dX10_look_74 ?_
            refine s_iload_n X rfl dX10_look_77 ?_
            refine s_iald X dX10_look_78 ?_
            exact s_iret X dX10_look_79
          | i + 4, ht, hK => exact absurd ht (by simp)
        · exact s_X10_look_80 X hJ
      · exact s_X10_look_18 X hJ

def spr_X10_look : List qV → qW → (Option qV → Prop) → Prop := fun av w Q => ∃ (k1 : Nat → Int) (k2 : Nat → Int) (k3 : Nat → Int) (k4 : Nat → Int) (d : Int) (a : Int) (b : Int), av = [q2 0, q1 a, q1 b] ∧ w = (wYo 0 k1 k2 k3 k4 d) ∧ (∀ (r : Int) , Q (some (q1 r)))
def sp_X10_look : qS := fun av w Q => spr_X10_look av w (fun r => Q r w)
set_option maxHeartbeats 4000000 in
set_option maxRecDepth 100000 in
theorem m_X10_look (l : Launch) : q_M l yX10_look cX10_look 3 (some .int) 0 0 sp_X10_look := by
  refine q_meth (by decide) (fun av w Q h => by obtain ⟨k1, k2, k3, k4, d, a, b, rfl, rfl, hQ⟩ := h; exact Nat.le_of_ble_eq_true rfl) ?_
  intro p e R s m args below meth c dC dI k g A av w Q hsp oka okw X
  obtain ⟨k1, k2, k3, k4, d, a, b, rfl, rfl, hQ⟩ := hsp
  have o_a : -2147483648 ≤ a ∧ a ≤ 2147483647 := oka _ (List.mem_of_getElem? (i := 1) rfl)
  have o_b : -2147483648 ≤ b ∧ b ≤ 2147483647 := oka _ (List.mem_of_getElem? (i := 2) rfl)
  refine s_mono (s_X10_look_0 X (J := fun _ _ _ _ => False) (fun d => s_cutF)) ?_
  rintro lv st w' ⟨rfl, rfl, rfl⟩
  apply And.intro
  · intro h1
    exact hQ _
  · intro h1
    apply And.intro
    · intro h9
      exact hQ _
    · intro h9
      apply And.intro
      · intro h15
        apply And.intro
        · apply And.intro
          · intro h22
            apply And.intro
            · exact ⟨by omega, by omega⟩
            intro z57 h57
            exact hQ _
          apply And.intro
          · intro h22
            apply And.intro
            · exact ⟨by omega, by omega⟩
            intro z64 h64
            exact hQ _
          apply And.intro
          · intro h22
            apply And.intro
            · exact ⟨by omega, by omega⟩
            intro z71 h71
            exact hQ _
          apply And.intro
          · intro h22
            apply And.intro
            · exact ⟨by omega, by omega⟩
            intro z78 h78
            exact hQ _
          exact trivial
        · intro h22
          exact hQ _
      · intro h15
        exact hQ _

theorem dX3_wipe_0 : decode cX3_wipe 0 = .ok (.aload_n 0, 1) := by decide +kernel
theorem dX3_wipe_1 : decode cX3_wipe 1 = .ok (.getfield 9, 3) := by decide +kernel
theorem dX3_wipe_4 : decode cX3_wipe 4 = .ok (.iconst 0, 1) := by decide +kernel
theorem dX3_wipe_5 : decode cX3_wipe 5 = .ok (.invokestatic 15, 3) := by decide +kernel
theorem dX3_wipe_8 : decode cX3_wipe 8 = .ok (.aload_n 0, 1) := by decide +kernel
theorem dX3_wipe_9 : decode cX3_wipe 9 = .ok (.iconst 0, 1) := by decide +kernel
theorem dX3_wipe_10 : decode cX3_wipe 10 = .ok (.putfield 21, 3) := by decide +kernel
theorem dX3_wipe_13 : decode cX3_wipe 13 = .ok (.return_, 1) := by decide +kernel
def is_X3_wipe : Nat → List Nat := fun d => []
set_option maxRecDepth 100000 in
def b_X3_wipe_0 (J : Nat → List qV → List qV → qW → Prop) (Q : qR) : qK := x_aload 0 (x_get 3 0 (x_int 0 (x_call none 2 sp_J7_fill_53178 (x_nw (x_aload 0 (x_int 0 (x_put 3 1 q_oki (x_nw (x_vret Q)))))))))
set_option maxRecDepth 100000 in
theorem s_X3_wipe_0 {p : Program} {l : Launch} {e : Env} {R : Room} {s : State} {m : MethodId} {args : Array Value} {below : List Frame} {meth : Method} {c : Code} {nW : Nat} {dC : Nat → ClassId} {dI : Nat → Nat → Nat} {k : Nat → ClassId} {g : Nat → Nat} {A : Nat → Prop} {J : Nat → List qV → List qV → qW → Prop} {Q : qR} (X : q_X p R s m args meth c cX3_wipe 1 nW 1 23 RX3 none dC dI k g A) (hJ : ∀ d : Nat, q_Sd p l e R s m args below meth c 1 nW dC dI k g A (MQ below (q_post (dC, dI) k g nW Q A) args s 0 0 A) d (x_cut (is_X3_wipe d) (J d))) : q_Sd p l e R s m args below meth c 1 nW dC dI k g A (MQ below (q_post (dC, dI) k g nW Q A) args s 0 0 A) 0 (b_X3_wipe_0 J Q) := by
  unfold b_X3_wipe_0
  refine s_aload_n X rfl dX3_wipe_0 ?_
  refine s_get X (T := TX3) (C := RX3) (N := 2) tu_X3 rfl (by decide) tw_230 dX3_wipe_1 ?_
  refine s_iconst X ⟨by decide, by decide⟩ dX3_wipe_4 ?_
  refine s_callS X (m_J7_fill_53178 l) tw_372 tw_159 tw_123 tw_160 (by decide +kernel) ⟨by decide, by decide⟩ dX3_wipe_5 ?_
  refine s_nw ?_
  refine s_aload_n X rfl dX3_wipe_8 ?_
  refine s_iconst X ⟨by decide, by decide⟩ dX3_wipe_9 ?_
  refine s_put X (T := TX3) (C := RX3) (N := 2) tu_X3 tyX3_ok nmX3 rfl (by decide) tw_234 rfl (by decide +kernel) q_oki_t dX3_wipe_10 ?_
  refine s_nw ?_
  exact s_vret X dX3_wipe_13

def sp_X3_wipe : qS := fun av w Q => ∃ (g1 : Nat → Int) (o1 : Int), av = [q2 0] ∧ w = (wLo 0 g1 o1) ∧ (∀ (h : Nat → Int), Q none ((wLo 0 h 0)))
set_option maxHeartbeats 4000000 in
set_option maxRecDepth 100000 in
theorem m_X3_wipe (l : Launch) : q_M l yX3_wipe cX3_wipe 1 none 1 23 sp_X3_wipe := by
  refine q_meth (by decide) (fun av w Q h => by obtain ⟨g1, o1, rfl, rfl, hQ⟩ := h; exact Nat.le_of_ble_eq_true rfl) ?_
  intro p e R s m args below meth c dC dI k g A av w Q hsp oka okw X
  obtain ⟨g1, o1, rfl, rfl, hQ⟩ := hsp
  refine s_mono (s_X3_wipe_0 X (J := fun _ _ _ _ => False) (fun d => s_cutF)) ?_
  rintro lv st w' ⟨rfl, rfl, rfl⟩
  refine Exists.intro [1] (Exists.intro [q2 0, q1 _] (Exists.intro ([.inl (0, _, .inl _)]) (And.intro rfl (And.intro rfl (And.intro rfl (And.intro trivial ?_))))))
  refine Exists.intro _ (Exists.intro _ (Exists.intro _ (And.intro rfl (And.intro rfl (And.intro (by first | omega | assumption | exact q_rg_up (by assumption) (by omega) | exact q_rg_up (q_rg_up (by assumption) (by omega)) (by omega) | exact q_rg_cpy (by assumption) (by assumption)) (?_))))))
  intro g_5 h5
  apply And.intro
  · exact trivial
  exact hQ _

theorem dX3_copy_0 : decode cX3_copy 0 = .ok (.aload_n 1, 1) := by decide +kernel
theorem dX3_copy_1 : decode cX3_copy 1 = .ok (.getfield 9, 3) := by decide +kernel
theorem dX3_copy_4 : decode cX3_copy 4 = .ok (.iconst 0, 1) := by decide +kernel
theorem dX3_copy_5 : decode cX3_copy 5 = .ok (.aload_n 0, 1) := by decide +kernel
theorem dX3_copy_6 : decode cX3_copy 6 = .ok (.getfield 9, 3) := by decide +kernel
theorem dX3_copy_9 : decode cX3_copy 9 = .ok (.iconst 0, 1) := by decide +kernel
theorem dX3_copy_10 : decode cX3_copy 10 = .ok (.bipush 8, 2) := by decide +kernel
theorem dX3_copy_12 : decode cX3_copy 12 = .ok (.invokestatic 25, 3) := by decide +kernel
theorem dX3_copy_15 : decode cX3_copy 15 = .ok (.aload_n 0, 1) := by decide +kernel
theorem dX3_copy_16 : decode cX3_copy 16 = .ok (.aload_n 1, 1) := by decide +kernel
theorem dX3_copy_17 : decode cX3_copy 17 = .ok (.getfield 21, 3) := by decide +kernel
theorem dX3_copy_20 : decode cX3_copy 20 = .ok (.putfield 21, 3) := by decide +kernel
theorem dX3_copy_23 : decode cX3_copy 23 = .ok (.return_, 1) := by decide +kernel
def is_X3_copy : Nat → List Nat := fun d => []
set_option maxRecDepth 100000 in
def b_X3_copy_0 (J : Nat → List qV → List qV → qW → Prop) (Q : qR) : qK := x_aload 1 (x_get 3 0 (x_int 0 (x_aload 0 (x_get 3 0 (x_int 0 (x_int 8 (x_copy (x_nw (x_aload 0 (x_aload 1 (x_get 3 1 (x_put 3 1 q_oki (x_nw (x_vret Q))))))))))))))
set_option maxRecDepth 100000 in
theorem s_X3_copy_0 {p : Program} {l : Launch} {e : Env} {R : Room} {s : State} {m : MethodId} {args : Array Value} {below : List Frame} {meth : Method} {c : Code} {nW : Nat} {dC : Nat → ClassId} {dI : Nat → Nat → Nat} {k : Nat → ClassId} {g : Nat → Nat} {A : Nat → Prop} {J : Nat → List qV → List qV → qW → Prop} {Q : qR} (X : q_X p R s m args meth c cX3_copy 2 nW 1 68 RX3 none dC dI k g A) (hJ : ∀ d : Nat, q_Sd p l e R s m args below meth c 2 nW dC dI k g A (MQ below (q_post (dC, dI) k g nW Q A) args s 0 0 A) d (x_cut (is_X3_copy d) (J d))) : q_Sd p l e R s m args below meth c 2 nW dC dI k g A (MQ below (q_post (dC, dI) k g nW Q A) args s 0 0 A) 0 (b_X3_copy_0 J Q) := by
  unfold b_X3_copy_0
  refine s_aload_n X rfl dX3_copy_0 ?_
  refine s_get X (T := TX3) (C := RX3) (N := 2) tu_X3 rfl (by decide) tw_230 dX3_copy_1 ?_
  refine s_iconst X ⟨by decide, by decide⟩ dX3_copy_4 ?_
  refine s_aload_n X rfl dX3_copy_5 ?_
  refine s_get X (T := TX3) (C := RX3) (N := 2) tu_X3 rfl (by decide) tw_230 dX3_copy_6 ?_
  refine s_iconst X ⟨by decide, by decide⟩ dX3_copy_9 ?_
  refine s_bipush X ⟨by decide, by decide⟩ (by decide) dX3_copy_10 ?_
  refine s_copy X tw_524 tw_163 tw_162 tw_124 ⟨by decide, by decide⟩ dX3_copy_12 ?_
  refine s_nw ?_
  refine s_aload_n X rfl dX3_copy_15 ?_
  refine s_aload_n X rfl dX3_copy_16 ?_
  refine s_get X (T := TX3) (C := RX3) (N := 2) tu_X3 rfl (by decide) tw_234 dX3_copy_17 ?_
  refine s_put X (T := TX3) (C := RX3) (N := 2) tu_X3 tyX3_ok nmX3 rfl (by decide) tw_234 rfl (by decide +kernel) q_oki_t dX3_copy_20 ?_
  refine s_nw ?_
  exact s_vret X dX3_copy_23

def sp_X3_copy : qS := fun av w Q => ∃ (g1 : Nat → Int) (o1 : Int) (g2 : Nat → Int) (o2 : Int), av = [q2 0, q2 2] ∧ w = (wLo 0 g1 o1 ++ wLo 2 g2 o2) ∧ (Q none ((wLo 0 (va_cpy g2 g1 0 0 8) o2 ++ wLo 2 g2 o2)))
set_option maxHeartbeats 4000000 in
set_option maxRecDepth 100000 in
theorem m_X3_copy (l : Launch) : q_M l yX3_copy cX3_copy 2 none 1 68 sp_X3_copy := by
  refine q_meth (by decide) (fun av w Q h => by obtain ⟨g1, o1, g2, o2, rfl, rfl, hQ⟩ := h; exact Nat.le_of_ble_eq_true rfl) ?_
  intro p e R s m args below meth c dC dI k g A av w Q hsp oka okw X
  obtain ⟨g1, o1, g2, o2, rfl, rfl, hQ⟩ := hsp
  refine s_mono (s_X3_copy_0 X (J := fun _ _ _ _ => False) (fun d => s_cutF)) ?_
  rintro lv st w' ⟨rfl, rfl, rfl⟩
  apply And.intro
  · exact ⟨by omega, by omega, by omega, by first | omega | decide, by omega⟩
  apply And.intro
  · exact trivial
  exact hQ

theorem dX3_allGot_0 : decode cX3_allGot 0 = .ok (.iconst 0, 1) := by decide +kernel
theorem dX3_allGot_1 : decode cX3_allGot 1 = .ok (.istore_n 1, 1) := by decide +kernel
theorem dX3_allGot_2 : decode cX3_allGot 2 = .ok (.iconst 0, 1) := by decide +kernel
theorem dX3_allGot_3 : decode cX3_allGot 3 = .ok (.istore_n 2, 1) := by decide +kernel
theorem dX3_allGot_4 : decode cX3_allGot 4 = .ok (.iload_n 2, 1) := by decide +kernel
theorem dX3_allGot_5 : decode cX3_allGot 5 = .ok (.bipush 8, 2) := by decide +kernel
theorem dX3_allGot_7 : decode cX3_allGot 7 = .ok (.if_icmp .ge 18, 3) := by decide +kernel
theorem dX3_allGot_10 : decode cX3_allGot 10 = .ok (.iload_n 1, 1) := by decide +kernel
theorem dX3_allGot_11 : decode cX3_allGot 11 = .ok (.aload_n 0, 1) := by decide +kernel
theorem dX3_allGot_12 : decode cX3_allGot 12 = .ok (.getfield 9, 3) := by decide +kernel
theorem dX3_allGot_15 : decode cX3_allGot 15 = .ok (.iload_n 2, 1) := by decide +kernel
theorem dX3_allGot_16 : decode cX3_allGot 16 = .ok (.iaload, 1) := by decide +kernel
theorem dX3_allGot_17 : decode cX3_allGot 17 = .ok (.iadd, 1) := by decide +kernel
theorem dX3_allGot_18 : decode cX3_allGot 18 = .ok (.istore_n 1, 1) := by decide +kernel
theorem dX3_allGot_19 : decode cX3_allGot 19 = .ok (.iinc 2 1, 3) := by decide +kernel
theorem dX3_allGot_22 : decode cX3_allGot 22 = .ok (.goto (-18), 3) := by decide +kernel
theorem dX3_allGot_25 : decode cX3_allGot 25 = .ok (.iload_n 1, 1) := by decide +kernel
theorem dX3_allGot_26 : decode cX3_allGot 26 = .ok (.ireturn, 1) := by decide +kernel
def is_X3_allGot : Nat → List Nat := fun d => if d = 4 then [0, 1, 2] else []
set_option maxRecDepth 100000 in
def b_X3_allGot_4 (J : Nat → List qV → List qV → qW → Prop) (Q : qR) : qK := x_iload 2 (x_int 8 (x_icmp_ge (x_iload 1 (x_iret Q)) (x_iload 1 (x_aload 0 (x_get 3 0 (x_iload 2 (x_iald (x_iadd (x_istore 1 (x_iinc 2 1 (x_cut [0, 1, 2] (J 4))))))))))))
set_option maxRecDepth 100000 in
theorem s_X3_allGot_4 {p : Program} {l : Launch} {e : Env} {R : Room} {s : State} {m : MethodId} {args : Array Value} {below : List Frame} {meth : Method} {c : Code} {nW : Nat} {dC : Nat → ClassId} {dI : Nat → Nat → Nat} {k : Nat → ClassId} {g : Nat → Nat} {A : Nat → Prop} {J : Nat → List qV → List qV → qW → Prop} {Q : qR} (X : q_X p R s m args meth c cX3_allGot 3 nW 0 0 RX3 (some .int) dC dI k g A) (hJ : ∀ d : Nat, q_Sd p l e R s m args below meth c 3 nW dC dI k g A (MQ below (q_post (dC, dI) k g nW Q A) args s 0 0 A) d (x_cut (is_X3_allGot d) (J d))) : q_Sd p l e R s m args below meth c 3 nW dC dI k g A (MQ below (q_post (dC, dI) k g nW Q A) args s 0 0 A) 4 (b_X3_allGot_4 J Q) := by
  unfold b_X3_allGot_4
  refine s_iload_n X rfl dX3_allGot_4 ?_
  refine s_bipush X ⟨by decide, by decide⟩ (by decide) dX3_allGot_5 ?_
  refine s_icmp_ge X (tgt := 25) dX3_allGot_7 (by decide) ?_ ?_
  · refine s_iload_n X rfl dX3_allGot_25 ?_
    exact s_iret X dX3_allGot_26
  · refine s_iload_n X rfl dX3_allGot_10 ?_
    refine s_aload_n X rfl dX3_allGot_11 ?_
    refine s_get X (T := TX3) (C := RX3) (N := 2) tu_X3 rfl (by decide) tw_230 dX3_allGot_12 ?_
    refine s_iload_n X rfl dX3_allGot_15 ?_
    refine s_iald X dX3_allGot_16 ?_
    refine s_iadd X dX3_allGot_17 ?_
    refine s_istore_n X rfl (by decide) dX3_allGot_18 ?_
    refine s_iinc X (by decide) dX3_allGot_19 ?_
    refine s_goto X (tgt := 4) dX3_allGot_22 (by decide) ?_
    exact hJ 4
set_option maxRecDepth 100000 in
def b_X3_allGot_0 (J : Nat → List qV → List qV → qW → Prop) (Q : qR) : qK := x_int 0 (x_istore 1 (x_int 0 (x_istore 2 (x_cut [0, 1, 2] (J 4)))))
set_option maxRecDepth 100000 in
theorem s_X3_allGot_0 {p : Program} {l : Launch} {e : Env} {R : Room} {s : State} {m : MethodId} {args : Array Value} {below : List Frame} {meth : Method} {c : Code} {nW : Nat} {dC : Nat → ClassId} {dI : Nat → Nat → Nat} {k : Nat → ClassId} {g : Nat → Nat} {A : Nat → Prop} {J : Nat → List qV → List qV → qW → Prop} {Q : qR} (X : q_X p R s m args meth c cX3_allGot 3 nW 0 0 RX3 (some .int) dC dI k g A) (hJ : ∀ d : Nat, q_Sd p l e R s m args below meth c 3 nW dC dI k g A (MQ below (q_post (dC, dI) k g nW Q A) args s 0 0 A) d (x_cut (is_X3_allGot d) (J d))) : q_Sd p l e R s m args below meth c 3 nW dC dI k g A (MQ below (q_post (dC, dI) k g nW Q A) args s 0 0 A) 0 (b_X3_allGot_0 J Q) := by
  unfold b_X3_allGot_0
  refine s_iconst X ⟨by decide, by decide⟩ dX3_allGot_0 ?_
  refine s_istore_n X rfl (by decide) dX3_allGot_1 ?_
  refine s_iconst X ⟨by decide, by decide⟩ dX3_allGot_2 ?_
  refine s_istore_n X rfl (by decide) dX3_allGot_3 ?_
  exact hJ 4

def spr_X3_allGot : List qV → qW → (Option qV → Prop) → Prop := fun av w Q => ∃ (g1 : Nat → Int) (o1 : Int), av = [q2 0] ∧ w = (wLo 0 g1 o1) ∧ (∀ (r : Int) , Q (some (q1 r)))
def sp_X3_allGot : qS := fun av w Q => spr_X3_allGot av w (fun r => Q r w)
def I_X3_allGot (g1 : Nat → Int) (o1 : Int) : Nat → Nat → List qV → List qV → qW → Prop := fun dz mz vz sz wz => if dz = 4 then (∃ (v1 : Int) (v2 : Int), vz = [q2 0, q1 v1, q1 v2] ∧ sz = [] ∧ wz = (wLo 0 g1 o1) ∧ mz = (8 - v2).toNat ∧ (0 ≤ v2 ∧ v2 ≤ 8)) else False
set_option maxHeartbeats 4000000 in
set_option maxRecDepth 100000 in
theorem m_X3_allGot (l : Launch) : q_M l yX3_allGot cX3_allGot 3 (some .int) 0 0 sp_X3_allGot := by
  refine q_meth (by decide) (fun av w Q h => by obtain ⟨g1, o1, rfl, rfl, hQ⟩ := h; exact Nat.le_of_ble_eq_true rfl) ?_
  intro p e R s m args below meth c dC dI k g A av w Q hsp oka okw X
  obtain ⟨g1, o1, rfl, rfl, hQ⟩ := hsp
  refine s_mono (s_X3_allGot_0 X (J := fun dz vz sz wz => ∃ mz, I_X3_allGot g1 o1 dz mz vz sz wz) (q_loopn (I_X3_allGot g1 o1) (fun dz J => if dz = 4 then b_X3_allGot_4 J Q else q_F) ?hs ?hv)) ?_
  case hs =>
    intro d J hJ
    by_cases h4 : d = 4
    · subst h4; exact s_X3_allGot_4 X hJ
    simp only [h4, if_false]
    exact s_F
  case hv =>
    intro dz mz vz sz wz hI okv oks okw hlen
    by_cases h4 : dz = 4
    · subst h4
      obtain ⟨v1, v2, rfl, rfl, rfl, hn, hp⟩ := hI
      apply And.intro
      · intro h7
        exact hQ _
      · intro h7
        apply And.intro
        · exact ⟨by omega, by omega⟩
        intro z16 h16
        intro z17 h17
        first | replace h17 := e_add h17 (by omega) | replace h17 := e_rng h17
        intro z19 h19
        first | replace h19 := e_add h19 (by omega) | replace h19 := e_rng h19
        exact ⟨_, ⟨_, _, rfl, rfl, rfl, rfl, (by first | omega | assumption | exact q_rg_up (by assumption) (by omega) | exact q_rg_up (q_rg_up (by assumption) (by omega)) (by omega) | exact q_rg_cpy (by assumption) (by assumption))⟩, by omega⟩
    simp only [I_X3_allGot, h4, if_false] at hI
  rintro lv st w' ⟨rfl, rfl, rfl⟩
  exact ⟨_, _, _, rfl, rfl, rfl, rfl, (by first | omega | assumption | exact q_rg_up (by assumption) (by omega) | exact q_rg_up (q_rg_up (by assumption) (by omega)) (by omega) | exact q_rg_cpy (by assumption) (by assumption))⟩

theorem dX3_fairPart_0 : decode cX3_fairPart 0 = .ok (.aload_n 0, 1) := by decide +kernel
theorem dX3_fairPart_1 : decode cX3_fairPart 1 = .ok (.invokevirtual 31, 3) := by decide +kernel
theorem dX3_fairPart_4 : decode cX3_fairPart 4 = .ok (.istore_n 2, 1) := by decide +kernel
theorem dX3_fairPart_5 : decode cX3_fairPart 5 = .ok (.iload_n 2, 1) := by decide +kernel
theorem dX3_fairPart_6 : decode cX3_fairPart 6 = .ok (.ifCond .eq 21, 3) := by decide +kernel
theorem dX3_fairPart_9 : decode cX3_fairPart 9 = .ok (.iload_n 2, 1) := by decide +kernel
theorem dX3_fairPart_10 : decode cX3_fairPart 10 = .ok (.aload_n 0, 1) := by decide +kernel
theorem dX3_fairPart_11 : decode cX3_fairPart 11 = .ok (.getfield 21, 3) := by decide +kernel
theorem dX3_fairPart_14 : decode cX3_fairPart 14 = .ok (.if_icmp .lt 13, 3) := by decide +kernel
theorem dX3_fairPart_17 : decode cX3_fairPart 17 = .ok (.iload_n 1, 1) := by decide +kernel
theorem dX3_fairPart_18 : decode cX3_fairPart 18 = .ok (.ifCond .lt 9, 3) := by decide +kernel
theorem dX3_fairPart_21 : decode cX3_fairPart 21 = .ok (.iload_n 1, 1) := by decide +kernel
theorem dX3_fairPart_22 : decode cX3_fairPart 22 = .ok (.bipush 8, 2) := by decide +kernel
theorem dX3_fairPart_24 : decode cX3_fairPart 24 = .ok (.if_icmp .lt 5, 3) := by decide +kernel
theorem dX3_fairPart_27 : decode cX3_fairPart 27 = .ok (.iconst 0, 1) := by decide +kernel
theorem dX3_fairPart_28 : decode cX3_fairPart 28 = .ok (.ireturn, 1) := by decide +kernel
theorem dX3_fairPart_29 : decode cX3_fairPart 29 = .ok (.aload_n 0, 1) := by decide +kernel
theorem dX3_fairPart_30 : decode cX3_fairPart 30 = .ok (.getfield 21, 3) := by decide +kernel
theorem dX3_fairPart_33 : decode cX3_fairPart 33 = .ok (.istore_n 3, 1) := by decide +kernel
theorem dX3_fairPart_34 : decode cX3_fairPart 34 = .ok (.iconst 0, 1) := by decide +kernel
theorem dX3_fairPart_35 : decode cX3_fairPart 35 = .ok (.istore 4, 2) := by decide +kernel
theorem dX3_fairPart_37 : decode cX3_fairPart 37 = .ok (.aload_n 0, 1) := by decide +kernel
theorem dX3_fairPart_38 : decode cX3_fairPart 38 = .ok (.getfield 9, 3) := by decide +kernel
theorem dX3_fairPart_41 : decode cX3_fairPart 41 = .ok (.iload_n 1, 1) := by decide +kernel
theorem dX3_fairPart_42 : decode cX3_fairPart 42 = .ok (.iaload, 1) := by decide +kernel
theorem dX3_fairPart_43 : decode cX3_fairPart 43 = .ok (.aload_n 0, 1) := by decide +kernel
theorem dX3_fairPart_44 : decode cX3_fairPart 44 = .ok (.getfield 21, 3) := by decide +kernel
theorem dX3_fairPart_47 : decode cX3_fairPart 47 = .ok (.imul, 1) := by decide +kernel
theorem dX3_fairPart_48 : decode cX3_fairPart 48 = .ok (.iload_n 2, 1) := by decide +kernel
theorem dX3_fairPart_49 : decode cX3_fairPart 49 = .ok (.irem, 1) := by decide +kernel
theorem dX3_fairPart_50 : decode cX3_fairPart 50 = .ok (.istore 5, 2) := by decide +kernel
theorem dX3_fairPart_52 : decode cX3_fairPart 52 = .ok (.iconst 0, 1) := by decide +kernel
theorem dX3_fairPart_53 : decode cX3_fairPart 53 = .ok (.istore 6, 2) := by decide +kernel
theorem dX3_fairPart_55 : decode cX3_fairPart 55 = .ok (.iload 6, 2) := by decide +kernel
theorem dX3_fairPart_57 : decode cX3_fairPart 57 = .ok (.bipush 8, 2) := by decide +kernel
theorem dX3_fairPart_59 : decode cX3_fairPart 59 = .ok (.if_icmp .ge 65, 3) := by decide +kernel
theorem dX3_fairPart_62 : decode cX3_fairPart 62 = .ok (.iload_n 3, 1) := by decide +kernel
theorem dX3_fairPart_63 : decode cX3_fairPart 63 = .ok (.aload_n 0, 1) := by decide +kernel
theorem dX3_fairPart_64 : decode cX3_fairPart 64 = .ok (.getfield 9, 3) := by decide +kernel
theorem dX3_fairPart_67 : decode cX3_fairPart 67 = .ok (.iload 6, 2) := by decide +kernel
theorem dX3_fairPart_69 : decode cX3_fairPart 69 = .ok (.iaload, 1) := by decide +kernel
theorem dX3_fairPart_70 : decode cX3_fairPart 70 = .ok (.aload_n 0, 1) := by decide +kernel
theorem dX3_fairPart_71 : decode cX3_fairPart 71 = .ok (.getfield 21, 3) := by decide +kernel
theorem dX3_fairPart_74 : decode cX3_fairPart 74 = .ok (.imul, 1) := by decide +kernel
theorem dX3_fairPart_75 : decode cX3_fairPart 75 = .ok (.iload_n 2, 1) := by decide +kernel
theorem dX3_fairPart_76 : decode cX3_fairPart 76 = .ok (.idiv, 1) := by decide +kernel
theorem dX3_fairPart_77 : decode cX3_fairPart 77 = .ok (.isub, 1) := by decide +kernel
theorem dX3_fairPart_78 : decode cX3_fairPart 78 = .ok (.istore_n 3, 1) := by decide +kernel
theorem dX3_fairPart_79 : decode cX3_fairPart 79 = .ok (.aload_n 0, 1) := by decide +kernel
theorem dX3_fairPart_80 : decode cX3_fairPart 80 = .ok (.getfield 9, 3) := by decide +kernel
theorem dX3_fairPart_83 : decode cX3_fairPart 83 = .ok (.iload 6, 2) := by decide +kernel
theorem dX3_fairPart_85 : decode cX3_fairPart 85 = .ok (.iaload, 1) := by decide +kernel
theorem dX3_fairPart_86 : decode cX3_fairPart 86 = .ok (.aload_n 0, 1) := by decide +kernel
theorem dX3_fairPart_87 : decode cX3_fairPart 87 = .ok (.getfield 21, 3) := by decide +kernel
theorem dX3_fairPart_90 : decode cX3_fairPart 90 = .ok (.imul, 1) := by decide +kernel
theorem dX3_fairPart_91 : decode cX3_fairPart 91 = .ok (.iload_n 2, 1) := by decide +kernel
theorem dX3_fairPart_92 : decode cX3_fairPart 92 = .ok (.irem, 1) := by decide +kernel
theorem dX3_fairPart_93 : decode cX3_fairPart 93 = .ok (.istore 7, 2) := by decide +kernel
theorem dX3_fairPart_95 : decode cX3_fairPart 95 = .ok (.iload 7, 2) := by decide +kernel
theorem dX3_fairPart_97 : decode cX3_fairPart 97 = .ok (.iload 5, 2) := by decide +kernel
theorem dX3_fairPart_99 : decode cX3_fairPart 99 = .ok (.if_icmp .gt 16, 3) := by decide +kernel
theorem dX3_fairPart_102 : decode cX3_fairPart 102 = .ok (.iload 7, 2) := by decide +kernel
theorem dX3_fairPart_104 : decode cX3_fairPart 104 = .ok (.iload 5, 2) := by decide +kernel
theorem dX3_fairPart_106 : decode cX3_fairPart 106 = .ok (.if_icmp .ne 12, 3) := by decide +kernel
theorem dX3_fairPart_109 : decode cX3_fairPart 109 = .ok (.iload 6, 2) := by decide +kernel
theorem dX3_fairPart_111 : decode cX3_fairPart 111 = .ok (.iload_n 1, 1) := by decide +kernel
theorem dX3_fairPart_112 : decode cX3_fairPart 112 = .ok (.if_icmp .ge 6, 3) := by decide +kernel
theorem dX3_fairPart_115 : decode cX3_fairPart 115 = .ok (.iinc 4 1, 3) := by decide +kernel
theorem dX3_fairPart_118 : decode cX3_fairPart 118 = .ok (.iinc 6 1, 3) := by decide +kernel
theorem dX3_fairPart_121 : decode cX3_fairPart 121 = .ok (.goto (-66), 3) := by decide +kernel
theorem dX3_fairPart_124 : decode cX3_fairPart 124 = .ok (.aload_n 0, 1) := by decide +kernel
theorem dX3_fairPart_125 : decode cX3_fairPart 125 = .ok (.getfield 9, 3) := by decide +kernel
theorem dX3_fairPart_128 : decode cX3_fairPart 128 = .ok (.iload_n 1, 1) := by decide +kernel
theorem dX3_fairPart_129 : decode cX3_fairPart 129 = .ok (.iaload, 1) := by decide +kernel
theorem dX3_fairPart_130 : decode cX3_fairPart 130 = .ok (.aload_n 0, 1) := by decide +kernel
theorem dX3_fairPart_131 : decode cX3_fairPart 131 = .ok (.getfield 21, 3) := by decide +kernel
theorem dX3_fairPart_134 : decode cX3_fairPart 134 = .ok (.imul, 1) := by decide +kernel
theorem dX3_fairPart_135 : decode cX3_fairPart 135 = .ok (.iload_n 2, 1) := by decide +kernel
theorem dX3_fairPart_136 : decode cX3_fairPart 136 = .ok (.idiv, 1) := by decide +kernel
theorem dX3_fairPart_137 : decode cX3_fairPart 137 = .ok (.iload 4, 2) := by decide +kernel
theorem dX3_fairPart_139 : decode cX3_fairPart 139 = .ok (.iload_n 3, 1) := by decide +kernel
theorem dX3_fairPart_140 : decode cX3_fairPart 140 = .ok (.if_icmp .ge 7, 3) := by decide +kernel
theorem dX3_fairPart_143 : decode cX3_fairPart 143 = .ok (.iconst 1, 1) := by decide +kernel
theorem dX3_fairPart_144 : decode cX3_fairPart 144 = .ok (.goto 4, 3) := by decide +kernel
theorem dX3_fairPart_147 : decode cX3_fairPart 147 = .ok (.iconst 0, 1) := by decide +kernel
theorem dX3_fairPart_148 : decode cX3_fairPart 148 = .ok (.iadd, 1) := by decide +kernel
theorem dX3_fairPart_149 : decode cX3_fairPart 149 = .ok (.ireturn, 1) := by decide +kernel
def is_X3_fairPart : Nat → List Nat := fun d => if d = 55 then [0, 1, 2, 3, 4, 5, 6] else []
set_option maxRecDepth 100000 in
def b_X3_fairPart_148 (J : Nat → List qV → List qV → qW → Prop) (Q : qR) : qK := x_iadd (x_iret Q)
set_option maxRecDepth 100000 in
theorem s_X3_fairPart_148 {p : Program} {l : Launch} {e : Env} {R : Room} {s : State} {m : MethodId} {args : Array Value} {below : List Frame} {meth : Method} {c : Code} {nW : Nat} {dC : Nat → ClassId} {dI : Nat → Nat → Nat} {k : Nat → ClassId} {g : Nat → Nat} {A : Nat → Prop} {J : Nat → List qV → List qV → qW → Prop} {Q : qR} (X : q_X p R s m args meth c cX3_fairPart 8 nW 1 22 RX3 (some .int) dC dI k g A) (hJ : ∀ d : Nat, q_Sd p l e R s m args below meth c 8 nW dC dI k g A (MQ below (q_post (dC, dI) k g nW Q A) args s 0 0 A) d (x_cut (is_X3_fairPart d) (J d))) : q_Sd p l e R s m args below meth c 8 nW dC dI k g A (MQ below (q_post (dC, dI) k g nW Q A) args s 0 0 A) 148 (b_X3_fairPart_148 J Q) := by
  unfold b_X3_fairPart_148
  refine s_iadd X dX3_fairPart_148 ?_
  exact s_iret X dX3_fairPart_149
set_option maxRecDepth 100000 in
def b_X3_fairPart_118 (J : Nat → List qV → List qV → qW → Prop) (Q : qR) : qK := x_iinc 6 1 (x_cut [0, 1, 2, 3, 4, 5, 6] (J 55))
set_option maxRecDepth 100000 in
theorem s_X3_fairPart_118 {p : Program} {l : Launch} {e : Env} {R : Room} {s : State} {m : MethodId} {args : Array Value} {below : List Frame} {meth : Method} {c : Code} {nW : Nat} {dC : Nat → ClassId} {dI : Nat → Nat → Nat} {k : Nat → ClassId} {g : Nat → Nat} {A : Nat → Prop} {J : Nat → List qV → List qV → qW → Prop} {Q : qR} (X : q_X p R s m args meth c cX3_fairPart 8 nW 1 22 RX3 (some .int) dC dI k g A) (hJ : ∀ d : Nat, q_Sd p l e R s m args below meth c 8 nW dC dI k g A (MQ below (q_post (dC, dI) k g nW Q A) args s 0 0 A) d (x_cut (is_X3_fairPart d) (J d))) : q_Sd p l e R s m args below meth c 8 nW dC dI k g A (MQ below (q_post (dC, dI) k g nW Q A) args s 0 0 A) 118 (b_X3_fairPart_118 J Q) := by
  unfold b_X3_fairPart_118
  refine s_iinc X (by decide) dX3_fairPart_118 ?_
  refine s_goto X (tgt := 55) dX3_fairPart_121 (by decide) ?_
  exact hJ 55
set_option maxRecDepth 100000 in
def b_X3_fairPart_115 (J : Nat → List qV → List qV → qW → Prop) (Q : qR) : qK := x_iinc 4 1 (b_X3_fairPart_118 J Q)
set_option maxRecDepth 100000 in
theorem s_X3_fairPart_115 {p : Program} {l : Launch} {e : Env} {R : Room} {s : State} {m : MethodId} {args : Array Value} {below : List Frame} {meth : Method} {c : Code} {nW : Nat} {dC : Nat → ClassId} {dI : Nat → Nat → Nat} {k : Nat → ClassId} {g : Nat → Nat} {A : Nat → Prop} {J : Nat → List qV → List qV → qW → Prop} {Q : qR} (X : q_X p R s m args meth c cX3_fairPart 8 nW 1 22 RX3 (some .int) dC dI k g A) (hJ : ∀ d : Nat, q_Sd p l e R s m args below meth c 8 nW dC dI k g A (MQ below (q_post (dC, dI) k g nW Q A) args s 0 0 A) d (x_cut (is_X3_fairPart d) (J d))) : q_Sd p l e R s m args below meth c 8 nW dC dI k g A (MQ below (q_post (dC, dI) k g nW Q A) args s 0 0 A) 115 (b_X3_fairPart_115 J Q) := by
  unfold b_X3_fairPart_115
  refine s_iinc X (by decide) dX3_fairPart_115 ?_
  exact s_X3_fairPart_118 X hJ
set_option maxRecDepth 100000 in
def b_X3_fairPart_93 (J : Nat → List qV → List qV → qW → Prop) (Q : qR) : qK := x_istore 7 (x_iload 7 (x_iload 5 (x_icmp_gt (b_X3_fairPart_115 J Q) (x_iload 7 (x_iload 5 (x_icmp_ne (b_X3_fairPart_118 J Q) (x_iload 6 (x_iload 1 (x_icmp_ge (b_X3_fairPart_118 J Q) (b_X3_fairPart_115 J Q))))))))))
set_option maxRecDepth 100000 in
theorem s_X3_fairPart_93 {p : Program} {l : Launch} {e : Env} {R : Room} {s : State} {m : MethodId} {args : Array Value} {below : List Frame} {meth : Method} {c : Code} {nW : Nat} {dC : Nat → ClassId} {dI : Nat → Nat → Nat} {k : Nat → ClassId} {g : Nat → Nat} {A : Nat → Prop} {J : Nat → List qV → List qV → qW → Prop} {Q : qR} (X : q_X p R s m args meth c cX3_fairPart 8 nW 1 22 RX3 (some .int) dC dI k g A) (hJ : ∀ d : Nat, q_Sd p l e R s m args below meth c 8 nW dC dI k g A (MQ below (q_post (dC, dI) k g nW Q A) args s 0 0 A) d (x_cut (is_X3_fairPart d) (J d))) : q_Sd p l e R s m args below meth c 8 nW dC dI k g A (MQ below (q_post (dC, dI) k g nW Q A) args s 0 0 A) 93 (b_X3_fairPart_93 J Q) := by
  unfold b_X3_fairPart_93
  refine s_istore X (by decide) dX3_fairPart_93 ?_
  refine s_iload X dX3_fairPart_95 ?_
  refine s_iload X dX3_fairPart_97 ?_
  refine s_icmp_gt X (tgt := 115) dX3_fairPart_99 (by decide) ?_ ?_
  · exact s_X3_fairPart_115 X hJ
  · refine s_iload X dX3_fairPart_102 ?_
    refine s_iload X dX3_fairPart_104 ?_
    refine s_icmp_ne X (tgt := 118) dX3_fairPart_106 (by decide) ?_ ?_
    · exact s_X3_fairPart_118 X hJ
    · refine s_iload X dX3_fairPart_109 ?_
      refine s_iload_n X rfl dX3_fairPart_111 ?_
      refine s_icmp_ge X (tgt := 118) dX3_fairPart_112 (by decide) ?_ ?_
      · exact s_X3_fairPart_118 X hJ
      · exact s_X3_fairPart_115 X hJ
set_option maxRecDepth 100000 in
def b_X3_fairPart_55 (J : Nat → List qV → List qV → qW → Prop) (Q : qR) : qK := x_iload 6 (x_int 8 (x_icmp_ge (x_aload 0 (x_get 3 0 (x_iload 1 (x_iald (x_aload 0 (x_get 3 1 (x_imul (x_iload 2 (x_idiv (x_iload 4 (x_iload 3 (x_icmp_ge (x_int 0 (b_X3_fairPart_148 J Q)) (x_int 1 (b_X3_fairPart_148 J Q)))))))))))))) (x_iload 3 (x_aload 0 (x_get 3 0 (x_iload 6 (x_iald (x_aload 0 (x_get 3 1 (x_imul (x_iload 2 (x_idiv (x_isub (x_istore 3 (x_aload 0 (x_get 3 0 (x_iload 6 (x_iald (x_aload 0 (x_get 3 1 (x_imul (x_iload 2 (x_irem (b_X3_fairPart_93 J Q))))))))))))))))))))))))
set_option maxRecDepth 100000 in
theorem s_X3_fairPart_55 {p : Program} {l : Launch} {e : Env} {R : Room} {s : State} {m : MethodId} {args : Array Value} {below : List Frame} {meth : Method} {c : Code} {nW : Nat} {dC : Nat → ClassId} {dI : Nat → Nat → Nat} {k : Nat → ClassId} {g : Nat → Nat} {A : Nat → Prop} {J : Nat → List qV → List qV → qW → Prop} {Q : qR} (X : q_X p R s m args meth c cX3_fairPart 8 nW 1 22 RX3 (some .int) dC dI k g A) (hJ : ∀ d : Nat, q_Sd p l e R s m args below meth c 8 nW dC dI k g A (MQ below (q_post (dC, dI) k g nW Q A) args s 0 0 A) d (x_cut (is_X3_fairPart d) (J d))) : q_Sd p l e R s m args below meth c 8 nW dC dI k g A (MQ below (q_post (dC, dI) k g nW Q A) args s 0 0 A) 55 (b_X3_fairPart_55 J Q) := by
  unfold b_X3_fairPart_55
  refine s_iload X dX3_fairPart_55 ?_
  refine s_bipush X ⟨by decide, by decide⟩ (by decide) dX3_fairPart_57 ?_
  refine s_icmp_ge X (tgt := 124) dX3_fairPart_59 (by decide) ?_ ?_
  · refine s_aload_n X rfl dX3_fairPart_124 ?_
    refine s_get X (T := TX3) (C := RX3) (N := 2) tu_X3 rfl (by decide) tw_230 dX3_fairPart_125 ?_
    refine s_iload_n X rfl dX3_fairPart_128 ?_
    refine s_iald X dX3_fairPart_129 ?_
    refine s_aload_n X rfl dX3_fairPart_130 ?_
    refine s_get X (T := TX3) (C := RX3) (N := 2) tu_X3 rfl (by decide) tw_234 dX3_fairPart_131 ?_
    refine s_imul X dX3_fairPart_134 ?_
    refine s_iload_n X rfl dX3_fairPart_135 ?_
    refine s_idiv X dX3_fairPart_136 ?_
    refine s_iload X dX3_fairPart_137 ?_
    refine s_iload_n X rfl dX3_fairPart_139 ?_
    refine s_icmp_ge X (tgt := 147) dX3_fairPart_140 (by decide) ?_ ?_
    · refine s_iconst X ⟨by decide, by decide⟩ dX3_fairPart_147 ?_
      exact s_X3_fairPart_148 X hJ
    · refine s_iconst X ⟨by decide, by decide⟩ dX3_fairPart_143 ?_
      refine s_goto X (tgt := 148) dX3_fairPart_144 (by decide) ?_
      exact s_X3_fairPart_148 X hJ
  · refine s_iload_n X rfl dX3_fairPart_62 ?_
    refine s_aload_n X rfl dX3_fairPart_63 ?_
    refine s_get X (T := TX3) (C := RX3) (N := 2) tu_X3 rfl (by decide) tw_230 dX3_fairPart_64 ?_
    refine s_iload X dX3_fairPart_67 ?_
    refine s_iald X dX3_fairPart_69 ?_
    refine s_aload_n X rfl dX3_fairPart_70 ?_
    refine s_get X (T := TX3) (C := RX3) (N := 2) tu_X3 rfl (by decide) tw_234 dX3_fairPart_71 ?_
    refine s_imul X dX3_fairPart_74 ?_
    refine s_iload_n X rfl dX3_fairPart_75 ?_
    refine s_idiv X dX3_fairPart_76 ?_
    refine s_isub X dX3_fairPart_77 ?_
    refine s_istore_n X rfl (by decide) dX3_fairPart_78 ?_
    refine s_aload_n X rfl dX3_fairPart_79 ?_
    refine s_get X (T := TX3) (C := RX3) (N := 2) tu_X3 rfl (by decide) tw_230 dX3_fairPart_80 ?_
    refine s_iload X dX3_fairPart_83 ?_
    refine s_iald X dX3_fairPart_85 ?_
    refine s_aload_n X rfl dX3_fairPart_86 ?_
    refine s_get X (T := TX3) (C := RX3) (N := 2) tu_X3 rfl (by decide) tw_234 dX3_fairPart_87 ?_
    refine s_imul X dX3_fairPart_90 ?_
    refine s_iload_n X rfl dX3_fairPart_91 ?_
    refine s_irem X dX3_fairPart_92 ?_
    exact s_X3_fairPart_93 X hJ
set_option maxRecDepth 100000 in
def b_X3_fairPart_27 (J : Nat → List qV → List qV → qW → Prop) (Q : qR) : qK := x_int 0 (x_iret Q)
set_option maxRecDepth 100000 in
theorem s_X3_fairPart_27 {p : Program} {l : Launch} {e : Env} {R : Room} {s : State} {m : MethodId} {args : Array Value} {below : List Frame} {meth : Method} {c : Code} {nW : Nat} {dC : Nat → ClassId} {dI : Nat → Nat → Nat} {k : Nat → ClassId} {g : Nat → Nat} {A : Nat → Prop} {J : Nat → List qV → List qV → qW → Prop} {Q : qR} (X : q_X p R s m args meth c cX3_fairPart 8 nW 1 22 RX3 (some .int) dC dI k g A) (hJ : ∀ d : Nat, q_Sd p l e R s m args below meth c 8 nW dC dI k g A (MQ below (q_post (dC, dI) k g nW Q A) args s 0 0 A) d (x_cut (is_X3_fairPart d) (J d))) : q_Sd p l e R s m args below meth c 8 nW dC dI k g A (MQ below (q_post (dC, dI) k g nW Q A) args s 0 0 A) 27 (b_X3_fairPart_27 J Q) := by
  unfold b_X3_fairPart_27
  refine s_iconst X ⟨by decide, by decide⟩ dX3_fairPart_27 ?_
  exact s_iret X dX3_fairPart_28
set_option maxRecDepth 100000 in
def b_X3_fairPart_0 (J : Nat → List qV → List qV → qW → Prop) (Q : qR) : qK := x_aload 0 (x_callr (some 3) 1 spr_X3_allGot (x_istore 2 (x_iload 2 (x_if_eq (b_X3_fairPart_27 J Q) (x_iload 2 (x_aload 0 (x_get 3 1 (x_icmp_lt (b_X3_fairPart_27 J Q) (x_iload 1 (x_if_lt (b_X3_fairPart_27 J Q) (x_iload 1 (x_int 8 (x_icmp_lt (x_aload 0 (x_get 3 1 (x_istore 3 (x_int 0 (x_istore 4 (x_aload 0 (x_get 3 0 (x_iload 1 (x_iald (x_aload 0 (x_get 3 1 (x_imul (x_iload 2 (x_irem (x_istore 5 (x_int 0 (x_istore 6 (x_cut [0, 1, 2, 3, 4, 5, 6] (J 55))))))))))))))))))) (b_X3_fairPart_27 J Q))))))))))))))
set_option maxRecDepth 100000 in
theorem s_X3_fairPart_0 {p : Program} {l : Launch} {e : Env} {R : Room} {s : State} {m : MethodId} {args : Array Value} {below : List Frame} {meth : Method} {c : Code} {nW : Nat} {dC : Nat → ClassId} {dI : Nat → Nat → Nat} {k : Nat → ClassId} {g : Nat → Nat} {A : Nat → Prop} {J : Nat → List qV → List qV → qW → Prop} {Q : qR} (X : q_X p R s m args meth c cX3_fairPart 8 nW 1 22 RX3 (some .int) dC dI k g A) (hJ : ∀ d : Nat, q_Sd p l e R s m args below meth c 8 nW dC dI k g A (MQ below (q_post (dC, dI) k g nW Q A) args s 0 0 A) d (x_cut (is_X3_fairPart d) (J d))) : q_Sd p l e R s m args below meth c 8 nW dC dI k g A (MQ below (q_post (dC, dI) k g nW Q A) args s 0 0 A) 0 (b_X3_fairPart_0 J Q) := by
  unfold b_X3_fairPart_0
  refine s_aload_n X rfl dX3_fairPart_0 ?_
  refine s_callVr X (m_X3_allGot l) tw_771 tw_772 tw_1499 tw_126 tw_773 rfl (by decide +kernel) ⟨by decide, by decide⟩ dX3_fairPart_1 ?_
  refine s_istore_n X rfl (by decide) dX3_fairPart_4 ?_
  refine s_iload_n X rfl dX3_fairPart_5 ?_
  refine s_if_eq X (tgt := 27) dX3_fairPart_6 (by decide) ?_ ?_
  · exact s_X3_fairPart_27 X hJ
  · refine s_iload_n X rfl dX3_fairPart_9 ?_
    refine s_aload_n X rfl dX3_fairPart_10 ?_
    refine s_get X (T := TX3) (C := RX3) (N := 2) tu_X3 rfl (by decide) tw_234 dX3_fairPart_11 ?_
    refine s_icmp_lt X (tgt := 27) dX3_fairPart_14 (by decide) ?_ ?_
    · exact s_X3_fairPart_27 X hJ
    · refine s_iload_n X rfl dX3_fairPart_17 ?_
      refine s_if_lt X (tgt := 27) dX3_fairPart_18 (by decide) ?_ ?_
      · exact s_X3_fairPart_27 X hJ
      · refine s_iload_n X rfl dX3_fairPart_21 ?_
        refine s_bipush X ⟨by decide, by decide⟩ (by decide) dX3_fairPart_22 ?_
        refine s_icmp_lt X (tgt := 29) dX3_fairPart_24 (by decide) ?_ ?_
        · refine s_aload_n X rfl dX3_fairPart_29 ?_
          refine s_get X (T := TX3) (C := RX3) (N := 2) tu_X3 rfl (by decide) tw_234 dX3_fairPart_30 ?_
          refine s_istore_n X rfl (by decide) dX3_fairPart_33 ?_
          refine s_iconst X ⟨by decide, by decide⟩ dX3_fairPart_34 ?_
          refine s_istore X (by decide) dX3_fairPart_35 ?_
          refine s_aload_n X rfl dX3_fairPart_37 ?_
          refine s_get X (T := TX3) (C := RX3) (N := 2) tu_X3 rfl (by decide) tw_230 dX3_fairPart_38 ?_
          refine s_iload_n X rfl dX3_fairPart_41 ?_
          refine s_iald X dX3_fairPart_42 ?_
          refine s_aload_n X rfl dX3_fairPart_43 ?_
          refine s_get X (T := TX3) (C := RX3) (N := 2) tu_X3 rfl (by decide) tw_234 dX3_fairPart_44 ?_
          refine s_imul X dX3_fairPart_47 ?_
          refine s_iload_n X rfl dX3_fairPart_48 ?_
          refine s_irem X dX3_fairPart_49 ?_
          refine s_istore X (by decide) dX3_fairPart_50 ?_
          refine s_iconst X ⟨by decide, by decide⟩ dX3_fairPart_52 ?_
          refine s_istore X (by decide) dX3_fairPart_53 ?_
          exact hJ 55
        · exact s_X3_fairPart_27 X hJ

def spr_X3_fairPart : List qV → qW → (Option qV → Prop) → Prop := fun av w Q => ∃ (g1 : Nat → Int) (o1 : Int) (a : Int), av = [q2 0, q1 a] ∧ w = (wLo 0 g1 o1) ∧ (∀ (r : Int) , Q (some (q1 r)))
def sp_X3_fairPart : qS := fun av w Q => spr_X3_fairPart av w (fun r => Q r w)
def I_X3_fairPart (g1 : Nat → Int) (o1 : Int) (a : Int) : Nat → Nat → List qV → List qV → qW → Prop := fun dz mz vz sz wz => if dz = 55 then (∃ (v2 : Int) (v3 : Int) (v4 : Int) (v5 : Int) (v6 : Int), vz = [q2 0, q1 a, q1 v2, q1 v3, q1 v4, q1 v5, q1 v6] ∧ sz = [] ∧ wz = (wLo 0 g1 o1) ∧ mz = (8 - v6).toNat ∧ (0 ≤ v6 ∧ v6 ≤ 8) ∧ (¬ v2 = 0) ∧ (0 ≤ a ∧ a < 8)) else False
set_option maxHeartbeats 4000000 in
set_option maxRecDepth 100000 in
theorem m_X3_fairPart (l : Launch) : q_M l yX3_fairPart cX3_fairPart 8 (some .int) 1 22 sp_X3_fairPart := by
  refine q_meth (by decide) (fun av w Q h => by obtain ⟨g1, o1, a, rfl, rfl, hQ⟩ := h; exact Nat.le_of_ble_eq_true rfl) ?_
  intro p e R s m args below meth c dC dI k g A av w Q hsp oka okw X
  obtain ⟨g1, o1, a, rfl, rfl, hQ⟩ := hsp
  have o_a : -2147483648 ≤ a ∧ a ≤ 2147483647 := oka _ (List.mem_of_getElem? (i := 1) rfl)
  refine s_mono (s_X3_fairPart_0 X (J := fun dz vz sz wz => ∃ mz, I_X3_fairPart g1 o1 a dz mz vz sz wz) (q_loopn (I_X3_fairPart g1 o1 a) (fun dz J => if dz = 55 then b_X3_fairPart_55 J Q else q_F) ?hs ?hv)) ?_
  case hs =>
    intro d J hJ
    by_cases h55 : d = 55
    · subst h55; exact s_X3_fairPart_55 X hJ
    simp only [h55, if_false]
    exact s_F
  case hv =>
    intro dz mz vz sz wz hI okv oks okw hlen
    by_cases h55 : dz = 55
    · subst h55
      obtain ⟨v2, v3, v4, v5, v6, rfl, rfl, rfl, hn, hp, hal, ha⟩ := hI
      apply And.intro
      · intro h59
        apply And.intro
        · exact ⟨by omega, by omega⟩
        intro z129 h129
        intro z134 h134
        first | replace h134 := e_mul h134 (by omega) | replace h134 := e_rng h134
        apply And.intro
        · first | omega | (intro e9; omega)
        intro z136 h136
        first | replace h136 := e_div h136 (by omega) (by omega) | replace h136 := e_rng h136
        apply And.intro
        · intro h140
          intro z148 h148
          first | replace h148 := e_add h148 (by omega) | replace h148 := e_rng h148
          exact hQ _
        · intro h140
          intro z148 h148
          first | replace h148 := e_add h148 (by omega) | replace h148 := e_rng h148
          exact hQ _
      · intro h59
        apply And.intro
        · exact ⟨by omega, by omega⟩
        intro z69 h69
        intro z74 h74
        first | replace h74 := e_mul h74 (by omega) | replace h74 := e_rng h74
        apply And.intro
        · first | omega | (intro e9; omega)
        intro z76 h76
        first | replace h76 := e_div h76 (by omega) (by omega) | replace h76 := e_rng h76
        intro z77 h77
        first | replace h77 := e_sub h77 (by omega) | replace h77 := e_rng h77
        apply And.intro
        · exact ⟨by omega, by omega⟩
        intro z85 h85
        intro z90 h90
        first | replace h90 := e_mul h90 (by omega) | replace h90 := e_rng h90
        apply And.intro
        · first | omega | (intro e9; omega)
        intro z92 h92
        first | replace h92 := e_rem h92 (by omega) (by omega) | replace h92 := e_rng h92
        apply And.intro
        · intro h99
          intro z115 h115
          first | replace h115 := e_add h115 (by omega) | replace h115 := e_rng h115
          intro z118 h118
          first | replace h118 := e_add h118 (by omega) | replace h118 := e_rng h118
          exact ⟨_, ⟨_, _, _, _, _, rfl, rfl, rfl, rfl, (by first | omega | assumption | exact q_rg_up (by assumption) (by omega) | exact q_rg_up (q_rg_up (by assumption) (by omega)) (by omega) | exact q_rg_cpy (by assumption) (by assumption)), (by first | omega | assumption | exact q_rg_up (by assumption) (by omega) | exact q_rg_up (q_rg_up (by assumption) (by omega)) (by omega) | exact q_rg_cpy (by assumption) (by assumption)), (by first | omega | assumption | exact q_rg_up (by assumption) (by omega) | exact q_rg_up (q_rg_up (by assumption) (by omega)) (by omega) | exact q_rg_cpy (by assumption) (by assumption))⟩, by omega⟩
        · intro h99
          apply And.intro
          · intro h106
            intro z118 h118
            first | replace h118 := e_add h118 (by omega) | replace h118 := e_rng h118
            exact ⟨_, ⟨_, _, _, _, _, rfl, rfl, rfl, rfl, (by first | omega | assumption | exact q_rg_up (by assumption) (by omega) | exact q_rg_up (q_rg_up (by assumption) (by omega)) (by omega) | exact q_rg_cpy (by assumption) (by assumption)), (by first | omega | assumption | exact q_rg_up (by assumption) (by omega) | exact q_rg_up (q_rg_up (by assumption) (by omega)) (by omega) | exact q_rg_cpy (by assumption) (by assumption)), (by first | omega | assumption | exact q_rg_up (by assumption) (by omega) | exact q_rg_up (q_rg_up (by assumption) (by omega)) (by omega) | exact q_rg_cpy (by assumption) (by assumption))⟩, by omega⟩
          · intro h106
            apply And.intro
            · intro h112
              intro z118 h118
              first | replace h118 := e_add h118 (by omega) | replace h118 := e_rng h118
              exact ⟨_, ⟨_, _, _, _, _, rfl, rfl, rfl, rfl, (by first | omega | assumption | exact q_rg_up (by assumption) (by omega) | exact q_rg_up (q_rg_up (by assumption) (by omega)) (by omega) | exact q_rg_cpy (by assumption) (by assumption)), (by first | omega | assumption | exact q_rg_up (by assumption) (by omega) | exact q_rg_up (q_rg_up (by assumption) (by omega)) (by omega) | exact q_rg_cpy (by assumption) (by assumption)), (by first | omega | assumption | exact q_rg_up (by assumption) (by omega) | exact q_rg_up (q_rg_up (by assumption) (by omega)) (by omega) | exact q_rg_cpy (by assumption) (by assumption))⟩, by omega⟩
            · intro h112
              intro z115 h115
              first | replace h115 := e_add h115 (by omega) | replace h115 := e_rng h115
              intro z118 h118
              first | replace h118 := e_add h118 (by omega) | replace h118 := e_rng h118
              exact ⟨_, ⟨_, _, _, _, _, rfl, rfl, rfl, rfl, (by first | omega | assumption | exact q_rg_up (by assumption) (by omega) | exact q_rg_up (q_rg_up (by assumption) (by omega)) (by omega) | exact q_rg_cpy (by assumption) (by assumption)), (by first | omega | assumption | exact q_rg_up (by assumption) (by omega) | exact q_rg_up (q_rg_up (by assumption) (by omega)) (by omega) | exact q_rg_cpy (by assumption) (by assumption)), (by first | omega | assumption | exact q_rg_up (by assumption) (by omega) | exact q_rg_up (q_rg_up (by assumption) (by omega)) (by omega) | exact q_rg_cpy (by assumption) (by assumption))⟩, by omega⟩
    simp only [I_X3_fairPart, h55, if_false] at hI
  rintro lv st w' ⟨rfl, rfl, rfl⟩
  refine Exists.intro [0, 1] (Exists.intro [q2 0] (Exists.intro ((wLo 0 _ _)) (And.intro rfl (And.intro rfl (And.intro rfl (And.intro ⟨⟨_, rfl⟩, rfl⟩ ?_))))))
  refine Exists.intro _ (Exists.intro _ (And.intro rfl (And.intro rfl (?_))))
  intro z1
  apply And.intro
  · intro h6
    exact hQ _
  · intro h6
    apply And.intro
    · intro h14
      exact hQ _
    · intro h14
      apply And.intro
      · intro h18
        exact hQ _
      · intro h18
        apply And.intro
        · intro h24
          apply And.intro
          · exact ⟨by omega, by omega⟩
          intro z42 h42
          intro z47 h47
          first | replace h47 := e_mul h47 (by omega) | replace h47 := e_rng h47
          apply And.intro
          · first | omega | (intro e9; omega)
          intro z49 h49
          first | replace h49 := e_rem h49 (by omega) (by omega) | replace h49 := e_rng h49
          exact ⟨_, _, _, _, _, _, rfl, rfl, rfl, rfl, (by first | omega | assumption | exact q_rg_up (by assumption) (by omega) | exact q_rg_up (q_rg_up (by assumption) (by omega)) (by omega) | exact q_rg_cpy (by assumption) (by assumption)), (by first | omega | assumption | exact q_rg_up (by assumption) (by omega) | exact q_rg_up (q_rg_up (by assumption) (by omega)) (by omega) | exact q_rg_cpy (by assumption) (by assumption)), (by first | omega | assumption | exact q_rg_up (by assumption) (by omega) | exact q_rg_up (q_rg_up (by assumption) (by omega)) (by omega) | exact q_rg_cpy (by assumption) (by assumption))⟩
        · intro h24
          exact hQ _

theorem dX7_copy_0 : decode cX7_copy 0 = .ok (.aload_n 1, 1) := by decide +kernel
theorem dX7_copy_1 : decode cX7_copy 1 = .ok (.getfield 9, 3) := by decide +kernel
theorem dX7_copy_4 : decode cX7_copy 4 = .ok (.iconst 0, 1) := by decide +kernel
theorem dX7_copy_5 : decode cX7_copy 5 = .ok (.aload_n 0, 1) := by decide +kernel
theorem dX7_copy_6 : decode cX7_copy 6 = .ok (.getfield 9, 3) := by decide +kernel
theorem dX7_copy_9 : decode cX7_copy 9 = .ok (.iconst 0, 1) := by decide +kernel
theorem dX7_copy_10 : decode cX7_copy 10 = .ok (.bipush 10, 2) := by decide +kernel
theorem dX7_copy_12 : decode cX7_copy 12 = .ok (.invokestatic 18, 3) := by decide +kernel
theorem dX7_copy_15 : decode cX7_copy 15 = .ok (.aload_n 1, 1) := by decide +kernel
theorem dX7_copy_16 : decode cX7_copy 16 = .ok (.getfield 15, 3) := by decide +kernel
theorem dX7_copy_19 : decode cX7_copy 19 = .ok (.iconst 0, 1) := by decide +kernel
theorem dX7_copy_20 : decode cX7_copy 20 = .ok (.aload_n 0, 1) := by decide +kernel
theorem dX7_copy_21 : decode cX7_copy 21 = .ok (.getfield 15, 3) := by decide +kernel
theorem dX7_copy_24 : decode cX7_copy 24 = .ok (.iconst 0, 1) := by decide +kernel
theorem dX7_copy_25 : decode cX7_copy 25 = .ok (.bipush 10, 2) := by decide +kernel
theorem dX7_copy_27 : decode cX7_copy 27 = .ok (.invokestatic 18, 3) := by decide +kernel
theorem dX7_copy_30 : decode cX7_copy 30 = .ok (.aload_n 0, 1) := by decide +kernel
theorem dX7_copy_31 : decode cX7_copy 31 = .ok (.aload_n 1, 1) := by decide +kernel
theorem dX7_copy_32 : decode cX7_copy 32 = .ok (.getfield 24, 3) := by decide +kernel
theorem dX7_copy_35 : decode cX7_copy 35 = .ok (.putfield 24, 3) := by decide +kernel
theorem dX7_copy_38 : decode cX7_copy 38 = .ok (.return_, 1) := by decide +kernel
def is_X7_copy : Nat → List Nat := fun d => []
set_option maxRecDepth 100000 in
def b_X7_copy_0 (J : Nat → List qV → List qV → qW → Prop) (Q : qR) : qK := x_aload 1 (x_get 7 0 (x_int 0 (x_aload 0 (x_get 7 0 (x_int 0 (x_int 10 (x_copy (x_nw (x_aload 1 (x_get 7 1 (x_int 0 (x_aload 0 (x_get 7 1 (x_int 0 (x_int 10 (x_copy (x_nw (x_aload 0 (x_aload 1 (x_get 7 2 (x_put 7 2 q_oki (x_nw (x_vret Q)))))))))))))))))))))))
set_option maxRecDepth 100000 in
theorem s_X7_copy_0 {p : Program} {l : Launch} {e : Env} {R : Room} {s : State} {m : MethodId} {args : Array Value} {below : List Frame} {meth : Method} {c : Code} {nW : Nat} {dC : Nat → ClassId} {dI : Nat → Nat → Nat} {k : Nat → ClassId} {g : Nat → Nat} {A : Nat → Prop} {J : Nat → List qV → List qV → qW → Prop} {Q : qR} (X : q_X p R s m args meth c cX7_copy 2 nW 1 68 RX7 none dC dI k g A) (hJ : ∀ d : Nat, q_Sd p l e R s m args below meth c 2 nW dC dI k g A (MQ below (q_post (dC, dI) k g nW Q A) args s 0 0 A) d (x_cut (is_X7_copy d) (J d))) : q_Sd p l e R s m args below meth c 2 nW dC dI k g A (MQ below (q_post (dC, dI) k g nW Q A) args s 0 0 A) 0 (b_X7_copy_0 J Q) := by
  unfold b_X7_copy_0
  refine s_aload_n X rfl dX7_copy_0 ?_
  refine s_get X (T := TX7) (C := RX7) (N := 3) tu_X7 rfl (by decide) tw_241 dX7_copy_1 ?_
  refine s_iconst X ⟨by decide, by decide⟩ dX7_copy_4 ?_
  refine s_aload_n X rfl dX7_copy_5 ?_
  refine s_get X (T := TX7) (C := RX7) (N := 3) tu_X7 rfl (by decide) tw_241 dX7_copy_6 ?_
  refine s_iconst X ⟨by decide, by decide⟩ dX7_copy_9 ?_
  refine s_bipush X ⟨by decide, by decide⟩ (by decide) dX7_copy_10 ?_
  refine s_copy X tw_529 tw_163 tw_162 tw_124 ⟨by decide, by decide⟩ dX7_copy_12 ?_
  refine s_nw ?_
  refine s_aload_n X rfl dX7_copy_15 ?_
  refine s_get X (T := TX7) (C := RX7) (N := 3) tu_X7 rfl (by decide) tw_243 dX7_copy_16 ?_
  refine s_iconst X ⟨by decide, by decide⟩ dX7_copy_19 ?_
  refine s_aload_n X rfl dX7_copy_20 ?_
  refine s_get X (T := TX7) (C := RX7) (N := 3) tu_X7 rfl (by decide) tw_243 dX7_copy_21 ?_
  refine s_iconst X ⟨by decide, by decide⟩ dX7_copy_24 ?_
  refine s_bipush X ⟨by decide, by decide⟩ (by decide) dX7_copy_25 ?_
  refine s_copy X tw_529 tw_163 tw_162 tw_124 ⟨by decide, by decide⟩ dX7_copy_27 ?_
  refine s_nw ?_
  refine s_aload_n X rfl dX7_copy_30 ?_
  refine s_aload_n X rfl dX7_copy_31 ?_
  refine s_get X (T := TX7) (C := RX7) (N := 3) tu_X7 rfl (by decide) tw_245 dX7_copy_32 ?_
  refine s_put X (T := TX7) (C := RX7) (N := 3) tu_X7 tyX7_ok nmX7 rfl (by decide) tw_245 rfl (by decide +kernel) q_oki_t dX7_copy_35 ?_
  refine s_nw ?_
  exact s_vret X dX7_copy_38

def sp_X7_copy : qS := fun av w Q => ∃ (p1 : Nat → Int) (p2 : Nat → Int) (c1 : Int) (g1 : Nat → Int) (g2 : Nat → Int) (t0 : Int), av = [q2 0, q2 3] ∧ w = (wSo 0 p1 p2 c1 ++ wSo 3 g1 g2 t0) ∧ (Q none ((wSo 0 (va_cpy g1 p1 0 0 10) (va_cpy g2 p2 0 0 10) t0 ++ wSo 3 g1 g2 t0)))
set_option maxHeartbeats 4000000 in
set_option maxRecDepth 100000 in
theorem m_X7_copy (l : Launch) : q_M l yX7_copy cX7_copy 2 none 1 68 sp_X7_copy := by
  refine q_meth (by decide) (fun av w Q h => by obtain ⟨p1, p2, c1, g1, g2, t0, rfl, rfl, hQ⟩ := h; exact Nat.le_of_ble_eq_true rfl) ?_
  intro p e R s m args below meth c dC dI k g A av w Q hsp oka okw X
  obtain ⟨p1, p2, c1, g1, g2, t0, rfl, rfl, hQ⟩ := hsp
  refine s_mono (s_X7_copy_0 X (J := fun _ _ _ _ => False) (fun d => s_cutF)) ?_
  rintro lv st w' ⟨rfl, rfl, rfl⟩
  apply And.intro
  · exact ⟨by omega, by omega, by omega, by first | omega | decide, by omega⟩
  apply And.intro
  · exact ⟨by omega, by omega, by omega, by first | omega | decide, by omega⟩
  apply And.intro
  · exact trivial
  exact hQ

theorem dX7_add_0 : decode cX7_add 0 = .ok (.aload_n 0, 1) := by decide +kernel
theorem dX7_add_1 : decode cX7_add 1 = .ok (.getfield 24, 3) := by decide +kernel
theorem dX7_add_4 : decode cX7_add 4 = .ok (.bipush 10, 2) := by decide +kernel
theorem dX7_add_6 : decode cX7_add 6 = .ok (.if_icmp .ge 33, 3) := by decide +kernel
theorem dX7_add_9 : decode cX7_add 9 = .ok (.aload_n 0, 1) := by decide +kernel
theorem dX7_add_10 : decode cX7_add 10 = .ok (.getfield 9, 3) := by decide +kernel
theorem dX7_add_13 : decode cX7_add 13 = .ok (.aload_n 0, 1) := by decide +kernel
theorem dX7_add_14 : decode cX7_add 14 = .ok (.getfield 24, 3) := by decide +kernel
theorem dX7_add_17 : decode cX7_add 17 = .ok (.iload_n 1, 1) := by decide +kernel
theorem dX7_add_18 : decode cX7_add 18 = .ok (.iastore, 1) := by decide +kernel
theorem dX7_add_19 : decode cX7_add 19 = .ok (.aload_n 0, 1) := by decide +kernel
theorem dX7_add_20 : decode cX7_add 20 = .ok (.getfield 15, 3) := by decide +kernel
theorem dX7_add_23 : decode cX7_add 23 = .ok (.aload_n 0, 1) := by decide +kernel
theorem dX7_add_24 : decode cX7_add 24 = .ok (.getfield 24, 3) := by decide +kernel
theorem dX7_add_27 : decode cX7_add 27 = .ok (.iload_n 2, 1) := by decide +kernel
theorem dX7_add_28 : decode cX7_add 28 = .ok (.iastore, 1) := by decide +kernel
theorem dX7_add_29 : decode cX7_add 29 = .ok (.aload_n 0, 1) := by decide +kernel
theorem dX7_add_30 : decode cX7_add 30 = .ok (.dup, 1) := by decide +kernel
theorem dX7_add_31 : decode cX7_add 31 = .ok (.getfield 24, 3) := by decide +kernel
theorem dX7_add_34 : decode cX7_add 34 = .ok (.iconst 1, 1) := by decide +kernel
theorem dX7_add_35 : decode cX7_add 35 = .ok (.iadd, 1) := by decide +kernel
theorem dX7_add_36 : decode cX7_add 36 = .ok (.putfield 24, 3) := by decide +kernel
theorem dX7_add_39 : decode cX7_add 39 = .ok (.return_, 1) := by decide +kernel
def is_X7_add : Nat → List Nat := fun d => []
set_option maxRecDepth 100000 in
def b_X7_add_39 (J : Nat → List qV → List qV → qW → Prop) (Q : qR) : qK := x_vret Q
set_option maxRecDepth 100000 in
theorem s_X7_add_39 {p : Program} {l : Launch} {e : Env} {R : Room} {s : State} {m : MethodId} {args : Array Value} {below : List Frame} {meth : Method} {c : Code} {nW : Nat} {dC : Nat → ClassId} {dI : Nat → Nat → Nat} {k : Nat → ClassId} {g : Nat → Nat} {A : Nat → Prop} {J : Nat → List qV → List qV → qW → Prop} {Q : qR} (X : q_X p R s m args meth c cX7_add 3 nW 0 0 RX7 none dC dI k g A) (hJ : ∀ d : Nat, q_Sd p l e R s m args below meth c 3 nW dC dI k g A (MQ below (q_post (dC, dI) k g nW Q A) args s 0 0 A) d (x_cut (is_X7_add d) (J d))) : q_Sd p l e R s m args below meth c 3 nW dC dI k g A (MQ below (q_post (dC, dI) k g nW Q A) args s 0 0 A) 39 (b_X7_add_39 J Q) := by
  unfold b_X7_add_39
  exact s_vret X dX7_add_39
set_option maxRecDepth 100000 in
def b_X7_add_0 (J : Nat → List qV → List qV → qW → Prop) (Q : qR) : qK := x_aload 0 (x_get 7 2 (x_int 10 (x_icmp_ge (b_X7_add_39 J Q) (x_aload 0 (x_get 7 0 (x_aload 0 (x_get 7 2 (x_iload 1 (x_iast (x_nw (x_aload 0 (x_get 7 1 (x_aload 0 (x_get 7 2 (x_iload 2 (x_iast (x_nw (x_aload 0 (x_dup (x_get 7 2 (x_int 1 (x_iadd (x_put 7 2 q_oki (x_nw (b_X7_add_39 J Q)))))))))))))))))))))))))
set_option maxRecDepth 100000 in
theorem s_X7_add_0 {p : Program} {l : Launch} {e : Env} {R : Room} {s : State} {m : MethodId} {args : Array Value} {below : List Frame} {meth : Method} {c : Code} {nW : Nat} {dC : Nat → ClassId} {dI : Nat → Nat → Nat} {k : Nat → ClassId} {g : Nat → Nat} {A : Nat → Prop} {J : Nat → List qV → List qV → qW → Prop} {Q : qR} (X : q_X p R s m args meth c cX7_add 3 nW 0 0 RX7 none dC dI k g A) (hJ : ∀ d : Nat, q_Sd p l e R s m args below meth c 3 nW dC dI k g A (MQ below (q_post (dC, dI) k g nW Q A) args s 0 0 A) d (x_cut (is_X7_add d) (J d))) : q_Sd p l e R s m args below meth c 3 nW dC dI k g A (MQ below (q_post (dC, dI) k g nW Q A) args s 0 0 A) 0 (b_X7_add_0 J Q) := by
  unfold b_X7_add_0
  refine s_aload_n X rfl dX7_add_0 ?_
  refine s_get X (T := TX7) (C := RX7) (N := 3) tu_X7 rfl (by decide) tw_245 dX7_add_1 ?_
  refine s_bipush X ⟨by decide, by decide⟩ (by decide) dX7_add_4 ?_
  refine s_icmp_ge X (tgt := 39) dX7_add_6 (by decide) ?_ ?_
  · exact s_X7_add_39 X hJ
  · refine s_aload_n X rfl dX7_add_9 ?_
    refine s_get X (T := TX7) (C := RX7) (N := 3) tu_X7 rfl (by decide) tw_241 dX7_add_10 ?_
    refine s_aload_n X rfl dX7_add_13 ?_
    refine s_get X (T := TX7) (C := RX7) (N := 3) tu_X7 rfl (by decide) tw_245 dX7_add_14 ?_
    refine s_iload_n X rfl dX7_add_17 ?_
    refine s_iast X dX7_add_18 ?_
    refine s_nw ?_
    refine s_aload_n X rfl dX7_add_19 ?_
    refine s_get X (T := TX7) (C := RX7) (N := 3) tu_X7 rfl (by decide) tw_243 dX7_add_20 ?_
    refine s_aload_n X rfl dX7_add_23 ?_
    refine s_get X (T := TX7) (C := RX7) (N := 3) tu_X7 rfl (by decide) tw_245 dX7_add_24 ?_
    refine s_iload_n X rfl dX7_add_27 ?_
    refine s_iast X dX7_add_28 ?_
    refine s_nw ?_
    refine s_aload_n X rfl dX7_add_29 ?_
    refine s_dup X dX7_add_30 ?_
    refine s_get X (T := TX7) (C := RX7) (N := 3) tu_X7 rfl (by decide) tw_245 dX7_add_31 ?_
    refine s_iconst X ⟨by decide, by decide⟩ dX7_add_34 ?_
    refine s_iadd X dX7_add_35 ?_
    refine s_put X (T := TX7) (C := RX7) (N := 3) tu_X7 tyX7_ok nmX7 rfl (by decide) tw_245 rfl (by decide +kernel) q_oki_t dX7_add_36 ?_
    refine s_nw ?_
    exact s_X7_add_39 X hJ

def sp_X7_add : qS := fun av w Q => ∃ (p1 : Nat → Int) (p2 : Nat → Int) (c1 : Int) (a : Int) (b : Int), av = [q2 0, q1 a, q1 b] ∧ w = (wSo 0 p1 p2 c1) ∧ (0 ≤ c1 ∧ c1 ≤ 10) ∧ (∀ (g1 : Nat → Int) (g2 : Nat → Int) (t : Int), (0 ≤ t ∧ t ≤ 10) → Q none ((wSo 0 g1 g2 t)))
set_option maxHeartbeats 4000000 in
set_option maxRecDepth 100000 in
theorem m_X7_add (l : Launch) : q_M l yX7_add cX7_add 3 none 0 0 sp_X7_add := by
  refine q_meth (by decide) (fun av w Q h => by obtain ⟨p1, p2, c1, a, b, rfl, rfl, hc, hQ⟩ := h; exact Nat.le_of_ble_eq_true rfl) ?_
  intro p e R s m args below meth c dC dI k g A av w Q hsp oka okw X
  obtain ⟨p1, p2, c1, a, b, rfl, rfl, hc, hQ⟩ := hsp
  have o_a : -2147483648 ≤ a ∧ a ≤ 2147483647 := oka _ (List.mem_of_getElem? (i := 1) rfl)
  have o_b : -2147483648 ≤ b ∧ b ≤ 2147483647 := oka _ (List.mem_of_getElem? (i := 2) rfl)
  refine s_mono (s_X7_add_0 X (J := fun _ _ _ _ => False) (fun d => s_cutF)) ?_
  rintro lv st w' ⟨rfl, rfl, rfl⟩
  apply And.intro
  · intro h6
    exact hQ _ _ _ (by first | omega | assumption | exact q_rg_up (by assumption) (by omega) | exact q_rg_up (q_rg_up (by assumption) (by omega)) (by omega) | exact q_rg_cpy (by assumption) (by assumption))
  · intro h6
    apply And.intro
    · exact ⟨by omega, by omega⟩
    apply And.intro
    · exact ⟨by omega, by omega⟩
    intro z35 h35
    first | replace h35 := e_add h35 (by omega) | replace h35 := e_rng h35
    apply And.intro
    · exact trivial
    exact hQ _ _ _ (by first | omega | assumption | exact q_rg_up (by assumption) (by omega) | exact q_rg_up (q_rg_up (by assumption) (by omega)) (by omega) | exact q_rg_cpy (by assumption) (by assumption))

theorem dX7_look_0 : decode cX7_look 0 = .ok (.iload_n 1, 1) := by decide +kernel
theorem dX7_look_1 : decode cX7_look 1 = .ok (.ifCond .lt 17, 3) := by decide +kernel
theorem dX7_look_4 : decode cX7_look 4 = .ok (.iload_n 1, 1) := by decide +kernel
theorem dX7_look_5 : decode cX7_look 5 = .ok (.aload_n 0, 1) := by decide +kernel
theorem dX7_look_6 : decode cX7_look 6 = .ok (.getfield 24, 3) := by decide +kernel
theorem dX7_look_9 : decode cX7_look 9 = .ok (.if_icmp .ge 9, 3) := by decide +kernel
theorem dX7_look_12 : decode cX7_look 12 = .ok (.iload_n 1, 1) := by decide +kernel
theorem dX7_look_13 : decode cX7_look 13 = .ok (.bipush 10, 2) := by decide +kernel
theorem dX7_look_15 : decode cX7_look 15 = .ok (.if_icmp .lt 6, 3) := by decide +kernel
theorem dX7_look_18 : decode cX7_look 18 = .ok (.bipush (-2), 2) := by decide +kernel
theorem dX7_look_20 : decode cX7_look 20 = .ok (.ireturn, 1) := by decide +kernel
theorem dX7_look_21 : decode cX7_look 21 = .ok (.iload_n 2, 1) := by decide +kernel
theorem dX7_look_22 : decode cX7_look 22 = .ok (.ifCond .ne 10, 3) := by decide +kernel
theorem dX7_look_25 : decode cX7_look 25 = .ok (.aload_n 0, 1) := by decide +kernel
theorem dX7_look_26 : decode cX7_look 26 = .ok (.getfield 9, 3) := by decide +kernel
theorem dX7_look_29 : decode cX7_look 29 = .ok (.iload_n 1, 1) := by decide +kernel
theorem dX7_look_30 : decode cX7_look 30 = .ok (.iaload, 1) := by decide +kernel
theorem dX7_look_31 : decode cX7_look 31 = .ok (.ireturn, 1) := by decide +kernel
theorem dX7_look_32 : decode cX7_look 32 = .ok (.iload_n 2, 1) := by decide +kernel
theorem dX7_look_33 : decode cX7_look 33 = .ok (.iconst 1, 1) := by decide +kernel
theorem dX7_look_34 : decode cX7_look 34 = .ok (.if_icmp .ne 12, 3) := by decide +kernel
theorem dX7_look_37 : decode cX7_look 37 = .ok (.aload_n 0, 1) := by decide +kernel
theorem dX7_look_38 : decode cX7_look 38 = .ok (.getfield 15, 3) := by decide +kernel
theorem dX7_look_41 : decode cX7_look 41 = .ok (.iload_n 1, 1) := by decide +kernel
theorem dX7_look_42 : decode cX7_look 42 = .ok (.iaload, 1) := by decide +kernel
theorem dX7_look_43 : decode cX7_look 43 = .ok (.goto 5, 3) := by decide +kernel
theorem dX7_look_46 : decode cX7_look 46 = .ok (.bipush (-2), 2) := by decide +kernel
theorem dX7_look_48 : decode cX7_look 48 = .ok (.ireturn, 1) := by decide +kernel
def is_X7_look : Nat → List Nat := fun d => []
set_option maxRecDepth 100000 in
def b_X7_look_48 (J : Nat → List qV → List qV → qW → Prop) (Q : qR) : qK := x_iret Q
set_option maxRecDepth 100000 in
theorem s_X7_look_48 {p : Program} {l : Launch} {e : Env} {R : Room} {s : State} {m : MethodId} {args : Array Value} {below : List Frame} {meth : Method} {c : Code} {nW : Nat} {dC : Nat → ClassId} {dI : Nat → Nat → Nat} {k : Nat → ClassId} {g : Nat → Nat} {A : Nat → Prop} {J : Nat → List qV → List qV → qW → Prop} {Q : qR} (X : q_X p R s m args meth c cX7_look 3 nW 0 0 RX7 (some .int) dC dI k g A) (hJ : ∀ d : Nat, q_Sd p l e R s m args below meth c 3 nW dC dI k g A (MQ below (q_post (dC, dI) k g nW Q A) args s 0 0 A) d (x_cut (is_X7_look d) (J d))) : q_Sd p l e R s m args below meth c 3 nW dC dI k g A (MQ below (q_post (dC, dI) k g nW Q A) args s 0 0 A) 48 (b_X7_look_48 J Q) := by
  unfold b_X7_look_48
  exact s_iret X dX7_look_48
set_option maxRecDepth 100000 in
def b_X7_look_18 (J : Nat → List qV → List qV → qW → Prop) (Q : qR) : qK := x_int (-2) (x_iret Q)
set_option maxRecDepth 100000 in
theorem s_X7_look_18 {p : Program} {l : Launch} {e : Env} {R : Room} {s : State} {m : MethodId} {args : Array Value} {below : List Frame} {meth : Method} {c : Code} {nW : Nat} {dC : Nat → ClassId} {dI : Nat → Nat → Nat} {k : Nat → ClassId} {g : Nat → Nat} {A : Nat → Prop} {J : Nat → List qV → List qV → qW → Prop} {Q : qR} (X : q_X p R s m args meth c cX7_look 3 nW 0 0 RX7 (some .int) dC dI k g A) (hJ : ∀ d : Nat, q_Sd p l e R s m args below meth c 3 nW dC dI k g A (MQ below (q_post (dC, dI) k g nW Q A) args s 0 0 A) d (x_cut (is_X7_look d) (J d))) : q_Sd p l e R s m args below meth c 3 nW dC dI k g A (MQ below (q_post (dC, dI) k g nW Q A) args s 0 0 A) 18 (b_X7_look_18 J Q) := by
  unfold b_X7_look_18
  refine s_bipush X ⟨by decide, by decide⟩ (by decide) dX7_look_18 ?_
  exact s_iret X dX7_look_20
set_option maxRecDepth 100000 in
def b_X7_look_0 (J : Nat → List qV → List qV → qW → Prop) (Q : qR) : qK := x_iload 1 (x_if_lt (b_X7_look_18 J Q) (x_iload 1 (x_aload 0 (x_get 7 2 (x_icmp_ge (b_X7_look_18 J Q) (x_iload 1 (x_int 10 (x_icmp_lt (x_iload 2 (x_if_ne (x_iload 2 (x_int 1 (x_icmp_ne (x_int (-2) (b_X7_look_48 J Q)) (x_aload 0 (x_get 7 1 (x_iload 1 (x_iald (b_X7_look_48 J Q)))))))) (x_aload 0 (x_get 7 0 (x_iload 1 (x_iald (x_iret Q))))))) (b_X7_look_18 J Q)))))))))
set_option maxRecDepth 100000 in
theorem s_X7_look_0 {p : Program} {l : Launch} {e : Env} {R : Room} {s : State} {m : MethodId} {args : Array Value} {below : List Frame} {meth : Method} {c : Code} {nW : Nat} {dC : Nat → ClassId} {dI : Nat → Nat → Nat} {k : Nat → ClassId} {g : Nat → Nat} {A : Nat → Prop} {J : Nat → List qV → List qV → qW → Prop} {Q : qR} (X : q_X p R s m args meth c cX7_look 3 nW 0 0 RX7 (some .int) dC dI k g A) (hJ : ∀ d : Nat, q_Sd p l e R s m args below meth c 3 nW dC dI k g A (MQ below (q_post (dC, dI) k g nW Q A) args s 0 0 A) d (x_cut (is_X7_look d) (J d))) : q_Sd p l e R s m args below meth c 3 nW dC dI k g A (MQ below (q_post (dC, dI) k g nW Q A) args s 0 0 A) 0 (b_X7_look_0 J Q) := by
  unfold b_X7_look_0
  refine s_iload_n X rfl dX7_look_0 ?_
  refine s_if_lt X (tgt := 18) dX7_look_1 (by decide) ?_ ?_
  · exact s_X7_look_18 X hJ
  · refine s_iload_n X rfl dX7_look_4 ?_
    refine s_aload_n X rfl dX7_look_5 ?_
    refine s_get X (T := TX7) (C := RX7) (N := 3) tu_X7 rfl (by decide) tw_245 dX7_look_6 ?_
    refine s_icmp_ge X (tgt := 18) dX7_look_9 (by decide) ?_ ?_
    · exact s_X7_look_18 X hJ
    · refine s_iload_n X rfl dX7_look_12 ?_
      refine s_bipush X ⟨by decide, by decide⟩ (by decide) dX7_look_13 ?_
      refine s_icmp_lt X (tgt := 21) dX7_look_15 (by decide) ?_ ?_
      · refine s_iload_n X rfl dX7_look_21 ?_
        refine s_if_ne X (tgt := 32) dX7_look_22 (by decide) ?_ ?_
        · refine s_iload_n X rfl dX7_look_32 ?_
          refine s_iconst X ⟨by decide, by decide⟩ dX7_look_33 ?_
          refine s_icmp_ne X (tgt := 46) dX7_look_34 (by decide) ?_ ?_
          · refine s_bipush X ⟨by decide, by decide⟩ (by decide) dX7_look_46 ?_
            exact s_X7_look_48 X hJ
          · refine s_aload_n X rfl dX7_look_37 ?_
            refine s_get X (T := TX7) (C := RX7) (N := 3) tu_X7 rfl (by decide) tw_243 dX7_look_38 ?_
            refine s_iload_n X rfl dX7_look_41 ?_
            refine s_iald X dX7_look_42 ?_
            refine s_goto X (tgt := 48) dX7_look_43 (by decide) ?_
            exact s_X7_look_48 X hJ
        · refine s_aload_n X rfl dX7_look_25 ?_
          refine s_get X (T := TX7) (C := RX7) (N := 3) tu_X7 rfl (by decide) tw_241 dX7_look_26 ?_
          refine s_iload_n X rfl dX7_look_29 ?_
          refine s_iald X dX7_look_30 ?_
          exact s_iret X dX7_look_31
      · exact s_X7_look_18 X hJ

def spr_X7_look : List qV → qW → (Option qV → Prop) → Prop := fun av w Q => ∃ (p1 : Nat → Int) (p2 : Nat → Int) (c1 : Int) (a : Int) (b : Int), av = [q2 0, q1 a, q1 b] ∧ w = (wSo 0 p1 p2 c1) ∧ (∀ (r : Int) , Q (some (q1 r)))
def sp_X7_look : qS := fun av w Q => spr_X7_look av w (fun r => Q r w)
set_option maxHeartbeats 4000000 in
set_option maxRecDepth 100000 in
theorem m_X7_look (l : Launch) : q_M l yX7_look cX7_look 3 (some .int) 0 0 sp_X7_look := by
  refine q_meth (by decide) (fun av w Q h => by obtain ⟨p1, p2, c1, a, b, rfl, rfl, hQ⟩ := h; exact Nat.le_of_ble_eq_true rfl) ?_
  intro p e R s m args below meth c dC dI k g A av w Q hsp oka okw X
  obtain ⟨p1, p2, c1, a, b, rfl, rfl, hQ⟩ := hsp
  have o_a : -2147483648 ≤ a ∧ a ≤ 2147483647 := oka _ (List.mem_of_getElem? (i := 1) rfl)
  have o_b : -2147483648 ≤ b ∧ b ≤ 2147483647 := oka _ (List.mem_of_getElem? (i := 2) rfl)
  refine s_mono (s_X7_look_0 X (J := fun _ _ _ _ => False) (fun d => s_cutF)) ?_
  rintro lv st w' ⟨rfl, rfl, rfl⟩
  apply And.intro
  · intro h1
    exact hQ _
  · intro h1
    apply And.intro
    · intro h9
      exact hQ _
    · intro h9
      apply And.intro
      · intro h15
        apply And.intro
        · intro h22
          apply And.intro
          · intro h34
            exact hQ _
          · intro h34
            apply And.intro
            · exact ⟨by omega, by omega⟩
            intro z42 h42
            exact hQ _
        · intro h22
          apply And.intro
          · exact ⟨by omega, by omega⟩
          intro z30 h30
          exact hQ _
      · intro h15
        exact hQ _
