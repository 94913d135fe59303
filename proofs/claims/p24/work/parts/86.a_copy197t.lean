def IC_copy_197t (F U : Nat → Nat → Int) (w0 : qW) : Nat → Nat → List qV → List qV → qW → Prop := fun dz mz vz sz wz => if dz = 32 then (∃ (v2 : Int) (F1 U1 : Nat → Nat → Int), vz = [q2 1, q2 197, q1 v2] ∧ sz = [] ∧ WSo (CL_197 F1 U1) out_197 w0 wz ∧ CpT 1 197 v2 F U F1 U1 ∧ mz = (2 - v2).toNat ∧ (0 ≤ v2 ∧ v2 ≤ 2)) else False

theorem dcopy_197t_0 : decode cX8_copy 0 = .ok (.aload_n 1, 1) := by decide +kernel
theorem dcopy_197t_1 : decode cX8_copy 1 = .ok (.getfield 9, 3) := by decide +kernel
theorem dcopy_197t_4 : decode cX8_copy 4 = .ok (.iconst 0, 1) := by decide +kernel
theorem dcopy_197t_5 : decode cX8_copy 5 = .ok (.aload_n 0, 1) := by decide +kernel
theorem dcopy_197t_6 : decode cX8_copy 6 = .ok (.getfield 9, 3) := by decide +kernel
theorem dcopy_197t_9 : decode cX8_copy 9 = .ok (.iconst 0, 1) := by decide +kernel
theorem dcopy_197t_10 : decode cX8_copy 10 = .ok (.sipush 600, 3) := by decide +kernel
theorem dcopy_197t_13 : decode cX8_copy 13 = .ok (.invokestatic 51, 3) := by decide +kernel
theorem dcopy_197t_16 : decode cX8_copy 16 = .ok (.aload_n 1, 1) := by decide +kernel
theorem dcopy_197t_17 : decode cX8_copy 17 = .ok (.getfield 15, 3) := by decide +kernel
theorem dcopy_197t_20 : decode cX8_copy 20 = .ok (.iconst 0, 1) := by decide +kernel
theorem dcopy_197t_21 : decode cX8_copy 21 = .ok (.aload_n 0, 1) := by decide +kernel
theorem dcopy_197t_22 : decode cX8_copy 22 = .ok (.getfield 15, 3) := by decide +kernel
theorem dcopy_197t_25 : decode cX8_copy 25 = .ok (.iconst 0, 1) := by decide +kernel
theorem dcopy_197t_26 : decode cX8_copy 26 = .ok (.iconst 4, 1) := by decide +kernel
theorem dcopy_197t_27 : decode cX8_copy 27 = .ok (.invokestatic 51, 3) := by decide +kernel
theorem dcopy_197t_30 : decode cX8_copy 30 = .ok (.iconst 0, 1) := by decide +kernel
theorem dcopy_197t_31 : decode cX8_copy 31 = .ok (.istore_n 2, 1) := by decide +kernel
theorem dcopy_197t_32 : decode cX8_copy 32 = .ok (.iload_n 2, 1) := by decide +kernel
theorem dcopy_197t_33 : decode cX8_copy 33 = .ok (.iconst 2, 1) := by decide +kernel
theorem dcopy_197t_34 : decode cX8_copy 34 = .ok (.if_icmp .ge 69, 3) := by decide +kernel
theorem dcopy_197t_37 : decode cX8_copy 37 = .ok (.aload_n 0, 1) := by decide +kernel
theorem dcopy_197t_38 : decode cX8_copy 38 = .ok (.getfield 22, 3) := by decide +kernel
theorem dcopy_197t_41 : decode cX8_copy 41 = .ok (.iload_n 2, 1) := by decide +kernel
theorem dcopy_197t_42 : decode cX8_copy 42 = .ok (.aaload, 1) := by decide +kernel
theorem dcopy_197t_43 : decode cX8_copy 43 = .ok (.aload_n 1, 1) := by decide +kernel
theorem dcopy_197t_44 : decode cX8_copy 44 = .ok (.getfield 22, 3) := by decide +kernel
theorem dcopy_197t_47 : decode cX8_copy 47 = .ok (.iload_n 2, 1) := by decide +kernel
theorem dcopy_197t_48 : decode cX8_copy 48 = .ok (.aaload, 1) := by decide +kernel
theorem dcopy_197t_49 : decode cX8_copy 49 = .ok (.invokevirtual 57, 3) := by decide +kernel
theorem dcopy_197t_52 : decode cX8_copy 52 = .ok (.aload_n 0, 1) := by decide +kernel
theorem dcopy_197t_53 : decode cX8_copy 53 = .ok (.getfield 29, 3) := by decide +kernel
theorem dcopy_197t_56 : decode cX8_copy 56 = .ok (.iload_n 2, 1) := by decide +kernel
theorem dcopy_197t_57 : decode cX8_copy 57 = .ok (.aaload, 1) := by decide +kernel
theorem dcopy_197t_58 : decode cX8_copy 58 = .ok (.aload_n 1, 1) := by decide +kernel
theorem dcopy_197t_59 : decode cX8_copy 59 = .ok (.getfield 29, 3) := by decide +kernel
theorem dcopy_197t_62 : decode cX8_copy 62 = .ok (.iload_n 2, 1) := by decide +kernel
theorem dcopy_197t_63 : decode cX8_copy 63 = .ok (.aaload, 1) := by decide +kernel
theorem dcopy_197t_64 : decode cX8_copy 64 = .ok (.invokevirtual 61, 3) := by decide +kernel
theorem dcopy_197t_67 : decode cX8_copy 67 = .ok (.aload_n 0, 1) := by decide +kernel
theorem dcopy_197t_68 : decode cX8_copy 68 = .ok (.getfield 36, 3) := by decide +kernel
theorem dcopy_197t_71 : decode cX8_copy 71 = .ok (.iload_n 2, 1) := by decide +kernel
theorem dcopy_197t_72 : decode cX8_copy 72 = .ok (.aaload, 1) := by decide +kernel
theorem dcopy_197t_73 : decode cX8_copy 73 = .ok (.aload_n 1, 1) := by decide +kernel
theorem dcopy_197t_74 : decode cX8_copy 74 = .ok (.getfield 36, 3) := by decide +kernel
theorem dcopy_197t_77 : decode cX8_copy 77 = .ok (.iload_n 2, 1) := by decide +kernel
theorem dcopy_197t_78 : decode cX8_copy 78 = .ok (.aaload, 1) := by decide +kernel
theorem dcopy_197t_79 : decode cX8_copy 79 = .ok (.invokevirtual 64, 3) := by decide +kernel
theorem dcopy_197t_82 : decode cX8_copy 82 = .ok (.aload_n 0, 1) := by decide +kernel
theorem dcopy_197t_83 : decode cX8_copy 83 = .ok (.getfield 43, 3) := by decide +kernel
theorem dcopy_197t_86 : decode cX8_copy 86 = .ok (.iload_n 2, 1) := by decide +kernel
theorem dcopy_197t_87 : decode cX8_copy 87 = .ok (.aaload, 1) := by decide +kernel
theorem dcopy_197t_88 : decode cX8_copy 88 = .ok (.aload_n 1, 1) := by decide +kernel
theorem dcopy_197t_89 : decode cX8_copy 89 = .ok (.getfield 43, 3) := by decide +kernel
theorem dcopy_197t_92 : decode cX8_copy 92 = .ok (.iload_n 2, 1) := by decide +kernel
theorem dcopy_197t_93 : decode cX8_copy 93 = .ok (.aaload, 1) := by decide +kernel
theorem dcopy_197t_94 : decode cX8_copy 94 = .ok (.invokevirtual 67, 3) := by decide +kernel
theorem dcopy_197t_97 : decode cX8_copy 97 = .ok (.iinc 2 1, 3) := by decide +kernel
theorem dcopy_197t_100 : decode cX8_copy 100 = .ok (.goto (-68), 3) := by decide +kernel
theorem dcopy_197t_103 : decode cX8_copy 103 = .ok (.aload_n 0, 1) := by decide +kernel
theorem dcopy_197t_104 : decode cX8_copy 104 = .ok (.aload_n 1, 1) := by decide +kernel
theorem dcopy_197t_105 : decode cX8_copy 105 = .ok (.getfield 70, 3) := by decide +kernel
theorem dcopy_197t_108 : decode cX8_copy 108 = .ok (.putfield 70, 3) := by decide +kernel
theorem dcopy_197t_111 : decode cX8_copy 111 = .ok (.aload_n 0, 1) := by decide +kernel
theorem dcopy_197t_112 : decode cX8_copy 112 = .ok (.aload_n 1, 1) := by decide +kernel
theorem dcopy_197t_113 : decode cX8_copy 113 = .ok (.getfield 73, 3) := by decide +kernel
theorem dcopy_197t_116 : decode cX8_copy 116 = .ok (.putfield 73, 3) := by decide +kernel
theorem dcopy_197t_119 : decode cX8_copy 119 = .ok (.aload_n 0, 1) := by decide +kernel
theorem dcopy_197t_120 : decode cX8_copy 120 = .ok (.aload_n 1, 1) := by decide +kernel
theorem dcopy_197t_121 : decode cX8_copy 121 = .ok (.getfield 47, 3) := by decide +kernel
theorem dcopy_197t_124 : decode cX8_copy 124 = .ok (.putfield 47, 3) := by decide +kernel
theorem dcopy_197t_127 : decode cX8_copy 127 = .ok (.return_, 1) := by decide +kernel
def is_copy_197t : Nat → List Nat := fun d => if d = 32 then [0, 1, 2] else []
set_option maxRecDepth 100000 in
def b_copy_197t_116 (J : Nat → List qV → List qV → qW → Prop) (Q : qR) : qK := x_put 8 7 q_oki (x_aload 0 (x_aload 1 (x_get 8 8 (x_put 8 8 q_oki (x_vret Q)))))
set_option maxRecDepth 100000 in
theorem s_copy_197t_116 {p : Program} {l : Launch} {e : Env} {R : Room} {s : State} {m : MethodId} {args : Array Value} {below : List Frame} {meth : Method} {c : Code} {nW : Nat} {dC : Nat → ClassId} {dI : Nat → Nat → Nat} {k : Nat → ClassId} {g : Nat → Nat} {A : Nat → Prop} {J : Nat → List qV → List qV → qW → Prop} {Q : qR} (X : q_X p R s m args meth c cX8_copy 3 nW 2 89 RX8 none dC dI k g A) (hJ : ∀ d : Nat, q_Sd p l e R s m args below meth c 3 nW dC dI k g A (MQ below (q_post (dC, dI) k g nW Q A) args s 0 0 A) d (x_cut (is_copy_197t d) (J d))) : q_Sd p l e R s m args below meth c 3 nW dC dI k g A (MQ below (q_post (dC, dI) k g nW Q A) args s 0 0 A) 116 (b_copy_197t_116 J Q) := by
  unfold b_copy_197t_116
  refine s_put X (T := TX8) (C := RX8) (N := 9) tu_X8 tyX8_ok nmX8 rfl (by decide) tw_259 rfl (by decide +kernel) q_oki_t dcopy_197t_116 ?_
  refine s_aload_n X rfl dcopy_197t_119 ?_
  refine s_aload_n X rfl dcopy_197t_120 ?_
  refine s_get X (T := TX8) (C := RX8) (N := 9) tu_X8 rfl (by decide) tw_261 dcopy_197t_121 ?_
  refine s_put X (T := TX8) (C := RX8) (N := 9) tu_X8 tyX8_ok nmX8 rfl (by decide) tw_261 rfl (by decide +kernel) q_oki_t dcopy_197t_124 ?_
  exact s_vret X dcopy_197t_127
set_option maxRecDepth 100000 in
def b_copy_197t_72 (J : Nat → List qV → List qV → qW → Prop) (Q : qR) : qK := x_aald (x_aload 1 (x_get 8 4 (x_iload 2 (x_aald (x_calla 3 2 sO_L_197t (x_aload 0 (x_get 8 5 (x_iload 2 (x_aald (x_aload 1 (x_get 8 5 (x_iload 2 (x_aald (x_calla 7 2 sO_S_197t (x_iinc 2 1 (x_cut [0, 1, 2] (J 32)))))))))))))))))
set_option maxRecDepth 100000 in
theorem s_copy_197t_72 {p : Program} {l : Launch} {e : Env} {R : Room} {s : State} {m : MethodId} {args : Array Value} {below : List Frame} {meth : Method} {c : Code} {nW : Nat} {dC : Nat → ClassId} {dI : Nat → Nat → Nat} {k : Nat → ClassId} {g : Nat → Nat} {A : Nat → Prop} {J : Nat → List qV → List qV → qW → Prop} {Q : qR} (X : q_X p R s m args meth c cX8_copy 3 nW 2 89 RX8 none dC dI k g A) (hJ : ∀ d : Nat, q_Sd p l e R s m args below meth c 3 nW dC dI k g A (MQ below (q_post (dC, dI) k g nW Q A) args s 0 0 A) d (x_cut (is_copy_197t d) (J d))) : q_Sd p l e R s m args below meth c 3 nW dC dI k g A (MQ below (q_post (dC, dI) k g nW Q A) args s 0 0 A) 72 (b_copy_197t_72 J Q) := by
  unfold b_copy_197t_72
  refine s_aald X dcopy_197t_72 ?_
  refine s_aload_n X rfl dcopy_197t_73 ?_
  refine s_get X (T := TX8) (C := RX8) (N := 9) tu_X8 rfl (by decide) tw_255 dcopy_197t_74 ?_
  refine s_iload_n X rfl dcopy_197t_77 ?_
  refine s_aald X dcopy_197t_78 ?_
  refine s_calla X (mO_L_197t l) tw_520 tw_521 tw_522 tw_126 tw_523 rfl (by decide +kernel) ⟨by decide, by decide⟩ spY_mo dcopy_197t_79 ?_
  refine s_aload_n X rfl dcopy_197t_82 ?_
  refine s_get X (T := TX8) (C := RX8) (N := 9) tu_X8 rfl (by decide) tw_256 dcopy_197t_83 ?_
  refine s_iload_n X rfl dcopy_197t_86 ?_
  refine s_aald X dcopy_197t_87 ?_
  refine s_aload_n X rfl dcopy_197t_88 ?_
  refine s_get X (T := TX8) (C := RX8) (N := 9) tu_X8 rfl (by decide) tw_256 dcopy_197t_89 ?_
  refine s_iload_n X rfl dcopy_197t_92 ?_
  refine s_aald X dcopy_197t_93 ?_
  refine s_calla X (mO_S_197t l) tw_525 tw_526 tw_527 tw_127 tw_528 rfl (by decide +kernel) ⟨by decide, by decide⟩ spY_mo dcopy_197t_94 ?_
  refine s_iinc X (by decide) dcopy_197t_97 ?_
  refine s_goto X (tgt := 32) dcopy_197t_100 (by decide) ?_
  exact hJ 32
set_option maxRecDepth 100000 in
def b_copy_197t_32 (J : Nat → List qV → List qV → qW → Prop) (Q : qR) : qK := x_iload 2 (x_int 2 (x_icmp_ge (x_aload 0 (x_aload 1 (x_get 8 6 (x_put 8 6 q_oki (x_aload 0 (x_aload 1 (x_get 8 7 (b_copy_197t_116 J Q)))))))) (x_aload 0 (x_get 8 2 (x_iload 2 (x_aald (x_aload 1 (x_get 8 2 (x_iload 2 (x_aald (x_calla 0 2 sO_B_197t (x_aload 0 (x_get 8 3 (x_iload 2 (x_aald (x_aload 1 (x_get 8 3 (x_iload 2 (x_aald (x_calla 10 2 sO_Y_197t (x_aload 0 (x_get 8 4 (x_iload 2 (b_copy_197t_72 J Q))))))))))))))))))))))))
set_option maxRecDepth 100000 in
theorem s_copy_197t_32 {p : Program} {l : Launch} {e : Env} {R : Room} {s : State} {m : MethodId} {args : Array Value} {below : List Frame} {meth : Method} {c : Code} {nW : Nat} {dC : Nat → ClassId} {dI : Nat → Nat → Nat} {k : Nat → ClassId} {g : Nat → Nat} {A : Nat → Prop} {J : Nat → List qV → List qV → qW → Prop} {Q : qR} (X : q_X p R s m args meth c cX8_copy 3 nW 2 89 RX8 none dC dI k g A) (hJ : ∀ d : Nat, q_Sd p l e R s m args below meth c 3 nW dC dI k g A (MQ below (q_post (dC, dI) k g nW Q A) args s 0 0 A) d (x_cut (is_copy_197t d) (J d))) : q_Sd p l e R s m args below meth c 3 nW dC dI k g A (MQ below (q_post (dC, dI) k g nW Q A) args s 0 0 A) 32 (b_copy_197t_32 J Q) := by
  unfold b_copy_197t_32
  refine s_iload_n X rfl dcopy_197t_32 ?_
  refine s_iconst X ⟨by decide, by decide⟩ dcopy_197t_33 ?_
  refine s_icmp_ge X (tgt := 103) dcopy_197t_34 (by decide) ?_ ?_
  · refine s_aload_n X rfl dcopy_197t_103 ?_
    refine s_aload_n X rfl dcopy_197t_104 ?_
    refine s_get X (T := TX8) (C := RX8) (N := 9) tu_X8 rfl (by decide) tw_258 dcopy_197t_105 ?_
    refine s_put X (T := TX8) (C := RX8) (N := 9) tu_X8 tyX8_ok nmX8 rfl (by decide) tw_258 rfl (by decide +kernel) q_oki_t dcopy_197t_108 ?_
    refine s_aload_n X rfl dcopy_197t_111 ?_
    refine s_aload_n X rfl dcopy_197t_112 ?_
    refine s_get X (T := TX8) (C := RX8) (N := 9) tu_X8 rfl (by decide) tw_259 dcopy_197t_113 ?_
    exact s_copy_197t_116 X hJ
  · refine s_aload_n X rfl dcopy_197t_37 ?_
    refine s_get X (T := TX8) (C := RX8) (N := 9) tu_X8 rfl (by decide) tw_253 dcopy_197t_38 ?_
    refine s_iload_n X rfl dcopy_197t_41 ?_
    refine s_aald X dcopy_197t_42 ?_
    refine s_aload_n X rfl dcopy_197t_43 ?_
    refine s_get X (T := TX8) (C := RX8) (N := 9) tu_X8 rfl (by decide) tw_253 dcopy_197t_44 ?_
    refine s_iload_n X rfl dcopy_197t_47 ?_
    refine s_aald X dcopy_197t_48 ?_
    refine s_calla X (mO_B_197t l) tw_511 tw_512 tw_513 tw_122 tw_514 rfl (by decide +kernel) ⟨by decide, by decide⟩ spY_mo dcopy_197t_49 ?_
    refine s_aload_n X rfl dcopy_197t_52 ?_
    refine s_get X (T := TX8) (C := RX8) (N := 9) tu_X8 rfl (by decide) tw_254 dcopy_197t_53 ?_
    refine s_iload_n X rfl dcopy_197t_56 ?_
    refine s_aald X dcopy_197t_57 ?_
    refine s_aload_n X rfl dcopy_197t_58 ?_
    refine s_get X (T := TX8) (C := RX8) (N := 9) tu_X8 rfl (by decide) tw_254 dcopy_197t_59 ?_
    refine s_iload_n X rfl dcopy_197t_62 ?_
    refine s_aald X dcopy_197t_63 ?_
    refine s_calla X (mO_Y_197t l) tw_515 tw_516 tw_517 tw_125 tw_518 rfl (by decide +kernel) ⟨by decide, by decide⟩ spY_mo dcopy_197t_64 ?_
    refine s_aload_n X rfl dcopy_197t_67 ?_
    refine s_get X (T := TX8) (C := RX8) (N := 9) tu_X8 rfl (by decide) tw_255 dcopy_197t_68 ?_
    refine s_iload_n X rfl dcopy_197t_71 ?_
    exact s_copy_197t_72 X hJ
set_option maxRecDepth 100000 in
def b_copy_197t_0 (J : Nat → List qV → List qV → qW → Prop) (Q : qR) : qK := x_aload 1 (x_get 8 0 (x_int 0 (x_aload 0 (x_get 8 0 (x_int 0 (x_int 600 (x_copy (x_aload 1 (x_get 8 1 (x_int 0 (x_aload 0 (x_get 8 1 (x_int 0 (x_int 4 (x_copy (x_int 0 (x_istore 2 (x_cut [0, 1, 2] (J 32)))))))))))))))))))
set_option maxRecDepth 100000 in
theorem s_copy_197t_0 {p : Program} {l : Launch} {e : Env} {R : Room} {s : State} {m : MethodId} {args : Array Value} {below : List Frame} {meth : Method} {c : Code} {nW : Nat} {dC : Nat → ClassId} {dI : Nat → Nat → Nat} {k : Nat → ClassId} {g : Nat → Nat} {A : Nat → Prop} {J : Nat → List qV → List qV → qW → Prop} {Q : qR} (X : q_X p R s m args meth c cX8_copy 3 nW 2 89 RX8 none dC dI k g A) (hJ : ∀ d : Nat, q_Sd p l e R s m args below meth c 3 nW dC dI k g A (MQ below (q_post (dC, dI) k g nW Q A) args s 0 0 A) d (x_cut (is_copy_197t d) (J d))) : q_Sd p l e R s m args below meth c 3 nW dC dI k g A (MQ below (q_post (dC, dI) k g nW Q A) args s 0 0 A) 0 (b_copy_197t_0 J Q) := by
  unfold b_copy_197t_0
  refine s_aload_n X rfl dcopy_197t_0 ?_
  refine s_get X (T := TX8) (C := RX8) (N := 9) tu_X8 rfl (by decide) tw_249 dcopy_197t_1 ?_
  refine s_iconst X ⟨by decide, by decide⟩ dcopy_197t_4 ?_
  refine s_aload_n X rfl dcopy_197t_5 ?_
  refine s_get X (T := TX8) (C := RX8) (N := 9) tu_X8 rfl (by decide) tw_249 dcopy_197t_6 ?_
  refine s_iconst X ⟨by decide, by decide⟩ dcopy_197t_9 ?_
  refine s_sipush X ⟨by decide, by decide⟩ (by decide) dcopy_197t_10 ?_
  refine s_copy X tw_988 tw_163 tw_162 tw_124 ⟨by decide, by decide⟩ dcopy_197t_13 ?_
  refine s_aload_n X rfl dcopy_197t_16 ?_
  refine s_get X (T := TX8) (C := RX8) (N := 9) tu_X8 rfl (by decide) tw_251 dcopy_197t_17 ?_
  refine s_iconst X ⟨by decide, by decide⟩ dcopy_197t_20 ?_
  refine s_aload_n X rfl dcopy_197t_21 ?_
  refine s_get X (T := TX8) (C := RX8) (N := 9) tu_X8 rfl (by decide) tw_251 dcopy_197t_22 ?_
  refine s_iconst X ⟨by decide, by decide⟩ dcopy_197t_25 ?_
  refine s_iconst X ⟨by decide, by decide⟩ dcopy_197t_26 ?_
  refine s_copy X tw_988 tw_163 tw_162 tw_124 ⟨by decide, by decide⟩ dcopy_197t_27 ?_
  refine s_iconst X ⟨by decide, by decide⟩ dcopy_197t_30 ?_
  refine s_istore_n X rfl (by decide) dcopy_197t_31 ?_
  exact hJ 32

def sX_copy_197t : qS := spY CL_197 out_197 (fun av => av = [q2 1, q2 197]) (fun F U _ r F' U' => r = none ∧ EqT 1 197 F U F' U')
set_option maxHeartbeats 4000000 in
set_option maxRecDepth 100000 in
theorem mX_copy_197t (l : Launch) : q_M l yX8_copy cX8_copy 3 none 2 89 sX_copy_197t := by
  refine q_meth (by decide) (fun av w Q h => by obtain ⟨_, _, _, rfl, _⟩ := h; exact Nat.le_of_ble_eq_true rfl) ?_
  intro p e R s m args below meth c dC dI k g A av w Q hsp oka okw X
  obtain ⟨F, U, hPW, rfl, hQ⟩ := hsp
  refine s_mono (s_copy_197t_0 X (J := fun dz vz sz wz => ∃ mz, IC_copy_197t F U w dz mz vz sz wz) (q_loopn (IC_copy_197t F U w) (fun dz J => if dz = 32 then b_copy_197t_32 J Q else q_F) ?hs ?hv)) ?_
  case hs =>
    intro d J hJ
    by_cases h32 : d = 32
    · subst h32; exact s_copy_197t_32 X hJ
    simp only [h32, if_false]
    exact s_F
  case hv =>
    intro dz mz vz sz wz hI okv oks okw hlen
    by_cases h32 : dz = 32
    · subst h32
      obtain ⟨v2, F1, U1, rfl, rfl, hW, hC, hn, hp⟩ := hI
      apply And.intro
      · intro h34
        obtain ⟨_, e_9, ln_9, fa_9, pl_9, rfl, i_9_0, g_9⟩ := hW.1 197 _ rfl
        refine p_get e_9 rfl ?_
        obtain ⟨_, e_10, ln_10, fa_10, pl_10, rfl, i_10_0, g_10⟩ := hW.1 1 _ rfl
        refine p_putO (C' := CL_197 F1 (fw U1 1 0 ln_9)) hW e_10 rfl trivial (by unfold out_197; omega) (fun i hi => CL_197_ne rfl (fw_c hi rfl)) rfl (show PX_T ((fw U1 1 0 ln_9) 1) _ from ⟨_, _, _, rfl, (by first | assumption | omega | exact q_rg_up (by assumption) (by omega) | exact q_rg_cpy (by assumption) (by assumption)), ⟨rfl, g_10.2.1, g_10.2.2⟩⟩) (fun w hW => ?_)
        obtain ⟨_, e_11, ln_11, fa_11, pl_11, rfl, i_11_0, g_11⟩ := hW.1 197 _ rfl
        refine p_get e_11 rfl ?_
        obtain ⟨_, e_12, ln_12, fa_12, pl_12, rfl, i_12_0, g_12⟩ := hW.1 1 _ rfl
        refine p_putO (C' := CL_197 F1 (fw (fw U1 1 0 ln_9) 1 1 fa_11)) hW e_12 rfl trivial (by unfold out_197; omega) (fun i hi => CL_197_ne rfl (fw_c hi rfl)) rfl (show PX_T ((fw (fw U1 1 0 ln_9) 1 1 fa_11) 1) _ from ⟨_, _, _, rfl, (by first | assumption | omega | exact q_rg_up (by assumption) (by omega) | exact q_rg_cpy (by assumption) (by assumption)), ⟨g_12.1, rfl, g_12.2.2⟩⟩) (fun w hW => ?_)
        obtain ⟨_, e_13, ln_13, fa_13, pl_13, rfl, i_13_0, g_13⟩ := hW.1 197 _ rfl
        refine p_get e_13 rfl ?_
        obtain ⟨_, e_14, ln_14, fa_14, pl_14, rfl, i_14_0, g_14⟩ := hW.1 1 _ rfl
        refine p_putO (C' := CL_197 F1 (fw (fw (fw U1 1 0 ln_9) 1 1 fa_11) 1 2 pl_13)) hW e_14 rfl trivial (by unfold out_197; omega) (fun i hi => CL_197_ne rfl (fw_c hi rfl)) rfl (show PX_T ((fw (fw (fw U1 1 0 ln_9) 1 1 fa_11) 1 2 pl_13) 1) _ from ⟨_, _, _, rfl, (by first | assumption | omega | exact q_rg_up (by assumption) (by omega) | exact q_rg_cpy (by assumption) (by assumption)), ⟨g_14.1, g_14.2.1, rfl⟩⟩) (fun w hW => ?_)
        exact hQ _ F1 (fw (fw (fw U1 1 0 ln_9) 1 1 fa_11) 1 2 pl_13) _ hW.1 hW.2.1 hW.2.2 ⟨rfl, CpT_e hC (by omega) (by omega) g_9.1 g_11.2.1 g_13.2.2⟩
      · intro h34
        obtain ⟨_, e_15, ln_15, fa_15, pl_15, rfl, i_15_0, g_15⟩ := hW.1 1 _ rfl
        refine p_get e_15 rfl ?_
        rcases (show v2 = 0 ∨ v2 = 1 by omega) with rfl | rfl
        · obtain ⟨_, e_16, rfl⟩ := hW.1 4 _ rfl
          refine p_aald e_16 rfl ⟨by omega, by omega⟩ ?_
          obtain ⟨_, e_17, ln_17, fa_17, pl_17, rfl, i_17_0, g_17⟩ := hW.1 197 _ rfl
          refine p_get e_17 rfl ?_
          obtain ⟨_, e_18, rfl⟩ := hW.1 200 _ rfl
          refine p_aald e_18 rfl ⟨by omega, by omega⟩ ?_
          obtain ⟨_, e_19, b0u0_19, b0u1_19, b0u2_19, b0u3_19, b0u4_19, rfl, i_19_0, g_19⟩ := hW.1 8 _ rfl
          refine p_callO (C := CL_197) (F := F1) (U := U1) (a := 8) (As := [q2 204]) (rest := []) hW rfl e_19 (Nat.le_of_ble_eq_true rfl) (by first | exact Or.inl rfl | exact Or.inr rfl) (fun r49 F49 U49 w hW hr49 => ?_)
          obtain ⟨rfl, p49, s49, q49, c49⟩ := hr49
          cases q49
          obtain ⟨_, e_20, ln_20, fa_20, pl_20, rfl, i_20_0, g_20⟩ := hW.1 1 _ rfl
          refine p_get e_20 rfl ?_
          obtain ⟨_, e_21, rfl⟩ := hW.1 5 _ rfl
          refine p_aald e_21 rfl ⟨by omega, by omega⟩ ?_
          obtain ⟨_, e_22, ln_22, fa_22, pl_22, rfl, i_22_0, g_22⟩ := hW.1 197 _ rfl
          refine p_get e_22 rfl ?_
          obtain ⟨_, e_23, rfl⟩ := hW.1 201 _ rfl
          refine p_aald e_23 rfl ⟨by omega, by omega⟩ ?_
          obtain ⟨_, e_24, y0d_24, rfl, i_24_0, g_24⟩ := hW.1 24 _ rfl
          refine p_callO (C := CL_197) (F := F49) (U := U49) (a := 24) (As := [q2 220]) (rest := []) hW rfl e_24 (Nat.le_of_ble_eq_true rfl) (by first | exact Or.inl rfl | exact Or.inr rfl) (fun r64 F64 U64 w hW hr64 => ?_)
          obtain ⟨rfl, p64, s64, q64, c64⟩ := hr64
          cases q64
          obtain ⟨_, e_25, ln_25, fa_25, pl_25, rfl, i_25_0, g_25⟩ := hW.1 1 _ rfl
          refine p_get e_25 rfl ?_
          obtain ⟨_, e_26, rfl⟩ := hW.1 6 _ rfl
          refine p_aald e_26 rfl ⟨by omega, by omega⟩ ?_
          obtain ⟨_, e_27, ln_27, fa_27, pl_27, rfl, i_27_0, g_27⟩ := hW.1 197 _ rfl
          refine p_get e_27 rfl ?_
          obtain ⟨_, e_28, rfl⟩ := hW.1 202 _ rfl
          refine p_aald e_28 rfl ⟨by omega, by omega⟩ ?_
          obtain ⟨_, e_29, l0o_29, rfl, g_29⟩ := hW.1 34 _ rfl
          refine p_callO (C := CL_197) (F := F64) (U := U64) (a := 34) (As := [q2 230]) (rest := []) hW rfl e_29 (Nat.le_of_ble_eq_true rfl) (by first | exact Or.inl rfl | exact Or.inr rfl) (fun r79 F79 U79 w hW hr79 => ?_)
          obtain ⟨rfl, p79, s79, q79, c79⟩ := hr79
          cases q79
          obtain ⟨_, e_30, ln_30, fa_30, pl_30, rfl, i_30_0, g_30⟩ := hW.1 1 _ rfl
          refine p_get e_30 rfl ?_
          obtain ⟨_, e_31, rfl⟩ := hW.1 7 _ rfl
          refine p_aald e_31 rfl ⟨by omega, by omega⟩ ?_
          obtain ⟨_, e_32, ln_32, fa_32, pl_32, rfl, i_32_0, g_32⟩ := hW.1 197 _ rfl
          refine p_get e_32 rfl ?_
          obtain ⟨_, e_33, rfl⟩ := hW.1 203 _ rfl
          refine p_aald e_33 rfl ⟨by omega, by omega⟩ ?_
          obtain ⟨_, e_34, s0c_34, rfl, i_34_0, g_34⟩ := hW.1 38 _ rfl
          refine p_callO (C := CL_197) (F := F79) (U := U79) (a := 38) (As := [q2 234]) (rest := []) hW rfl e_34 (Nat.le_of_ble_eq_true rfl) (by first | exact Or.inl rfl | exact Or.inr rfl) (fun r94 F94 U94 w hW hr94 => ?_)
          obtain ⟨rfl, p94, s94, q94, c94⟩ := hr94
          cases q94
          intro z97 h97
          replace h97 := e_add h97 (by omega)
          exact ⟨_, ⟨_, F94, U94, rfl, rfl, hW, (by first | exact CpT_s (k := 0) hC rfl (by decide) (by omega) (by omega) c49 c64 c79 c94 | exact CpT_s (k := 1) hC rfl (by decide) (by omega) (by omega) c49 c64 c79 c94), rfl, by omega⟩, by omega⟩
        · obtain ⟨_, e_16, rfl⟩ := hW.1 4 _ rfl
          refine p_aald e_16 rfl ⟨by omega, by omega⟩ ?_
          obtain ⟨_, e_35, ln_35, fa_35, pl_35, rfl, i_35_0, g_35⟩ := hW.1 197 _ rfl
          refine p_get e_35 rfl ?_
          obtain ⟨_, e_36, rfl⟩ := hW.1 200 _ rfl
          refine p_aald e_36 rfl ⟨by omega, by omega⟩ ?_
          obtain ⟨_, e_37, b1u0_37, b1u1_37, b1u2_37, b1u3_37, b1u4_37, rfl, i_37_0, g_37⟩ := hW.1 16 _ rfl
          refine p_callO (C := CL_197) (F := F1) (U := U1) (a := 16) (As := [q2 212]) (rest := []) hW rfl e_37 (Nat.le_of_ble_eq_true rfl) (by first | exact Or.inl rfl | exact Or.inr rfl) (fun r49 F49 U49 w hW hr49 => ?_)
          obtain ⟨rfl, p49, s49, q49, c49⟩ := hr49
          cases q49
          obtain ⟨_, e_38, ln_38, fa_38, pl_38, rfl, i_38_0, g_38⟩ := hW.1 1 _ rfl
          refine p_get e_38 rfl ?_
          obtain ⟨_, e_39, rfl⟩ := hW.1 5 _ rfl
          refine p_aald e_39 rfl ⟨by omega, by omega⟩ ?_
          obtain ⟨_, e_40, ln_40, fa_40, pl_40, rfl, i_40_0, g_40⟩ := hW.1 197 _ rfl
          refine p_get e_40 rfl ?_
          obtain ⟨_, e_41, rfl⟩ := hW.1 201 _ rfl
          refine p_aald e_41 rfl ⟨by omega, by omega⟩ ?_
          obtain ⟨_, e_42, y1d_42, rfl, i_42_0, g_42⟩ := hW.1 29 _ rfl
          refine p_callO (C := CL_197) (F := F49) (U := U49) (a := 29) (As := [q2 225]) (rest := []) hW rfl e_42 (Nat.le_of_ble_eq_true rfl) (by first | exact Or.inl rfl | exact Or.inr rfl) (fun r64 F64 U64 w hW hr64 => ?_)
          obtain ⟨rfl, p64, s64, q64, c64⟩ := hr64
          cases q64
          obtain ⟨_, e_43, ln_43, fa_43, pl_43, rfl, i_43_0, g_43⟩ := hW.1 1 _ rfl
          refine p_get e_43 rfl ?_
          obtain ⟨_, e_44, rfl⟩ := hW.1 6 _ rfl
          refine p_aald e_44 rfl ⟨by omega, by omega⟩ ?_
          obtain ⟨_, e_45, ln_45, fa_45, pl_45, rfl, i_45_0, g_45⟩ := hW.1 197 _ rfl
          refine p_get e_45 rfl ?_
          obtain ⟨_, e_46, rfl⟩ := hW.1 202 _ rfl
          refine p_aald e_46 rfl ⟨by omega, by omega⟩ ?_
          obtain ⟨_, e_47, l1o_47, rfl, g_47⟩ := hW.1 36 _ rfl
          refine p_callO (C := CL_197) (F := F64) (U := U64) (a := 36) (As := [q2 232]) (rest := []) hW rfl e_47 (Nat.le_of_ble_eq_true rfl) (by first | exact Or.inl rfl | exact Or.inr rfl) (fun r79 F79 U79 w hW hr79 => ?_)
          obtain ⟨rfl, p79, s79, q79, c79⟩ := hr79
          cases q79
          obtain ⟨_, e_48, ln_48, fa_48, pl_48, rfl, i_48_0, g_48⟩ := hW.1 1 _ rfl
          refine p_get e_48 rfl ?_
          obtain ⟨_, e_49, rfl⟩ := hW.1 7 _ rfl
          refine p_aald e_49 rfl ⟨by omega, by omega⟩ ?_
          obtain ⟨_, e_50, ln_50, fa_50, pl_50, rfl, i_50_0, g_50⟩ := hW.1 197 _ rfl
          refine p_get e_50 rfl ?_
          obtain ⟨_, e_51, rfl⟩ := hW.1 203 _ rfl
          refine p_aald e_51 rfl ⟨by omega, by omega⟩ ?_
          obtain ⟨_, e_52, s1c_52, rfl, i_52_0, g_52⟩ := hW.1 41 _ rfl
          refine p_callO (C := CL_197) (F := F79) (U := U79) (a := 41) (As := [q2 237]) (rest := []) hW rfl e_52 (Nat.le_of_ble_eq_true rfl) (by first | exact Or.inl rfl | exact Or.inr rfl) (fun r94 F94 U94 w hW hr94 => ?_)
          obtain ⟨rfl, p94, s94, q94, c94⟩ := hr94
          cases q94
          intro z97 h97
          replace h97 := e_add h97 (by omega)
          exact ⟨_, ⟨_, F94, U94, rfl, rfl, hW, (by first | exact CpT_s (k := 0) hC rfl (by decide) (by omega) (by omega) c49 c64 c79 c94 | exact CpT_s (k := 1) hC rfl (by decide) (by omega) (by omega) c49 c64 c79 c94), rfl, by omega⟩, by omega⟩
    simp only [IC_copy_197t, h32, if_false] at hI
  rintro lv st w' ⟨rfl, rfl, rfl⟩
  have hW := WSo_0 (out := out_197) hPW
  obtain ⟨_, e_1, ln_1, fa_1, pl_1, rfl, i_1_0, g_1⟩ := hW.1 197 _ rfl
  refine p_get e_1 rfl ?_
  obtain ⟨_, e_2, ln_2, fa_2, pl_2, rfl, i_2_0, g_2⟩ := hW.1 1 _ rfl
  refine p_get e_2 rfl ?_
  obtain ⟨_, e_3s, tp_3s, rfl, g_3s⟩ := hW.1 198 _ rfl
  obtain ⟨_, e_4d, tp_4d, rfl, g_4d⟩ := hW.1 2 _ rfl
  refine p_copyO (C' := CL_197 (fu F 2 (va_cpy tp_3s tp_4d 0 0 600)) U) hW e_3s e_4d rfl ⟨by omega, by omega, by omega, by omega, by omega⟩ (by unfold out_197; omega) (fun i hi => CL_197_ne (fu_c hi rfl) rfl) rfl (show PX_Ttp ((fu F 2 (va_cpy tp_3s tp_4d 0 0 600)) 2) _ from ⟨_, rfl, rfl⟩) (fun w hW => ?_)
  obtain ⟨_, e_5, ln_5, fa_5, pl_5, rfl, i_5_0, g_5⟩ := hW.1 197 _ rfl
  refine p_get e_5 rfl ?_
  obtain ⟨_, e_6, ln_6, fa_6, pl_6, rfl, i_6_0, g_6⟩ := hW.1 1 _ rfl
  refine p_get e_6 rfl ?_
  obtain ⟨_, e_7s, ct_7s, rfl, i_7s_0, g_7s⟩ := hW.1 199 _ rfl
  obtain ⟨_, e_8d, ct_8d, rfl, i_8d_0, g_8d⟩ := hW.1 3 _ rfl
  refine p_copyO (C' := CL_197 (fu (fu F 2 (va_cpy tp_3s tp_4d 0 0 600)) 3 (va_cpy ct_7s ct_8d 0 0 4)) U) hW e_7s e_8d rfl ⟨by omega, by omega, by omega, by omega, by omega⟩ (by unfold out_197; omega) (fun i hi => CL_197_ne (fu_c hi rfl) rfl) rfl (show PX_Tct ((fu (fu F 2 (va_cpy tp_3s tp_4d 0 0 600)) 3 (va_cpy ct_7s ct_8d 0 0 4)) 3) _ from ⟨_, rfl, (by first | assumption | omega | exact q_rg_up (by assumption) (by omega) | exact q_rg_cpy (by assumption) (by assumption)), rfl⟩) (fun w hW => ?_)
  exact ⟨_, _, _, _, rfl, rfl, hW, CpT_0 g_3s g_7s, rfl, by omega⟩
