theorem dX12_draw_0 : decode cX12_draw 0 = .ok (.aload_n 0, 1) := by decide +kernel
theorem dX12_draw_1 : decode cX12_draw 1 = .ok (.aload_n 0, 1) := by decide +kernel
theorem dX12_draw_2 : decode cX12_draw 2 = .ok (.getfield 493, 3) := by decide +kernel
theorem dX12_draw_5 : decode cX12_draw 5 = .ok (.ldc_w 496, 3) := by decide +kernel
theorem dX12_draw_8 : decode cX12_draw 8 = .ok (.imul, 1) := by decide +kernel
theorem dX12_draw_9 : decode cX12_draw 9 = .ok (.sipush 12345, 3) := by decide +kernel
theorem dX12_draw_12 : decode cX12_draw 12 = .ok (.iadd, 1) := by decide +kernel
theorem dX12_draw_13 : decode cX12_draw 13 = .ok (.putfield 493, 3) := by decide +kernel
theorem dX12_draw_16 : decode cX12_draw 16 = .ok (.aload_n 0, 1) := by decide +kernel
theorem dX12_draw_17 : decode cX12_draw 17 = .ok (.getfield 493, 3) := by decide +kernel
theorem dX12_draw_20 : decode cX12_draw 20 = .ok (.bipush 16, 2) := by decide +kernel
theorem dX12_draw_22 : decode cX12_draw 22 = .ok (.iushr, 1) := by decide +kernel
theorem dX12_draw_23 : decode cX12_draw 23 = .ok (.iload_n 1, 1) := by decide +kernel
theorem dX12_draw_24 : decode cX12_draw 24 = .ok (.irem, 1) := by decide +kernel
theorem dX12_draw_25 : decode cX12_draw 25 = .ok (.ireturn, 1) := by decide +kernel
def is_X12_draw : Nat → List Nat := fun d => []
set_option maxRecDepth 100000 in
def b_X12_draw_0 (J : Nat → List qV → List qV → qW → Prop) (Q : qR) : qK := x_aload 0 (x_aload 0 (x_get 12 41 (x_int 1103515245 (x_imul (x_int 12345 (x_iadd (x_put 12 41 q_oki (x_nw (x_aload 0 (x_get 12 41 (x_int 16 (x_iushr (x_iload 1 (x_irem (x_iret Q)))))))))))))))
set_option maxRecDepth 100000 in
theorem s_X12_draw_0 {p : Program} {l : Launch} {e : Env} {R : Room} {s : State} {m : MethodId} {args : Array Value} {below : List Frame} {meth : Method} {c : Code} {nW : Nat} {dC : Nat → ClassId} {dI : Nat → Nat → Nat} {k : Nat → ClassId} {g : Nat → Nat} {A : Nat → Prop} {J : Nat → List qV → List qV → qW → Prop} {Q : qR} (X : q_X p R s m args meth c cX12_draw 2 nW 0 0 RX12 (some .int) dC dI k g A) (hJ : ∀ d : Nat, q_Sd p l e R s m args below meth c 2 nW dC dI k g A (MQ below (q_post (dC, dI) k g nW Q A) args s 0 0 A) d (x_cut (is_X12_draw d) (J d))) : q_Sd p l e R s m args below meth c 2 nW dC dI k g A (MQ below (q_post (dC, dI) k g nW Q A) args s 0 0 A) 0 (b_X12_draw_0 J Q) := by
  unfold b_X12_draw_0
  refine s_aload_n X rfl dX12_draw_0 ?_
  refine s_aload_n X rfl dX12_draw_1 ?_
  refine s_get X (T := TX12) (C := RX12) (N := 45) tu_X12 rfl (by decide) tw_1038 dX12_draw_2 ?_
  refine s_ldcw X ⟨by decide, by decide⟩ tw_1424 dX12_draw_5 ?_
  refine s_imul X dX12_draw_8 ?_
  refine s_sipush X ⟨by decide, by decide⟩ (by decide) dX12_draw_9 ?_
  refine s_iadd X dX12_draw_12 ?_
  refine s_put X (T := TX12) (C := RX12) (N := 45) tu_X12 tyX12_ok nmX12 rfl (by decide) tw_1038 rfl (by decide +kernel) q_oki_t dX12_draw_13 ?_
  refine s_nw ?_
  refine s_aload_n X rfl dX12_draw_16 ?_
  refine s_get X (T := TX12) (C := RX12) (N := 45) tu_X12 rfl (by decide) tw_1038 dX12_draw_17 ?_
  refine s_bipush X ⟨by decide, by decide⟩ (by decide) dX12_draw_20 ?_
  refine s_iushr X dX12_draw_22 ?_
  refine s_iload_n X rfl dX12_draw_23 ?_
  refine s_irem X dX12_draw_24 ?_
  exact s_iret X dX12_draw_25

def sp_X12_draw : qS := fun av w Q => ∃ (mco : Int) (mre : Int) (mle : Int) (mbe : Int) (mso : Int) (mva : Int) (mwo : Int) (mwr : Int) (mlf : Int) (mlp : Int) (mfp : Int) (mfd : Int) (mgo : Int) (mbo : Int) (mpe : Int) (mye : Int) (mpr : Int) (mld : Int) (msi : Int) (mse : Int) (a : Int), av = [q2 0, q1 a] ∧ w = [.inr (12, [q1 mco, q2 1, q2 2, q2 3, q2 4, q2 5, q2 6, q2 7, q2 8, q2 9, q1 mre, q1 mle, q1 mbe, q1 mso, q1 mva, q3 mwo, q1 mwr, q1 mlf, q1 mlp, q2 10, q2 11, q1 mfp, q1 mfd, q1 mgo, q1 mbo, q1 mpe, q1 mye, q2 12, q1 mpr, q2 13, q2 14, q2 15, q2 16, q1 mld, q2 17, q1 msi, q2 18, q2 19, q2 20, q2 21, q2 22, q1 mse, q2 23, q2 24, q2 25])] ∧ (1 ≤ a) ∧ (∀ (r : Int) (x_mse : Int), (0 ≤ r ∧ r < a) → Q (some (q1 r)) ([.inr (12, [q1 mco, q2 1, q2 2, q2 3, q2 4, q2 5, q2 6, q2 7, q2 8, q2 9, q1 mre, q1 mle, q1 mbe, q1 mso, q1 mva, q3 mwo, q1 mwr, q1 mlf, q1 mlp, q2 10, q2 11, q1 mfp, q1 mfd, q1 mgo, q1 mbo, q1 mpe, q1 mye, q2 12, q1 mpr, q2 13, q2 14, q2 15, q2 16, q1 mld, q2 17, q1 msi, q2 18, q2 19, q2 20, q2 21, q2 22, q1 x_mse, q2 23, q2 24, q2 25])]))
set_option maxHeartbeats 4000000 in
set_option maxRecDepth 100000 in
theorem m_X12_draw (l : Launch) : q_M l yX12_draw cX12_draw 2 (some .int) 0 0 sp_X12_draw := by
  refine q_meth (by decide) (fun av w Q h => by obtain ⟨mco, mre, mle, mbe, mso, mva, mwo, mwr, mlf, mlp, mfp, mfd, mgo, mbo, mpe, mye, mpr, mld, msi, mse, a, rfl, rfl, ha, hQ⟩ := h; exact Nat.le_of_ble_eq_true rfl) ?_
  intro p e R s m args below meth c dC dI k g A av w Q hsp oka okw X
  obtain ⟨mco, mre, mle, mbe, mso, mva, mwo, mwr, mlf, mlp, mfp, mfd, mgo, mbo, mpe, mye, mpr, mld, msi, mse, a, rfl, rfl, ha, hQ⟩ := hsp
  have o_a : -2147483648 ≤ a ∧ a ≤ 2147483647 := oka _ (List.mem_of_getElem? (i := 1) rfl)
  refine s_mono (s_X12_draw_0 X (J := fun _ _ _ _ => False) (fun d => s_cutF)) ?_
  rintro lv st w' ⟨rfl, rfl, rfl⟩
  intro z8 h8
  first | replace h8 := e_mul h8 (by omega) | replace h8 := e_rng h8
  intro z12 h12
  first | replace h12 := e_add h12 (by omega) | replace h12 := e_rng h12
  apply And.intro
  · exact trivial
  intro z22 h22
  first | replace h22 := e_us16 h22 | replace h22 := e_rng h22
  apply And.intro
  · first | omega | (intro e9; omega)
  intro z24 h24
  first | replace h24 := e_rem h24 (by omega) (by omega) | replace h24 := e_rng h24
  exact hQ _ _ (by first | omega | assumption | exact q_rg_up (by assumption) (by omega) | exact q_rg_up (q_rg_up (by assumption) (by omega)) (by omega) | exact q_rg_cpy (by assumption) (by assumption))

theorem dX12_drawDeed_0 : decode cX12_drawDeed 0 = .ok (.aload_n 0, 1) := by decide +kernel
theorem dX12_drawDeed_1 : decode cX12_drawDeed 1 = .ok (.aload_n 0, 1) := by decide +kernel
theorem dX12_drawDeed_2 : decode cX12_drawDeed 2 = .ok (.getfield 303, 3) := by decide +kernel
theorem dX12_drawDeed_5 : decode cX12_drawDeed 5 = .ok (.invokevirtual 497, 3) := by decide +kernel
theorem dX12_drawDeed_8 : decode cX12_drawDeed 8 = .ok (.istore_n 1, 1) := by decide +kernel
theorem dX12_drawDeed_9 : decode cX12_drawDeed 9 = .ok (.aload_n 0, 1) := by decide +kernel
theorem dX12_drawDeed_10 : decode cX12_drawDeed 10 = .ok (.bipush 8, 2) := by decide +kernel
theorem dX12_drawDeed_12 : decode cX12_drawDeed 12 = .ok (.invokevirtual 497, 3) := by decide +kernel
theorem dX12_drawDeed_15 : decode cX12_drawDeed 15 = .ok (.istore_n 2, 1) := by decide +kernel
theorem dX12_drawDeed_16 : decode cX12_drawDeed 16 = .ok (.iload_n 2, 1) := by decide +kernel
theorem dX12_drawDeed_17 : decode cX12_drawDeed 17 = .ok (.iconst 4, 1) := by decide +kernel
theorem dX12_drawDeed_18 : decode cX12_drawDeed 18 = .ok (.if_icmp .ge 20, 3) := by decide +kernel
theorem dX12_drawDeed_21 : decode cX12_drawDeed 21 = .ok (.aload_n 0, 1) := by decide +kernel
theorem dX12_drawDeed_22 : decode cX12_drawDeed 22 = .ok (.iload_n 1, 1) := by decide +kernel
theorem dX12_drawDeed_23 : decode cX12_drawDeed 23 = .ok (.aload_n 0, 1) := by decide +kernel
theorem dX12_drawDeed_24 : decode cX12_drawDeed 24 = .ok (.bipush 21, 2) := by decide +kernel
theorem dX12_drawDeed_26 : decode cX12_drawDeed 26 = .ok (.iload_n 2, 1) := by decide +kernel
theorem dX12_drawDeed_27 : decode cX12_drawDeed 27 = .ok (.iadd, 1) := by decide +kernel
theorem dX12_drawDeed_28 : decode cX12_drawDeed 28 = .ok (.invokevirtual 299, 3) := by decide +kernel
theorem dX12_drawDeed_31 : decode cX12_drawDeed 31 = .ok (.invokevirtual 330, 3) := by decide +kernel
theorem dX12_drawDeed_34 : decode cX12_drawDeed 34 = .ok (.pop, 1) := by decide +kernel
theorem dX12_drawDeed_35 : decode cX12_drawDeed 35 = .ok (.goto 94, 3) := by decide +kernel
theorem dX12_drawDeed_38 : decode cX12_drawDeed 38 = .ok (.iload_n 2, 1) := by decide +kernel
theorem dX12_drawDeed_39 : decode cX12_drawDeed 39 = .ok (.iconst 4, 1) := by decide +kernel
theorem dX12_drawDeed_40 : decode cX12_drawDeed 40 = .ok (.if_icmp .ne 24, 3) := by decide +kernel
theorem dX12_drawDeed_43 : decode cX12_drawDeed 43 = .ok (.aload_n 0, 1) := by decide +kernel
theorem dX12_drawDeed_44 : decode cX12_drawDeed 44 = .ok (.iload_n 1, 1) := by decide +kernel
theorem dX12_drawDeed_45 : decode cX12_drawDeed 45 = .ok (.aload_n 0, 1) := by decide +kernel
theorem dX12_drawDeed_46 : decode cX12_drawDeed 46 = .ok (.bipush 21, 2) := by decide +kernel
theorem dX12_drawDeed_48 : decode cX12_drawDeed 48 = .ok (.aload_n 0, 1) := by decide +kernel
theorem dX12_drawDeed_49 : decode cX12_drawDeed 49 = .ok (.iconst 4, 1) := by decide +kernel
theorem dX12_drawDeed_50 : decode cX12_drawDeed 50 = .ok (.invokevirtual 497, 3) := by decide +kernel
theorem dX12_drawDeed_53 : decode cX12_drawDeed 53 = .ok (.iadd, 1) := by decide +kernel
theorem dX12_drawDeed_54 : decode cX12_drawDeed 54 = .ok (.invokevirtual 299, 3) := by decide +kernel
theorem dX12_drawDeed_57 : decode cX12_drawDeed 57 = .ok (.invokevirtual 333, 3) := by decide +kernel
theorem dX12_drawDeed_60 : decode cX12_drawDeed 60 = .ok (.pop, 1) := by decide +kernel
theorem dX12_drawDeed_61 : decode cX12_drawDeed 61 = .ok (.goto 68, 3) := by decide +kernel
theorem dX12_drawDeed_64 : decode cX12_drawDeed 64 = .ok (.iload_n 2, 1) := by decide +kernel
theorem dX12_drawDeed_65 : decode cX12_drawDeed 65 = .ok (.iconst 5, 1) := by decide +kernel
theorem dX12_drawDeed_66 : decode cX12_drawDeed 66 = .ok (.if_icmp .ne 19, 3) := by decide +kernel
theorem dX12_drawDeed_69 : decode cX12_drawDeed 69 = .ok (.aload_n 0, 1) := by decide +kernel
theorem dX12_drawDeed_70 : decode cX12_drawDeed 70 = .ok (.iload_n 1, 1) := by decide +kernel
theorem dX12_drawDeed_71 : decode cX12_drawDeed 71 = .ok (.iconst 1, 1) := by decide +kernel
theorem dX12_drawDeed_72 : decode cX12_drawDeed 72 = .ok (.aload_n 0, 1) := by decide +kernel
theorem dX12_drawDeed_73 : decode cX12_drawDeed 73 = .ok (.iconst 5, 1) := by decide +kernel
theorem dX12_drawDeed_74 : decode cX12_drawDeed 74 = .ok (.invokevirtual 497, 3) := by decide +kernel
theorem dX12_drawDeed_77 : decode cX12_drawDeed 77 = .ok (.iadd, 1) := by decide +kernel
theorem dX12_drawDeed_78 : decode cX12_drawDeed 78 = .ok (.invokevirtual 336, 3) := by decide +kernel
theorem dX12_drawDeed_81 : decode cX12_drawDeed 81 = .ok (.pop, 1) := by decide +kernel
theorem dX12_drawDeed_82 : decode cX12_drawDeed 82 = .ok (.goto 47, 3) := by decide +kernel
theorem dX12_drawDeed_85 : decode cX12_drawDeed 85 = .ok (.iload_n 2, 1) := by decide +kernel
theorem dX12_drawDeed_86 : decode cX12_drawDeed 86 = .ok (.bipush 6, 2) := by decide +kernel
theorem dX12_drawDeed_88 : decode cX12_drawDeed 88 = .ok (.if_icmp .ne 18, 3) := by decide +kernel
theorem dX12_drawDeed_91 : decode cX12_drawDeed 91 = .ok (.aload_n 0, 1) := by decide +kernel
theorem dX12_drawDeed_92 : decode cX12_drawDeed 92 = .ok (.iload_n 1, 1) := by decide +kernel
theorem dX12_drawDeed_93 : decode cX12_drawDeed 93 = .ok (.iconst 1, 1) := by decide +kernel
theorem dX12_drawDeed_94 : decode cX12_drawDeed 94 = .ok (.aload_n 0, 1) := by decide +kernel
theorem dX12_drawDeed_95 : decode cX12_drawDeed 95 = .ok (.iconst 5, 1) := by decide +kernel
theorem dX12_drawDeed_96 : decode cX12_drawDeed 96 = .ok (.invokevirtual 497, 3) := by decide +kernel
theorem dX12_drawDeed_99 : decode cX12_drawDeed 99 = .ok (.iadd, 1) := by decide +kernel
theorem dX12_drawDeed_100 : decode cX12_drawDeed 100 = .ok (.invokevirtual 339, 3) := by decide +kernel
theorem dX12_drawDeed_103 : decode cX12_drawDeed 103 = .ok (.goto 26, 3) := by decide +kernel
theorem dX12_drawDeed_106 : decode cX12_drawDeed 106 = .ok (.aload_n 0, 1) := by decide +kernel
theorem dX12_drawDeed_107 : decode cX12_drawDeed 107 = .ok (.aload_n 0, 1) := by decide +kernel
theorem dX12_drawDeed_108 : decode cX12_drawDeed 108 = .ok (.getfield 303, 3) := by decide +kernel
theorem dX12_drawDeed_111 : decode cX12_drawDeed 111 = .ok (.invokevirtual 497, 3) := by decide +kernel
theorem dX12_drawDeed_114 : decode cX12_drawDeed 114 = .ok (.istore_n 3, 1) := by decide +kernel
theorem dX12_drawDeed_115 : decode cX12_drawDeed 115 = .ok (.aload_n 0, 1) := by decide +kernel
theorem dX12_drawDeed_116 : decode cX12_drawDeed 116 = .ok (.iload_n 1, 1) := by decide +kernel
theorem dX12_drawDeed_117 : decode cX12_drawDeed 117 = .ok (.iload_n 3, 1) := by decide +kernel
theorem dX12_drawDeed_118 : decode cX12_drawDeed 118 = .ok (.iconst 1, 1) := by decide +kernel
theorem dX12_drawDeed_119 : decode cX12_drawDeed 119 = .ok (.aload_n 0, 1) := by decide +kernel
theorem dX12_drawDeed_120 : decode cX12_drawDeed 120 = .ok (.iconst 5, 1) := by decide +kernel
theorem dX12_drawDeed_121 : decode cX12_drawDeed 121 = .ok (.invokevirtual 497, 3) := by decide +kernel
theorem dX12_drawDeed_124 : decode cX12_drawDeed 124 = .ok (.iadd, 1) := by decide +kernel
theorem dX12_drawDeed_125 : decode cX12_drawDeed 125 = .ok (.invokevirtual 342, 3) := by decide +kernel
theorem dX12_drawDeed_128 : decode cX12_drawDeed 128 = .ok (.pop, 1) := by decide +kernel
theorem dX12_drawDeed_129 : decode cX12_drawDeed 129 = .ok (.return_, 1) := by decide +kernel
def is_X12_drawDeed : Nat → List Nat := fun d => []
set_option maxRecDepth 100000 in
def b_X12_drawDeed_129 (J : Nat → List qV → List qV → qW → Prop) (Q : qR) : qK := x_vret Q
set_option maxRecDepth 100000 in
theorem s_X12_drawDeed_129 {p : Program} {l : Launch} {e : Env} {R : Room} {s : State} {m : MethodId} {args : Array Value} {below : List Frame} {meth : Method} {c : Code} {nW : Nat} {dC : Nat → ClassId} {dI : Nat → Nat → Nat} {k : Nat → ClassId} {g : Nat → Nat} {A : Nat → Prop} {J : Nat → List qV → List qV → qW → Prop} {Q : qR} (X : q_X p R s m args meth c cX12_drawDeed 4 nW 3 66 RX12 none dC dI k g A) (hJ : ∀ d : Nat, q_Sd p l e R s m args below meth c 4 nW dC dI k g A (MQ below (q_post (dC, dI) k g nW Q A) args s 0 0 A) d (x_cut (is_X12_drawDeed d) (J d))) : q_Sd p l e R s m args below meth c 4 nW dC dI k g A (MQ below (q_post (dC, dI) k g nW Q A) args s 0 0 A) 129 (b_X12_drawDeed_129 J Q) := by
  unfold b_X12_drawDeed_129
  exact s_vret X dX12_drawDeed_129
set_option maxRecDepth 100000 in
def b_X12_drawDeed_120 (J : Nat → List qV → List qV → qW → Prop) (Q : qR) : qK := x_int 5 (x_call (some 12) 2 sp_X12_draw (x_nw (x_iadd (x_call (some 12) 4 sp_X12_gifts (x_nw (x_pop (b_X12_drawDeed_129 J Q)))))))
set_option maxRecDepth 100000 in
theorem s_X12_drawDeed_120 {p : Program} {l : Launch} {e : Env} {R : Room} {s : State} {m : MethodId} {args : Array Value} {below : List Frame} {meth : Method} {c : Code} {nW : Nat} {dC : Nat → ClassId} {dI : Nat → Nat → Nat} {k : Nat → ClassId} {g : Nat → Nat} {A : Nat → Prop} {J : Nat → List qV → List qV → qW → Prop} {Q : qR} (X : q_X p R s m args meth c cX12_drawDeed 4 nW 3 66 RX12 none dC dI k g A) (hJ : ∀ d : Nat, q_Sd p l e R s m args below meth c 4 nW dC dI k g A (MQ below (q_post (dC, dI) k g nW Q A) args s 0 0 A) d (x_cut (is_X12_drawDeed d) (J d))) : q_Sd p l e R s m args below meth c 4 nW dC dI k g A (MQ below (q_post (dC, dI) k g nW Q A) args s 0 0 A) 120 (b_X12_drawDeed_120 J Q) := by
  unfold b_X12_drawDeed_120
  refine s_iconst X ⟨by decide, by decide⟩ dX12_drawDeed_120 ?_
  refine s_callV X (m_X12_draw l) tw_1421 tw_1422 tw_1562 tw_134 tw_1423 rfl (by decide +kernel) ⟨by decide, by decide⟩ dX12_drawDeed_121 ?_
  refine s_nw ?_
  refine s_iadd X dX12_drawDeed_124 ?_
  refine s_callV X (m_X12_gifts l) tw_1242 tw_1243 tw_1580 tw_134 tw_1244 rfl (by decide +kernel) ⟨by decide, by decide⟩ dX12_drawDeed_125 ?_
  refine s_nw ?_
  refine s_pop X dX12_drawDeed_128 ?_
  exact s_X12_drawDeed_129 X hJ
set_option maxRecDepth 100000 in
def b_X12_drawDeed_81 (J : Nat → List qV → List qV → qW → Prop) (Q : qR) : qK := x_pop (b_X12_drawDeed_129 J Q)
set_option maxRecDepth 100000 in
theorem s_X12_drawDeed_81 {p : Program} {l : Launch} {e : Env} {R : Room} {s : State} {m : MethodId} {args : Array Value} {below : List Frame} {meth : Method} {c : Code} {nW : Nat} {dC : Nat → ClassId} {dI : Nat → Nat → Nat} {k : Nat → ClassId} {g : Nat → Nat} {A : Nat → Prop} {J : Nat → List qV → List qV → qW → Prop} {Q : qR} (X : q_X p R s m args meth c cX12_drawDeed 4 nW 3 66 RX12 none dC dI k g A) (hJ : ∀ d : Nat, q_Sd p l e R s m args below meth c 4 nW dC dI k g A (MQ below (q_post (dC, dI) k g nW Q A) args s 0 0 A) d (x_cut (is_X12_drawDeed d) (J d))) : q_Sd p l e R s m args below meth c 4 nW dC dI k g A (MQ below (q_post (dC, dI) k g nW Q A) args s 0 0 A) 81 (b_X12_drawDeed_81 J Q) := by
  unfold b_X12_drawDeed_81
  refine s_pop X dX12_drawDeed_81 ?_
  refine s_goto X (tgt := 129) dX12_drawDeed_82 (by decide) ?_
  exact s_X12_drawDeed_129 X hJ
set_option maxRecDepth 100000 in
def b_X12_drawDeed_40 (J : Nat → List qV → List qV → qW → Prop) (Q : qR) : qK := x_icmp_ne (x_iload 2 (x_int 5 (x_icmp_ne (x_iload 2 (x_int 6 (x_icmp_ne (x_aload 0 (x_aload 0 (x_get 12 25 (x_call (some 12) 2 sp_X12_draw (x_nw (x_istore 3 (x_aload 0 (x_iload 1 (x_iload 3 (x_int 1 (x_aload 0 (b_X12_drawDeed_120 J Q)))))))))))) (x_aload 0 (x_iload 1 (x_int 1 (x_aload 0 (x_int 5 (x_call (some 12) 2 sp_X12_draw (x_nw (x_iadd (x_call (some 12) 3 sp_X12_stretches (x_nw (b_X12_drawDeed_129 J Q)))))))))))))) (x_aload 0 (x_iload 1 (x_int 1 (x_aload 0 (x_int 5 (x_call (some 12) 2 sp_X12_draw (x_nw (x_iadd (x_call (some 12) 3 sp_X12_gives (x_nw (b_X12_drawDeed_81 J Q)))))))))))))) (x_aload 0 (x_iload 1 (x_aload 0 (x_int 21 (x_aload 0 (x_int 4 (x_call (some 12) 2 sp_X12_draw (x_nw (x_iadd (x_callr (some 12) 2 spr_X12_of (x_call (some 12) 3 sp_X12_bails (x_nw (x_pop (b_X12_drawDeed_129 J Q))))))))))))))
set_option maxRecDepth 100000 in
theorem s_X12_drawDeed_40 {p : Program} {l : Launch} {e : Env} {R : Room} {s : State} {m : MethodId} {args : Array Value} {below : List Frame} {meth : Method} {c : Code} {nW : Nat} {dC : Nat → ClassId} {dI : Nat → Nat → Nat} {k : Nat → ClassId} {g : Nat → Nat} {A : Nat → Prop} {J : Nat → List qV → List qV → qW → Prop} {Q : qR} (X : q_X p R s m args meth c cX12_drawDeed 4 nW 3 66 RX12 none dC dI k g A) (hJ : ∀ d : Nat, q_Sd p l e R s m args below meth c 4 nW dC dI k g A (MQ below (q_post (dC, dI) k g nW Q A) args s 0 0 A) d (x_cut (is_X12_drawDeed d) (J d))) : q_Sd p l e R s m args below meth c 4 nW dC dI k g A (MQ below (q_post (dC, dI) k g nW Q A) args s 0 0 A) 40 (b_X12_drawDeed_40 J Q) := by
  unfold b_X12_drawDeed_40
  refine s_icmp_ne X (tgt := 64) dX12_drawDeed_40 (by decide) ?_ ?_
  · refine s_iload_n X rfl dX12_drawDeed_64 ?_
    refine s_iconst X ⟨by decide, by decide⟩ dX12_drawDeed_65 ?_
    refine s_icmp_ne X (tgt := 85) dX12_drawDeed_66 (by decide) ?_ ?_
    · refine s_iload_n X rfl dX12_drawDeed_85 ?_
      refine s_bipush X ⟨by decide, by decide⟩ (by decide) dX12_drawDeed_86 ?_
      refine s_icmp_ne X (tgt := 106) dX12_drawDeed_88 (by decide) ?_ ?_
      · refine s_aload_n X rfl dX12_drawDeed_106 ?_
        refine s_aload_n X rfl dX12_drawDeed_107 ?_
        refine s_get X (T := TX12) (C := RX12) (N := 45) tu_X12 rfl (by decide) tw_1022 dX12_drawDeed_108 ?_
        refine s_callV X (m_X12_draw l) tw_1421 tw_1422 tw_1562 tw_134 tw_1423 rfl (by decide +kernel) ⟨by decide, by decide⟩ dX12_drawDeed_111 ?_
        refine s_nw ?_
        refine s_istore_n X rfl (by decide) dX12_drawDeed_114 ?_
        refine s_aload_n X rfl dX12_drawDeed_115 ?_
        refine s_iload_n X rfl dX12_drawDeed_116 ?_
        refine s_iload_n X rfl dX12_drawDeed_117 ?_
        refine s_iconst X ⟨by decide, by decide⟩ dX12_drawDeed_118 ?_
        refine s_aload_n X rfl dX12_drawDeed_119 ?_
        exact s_X12_drawDeed_120 X hJ
      · refine s_aload_n X rfl dX12_drawDeed_91 ?_
        refine s_iload_n X rfl dX12_drawDeed_92 ?_
        refine s_iconst X ⟨by decide, by decide⟩ dX12_drawDeed_93 ?_
        refine s_aload_n X rfl dX12_drawDeed_94 ?_
        refine s_iconst X ⟨by decide, by decide⟩ dX12_drawDeed_95 ?_
        refine s_callV X (m_X12_draw l) tw_1421 tw_1422 tw_1562 tw_134 tw_1423 rfl (by decide +kernel) ⟨by decide, by decide⟩ dX12_drawDeed_96 ?_
        refine s_nw ?_
        refine s_iadd X dX12_drawDeed_99 ?_
        refine s_callV X (m_X12_stretches l) tw_1236 tw_1237 tw_1619 tw_134 tw_1238 rfl (by decide +kernel) ⟨by decide, by decide⟩ dX12_drawDeed_100 ?_
        refine s_nw ?_
        refine s_goto X (tgt := 129) dX12_drawDeed_103 (by decide) ?_
        exact s_X12_drawDeed_129 X hJ
    · refine s_aload_n X rfl dX12_drawDeed_69 ?_
      refine s_iload_n X rfl dX12_drawDeed_70 ?_
      refine s_iconst X ⟨by decide, by decide⟩ dX12_drawDeed_71 ?_
      refine s_aload_n X rfl dX12_drawDeed_72 ?_
      refine s_iconst X ⟨by decide, by decide⟩ dX12_drawDeed_73 ?_
      refine s_callV X (m_X12_draw l) tw_1421 tw_1422 tw_1562 tw_134 tw_1423 rfl (by decide +kernel) ⟨by decide, by decide⟩ dX12_drawDeed_74 ?_
      refine s_nw ?_
      refine s_iadd X dX12_drawDeed_77 ?_
      refine s_callV X (m_X12_gives l) tw_1230 tw_1231 tw_1581 tw_134 tw_1232 rfl (by decide +kernel) ⟨by decide, by decide⟩ dX12_drawDeed_78 ?_
      refine s_nw ?_
      exact s_X12_drawDeed_81 X hJ
  · refine s_aload_n X rfl dX12_drawDeed_43 ?_
    refine s_iload_n X rfl dX12_drawDeed_44 ?_
    refine s_aload_n X rfl dX12_drawDeed_45 ?_
    refine s_bipush X ⟨by decide, by decide⟩ (by decide) dX12_drawDeed_46 ?_
    refine s_aload_n X rfl dX12_drawDeed_48 ?_
    refine s_iconst X ⟨by decide, by decide⟩ dX12_drawDeed_49 ?_
    refine s_callV X (m_X12_draw l) tw_1421 tw_1422 tw_1562 tw_134 tw_1423 rfl (by decide +kernel) ⟨by decide, by decide⟩ dX12_drawDeed_50 ?_
    refine s_nw ?_
    refine s_iadd X dX12_drawDeed_53 ?_
    refine s_callVr X (m_X12_of l) tw_1189 tw_1190 tw_1603 tw_134 tw_1191 rfl (by decide +kernel) ⟨by decide, by decide⟩ dX12_drawDeed_54 ?_
    refine s_callV X (m_X12_bails l) tw_1227 tw_1228 tw_1548 tw_134 tw_1229 rfl (by decide +kernel) ⟨by decide, by decide⟩ dX12_drawDeed_57 ?_
    refine s_nw ?_
    refine s_pop X dX12_drawDeed_60 ?_
    refine s_goto X (tgt := 129) dX12_drawDeed_61 (by decide) ?_
    exact s_X12_drawDeed_129 X hJ
set_option maxRecDepth 100000 in
def b_X12_drawDeed_0 (J : Nat → List qV → List qV → qW → Prop) (Q : qR) : qK := x_aload 0 (x_aload 0 (x_get 12 25 (x_call (some 12) 2 sp_X12_draw (x_nw (x_istore 1 (x_aload 0 (x_int 8 (x_call (some 12) 2 sp_X12_draw (x_nw (x_istore 2 (x_iload 2 (x_int 4 (x_icmp_ge (x_iload 2 (x_int 4 (b_X12_drawDeed_40 J Q))) (x_aload 0 (x_iload 1 (x_aload 0 (x_int 21 (x_iload 2 (x_iadd (x_callr (some 12) 2 spr_X12_of (x_call (some 12) 3 sp_X12_fines (x_nw (x_pop (b_X12_drawDeed_129 J Q))))))))))))))))))))))))
set_option maxRecDepth 100000 in
theorem s_X12_drawDeed_0 {p : Program} {l : Launch} {e : Env} {R : Room} {s : State} {m : MethodId} {args : Array Value} {below : List Frame} {meth : Method} {c : Code} {nW : Nat} {dC : Nat → ClassId} {dI : Nat → Nat → Nat} {k : Nat → ClassId} {g : Nat → Nat} {A : Nat → Prop} {J : Nat → List qV → List qV → qW → Prop} {Q : qR} (X : q_X p R s m args meth c cX12_drawDeed 4 nW 3 66 RX12 none dC dI k g A) (hJ : ∀ d : Nat, q_Sd p l e R s m args below meth c 4 nW dC dI k g A (MQ below (q_post (dC, dI) k g nW Q A) args s 0 0 A) d (x_cut (is_X12_drawDeed d) (J d))) : q_Sd p l e R s m args below meth c 4 nW dC dI k g A (MQ below (q_post (dC, dI) k g nW Q A) args s 0 0 A) 0 (b_X12_drawDeed_0 J Q) := by
  unfold b_X12_drawDeed_0
  refine s_aload_n X rfl dX12_drawDeed_0 ?_
  refine s_aload_n X rfl dX12_drawDeed_1 ?_
  refine s_get X (T := TX12) (C := RX12) (N := 45) tu_X12 rfl (by decide) tw_1022 dX12_drawDeed_2 ?_
  refine s_callV X (m_X12_draw l) tw_1421 tw_1422 tw_1562 tw_134 tw_1423 rfl (by decide +kernel) ⟨by decide, by decide⟩ dX12_drawDeed_5 ?_
  refine s_nw ?_
  refine s_istore_n X rfl (by decide) dX12_drawDeed_8 ?_
  refine s_aload_n X rfl dX12_drawDeed_9 ?_
  refine s_bipush X ⟨by decide, by decide⟩ (by decide) dX12_drawDeed_10 ?_
  refine s_callV X (m_X12_draw l) tw_1421 tw_1422 tw_1562 tw_134 tw_1423 rfl (by decide +kernel) ⟨by decide, by decide⟩ dX12_drawDeed_12 ?_
  refine s_nw ?_
  refine s_istore_n X rfl (by decide) dX12_drawDeed_15 ?_
  refine s_iload_n X rfl dX12_drawDeed_16 ?_
  refine s_iconst X ⟨by decide, by decide⟩ dX12_drawDeed_17 ?_
  refine s_icmp_ge X (tgt := 38) dX12_drawDeed_18 (by decide) ?_ ?_
  · refine s_iload_n X rfl dX12_drawDeed_38 ?_
    refine s_iconst X ⟨by decide, by decide⟩ dX12_drawDeed_39 ?_
    exact s_X12_drawDeed_40 X hJ
  · refine s_aload_n X rfl dX12_drawDeed_21 ?_
    refine s_iload_n X rfl dX12_drawDeed_22 ?_
    refine s_aload_n X rfl dX12_drawDeed_23 ?_
    refine s_bipush X ⟨by decide, by decide⟩ (by decide) dX12_drawDeed_24 ?_
    refine s_iload_n X rfl dX12_drawDeed_26 ?_
    refine s_iadd X dX12_drawDeed_27 ?_
    refine s_callVr X (m_X12_of l) tw_1189 tw_1190 tw_1603 tw_134 tw_1191 rfl (by decide +kernel) ⟨by decide, by decide⟩ dX12_drawDeed_28 ?_
    refine s_callV X (m_X12_fines l) tw_1224 tw_1225 tw_1576 tw_134 tw_1226 rfl (by decide +kernel) ⟨by decide, by decide⟩ dX12_drawDeed_31 ?_
    refine s_nw ?_
    refine s_pop X dX12_drawDeed_34 ?_
    refine s_goto X (tgt := 129) dX12_drawDeed_35 (by decide) ?_
    exact s_X12_drawDeed_129 X hJ

def sp_X12_drawDeed : qS := fun av w Q => ∃ (mco : Int) (mre : Int) (mle : Int) (mbe : Int) (mso : Int) (mva : Int) (mwo : Int) (mwr : Int) (mlf : Int) (mlp : Int) (mfp : Int) (mfd : Int) (mgo : Int) (mbo : Int) (mpe : Int) (mye : Int) (mpr : Int) (mld : Int) (msi : Int) (mse : Int) (tl : Nat → Int) (bs : Nat → Int), av = [q2 0] ∧ w = [.inr (12, [q1 mco, q2 3, q2 4, q2 5, q2 6, q2 7, q2 2, q2 8, q2 9, q2 10, q1 mre, q1 mle, q1 mbe, q1 mso, q1 mva, q3 mwo, q1 mwr, q1 mlf, q1 mlp, q2 11, q2 12, q1 mfp, q1 mfd, q1 mgo, q1 mbo, q1 mpe, q1 mye, q2 1, q1 mpr, q2 13, q2 14, q2 15, q2 16, q1 mld, q2 17, q1 msi, q2 18, q2 19, q2 20, q2 21, q2 22, q1 mse, q2 23, q2 24, q2 25]), .inl (0, 8, .inl tl), .inl (0, 600, .inl bs)] ∧ (0 ≤ mbo ∧ mbo ≤ 1) ∧ (0 ≤ mpe ∧ mpe ≤ 8) ∧ (BI bs) ∧ (1 ≤ mpe) ∧ (∀ (x_mse : Int) (x_tl : Nat → Int) (x_mpr : Int), Q none ([.inr (12, [q1 mco, q2 3, q2 4, q2 5, q2 6, q2 7, q2 2, q2 8, q2 9, q2 10, q1 mre, q1 mle, q1 mbe, q1 mso, q1 mva, q3 mwo, q1 mwr, q1 mlf, q1 mlp, q2 11, q2 12, q1 mfp, q1 mfd, q1 mgo, q1 mbo, q1 mpe, q1 mye, q2 1, q1 x_mpr, q2 13, q2 14, q2 15, q2 16, q1 mld, q2 17, q1 msi, q2 18, q2 19, q2 20, q2 21, q2 22, q1 x_mse, q2 23, q2 24, q2 25]), .inl (0, 8, .inl x_tl), .inl (0, 600, .inl bs)]))
set_option maxHeartbeats 4000000 in
set_option maxRecDepth 100000 in
theorem m_X12_drawDeed (l : Launch) : q_M l yX12_drawDeed cX12_drawDeed 4 none 3 66 sp_X12_drawDeed := by
  refine q_meth (by decide) (fun av w Q h => by obtain ⟨mco, mre, mle, mbe, mso, mva, mwo, mwr, mlf, mlp, mfp, mfd, mgo, mbo, mpe, mye, mpr, mld, msi, mse, tl, bs, rfl, rfl, hbo, hpe, hbi, hp1, hQ⟩ := h; exact Nat.le_of_ble_eq_true rfl) ?_
  intro p e R s m args below meth c dC dI k g A av w Q hsp oka okw X
  obtain ⟨mco, mre, mle, mbe, mso, mva, mwo, mwr, mlf, mlp, mfp, mfd, mgo, mbo, mpe, mye, mpr, mld, msi, mse, tl, bs, rfl, rfl, hbo, hpe, hbi, hp1, hQ⟩ := hsp
  refine s_mono (s_X12_drawDeed_0 X (J := fun _ _ _ _ => False) (fun d => s_cutF)) ?_
  rintro lv st w' ⟨rfl, rfl, rfl⟩
  refine Exists.intro [0, 3, 4, 5, 6, 7, 2, 8, 9, 10, 11, 12, 1, 13, 14, 15, 16, 17, 18, 19, 20, 21, 22, 23, 24, 25] (Exists.intro [q2 0, q1 _] (Exists.intro ([.inr (12, [q1 _, q2 1, q2 2, q2 3, q2 4, q2 5, q2 6, q2 7, q2 8, q2 9, q1 _, q1 _, q1 _, q1 _, q1 _, q3 _, q1 _, q1 _, q1 _, q2 10, q2 11, q1 _, q1 _, q1 _, q1 _, q1 _, q1 _, q2 12, q1 _, q2 13, q2 14, q2 15, q2 16, q1 _, q2 17, q1 _, q2 18, q2 19, q2 20, q2 21, q2 22, q1 _, q2 23, q2 24, q2 25])]) (And.intro rfl (And.intro rfl (And.intro rfl (And.intro ⟨⟨_, rfl⟩, rfl⟩ ?_))))))
  refine Exists.intro _ (Exists.intro _ (Exists.intro _ (Exists.intro _ (Exists.intro _ (Exists.intro _ (Exists.intro _ (Exists.intro _ (Exists.intro _ (Exists.intro _ (Exists.intro _ (Exists.intro _ (Exists.intro _ (Exists.intro _ (Exists.intro _ (Exists.intro _ (Exists.intro _ (Exists.intro _ (Exists.intro _ (Exists.intro _ (Exists.intro _ (And.intro rfl (And.intro rfl (And.intro (by first | omega | assumption | exact q_rg_up (by assumption) (by omega) | exact q_rg_up (q_rg_up (by assumption) (by omega)) (by omega) | exact q_rg_cpy (by assumption) (by assumption)) (?_))))))))))))))))))))))))
  intro z5 x_mse_5 h5
  refine Exists.intro [0, 3, 4, 5, 6, 7, 2, 8, 9, 10, 11, 12, 1, 13, 14, 15, 16, 17, 18, 19, 20, 21, 22, 23, 24, 25] (Exists.intro [q2 0, q1 _] (Exists.intro ([.inr (12, [q1 _, q2 1, q2 2, q2 3, q2 4, q2 5, q2 6, q2 7, q2 8, q2 9, q1 _, q1 _, q1 _, q1 _, q1 _, q3 _, q1 _, q1 _, q1 _, q2 10, q2 11, q1 _, q1 _, q1 _, q1 _, q1 _, q1 _, q2 12, q1 _, q2 13, q2 14, q2 15, q2 16, q1 _, q2 17, q1 _, q2 18, q2 19, q2 20, q2 21, q2 22, q1 _, q2 23, q2 24, q2 25])]) (And.intro rfl (And.intro rfl (And.intro rfl (And.intro ⟨⟨_, rfl⟩, rfl⟩ ?_))))))
  refine Exists.intro _ (Exists.intro _ (Exists.intro _ (Exists.intro _ (Exists.intro _ (Exists.intro _ (Exists.intro _ (Exists.intro _ (Exists.intro _ (Exists.intro _ (Exists.intro _ (Exists.intro _ (Exists.intro _ (Exists.intro _ (Exists.intro _ (Exists.intro _ (Exists.intro _ (Exists.intro _ (Exists.intro _ (Exists.intro _ (Exists.intro _ (And.intro rfl (And.intro rfl (And.intro (by first | omega | assumption | exact q_rg_up (by assumption) (by omega) | exact q_rg_up (q_rg_up (by assumption) (by omega)) (by omega) | exact q_rg_cpy (by assumption) (by assumption)) (?_))))))))))))))))))))))))
  intro z12 x_mse_12 h12
  apply And.intro
  · intro h18
    apply And.intro
    · intro h40
      apply And.intro
      · intro h66
        apply And.intro
        · intro h88
          refine Exists.intro [0, 3, 4, 5, 6, 7, 2, 8, 9, 10, 11, 12, 1, 13, 14, 15, 16, 17, 18, 19, 20, 21, 22, 23, 24, 25] (Exists.intro [q2 0, q1 _] (Exists.intro ([.inr (12, [q1 _, q2 1, q2 2, q2 3, q2 4, q2 5, q2 6, q2 7, q2 8, q2 9, q1 _, q1 _, q1 _, q1 _, q1 _, q3 _, q1 _, q1 _, q1 _, q2 10, q2 11, q1 _, q1 _, q1 _, q1 _, q1 _, q1 _, q2 12, q1 _, q2 13, q2 14, q2 15, q2 16, q1 _, q2 17, q1 _, q2 18, q2 19, q2 20, q2 21, q2 22, q1 _, q2 23, q2 24, q2 25])]) (And.intro rfl (And.intro rfl (And.intro rfl (And.intro ⟨⟨_, rfl⟩, rfl⟩ ?_))))))
          refine Exists.intro _ (Exists.intro _ (Exists.intro _ (Exists.intro _ (Exists.intro _ (Exists.intro _ (Exists.intro _ (Exists.intro _ (Exists.intro _ (Exists.intro _ (Exists.intro _ (Exists.intro _ (Exists.intro _ (Exists.intro _ (Exists.intro _ (Exists.intro _ (Exists.intro _ (Exists.intro _ (Exists.intro _ (Exists.intro _ (Exists.intro _ (And.intro rfl (And.intro rfl (And.intro (by first | omega | assumption | exact q_rg_up (by assumption) (by omega) | exact q_rg_up (q_rg_up (by assumption) (by omega)) (by omega) | exact q_rg_cpy (by assumption) (by assumption)) (?_))))))))))))))))))))))))
          intro z111 x_mse_111 h111
          refine Exists.intro [0, 3, 4, 5, 6, 7, 2, 8, 9, 10, 11, 12, 1, 13, 14, 15, 16, 17, 18, 19, 20, 21, 22, 23, 24, 25] (Exists.intro [q2 0, q1 _] (Exists.intro ([.inr (12, [q1 _, q2 1, q2 2, q2 3, q2 4, q2 5, q2 6, q2 7, q2 8, q2 9, q1 _, q1 _, q1 _, q1 _, q1 _, q3 _, q1 _, q1 _, q1 _, q2 10, q2 11, q1 _, q1 _, q1 _, q1 _, q1 _, q1 _, q2 12, q1 _, q2 13, q2 14, q2 15, q2 16, q1 _, q2 17, q1 _, q2 18, q2 19, q2 20, q2 21, q2 22, q1 _, q2 23, q2 24, q2 25])]) (And.intro rfl (And.intro rfl (And.intro rfl (And.intro ⟨⟨_, rfl⟩, rfl⟩ ?_))))))
          refine Exists.intro _ (Exists.intro _ (Exists.intro _ (Exists.intro _ (Exists.intro _ (Exists.intro _ (Exists.intro _ (Exists.intro _ (Exists.intro _ (Exists.intro _ (Exists.intro _ (Exists.intro _ (Exists.intro _ (Exists.intro _ (Exists.intro _ (Exists.intro _ (Exists.intro _ (Exists.intro _ (Exists.intro _ (Exists.intro _ (Exists.intro _ (And.intro rfl (And.intro rfl (And.intro (by first | omega | assumption | exact q_rg_up (by assumption) (by omega) | exact q_rg_up (q_rg_up (by assumption) (by omega)) (by omega) | exact q_rg_cpy (by assumption) (by assumption)) (?_))))))))))))))))))))))))
          intro z121 x_mse_121 h121
          intro z124 h124
          first | replace h124 := e_add h124 (by omega) | replace h124 := e_rng h124
          refine Exists.intro [0, 1, 3, 4, 5, 6, 7, 2, 8, 9, 10, 11, 12, 13, 14, 15, 16, 17, 18, 19, 20, 21, 22, 23, 24, 25] (Exists.intro [q2 0, q1 _, q1 _, q1 _] (Exists.intro ([.inr (12, [q1 _, q2 2, q2 3, q2 4, q2 5, q2 6, q2 7, q2 8, q2 9, q2 10, q1 _, q1 _, q1 _, q1 _, q1 _, q3 _, q1 _, q1 _, q1 _, q2 11, q2 12, q1 _, q1 _, q1 _, q1 _, q1 _, q1 _, q2 1, q1 _, q2 13, q2 14, q2 15, q2 16, q1 _, q2 17, q1 _, q2 18, q2 19, q2 20, q2 21, q2 22, q1 _, q2 23, q2 24, q2 25]), .inl (0, 8, .inl _)]) (And.intro rfl (And.intro rfl (And.intro rfl (And.intro ⟨⟨_, rfl⟩, rfl⟩ ?_))))))
          refine Exists.intro _ (Exists.intro _ (Exists.intro _ (Exists.intro _ (Exists.intro _ (Exists.intro _ (Exists.intro _ (Exists.intro _ (Exists.intro _ (Exists.intro _ (Exists.intro _ (Exists.intro _ (Exists.intro _ (Exists.intro _ (Exists.intro _ (Exists.intro _ (Exists.intro _ (Exists.intro _ (Exists.intro _ (Exists.intro _ (Exists.intro _ (Exists.intro _ (Exists.intro _ (Exists.intro _ (And.intro rfl (And.intro rfl (And.intro (by first | omega | assumption | exact q_rg_up (by assumption) (by omega) | exact q_rg_up (q_rg_up (by assumption) (by omega)) (by omega) | exact q_rg_cpy (by assumption) (by assumption)) (And.intro (by first | omega | assumption | exact q_rg_up (by assumption) (by omega) | exact q_rg_up (q_rg_up (by assumption) (by omega)) (by omega) | exact q_rg_cpy (by assumption) (by assumption)) (?_))))))))))))))))))))))))))))
          intro z125 x_tl_125 h125
          exact hQ _ _ _
        · intro h88
          refine Exists.intro [0, 3, 4, 5, 6, 7, 2, 8, 9, 10, 11, 12, 1, 13, 14, 15, 16, 17, 18, 19, 20, 21, 22, 23, 24, 25] (Exists.intro [q2 0, q1 _] (Exists.intro ([.inr (12, [q1 _, q2 1, q2 2, q2 3, q2 4, q2 5, q2 6, q2 7, q2 8, q2 9, q1 _, q1 _, q1 _, q1 _, q1 _, q3 _, q1 _, q1 _, q1 _, q2 10, q2 11, q1 _, q1 _, q1 _, q1 _, q1 _, q1 _, q2 12, q1 _, q2 13, q2 14, q2 15, q2 16, q1 _, q2 17, q1 _, q2 18, q2 19, q2 20, q2 21, q2 22, q1 _, q2 23, q2 24, q2 25])]) (And.intro rfl (And.intro rfl (And.intro rfl (And.intro ⟨⟨_, rfl⟩, rfl⟩ ?_))))))
          refine Exists.intro _ (Exists.intro _ (Exists.intro _ (Exists.intro _ (Exists.intro _ (Exists.intro _ (Exists.intro _ (Exists.intro _ (Exists.intro _ (Exists.intro _ (Exists.intro _ (Exists.intro _ (Exists.intro _ (Exists.intro _ (Exists.intro _ (Exists.intro _ (Exists.intro _ (Exists.intro _ (Exists.intro _ (Exists.intro _ (Exists.intro _ (And.intro rfl (And.intro rfl (And.intro (by first | omega | assumption | exact q_rg_up (by assumption) (by omega) | exact q_rg_up (q_rg_up (by assumption) (by omega)) (by omega) | exact q_rg_cpy (by assumption) (by assumption)) (?_))))))))))))))))))))))))
          intro z96 x_mse_96 h96
          intro z99 h99
          first | replace h99 := e_add h99 (by omega) | replace h99 := e_rng h99
          refine Exists.intro [0, 1, 2, 3, 4, 5, 6, 7, 8, 9, 10, 11, 12, 13, 14, 15, 16, 17, 18, 19, 20, 21, 22, 23, 24, 25] (Exists.intro [q2 0, q1 _, q1 _] (Exists.intro ([.inr (12, [q1 _, q2 3, q2 4, q2 5, q2 6, q2 7, q2 2, q2 8, q2 9, q2 10, q1 _, q1 _, q1 _, q1 _, q1 _, q3 _, q1 _, q1 _, q1 _, q2 11, q2 12, q1 _, q1 _, q1 _, q1 _, q1 _, q1 _, q2 1, q1 _, q2 13, q2 14, q2 15, q2 16, q1 _, q2 17, q1 _, q2 18, q2 19, q2 20, q2 21, q2 22, q1 _, q2 23, q2 24, q2 25]), .inl (0, 8, .inl _), .inl (0, 600, .inl _)]) (And.intro rfl (And.intro rfl (And.intro rfl (And.intro ⟨⟨_, rfl⟩, rfl⟩ ?_))))))
          refine Exists.intro _ (Exists.intro _ (Exists.intro _ (Exists.intro _ (Exists.intro _ (Exists.intro _ (Exists.intro _ (Exists.intro _ (Exists.intro _ (Exists.intro _ (Exists.intro _ (Exists.intro _ (Exists.intro _ (Exists.intro _ (Exists.intro _ (Exists.intro _ (Exists.intro _ (Exists.intro _ (Exists.intro _ (Exists.intro _ (Exists.intro _ (Exists.intro _ (Exists.intro _ (Exists.intro _ (And.intro rfl (And.intro rfl (And.intro (by first | omega | assumption | exact q_rg_up (by assumption) (by omega) | exact q_rg_up (q_rg_up (by assumption) (by omega)) (by omega) | exact q_rg_cpy (by assumption) (by assumption)) (And.intro (by first | omega | assumption | exact q_rg_up (by assumption) (by omega) | exact q_rg_up (q_rg_up (by assumption) (by omega)) (by omega) | exact q_rg_cpy (by assumption) (by assumption)) (And.intro (by first | omega | assumption | exact q_rg_up (by assumption) (by omega) | exact q_rg_up (q_rg_up (by assumption) (by omega)) (by omega) | exact q_rg_cpy (by assumption) (by assumption)) (?_)))))))))))))))))))))))))))))
          intro x_tl_100
          exact hQ _ _ _
      · intro h66
        refine Exists.intro [0, 3, 4, 5, 6, 7, 2, 8, 9, 10, 11, 12, 1, 13, 14, 15, 16, 17, 18, 19, 20, 21, 22, 23, 24, 25] (Exists.intro [q2 0, q1 _] (Exists.intro ([.inr (12, [q1 _, q2 1, q2 2, q2 3, q2 4, q2 5, q2 6, q2 7, q2 8, q2 9, q1 _, q1 _, q1 _, q1 _, q1 _, q3 _, q1 _, q1 _, q1 _, q2 10, q2 11, q1 _, q1 _, q1 _, q1 _, q1 _, q1 _, q2 12, q1 _, q2 13, q2 14, q2 15, q2 16, q1 _, q2 17, q1 _, q2 18, q2 19, q2 20, q2 21, q2 22, q1 _, q2 23, q2 24, q2 25])]) (And.intro rfl (And.intro rfl (And.intro rfl (And.intro ⟨⟨_, rfl⟩, rfl⟩ ?_))))))
        refine Exists.intro _ (Exists.intro _ (Exists.intro _ (Exists.intro _ (Exists.intro _ (Exists.intro _ (Exists.intro _ (Exists.intro _ (Exists.intro _ (Exists.intro _ (Exists.intro _ (Exists.intro _ (Exists.intro _ (Exists.intro _ (Exists.intro _ (Exists.intro _ (Exists.intro _ (Exists.intro _ (Exists.intro _ (Exists.intro _ (Exists.intro _ (And.intro rfl (And.intro rfl (And.intro (by first | omega | assumption | exact q_rg_up (by assumption) (by omega) | exact q_rg_up (q_rg_up (by assumption) (by omega)) (by omega) | exact q_rg_cpy (by assumption) (by assumption)) (?_))))))))))))))))))))))))
        intro z74 x_mse_74 h74
        intro z77 h77
        first | replace h77 := e_add h77 (by omega) | replace h77 := e_rng h77
        refine Exists.intro [0, 1, 2, 3, 4, 5, 6, 7, 8, 9, 10, 11, 12, 13, 14, 15, 16, 17, 18, 19, 20, 21, 22, 23, 24, 25] (Exists.intro [q2 0, q1 _, q1 _] (Exists.intro ([.inr (12, [q1 _, q2 3, q2 4, q2 5, q2 6, q2 7, q2 2, q2 8, q2 9, q2 10, q1 _, q1 _, q1 _, q1 _, q1 _, q3 _, q1 _, q1 _, q1 _, q2 11, q2 12, q1 _, q1 _, q1 _, q1 _, q1 _, q1 _, q2 1, q1 _, q2 13, q2 14, q2 15, q2 16, q1 _, q2 17, q1 _, q2 18, q2 19, q2 20, q2 21, q2 22, q1 _, q2 23, q2 24, q2 25]), .inl (0, 8, .inl _), .inl (0, 600, .inl _)]) (And.intro rfl (And.intro rfl (And.intro rfl (And.intro ⟨⟨_, rfl⟩, rfl⟩ ?_))))))
        refine Exists.intro _ (Exists.intro _ (Exists.intro _ (Exists.intro _ (Exists.intro _ (Exists.intro _ (Exists.intro _ (Exists.intro _ (Exists.intro _ (Exists.intro _ (Exists.intro _ (Exists.intro _ (Exists.intro _ (Exists.intro _ (Exists.intro _ (Exists.intro _ (Exists.intro _ (Exists.intro _ (Exists.intro _ (Exists.intro _ (Exists.intro _ (Exists.intro _ (Exists.intro _ (Exists.intro _ (And.intro rfl (And.intro rfl (And.intro (by first | omega | assumption | exact q_rg_up (by assumption) (by omega) | exact q_rg_up (q_rg_up (by assumption) (by omega)) (by omega) | exact q_rg_cpy (by assumption) (by assumption)) (And.intro (by first | omega | assumption | exact q_rg_up (by assumption) (by omega) | exact q_rg_up (q_rg_up (by assumption) (by omega)) (by omega) | exact q_rg_cpy (by assumption) (by assumption)) (And.intro (by first | omega | assumption | exact q_rg_up (by assumption) (by omega) | exact q_rg_up (q_rg_up (by assumption) (by omega)) (by omega) | exact q_rg_cpy (by assumption) (by assumption)) (?_)))))))))))))))))))))))))))))
        intro z78 x_tl_78 x_mpr_78 h78
        exact hQ _ _ _
    · intro h40
      refine Exists.intro [0, 3, 4, 5, 6, 7, 2, 8, 9, 10, 11, 12, 1, 13, 14, 15, 16, 17, 18, 19, 20, 21, 22, 23, 24, 25] (Exists.intro [q2 0, q1 _] (Exists.intro ([.inr (12, [q1 _, q2 1, q2 2, q2 3, q2 4, q2 5, q2 6, q2 7, q2 8, q2 9, q1 _, q1 _, q1 _, q1 _, q1 _, q3 _, q1 _, q1 _, q1 _, q2 10, q2 11, q1 _, q1 _, q1 _, q1 _, q1 _, q1 _, q2 12, q1 _, q2 13, q2 14, q2 15, q2 16, q1 _, q2 17, q1 _, q2 18, q2 19, q2 20, q2 21, q2 22, q1 _, q2 23, q2 24, q2 25])]) (And.intro rfl (And.intro rfl (And.intro rfl (And.intro ⟨⟨_, rfl⟩, rfl⟩ ?_))))))
      refine Exists.intro _ (Exists.intro _ (Exists.intro _ (Exists.intro _ (Exists.intro _ (Exists.intro _ (Exists.intro _ (Exists.intro _ (Exists.intro _ (Exists.intro _ (Exists.intro _ (Exists.intro _ (Exists.intro _ (Exists.intro _ (Exists.intro _ (Exists.intro _ (Exists.intro _ (Exists.intro _ (Exists.intro _ (Exists.intro _ (Exists.intro _ (And.intro rfl (And.intro rfl (And.intro (by first | omega | assumption | exact q_rg_up (by assumption) (by omega) | exact q_rg_up (q_rg_up (by assumption) (by omega)) (by omega) | exact q_rg_cpy (by assumption) (by assumption)) (?_))))))))))))))))))))))))
      intro z50 x_mse_50 h50
      intro z53 h53
      first | replace h53 := e_add h53 (by omega) | replace h53 := e_rng h53
      refine Exists.intro [0, 2, 3, 4, 5, 6, 7, 8, 9, 10, 11, 12, 1, 13, 14, 15, 16, 17, 18, 19, 20, 21, 22, 23, 24, 25] (Exists.intro [q2 0, q1 _] (Exists.intro ([.inr (12, [q1 _, q2 2, q2 3, q2 4, q2 5, q2 6, q2 1, q2 7, q2 8, q2 9, q1 _, q1 _, q1 _, q1 _, q1 _, q3 _, q1 _, q1 _, q1 _, q2 10, q2 11, q1 _, q1 _, q1 _, q1 _, q1 _, q1 _, q2 12, q1 _, q2 13, q2 14, q2 15, q2 16, q1 _, q2 17, q1 _, q2 18, q2 19, q2 20, q2 21, q2 22, q1 _, q2 23, q2 24, q2 25]), .inl (0, 600, .inl _)]) (And.intro rfl (And.intro rfl (And.intro rfl (And.intro ⟨⟨_, rfl⟩, rfl⟩ ?_))))))
      refine Exists.intro _ (Exists.intro _ (Exists.intro _ (Exists.intro _ (Exists.intro _ (Exists.intro _ (Exists.intro _ (Exists.intro _ (Exists.intro _ (Exists.intro _ (Exists.intro _ (Exists.intro _ (Exists.intro _ (Exists.intro _ (Exists.intro _ (Exists.intro _ (Exists.intro _ (Exists.intro _ (Exists.intro _ (Exists.intro _ (Exists.intro _ (Exists.intro _ (And.intro rfl (And.intro rfl (And.intro (by first | omega | assumption | exact q_rg_up (by assumption) (by omega) | exact q_rg_up (q_rg_up (by assumption) (by omega)) (by omega) | exact q_rg_cpy (by assumption) (by assumption)) (And.intro (by first | omega | assumption | exact q_rg_up (by assumption) (by omega) | exact q_rg_up (q_rg_up (by assumption) (by omega)) (by omega) | exact q_rg_cpy (by assumption) (by assumption)) (And.intro (by first | omega | assumption | exact q_rg_up (by assumption) (by omega) | exact q_rg_up (q_rg_up (by assumption) (by omega)) (by omega) | exact q_rg_cpy (by assumption) (by assumption)) (?_)))))))))))))))))))))))))))
      intro z54 h54
      obtain ⟨h54, k54⟩ := h54
      first | replace k54 := OFQ_13 k54 (by omega) | replace k54 := OFQ_21 k54 (by omega) | clear k54
      refine Exists.intro [0, 1, 2, 3, 4, 5, 6, 7, 8, 9, 10, 11, 12, 13, 14, 15, 16, 17, 18, 19, 20, 21, 22, 23, 24, 25] (Exists.intro [q2 0, q1 _, q1 _] (Exists.intro ([.inr (12, [q1 _, q2 3, q2 4, q2 5, q2 6, q2 7, q2 2, q2 8, q2 9, q2 10, q1 _, q1 _, q1 _, q1 _, q1 _, q3 _, q1 _, q1 _, q1 _, q2 11, q2 12, q1 _, q1 _, q1 _, q1 _, q1 _, q1 _, q2 1, q1 _, q2 13, q2 14, q2 15, q2 16, q1 _, q2 17, q1 _, q2 18, q2 19, q2 20, q2 21, q2 22, q1 _, q2 23, q2 24, q2 25]), .inl (0, 8, .inl _), .inl (0, 600, .inl _)]) (And.intro rfl (And.intro rfl (And.intro rfl (And.intro ⟨⟨_, rfl⟩, rfl⟩ ?_))))))
      refine Exists.intro _ (Exists.intro _ (Exists.intro _ (Exists.intro _ (Exists.intro _ (Exists.intro _ (Exists.intro _ (Exists.intro _ (Exists.intro _ (Exists.intro _ (Exists.intro _ (Exists.intro _ (Exists.intro _ (Exists.intro _ (Exists.intro _ (Exists.intro _ (Exists.intro _ (Exists.intro _ (Exists.intro _ (Exists.intro _ (Exists.intro _ (Exists.intro _ (Exists.intro _ (Exists.intro _ (And.intro rfl (And.intro rfl (And.intro (by first | omega | assumption | exact q_rg_up (by assumption) (by omega) | exact q_rg_up (q_rg_up (by assumption) (by omega)) (by omega) | exact q_rg_cpy (by assumption) (by assumption)) (And.intro (by first | omega | assumption | exact q_rg_up (by assumption) (by omega) | exact q_rg_up (q_rg_up (by assumption) (by omega)) (by omega) | exact q_rg_cpy (by assumption) (by assumption)) (And.intro (by first | omega | assumption | exact q_rg_up (by assumption) (by omega) | exact q_rg_up (q_rg_up (by assumption) (by omega)) (by omega) | exact q_rg_cpy (by assumption) (by assumption)) (?_)))))))))))))))))))))))))))))
      intro z57 x_tl_57 x_mpr_57 h57
      exact hQ _ _ _
  · intro h18
    intro z27 h27
    first | replace h27 := e_add h27 (by omega) | replace h27 := e_rng h27
    refine Exists.intro [0, 2, 3, 4, 5, 6, 7, 8, 9, 10, 11, 12, 1, 13, 14, 15, 16, 17, 18, 19, 20, 21, 22, 23, 24, 25] (Exists.intro [q2 0, q1 _] (Exists.intro ([.inr (12, [q1 _, q2 2, q2 3, q2 4, q2 5, q2 6, q2 1, q2 7, q2 8, q2 9, q1 _, q1 _, q1 _, q1 _, q1 _, q3 _, q1 _, q1 _, q1 _, q2 10, q2 11, q1 _, q1 _, q1 _, q1 _, q1 _, q1 _, q2 12, q1 _, q2 13, q2 14, q2 15, q2 16, q1 _, q2 17, q1 _, q2 18, q2 19, q2 20, q2 21, q2 22, q1 _, q2 23, q2 24, q2 25]), .inl (0, 600, .inl _)]) (And.intro rfl (And.intro rfl (And.intro rfl (And.intro ⟨⟨_, rfl⟩, rfl⟩ ?_))))))
    refine Exists.intro _ (Exists.intro _ (Exists.intro _ (Exists.intro _ (Exists.intro _ (Exists.intro _ (Exists.intro _ (Exists.intro _ (Exists.intro _ (Exists.intro _ (Exists.intro _ (Exists.intro _ (Exists.intro _ (Exists.intro _ (Exists.intro _ (Exists.intro _ (Exists.intro _ (Exists.intro _ (Exists.intro _ (Exists.intro _ (Exists.intro _ (Exists.intro _ (And.intro rfl (And.intro rfl (And.intro (by first | omega | assumption | exact q_rg_up (by assumption) (by omega) | exact q_rg_up (q_rg_up (by assumption) (by omega)) (by omega) | exact q_rg_cpy (by assumption) (by assumption)) (And.intro (by first | omega | assumption | exact q_rg_up (by assumption) (by omega) | exact q_rg_up (q_rg_up (by assumption) (by omega)) (by omega) | exact q_rg_cpy (by assumption) (by assumption)) (And.intro (by first | omega | assumption | exact q_rg_up (by assumption) (by omega) | exact q_rg_up (q_rg_up (by assumption) (by omega)) (by omega) | exact q_rg_cpy (by assumption) (by assumption)) (?_)))))))))))))))))))))))))))
    intro z28 h28
    obtain ⟨h28, k28⟩ := h28
    first | replace k28 := OFQ_13 k28 (by omega) | replace k28 := OFQ_21 k28 (by omega) | clear k28
    refine Exists.intro [0, 1, 3, 4, 5, 6, 7, 2, 8, 9, 10, 11, 12, 13, 14, 15, 16, 17, 18, 19, 20, 21, 22, 23, 24, 25] (Exists.intro [q2 0, q1 _, q1 _] (Exists.intro ([.inr (12, [q1 _, q2 2, q2 3, q2 4, q2 5, q2 6, q2 7, q2 8, q2 9, q2 10, q1 _, q1 _, q1 _, q1 _, q1 _, q3 _, q1 _, q1 _, q1 _, q2 11, q2 12, q1 _, q1 _, q1 _, q1 _, q1 _, q1 _, q2 1, q1 _, q2 13, q2 14, q2 15, q2 16, q1 _, q2 17, q1 _, q2 18, q2 19, q2 20, q2 21, q2 22, q1 _, q2 23, q2 24, q2 25]), .inl (0, 8, .inl _)]) (And.intro rfl (And.intro rfl (And.intro rfl (And.intro ⟨⟨_, rfl⟩, rfl⟩ ?_))))))
    refine Exists.intro _ (Exists.intro _ (Exists.intro _ (Exists.intro _ (Exists.intro _ (Exists.intro _ (Exists.intro _ (Exists.intro _ (Exists.intro _ (Exists.intro _ (Exists.intro _ (Exists.intro _ (Exists.intro _ (Exists.intro _ (Exists.intro _ (Exists.intro _ (Exists.intro _ (Exists.intro _ (Exists.intro _ (Exists.intro _ (Exists.intro _ (Exists.intro _ (Exists.intro _ (And.intro rfl (And.intro rfl (And.intro (by first | omega | assumption | exact q_rg_up (by assumption) (by omega) | exact q_rg_up (q_rg_up (by assumption) (by omega)) (by omega) | exact q_rg_cpy (by assumption) (by assumption)) (?_))))))))))))))))))))))))))
    intro z31 x_tl_31 x_mpr_31 h31
    exact hQ _ _ _

theorem dX12_drawn_0 : decode cX12_drawn 0 = .ok (.aload_n 0, 1) := by decide +kernel
theorem dX12_drawn_1 : decode cX12_drawn 1 = .ok (.iconst 0, 1) := by decide +kernel
theorem dX12_drawn_2 : decode cX12_drawn 2 = .ok (.putfield 88, 3) := by decide +kernel
theorem dX12_drawn_5 : decode cX12_drawn 5 = .ok (.iload_n 3, 1) := by decide +kernel
theorem dX12_drawn_6 : decode cX12_drawn 6 = .ok (.iconst 0, 1) := by decide +kernel
theorem dX12_drawn_7 : decode cX12_drawn 7 = .ok (.bipush 60, 2) := by decide +kernel
theorem dX12_drawn_9 : decode cX12_drawn 9 = .ok (.invokestatic 100, 3) := by decide +kernel
theorem dX12_drawn_12 : decode cX12_drawn 12 = .ok (.ifCond .eq 18, 3) := by decide +kernel
theorem dX12_drawn_15 : decode cX12_drawn 15 = .ok (.aload_n 0, 1) := by decide +kernel
theorem dX12_drawn_16 : decode cX12_drawn 16 = .ok (.iload_n 1, 1) := by decide +kernel
theorem dX12_drawn_17 : decode cX12_drawn 17 = .ok (.invokevirtual 306, 3) := by decide +kernel
theorem dX12_drawn_20 : decode cX12_drawn 20 = .ok (.ifCond .eq 10, 3) := by decide +kernel
theorem dX12_drawn_23 : decode cX12_drawn 23 = .ok (.aload_n 0, 1) := by decide +kernel
theorem dX12_drawn_24 : decode cX12_drawn 24 = .ok (.getfield 303, 3) := by decide +kernel
theorem dX12_drawn_27 : decode cX12_drawn 27 = .ok (.ifCond .ne 6, 3) := by decide +kernel
theorem dX12_drawn_30 : decode cX12_drawn 30 = .ok (.bipush (-2), 2) := by decide +kernel
theorem dX12_drawn_32 : decode cX12_drawn 32 = .ok (.ireturn, 1) := by decide +kernel
theorem dX12_drawn_33 : decode cX12_drawn 33 = .ok (.aload_n 0, 1) := by decide +kernel
theorem dX12_drawn_34 : decode cX12_drawn 34 = .ok (.iload_n 2, 1) := by decide +kernel
theorem dX12_drawn_35 : decode cX12_drawn 35 = .ok (.putfield 493, 3) := by decide +kernel
theorem dX12_drawn_38 : decode cX12_drawn 38 = .ok (.aload_n 0, 1) := by decide +kernel
theorem dX12_drawn_39 : decode cX12_drawn 39 = .ok (.invokevirtual 345, 3) := by decide +kernel
theorem dX12_drawn_42 : decode cX12_drawn 42 = .ok (.iconst 0, 1) := by decide +kernel
theorem dX12_drawn_43 : decode cX12_drawn 43 = .ok (.istore 5, 2) := by decide +kernel
theorem dX12_drawn_45 : decode cX12_drawn 45 = .ok (.iload 5, 2) := by decide +kernel
theorem dX12_drawn_47 : decode cX12_drawn 47 = .ok (.iload_n 3, 1) := by decide +kernel
theorem dX12_drawn_48 : decode cX12_drawn 48 = .ok (.if_icmp .ge 13, 3) := by decide +kernel
theorem dX12_drawn_51 : decode cX12_drawn 51 = .ok (.aload_n 0, 1) := by decide +kernel
theorem dX12_drawn_52 : decode cX12_drawn 52 = .ok (.invokevirtual 500, 3) := by decide +kernel
theorem dX12_drawn_55 : decode cX12_drawn 55 = .ok (.iinc 5 1, 3) := by decide +kernel
theorem dX12_drawn_58 : decode cX12_drawn 58 = .ok (.goto (-13), 3) := by decide +kernel
theorem dX12_drawn_61 : decode cX12_drawn 61 = .ok (.aload_n 0, 1) := by decide +kernel
theorem dX12_drawn_62 : decode cX12_drawn 62 = .ok (.iload 4, 2) := by decide +kernel
theorem dX12_drawn_64 : decode cX12_drawn 64 = .ok (.invokevirtual 363, 3) := by decide +kernel
theorem dX12_drawn_67 : decode cX12_drawn 67 = .ok (.ireturn, 1) := by decide +kernel
def is_X12_drawn : Nat → List Nat := fun d => if d = 45 then [0, 3, 4, 5] else []
set_option maxRecDepth 100000 in
def b_X12_drawn_45 (J : Nat → List qV → List qV → qW → Prop) (Q : qR) : qK := x_iload 5 (x_iload 3 (x_icmp_ge (x_aload 0 (x_iload 4 (x_callr (some 12) 2 spr_X12_ofState (x_iret Q)))) (x_aload 0 (x_call (some 12) 1 sp_X12_drawDeed (x_nw (x_iinc 5 1 (x_cut [0, 3, 4, 5] (J 45))))))))
set_option maxRecDepth 100000 in
theorem s_X12_drawn_45 {p : Program} {l : Launch} {e : Env} {R : Room} {s : State} {m : MethodId} {args : Array Value} {below : List Frame} {meth : Method} {c : Code} {nW : Nat} {dC : Nat → ClassId} {dI : Nat → Nat → Nat} {k : Nat → ClassId} {g : Nat → Nat} {A : Nat → Prop} {J : Nat → List qV → List qV → qW → Prop} {Q : qR} (X : q_X p R s m args meth c cX12_drawn 6 nW 4 89 RX12 (some .int) dC dI k g A) (hJ : ∀ d : Nat, q_Sd p l e R s m args below meth c 6 nW dC dI k g A (MQ below (q_post (dC, dI) k g nW Q A) args s 0 0 A) d (x_cut (is_X12_drawn d) (J d))) : q_Sd p l e R s m args below meth c 6 nW dC dI k g A (MQ below (q_post (dC, dI) k g nW Q A) args s 0 0 A) 45 (b_X12_drawn_45 J Q) := by
  unfold b_X12_drawn_45
  refine s_iload X dX12_drawn_45 ?_
  refine s_iload_n X rfl dX12_drawn_47 ?_
  refine s_icmp_ge X (tgt := 61) dX12_drawn_48 (by decide) ?_ ?_
  · refine s_aload_n X rfl dX12_drawn_61 ?_
    refine s_iload X dX12_drawn_62 ?_
    refine s_callVr X (m_X12_ofState l) tw_1249 tw_1250 tw_1604 tw_134 tw_1251 rfl (by decide +kernel) ⟨by decide, by decide⟩ dX12_drawn_64 ?_
    exact s_iret X dX12_drawn_67
  · refine s_aload_n X rfl dX12_drawn_51 ?_
    refine s_callV X (m_X12_drawDeed l) tw_1418 tw_1419 tw_1563 tw_134 tw_1420 rfl (by decide +kernel) ⟨by decide, by decide⟩ dX12_drawn_52 ?_
    refine s_nw ?_
    refine s_iinc X (by decide) dX12_drawn_55 ?_
    refine s_goto X (tgt := 45) dX12_drawn_58 (by decide) ?_
    exact hJ 45
set_option maxRecDepth 100000 in
def b_X12_drawn_30 (J : Nat → List qV → List qV → qW → Prop) (Q : qR) : qK := x_int (-2) (x_iret Q)
set_option maxRecDepth 100000 in
theorem s_X12_drawn_30 {p : Program} {l : Launch} {e : Env} {R : Room} {s : State} {m : MethodId} {args : Array Value} {below : List Frame} {meth : Method} {c : Code} {nW : Nat} {dC : Nat → ClassId} {dI : Nat → Nat → Nat} {k : Nat → ClassId} {g : Nat → Nat} {A : Nat → Prop} {J : Nat → List qV → List qV → qW → Prop} {Q : qR} (X : q_X p R s m args meth c cX12_drawn 6 nW 4 89 RX12 (some .int) dC dI k g A) (hJ : ∀ d : Nat, q_Sd p l e R s m args below meth c 6 nW dC dI k g A (MQ below (q_post (dC, dI) k g nW Q A) args s 0 0 A) d (x_cut (is_X12_drawn d) (J d))) : q_Sd p l e R s m args below meth c 6 nW dC dI k g A (MQ below (q_post (dC, dI) k g nW Q A) args s 0 0 A) 30 (b_X12_drawn_30 J Q) := by
  unfold b_X12_drawn_30
  refine s_bipush X ⟨by decide, by decide⟩ (by decide) dX12_drawn_30 ?_
  exact s_iret X dX12_drawn_32
set_option maxRecDepth 100000 in
def b_X12_drawn_0 (J : Nat → List qV → List qV → qW → Prop) (Q : qR) : qK := x_aload 0 (x_int 0 (x_put 12 0 q_oki (x_nw (x_iload 3 (x_int 0 (x_int 60 (x_callr none 3 spr_X12_in (x_if_eq (b_X12_drawn_30 J Q) (x_aload 0 (x_iload 1 (x_call (some 12) 2 sp_X12_hand (x_nw (x_if_eq (b_X12_drawn_30 J Q) (x_aload 0 (x_get 12 25 (x_if_ne (x_aload 0 (x_iload 2 (x_put 12 41 q_oki (x_nw (x_aload 0 (x_call (some 12) 1 sp_X12_begin (x_nw (x_int 0 (x_istore 5 (x_cut [0, 3, 4, 5] (J 45))))))))))) (b_X12_drawn_30 J Q)))))))))))))))))
set_option maxRecDepth 100000 in
theorem s_X12_drawn_0 {p : Program} {l : Launch} {e : Env} {R : Room} {s : State} {m : MethodId} {args : Array Value} {below : List Frame} {meth : Method} {c : Code} {nW : Nat} {dC : Nat → ClassId} {dI : Nat → Nat → Nat} {k : Nat → ClassId} {g : Nat → Nat} {A : Nat → Prop} {J : Nat → List qV → List qV → qW → Prop} {Q : qR} (X : q_X p R s m args meth c cX12_drawn 6 nW 4 89 RX12 (some .int) dC dI k g A) (hJ : ∀ d : Nat, q_Sd p l e R s m args below meth c 6 nW dC dI k g A (MQ below (q_post (dC, dI) k g nW Q A) args s 0 0 A) d (x_cut (is_X12_drawn d) (J d))) : q_Sd p l e R s m args below meth c 6 nW dC dI k g A (MQ below (q_post (dC, dI) k g nW Q A) args s 0 0 A) 0 (b_X12_drawn_0 J Q) := by
  unfold b_X12_drawn_0
  refine s_aload_n X rfl dX12_drawn_0 ?_
  refine s_iconst X ⟨by decide, by decide⟩ dX12_drawn_1 ?_
  refine s_put X (T := TX12) (C := RX12) (N := 45) tu_X12 tyX12_ok nmX12 rfl (by decide) tw_997 rfl (by decide +kernel) q_oki_t dX12_drawn_2 ?_
  refine s_nw ?_
  refine s_iload_n X rfl dX12_drawn_5 ?_
  refine s_iconst X ⟨by decide, by decide⟩ dX12_drawn_6 ?_
  refine s_bipush X ⟨by decide, by decide⟩ (by decide) dX12_drawn_7 ?_
  refine s_callSr X (m_X12_in l) tw_1054 tw_1055 tw_134 tw_1056 (by decide +kernel) ⟨by decide, by decide⟩ dX12_drawn_9 ?_
  refine s_if_eq X (tgt := 30) dX12_drawn_12 (by decide) ?_ ?_
  · exact s_X12_drawn_30 X hJ
  · refine s_aload_n X rfl dX12_drawn_15 ?_
    refine s_iload_n X rfl dX12_drawn_16 ?_
    refine s_callV X (m_X12_hand l) tw_1186 tw_1187 tw_1585 tw_134 tw_1188 rfl (by decide +kernel) ⟨by decide, by decide⟩ dX12_drawn_17 ?_
    refine s_nw ?_
    refine s_if_eq X (tgt := 30) dX12_drawn_20 (by decide) ?_ ?_
    · exact s_X12_drawn_30 X hJ
    · refine s_aload_n X rfl dX12_drawn_23 ?_
      refine s_get X (T := TX12) (C := RX12) (N := 45) tu_X12 rfl (by decide) tw_1022 dX12_drawn_24 ?_
      refine s_if_ne X (tgt := 33) dX12_drawn_27 (by decide) ?_ ?_
      · refine s_aload_n X rfl dX12_drawn_33 ?_
        refine s_iload_n X rfl dX12_drawn_34 ?_
        refine s_put X (T := TX12) (C := RX12) (N := 45) tu_X12 tyX12_ok nmX12 rfl (by decide) tw_1038 rfl (by decide +kernel) q_oki_t dX12_drawn_35 ?_
        refine s_nw ?_
        refine s_aload_n X rfl dX12_drawn_38 ?_
        refine s_callV X (m_X12_begin l) tw_1218 tw_1219 tw_1549 tw_134 tw_1220 rfl (by decide +kernel) ⟨by decide, by decide⟩ dX12_drawn_39 ?_
        refine s_nw ?_
        refine s_iconst X ⟨by decide, by decide⟩ dX12_drawn_42 ?_
        refine s_istore X (by decide) dX12_drawn_43 ?_
        exact hJ 45
      · exact s_X12_drawn_30 X hJ

def sp_X12_drawn : qS := fun av w Q => ∃ (mco : Int) (mre : Int) (mle : Int) (mbe : Int) (mso : Int) (mva : Int) (mwo : Int) (mwr : Int) (mlf : Int) (mlp : Int) (mfp : Int) (mfd : Int) (mgo : Int) (mbo : Int) (mpe : Int) (mye : Int) (mpr : Int) (mld : Int) (msi : Int) (mse : Int) (mn : Nat → Int) (bs : Nat → Int) (tl : Nat → Int) (a : Int) (b : Int) (cc : Int) (dd : Int), av = [q2 0, q1 a, q1 b, q1 cc, q1 dd] ∧ w = [.inr (12, [q1 mco, q2 4, q2 5, q2 6, q2 7, q2 1, q2 2, q2 8, q2 9, q2 10, q1 mre, q1 mle, q1 mbe, q1 mso, q1 mva, q3 mwo, q1 mwr, q1 mlf, q1 mlp, q2 11, q2 12, q1 mfp, q1 mfd, q1 mgo, q1 mbo, q1 mpe, q1 mye, q2 3, q1 mpr, q2 13, q2 14, q2 15, q2 16, q1 mld, q2 17, q1 msi, q2 18, q2 19, q2 20, q2 21, q2 22, q1 mse, q2 23, q2 24, q2 25]), .inl (0, 16, .inl mn), .inl (0, 600, .inl bs), .inl (0, 8, .inl tl)] ∧ (q_rg 0 2 mn) ∧ (BI bs) ∧ (∀ (r : Int) (x_mco : Int) (x_mbo : Int) (x_mpe : Int) (x_mse : Int) (x_tl : Nat → Int) (x_mpr : Int), Q (some (q1 r)) ([.inr (12, [q1 x_mco, q2 4, q2 5, q2 6, q2 7, q2 1, q2 2, q2 8, q2 9, q2 10, q1 mre, q1 mle, q1 mbe, q1 mso, q1 mva, q3 mwo, q1 mwr, q1 mlf, q1 mlp, q2 11, q2 12, q1 mfp, q1 mfd, q1 mgo, q1 x_mbo, q1 x_mpe, q1 mye, q2 3, q1 x_mpr, q2 13, q2 14, q2 15, q2 16, q1 mld, q2 17, q1 msi, q2 18, q2 19, q2 20, q2 21, q2 22, q1 x_mse, q2 23, q2 24, q2 25]), .inl (0, 16, .inl mn), .inl (0, 600, .inl bs), .inl (0, 8, .inl x_tl)]))
def I_X12_drawn (mco : Int) (mre : Int) (mle : Int) (mbe : Int) (mso : Int) (mva : Int) (mwo : Int) (mwr : Int) (mlf : Int) (mlp : Int) (mfp : Int) (mfd : Int) (mgo : Int) (mbo : Int) (mpe : Int) (mye : Int) (mpr : Int) (mld : Int) (msi : Int) (mse : Int) (mn : Nat → Int) (bs : Nat → Int) (tl : Nat → Int) (a : Int) (b : Int) (cc : Int) (dd : Int) : Nat → Nat → List qV → List qV → qW → Prop := fun dz mz vz sz wz => if dz = 45 then (∃ (y_mco : Int) (y_mbo : Int) (y_mpe : Int) (y_mse : Int) (y_tl : Nat → Int) (y_mpr : Int) (v5 : Int), vz = [q2 0, q1 cc, q1 dd, q1 v5] ∧ sz = [] ∧ wz = [.inr (12, [q1 y_mco, q2 4, q2 5, q2 6, q2 7, q2 1, q2 2, q2 8, q2 9, q2 10, q1 mre, q1 mle, q1 mbe, q1 mso, q1 mva, q3 mwo, q1 mwr, q1 mlf, q1 mlp, q2 11, q2 12, q1 mfp, q1 mfd, q1 mgo, q1 y_mbo, q1 y_mpe, q1 mye, q2 3, q1 y_mpr, q2 13, q2 14, q2 15, q2 16, q1 mld, q2 17, q1 msi, q2 18, q2 19, q2 20, q2 21, q2 22, q1 y_mse, q2 23, q2 24, q2 25]), .inl (0, 16, .inl mn), .inl (0, 600, .inl bs), .inl (0, 8, .inl y_tl)] ∧ mz = (60 - v5).toNat ∧ (0 ≤ y_mbo ∧ y_mbo ≤ 1 ∧ 0 ≤ y_mpe ∧ y_mpe ≤ 8) ∧ (0 ≤ v5 ∧ v5 ≤ 60 ∧ 0 ≤ cc ∧ cc ≤ 60 ∧ 1 ≤ y_mpe)) else False
set_option maxHeartbeats 4000000 in
set_option maxRecDepth 100000 in
theorem m_X12_drawn (l : Launch) : q_M l yX12_drawn cX12_drawn 6 (some .int) 4 89 sp_X12_drawn := by
  refine q_meth (by decide) (fun av w Q h => by obtain ⟨mco, mre, mle, mbe, mso, mva, mwo, mwr, mlf, mlp, mfp, mfd, mgo, mbo, mpe, mye, mpr, mld, msi, mse, mn, bs, tl, a, b, cc, dd, rfl, rfl, hmn, hbi, hQ⟩ := h; exact Nat.le_of_ble_eq_true rfl) ?_
  intro p e R s m args below meth c dC dI k g A av w Q hsp oka okw X
  obtain ⟨mco, mre, mle, mbe, mso, mva, mwo, mwr, mlf, mlp, mfp, mfd, mgo, mbo, mpe, mye, mpr, mld, msi, mse, mn, bs, tl, a, b, cc, dd, rfl, rfl, hmn, hbi, hQ⟩ := hsp
  have o_a : -2147483648 ≤ a ∧ a ≤ 2147483647 := oka _ (List.mem_of_getElem? (i := 1) rfl)
  have o_b : -2147483648 ≤ b ∧ b ≤ 2147483647 := oka _ (List.mem_of_getElem? (i := 2) rfl)
  have o_cc : -2147483648 ≤ cc ∧ cc ≤ 2147483647 := oka _ (List.mem_of_getElem? (i := 3) rfl)
  have o_dd : -2147483648 ≤ dd ∧ dd ≤ 2147483647 := oka _ (List.mem_of_getElem? (i := 4) rfl)
  refine s_mono (s_X12_drawn_0 X (J := fun dz vz sz wz => ∃ mz, I_X12_drawn mco mre mle mbe mso mva mwo mwr mlf mlp mfp mfd mgo mbo mpe mye mpr mld msi mse mn bs tl a b cc dd dz mz vz sz wz) (q_loopn (I_X12_drawn mco mre mle mbe mso mva mwo mwr mlf mlp mfp mfd mgo mbo mpe mye mpr mld msi mse mn bs tl a b cc dd) (fun dz J => if dz = 45 then b_X12_drawn_45 J Q else q_F) ?hs ?hv)) ?_
  case hs =>
    intro d J hJ
    by_cases h45 : d = 45
    · subst h45; exact s_X12_drawn_45 X hJ
    simp only [h45, if_false]
    exact s_F
  case hv =>
    intro dz mz vz sz wz hI okv oks okw hlen
    by_cases h45 : dz = 45
    · subst h45
      obtain ⟨y_mco, y_mbo, y_mpe, y_mse, y_tl, y_mpr, v5, rfl, rfl, rfl, hn, hyb, hp⟩ := hI
      apply And.intro
      · intro h48
        refine Exists.intro [0, 3, 2, 4, 5, 6, 7, 1, 8, 9, 10, 11, 12, 13, 14, 15, 16, 17, 18, 19, 20, 21, 22, 23, 24, 25] (Exists.intro [q2 0, q1 _] (Exists.intro ([.inr (12, [q1 _, q2 3, q2 4, q2 5, q2 6, q2 7, q2 2, q2 8, q2 9, q2 10, q1 _, q1 _, q1 _, q1 _, q1 _, q3 _, q1 _, q1 _, q1 _, q2 11, q2 12, q1 _, q1 _, q1 _, q1 _, q1 _, q1 _, q2 1, q1 _, q2 13, q2 14, q2 15, q2 16, q1 _, q2 17, q1 _, q2 18, q2 19, q2 20, q2 21, q2 22, q1 _, q2 23, q2 24, q2 25]), .inl (0, 8, .inl _), .inl (0, 600, .inl _)]) (And.intro rfl (And.intro rfl (And.intro rfl (And.intro ⟨⟨_, rfl⟩, rfl⟩ ?_))))))
        refine Exists.intro _ (Exists.intro _ (Exists.intro _ (Exists.intro _ (Exists.intro _ (Exists.intro _ (Exists.intro _ (Exists.intro _ (Exists.intro _ (Exists.intro _ (Exists.intro _ (Exists.intro _ (Exists.intro _ (Exists.intro _ (Exists.intro _ (Exists.intro _ (Exists.intro _ (Exists.intro _ (Exists.intro _ (Exists.intro _ (Exists.intro _ (Exists.intro _ (Exists.intro _ (And.intro rfl (And.intro rfl (And.intro (by first | omega | assumption | exact q_rg_up (by assumption) (by omega) | exact q_rg_up (q_rg_up (by assumption) (by omega)) (by omega) | exact q_rg_cpy (by assumption) (by assumption)) (And.intro (by first | omega | assumption | exact q_rg_up (by assumption) (by omega) | exact q_rg_up (q_rg_up (by assumption) (by omega)) (by omega) | exact q_rg_cpy (by assumption) (by assumption)) (And.intro (by first | omega | assumption | exact q_rg_up (by assumption) (by omega) | exact q_rg_up (q_rg_up (by assumption) (by omega)) (by omega) | exact q_rg_cpy (by assumption) (by assumption)) (?_))))))))))))))))))))))))))))
        intro z64
        exact hQ _ _ _ _ _ _ _
      · intro h48
        refine Exists.intro [0, 3, 2, 4, 5, 6, 7, 1, 8, 9, 10, 11, 12, 13, 14, 15, 16, 17, 18, 19, 20, 21, 22, 23, 24, 25] (Exists.intro [q2 0] (Exists.intro ([.inr (12, [q1 _, q2 3, q2 4, q2 5, q2 6, q2 7, q2 2, q2 8, q2 9, q2 10, q1 _, q1 _, q1 _, q1 _, q1 _, q3 _, q1 _, q1 _, q1 _, q2 11, q2 12, q1 _, q1 _, q1 _, q1 _, q1 _, q1 _, q2 1, q1 _, q2 13, q2 14, q2 15, q2 16, q1 _, q2 17, q1 _, q2 18, q2 19, q2 20, q2 21, q2 22, q1 _, q2 23, q2 24, q2 25]), .inl (0, 8, .inl _), .inl (0, 600, .inl _)]) (And.intro rfl (And.intro rfl (And.intro rfl (And.intro ⟨⟨_, rfl⟩, rfl⟩ ?_))))))
        refine Exists.intro _ (Exists.intro _ (Exists.intro _ (Exists.intro _ (Exists.intro _ (Exists.intro _ (Exists.intro _ (Exists.intro _ (Exists.intro _ (Exists.intro _ (Exists.intro _ (Exists.intro _ (Exists.intro _ (Exists.intro _ (Exists.intro _ (Exists.intro _ (Exists.intro _ (Exists.intro _ (Exists.intro _ (Exists.intro _ (Exists.intro _ (Exists.intro _ (And.intro rfl (And.intro rfl (And.intro (by first | omega | assumption | exact q_rg_up (by assumption) (by omega) | exact q_rg_up (q_rg_up (by assumption) (by omega)) (by omega) | exact q_rg_cpy (by assumption) (by assumption)) (And.intro (by first | omega | assumption | exact q_rg_up (by assumption) (by omega) | exact q_rg_up (q_rg_up (by assumption) (by omega)) (by omega) | exact q_rg_cpy (by assumption) (by assumption)) (And.intro (by first | omega | assumption | exact q_rg_up (by assumption) (by omega) | exact q_rg_up (q_rg_up (by assumption) (by omega)) (by omega) | exact q_rg_cpy (by assumption) (by assumption)) (And.intro (by first | omega | assumption | exact q_rg_up (by assumption) (by omega) | exact q_rg_up (q_rg_up (by assumption) (by omega)) (by omega) | exact q_rg_cpy (by assumption) (by assumption)) (?_))))))))))))))))))))))))))))
        intro x_mse_52 x_tl_52 x_mpr_52
        intro z55 h55
        first | replace h55 := e_add h55 (by omega) | replace h55 := e_rng h55
        exact ⟨_, ⟨_, _, _, _, _, _, _, rfl, rfl, rfl, rfl, (by first | omega | assumption | exact q_rg_up (by assumption) (by omega) | exact q_rg_up (q_rg_up (by assumption) (by omega)) (by omega) | exact q_rg_cpy (by assumption) (by assumption)), (by first | omega | assumption | exact q_rg_up (by assumption) (by omega) | exact q_rg_up (q_rg_up (by assumption) (by omega)) (by omega) | exact q_rg_cpy (by assumption) (by assumption))⟩, by omega⟩
    simp only [I_X12_drawn, h45, if_false] at hI
  rintro lv st w' ⟨rfl, rfl, rfl⟩
  apply And.intro
  · exact trivial
  refine Exists.intro [] (Exists.intro [q1 _, q1 _, q1 _] (Exists.intro [] (And.intro rfl (And.intro rfl (And.intro rfl (And.intro trivial ?_))))))
  refine Exists.intro _ (Exists.intro _ (Exists.intro _ (And.intro rfl (And.intro rfl (?_)))))
  intro z9 h9
  apply And.intro
  · intro h12
    first | replace h9 := dj1 h9 h12 | replace h9 := dj0 h9 h12
    exact hQ _ _ _ _ _ _ _
  · intro h12
    first | replace h9 := dj1 h9 h12 | replace h9 := dj0 h9 h12
    refine Exists.intro [0, 1, 2, 4, 5, 6, 7, 8, 9, 10, 11, 12, 3, 13, 14, 15, 16, 17, 18, 19, 20, 21, 22, 23, 24, 25] (Exists.intro [q2 0, q1 _] (Exists.intro ([.inr (12, [q1 _, q2 3, q2 4, q2 5, q2 6, q2 1, q2 2, q2 7, q2 8, q2 9, q1 _, q1 _, q1 _, q1 _, q1 _, q3 _, q1 _, q1 _, q1 _, q2 10, q2 11, q1 _, q1 _, q1 _, q1 _, q1 _, q1 _, q2 12, q1 _, q2 13, q2 14, q2 15, q2 16, q1 _, q2 17, q1 _, q2 18, q2 19, q2 20, q2 21, q2 22, q1 _, q2 23, q2 24, q2 25]), .inl (0, 16, .inl _), .inl (0, 600, .inl _)]) (And.intro rfl (And.intro rfl (And.intro rfl (And.intro ⟨⟨_, rfl⟩, rfl⟩ ?_))))))
    refine Exists.intro _ (Exists.intro _ (Exists.intro _ (Exists.intro _ (Exists.intro _ (Exists.intro _ (Exists.intro _ (Exists.intro _ (Exists.intro _ (Exists.intro _ (Exists.intro _ (Exists.intro _ (Exists.intro _ (Exists.intro _ (Exists.intro _ (Exists.intro _ (Exists.intro _ (Exists.intro _ (Exists.intro _ (Exists.intro _ (Exists.intro _ (Exists.intro _ (Exists.intro _ (And.intro rfl (And.intro rfl (And.intro (by first | omega | assumption | exact q_rg_up (by assumption) (by omega) | exact q_rg_up (q_rg_up (by assumption) (by omega)) (by omega) | exact q_rg_cpy (by assumption) (by assumption)) (And.intro (by first | omega | assumption | exact q_rg_up (by assumption) (by omega) | exact q_rg_up (q_rg_up (by assumption) (by omega)) (by omega) | exact q_rg_cpy (by assumption) (by assumption)) (?_)))))))))))))))))))))))))))
    intro z17 x_mbo_17 x_mpe_17 h17
    apply And.intro
    · intro h20
      first | replace h17 := dj1 h17 h20 | replace h17 := dj0 h17 h20
      exact hQ _ _ _ _ _ _ _
    · intro h20
      first | replace h17 := dj1 h17 h20 | replace h17 := dj0 h17 h20
      apply And.intro
      · intro h27
        apply And.intro
        · exact trivial
        refine Exists.intro [0, 3, 2, 4, 5, 6, 7, 1, 8, 9, 10, 11, 12, 13, 14, 15, 16, 17, 18, 19, 20, 21, 22, 23, 24, 25] (Exists.intro [q2 0] (Exists.intro ([.inr (12, [q1 _, q2 3, q2 4, q2 5, q2 6, q2 7, q2 2, q2 8, q2 9, q2 10, q1 _, q1 _, q1 _, q1 _, q1 _, q3 _, q1 _, q1 _, q1 _, q2 11, q2 12, q1 _, q1 _, q1 _, q1 _, q1 _, q1 _, q2 1, q1 _, q2 13, q2 14, q2 15, q2 16, q1 _, q2 17, q1 _, q2 18, q2 19, q2 20, q2 21, q2 22, q1 _, q2 23, q2 24, q2 25]), .inl (0, 8, .inl _), .inl (0, 600, .inl _)]) (And.intro rfl (And.intro rfl (And.intro rfl (And.intro ⟨⟨_, rfl⟩, rfl⟩ ?_))))))
        refine Exists.intro _ (Exists.intro _ (Exists.intro _ (Exists.intro _ (Exists.intro _ (Exists.intro _ (Exists.intro _ (Exists.intro _ (Exists.intro _ (Exists.intro _ (Exists.intro _ (Exists.intro _ (Exists.intro _ (Exists.intro _ (Exists.intro _ (Exists.intro _ (Exists.intro _ (Exists.intro _ (Exists.intro _ (Exists.intro _ (Exists.intro _ (Exists.intro _ (And.intro rfl (And.intro rfl (And.intro (by first | omega | assumption | exact q_rg_up (by assumption) (by omega) | exact q_rg_up (q_rg_up (by assumption) (by omega)) (by omega) | exact q_rg_cpy (by assumption) (by assumption)) (And.intro (by first | omega | assumption | exact q_rg_up (by assumption) (by omega) | exact q_rg_up (q_rg_up (by assumption) (by omega)) (by omega) | exact q_rg_cpy (by assumption) (by assumption)) (?_))))))))))))))))))))))))))
        intro x_tl_39 x_mpr_39
        exact ⟨_, _, _, _, _, _, _, _, rfl, rfl, rfl, rfl, (by first | omega | assumption | exact q_rg_up (by assumption) (by omega) | exact q_rg_up (q_rg_up (by assumption) (by omega)) (by omega) | exact q_rg_cpy (by assumption) (by assumption)), (by first | omega | assumption | exact q_rg_up (by assumption) (by omega) | exact q_rg_up (q_rg_up (by assumption) (by omega)) (by omega) | exact q_rg_cpy (by assumption) (by assumption))⟩
      · intro h27
        exact hQ _ _ _ _ _ _ _

theorem dX12_tallest_0 : decode cX12_tallest 0 = .ok (.iconst 0, 1) := by decide +kernel
theorem dX12_tallest_1 : decode cX12_tallest 1 = .ok (.istore_n 2, 1) := by decide +kernel
theorem dX12_tallest_2 : decode cX12_tallest 2 = .ok (.iconst 0, 1) := by decide +kernel
theorem dX12_tallest_3 : decode cX12_tallest 3 = .ok (.istore_n 3, 1) := by decide +kernel
theorem dX12_tallest_4 : decode cX12_tallest 4 = .ok (.iload_n 3, 1) := by decide +kernel
theorem dX12_tallest_5 : decode cX12_tallest 5 = .ok (.aload_n 0, 1) := by decide +kernel
theorem dX12_tallest_6 : decode cX12_tallest 6 = .ok (.getfield 303, 3) := by decide +kernel
theorem dX12_tallest_9 : decode cX12_tallest 9 = .ok (.if_icmp .ge 33, 3) := by decide +kernel
theorem dX12_tallest_12 : decode cX12_tallest 12 = .ok (.iload_n 1, 1) := by decide +kernel
theorem dX12_tallest_13 : decode cX12_tallest 13 = .ok (.iload_n 3, 1) := by decide +kernel
theorem dX12_tallest_14 : decode cX12_tallest 14 = .ok (.invokestatic 92, 3) := by decide +kernel
theorem dX12_tallest_17 : decode cX12_tallest 17 = .ok (.ifCond .eq 17, 3) := by decide +kernel
theorem dX12_tallest_20 : decode cX12_tallest 20 = .ok (.iload_n 2, 1) := by decide +kernel
theorem dX12_tallest_21 : decode cX12_tallest 21 = .ok (.aload_n 0, 1) := by decide +kernel
theorem dX12_tallest_22 : decode cX12_tallest 22 = .ok (.iconst 5, 1) := by decide +kernel
theorem dX12_tallest_23 : decode cX12_tallest 23 = .ok (.iload_n 3, 1) := by decide +kernel
theorem dX12_tallest_24 : decode cX12_tallest 24 = .ok (.iadd, 1) := by decide +kernel
theorem dX12_tallest_25 : decode cX12_tallest 25 = .ok (.invokevirtual 299, 3) := by decide +kernel
theorem dX12_tallest_28 : decode cX12_tallest 28 = .ok (.invokestatic 162, 3) := by decide +kernel
theorem dX12_tallest_31 : decode cX12_tallest 31 = .ok (.goto 4, 3) := by decide +kernel
theorem dX12_tallest_34 : decode cX12_tallest 34 = .ok (.iload_n 2, 1) := by decide +kernel
theorem dX12_tallest_35 : decode cX12_tallest 35 = .ok (.istore_n 2, 1) := by decide +kernel
theorem dX12_tallest_36 : decode cX12_tallest 36 = .ok (.iinc 3 1, 3) := by decide +kernel
theorem dX12_tallest_39 : decode cX12_tallest 39 = .ok (.goto (-35), 3) := by decide +kernel
theorem dX12_tallest_42 : decode cX12_tallest 42 = .ok (.iload_n 2, 1) := by decide +kernel
theorem dX12_tallest_43 : decode cX12_tallest 43 = .ok (.ireturn, 1) := by decide +kernel
def is_X12_tallest : Nat → List Nat := fun d => if d = 4 then [0, 1, 2, 3] else []
set_option maxRecDepth 100000 in
def b_X12_tallest_35 (J : Nat → List qV → List qV → qW → Prop) (Q : qR) : qK := x_istore 2 (x_iinc 3 1 (x_cut [0, 1, 2, 3] (J 4)))
set_option maxRecDepth 100000 in
theorem s_X12_tallest_35 {p : Program} {l : Launch} {e : Env} {R : Room} {s : State} {m : MethodId} {args : Array Value} {below : List Frame} {meth : Method} {c : Code} {nW : Nat} {dC : Nat → ClassId} {dI : Nat → Nat → Nat} {k : Nat → ClassId} {g : Nat → Nat} {A : Nat → Prop} {J : Nat → List qV → List qV → qW → Prop} {Q : qR} (X : q_X p R s m args meth c cX12_tallest 4 nW 1 21 RX12 (some .int) dC dI k g A) (hJ : ∀ d : Nat, q_Sd p l e R s m args below meth c 4 nW dC dI k g A (MQ below (q_post (dC, dI) k g nW Q A) args s 0 0 A) d (x_cut (is_X12_tallest d) (J d))) : q_Sd p l e R s m args below meth c 4 nW dC dI k g A (MQ below (q_post (dC, dI) k g nW Q A) args s 0 0 A) 35 (b_X12_tallest_35 J Q) := by
  unfold b_X12_tallest_35
  refine s_istore_n X rfl (by decide) dX12_tallest_35 ?_
  refine s_iinc X (by decide) dX12_tallest_36 ?_
  refine s_goto X (tgt := 4) dX12_tallest_39 (by decide) ?_
  exact hJ 4
set_option maxRecDepth 100000 in
def b_X12_tallest_4 (J : Nat → List qV → List qV → qW → Prop) (Q : qR) : qK := x_iload 3 (x_aload 0 (x_get 12 25 (x_icmp_ge (x_iload 2 (x_iret Q)) (x_iload 1 (x_iload 3 (x_callr none 2 spr_X12_has (x_if_eq (x_iload 2 (b_X12_tallest_35 J Q)) (x_iload 2 (x_aload 0 (x_int 5 (x_iload 3 (x_iadd (x_callr (some 12) 2 spr_X12_of (x_callr none 2 spr_X12_greater (b_X12_tallest_35 J Q)))))))))))))))
set_option maxRecDepth 100000 in
theorem s_X12_tallest_4 {p : Program} {l : Launch} {e : Env} {R : Room} {s : State} {m : MethodId} {args : Array Value} {below : List Frame} {meth : Method} {c : Code} {nW : Nat} {dC : Nat → ClassId} {dI : Nat → Nat → Nat} {k : Nat → ClassId} {g : Nat → Nat} {A : Nat → Prop} {J : Nat → List qV → List qV → qW → Prop} {Q : qR} (X : q_X p R s m args meth c cX12_tallest 4 nW 1 21 RX12 (some .int) dC dI k g A) (hJ : ∀ d : Nat, q_Sd p l e R s m args below meth c 4 nW dC dI k g A (MQ below (q_post (dC, dI) k g nW Q A) args s 0 0 A) d (x_cut (is_X12_tallest d) (J d))) : q_Sd p l e R s m args below meth c 4 nW dC dI k g A (MQ below (q_post (dC, dI) k g nW Q A) args s 0 0 A) 4 (b_X12_tallest_4 J Q) := by
  unfold b_X12_tallest_4
  refine s_iload_n X rfl dX12_tallest_4 ?_
  refine s_aload_n X rfl dX12_tallest_5 ?_
  refine s_get X (T := TX12) (C := RX12) (N := 45) tu_X12 rfl (by decide) tw_1022 dX12_tallest_6 ?_
  refine s_icmp_ge X (tgt := 42) dX12_tallest_9 (by decide) ?_ ?_
  · refine s_iload_n X rfl dX12_tallest_42 ?_
    exact s_iret X dX12_tallest_43
  · refine s_iload_n X rfl dX12_tallest_12 ?_
    refine s_iload_n X rfl dX12_tallest_13 ?_
    refine s_callSr X (m_X12_has l) tw_1233 tw_1234 tw_134 tw_1235 (by decide +kernel) ⟨by decide, by decide⟩ dX12_tallest_14 ?_
    refine s_if_eq X (tgt := 34) dX12_tallest_17 (by decide) ?_ ?_
    · refine s_iload_n X rfl dX12_tallest_34 ?_
      exact s_X12_tallest_35 X hJ
    · refine s_iload_n X rfl dX12_tallest_20 ?_
      refine s_aload_n X rfl dX12_tallest_21 ?_
      refine s_iconst X ⟨by decide, by decide⟩ dX12_tallest_22 ?_
      refine s_iload_n X rfl dX12_tallest_23 ?_
      refine s_iadd X dX12_tallest_24 ?_
      refine s_callVr X (m_X12_of l) tw_1189 tw_1190 tw_1603 tw_134 tw_1191 rfl (by decide +kernel) ⟨by decide, by decide⟩ dX12_tallest_25 ?_
      refine s_callSr X (m_X12_greater l) tw_1118 tw_1119 tw_134 tw_1120 (by decide +kernel) ⟨by decide, by decide⟩ dX12_tallest_28 ?_
      refine s_goto X (tgt := 35) dX12_tallest_31 (by decide) ?_
      exact s_X12_tallest_35 X hJ
set_option maxRecDepth 100000 in
def b_X12_tallest_0 (J : Nat → List qV → List qV → qW → Prop) (Q : qR) : qK := x_int 0 (x_istore 2 (x_int 0 (x_istore 3 (x_cut [0, 1, 2, 3] (J 4)))))
set_option maxRecDepth 100000 in
theorem s_X12_tallest_0 {p : Program} {l : Launch} {e : Env} {R : Room} {s : State} {m : MethodId} {args : Array Value} {below : List Frame} {meth : Method} {c : Code} {nW : Nat} {dC : Nat → ClassId} {dI : Nat → Nat → Nat} {k : Nat → ClassId} {g : Nat → Nat} {A : Nat → Prop} {J : Nat → List qV → List qV → qW → Prop} {Q : qR} (X : q_X p R s m args meth c cX12_tallest 4 nW 1 21 RX12 (some .int) dC dI k g A) (hJ : ∀ d : Nat, q_Sd p l e R s m args below meth c 4 nW dC dI k g A (MQ below (q_post (dC, dI) k g nW Q A) args s 0 0 A) d (x_cut (is_X12_tallest d) (J d))) : q_Sd p l e R s m args below meth c 4 nW dC dI k g A (MQ below (q_post (dC, dI) k g nW Q A) args s 0 0 A) 0 (b_X12_tallest_0 J Q) := by
  unfold b_X12_tallest_0
  refine s_iconst X ⟨by decide, by decide⟩ dX12_tallest_0 ?_
  refine s_istore_n X rfl (by decide) dX12_tallest_1 ?_
  refine s_iconst X ⟨by decide, by decide⟩ dX12_tallest_2 ?_
  refine s_istore_n X rfl (by decide) dX12_tallest_3 ?_
  exact hJ 4

def spr_X12_tallest : List qV → qW → (Option qV → Prop) → Prop := fun av w Q => ∃ (mco : Int) (mre : Int) (mle : Int) (mbe : Int) (mso : Int) (mva : Int) (mwo : Int) (mwr : Int) (mlf : Int) (mlp : Int) (mfp : Int) (mfd : Int) (mgo : Int) (mbo : Int) (mpe : Int) (mye : Int) (mpr : Int) (mld : Int) (msi : Int) (mse : Int) (bs : Nat → Int) (a : Int), av = [q2 0, q1 a] ∧ w = [.inr (12, [q1 mco, q2 2, q2 3, q2 4, q2 5, q2 6, q2 1, q2 7, q2 8, q2 9, q1 mre, q1 mle, q1 mbe, q1 mso, q1 mva, q3 mwo, q1 mwr, q1 mlf, q1 mlp, q2 10, q2 11, q1 mfp, q1 mfd, q1 mgo, q1 mbo, q1 mpe, q1 mye, q2 12, q1 mpr, q2 13, q2 14, q2 15, q2 16, q1 mld, q2 17, q1 msi, q2 18, q2 19, q2 20, q2 21, q2 22, q1 mse, q2 23, q2 24, q2 25]), .inl (0, 600, .inl bs)] ∧ (0 ≤ mbo ∧ mbo ≤ 1) ∧ (0 ≤ mpe ∧ mpe ≤ 8) ∧ (BI bs) ∧ (∀ (r : Int) , Q (some (q1 r)))
def sp_X12_tallest : qS := fun av w Q => spr_X12_tallest av w (fun r => Q r w)
def I_X12_tallest (mco : Int) (mre : Int) (mle : Int) (mbe : Int) (mso : Int) (mva : Int) (mwo : Int) (mwr : Int) (mlf : Int) (mlp : Int) (mfp : Int) (mfd : Int) (mgo : Int) (mbo : Int) (mpe : Int) (mye : Int) (mpr : Int) (mld : Int) (msi : Int) (mse : Int) (bs : Nat → Int) (a : Int) : Nat → Nat → List qV → List qV → qW → Prop := fun dz mz vz sz wz => if dz = 4 then (∃ (v2 : Int) (v3 : Int), vz = [q2 0, q1 a, q1 v2, q1 v3] ∧ sz = [] ∧ wz = [.inr (12, [q1 mco, q2 2, q2 3, q2 4, q2 5, q2 6, q2 1, q2 7, q2 8, q2 9, q1 mre, q1 mle, q1 mbe, q1 mso, q1 mva, q3 mwo, q1 mwr, q1 mlf, q1 mlp, q2 10, q2 11, q1 mfp, q1 mfd, q1 mgo, q1 mbo, q1 mpe, q1 mye, q2 12, q1 mpr, q2 13, q2 14, q2 15, q2 16, q1 mld, q2 17, q1 msi, q2 18, q2 19, q2 20, q2 21, q2 22, q1 mse, q2 23, q2 24, q2 25]), .inl (0, 600, .inl bs)] ∧ mz = (mpe - v3).toNat ∧ (0 ≤ v3 ∧ v3 ≤ mpe)) else False
set_option maxHeartbeats 4000000 in
set_option maxRecDepth 100000 in
theorem m_X12_tallest (l : Launch) : q_M l yX12_tallest cX12_tallest 4 (some .int) 1 21 sp_X12_tallest := by
  refine q_meth (by decide) (fun av w Q h => by obtain ⟨mco, mre, mle, mbe, mso, mva, mwo, mwr, mlf, mlp, mfp, mfd, mgo, mbo, mpe, mye, mpr, mld, msi, mse, bs, a, rfl, rfl, hbo, hpe, hbi, hQ⟩ := h; exact Nat.le_of_ble_eq_true rfl) ?_
  intro p e R s m args below meth c dC dI k g A av w Q hsp oka okw X
  obtain ⟨mco, mre, mle, mbe, mso, mva, mwo, mwr, mlf, mlp, mfp, mfd, mgo, mbo, mpe, mye, mpr, mld, msi, mse, bs, a, rfl, rfl, hbo, hpe, hbi, hQ⟩ := hsp
  have o_a : -2147483648 ≤ a ∧ a ≤ 2147483647 := oka _ (List.mem_of_getElem? (i := 1) rfl)
  refine s_mono (s_X12_tallest_0 X (J := fun dz vz sz wz => ∃ mz, I_X12_tallest mco mre mle mbe mso mva mwo mwr mlf mlp mfp mfd mgo mbo mpe mye mpr mld msi mse bs a dz mz vz sz wz) (q_loopn (I_X12_tallest mco mre mle mbe mso mva mwo mwr mlf mlp mfp mfd mgo mbo mpe mye mpr mld msi mse bs a) (fun dz J => if dz = 4 then b_X12_tallest_4 J Q else q_F) ?hs ?hv)) ?_
  case hs =>
    intro d J hJ
    by_cases h4 : d = 4
    · subst h4; exact s_X12_tallest_4 X hJ
    simp only [h4, if_false]
    exact s_F
  case hv =>
    intro dz mz vz sz wz hI okv oks okw hlen
    by_cases h4 : dz = 4
    · subst h4
      obtain ⟨v2, v3, rfl, rfl, rfl, hn, hp⟩ := hI
      apply And.intro
      · intro h9
        exact hQ _
      · intro h9
        refine Exists.intro [] (Exists.intro [q1 _, q1 _] (Exists.intro [] (And.intro rfl (And.intro rfl (And.intro rfl (And.intro trivial ?_))))))
        refine Exists.intro _ (Exists.intro _ (And.intro rfl (And.intro rfl (?_))))
        intro z14 h14
        apply And.intro
        · intro h17
          intro z36 h36
          first | replace h36 := e_add h36 (by omega) | replace h36 := e_rng h36
          exact ⟨_, ⟨_, _, rfl, rfl, rfl, rfl, (by first | omega | assumption | exact q_rg_up (by assumption) (by omega) | exact q_rg_up (q_rg_up (by assumption) (by omega)) (by omega) | exact q_rg_cpy (by assumption) (by assumption))⟩, by omega⟩
        · intro h17
          intro z24 h24
          first | replace h24 := e_add h24 (by omega) | replace h24 := e_rng h24
          refine Exists.intro [0, 1, 2, 3, 4, 5, 6, 7, 8, 9, 10, 11, 12, 13, 14, 15, 16, 17, 18, 19, 20, 21, 22, 23, 24, 25] (Exists.intro [q2 0, q1 _] (Exists.intro ([.inr (12, [q1 _, q2 2, q2 3, q2 4, q2 5, q2 6, q2 1, q2 7, q2 8, q2 9, q1 _, q1 _, q1 _, q1 _, q1 _, q3 _, q1 _, q1 _, q1 _, q2 10, q2 11, q1 _, q1 _, q1 _, q1 _, q1 _, q1 _, q2 12, q1 _, q2 13, q2 14, q2 15, q2 16, q1 _, q2 17, q1 _, q2 18, q2 19, q2 20, q2 21, q2 22, q1 _, q2 23, q2 24, q2 25]), .inl (0, 600, .inl _)]) (And.intro rfl (And.intro rfl (And.intro rfl (And.intro ⟨⟨_, rfl⟩, rfl⟩ ?_))))))
          refine Exists.intro _ (Exists.intro _ (Exists.intro _ (Exists.intro _ (Exists.intro _ (Exists.intro _ (Exists.intro _ (Exists.intro _ (Exists.intro _ (Exists.intro _ (Exists.intro _ (Exists.intro _ (Exists.intro _ (Exists.intro _ (Exists.intro _ (Exists.intro _ (Exists.intro _ (Exists.intro _ (Exists.intro _ (Exists.intro _ (Exists.intro _ (Exists.intro _ (And.intro rfl (And.intro rfl (And.intro (by first | omega | assumption | exact q_rg_up (by assumption) (by omega) | exact q_rg_up (q_rg_up (by assumption) (by omega)) (by omega) | exact q_rg_cpy (by assumption) (by assumption)) (And.intro (by first | omega | assumption | exact q_rg_up (by assumption) (by omega) | exact q_rg_up (q_rg_up (by assumption) (by omega)) (by omega) | exact q_rg_cpy (by assumption) (by assumption)) (And.intro (by first | omega | assumption | exact q_rg_up (by assumption) (by omega) | exact q_rg_up (q_rg_up (by assumption) (by omega)) (by omega) | exact q_rg_cpy (by assumption) (by assumption)) (?_)))))))))))))))))))))))))))
          intro z25 h25
          obtain ⟨h25, k25⟩ := h25
          first | replace k25 := OFQ_13 k25 (by omega) | replace k25 := OFQ_21 k25 (by omega) | clear k25
          refine Exists.intro [] (Exists.intro [q1 _, q1 _] (Exists.intro [] (And.intro rfl (And.intro rfl (And.intro rfl (And.intro trivial ?_))))))
          refine Exists.intro _ (Exists.intro _ (And.intro rfl (And.intro rfl (?_))))
          intro z28 h28
          intro z36 h36
          first | replace h36 := e_add h36 (by omega) | replace h36 := e_rng h36
          exact ⟨_, ⟨_, _, rfl, rfl, rfl, rfl, (by first | omega | assumption | exact q_rg_up (by assumption) (by omega) | exact q_rg_up (q_rg_up (by assumption) (by omega)) (by omega) | exact q_rg_cpy (by assumption) (by assumption))⟩, by omega⟩
    simp only [I_X12_tallest, h4, if_false] at hI
  rintro lv st w' ⟨rfl, rfl, rfl⟩
  exact ⟨_, _, _, rfl, rfl, rfl, rfl, (by first | omega | assumption | exact q_rg_up (by assumption) (by omega) | exact q_rg_up (q_rg_up (by assumption) (by omega)) (by omega) | exact q_rg_cpy (by assumption) (by assumption))⟩

theorem dX12_views_0 : decode cX12_views 0 = .ok (.aload_n 0, 1) := by decide +kernel
theorem dX12_views_1 : decode cX12_views 1 = .ok (.iconst 0, 1) := by decide +kernel
theorem dX12_views_2 : decode cX12_views 2 = .ok (.putfield 88, 3) := by decide +kernel
theorem dX12_views_5 : decode cX12_views 5 = .ok (.aload_n 0, 1) := by decide +kernel
theorem dX12_views_6 : decode cX12_views 6 = .ok (.iload_n 1, 1) := by decide +kernel
theorem dX12_views_7 : decode cX12_views 7 = .ok (.invokevirtual 306, 3) := by decide +kernel
theorem dX12_views_10 : decode cX12_views 10 = .ok (.ifCond .ne 7, 3) := by decide +kernel
theorem dX12_views_13 : decode cX12_views 13 = .ok (.ldc2_w 481, 3) := by decide +kernel
theorem dX12_views_16 : decode cX12_views 16 = .ok (.lreturn, 1) := by decide +kernel
theorem dX12_views_17 : decode cX12_views 17 = .ok (.iload_n 2, 1) := by decide +kernel
theorem dX12_views_18 : decode cX12_views 18 = .ok (.iconst 0, 1) := by decide +kernel
theorem dX12_views_19 : decode cX12_views 19 = .ok (.aload_n 0, 1) := by decide +kernel
theorem dX12_views_20 : decode cX12_views 20 = .ok (.getfield 303, 3) := by decide +kernel
theorem dX12_views_23 : decode cX12_views 23 = .ok (.invokestatic 100, 3) := by decide +kernel
theorem dX12_views_26 : decode cX12_views 26 = .ok (.ifCond .ne 5, 3) := by decide +kernel
theorem dX12_views_29 : decode cX12_views 29 = .ok (.lconst 0, 1) := by decide +kernel
theorem dX12_views_30 : decode cX12_views 30 = .ok (.lreturn, 1) := by decide +kernel
theorem dX12_views_31 : decode cX12_views 31 = .ok (.iconst 0, 1) := by decide +kernel
theorem dX12_views_32 : decode cX12_views 32 = .ok (.istore_n 3, 1) := by decide +kernel
theorem dX12_views_33 : decode cX12_views 33 = .ok (.iload_n 3, 1) := by decide +kernel
theorem dX12_views_34 : decode cX12_views 34 = .ok (.sipush 2304, 3) := by decide +kernel
theorem dX12_views_37 : decode cX12_views 37 = .ok (.if_icmp .ge 24, 3) := by decide +kernel
theorem dX12_views_40 : decode cX12_views 40 = .ok (.aload_n 0, 1) := by decide +kernel
theorem dX12_views_41 : decode cX12_views 41 = .ok (.getfield 78, 3) := by decide +kernel
theorem dX12_views_44 : decode cX12_views 44 = .ok (.iload_n 3, 1) := by decide +kernel
theorem dX12_views_45 : decode cX12_views 45 = .ok (.iload_n 3, 1) := by decide +kernel
theorem dX12_views_46 : decode cX12_views 46 = .ok (.ifCond .ne 7, 3) := by decide +kernel
theorem dX12_views_49 : decode cX12_views 49 = .ok (.lconst 1, 1) := by decide +kernel
theorem dX12_views_50 : decode cX12_views 50 = .ok (.goto 4, 3) := by decide +kernel
theorem dX12_views_53 : decode cX12_views 53 = .ok (.lconst 0, 1) := by decide +kernel
theorem dX12_views_54 : decode cX12_views 54 = .ok (.lastore, 1) := by decide +kernel
theorem dX12_views_55 : decode cX12_views 55 = .ok (.iinc 3 1, 3) := by decide +kernel
theorem dX12_views_58 : decode cX12_views 58 = .ok (.goto (-25), 3) := by decide +kernel
theorem dX12_views_61 : decode cX12_views 61 = .ok (.iconst 0, 1) := by decide +kernel
theorem dX12_views_62 : decode cX12_views 62 = .ok (.istore_n 3, 1) := by decide +kernel
theorem dX12_views_63 : decode cX12_views 63 = .ok (.iload_n 3, 1) := by decide +kernel
theorem dX12_views_64 : decode cX12_views 64 = .ok (.iconst 1, 1) := by decide +kernel
theorem dX12_views_65 : decode cX12_views 65 = .ok (.aload_n 0, 1) := by decide +kernel
theorem dX12_views_66 : decode cX12_views 66 = .ok (.getfield 303, 3) := by decide +kernel
theorem dX12_views_69 : decode cX12_views 69 = .ok (.ishl, 1) := by decide +kernel
theorem dX12_views_70 : decode cX12_views 70 = .ok (.if_icmp .ge 113, 3) := by decide +kernel
theorem dX12_views_73 : decode cX12_views 73 = .ok (.iconst 0, 1) := by decide +kernel
theorem dX12_views_74 : decode cX12_views 74 = .ok (.istore 4, 2) := by decide +kernel
theorem dX12_views_76 : decode cX12_views 76 = .ok (.iload 4, 2) := by decide +kernel
theorem dX12_views_78 : decode cX12_views 78 = .ok (.aload_n 0, 1) := by decide +kernel
theorem dX12_views_79 : decode cX12_views 79 = .ok (.getfield 303, 3) := by decide +kernel
theorem dX12_views_82 : decode cX12_views 82 = .ok (.if_icmp .ge 95, 3) := by decide +kernel
theorem dX12_views_85 : decode cX12_views 85 = .ok (.aload_n 0, 1) := by decide +kernel
theorem dX12_views_86 : decode cX12_views 86 = .ok (.iconst 5, 1) := by decide +kernel
theorem dX12_views_87 : decode cX12_views 87 = .ok (.iload 4, 2) := by decide +kernel
theorem dX12_views_89 : decode cX12_views 89 = .ok (.iadd, 1) := by decide +kernel
theorem dX12_views_90 : decode cX12_views 90 = .ok (.invokevirtual 299, 3) := by decide +kernel
theorem dX12_views_93 : decode cX12_views 93 = .ok (.aload_n 0, 1) := by decide +kernel
theorem dX12_views_94 : decode cX12_views 94 = .ok (.iload_n 3, 1) := by decide +kernel
theorem dX12_views_95 : decode cX12_views 95 = .ok (.invokevirtual 503, 3) := by decide +kernel
theorem dX12_views_98 : decode cX12_views 98 = .ok (.if_icmp .le 7, 3) := by decide +kernel
theorem dX12_views_101 : decode cX12_views 101 = .ok (.iconst 1, 1) := by decide +kernel
theorem dX12_views_102 : decode cX12_views 102 = .ok (.goto 4, 3) := by decide +kernel
theorem dX12_views_105 : decode cX12_views 105 = .ok (.iconst 0, 1) := by decide +kernel
theorem dX12_views_106 : decode cX12_views 106 = .ok (.istore 5, 2) := by decide +kernel
theorem dX12_views_108 : decode cX12_views 108 = .ok (.iconst 0, 1) := by decide +kernel
theorem dX12_views_109 : decode cX12_views 109 = .ok (.istore 6, 2) := by decide +kernel
theorem dX12_views_111 : decode cX12_views 111 = .ok (.iload 6, 2) := by decide +kernel
theorem dX12_views_113 : decode cX12_views 113 = .ok (.iload 5, 2) := by decide +kernel
theorem dX12_views_115 : decode cX12_views 115 = .ok (.iadd, 1) := by decide +kernel
theorem dX12_views_116 : decode cX12_views 116 = .ok (.bipush 8, 2) := by decide +kernel
theorem dX12_views_118 : decode cX12_views 118 = .ok (.if_icmp .gt 53, 3) := by decide +kernel
theorem dX12_views_121 : decode cX12_views 121 = .ok (.iload_n 3, 1) := by decide +kernel
theorem dX12_views_122 : decode cX12_views 122 = .ok (.iload 4, 2) := by decide +kernel
theorem dX12_views_124 : decode cX12_views 124 = .ok (.invokestatic 92, 3) := by decide +kernel
theorem dX12_views_127 : decode cX12_views 127 = .ok (.ifCond .ne 44, 3) := by decide +kernel
theorem dX12_views_130 : decode cX12_views 130 = .ok (.aload_n 0, 1) := by decide +kernel
theorem dX12_views_131 : decode cX12_views 131 = .ok (.getfield 78, 3) := by decide +kernel
theorem dX12_views_134 : decode cX12_views 134 = .ok (.bipush 9, 2) := by decide +kernel
theorem dX12_views_136 : decode cX12_views 136 = .ok (.iload_n 3, 1) := by decide +kernel
theorem dX12_views_137 : decode cX12_views 137 = .ok (.iconst 1, 1) := by decide +kernel
theorem dX12_views_138 : decode cX12_views 138 = .ok (.iload 4, 2) := by decide +kernel
theorem dX12_views_140 : decode cX12_views 140 = .ok (.ishl, 1) := by decide +kernel
theorem dX12_views_141 : decode cX12_views 141 = .ok (.ior, 1) := by decide +kernel
theorem dX12_views_142 : decode cX12_views 142 = .ok (.imul, 1) := by decide +kernel
theorem dX12_views_143 : decode cX12_views 143 = .ok (.iload 6, 2) := by decide +kernel
theorem dX12_views_145 : decode cX12_views 145 = .ok (.iadd, 1) := by decide +kernel
theorem dX12_views_146 : decode cX12_views 146 = .ok (.iload 5, 2) := by decide +kernel
theorem dX12_views_148 : decode cX12_views 148 = .ok (.iadd, 1) := by decide +kernel
theorem dX12_views_149 : decode cX12_views 149 = .ok (.dup2, 1) := by decide +kernel
theorem dX12_views_150 : decode cX12_views 150 = .ok (.laload, 1) := by decide +kernel
theorem dX12_views_151 : decode cX12_views 151 = .ok (.aload_n 0, 1) := by decide +kernel
theorem dX12_views_152 : decode cX12_views 152 = .ok (.getfield 78, 3) := by decide +kernel
theorem dX12_views_155 : decode cX12_views 155 = .ok (.bipush 9, 2) := by decide +kernel
theorem dX12_views_157 : decode cX12_views 157 = .ok (.iload_n 3, 1) := by decide +kernel
theorem dX12_views_158 : decode cX12_views 158 = .ok (.imul, 1) := by decide +kernel
theorem dX12_views_159 : decode cX12_views 159 = .ok (.iload 6, 2) := by decide +kernel
theorem dX12_views_161 : decode cX12_views 161 = .ok (.iadd, 1) := by decide +kernel
theorem dX12_views_162 : decode cX12_views 162 = .ok (.laload, 1) := by decide +kernel
theorem dX12_views_163 : decode cX12_views 163 = .ok (.ladd, 1) := by decide +kernel
theorem dX12_views_164 : decode cX12_views 164 = .ok (.lastore, 1) := by decide +kernel
theorem dX12_views_165 : decode cX12_views 165 = .ok (.iinc 6 1, 3) := by decide +kernel
theorem dX12_views_168 : decode cX12_views 168 = .ok (.goto (-57), 3) := by decide +kernel
theorem dX12_views_171 : decode cX12_views 171 = .ok (.iinc 4 1, 3) := by decide +kernel
theorem dX12_views_174 : decode cX12_views 174 = .ok (.goto (-98), 3) := by decide +kernel
theorem dX12_views_177 : decode cX12_views 177 = .ok (.iinc 3 1, 3) := by decide +kernel
theorem dX12_views_180 : decode cX12_views 180 = .ok (.goto (-117), 3) := by decide +kernel
theorem dX12_views_183 : decode cX12_views 183 = .ok (.aload_n 0, 1) := by decide +kernel
theorem dX12_views_184 : decode cX12_views 184 = .ok (.getfield 78, 3) := by decide +kernel
theorem dX12_views_187 : decode cX12_views 187 = .ok (.bipush 9, 2) := by decide +kernel
theorem dX12_views_189 : decode cX12_views 189 = .ok (.iconst 1, 1) := by decide +kernel
theorem dX12_views_190 : decode cX12_views 190 = .ok (.aload_n 0, 1) := by decide +kernel
theorem dX12_views_191 : decode cX12_views 191 = .ok (.getfield 303, 3) := by decide +kernel
theorem dX12_views_194 : decode cX12_views 194 = .ok (.ishl, 1) := by decide +kernel
theorem dX12_views_195 : decode cX12_views 195 = .ok (.iconst 1, 1) := by decide +kernel
theorem dX12_views_196 : decode cX12_views 196 = .ok (.isub, 1) := by decide +kernel
theorem dX12_views_197 : decode cX12_views 197 = .ok (.imul, 1) := by decide +kernel
theorem dX12_views_198 : decode cX12_views 198 = .ok (.iload_n 2, 1) := by decide +kernel
theorem dX12_views_199 : decode cX12_views 199 = .ok (.iadd, 1) := by decide +kernel
theorem dX12_views_200 : decode cX12_views 200 = .ok (.laload, 1) := by decide +kernel
theorem dX12_views_201 : decode cX12_views 201 = .ok (.lreturn, 1) := by decide +kernel
def is_X12_views : Nat → List Nat := fun d => if d = 33 then [0, 2, 3] else if d = 63 then [0, 2, 3] else if d = 76 then [0, 2, 3, 4] else if d = 111 then [0, 2, 3, 4, 5, 6] else []
set_option maxRecDepth 100000 in
def b_X12_views_171 (J : Nat → List qV → List qV → qW → Prop) (Q : qR) : qK := x_iinc 4 1 (x_cut [0, 2, 3, 4] (J 76))
set_option maxRecDepth 100000 in
theorem s_X12_views_171 {p : Program} {l : Launch} {e : Env} {R : Room} {s : State} {m : MethodId} {args : Array Value} {below : List Frame} {meth : Method} {c : Code} {nW : Nat} {dC : Nat → ClassId} {dI : Nat → Nat → Nat} {k : Nat → ClassId} {g : Nat → Nat} {A : Nat → Prop} {J : Nat → List qV → List qV → qW → Prop} {Q : qR} (X : q_X p R s m args meth c cX12_views 7 nW 3 65 RX12 (some .long) dC dI k g A) (hJ : ∀ d : Nat, q_Sd p l e R s m args below meth c 7 nW dC dI k g A (MQ below (q_post (dC, dI) k g nW Q A) args s 0 0 A) d (x_cut (is_X12_views d) (J d))) : q_Sd p l e R s m args below meth c 7 nW dC dI k g A (MQ below (q_post (dC, dI) k g nW Q A) args s 0 0 A) 171 (b_X12_views_171 J Q) := by
  unfold b_X12_views_171
  refine s_iinc X (by decide) dX12_views_171 ?_
  refine s_goto X (tgt := 76) dX12_views_174 (by decide) ?_
  exact hJ 76
set_option maxRecDepth 100000 in
def b_X12_views_151 (J : Nat → List qV → List qV → qW → Prop) (Q : qR) : qK := x_aload 0 (x_get 12 42 (x_int 9 (x_iload 3 (x_imul (x_iload 6 (x_iadd (x_lald (x_ladd (x_last (x_nw (x_iinc 6 1 (x_cut [0, 2, 3, 4, 5, 6] (J 111)))))))))))))
set_option maxRecDepth 100000 in
theorem s_X12_views_151 {p : Program} {l : Launch} {e : Env} {R : Room} {s : State} {m : MethodId} {args : Array Value} {below : List Frame} {meth : Method} {c : Code} {nW : Nat} {dC : Nat → ClassId} {dI : Nat → Nat → Nat} {k : Nat → ClassId} {g : Nat → Nat} {A : Nat → Prop} {J : Nat → List qV → List qV → qW → Prop} {Q : qR} (X : q_X p R s m args meth c cX12_views 7 nW 3 65 RX12 (some .long) dC dI k g A) (hJ : ∀ d : Nat, q_Sd p l e R s m args below meth c 7 nW dC dI k g A (MQ below (q_post (dC, dI) k g nW Q A) args s 0 0 A) d (x_cut (is_X12_views d) (J d))) : q_Sd p l e R s m args below meth c 7 nW dC dI k g A (MQ below (q_post (dC, dI) k g nW Q A) args s 0 0 A) 151 (b_X12_views_151 J Q) := by
  unfold b_X12_views_151
  refine s_aload_n X rfl dX12_views_151 ?_
  refine s_get X (T := TX12) (C := RX12) (N := 45) tu_X12 rfl (by decide) tw_1039 dX12_views_152 ?_
  refine s_bipush X ⟨by decide, by decide⟩ (by decide) dX12_views_155 ?_
  refine s_iload_n X rfl dX12_views_157 ?_
  refine s_imul X dX12_views_158 ?_
  refine s_iload X dX12_views_159 ?_
  refine s_iadd X dX12_views_161 ?_
  refine s_lald X dX12_views_162 ?_
  refine s_ladd X dX12_views_163 ?_
  refine s_last X dX12_views_164 ?_
  refine s_nw ?_
  refine s_iinc X (by decide) dX12_views_165 ?_
  refine s_goto X (tgt := 111) dX12_views_168 (by decide) ?_
  exact hJ 111
set_option maxRecDepth 100000 in
def b_X12_views_111 (J : Nat → List qV → List qV → qW → Prop) (Q : qR) : qK := x_iload 6 (x_iload 5 (x_iadd (x_int 8 (x_icmp_gt (b_X12_views_171 J Q) (x_iload 3 (x_iload 4 (x_callr none 2 spr_X12_has (x_if_ne (b_X12_views_171 J Q) (x_aload 0 (x_get 12 42 (x_int 9 (x_iload 3 (x_int 1 (x_iload 4 (x_ishl (x_ior (x_imul (x_iload 6 (x_iadd (x_iload 5 (x_iadd (x_dup2 (x_lald (b_X12_views_151 J Q))))))))))))))))))))))))
set_option maxRecDepth 100000 in
theorem s_X12_views_111 {p : Program} {l : Launch} {e : Env} {R : Room} {s : State} {m : MethodId} {args : Array Value} {below : List Frame} {meth : Method} {c : Code} {nW : Nat} {dC : Nat → ClassId} {dI : Nat → Nat → Nat} {k : Nat → ClassId} {g : Nat → Nat} {A : Nat → Prop} {J : Nat → List qV → List qV → qW → Prop} {Q : qR} (X : q_X p R s m args meth c cX12_views 7 nW 3 65 RX12 (some .long) dC dI k g A) (hJ : ∀ d : Nat, q_Sd p l e R s m args below meth c 7 nW dC dI k g A (MQ below (q_post (dC, dI) k g nW Q A) args s 0 0 A) d (x_cut (is_X12_views d) (J d))) : q_Sd p l e R s m args below meth c 7 nW dC dI k g A (MQ below (q_post (dC, dI) k g nW Q A) args s 0 0 A) 111 (b_X12_views_111 J Q) := by
  unfold b_X12_views_111
  refine s_iload X dX12_views_111 ?_
  refine s_iload X dX12_views_113 ?_
  refine s_iadd X dX12_views_115 ?_
  refine s_bipush X ⟨by decide, by decide⟩ (by decide) dX12_views_116 ?_
  refine s_icmp_gt X (tgt := 171) dX12_views_118 (by decide) ?_ ?_
  · exact s_X12_views_171 X hJ
  · refine s_iload_n X rfl dX12_views_121 ?_
    refine s_iload X dX12_views_122 ?_
    refine s_callSr X (m_X12_has l) tw_1233 tw_1234 tw_134 tw_1235 (by decide +kernel) ⟨by decide, by decide⟩ dX12_views_124 ?_
    refine s_if_ne X (tgt := 171) dX12_views_127 (by decide) ?_ ?_
    · exact s_X12_views_171 X hJ
    · refine s_aload_n X rfl dX12_views_130 ?_
      refine s_get X (T := TX12) (C := RX12) (N := 45) tu_X12 rfl (by decide) tw_1039 dX12_views_131 ?_
      refine s_bipush X ⟨by decide, by decide⟩ (by decide) dX12_views_134 ?_
      refine s_iload_n X rfl dX12_views_136 ?_
      refine s_iconst X ⟨by decide, by decide⟩ dX12_views_137 ?_
      refine s_iload X dX12_views_138 ?_
      refine s_ishl X dX12_views_140 ?_
      refine s_ior X dX12_views_141 ?_
      refine s_imul X dX12_views_142 ?_
      refine s_iload X dX12_views_143 ?_
      refine s_iadd X dX12_views_145 ?_
      refine s_iload X dX12_views_146 ?_
      refine s_iadd X dX12_views_148 ?_
      refine s_dup2 X dX12_views_149 ?_
      refine s_lald X dX12_views_150 ?_
      exact s_X12_views_151 X hJ
set_option maxRecDepth 100000 in
def b_X12_views_106 (J : Nat → List qV → List qV → qW → Prop) (Q : qR) : qK := x_istore 5 (x_int 0 (x_istore 6 (x_cut [0, 2, 3, 4, 5, 6] (J 111))))
set_option maxRecDepth 100000 in
theorem s_X12_views_106 {p : Program} {l : Launch} {e : Env} {R : Room} {s : State} {m : MethodId} {args : Array Value} {below : List Frame} {meth : Method} {c : Code} {nW : Nat} {dC : Nat → ClassId} {dI : Nat → Nat → Nat} {k : Nat → ClassId} {g : Nat → Nat} {A : Nat → Prop} {J : Nat → List qV → List qV → qW → Prop} {Q : qR} (X : q_X p R s m args meth c cX12_views 7 nW 3 65 RX12 (some .long) dC dI k g A) (hJ : ∀ d : Nat, q_Sd p l e R s m args below meth c 7 nW dC dI k g A (MQ below (q_post (dC, dI) k g nW Q A) args s 0 0 A) d (x_cut (is_X12_views d) (J d))) : q_Sd p l e R s m args below meth c 7 nW dC dI k g A (MQ below (q_post (dC, dI) k g nW Q A) args s 0 0 A) 106 (b_X12_views_106 J Q) := by
  unfold b_X12_views_106
  refine s_istore X (by decide) dX12_views_106 ?_
  refine s_iconst X ⟨by decide, by decide⟩ dX12_views_108 ?_
  refine s_istore X (by decide) dX12_views_109 ?_
  exact hJ 111
set_option maxRecDepth 100000 in
def b_X12_views_76 (J : Nat → List qV → List qV → qW → Prop) (Q : qR) : qK := x_iload 4 (x_aload 0 (x_get 12 25 (x_icmp_ge (x_iinc 3 1 (x_cut [0, 2, 3] (J 63))) (x_aload 0 (x_int 5 (x_iload 4 (x_iadd (x_callr (some 12) 2 spr_X12_of (x_aload 0 (x_iload 3 (x_callr (some 12) 2 spr_X12_tallest (x_icmp_le (x_int 0 (b_X12_views_106 J Q)) (x_int 1 (b_X12_views_106 J Q))))))))))))))
set_option maxRecDepth 100000 in
theorem s_X12_views_76 {p : Program} {l : Launch} {e : Env} {R : Room} {s : State} {m : MethodId} {args : Array Value} {below : List Frame} {meth : Method} {c : Code} {nW : Nat} {dC : Nat → ClassId} {dI : Nat → Nat → Nat} {k : Nat → ClassId} {g : Nat → Nat} {A : Nat → Prop} {J : Nat → List qV → List qV → qW → Prop} {Q : qR} (X : q_X p R s m args meth c cX12_views 7 nW 3 65 RX12 (some .long) dC dI k g A) (hJ : ∀ d : Nat, q_Sd p l e R s m args below meth c 7 nW dC dI k g A (MQ below (q_post (dC, dI) k g nW Q A) args s 0 0 A) d (x_cut (is_X12_views d) (J d))) : q_Sd p l e R s m args below meth c 7 nW dC dI k g A (MQ below (q_post (dC, dI) k g nW Q A) args s 0 0 A) 76 (b_X12_views_76 J Q) := by
  unfold b_X12_views_76
  refine s_iload X dX12_views_76 ?_
  refine s_aload_n X rfl dX12_views_78 ?_
  refine s_get X (T := TX12) (C := RX12) (N := 45) tu_X12 rfl (by decide) tw_1022 dX12_views_79 ?_
  refine s_icmp_ge X (tgt := 177) dX12_views_82 (by decide) ?_ ?_
  · refine s_iinc X (by decide) dX12_views_177 ?_
    refine s_goto X (tgt := 63) dX12_views_180 (by decide) ?_
    exact hJ 63
  · refine s_aload_n X rfl dX12_views_85 ?_
    refine s_iconst X ⟨by decide, by decide⟩ dX12_views_86 ?_
    refine s_iload X dX12_views_87 ?_
    refine s_iadd X dX12_views_89 ?_
    refine s_callVr X (m_X12_of l) tw_1189 tw_1190 tw_1603 tw_134 tw_1191 rfl (by decide +kernel) ⟨by decide, by decide⟩ dX12_views_90 ?_
    refine s_aload_n X rfl dX12_views_93 ?_
    refine s_iload_n X rfl dX12_views_94 ?_
    refine s_callVr X (m_X12_tallest l) tw_1433 tw_1434 tw_1626 tw_134 tw_1435 rfl (by decide +kernel) ⟨by decide, by decide⟩ dX12_views_95 ?_
    refine s_icmp_le X (tgt := 105) dX12_views_98 (by decide) ?_ ?_
    · refine s_iconst X ⟨by decide, by decide⟩ dX12_views_105 ?_
      exact s_X12_views_106 X hJ
    · refine s_iconst X ⟨by decide, by decide⟩ dX12_views_101 ?_
      refine s_goto X (tgt := 106) dX12_views_102 (by decide) ?_
      exact s_X12_views_106 X hJ
set_option maxRecDepth 100000 in
def b_X12_views_63 (J : Nat → List qV → List qV → qW → Prop) (Q : qR) : qK := x_iload 3 (x_int 1 (x_aload 0 (x_get 12 25 (x_ishl (x_icmp_ge (x_aload 0 (x_get 12 42 (x_int 9 (x_int 1 (x_aload 0 (x_get 12 25 (x_ishl (x_int 1 (x_isub (x_imul (x_iload 2 (x_iadd (x_lald (x_lret Q)))))))))))))) (x_int 0 (x_istore 4 (x_cut [0, 2, 3, 4] (J 76)))))))))
set_option maxRecDepth 100000 in
theorem s_X12_views_63 {p : Program} {l : Launch} {e : Env} {R : Room} {s : State} {m : MethodId} {args : Array Value} {below : List Frame} {meth : Method} {c : Code} {nW : Nat} {dC : Nat → ClassId} {dI : Nat → Nat → Nat} {k : Nat → ClassId} {g : Nat → Nat} {A : Nat → Prop} {J : Nat → List qV → List qV → qW → Prop} {Q : qR} (X : q_X p R s m args meth c cX12_views 7 nW 3 65 RX12 (some .long) dC dI k g A) (hJ : ∀ d : Nat, q_Sd p l e R s m args below meth c 7 nW dC dI k g A (MQ below (q_post (dC, dI) k g nW Q A) args s 0 0 A) d (x_cut (is_X12_views d) (J d))) : q_Sd p l e R s m args below meth c 7 nW dC dI k g A (MQ below (q_post (dC, dI) k g nW Q A) args s 0 0 A) 63 (b_X12_views_63 J Q) := by
  unfold b_X12_views_63
  refine s_iload_n X rfl dX12_views_63 ?_
  refine s_iconst X ⟨by decide, by decide⟩ dX12_views_64 ?_
  refine s_aload_n X rfl dX12_views_65 ?_
  refine s_get X (T := TX12) (C := RX12) (N := 45) tu_X12 rfl (by decide) tw_1022 dX12_views_66 ?_
  refine s_ishl X dX12_views_69 ?_
  refine s_icmp_ge X (tgt := 183) dX12_views_70 (by decide) ?_ ?_
  · refine s_aload_n X rfl dX12_views_183 ?_
    refine s_get X (T := TX12) (C := RX12) (N := 45) tu_X12 rfl (by decide) tw_1039 dX12_views_184 ?_
    refine s_bipush X ⟨by decide, by decide⟩ (by decide) dX12_views_187 ?_
    refine s_iconst X ⟨by decide, by decide⟩ dX12_views_189 ?_
    refine s_aload_n X rfl dX12_views_190 ?_
    refine s_get X (T := TX12) (C := RX12) (N := 45) tu_X12 rfl (by decide) tw_1022 dX12_views_191 ?_
    refine s_ishl X dX12_views_194 ?_
    refine s_iconst X ⟨by decide, by decide⟩ dX12_views_195 ?_
    refine s_isub X dX12_views_196 ?_
    refine s_imul X dX12_views_197 ?_
    refine s_iload_n X rfl dX12_views_198 ?_
    refine s_iadd X dX12_views_199 ?_
    refine s_lald X dX12_views_200 ?_
    exact s_lret X dX12_views_201
  · refine s_iconst X ⟨by decide, by decide⟩ dX12_views_73 ?_
    refine s_istore X (by decide) dX12_views_74 ?_
    exact hJ 76
set_option maxRecDepth 100000 in
def b_X12_views_54 (J : Nat → List qV → List qV → qW → Prop) (Q : qR) : qK := x_last (x_nw (x_iinc 3 1 (x_cut [0, 2, 3] (J 33))))
set_option maxRecDepth 100000 in
theorem s_X12_views_54 {p : Program} {l : Launch} {e : Env} {R : Room} {s : State} {m : MethodId} {args : Array Value} {below : List Frame} {meth : Method} {c : Code} {nW : Nat} {dC : Nat → ClassId} {dI : Nat → Nat → Nat} {k : Nat → ClassId} {g : Nat → Nat} {A : Nat → Prop} {J : Nat → List qV → List qV → qW → Prop} {Q : qR} (X : q_X p R s m args meth c cX12_views 7 nW 3 65 RX12 (some .long) dC dI k g A) (hJ : ∀ d : Nat, q_Sd p l e R s m args below meth c 7 nW dC dI k g A (MQ below (q_post (dC, dI) k g nW Q A) args s 0 0 A) d (x_cut (is_X12_views d) (J d))) : q_Sd p l e R s m args below meth c 7 nW dC dI k g A (MQ below (q_post (dC, dI) k g nW Q A) args s 0 0 A) 54 (b_X12_views_54 J Q) := by
  unfold b_X12_views_54
  refine s_last X dX12_views_54 ?_
  refine s_nw ?_
  refine s_iinc X (by decide) dX12_views_55 ?_
  refine s_goto X (tgt := 33) dX12_views_58 (by decide) ?_
  exact hJ 33
set_option maxRecDepth 100000 in
def b_X12_views_33 (J : Nat → List qV → List qV → qW → Prop) (Q : qR) : qK := x_iload 3 (x_int 2304 (x_icmp_ge (x_int 0 (x_istore 3 (x_cut [0, 2, 3] (J 63)))) (x_aload 0 (x_get 12 42 (x_iload 3 (x_iload 3 (x_if_ne (x_lng 0 (b_X12_views_54 J Q)) (x_lng 1 (b_X12_views_54 J Q)))))))))
set_option maxRecDepth 100000 in
theorem s_X12_views_33 {p : Program} {l : Launch} {e : Env} {R : Room} {s : State} {m : MethodId} {args : Array Value} {below : List Frame} {meth : Method} {c : Code} {nW : Nat} {dC : Nat → ClassId} {dI : Nat → Nat → Nat} {k : Nat → ClassId} {g : Nat → Nat} {A : Nat → Prop} {J : Nat → List qV → List qV → qW → Prop} {Q : qR} (X : q_X p R s m args meth c cX12_views 7 nW 3 65 RX12 (some .long) dC dI k g A) (hJ : ∀ d : Nat, q_Sd p l e R s m args below meth c 7 nW dC dI k g A (MQ below (q_post (dC, dI) k g nW Q A) args s 0 0 A) d (x_cut (is_X12_views d) (J d))) : q_Sd p l e R s m args below meth c 7 nW dC dI k g A (MQ below (q_post (dC, dI) k g nW Q A) args s 0 0 A) 33 (b_X12_views_33 J Q) := by
  unfold b_X12_views_33
  refine s_iload_n X rfl dX12_views_33 ?_
  refine s_sipush X ⟨by decide, by decide⟩ (by decide) dX12_views_34 ?_
  refine s_icmp_ge X (tgt := 61) dX12_views_37 (by decide) ?_ ?_
  · refine s_iconst X ⟨by decide, by decide⟩ dX12_views_61 ?_
    refine s_istore_n X rfl (by decide) dX12_views_62 ?_
    exact hJ 63
  · refine s_aload_n X rfl dX12_views_40 ?_
    refine s_get X (T := TX12) (C := RX12) (N := 45) tu_X12 rfl (by decide) tw_1039 dX12_views_41 ?_
    refine s_iload_n X rfl dX12_views_44 ?_
    refine s_iload_n X rfl dX12_views_45 ?_
    refine s_if_ne X (tgt := 53) dX12_views_46 (by decide) ?_ ?_
    · refine s_lconst X ⟨by decide, by decide⟩ (by decide) dX12_views_53 ?_
      exact s_X12_views_54 X hJ
    · refine s_lconst X ⟨by decide, by decide⟩ (by decide) dX12_views_49 ?_
      refine s_goto X (tgt := 54) dX12_views_50 (by decide) ?_
      exact s_X12_views_54 X hJ
set_option maxRecDepth 100000 in
def b_X12_views_0 (J : Nat → List qV → List qV → qW → Prop) (Q : qR) : qK := x_aload 0 (x_int 0 (x_put 12 0 q_oki (x_nw (x_aload 0 (x_iload 1 (x_call (some 12) 2 sp_X12_hand (x_nw (x_if_ne (x_iload 2 (x_int 0 (x_aload 0 (x_get 12 25 (x_callr none 3 spr_X12_in (x_if_ne (x_int 0 (x_istore 3 (x_cut [0, 2, 3] (J 33)))) (x_lng 0 (x_lret Q)))))))) (x_lng (-1) (x_lret Q))))))))))
set_option maxRecDepth 100000 in
theorem s_X12_views_0 {p : Program} {l : Launch} {e : Env} {R : Room} {s : State} {m : MethodId} {args : Array Value} {below : List Frame} {meth : Method} {c : Code} {nW : Nat} {dC : Nat → ClassId} {dI : Nat → Nat → Nat} {k : Nat → ClassId} {g : Nat → Nat} {A : Nat → Prop} {J : Nat → List qV → List qV → qW → Prop} {Q : qR} (X : q_X p R s m args meth c cX12_views 7 nW 3 65 RX12 (some .long) dC dI k g A) (hJ : ∀ d : Nat, q_Sd p l e R s m args below meth c 7 nW dC dI k g A (MQ below (q_post (dC, dI) k g nW Q A) args s 0 0 A) d (x_cut (is_X12_views d) (J d))) : q_Sd p l e R s m args below meth c 7 nW dC dI k g A (MQ below (q_post (dC, dI) k g nW Q A) args s 0 0 A) 0 (b_X12_views_0 J Q) := by
  unfold b_X12_views_0
  refine s_aload_n X rfl dX12_views_0 ?_
  refine s_iconst X ⟨by decide, by decide⟩ dX12_views_1 ?_
  refine s_put X (T := TX12) (C := RX12) (N := 45) tu_X12 tyX12_ok nmX12 rfl (by decide) tw_997 rfl (by decide +kernel) q_oki_t dX12_views_2 ?_
  refine s_nw ?_
  refine s_aload_n X rfl dX12_views_5 ?_
  refine s_iload_n X rfl dX12_views_6 ?_
  refine s_callV X (m_X12_hand l) tw_1186 tw_1187 tw_1585 tw_134 tw_1188 rfl (by decide +kernel) ⟨by decide, by decide⟩ dX12_views_7 ?_
  refine s_nw ?_
  refine s_if_ne X (tgt := 17) dX12_views_10 (by decide) ?_ ?_
  · refine s_iload_n X rfl dX12_views_17 ?_
    refine s_iconst X ⟨by decide, by decide⟩ dX12_views_18 ?_
    refine s_aload_n X rfl dX12_views_19 ?_
    refine s_get X (T := TX12) (C := RX12) (N := 45) tu_X12 rfl (by decide) tw_1022 dX12_views_20 ?_
    refine s_callSr X (m_X12_in l) tw_1054 tw_1055 tw_134 tw_1056 (by decide +kernel) ⟨by decide, by decide⟩ dX12_views_23 ?_
    refine s_if_ne X (tgt := 31) dX12_views_26 (by decide) ?_ ?_
    · refine s_iconst X ⟨by decide, by decide⟩ dX12_views_31 ?_
      refine s_istore_n X rfl (by decide) dX12_views_32 ?_
      exact hJ 33
    · refine s_lconst X ⟨by decide, by decide⟩ (by decide) dX12_views_29 ?_
      exact s_lret X dX12_views_30
  · refine s_ldc2 X ⟨by decide, by decide⟩ tw_1391 dX12_views_13 ?_
    exact s_lret X dX12_views_16

def sp_X12_views : qS := fun av w Q => ∃ (mco : Int) (mre : Int) (mle : Int) (mbe : Int) (mso : Int) (mva : Int) (mwo : Int) (mwr : Int) (mlf : Int) (mlp : Int) (mfp : Int) (mfd : Int) (mgo : Int) (mbo : Int) (mpe : Int) (mye : Int) (mpr : Int) (mld : Int) (msi : Int) (mse : Int) (mn : Nat → Int) (bs : Nat → Int) (se : Nat → Int) (a : Int) (b : Int), av = [q2 0, q1 a, q1 b] ∧ w = [.inr (12, [q1 mco, q2 4, q2 5, q2 6, q2 7, q2 1, q2 2, q2 8, q2 9, q2 10, q1 mre, q1 mle, q1 mbe, q1 mso, q1 mva, q3 mwo, q1 mwr, q1 mlf, q1 mlp, q2 11, q2 12, q1 mfp, q1 mfd, q1 mgo, q1 mbo, q1 mpe, q1 mye, q2 13, q1 mpr, q2 14, q2 15, q2 16, q2 17, q1 mld, q2 18, q1 msi, q2 19, q2 20, q2 21, q2 22, q2 23, q1 mse, q2 3, q2 24, q2 25]), .inl (0, 16, .inl mn), .inl (0, 600, .inl bs), .inl (3, 2304, .inr (.inl se))] ∧ (q_rg 0 2 mn) ∧ (BI bs) ∧ (∀ (r : Int) (x_mco : Int) (x_mbo : Int) (x_mpe : Int) (x_se : Nat → Int), Q (some (q3 r)) ([.inr (12, [q1 x_mco, q2 4, q2 5, q2 6, q2 7, q2 1, q2 2, q2 8, q2 9, q2 10, q1 mre, q1 mle, q1 mbe, q1 mso, q1 mva, q3 mwo, q1 mwr, q1 mlf, q1 mlp, q2 11, q2 12, q1 mfp, q1 mfd, q1 mgo, q1 x_mbo, q1 x_mpe, q1 mye, q2 13, q1 mpr, q2 14, q2 15, q2 16, q2 17, q1 mld, q2 18, q1 msi, q2 19, q2 20, q2 21, q2 22, q2 23, q1 mse, q2 3, q2 24, q2 25]), .inl (0, 16, .inl mn), .inl (0, 600, .inl bs), .inl (3, 2304, .inr (.inl x_se))]))
def I_X12_views (mco : Int) (mre : Int) (mle : Int) (mbe : Int) (mso : Int) (mva : Int) (mwo : Int) (mwr : Int) (mlf : Int) (mlp : Int) (mfp : Int) (mfd : Int) (mgo : Int) (mbo : Int) (mpe : Int) (mye : Int) (mpr : Int) (mld : Int) (msi : Int) (mse : Int) (mn : Nat → Int) (bs : Nat → Int) (se : Nat → Int) (a : Int) (b : Int) : Nat → Nat → List qV → List qV → qW → Prop := fun dz mz vz sz wz => if dz = 33 then (∃ (y_mco : Int) (y_mbo : Int) (y_mpe : Int) (y_se : Nat → Int) (v3 : Int), vz = [q2 0, q1 b, q1 v3] ∧ sz = [] ∧ wz = [.inr (12, [q1 y_mco, q2 4, q2 5, q2 6, q2 7, q2 1, q2 2, q2 8, q2 9, q2 10, q1 mre, q1 mle, q1 mbe, q1 mso, q1 mva, q3 mwo, q1 mwr, q1 mlf, q1 mlp, q2 11, q2 12, q1 mfp, q1 mfd, q1 mgo, q1 y_mbo, q1 y_mpe, q1 mye, q2 13, q1 mpr, q2 14, q2 15, q2 16, q2 17, q1 mld, q2 18, q1 msi, q2 19, q2 20, q2 21, q2 22, q2 23, q1 mse, q2 3, q2 24, q2 25]), .inl (0, 16, .inl mn), .inl (0, 600, .inl bs), .inl (3, 2304, .inr (.inl y_se))] ∧ mz = 1000000000 + (2304 - v3).toNat ∧ (0 ≤ v3 ∧ v3 ≤ 2304) ∧ (0 ≤ y_mbo ∧ y_mbo ≤ 1 ∧ 0 ≤ y_mpe ∧ y_mpe ≤ 8) ∧ (0 ≤ b ∧ b ≤ y_mpe)) else if dz = 63 then (∃ (y_mco : Int) (y_mbo : Int) (y_mpe : Int) (y_se : Nat → Int) (v3 : Int), vz = [q2 0, q1 b, q1 v3] ∧ sz = [] ∧ wz = [.inr (12, [q1 y_mco, q2 4, q2 5, q2 6, q2 7, q2 1, q2 2, q2 8, q2 9, q2 10, q1 mre, q1 mle, q1 mbe, q1 mso, q1 mva, q3 mwo, q1 mwr, q1 mlf, q1 mlp, q2 11, q2 12, q1 mfp, q1 mfd, q1 mgo, q1 y_mbo, q1 y_mpe, q1 mye, q2 13, q1 mpr, q2 14, q2 15, q2 16, q2 17, q1 mld, q2 18, q1 msi, q2 19, q2 20, q2 21, q2 22, q2 23, q1 mse, q2 3, q2 24, q2 25]), .inl (0, 16, .inl mn), .inl (0, 600, .inl bs), .inl (3, 2304, .inr (.inl y_se))] ∧ mz = 100000 * (257 - v3).toNat ∧ (0 ≤ y_mbo ∧ y_mbo ≤ 1 ∧ 0 ≤ y_mpe ∧ y_mpe ≤ 8) ∧ (0 ≤ b ∧ b ≤ y_mpe) ∧ (0 ≤ v3 ∧ v3 ≤ 256)) else if dz = 76 then (∃ (y_mco : Int) (y_mbo : Int) (y_mpe : Int) (y_se : Nat → Int) (v3 : Int) (v4 : Int), vz = [q2 0, q1 b, q1 v3, q1 v4] ∧ sz = [] ∧ wz = [.inr (12, [q1 y_mco, q2 4, q2 5, q2 6, q2 7, q2 1, q2 2, q2 8, q2 9, q2 10, q1 mre, q1 mle, q1 mbe, q1 mso, q1 mva, q3 mwo, q1 mwr, q1 mlf, q1 mlp, q2 11, q2 12, q1 mfp, q1 mfd, q1 mgo, q1 y_mbo, q1 y_mpe, q1 mye, q2 13, q1 mpr, q2 14, q2 15, q2 16, q2 17, q1 mld, q2 18, q1 msi, q2 19, q2 20, q2 21, q2 22, q2 23, q1 mse, q2 3, q2 24, q2 25]), .inl (0, 16, .inl mn), .inl (0, 600, .inl bs), .inl (3, 2304, .inr (.inl y_se))] ∧ mz = 100000 * (257 - v3).toNat - 50000 + 100 * (8 - v4).toNat ∧ (0 ≤ y_mbo ∧ y_mbo ≤ 1 ∧ 0 ≤ y_mpe ∧ y_mpe ≤ 8) ∧ (0 ≤ b ∧ b ≤ y_mpe) ∧ (0 ≤ v3 ∧ v3 ≤ 255 ∧ 0 ≤ v4 ∧ v4 ≤ y_mpe)) else if dz = 111 then (∃ (y_mco : Int) (y_mbo : Int) (y_mpe : Int) (y_se : Nat → Int) (v3 : Int) (v4 : Int) (v5 : Int) (v6 : Int), vz = [q2 0, q1 b, q1 v3, q1 v4, q1 v5, q1 v6] ∧ sz = [] ∧ wz = [.inr (12, [q1 y_mco, q2 4, q2 5, q2 6, q2 7, q2 1, q2 2, q2 8, q2 9, q2 10, q1 mre, q1 mle, q1 mbe, q1 mso, q1 mva, q3 mwo, q1 mwr, q1 mlf, q1 mlp, q2 11, q2 12, q1 mfp, q1 mfd, q1 mgo, q1 y_mbo, q1 y_mpe, q1 mye, q2 13, q1 mpr, q2 14, q2 15, q2 16, q2 17, q1 mld, q2 18, q1 msi, q2 19, q2 20, q2 21, q2 22, q2 23, q1 mse, q2 3, q2 24, q2 25]), .inl (0, 16, .inl mn), .inl (0, 600, .inl bs), .inl (3, 2304, .inr (.inl y_se))] ∧ mz = 100000 * (257 - v3).toNat - 50000 + 100 * (8 - v4).toNat - 50 + (10 - v6).toNat ∧ (0 ≤ y_mbo ∧ y_mbo ≤ 1 ∧ 0 ≤ y_mpe ∧ y_mpe ≤ 8) ∧ (0 ≤ b ∧ b ≤ y_mpe) ∧ (0 ≤ v3 ∧ v3 ≤ 255 ∧ 0 ≤ v4 ∧ v4 < y_mpe ∧ 0 ≤ v5 ∧ v5 ≤ 1 ∧ 0 ≤ v6 ∧ v6 ≤ 9)) else False
set_option maxHeartbeats 4000000 in
set_option maxRecDepth 100000 in
theorem m_X12_views (l : Launch) : q_M l yX12_views cX12_views 7 (some .long) 3 65 sp_X12_views := by
  refine q_meth (by decide) (fun av w Q h => by obtain ⟨mco, mre, mle, mbe, mso, mva, mwo, mwr, mlf, mlp, mfp, mfd, mgo, mbo, mpe, mye, mpr, mld, msi, mse, mn, bs, se, a, b, rfl, rfl, hmn, hbi, hQ⟩ := h; exact Nat.le_of_ble_eq_true rfl) ?_
  intro p e R s m args below meth c dC dI k g A av w Q hsp oka okw X
  obtain ⟨mco, mre, mle, mbe, mso, mva, mwo, mwr, mlf, mlp, mfp, mfd, mgo, mbo, mpe, mye, mpr, mld, msi, mse, mn, bs, se, a, b, rfl, rfl, hmn, hbi, hQ⟩ := hsp
  have o_a : -2147483648 ≤ a ∧ a ≤ 2147483647 := oka _ (List.mem_of_getElem? (i := 1) rfl)
  have o_b : -2147483648 ≤ b ∧ b ≤ 2147483647 := oka _ (List.mem_of_getElem? (i := 2) rfl)
  refine s_mono (s_X12_views_0 X (J := fun dz vz sz wz => ∃ mz, I_X12_views mco mre mle mbe mso mva mwo mwr mlf mlp mfp mfd mgo mbo mpe mye mpr mld msi mse mn bs se a b dz mz vz sz wz) (q_loopn (I_X12_views mco mre mle mbe mso mva mwo mwr mlf mlp mfp mfd mgo mbo mpe mye mpr mld msi mse mn bs se a b) (fun dz J => if dz = 33 then b_X12_views_33 J Q else if dz = 63 then b_X12_views_63 J Q else if dz = 76 then b_X12_views_76 J Q else if dz = 111 then b_X12_views_111 J Q else q_F) ?hs ?hv)) ?_
  case hs =>
    intro d J hJ
    by_cases h33 : d = 33
    · subst h33; exact s_X12_views_33 X hJ
    by_cases h63 : d = 63
    · subst h63; exact s_X12_views_63 X hJ
    by_cases h76 : d = 76
    · subst h76; exact s_X12_views_76 X hJ
    by_cases h111 : d = 111
    · subst h111; exact s_X12_views_111 X hJ
    simp only [h33, h63, h76, h111, if_false]
    exact s_F
  case hv =>
    intro dz mz vz sz wz hI okv oks okw hlen
    by_cases h33 : dz = 33
    · subst h33
      obtain ⟨y_mco, y_mbo, y_mpe, y_se, v3, rfl, rfl, rfl, hn, hp, hyb, hb⟩ := hI
      apply And.intro
      · intro h37
        exact ⟨_, ⟨_, _, _, _, _, rfl, rfl, rfl, rfl, (by first | omega | assumption | exact q_rg_up (by assumption) (by omega) | exact q_rg_up (q_rg_up (by assumption) (by omega)) (by omega) | exact q_rg_cpy (by assumption) (by assumption)), (by first | omega | assumption | exact q_rg_up (by assumption) (by omega) | exact q_rg_up (q_rg_up (by assumption) (by omega)) (by omega) | exact q_rg_cpy (by assumption) (by assumption)), (by first | omega | assumption | exact q_rg_up (by assumption) (by omega) | exact q_rg_up (q_rg_up (by assumption) (by omega)) (by omega) | exact q_rg_cpy (by assumption) (by assumption))⟩, by omega⟩
      · intro h37
        apply And.intro
        · intro h46
          apply And.intro
          · exact ⟨by omega, by omega⟩
          intro z55 h55
          first | replace h55 := e_add h55 (by omega) | replace h55 := e_rng h55
          exact ⟨_, ⟨_, _, _, _, _, rfl, rfl, rfl, rfl, (by first | omega | assumption | exact q_rg_up (by assumption) (by omega) | exact q_rg_up (q_rg_up (by assumption) (by omega)) (by omega) | exact q_rg_cpy (by assumption) (by assumption)), (by first | omega | assumption | exact q_rg_up (by assumption) (by omega) | exact q_rg_up (q_rg_up (by assumption) (by omega)) (by omega) | exact q_rg_cpy (by assumption) (by assumption)), (by first | omega | assumption | exact q_rg_up (by assumption) (by omega) | exact q_rg_up (q_rg_up (by assumption) (by omega)) (by omega) | exact q_rg_cpy (by assumption) (by assumption))⟩, by omega⟩
        · intro h46
          apply And.intro
          · exact ⟨by omega, by omega⟩
          intro z55 h55
          first | replace h55 := e_add h55 (by omega) | replace h55 := e_rng h55
          exact ⟨_, ⟨_, _, _, _, _, rfl, rfl, rfl, rfl, (by first | omega | assumption | exact q_rg_up (by assumption) (by omega) | exact q_rg_up (q_rg_up (by assumption) (by omega)) (by omega) | exact q_rg_cpy (by assumption) (by assumption)), (by first | omega | assumption | exact q_rg_up (by assumption) (by omega) | exact q_rg_up (q_rg_up (by assumption) (by omega)) (by omega) | exact q_rg_cpy (by assumption) (by assumption)), (by first | omega | assumption | exact q_rg_up (by assumption) (by omega) | exact q_rg_up (q_rg_up (by assumption) (by omega)) (by omega) | exact q_rg_cpy (by assumption) (by assumption))⟩, by omega⟩
    by_cases h63 : dz = 63
    · subst h63
      obtain ⟨y_mco, y_mbo, y_mpe, y_se, v3, rfl, rfl, rfl, hn, hyb, hb, hp⟩ := hI
      intro z69 h69
      first | replace h69 := e_shl h69 (by omega) | replace h69 := e_rng h69
      apply And.intro
      · intro h70
        intro z194 h194
        first | replace h194 := e_shl h194 (by omega) | replace h194 := e_rng h194
        intro z196 h196
        first | replace h196 := e_sub h196 (by omega) | replace h196 := e_rng h196
        intro z197 h197
        first | replace h197 := e_mul h197 (by omega) | replace h197 := e_rng h197
        intro z199 h199
        first | replace h199 := e_add h199 (by omega) | replace h199 := e_rng h199
        apply And.intro
        · exact ⟨by omega, by omega⟩
        intro z200 h200
        exact hQ _ _ _ _ _
      · intro h70
        exact ⟨_, ⟨_, _, _, _, _, _, rfl, rfl, rfl, rfl, (by first | omega | assumption | exact q_rg_up (by assumption) (by omega) | exact q_rg_up (q_rg_up (by assumption) (by omega)) (by omega) | exact q_rg_cpy (by assumption) (by assumption)), (by first | omega | assumption | exact q_rg_up (by assumption) (by omega) | exact q_rg_up (q_rg_up (by assumption) (by omega)) (by omega) | exact q_rg_cpy (by assumption) (by assumption)), (by first | omega | assumption | exact q_rg_up (by assumption) (by omega) | exact q_rg_up (q_rg_up (by assumption) (by omega)) (by omega) | exact q_rg_cpy (by assumption) (by assumption))⟩, by omega⟩
    by_cases h76 : dz = 76
    · subst h76
      obtain ⟨y_mco, y_mbo, y_mpe, y_se, v3, v4, rfl, rfl, rfl, hn, hyb, hb, hp⟩ := hI
      apply And.intro
      · intro h82
        intro z177 h177
        first | replace h177 := e_add h177 (by omega) | replace h177 := e_rng h177
        exact ⟨_, ⟨_, _, _, _, _, rfl, rfl, rfl, rfl, (by first | omega | assumption | exact q_rg_up (by assumption) (by omega) | exact q_rg_up (q_rg_up (by assumption) (by omega)) (by omega) | exact q_rg_cpy (by assumption) (by assumption)), (by first | omega | assumption | exact q_rg_up (by assumption) (by omega) | exact q_rg_up (q_rg_up (by assumption) (by omega)) (by omega) | exact q_rg_cpy (by assumption) (by assumption)), (by first | omega | assumption | exact q_rg_up (by assumption) (by omega) | exact q_rg_up (q_rg_up (by assumption) (by omega)) (by omega) | exact q_rg_cpy (by assumption) (by assumption))⟩, by omega⟩
      · intro h82
        intro z89 h89
        first | replace h89 := e_add h89 (by omega) | replace h89 := e_rng h89
        refine Exists.intro [0, 2, 4, 5, 6, 7, 1, 8, 9, 10, 11, 12, 13, 14, 15, 16, 17, 18, 19, 20, 21, 22, 23, 3, 24, 25] (Exists.intro [q2 0, q1 _] (Exists.intro ([.inr (12, [q1 _, q2 2, q2 3, q2 4, q2 5, q2 6, q2 1, q2 7, q2 8, q2 9, q1 _, q1 _, q1 _, q1 _, q1 _, q3 _, q1 _, q1 _, q1 _, q2 10, q2 11, q1 _, q1 _, q1 _, q1 _, q1 _, q1 _, q2 12, q1 _, q2 13, q2 14, q2 15, q2 16, q1 _, q2 17, q1 _, q2 18, q2 19, q2 20, q2 21, q2 22, q1 _, q2 23, q2 24, q2 25]), .inl (0, 600, .inl _)]) (And.intro rfl (And.intro rfl (And.intro rfl (And.intro ⟨⟨_, rfl⟩, rfl⟩ ?_))))))
        refine Exists.intro _ (Exists.intro _ (Exists.intro _ (Exists.intro _ (Exists.intro _ (Exists.intro _ (Exists.intro _ (Exists.intro _ (Exists.intro _ (Exists.intro _ (Exists.intro _ (Exists.intro _ (Exists.intro _ (Exists.intro _ (Exists.intro _ (Exists.intro _ (Exists.intro _ (Exists.intro _ (Exists.intro _ (Exists.intro _ (Exists.intro _ (Exists.intro _ (And.intro rfl (And.intro rfl (And.intro (by first | omega | assumption | exact q_rg_up (by assumption) (by omega) | exact q_rg_up (q_rg_up (by assumption) (by omega)) (by omega) | exact q_rg_cpy (by assumption) (by assumption)) (And.intro (by first | omega | assumption | exact q_rg_up (by assumption) (by omega) | exact q_rg_up (q_rg_up (by assumption) (by omega)) (by omega) | exact q_rg_cpy (by assumption) (by assumption)) (And.intro (by first | omega | assumption | exact q_rg_up (by assumption) (by omega) | exact q_rg_up (q_rg_up (by assumption) (by omega)) (by omega) | exact q_rg_cpy (by assumption) (by assumption)) (?_)))))))))))))))))))))))))))
        intro z90 h90
        obtain ⟨h90, k90⟩ := h90
        first | replace k90 := OFQ_13 k90 (by omega) | replace k90 := OFQ_21 k90 (by omega) | clear k90
        refine Exists.intro [0, 2, 4, 5, 6, 7, 1, 8, 9, 10, 11, 12, 13, 14, 15, 16, 17, 18, 19, 20, 21, 22, 23, 3, 24, 25] (Exists.intro [q2 0, q1 _] (Exists.intro ([.inr (12, [q1 _, q2 2, q2 3, q2 4, q2 5, q2 6, q2 1, q2 7, q2 8, q2 9, q1 _, q1 _, q1 _, q1 _, q1 _, q3 _, q1 _, q1 _, q1 _, q2 10, q2 11, q1 _, q1 _, q1 _, q1 _, q1 _, q1 _, q2 12, q1 _, q2 13, q2 14, q2 15, q2 16, q1 _, q2 17, q1 _, q2 18, q2 19, q2 20, q2 21, q2 22, q1 _, q2 23, q2 24, q2 25]), .inl (0, 600, .inl _)]) (And.intro rfl (And.intro rfl (And.intro rfl (And.intro ⟨⟨_, rfl⟩, rfl⟩ ?_))))))
        refine Exists.intro _ (Exists.intro _ (Exists.intro _ (Exists.intro _ (Exists.intro _ (Exists.intro _ (Exists.intro _ (Exists.intro _ (Exists.intro _ (Exists.intro _ (Exists.intro _ (Exists.intro _ (Exists.intro _ (Exists.intro _ (Exists.intro _ (Exists.intro _ (Exists.intro _ (Exists.intro _ (Exists.intro _ (Exists.intro _ (Exists.intro _ (Exists.intro _ (And.intro rfl (And.intro rfl (And.intro (by first | omega | assumption | exact q_rg_up (by assumption) (by omega) | exact q_rg_up (q_rg_up (by assumption) (by omega)) (by omega) | exact q_rg_cpy (by assumption) (by assumption)) (And.intro (by first | omega | assumption | exact q_rg_up (by assumption) (by omega) | exact q_rg_up (q_rg_up (by assumption) (by omega)) (by omega) | exact q_rg_cpy (by assumption) (by assumption)) (And.intro (by first | omega | assumption | exact q_rg_up (by assumption) (by omega) | exact q_rg_up (q_rg_up (by assumption) (by omega)) (by omega) | exact q_rg_cpy (by assumption) (by assumption)) (?_)))))))))))))))))))))))))))
        intro z95
        apply And.intro
        · intro h98
          exact ⟨_, ⟨_, _, _, _, _, _, _, _, rfl, rfl, rfl, rfl, (by first | omega | assumption | exact q_rg_up (by assumption) (by omega) | exact q_rg_up (q_rg_up (by assumption) (by omega)) (by omega) | exact q_rg_cpy (by assumption) (by assumption)), (by first | omega | assumption | exact q_rg_up (by assumption) (by omega) | exact q_rg_up (q_rg_up (by assumption) (by omega)) (by omega) | exact q_rg_cpy (by assumption) (by assumption)), (by first | omega | assumption | exact q_rg_up (by assumption) (by omega) | exact q_rg_up (q_rg_up (by assumption) (by omega)) (by omega) | exact q_rg_cpy (by assumption) (by assumption))⟩, by omega⟩
        · intro h98
          exact ⟨_, ⟨_, _, _, _, _, _, _, _, rfl, rfl, rfl, rfl, (by first | omega | assumption | exact q_rg_up (by assumption) (by omega) | exact q_rg_up (q_rg_up (by assumption) (by omega)) (by omega) | exact q_rg_cpy (by assumption) (by assumption)), (by first | omega | assumption | exact q_rg_up (by assumption) (by omega) | exact q_rg_up (q_rg_up (by assumption) (by omega)) (by omega) | exact q_rg_cpy (by assumption) (by assumption)), (by first | omega | assumption | exact q_rg_up (by assumption) (by omega) | exact q_rg_up (q_rg_up (by assumption) (by omega)) (by omega) | exact q_rg_cpy (by assumption) (by assumption))⟩, by omega⟩
    by_cases h111 : dz = 111
    · subst h111
      obtain ⟨y_mco, y_mbo, y_mpe, y_se, v3, v4, v5, v6, rfl, rfl, rfl, hn, hyb, hb, hp⟩ := hI
      intro z115 h115
      first | replace h115 := e_add h115 (by omega) | replace h115 := e_rng h115
      apply And.intro
      · intro h118
        intro z171 h171
        first | replace h171 := e_add h171 (by omega) | replace h171 := e_rng h171
        exact ⟨_, ⟨_, _, _, _, _, _, rfl, rfl, rfl, rfl, (by first | omega | assumption | exact q_rg_up (by assumption) (by omega) | exact q_rg_up (q_rg_up (by assumption) (by omega)) (by omega) | exact q_rg_cpy (by assumption) (by assumption)), (by first | omega | assumption | exact q_rg_up (by assumption) (by omega) | exact q_rg_up (q_rg_up (by assumption) (by omega)) (by omega) | exact q_rg_cpy (by assumption) (by assumption)), (by first | omega | assumption | exact q_rg_up (by assumption) (by omega) | exact q_rg_up (q_rg_up (by assumption) (by omega)) (by omega) | exact q_rg_cpy (by assumption) (by assumption))⟩, by omega⟩
      · intro h118
        refine Exists.intro [] (Exists.intro [q1 _, q1 _] (Exists.intro [] (And.intro rfl (And.intro rfl (And.intro rfl (And.intro trivial ?_))))))
        refine Exists.intro _ (Exists.intro _ (And.intro rfl (And.intro rfl (?_))))
        intro z124 h124
        apply And.intro
        · intro h127
          intro z171 h171
          first | replace h171 := e_add h171 (by omega) | replace h171 := e_rng h171
          exact ⟨_, ⟨_, _, _, _, _, _, rfl, rfl, rfl, rfl, (by first | omega | assumption | exact q_rg_up (by assumption) (by omega) | exact q_rg_up (q_rg_up (by assumption) (by omega)) (by omega) | exact q_rg_cpy (by assumption) (by assumption)), (by first | omega | assumption | exact q_rg_up (by assumption) (by omega) | exact q_rg_up (q_rg_up (by assumption) (by omega)) (by omega) | exact q_rg_cpy (by assumption) (by assumption)), (by first | omega | assumption | exact q_rg_up (by assumption) (by omega) | exact q_rg_up (q_rg_up (by assumption) (by omega)) (by omega) | exact q_rg_cpy (by assumption) (by assumption))⟩, by omega⟩
        · intro h127
          intro z140 h140
          first | replace h140 := e_shl h140 (by omega) | replace h140 := e_rng h140
          intro z141 h141
          first | replace h141 := e_or8 h141 (by omega) (by omega) | replace h141 := e_or9 h141 (by omega) (by omega) | replace h141 := e_rng h141
          intro z142 h142
          first | replace h142 := e_mul h142 (by omega) | replace h142 := e_rng h142
          intro z145 h145
          first | replace h145 := e_add h145 (by omega) | replace h145 := e_rng h145
          intro z148 h148
          first | replace h148 := e_add h148 (by omega) | replace h148 := e_rng h148
          apply And.intro
          · exact ⟨by omega, by omega⟩
          intro z150 h150
          intro z158 h158
          first | replace h158 := e_mul h158 (by omega) | replace h158 := e_rng h158
          intro z161 h161
          first | replace h161 := e_add h161 (by omega) | replace h161 := e_rng h161
          apply And.intro
          · exact ⟨by omega, by omega⟩
          intro z162 h162
          intro z163 h163
          replace h163 := e_rngl h163
          apply And.intro
          · exact ⟨by omega, by omega⟩
          intro z165 h165
          first | replace h165 := e_add h165 (by omega) | replace h165 := e_rng h165
          exact ⟨_, ⟨_, _, _, _, _, _, _, _, rfl, rfl, rfl, rfl, (by first | omega | assumption | exact q_rg_up (by assumption) (by omega) | exact q_rg_up (q_rg_up (by assumption) (by omega)) (by omega) | exact q_rg_cpy (by assumption) (by assumption)), (by first | omega | assumption | exact q_rg_up (by assumption) (by omega) | exact q_rg_up (q_rg_up (by assumption) (by omega)) (by omega) | exact q_rg_cpy (by assumption) (by assumption)), (by first | omega | assumption | exact q_rg_up (by assumption) (by omega) | exact q_rg_up (q_rg_up (by assumption) (by omega)) (by omega) | exact q_rg_cpy (by assumption) (by assumption))⟩, by omega⟩
    simp only [I_X12_views, h33, h63, h76, h111, if_false] at hI
  rintro lv st w' ⟨rfl, rfl, rfl⟩
  apply And.intro
  · exact trivial
  refine Exists.intro [0, 1, 2, 4, 5, 6, 7, 8, 9, 10, 11, 12, 13, 14, 15, 16, 17, 18, 19, 20, 21, 22, 23, 3, 24, 25] (Exists.intro [q2 0, q1 _] (Exists.intro ([.inr (12, [q1 _, q2 3, q2 4, q2 5, q2 6, q2 1, q2 2, q2 7, q2 8, q2 9, q1 _, q1 _, q1 _, q1 _, q1 _, q3 _, q1 _, q1 _, q1 _, q2 10, q2 11, q1 _, q1 _, q1 _, q1 _, q1 _, q1 _, q2 12, q1 _, q2 13, q2 14, q2 15, q2 16, q1 _, q2 17, q1 _, q2 18, q2 19, q2 20, q2 21, q2 22, q1 _, q2 23, q2 24, q2 25]), .inl (0, 16, .inl _), .inl (0, 600, .inl _)]) (And.intro rfl (And.intro rfl (And.intro rfl (And.intro ⟨⟨_, rfl⟩, rfl⟩ ?_))))))
  refine Exists.intro _ (Exists.intro _ (Exists.intro _ (Exists.intro _ (Exists.intro _ (Exists.intro _ (Exists.intro _ (Exists.intro _ (Exists.intro _ (Exists.intro _ (Exists.intro _ (Exists.intro _ (Exists.intro _ (Exists.intro _ (Exists.intro _ (Exists.intro _ (Exists.intro _ (Exists.intro _ (Exists.intro _ (Exists.intro _ (Exists.intro _ (Exists.intro _ (Exists.intro _ (And.intro rfl (And.intro rfl (And.intro (by first | omega | assumption | exact q_rg_up (by assumption) (by omega) | exact q_rg_up (q_rg_up (by assumption) (by omega)) (by omega) | exact q_rg_cpy (by assumption) (by assumption)) (And.intro (by first | omega | assumption | exact q_rg_up (by assumption) (by omega) | exact q_rg_up (q_rg_up (by assumption) (by omega)) (by omega) | exact q_rg_cpy (by assumption) (by assumption)) (?_)))))))))))))))))))))))))))
  intro z7 x_mbo_7 x_mpe_7 h7
  apply And.intro
  · intro h10
    first | replace h7 := dj1 h7 h10 | replace h7 := dj0 h7 h10
    refine Exists.intro [] (Exists.intro [q1 _, q1 _, q1 _] (Exists.intro [] (And.intro rfl (And.intro rfl (And.intro rfl (And.intro trivial ?_))))))
    refine Exists.intro _ (Exists.intro _ (Exists.intro _ (And.intro rfl (And.intro rfl (?_)))))
    intro z23 h23
    apply And.intro
    · intro h26
      first | replace h23 := dj1 h23 h26 | replace h23 := dj0 h23 h26
      exact ⟨_, _, _, _, _, _, rfl, rfl, rfl, rfl, (by first | omega | assumption | exact q_rg_up (by assumption) (by omega) | exact q_rg_up (q_rg_up (by assumption) (by omega)) (by omega) | exact q_rg_cpy (by assumption) (by assumption)), (by first | omega | assumption | exact q_rg_up (by assumption) (by omega) | exact q_rg_up (q_rg_up (by assumption) (by omega)) (by omega) | exact q_rg_cpy (by assumption) (by assumption)), (by first | omega | assumption | exact q_rg_up (by assumption) (by omega) | exact q_rg_up (q_rg_up (by assumption) (by omega)) (by omega) | exact q_rg_cpy (by assumption) (by assumption))⟩
    · intro h26
      first | replace h23 := dj1 h23 h26 | replace h23 := dj0 h23 h26
      exact hQ _ _ _ _ _
  · intro h10
    first | replace h7 := dj1 h7 h10 | replace h7 := dj0 h7 h10
    exact hQ _ _ _ _ _

theorem dX12_shoulders_0 : decode cX12_shoulders 0 = .ok (.aload_n 0, 1) := by decide +kernel
theorem dX12_shoulders_1 : decode cX12_shoulders 1 = .ok (.iconst 0, 1) := by decide +kernel
theorem dX12_shoulders_2 : decode cX12_shoulders 2 = .ok (.putfield 88, 3) := by decide +kernel
theorem dX12_shoulders_5 : decode cX12_shoulders 5 = .ok (.aload_n 0, 1) := by decide +kernel
theorem dX12_shoulders_6 : decode cX12_shoulders 6 = .ok (.iload_n 1, 1) := by decide +kernel
theorem dX12_shoulders_7 : decode cX12_shoulders 7 = .ok (.invokevirtual 306, 3) := by decide +kernel
theorem dX12_shoulders_10 : decode cX12_shoulders 10 = .ok (.ifCond .ne 5, 3) := by decide +kernel
theorem dX12_shoulders_13 : decode cX12_shoulders 13 = .ok (.iconst (-1), 1) := by decide +kernel
theorem dX12_shoulders_14 : decode cX12_shoulders 14 = .ok (.ireturn, 1) := by decide +kernel
theorem dX12_shoulders_15 : decode cX12_shoulders 15 = .ok (.iconst (-1), 1) := by decide +kernel
theorem dX12_shoulders_16 : decode cX12_shoulders 16 = .ok (.istore_n 3, 1) := by decide +kernel
theorem dX12_shoulders_17 : decode cX12_shoulders 17 = .ok (.iconst 0, 1) := by decide +kernel
theorem dX12_shoulders_18 : decode cX12_shoulders 18 = .ok (.istore 4, 2) := by decide +kernel
theorem dX12_shoulders_20 : decode cX12_shoulders 20 = .ok (.iload 4, 2) := by decide +kernel
theorem dX12_shoulders_22 : decode cX12_shoulders 22 = .ok (.iconst 1, 1) := by decide +kernel
theorem dX12_shoulders_23 : decode cX12_shoulders 23 = .ok (.aload_n 0, 1) := by decide +kernel
theorem dX12_shoulders_24 : decode cX12_shoulders 24 = .ok (.getfield 303, 3) := by decide +kernel
theorem dX12_shoulders_27 : decode cX12_shoulders 27 = .ok (.ishl, 1) := by decide +kernel
theorem dX12_shoulders_28 : decode cX12_shoulders 28 = .ok (.if_icmp .ge 43, 3) := by decide +kernel
theorem dX12_shoulders_31 : decode cX12_shoulders 31 = .ok (.aload_n 0, 1) := by decide +kernel
theorem dX12_shoulders_32 : decode cX12_shoulders 32 = .ok (.iload 4, 2) := by decide +kernel
theorem dX12_shoulders_34 : decode cX12_shoulders 34 = .ok (.invokevirtual 401, 3) := by decide +kernel
theorem dX12_shoulders_37 : decode cX12_shoulders 37 = .ok (.iload_n 2, 1) := by decide +kernel
theorem dX12_shoulders_38 : decode cX12_shoulders 38 = .ok (.if_icmp .lt 25, 3) := by decide +kernel
theorem dX12_shoulders_41 : decode cX12_shoulders 41 = .ok (.iload_n 3, 1) := by decide +kernel
theorem dX12_shoulders_42 : decode cX12_shoulders 42 = .ok (.iconst (-1), 1) := by decide +kernel
theorem dX12_shoulders_43 : decode cX12_shoulders 43 = .ok (.if_icmp .eq 15, 3) := by decide +kernel
theorem dX12_shoulders_46 : decode cX12_shoulders 46 = .ok (.iload 4, 2) := by decide +kernel
theorem dX12_shoulders_48 : decode cX12_shoulders 48 = .ok (.invokestatic 413, 3) := by decide +kernel
theorem dX12_shoulders_51 : decode cX12_shoulders 51 = .ok (.iload_n 3, 1) := by decide +kernel
theorem dX12_shoulders_52 : decode cX12_shoulders 52 = .ok (.invokestatic 413, 3) := by decide +kernel
theorem dX12_shoulders_55 : decode cX12_shoulders 55 = .ok (.if_icmp .ge 8, 3) := by decide +kernel
theorem dX12_shoulders_58 : decode cX12_shoulders 58 = .ok (.iload 4, 2) := by decide +kernel
theorem dX12_shoulders_60 : decode cX12_shoulders 60 = .ok (.goto 4, 3) := by decide +kernel
theorem dX12_shoulders_63 : decode cX12_shoulders 63 = .ok (.iload_n 3, 1) := by decide +kernel
theorem dX12_shoulders_64 : decode cX12_shoulders 64 = .ok (.istore_n 3, 1) := by decide +kernel
theorem dX12_shoulders_65 : decode cX12_shoulders 65 = .ok (.iinc 4 1, 3) := by decide +kernel
theorem dX12_shoulders_68 : decode cX12_shoulders 68 = .ok (.goto (-48), 3) := by decide +kernel
theorem dX12_shoulders_71 : decode cX12_shoulders 71 = .ok (.iload_n 3, 1) := by decide +kernel
theorem dX12_shoulders_72 : decode cX12_shoulders 72 = .ok (.ireturn, 1) := by decide +kernel
def is_X12_shoulders : Nat → List Nat := fun d => if d = 20 then [0, 2, 3, 4] else []
set_option maxRecDepth 100000 in
def b_X12_shoulders_64 (J : Nat → List qV → List qV → qW → Prop) (Q : qR) : qK := x_istore 3 (x_iinc 4 1 (x_cut [0, 2, 3, 4] (J 20)))
set_option maxRecDepth 100000 in
theorem s_X12_shoulders_64 {p : Program} {l : Launch} {e : Env} {R : Room} {s : State} {m : MethodId} {args : Array Value} {below : List Frame} {meth : Method} {c : Code} {nW : Nat} {dC : Nat → ClassId} {dI : Nat → Nat → Nat} {k : Nat → ClassId} {g : Nat → Nat} {A : Nat → Prop} {J : Nat → List qV → List qV → qW → Prop} {Q : qR} (X : q_X p R s m args meth c cX12_shoulders 5 nW 3 65 RX12 (some .int) dC dI k g A) (hJ : ∀ d : Nat, q_Sd p l e R s m args below meth c 5 nW dC dI k g A (MQ below (q_post (dC, dI) k g nW Q A) args s 0 0 A) d (x_cut (is_X12_shoulders d) (J d))) : q_Sd p l e R s m args below meth c 5 nW dC dI k g A (MQ below (q_post (dC, dI) k g nW Q A) args s 0 0 A) 64 (b_X12_shoulders_64 J Q) := by
  unfold b_X12_shoulders_64
  refine s_istore_n X rfl (by decide) dX12_shoulders_64 ?_
  refine s_iinc X (by decide) dX12_shoulders_65 ?_
  refine s_goto X (tgt := 20) dX12_shoulders_68 (by decide) ?_
  exact hJ 20
set_option maxRecDepth 100000 in
def b_X12_shoulders_63 (J : Nat → List qV → List qV → qW → Prop) (Q : qR) : qK := x_iload 3 (b_X12_shoulders_64 J Q)
set_option maxRecDepth 100000 in
theorem s_X12_shoulders_63 {p : Program} {l : Launch} {e : Env} {R : Room} {s : State} {m : MethodId} {args : Array Value} {below : List Frame} {meth : Method} {c : Code} {nW : Nat} {dC : Nat → ClassId} {dI : Nat → Nat → Nat} {k : Nat → ClassId} {g : Nat → Nat} {A : Nat → Prop} {J : Nat → List qV → List qV → qW → Prop} {Q : qR} (X : q_X p R s m args meth c cX12_shoulders 5 nW 3 65 RX12 (some .int) dC dI k g A) (hJ : ∀ d : Nat, q_Sd p l e R s m args below meth c 5 nW dC dI k g A (MQ below (q_post (dC, dI) k g nW Q A) args s 0 0 A) d (x_cut (is_X12_shoulders d) (J d))) : q_Sd p l e R s m args below meth c 5 nW dC dI k g A (MQ below (q_post (dC, dI) k g nW Q A) args s 0 0 A) 63 (b_X12_shoulders_63 J Q) := by
  unfold b_X12_shoulders_63
  refine s_iload_n X rfl dX12_shoulders_63 ?_
  exact s_X12_shoulders_64 X hJ
set_option maxRecDepth 100000 in
def b_X12_shoulders_58 (J : Nat → List qV → List qV → qW → Prop) (Q : qR) : qK := x_iload 4 (b_X12_shoulders_64 J Q)
set_option maxRecDepth 100000 in
theorem s_X12_shoulders_58 {p : Program} {l : Launch} {e : Env} {R : Room} {s : State} {m : MethodId} {args : Array Value} {below : List Frame} {meth : Method} {c : Code} {nW : Nat} {dC : Nat → ClassId} {dI : Nat → Nat → Nat} {k : Nat → ClassId} {g : Nat → Nat} {A : Nat → Prop} {J : Nat → List qV → List qV → qW → Prop} {Q : qR} (X : q_X p R s m args meth c cX12_shoulders 5 nW 3 65 RX12 (some .int) dC dI k g A) (hJ : ∀ d : Nat, q_Sd p l e R s m args below meth c 5 nW dC dI k g A (MQ below (q_post (dC, dI) k g nW Q A) args s 0 0 A) d (x_cut (is_X12_shoulders d) (J d))) : q_Sd p l e R s m args below meth c 5 nW dC dI k g A (MQ below (q_post (dC, dI) k g nW Q A) args s 0 0 A) 58 (b_X12_shoulders_58 J Q) := by
  unfold b_X12_shoulders_58
  refine s_iload X dX12_shoulders_58 ?_
  refine s_goto X (tgt := 64) dX12_shoulders_60 (by decide) ?_
  exact s_X12_shoulders_64 X hJ
set_option maxRecDepth 100000 in
def b_X12_shoulders_20 (J : Nat → List qV → List qV → qW → Prop) (Q : qR) : qK := x_iload 4 (x_int 1 (x_aload 0 (x_get 12 25 (x_ishl (x_icmp_ge (x_iload 3 (x_iret Q)) (x_aload 0 (x_iload 4 (x_callr (some 12) 2 spr_X12_sumOf (x_iload 2 (x_icmp_lt (b_X12_shoulders_63 J Q) (x_iload 3 (x_int (-1) (x_icmp_eq (b_X12_shoulders_58 J Q) (x_iload 4 (x_callr none 1 spr_X12_ones (x_iload 3 (x_callr none 1 spr_X12_ones (x_icmp_ge (b_X12_shoulders_63 J Q) (b_X12_shoulders_58 J Q)))))))))))))))))))
set_option maxRecDepth 100000 in
theorem s_X12_shoulders_20 {p : Program} {l : Launch} {e : Env} {R : Room} {s : State} {m : MethodId} {args : Array Value} {below : List Frame} {meth : Method} {c : Code} {nW : Nat} {dC : Nat → ClassId} {dI : Nat → Nat → Nat} {k : Nat → ClassId} {g : Nat → Nat} {A : Nat → Prop} {J : Nat → List qV → List qV → qW → Prop} {Q : qR} (X : q_X p R s m args meth c cX12_shoulders 5 nW 3 65 RX12 (some .int) dC dI k g A) (hJ : ∀ d : Nat, q_Sd p l e R s m args below meth c 5 nW dC dI k g A (MQ below (q_post (dC, dI) k g nW Q A) args s 0 0 A) d (x_cut (is_X12_shoulders d) (J d))) : q_Sd p l e R s m args below meth c 5 nW dC dI k g A (MQ below (q_post (dC, dI) k g nW Q A) args s 0 0 A) 20 (b_X12_shoulders_20 J Q) := by
  unfold b_X12_shoulders_20
  refine s_iload X dX12_shoulders_20 ?_
  refine s_iconst X ⟨by decide, by decide⟩ dX12_shoulders_22 ?_
  refine s_aload_n X rfl dX12_shoulders_23 ?_
  refine s_get X (T := TX12) (C := RX12) (N := 45) tu_X12 rfl (by decide) tw_1022 dX12_shoulders_24 ?_
  refine s_ishl X dX12_shoulders_27 ?_
  refine s_icmp_ge X (tgt := 71) dX12_shoulders_28 (by decide) ?_ ?_
  · refine s_iload_n X rfl dX12_shoulders_71 ?_
    exact s_iret X dX12_shoulders_72
  · refine s_aload_n X rfl dX12_shoulders_31 ?_
    refine s_iload X dX12_shoulders_32 ?_
    refine s_callVr X (m_X12_sumOf l) tw_1301 tw_1302 tw_1620 tw_134 tw_1303 rfl (by decide +kernel) ⟨by decide, by decide⟩ dX12_shoulders_34 ?_
    refine s_iload_n X rfl dX12_shoulders_37 ?_
    refine s_icmp_lt X (tgt := 63) dX12_shoulders_38 (by decide) ?_ ?_
    · exact s_X12_shoulders_63 X hJ
    · refine s_iload_n X rfl dX12_shoulders_41 ?_
      refine s_iconst X ⟨by decide, by decide⟩ dX12_shoulders_42 ?_
      refine s_icmp_eq X (tgt := 58) dX12_shoulders_43 (by decide) ?_ ?_
      · exact s_X12_shoulders_58 X hJ
      · refine s_iload X dX12_shoulders_46 ?_
        refine s_callSr X (m_X12_ones l) tw_1326 tw_1327 tw_134 tw_1328 (by decide +kernel) ⟨by decide, by decide⟩ dX12_shoulders_48 ?_
        refine s_iload_n X rfl dX12_shoulders_51 ?_
        refine s_callSr X (m_X12_ones l) tw_1326 tw_1327 tw_134 tw_1328 (by decide +kernel) ⟨by decide, by decide⟩ dX12_shoulders_52 ?_
        refine s_icmp_ge X (tgt := 63) dX12_shoulders_55 (by decide) ?_ ?_
        · exact s_X12_shoulders_63 X hJ
        · exact s_X12_shoulders_58 X hJ
set_option maxRecDepth 100000 in
def b_X12_shoulders_0 (J : Nat → List qV → List qV → qW → Prop) (Q : qR) : qK := x_aload 0 (x_int 0 (x_put 12 0 q_oki (x_nw (x_aload 0 (x_iload 1 (x_call (some 12) 2 sp_X12_hand (x_nw (x_if_ne (x_int (-1) (x_istore 3 (x_int 0 (x_istore 4 (x_cut [0, 2, 3, 4] (J 20)))))) (x_int (-1) (x_iret Q))))))))))
set_option maxRecDepth 100000 in
theorem s_X12_shoulders_0 {p : Program} {l : Launch} {e : Env} {R : Room} {s : State} {m : MethodId} {args : Array Value} {below : List Frame} {meth : Method} {c : Code} {nW : Nat} {dC : Nat → ClassId} {dI : Nat → Nat → Nat} {k : Nat → ClassId} {g : Nat → Nat} {A : Nat → Prop} {J : Nat → List qV → List qV → qW → Prop} {Q : qR} (X : q_X p R s m args meth c cX12_shoulders 5 nW 3 65 RX12 (some .int) dC dI k g A) (hJ : ∀ d : Nat, q_Sd p l e R s m args below meth c 5 nW dC dI k g A (MQ below (q_post (dC, dI) k g nW Q A) args s 0 0 A) d (x_cut (is_X12_shoulders d) (J d))) : q_Sd p l e R s m args below meth c 5 nW dC dI k g A (MQ below (q_post (dC, dI) k g nW Q A) args s 0 0 A) 0 (b_X12_shoulders_0 J Q) := by
  unfold b_X12_shoulders_0
  refine s_aload_n X rfl dX12_shoulders_0 ?_
  refine s_iconst X ⟨by decide, by decide⟩ dX12_shoulders_1 ?_
  refine s_put X (T := TX12) (C := RX12) (N := 45) tu_X12 tyX12_ok nmX12 rfl (by decide) tw_997 rfl (by decide +kernel) q_oki_t dX12_shoulders_2 ?_
  refine s_nw ?_
  refine s_aload_n X rfl dX12_shoulders_5 ?_
  refine s_iload_n X rfl dX12_shoulders_6 ?_
  refine s_callV X (m_X12_hand l) tw_1186 tw_1187 tw_1585 tw_134 tw_1188 rfl (by decide +kernel) ⟨by decide, by decide⟩ dX12_shoulders_7 ?_
  refine s_nw ?_
  refine s_if_ne X (tgt := 15) dX12_shoulders_10 (by decide) ?_ ?_
  · refine s_iconst X ⟨by decide, by decide⟩ dX12_shoulders_15 ?_
    refine s_istore_n X rfl (by decide) dX12_shoulders_16 ?_
    refine s_iconst X ⟨by decide, by decide⟩ dX12_shoulders_17 ?_
    refine s_istore X (by decide) dX12_shoulders_18 ?_
    exact hJ 20
  · refine s_iconst X ⟨by decide, by decide⟩ dX12_shoulders_13 ?_
    exact s_iret X dX12_shoulders_14

def sp_X12_shoulders : qS := fun av w Q => ∃ (mco : Int) (mre : Int) (mle : Int) (mbe : Int) (mso : Int) (mva : Int) (mwo : Int) (mwr : Int) (mlf : Int) (mlp : Int) (mfp : Int) (mfd : Int) (mgo : Int) (mbo : Int) (mpe : Int) (mye : Int) (mpr : Int) (mld : Int) (msi : Int) (mse : Int) (mn : Nat → Int) (bs : Nat → Int) (a : Int) (b : Int), av = [q2 0, q1 a, q1 b] ∧ w = [.inr (12, [q1 mco, q2 3, q2 4, q2 5, q2 6, q2 1, q2 2, q2 7, q2 8, q2 9, q1 mre, q1 mle, q1 mbe, q1 mso, q1 mva, q3 mwo, q1 mwr, q1 mlf, q1 mlp, q2 10, q2 11, q1 mfp, q1 mfd, q1 mgo, q1 mbo, q1 mpe, q1 mye, q2 12, q1 mpr, q2 13, q2 14, q2 15, q2 16, q1 mld, q2 17, q1 msi, q2 18, q2 19, q2 20, q2 21, q2 22, q1 mse, q2 23, q2 24, q2 25]), .inl (0, 16, .inl mn), .inl (0, 600, .inl bs)] ∧ (q_rg 0 2 mn) ∧ (BI bs) ∧ (∀ (r : Int) (x_mco : Int) (x_mbo : Int) (x_mpe : Int), Q (some (q1 r)) ([.inr (12, [q1 x_mco, q2 3, q2 4, q2 5, q2 6, q2 1, q2 2, q2 7, q2 8, q2 9, q1 mre, q1 mle, q1 mbe, q1 mso, q1 mva, q3 mwo, q1 mwr, q1 mlf, q1 mlp, q2 10, q2 11, q1 mfp, q1 mfd, q1 mgo, q1 x_mbo, q1 x_mpe, q1 mye, q2 12, q1 mpr, q2 13, q2 14, q2 15, q2 16, q1 mld, q2 17, q1 msi, q2 18, q2 19, q2 20, q2 21, q2 22, q1 mse, q2 23, q2 24, q2 25]), .inl (0, 16, .inl mn), .inl (0, 600, .inl bs)]))
def I_X12_shoulders (mco : Int) (mre : Int) (mle : Int) (mbe : Int) (mso : Int) (mva : Int) (mwo : Int) (mwr : Int) (mlf : Int) (mlp : Int) (mfp : Int) (mfd : Int) (mgo : Int) (mbo : Int) (mpe : Int) (mye : Int) (mpr : Int) (mld : Int) (msi : Int) (mse : Int) (mn : Nat → Int) (bs : Nat → Int) (a : Int) (b : Int) : Nat → Nat → List qV → List qV → qW → Prop := fun dz mz vz sz wz => if dz = 20 then (∃ (y_mco : Int) (y_mbo : Int) (y_mpe : Int) (v3 : Int) (v4 : Int), vz = [q2 0, q1 b, q1 v3, q1 v4] ∧ sz = [] ∧ wz = [.inr (12, [q1 y_mco, q2 3, q2 4, q2 5, q2 6, q2 1, q2 2, q2 7, q2 8, q2 9, q1 mre, q1 mle, q1 mbe, q1 mso, q1 mva, q3 mwo, q1 mwr, q1 mlf, q1 mlp, q2 10, q2 11, q1 mfp, q1 mfd, q1 mgo, q1 y_mbo, q1 y_mpe, q1 mye, q2 12, q1 mpr, q2 13, q2 14, q2 15, q2 16, q1 mld, q2 17, q1 msi, q2 18, q2 19, q2 20, q2 21, q2 22, q1 mse, q2 23, q2 24, q2 25]), .inl (0, 16, .inl mn), .inl (0, 600, .inl bs)] ∧ mz = (257 - v4).toNat ∧ (0 ≤ y_mbo ∧ y_mbo ≤ 1 ∧ 0 ≤ y_mpe ∧ y_mpe ≤ 8) ∧ (0 ≤ v4 ∧ v4 ≤ 256)) else False
set_option maxHeartbeats 4000000 in
set_option maxRecDepth 100000 in
theorem m_X12_shoulders (l : Launch) : q_M l yX12_shoulders cX12_shoulders 5 (some .int) 3 65 sp_X12_shoulders := by
  refine q_meth (by decide) (fun av w Q h => by obtain ⟨mco, mre, mle, mbe, mso, mva, mwo, mwr, mlf, mlp, mfp, mfd, mgo, mbo, mpe, mye, mpr, mld, msi, mse, mn, bs, a, b, rfl, rfl, hmn, hbi, hQ⟩ := h; exact Nat.le_of_ble_eq_true rfl) ?_
  intro p e R s m args below meth c dC dI k g A av w Q hsp oka okw X
  obtain ⟨mco, mre, mle, mbe, mso, mva, mwo, mwr, mlf, mlp, mfp, mfd, mgo, mbo, mpe, mye, mpr, mld, msi, mse, mn, bs, a, b, rfl, rfl, hmn, hbi, hQ⟩ := hsp
  have o_a : -2147483648 ≤ a ∧ a ≤ 2147483647 := oka _ (List.mem_of_getElem? (i := 1) rfl)
  have o_b : -2147483648 ≤ b ∧ b ≤ 2147483647 := oka _ (List.mem_of_getElem? (i := 2) rfl)
  refine s_mono (s_X12_shoulders_0 X (J := fun dz vz sz wz => ∃ mz, I_X12_shoulders mco mre mle mbe mso mva mwo mwr mlf mlp mfp mfd mgo mbo mpe mye mpr mld msi mse mn bs a b dz mz vz sz wz) (q_loopn (I_X12_shoulders mco mre mle mbe mso mva mwo mwr mlf mlp mfp mfd mgo mbo mpe mye mpr mld msi mse mn bs a b) (fun dz J => if dz = 20 then b_X12_shoulders_20 J Q else q_F) ?hs ?hv)) ?_
  case hs =>
    intro d J hJ
    by_cases h20 : d = 20
    · subst h20; exact s_X12_shoulders_20 X hJ
    simp only [h20, if_false]
    exact s_F
  case hv =>
    intro dz mz vz sz wz hI okv oks okw hlen
    by_cases h20 : dz = 20
    · subst h20
      obtain ⟨y_mco, y_mbo, y_mpe, v3, v4, rfl, rfl, rfl, hn, hyb, hp⟩ := hI
      intro z27 h27
      first | replace h27 := e_shl h27 (by omega) | replace h27 := e_rng h27
      apply And.intro
      · intro h28
        exact hQ _ _ _ _
      · intro h28
        refine Exists.intro [0, 2, 3, 4, 5, 6, 1, 7, 8, 9, 10, 11, 12, 13, 14, 15, 16, 17, 18, 19, 20, 21, 22, 23, 24, 25] (Exists.intro [q2 0, q1 _] (Exists.intro ([.inr (12, [q1 _, q2 2, q2 3, q2 4, q2 5, q2 6, q2 1, q2 7, q2 8, q2 9, q1 _, q1 _, q1 _, q1 _, q1 _, q3 _, q1 _, q1 _, q1 _, q2 10, q2 11, q1 _, q1 _, q1 _, q1 _, q1 _, q1 _, q2 12, q1 _, q2 13, q2 14, q2 15, q2 16, q1 _, q2 17, q1 _, q2 18, q2 19, q2 20, q2 21, q2 22, q1 _, q2 23, q2 24, q2 25]), .inl (0, 600, .inl _)]) (And.intro rfl (And.intro rfl (And.intro rfl (And.intro ⟨⟨_, rfl⟩, rfl⟩ ?_))))))
        refine Exists.intro _ (Exists.intro _ (Exists.intro _ (Exists.intro _ (Exists.intro _ (Exists.intro _ (Exists.intro _ (Exists.intro _ (Exists.intro _ (Exists.intro _ (Exists.intro _ (Exists.intro _ (Exists.intro _ (Exists.intro _ (Exists.intro _ (Exists.intro _ (Exists.intro _ (Exists.intro _ (Exists.intro _ (Exists.intro _ (Exists.intro _ (Exists.intro _ (And.intro rfl (And.intro rfl (And.intro (by first | omega | assumption | exact q_rg_up (by assumption) (by omega) | exact q_rg_up (q_rg_up (by assumption) (by omega)) (by omega) | exact q_rg_cpy (by assumption) (by assumption)) (And.intro (by first | omega | assumption | exact q_rg_up (by assumption) (by omega) | exact q_rg_up (q_rg_up (by assumption) (by omega)) (by omega) | exact q_rg_cpy (by assumption) (by assumption)) (And.intro (by first | omega | assumption | exact q_rg_up (by assumption) (by omega) | exact q_rg_up (q_rg_up (by assumption) (by omega)) (by omega) | exact q_rg_cpy (by assumption) (by assumption)) (?_)))))))))))))))))))))))))))
        intro z34
        apply And.intro
        · intro h38
          intro z65 h65
          first | replace h65 := e_add h65 (by omega) | replace h65 := e_rng h65
          exact ⟨_, ⟨_, _, _, _, _, rfl, rfl, rfl, rfl, (by first | omega | assumption | exact q_rg_up (by assumption) (by omega) | exact q_rg_up (q_rg_up (by assumption) (by omega)) (by omega) | exact q_rg_cpy (by assumption) (by assumption)), (by first | omega | assumption | exact q_rg_up (by assumption) (by omega) | exact q_rg_up (q_rg_up (by assumption) (by omega)) (by omega) | exact q_rg_cpy (by assumption) (by assumption))⟩, by omega⟩
        · intro h38
          apply And.intro
          · intro h43
            intro z65 h65
            first | replace h65 := e_add h65 (by omega) | replace h65 := e_rng h65
            exact ⟨_, ⟨_, _, _, _, _, rfl, rfl, rfl, rfl, (by first | omega | assumption | exact q_rg_up (by assumption) (by omega) | exact q_rg_up (q_rg_up (by assumption) (by omega)) (by omega) | exact q_rg_cpy (by assumption) (by assumption)), (by first | omega | assumption | exact q_rg_up (by assumption) (by omega) | exact q_rg_up (q_rg_up (by assumption) (by omega)) (by omega) | exact q_rg_cpy (by assumption) (by assumption))⟩, by omega⟩
          · intro h43
            refine Exists.intro [] (Exists.intro [q1 _] (Exists.intro [] (And.intro rfl (And.intro rfl (And.intro rfl (And.intro trivial ?_))))))
            refine Exists.intro _ (And.intro rfl (And.intro rfl (?_)))
            intro z48 h48
            refine Exists.intro [] (Exists.intro [q1 _] (Exists.intro [] (And.intro rfl (And.intro rfl (And.intro rfl (And.intro trivial ?_))))))
            refine Exists.intro _ (And.intro rfl (And.intro rfl (?_)))
            intro z52 h52
            apply And.intro
            · intro h55
              intro z65 h65
              first | replace h65 := e_add h65 (by omega) | replace h65 := e_rng h65
              exact ⟨_, ⟨_, _, _, _, _, rfl, rfl, rfl, rfl, (by first | omega | assumption | exact q_rg_up (by assumption) (by omega) | exact q_rg_up (q_rg_up (by assumption) (by omega)) (by omega) | exact q_rg_cpy (by assumption) (by assumption)), (by first | omega | assumption | exact q_rg_up (by assumption) (by omega) | exact q_rg_up (q_rg_up (by assumption) (by omega)) (by omega) | exact q_rg_cpy (by assumption) (by assumption))⟩, by omega⟩
            · intro h55
              intro z65 h65
              first | replace h65 := e_add h65 (by omega) | replace h65 := e_rng h65
              exact ⟨_, ⟨_, _, _, _, _, rfl, rfl, rfl, rfl, (by first | omega | assumption | exact q_rg_up (by assumption) (by omega) | exact q_rg_up (q_rg_up (by assumption) (by omega)) (by omega) | exact q_rg_cpy (by assumption) (by assumption)), (by first | omega | assumption | exact q_rg_up (by assumption) (by omega) | exact q_rg_up (q_rg_up (by assumption) (by omega)) (by omega) | exact q_rg_cpy (by assumption) (by assumption))⟩, by omega⟩
    simp only [I_X12_shoulders, h20, if_false] at hI
  rintro lv st w' ⟨rfl, rfl, rfl⟩
  apply And.intro
  · exact trivial
  refine Exists.intro [0, 1, 2, 3, 4, 5, 6, 7, 8, 9, 10, 11, 12, 13, 14, 15, 16, 17, 18, 19, 20, 21, 22, 23, 24, 25] (Exists.intro [q2 0, q1 _] (Exists.intro ([.inr (12, [q1 _, q2 3, q2 4, q2 5, q2 6, q2 1, q2 2, q2 7, q2 8, q2 9, q1 _, q1 _, q1 _, q1 _, q1 _, q3 _, q1 _, q1 _, q1 _, q2 10, q2 11, q1 _, q1 _, q1 _, q1 _, q1 _, q1 _, q2 12, q1 _, q2 13, q2 14, q2 15, q2 16, q1 _, q2 17, q1 _, q2 18, q2 19, q2 20, q2 21, q2 22, q1 _, q2 23, q2 24, q2 25]), .inl (0, 16, .inl _), .inl (0, 600, .inl _)]) (And.intro rfl (And.intro rfl (And.intro rfl (And.intro ⟨⟨_, rfl⟩, rfl⟩ ?_))))))
  refine Exists.intro _ (Exists.intro _ (Exists.intro _ (Exists.intro _ (Exists.intro _ (Exists.intro _ (Exists.intro _ (Exists.intro _ (Exists.intro _ (Exists.intro _ (Exists.intro _ (Exists.intro _ (Exists.intro _ (Exists.intro _ (Exists.intro _ (Exists.intro _ (Exists.intro _ (Exists.intro _ (Exists.intro _ (Exists.intro _ (Exists.intro _ (Exists.intro _ (Exists.intro _ (And.intro rfl (And.intro rfl (And.intro (by first | omega | assumption | exact q_rg_up (by assumption) (by omega) | exact q_rg_up (q_rg_up (by assumption) (by omega)) (by omega) | exact q_rg_cpy (by assumption) (by assumption)) (And.intro (by first | omega | assumption | exact q_rg_up (by assumption) (by omega) | exact q_rg_up (q_rg_up (by assumption) (by omega)) (by omega) | exact q_rg_cpy (by assumption) (by assumption)) (?_)))))))))))))))))))))))))))
  intro z7 x_mbo_7 x_mpe_7 h7
  apply And.intro
  · intro h10
    first | replace h7 := dj1 h7 h10 | replace h7 := dj0 h7 h10
    exact ⟨_, _, _, _, _, _, rfl, rfl, rfl, rfl, (by first | omega | assumption | exact q_rg_up (by assumption) (by omega) | exact q_rg_up (q_rg_up (by assumption) (by omega)) (by omega) | exact q_rg_cpy (by assumption) (by assumption)), (by first | omega | assumption | exact q_rg_up (by assumption) (by omega) | exact q_rg_up (q_rg_up (by assumption) (by omega)) (by omega) | exact q_rg_cpy (by assumption) (by assumption))⟩
  · intro h10
    first | replace h7 := dj1 h7 h10 | replace h7 := dj0 h7 h10
    exact hQ _ _ _ _
