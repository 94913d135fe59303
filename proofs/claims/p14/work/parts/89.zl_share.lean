theorem dG12_findShares_0 : decode cX12_findShares 0 = .ok (.iconst 0, 1) := by decide +kernel
theorem dG12_findShares_1 : decode cX12_findShares 1 = .ok (.istore_n 3, 1) := by decide +kernel
theorem dG12_findShares_2 : decode cX12_findShares 2 = .ok (.iload_n 3, 1) := by decide +kernel
theorem dG12_findShares_3 : decode cX12_findShares 3 = .ok (.bipush 8, 2) := by decide +kernel
theorem dG12_findShares_5 : decode cX12_findShares 5 = .ok (.if_icmp .ge 16, 3) := by decide +kernel
theorem dG12_findShares_8 : decode cX12_findShares 8 = .ok (.aload_n 0, 1) := by decide +kernel
theorem dG12_findShares_9 : decode cX12_findShares 9 = .ok (.getfield 56, 3) := by decide +kernel
theorem dG12_findShares_12 : decode cX12_findShares 12 = .ok (.iload_n 3, 1) := by decide +kernel
theorem dG12_findShares_13 : decode cX12_findShares 13 = .ok (.iconst 0, 1) := by decide +kernel
theorem dG12_findShares_14 : decode cX12_findShares 14 = .ok (.iastore, 1) := by decide +kernel
theorem dG12_findShares_15 : decode cX12_findShares 15 = .ok (.iinc 3 1, 3) := by decide +kernel
theorem dG12_findShares_18 : decode cX12_findShares 18 = .ok (.goto (-16), 3) := by decide +kernel
theorem dG12_findShares_21 : decode cX12_findShares 21 = .ok (.iload_n 2, 1) := by decide +kernel
theorem dG12_findShares_22 : decode cX12_findShares 22 = .ok (.istore_n 3, 1) := by decide +kernel
theorem dG12_findShares_23 : decode cX12_findShares 23 = .ok (.iload_n 1, 1) := by decide +kernel
theorem dG12_findShares_24 : decode cX12_findShares 24 = .ok (.istore 4, 2) := by decide +kernel
theorem dG12_findShares_26 : decode cX12_findShares 26 = .ok (.iload 4, 2) := by decide +kernel
theorem dG12_findShares_28 : decode cX12_findShares 28 = .ok (.iconst (-1), 1) := by decide +kernel
theorem dG12_findShares_29 : decode cX12_findShares 29 = .ok (.if_icmp .eq 71, 3) := by decide +kernel
theorem dG12_findShares_32 : decode cX12_findShares 32 = .ok (.aload_n 0, 1) := by decide +kernel
theorem dG12_findShares_33 : decode cX12_findShares 33 = .ok (.bipush 13, 2) := by decide +kernel
theorem dG12_findShares_35 : decode cX12_findShares 35 = .ok (.iload 4, 2) := by decide +kernel
theorem dG12_findShares_37 : decode cX12_findShares 37 = .ok (.iadd, 1) := by decide +kernel
theorem dG12_findShares_38 : decode cX12_findShares 38 = .ok (.invokevirtual 299, 3) := by decide +kernel
theorem dG12_findShares_41 : decode cX12_findShares 41 = .ok (.iconst (-1), 1) := by decide +kernel
theorem dG12_findShares_42 : decode cX12_findShares 42 = .ok (.if_icmp .ne 7, 3) := by decide +kernel
theorem dG12_findShares_45 : decode cX12_findShares 45 = .ok (.iload_n 3, 1) := by decide +kernel
theorem dG12_findShares_46 : decode cX12_findShares 46 = .ok (.goto 6, 3) := by decide +kernel
theorem dG12_findShares_49 : decode cX12_findShares 49 = .ok (.iload_n 3, 1) := by decide +kernel
theorem dG12_findShares_50 : decode cX12_findShares 50 = .ok (.iconst 2, 1) := by decide +kernel
theorem dG12_findShares_51 : decode cX12_findShares 51 = .ok (.idiv, 1) := by decide +kernel
theorem dG12_findShares_52 : decode cX12_findShares 52 = .ok (.istore 5, 2) := by decide +kernel
theorem dG12_findShares_54 : decode cX12_findShares 54 = .ok (.aload_n 0, 1) := by decide +kernel
theorem dG12_findShares_55 : decode cX12_findShares 55 = .ok (.getfield 56, 3) := by decide +kernel
theorem dG12_findShares_58 : decode cX12_findShares 58 = .ok (.iload 4, 2) := by decide +kernel
theorem dG12_findShares_60 : decode cX12_findShares 60 = .ok (.iload 5, 2) := by decide +kernel
theorem dG12_findShares_62 : decode cX12_findShares 62 = .ok (.aload_n 0, 1) := by decide +kernel
theorem dG12_findShares_63 : decode cX12_findShares 63 = .ok (.iconst 5, 1) := by decide +kernel
theorem dG12_findShares_64 : decode cX12_findShares 64 = .ok (.iload 4, 2) := by decide +kernel
theorem dG12_findShares_66 : decode cX12_findShares 66 = .ok (.iadd, 1) := by decide +kernel
theorem dG12_findShares_67 : decode cX12_findShares 67 = .ok (.invokevirtual 299, 3) := by decide +kernel
theorem dG12_findShares_70 : decode cX12_findShares 70 = .ok (.iconst 1, 1) := by decide +kernel
theorem dG12_findShares_71 : decode cX12_findShares 71 = .ok (.isub, 1) := by decide +kernel
theorem dG12_findShares_72 : decode cX12_findShares 72 = .ok (.invokestatic 327, 3) := by decide +kernel
theorem dG12_findShares_75 : decode cX12_findShares 75 = .ok (.iastore, 1) := by decide +kernel
theorem dG12_findShares_76 : decode cX12_findShares 76 = .ok (.iload_n 3, 1) := by decide +kernel
theorem dG12_findShares_77 : decode cX12_findShares 77 = .ok (.aload_n 0, 1) := by decide +kernel
theorem dG12_findShares_78 : decode cX12_findShares 78 = .ok (.getfield 56, 3) := by decide +kernel
theorem dG12_findShares_81 : decode cX12_findShares 81 = .ok (.iload 4, 2) := by decide +kernel
theorem dG12_findShares_83 : decode cX12_findShares 83 = .ok (.iaload, 1) := by decide +kernel
theorem dG12_findShares_84 : decode cX12_findShares 84 = .ok (.isub, 1) := by decide +kernel
theorem dG12_findShares_85 : decode cX12_findShares 85 = .ok (.istore_n 3, 1) := by decide +kernel
theorem dG12_findShares_86 : decode cX12_findShares 86 = .ok (.aload_n 0, 1) := by decide +kernel
theorem dG12_findShares_87 : decode cX12_findShares 87 = .ok (.bipush 13, 2) := by decide +kernel
theorem dG12_findShares_89 : decode cX12_findShares 89 = .ok (.iload 4, 2) := by decide +kernel
theorem dG12_findShares_91 : decode cX12_findShares 91 = .ok (.iadd, 1) := by decide +kernel
theorem dG12_findShares_92 : decode cX12_findShares 92 = .ok (.invokevirtual 299, 3) := by decide +kernel
theorem dG12_findShares_95 : decode cX12_findShares 95 = .ok (.istore 4, 2) := by decide +kernel
theorem dG12_findShares_97 : decode cX12_findShares 97 = .ok (.goto (-71), 3) := by decide +kernel
theorem dG12_findShares_100 : decode cX12_findShares 100 = .ok (.iload_n 3, 1) := by decide +kernel
theorem dG12_findShares_101 : decode cX12_findShares 101 = .ok (.ireturn, 1) := by decide +kernel
def is_G12_findShares : Nat → List Nat := fun d => if d = 2 then [0, 1, 2, 3] else if d = 26 then [0, 3, 4] else []
set_option maxRecDepth 100000 in
def b_G12_findShares_91 (J : Nat → List qV → List qV → qW → Prop) (Q : qR) : qK := x_iadd (x_callr (some 12) 2 spr_X12_of (x_istore 4 (x_cut [0, 3, 4] (J 26))))
set_option maxRecDepth 100000 in
theorem s_G12_findShares_91 {p : Program} {l : Launch} {e : Env} {R : Room} {s : State} {m : MethodId} {args : Array Value} {below : List Frame} {meth : Method} {c : Code} {nW : Nat} {dC : Nat → ClassId} {dI : Nat → Nat → Nat} {k : Nat → ClassId} {g : Nat → Nat} {A : Nat → Prop} {J : Nat → List qV → List qV → qW → Prop} {Q : qR} (X : q_X p R s m args meth c cX12_findShares 6 nW 1 21 RX12 (some .int) dC dI k g A) (hJ : ∀ d : Nat, q_Sd p l e R s m args below meth c 6 nW dC dI k g A (MQ below (q_post (dC, dI) k g nW Q A) args s 0 0 A) d (x_cut (is_G12_findShares d) (J d))) : q_Sd p l e R s m args below meth c 6 nW dC dI k g A (MQ below (q_post (dC, dI) k g nW Q A) args s 0 0 A) 91 (b_G12_findShares_91 J Q) := by
  unfold b_G12_findShares_91
  refine s_iadd X dG12_findShares_91 ?_
  refine s_callVr X (m_X12_of l) tw_1189 tw_1190 tw_1603 tw_134 tw_1191 rfl (by decide +kernel) ⟨by decide, by decide⟩ dG12_findShares_92 ?_
  refine s_istore X (by decide) dG12_findShares_95 ?_
  refine s_goto X (tgt := 26) dG12_findShares_97 (by decide) ?_
  exact hJ 26
set_option maxRecDepth 100000 in
def b_G12_findShares_52 (J : Nat → List qV → List qV → qW → Prop) (Q : qR) : qK := x_istore 5 (x_aload 0 (x_get 12 32 (x_iload 4 (x_iload 5 (x_aload 0 (x_int 5 (x_iload 4 (x_iadd (x_callr (some 12) 2 spr_X12_of (x_int 1 (x_isub (x_callr none 2 spr_X12_lesser (x_iast (x_nw (x_iload 3 (x_aload 0 (x_get 12 32 (x_iload 4 (x_iald (x_isub (x_istore 3 (x_aload 0 (x_int 13 (x_iload 4 (b_G12_findShares_91 J Q)))))))))))))))))))))))))
set_option maxRecDepth 100000 in
theorem s_G12_findShares_52 {p : Program} {l : Launch} {e : Env} {R : Room} {s : State} {m : MethodId} {args : Array Value} {below : List Frame} {meth : Method} {c : Code} {nW : Nat} {dC : Nat → ClassId} {dI : Nat → Nat → Nat} {k : Nat → ClassId} {g : Nat → Nat} {A : Nat → Prop} {J : Nat → List qV → List qV → qW → Prop} {Q : qR} (X : q_X p R s m args meth c cX12_findShares 6 nW 1 21 RX12 (some .int) dC dI k g A) (hJ : ∀ d : Nat, q_Sd p l e R s m args below meth c 6 nW dC dI k g A (MQ below (q_post (dC, dI) k g nW Q A) args s 0 0 A) d (x_cut (is_G12_findShares d) (J d))) : q_Sd p l e R s m args below meth c 6 nW dC dI k g A (MQ below (q_post (dC, dI) k g nW Q A) args s 0 0 A) 52 (b_G12_findShares_52 J Q) := by
  unfold b_G12_findShares_52
  refine s_istore X (by decide) dG12_findShares_52 ?_
  refine s_aload_n X rfl dG12_findShares_54 ?_
  refine s_get X (T := TX12) (C := RX12) (N := 45) tu_X12 rfl (by decide) tw_1029 dG12_findShares_55 ?_
  refine s_iload X dG12_findShares_58 ?_
  refine s_iload X dG12_findShares_60 ?_
  refine s_aload_n X rfl dG12_findShares_62 ?_
  refine s_iconst X ⟨by decide, by decide⟩ dG12_findShares_63 ?_
  refine s_iload X dG12_findShares_64 ?_
  refine s_iadd X dG12_findShares_66 ?_
  refine s_callVr X (m_X12_of l) tw_1189 tw_1190 tw_1603 tw_134 tw_1191 rfl (by decide +kernel) ⟨by decide, by decide⟩ dG12_findShares_67 ?_
  refine s_iconst X ⟨by decide, by decide⟩ dG12_findShares_70 ?_
  refine s_isub X dG12_findShares_71 ?_
  refine s_callSr X (m_X12_lesser l) tw_1239 tw_1240 tw_134 tw_1241 (by decide +kernel) ⟨by decide, by decide⟩ dG12_findShares_72 ?_
  refine s_iast X dG12_findShares_75 ?_
  refine s_nw ?_
  refine s_iload_n X rfl dG12_findShares_76 ?_
  refine s_aload_n X rfl dG12_findShares_77 ?_
  refine s_get X (T := TX12) (C := RX12) (N := 45) tu_X12 rfl (by decide) tw_1029 dG12_findShares_78 ?_
  refine s_iload X dG12_findShares_81 ?_
  refine s_iald X dG12_findShares_83 ?_
  refine s_isub X dG12_findShares_84 ?_
  refine s_istore_n X rfl (by decide) dG12_findShares_85 ?_
  refine s_aload_n X rfl dG12_findShares_86 ?_
  refine s_bipush X ⟨by decide, by decide⟩ (by decide) dG12_findShares_87 ?_
  refine s_iload X dG12_findShares_89 ?_
  exact s_G12_findShares_91 X hJ
set_option maxRecDepth 100000 in
def b_G12_findShares_26 (J : Nat → List qV → List qV → qW → Prop) (Q : qR) : qK := x_iload 4 (x_int (-1) (x_icmp_eq (x_iload 3 (x_iret Q)) (x_aload 0 (x_int 13 (x_iload 4 (x_iadd (x_callr (some 12) 2 spr_X12_of (x_int (-1) (x_icmp_ne (x_iload 3 (x_int 2 (x_idiv (b_G12_findShares_52 J Q)))) (x_iload 3 (b_G12_findShares_52 J Q)))))))))))
set_option maxRecDepth 100000 in
theorem s_G12_findShares_26 {p : Program} {l : Launch} {e : Env} {R : Room} {s : State} {m : MethodId} {args : Array Value} {below : List Frame} {meth : Method} {c : Code} {nW : Nat} {dC : Nat → ClassId} {dI : Nat → Nat → Nat} {k : Nat → ClassId} {g : Nat → Nat} {A : Nat → Prop} {J : Nat → List qV → List qV → qW → Prop} {Q : qR} (X : q_X p R s m args meth c cX12_findShares 6 nW 1 21 RX12 (some .int) dC dI k g A) (hJ : ∀ d : Nat, q_Sd p l e R s m args below meth c 6 nW dC dI k g A (MQ below (q_post (dC, dI) k g nW Q A) args s 0 0 A) d (x_cut (is_G12_findShares d) (J d))) : q_Sd p l e R s m args below meth c 6 nW dC dI k g A (MQ below (q_post (dC, dI) k g nW Q A) args s 0 0 A) 26 (b_G12_findShares_26 J Q) := by
  unfold b_G12_findShares_26
  refine s_iload X dG12_findShares_26 ?_
  refine s_iconst X ⟨by decide, by decide⟩ dG12_findShares_28 ?_
  refine s_icmp_eq X (tgt := 100) dG12_findShares_29 (by decide) ?_ ?_
  · refine s_iload_n X rfl dG12_findShares_100 ?_
    exact s_iret X dG12_findShares_101
  · refine s_aload_n X rfl dG12_findShares_32 ?_
    refine s_bipush X ⟨by decide, by decide⟩ (by decide) dG12_findShares_33 ?_
    refine s_iload X dG12_findShares_35 ?_
    refine s_iadd X dG12_findShares_37 ?_
    refine s_callVr X (m_X12_of l) tw_1189 tw_1190 tw_1603 tw_134 tw_1191 rfl (by decide +kernel) ⟨by decide, by decide⟩ dG12_findShares_38 ?_
    refine s_iconst X ⟨by decide, by decide⟩ dG12_findShares_41 ?_
    refine s_icmp_ne X (tgt := 49) dG12_findShares_42 (by decide) ?_ ?_
    · refine s_iload_n X rfl dG12_findShares_49 ?_
      refine s_iconst X ⟨by decide, by decide⟩ dG12_findShares_50 ?_
      refine s_idiv X dG12_findShares_51 ?_
      exact s_G12_findShares_52 X hJ
    · refine s_iload_n X rfl dG12_findShares_45 ?_
      refine s_goto X (tgt := 52) dG12_findShares_46 (by decide) ?_
      exact s_G12_findShares_52 X hJ
set_option maxRecDepth 100000 in
def b_G12_findShares_2 (J : Nat → List qV → List qV → qW → Prop) (Q : qR) : qK := x_iload 3 (x_int 8 (x_icmp_ge (x_iload 2 (x_istore 3 (x_iload 1 (x_istore 4 (x_cut [0, 3, 4] (J 26)))))) (x_aload 0 (x_get 12 32 (x_iload 3 (x_int 0 (x_iast (x_nw (x_iinc 3 1 (x_cut [0, 1, 2, 3] (J 2)))))))))))
set_option maxRecDepth 100000 in
theorem s_G12_findShares_2 {p : Program} {l : Launch} {e : Env} {R : Room} {s : State} {m : MethodId} {args : Array Value} {below : List Frame} {meth : Method} {c : Code} {nW : Nat} {dC : Nat → ClassId} {dI : Nat → Nat → Nat} {k : Nat → ClassId} {g : Nat → Nat} {A : Nat → Prop} {J : Nat → List qV → List qV → qW → Prop} {Q : qR} (X : q_X p R s m args meth c cX12_findShares 6 nW 1 21 RX12 (some .int) dC dI k g A) (hJ : ∀ d : Nat, q_Sd p l e R s m args below meth c 6 nW dC dI k g A (MQ below (q_post (dC, dI) k g nW Q A) args s 0 0 A) d (x_cut (is_G12_findShares d) (J d))) : q_Sd p l e R s m args below meth c 6 nW dC dI k g A (MQ below (q_post (dC, dI) k g nW Q A) args s 0 0 A) 2 (b_G12_findShares_2 J Q) := by
  unfold b_G12_findShares_2
  refine s_iload_n X rfl dG12_findShares_2 ?_
  refine s_bipush X ⟨by decide, by decide⟩ (by decide) dG12_findShares_3 ?_
  refine s_icmp_ge X (tgt := 21) dG12_findShares_5 (by decide) ?_ ?_
  · refine s_iload_n X rfl dG12_findShares_21 ?_
    refine s_istore_n X rfl (by decide) dG12_findShares_22 ?_
    refine s_iload_n X rfl dG12_findShares_23 ?_
    refine s_istore X (by decide) dG12_findShares_24 ?_
    exact hJ 26
  · refine s_aload_n X rfl dG12_findShares_8 ?_
    refine s_get X (T := TX12) (C := RX12) (N := 45) tu_X12 rfl (by decide) tw_1029 dG12_findShares_9 ?_
    refine s_iload_n X rfl dG12_findShares_12 ?_
    refine s_iconst X ⟨by decide, by decide⟩ dG12_findShares_13 ?_
    refine s_iast X dG12_findShares_14 ?_
    refine s_nw ?_
    refine s_iinc X (by decide) dG12_findShares_15 ?_
    refine s_goto X (tgt := 2) dG12_findShares_18 (by decide) ?_
    exact hJ 2
set_option maxRecDepth 100000 in
def b_G12_findShares_0 (J : Nat → List qV → List qV → qW → Prop) (Q : qR) : qK := x_int 0 (x_istore 3 (x_cut [0, 1, 2, 3] (J 2)))
set_option maxRecDepth 100000 in
theorem s_G12_findShares_0 {p : Program} {l : Launch} {e : Env} {R : Room} {s : State} {m : MethodId} {args : Array Value} {below : List Frame} {meth : Method} {c : Code} {nW : Nat} {dC : Nat → ClassId} {dI : Nat → Nat → Nat} {k : Nat → ClassId} {g : Nat → Nat} {A : Nat → Prop} {J : Nat → List qV → List qV → qW → Prop} {Q : qR} (X : q_X p R s m args meth c cX12_findShares 6 nW 1 21 RX12 (some .int) dC dI k g A) (hJ : ∀ d : Nat, q_Sd p l e R s m args below meth c 6 nW dC dI k g A (MQ below (q_post (dC, dI) k g nW Q A) args s 0 0 A) d (x_cut (is_G12_findShares d) (J d))) : q_Sd p l e R s m args below meth c 6 nW dC dI k g A (MQ below (q_post (dC, dI) k g nW Q A) args s 0 0 A) 0 (b_G12_findShares_0 J Q) := by
  unfold b_G12_findShares_0
  refine s_iconst X ⟨by decide, by decide⟩ dG12_findShares_0 ?_
  refine s_istore_n X rfl (by decide) dG12_findShares_1 ?_
  exact hJ 2

def sp_G12_findShares : qS := fun av w Q => ∃ (mco : Int) (mre : Int) (mle : Int) (mbe : Int) (mso : Int) (mva : Int) (mwo : Int) (mwr : Int) (mlf : Int) (mlp : Int) (mfp : Int) (mfd : Int) (mgo : Int) (mbo : Int) (mpe : Int) (mye : Int) (mpr : Int) (mld : Int) (msi : Int) (mse : Int) (lo : Nat → Int) (bs : Nat → Int) (D : Nat → Int) (a : Int) (b : Int), av = [q2 0, q1 a, q1 b] ∧ w = [.inr (12, [q1 mco, q2 3, q2 4, q2 5, q2 6, q2 7, q2 2, q2 8, q2 9, q2 10, q1 mre, q1 mle, q1 mbe, q1 mso, q1 mva, q3 mwo, q1 mwr, q1 mlf, q1 mlp, q2 11, q2 12, q1 mfp, q1 mfd, q1 mgo, q1 mbo, q1 mpe, q1 mye, q2 13, q1 mpr, q2 14, q2 15, q2 16, q2 1, q1 mld, q2 17, q1 msi, q2 18, q2 19, q2 20, q2 21, q2 22, q1 mse, q2 23, q2 24, q2 25]), .inl (0, 8, .inl lo), .inl (0, 600, .inl bs)] ∧ (0 ≤ mbo ∧ mbo ≤ 1) ∧ (0 ≤ mpe ∧ mpe ≤ 8) ∧ (BI bs) ∧ (mpe = ofR bs mbo 0) ∧ (0 ≤ a ∧ a < mpe) ∧ (1 ≤ b ∧ b ≤ 99) ∧ (D = rwD bs (75 * mbo).toNat) ∧ (BK D) ∧ (∀ (r : Int) (x_lo : Nat → Int), ShI D a b (-1) r x_lo → Q (some (q1 r)) ([.inr (12, [q1 mco, q2 3, q2 4, q2 5, q2 6, q2 7, q2 2, q2 8, q2 9, q2 10, q1 mre, q1 mle, q1 mbe, q1 mso, q1 mva, q3 mwo, q1 mwr, q1 mlf, q1 mlp, q2 11, q2 12, q1 mfp, q1 mfd, q1 mgo, q1 mbo, q1 mpe, q1 mye, q2 13, q1 mpr, q2 14, q2 15, q2 16, q2 1, q1 mld, q2 17, q1 msi, q2 18, q2 19, q2 20, q2 21, q2 22, q1 mse, q2 23, q2 24, q2 25]), .inl (0, 8, .inl x_lo), .inl (0, 600, .inl bs)]))
def I_G12_findShares (mco : Int) (mre : Int) (mle : Int) (mbe : Int) (mso : Int) (mva : Int) (mwo : Int) (mwr : Int) (mlf : Int) (mlp : Int) (mfp : Int) (mfd : Int) (mgo : Int) (mbo : Int) (mpe : Int) (mye : Int) (mpr : Int) (mld : Int) (msi : Int) (mse : Int) (lo : Nat → Int) (bs : Nat → Int) (D : Nat → Int) (a : Int) (b : Int) : Nat → Nat → List qV → List qV → qW → Prop := fun dz mz vz sz wz => if dz = 2 then (∃ (y_lo : Nat → Int) (v3 : Int), vz = [q2 0, q1 a, q1 b, q1 v3] ∧ sz = [] ∧ wz = [.inr (12, [q1 mco, q2 3, q2 4, q2 5, q2 6, q2 7, q2 2, q2 8, q2 9, q2 10, q1 mre, q1 mle, q1 mbe, q1 mso, q1 mva, q3 mwo, q1 mwr, q1 mlf, q1 mlp, q2 11, q2 12, q1 mfp, q1 mfd, q1 mgo, q1 mbo, q1 mpe, q1 mye, q2 13, q1 mpr, q2 14, q2 15, q2 16, q2 1, q1 mld, q2 17, q1 msi, q2 18, q2 19, q2 20, q2 21, q2 22, q1 mse, q2 23, q2 24, q2 25]), .inl (0, 8, .inl y_lo), .inl (0, 600, .inl bs)] ∧ mz = 1000000 + (8 - v3).toNat ∧ (0 ≤ v3 ∧ v3 ≤ 8) ∧ (∀ j : Nat, (j : Int) < v3 → y_lo j = 0)) else if dz = 26 then (∃ (y_lo : Nat → Int) (v3 : Int) (v4 : Int), vz = [q2 0, q1 v3, q1 v4] ∧ sz = [] ∧ wz = [.inr (12, [q1 mco, q2 3, q2 4, q2 5, q2 6, q2 7, q2 2, q2 8, q2 9, q2 10, q1 mre, q1 mle, q1 mbe, q1 mso, q1 mva, q3 mwo, q1 mwr, q1 mlf, q1 mlp, q2 11, q2 12, q1 mfp, q1 mfd, q1 mgo, q1 mbo, q1 mpe, q1 mye, q2 13, q1 mpr, q2 14, q2 15, q2 16, q2 1, q1 mld, q2 17, q1 msi, q2 18, q2 19, q2 20, q2 21, q2 22, q1 mse, q2 23, q2 24, q2 25]), .inl (0, 8, .inl y_lo), .inl (0, 600, .inl bs)] ∧ mz = stp bs (75 * mbo.toNat) 8 v4 ∧ (pch bs (75 * mbo.toNat) 8 v4 = -1) ∧ (-1 ≤ v4 ∧ v4 < mpe) ∧ (0 ≤ v3 ∧ v3 ≤ 99) ∧ (ShI D a b v4 v3 y_lo)) else False
set_option maxHeartbeats 4000000 in
set_option maxRecDepth 100000 in
theorem m_G12_findShares (l : Launch) : q_M l yX12_findShares cX12_findShares 6 (some .int) 1 21 sp_G12_findShares := by
  refine q_meth (by decide) (fun av w Q h => by obtain ⟨mco, mre, mle, mbe, mso, mva, mwo, mwr, mlf, mlp, mfp, mfd, mgo, mbo, mpe, mye, mpr, mld, msi, mse, lo, bs, D, a, b, rfl, rfl, hbo, hpe, hbi, hpq, ha, hb, hD, hK, hQ⟩ := h; exact Nat.le_of_ble_eq_true rfl) ?_
  intro p e R s m args below meth c dC dI k g A av w Q hsp oka okw X
  obtain ⟨mco, mre, mle, mbe, mso, mva, mwo, mwr, mlf, mlp, mfp, mfd, mgo, mbo, mpe, mye, mpr, mld, msi, mse, lo, bs, D, a, b, rfl, rfl, hbo, hpe, hbi, hpq, ha, hb, hD, hK, hQ⟩ := hsp
  have o_a : -2147483648 ≤ a ∧ a ≤ 2147483647 := oka _ (List.mem_of_getElem? (i := 1) rfl)
  have o_b : -2147483648 ≤ b ∧ b ≤ 2147483647 := oka _ (List.mem_of_getElem? (i := 2) rfl)
  refine s_mono (s_G12_findShares_0 X (J := fun dz vz sz wz => ∃ mz, I_G12_findShares mco mre mle mbe mso mva mwo mwr mlf mlp mfp mfd mgo mbo mpe mye mpr mld msi mse lo bs D a b dz mz vz sz wz) (q_loopn (I_G12_findShares mco mre mle mbe mso mva mwo mwr mlf mlp mfp mfd mgo mbo mpe mye mpr mld msi mse lo bs D a b) (fun dz J => if dz = 2 then b_G12_findShares_2 J Q else if dz = 26 then b_G12_findShares_26 J Q else q_F) ?hs ?hv)) ?_
  case hs =>
    intro d J hJ
    by_cases h2 : d = 2
    · subst h2; exact s_G12_findShares_2 X hJ
    by_cases h26 : d = 26
    · subst h26; exact s_G12_findShares_26 X hJ
    simp only [h2, h26, if_false]
    exact s_F
  case hv =>
    intro dz mz vz sz wz hI okv oks okw hlen
    by_cases h2 : dz = 2
    · subst h2
      obtain ⟨y_lo, v3, rfl, rfl, rfl, hn, hp, hz⟩ := hI
      apply And.intro
      · intro h5
        have sl := stp_le (f := bs) (b := 75 * mbo.toNat) 8 a
        exact ⟨_, ⟨_, _, _, rfl, rfl, rfl, rfl, (by first | exact st.1 | exact BI_ac hbi hbo (by omega)), (by first | omega | (have r92 := BK_par hK (i := v4.toNat) (by omega); omega)), (by first | omega | assumption | exact q_rg_up (by assumption) (by omega) | exact q_rg_up (q_rg_up (by assumption) (by omega)) (by omega) | exact q_rg_cpy (by assumption) (by assumption)), (by first | exact ShI_0 (fun j hj => hz j (by omega)) | exact ShI_s hs9 hK (by omega) (by omega) q72 q92 (by omega))⟩, by omega⟩
      · intro h5
        apply And.intro
        · exact ⟨by omega, by omega⟩
        intro z15 h15
        first | replace h15 := e_add h15 (by omega) | replace h15 := e_rng h15
        exact ⟨_, ⟨_, _, rfl, rfl, rfl, rfl, (by first | omega | assumption | exact q_rg_up (by assumption) (by omega) | exact q_rg_up (q_rg_up (by assumption) (by omega)) (by omega) | exact q_rg_cpy (by assumption) (by assumption)), (by first | (intro j hj; exfalso; omega) | exact lo_z hz (by omega) (by omega))⟩, by omega⟩
    by_cases h26 : dz = 26
    · subst h26
      obtain ⟨y_lo, v3, v4, rfl, rfl, rfl, hn, ho, hr, hv, hs9⟩ := hI
      have hu : mpe = D 0 := ob (y := 0) hD hbo hpq (by decide)
      have u8 := BK_p hK
      apply And.intro
      · intro h29
        exact hQ _ _ (by rw [← (show v4 = -1 by omega)]; exact hs9)
      · intro h29
        intro z37 h37
        first | replace h37 := e_add h37 (by omega) | replace h37 := e_rng h37
        refine Exists.intro [0, 2, 3, 4, 5, 6, 7, 8, 9, 10, 11, 12, 13, 14, 15, 16, 1, 17, 18, 19, 20, 21, 22, 23, 24, 25] (Exists.intro [q2 0, q1 _] (Exists.intro ([.inr (12, [q1 _, q2 2, q2 3, q2 4, q2 5, q2 6, q2 1, q2 7, q2 8, q2 9, q1 _, q1 _, q1 _, q1 _, q1 _, q3 _, q1 _, q1 _, q1 _, q2 10, q2 11, q1 _, q1 _, q1 _, q1 _, q1 _, q1 _, q2 12, q1 _, q2 13, q2 14, q2 15, q2 16, q1 _, q2 17, q1 _, q2 18, q2 19, q2 20, q2 21, q2 22, q1 _, q2 23, q2 24, q2 25]), .inl (0, 600, .inl _)]) (And.intro rfl (And.intro rfl (And.intro rfl (And.intro ⟨⟨_, rfl⟩, rfl⟩ ?_))))))
        refine Exists.intro _ (Exists.intro _ (Exists.intro _ (Exists.intro _ (Exists.intro _ (Exists.intro _ (Exists.intro _ (Exists.intro _ (Exists.intro _ (Exists.intro _ (Exists.intro _ (Exists.intro _ (Exists.intro _ (Exists.intro _ (Exists.intro _ (Exists.intro _ (Exists.intro _ (Exists.intro _ (Exists.intro _ (Exists.intro _ (Exists.intro _ (Exists.intro _ (And.intro rfl (And.intro rfl (And.intro (by first | omega | assumption | exact q_rg_up (by assumption) (by omega) | exact q_rg_up (q_rg_up (by assumption) (by omega)) (by omega) | exact q_rg_cpy (by assumption) (by assumption)) (And.intro (by first | omega | assumption | exact q_rg_up (by assumption) (by omega) | exact q_rg_up (q_rg_up (by assumption) (by omega)) (by omega) | exact q_rg_cpy (by assumption) (by assumption)) (And.intro (by first | omega | assumption | exact q_rg_up (by assumption) (by omega) | exact q_rg_up (q_rg_up (by assumption) (by omega)) (by omega) | exact q_rg_cpy (by assumption) (by assumption)) (?_)))))))))))))))))))))))))))
        intro z38 h38
        obtain ⟨h38, k38⟩ := h38
        first | replace k38 := OFQ_13 k38 (by omega) | replace k38 := OFQ_21 k38 (by omega) | clear k38
        have q38 := ob_k 13 hD hbo h38 (show z37 = 13 + v4 by omega) (by omega)
        apply And.intro
        · intro h42
          apply And.intro
          · first | omega | (intro e9; omega)
          intro z51 h51
          first | replace h51 := e_div h51 (by omega) (by omega) | replace h51 := e_rng h51
          intro z66 h66
          first | replace h66 := e_add h66 (by omega) | replace h66 := e_rng h66
          refine Exists.intro [0, 2, 3, 4, 5, 6, 7, 8, 9, 10, 11, 12, 13, 14, 15, 16, 1, 17, 18, 19, 20, 21, 22, 23, 24, 25] (Exists.intro [q2 0, q1 _] (Exists.intro ([.inr (12, [q1 _, q2 2, q2 3, q2 4, q2 5, q2 6, q2 1, q2 7, q2 8, q2 9, q1 _, q1 _, q1 _, q1 _, q1 _, q3 _, q1 _, q1 _, q1 _, q2 10, q2 11, q1 _, q1 _, q1 _, q1 _, q1 _, q1 _, q2 12, q1 _, q2 13, q2 14, q2 15, q2 16, q1 _, q2 17, q1 _, q2 18, q2 19, q2 20, q2 21, q2 22, q1 _, q2 23, q2 24, q2 25]), .inl (0, 600, .inl _)]) (And.intro rfl (And.intro rfl (And.intro rfl (And.intro ⟨⟨_, rfl⟩, rfl⟩ ?_))))))
          refine Exists.intro _ (Exists.intro _ (Exists.intro _ (Exists.intro _ (Exists.intro _ (Exists.intro _ (Exists.intro _ (Exists.intro _ (Exists.intro _ (Exists.intro _ (Exists.intro _ (Exists.intro _ (Exists.intro _ (Exists.intro _ (Exists.intro _ (Exists.intro _ (Exists.intro _ (Exists.intro _ (Exists.intro _ (Exists.intro _ (Exists.intro _ (Exists.intro _ (And.intro rfl (And.intro rfl (And.intro (by first | omega | assumption | exact q_rg_up (by assumption) (by omega) | exact q_rg_up (q_rg_up (by assumption) (by omega)) (by omega) | exact q_rg_cpy (by assumption) (by assumption)) (And.intro (by first | omega | assumption | exact q_rg_up (by assumption) (by omega) | exact q_rg_up (q_rg_up (by assumption) (by omega)) (by omega) | exact q_rg_cpy (by assumption) (by assumption)) (And.intro (by first | omega | assumption | exact q_rg_up (by assumption) (by omega) | exact q_rg_up (q_rg_up (by assumption) (by omega)) (by omega) | exact q_rg_cpy (by assumption) (by assumption)) (?_)))))))))))))))))))))))))))
          intro z67 h67
          obtain ⟨h67, k67⟩ := h67
          first | replace k67 := OFQ_13 k67 (by omega) | replace k67 := OFQ_21 k67 (by omega) | clear k67
          have q67 := ob_k 5 hD hbo h67 (show z66 = 5 + v4 by omega) (by omega)
          have i67 := BK_i hK (i := v4.toNat) (by omega)
          intro z71 h71
          first | replace h71 := e_sub h71 (by omega) | replace h71 := e_rng h71
          refine Exists.intro [] (Exists.intro [q1 _, q1 _] (Exists.intro [] (And.intro rfl (And.intro rfl (And.intro rfl (And.intro trivial ?_))))))
          refine Exists.intro _ (Exists.intro _ (And.intro rfl (And.intro rfl (?_))))
          intro z72 h72
          have q72 : z72 = shL D v3 v4 := (by first | exact shL_y q38 (by omega) q67 (show z72 = min v3 z71 by omega) (by omega) | exact shL_n q38 (by omega) q67 (show z72 = min z51 z71 by omega) h51 (by omega))
          have r72 := shL_rg hK (r := v3) (o := v4) (by omega) (by omega) q72
          apply And.intro
          · exact ⟨by omega, by omega⟩
          apply And.intro
          · exact ⟨by omega, by omega⟩
          intro z83 h83
          rw [q_up_s] at h83
          intro z84 h84
          first | replace h84 := e_sub h84 (by omega) | replace h84 := e_rng h84
          intro z91 h91
          first | replace h91 := e_add h91 (by omega) | replace h91 := e_rng h91
          refine Exists.intro [0, 2, 3, 4, 5, 6, 7, 8, 9, 10, 11, 12, 13, 14, 15, 16, 1, 17, 18, 19, 20, 21, 22, 23, 24, 25] (Exists.intro [q2 0, q1 _] (Exists.intro ([.inr (12, [q1 _, q2 2, q2 3, q2 4, q2 5, q2 6, q2 1, q2 7, q2 8, q2 9, q1 _, q1 _, q1 _, q1 _, q1 _, q3 _, q1 _, q1 _, q1 _, q2 10, q2 11, q1 _, q1 _, q1 _, q1 _, q1 _, q1 _, q2 12, q1 _, q2 13, q2 14, q2 15, q2 16, q1 _, q2 17, q1 _, q2 18, q2 19, q2 20, q2 21, q2 22, q1 _, q2 23, q2 24, q2 25]), .inl (0, 600, .inl _)]) (And.intro rfl (And.intro rfl (And.intro rfl (And.intro ⟨⟨_, rfl⟩, rfl⟩ ?_))))))
          refine Exists.intro _ (Exists.intro _ (Exists.intro _ (Exists.intro _ (Exists.intro _ (Exists.intro _ (Exists.intro _ (Exists.intro _ (Exists.intro _ (Exists.intro _ (Exists.intro _ (Exists.intro _ (Exists.intro _ (Exists.intro _ (Exists.intro _ (Exists.intro _ (Exists.intro _ (Exists.intro _ (Exists.intro _ (Exists.intro _ (Exists.intro _ (Exists.intro _ (And.intro rfl (And.intro rfl (And.intro (by first | omega | assumption | exact q_rg_up (by assumption) (by omega) | exact q_rg_up (q_rg_up (by assumption) (by omega)) (by omega) | exact q_rg_cpy (by assumption) (by assumption)) (And.intro (by first | omega | assumption | exact q_rg_up (by assumption) (by omega) | exact q_rg_up (q_rg_up (by assumption) (by omega)) (by omega) | exact q_rg_cpy (by assumption) (by assumption)) (And.intro (by first | omega | assumption | exact q_rg_up (by assumption) (by omega) | exact q_rg_up (q_rg_up (by assumption) (by omega)) (by omega) | exact q_rg_cpy (by assumption) (by assumption)) (?_)))))))))))))))))))))))))))
          intro z92 h92
          obtain ⟨h92, k92⟩ := h92
          first | replace k92 := OFQ_13 k92 (by omega) | replace k92 := OFQ_21 k92 (by omega) | clear k92
          have st := up_s (r := z92) hbo ho (by omega) (by rw [h92, h91])
          have q92 := ob_k 13 hD hbo h92 (show z91 = 13 + v4 by omega) (by omega)
          exact ⟨_, ⟨_, _, _, rfl, rfl, rfl, rfl, (by first | exact st.1 | exact BI_ac hbi hbo (by omega)), (by first | omega | (have r92 := BK_par hK (i := v4.toNat) (by omega); omega)), (by first | omega | assumption | exact q_rg_up (by assumption) (by omega) | exact q_rg_up (q_rg_up (by assumption) (by omega)) (by omega) | exact q_rg_cpy (by assumption) (by assumption)), (by first | exact ShI_0 (fun j hj => hz j (by omega)) | exact ShI_s hs9 hK (by omega) (by omega) q72 q92 (by omega))⟩, by omega⟩
        · intro h42
          intro z66 h66
          first | replace h66 := e_add h66 (by omega) | replace h66 := e_rng h66
          refine Exists.intro [0, 2, 3, 4, 5, 6, 7, 8, 9, 10, 11, 12, 13, 14, 15, 16, 1, 17, 18, 19, 20, 21, 22, 23, 24, 25] (Exists.intro [q2 0, q1 _] (Exists.intro ([.inr (12, [q1 _, q2 2, q2 3, q2 4, q2 5, q2 6, q2 1, q2 7, q2 8, q2 9, q1 _, q1 _, q1 _, q1 _, q1 _, q3 _, q1 _, q1 _, q1 _, q2 10, q2 11, q1 _, q1 _, q1 _, q1 _, q1 _, q1 _, q2 12, q1 _, q2 13, q2 14, q2 15, q2 16, q1 _, q2 17, q1 _, q2 18, q2 19, q2 20, q2 21, q2 22, q1 _, q2 23, q2 24, q2 25]), .inl (0, 600, .inl _)]) (And.intro rfl (And.intro rfl (And.intro rfl (And.intro ⟨⟨_, rfl⟩, rfl⟩ ?_))))))
          refine Exists.intro _ (Exists.intro _ (Exists.intro _ (Exists.intro _ (Exists.intro _ (Exists.intro _ (Exists.intro _ (Exists.intro _ (Exists.intro _ (Exists.intro _ (Exists.intro _ (Exists.intro _ (Exists.intro _ (Exists.intro _ (Exists.intro _ (Exists.intro _ (Exists.intro _ (Exists.intro _ (Exists.intro _ (Exists.intro _ (Exists.intro _ (Exists.intro _ (And.intro rfl (And.intro rfl (And.intro (by first | omega | assumption | exact q_rg_up (by assumption) (by omega) | exact q_rg_up (q_rg_up (by assumption) (by omega)) (by omega) | exact q_rg_cpy (by assumption) (by assumption)) (And.intro (by first | omega | assumption | exact q_rg_up (by assumption) (by omega) | exact q_rg_up (q_rg_up (by assumption) (by omega)) (by omega) | exact q_rg_cpy (by assumption) (by assumption)) (And.intro (by first | omega | assumption | exact q_rg_up (by assumption) (by omega) | exact q_rg_up (q_rg_up (by assumption) (by omega)) (by omega) | exact q_rg_cpy (by assumption) (by assumption)) (?_)))))))))))))))))))))))))))
          intro z67 h67
          obtain ⟨h67, k67⟩ := h67
          first | replace k67 := OFQ_13 k67 (by omega) | replace k67 := OFQ_21 k67 (by omega) | clear k67
          have q67 := ob_k 5 hD hbo h67 (show z66 = 5 + v4 by omega) (by omega)
          have i67 := BK_i hK (i := v4.toNat) (by omega)
          intro z71 h71
          first | replace h71 := e_sub h71 (by omega) | replace h71 := e_rng h71
          refine Exists.intro [] (Exists.intro [q1 _, q1 _] (Exists.intro [] (And.intro rfl (And.intro rfl (And.intro rfl (And.intro trivial ?_))))))
          refine Exists.intro _ (Exists.intro _ (And.intro rfl (And.intro rfl (?_))))
          intro z72 h72
          have q72 : z72 = shL D v3 v4 := (by first | exact shL_y q38 (by omega) q67 (show z72 = min v3 z71 by omega) (by omega) | exact shL_n q38 (by omega) q67 (show z72 = min z51 z71 by omega) h51 (by omega))
          have r72 := shL_rg hK (r := v3) (o := v4) (by omega) (by omega) q72
          apply And.intro
          · exact ⟨by omega, by omega⟩
          apply And.intro
          · exact ⟨by omega, by omega⟩
          intro z83 h83
          rw [q_up_s] at h83
          intro z84 h84
          first | replace h84 := e_sub h84 (by omega) | replace h84 := e_rng h84
          intro z91 h91
          first | replace h91 := e_add h91 (by omega) | replace h91 := e_rng h91
          refine Exists.intro [0, 2, 3, 4, 5, 6, 7, 8, 9, 10, 11, 12, 13, 14, 15, 16, 1, 17, 18, 19, 20, 21, 22, 23, 24, 25] (Exists.intro [q2 0, q1 _] (Exists.intro ([.inr (12, [q1 _, q2 2, q2 3, q2 4, q2 5, q2 6, q2 1, q2 7, q2 8, q2 9, q1 _, q1 _, q1 _, q1 _, q1 _, q3 _, q1 _, q1 _, q1 _, q2 10, q2 11, q1 _, q1 _, q1 _, q1 _, q1 _, q1 _, q2 12, q1 _, q2 13, q2 14, q2 15, q2 16, q1 _, q2 17, q1 _, q2 18, q2 19, q2 20, q2 21, q2 22, q1 _, q2 23, q2 24, q2 25]), .inl (0, 600, .inl _)]) (And.intro rfl (And.intro rfl (And.intro rfl (And.intro ⟨⟨_, rfl⟩, rfl⟩ ?_))))))
          refine Exists.intro _ (Exists.intro _ (Exists.intro _ (Exists.intro _ (Exists.intro _ (Exists.intro _ (Exists.intro _ (Exists.intro _ (Exists.intro _ (Exists.intro _ (Exists.intro _ (Exists.intro _ (Exists.intro _ (Exists.intro _ (Exists.intro _ (Exists.intro _ (Exists.intro _ (Exists.intro _ (Exists.intro _ (Exists.intro _ (Exists.intro _ (Exists.intro _ (And.intro rfl (And.intro rfl (And.intro (by first | omega | assumption | exact q_rg_up (by assumption) (by omega) | exact q_rg_up (q_rg_up (by assumption) (by omega)) (by omega) | exact q_rg_cpy (by assumption) (by assumption)) (And.intro (by first | omega | assumption | exact q_rg_up (by assumption) (by omega) | exact q_rg_up (q_rg_up (by assumption) (by omega)) (by omega) | exact q_rg_cpy (by assumption) (by assumption)) (And.intro (by first | omega | assumption | exact q_rg_up (by assumption) (by omega) | exact q_rg_up (q_rg_up (by assumption) (by omega)) (by omega) | exact q_rg_cpy (by assumption) (by assumption)) (?_)))))))))))))))))))))))))))
          intro z92 h92
          obtain ⟨h92, k92⟩ := h92
          first | replace k92 := OFQ_13 k92 (by omega) | replace k92 := OFQ_21 k92 (by omega) | clear k92
          have st := up_s (r := z92) hbo ho (by omega) (by rw [h92, h91])
          have q92 := ob_k 13 hD hbo h92 (show z91 = 13 + v4 by omega) (by omega)
          exact ⟨_, ⟨_, _, _, rfl, rfl, rfl, rfl, (by first | exact st.1 | exact BI_ac hbi hbo (by omega)), (by first | omega | (have r92 := BK_par hK (i := v4.toNat) (by omega); omega)), (by first | omega | assumption | exact q_rg_up (by assumption) (by omega) | exact q_rg_up (q_rg_up (by assumption) (by omega)) (by omega) | exact q_rg_cpy (by assumption) (by assumption)), (by first | exact ShI_0 (fun j hj => hz j (by omega)) | exact ShI_s hs9 hK (by omega) (by omega) q72 q92 (by omega))⟩, by omega⟩
    simp only [I_G12_findShares, h2, h26, if_false] at hI
  rintro lv st w' ⟨rfl, rfl, rfl⟩
  have hu : mpe = D 0 := ob (y := 0) hD hbo hpq (by decide)
  have u8 := BK_p hK
  exact ⟨_, _, _, rfl, rfl, rfl, rfl, (by first | omega | assumption | exact q_rg_up (by assumption) (by omega) | exact q_rg_up (q_rg_up (by assumption) (by omega)) (by omega) | exact q_rg_cpy (by assumption) (by assumption)), (by first | (intro j hj; exfalso; omega) | exact lo_z hz (by omega) (by omega))⟩

theorem dG12_share_0 : decode cX12_share 0 = .ok (.aload_n 0, 1) := by decide +kernel
theorem dG12_share_1 : decode cX12_share 1 = .ok (.iconst 0, 1) := by decide +kernel
theorem dG12_share_2 : decode cX12_share 2 = .ok (.putfield 88, 3) := by decide +kernel
theorem dG12_share_5 : decode cX12_share 5 = .ok (.aload_n 0, 1) := by decide +kernel
theorem dG12_share_6 : decode cX12_share 6 = .ok (.iload_n 1, 1) := by decide +kernel
theorem dG12_share_7 : decode cX12_share 7 = .ok (.invokevirtual 306, 3) := by decide +kernel
theorem dG12_share_10 : decode cX12_share 10 = .ok (.ifCond .eq 36, 3) := by decide +kernel
theorem dG12_share_13 : decode cX12_share 13 = .ok (.aload_n 0, 1) := by decide +kernel
theorem dG12_share_14 : decode cX12_share 14 = .ok (.iload_n 2, 1) := by decide +kernel
theorem dG12_share_15 : decode cX12_share 15 = .ok (.invokevirtual 309, 3) := by decide +kernel
theorem dG12_share_18 : decode cX12_share 18 = .ok (.ifCond .eq 28, 3) := by decide +kernel
theorem dG12_share_21 : decode cX12_share 21 = .ok (.iload_n 3, 1) := by decide +kernel
theorem dG12_share_22 : decode cX12_share 22 = .ok (.iconst 1, 1) := by decide +kernel
theorem dG12_share_23 : decode cX12_share 23 = .ok (.bipush 99, 2) := by decide +kernel
theorem dG12_share_25 : decode cX12_share 25 = .ok (.invokestatic 100, 3) := by decide +kernel
theorem dG12_share_28 : decode cX12_share 28 = .ok (.ifCond .eq 18, 3) := by decide +kernel
theorem dG12_share_31 : decode cX12_share 31 = .ok (.iload 4, 2) := by decide +kernel
theorem dG12_share_33 : decode cX12_share 33 = .ok (.iconst (-1), 1) := by decide +kernel
theorem dG12_share_34 : decode cX12_share 34 = .ok (.if_icmp .eq 14, 3) := by decide +kernel
theorem dG12_share_37 : decode cX12_share 37 = .ok (.aload_n 0, 1) := by decide +kernel
theorem dG12_share_38 : decode cX12_share 38 = .ok (.iload 4, 2) := by decide +kernel
theorem dG12_share_40 : decode cX12_share 40 = .ok (.invokevirtual 309, 3) := by decide +kernel
theorem dG12_share_43 : decode cX12_share 43 = .ok (.ifCond .ne 5, 3) := by decide +kernel
theorem dG12_share_46 : decode cX12_share 46 = .ok (.iconst (-1), 1) := by decide +kernel
theorem dG12_share_47 : decode cX12_share 47 = .ok (.ireturn, 1) := by decide +kernel
theorem dG12_share_48 : decode cX12_share 48 = .ok (.aload_n 0, 1) := by decide +kernel
theorem dG12_share_49 : decode cX12_share 49 = .ok (.iload_n 2, 1) := by decide +kernel
theorem dG12_share_50 : decode cX12_share 50 = .ok (.iload_n 3, 1) := by decide +kernel
theorem dG12_share_51 : decode cX12_share 51 = .ok (.invokevirtual 422, 3) := by decide +kernel
theorem dG12_share_54 : decode cX12_share 54 = .ok (.istore 5, 2) := by decide +kernel
theorem dG12_share_56 : decode cX12_share 56 = .ok (.iload 4, 2) := by decide +kernel
theorem dG12_share_58 : decode cX12_share 58 = .ok (.iconst (-1), 1) := by decide +kernel
theorem dG12_share_59 : decode cX12_share 59 = .ok (.if_icmp .ne 8, 3) := by decide +kernel
theorem dG12_share_62 : decode cX12_share 62 = .ok (.iload 5, 2) := by decide +kernel
theorem dG12_share_64 : decode cX12_share 64 = .ok (.goto 10, 3) := by decide +kernel
theorem dG12_share_67 : decode cX12_share 67 = .ok (.aload_n 0, 1) := by decide +kernel
theorem dG12_share_68 : decode cX12_share 68 = .ok (.getfield 56, 3) := by decide +kernel
theorem dG12_share_71 : decode cX12_share 71 = .ok (.iload 4, 2) := by decide +kernel
theorem dG12_share_73 : decode cX12_share 73 = .ok (.iaload, 1) := by decide +kernel
theorem dG12_share_74 : decode cX12_share 74 = .ok (.ireturn, 1) := by decide +kernel
def is_G12_share : Nat → List Nat := fun d => []
set_option maxRecDepth 100000 in
def b_G12_share_74 (J : Nat → List qV → List qV → qW → Prop) (Q : qR) : qK := x_iret Q
set_option maxRecDepth 100000 in
theorem s_G12_share_74 {p : Program} {l : Launch} {e : Env} {R : Room} {s : State} {m : MethodId} {args : Array Value} {below : List Frame} {meth : Method} {c : Code} {nW : Nat} {dC : Nat → ClassId} {dI : Nat → Nat → Nat} {k : Nat → ClassId} {g : Nat → Nat} {A : Nat → Prop} {J : Nat → List qV → List qV → qW → Prop} {Q : qR} (X : q_X p R s m args meth c cX12_share 6 nW 3 65 RX12 (some .int) dC dI k g A) (hJ : ∀ d : Nat, q_Sd p l e R s m args below meth c 6 nW dC dI k g A (MQ below (q_post (dC, dI) k g nW Q A) args s 0 0 A) d (x_cut (is_G12_share d) (J d))) : q_Sd p l e R s m args below meth c 6 nW dC dI k g A (MQ below (q_post (dC, dI) k g nW Q A) args s 0 0 A) 74 (b_G12_share_74 J Q) := by
  unfold b_G12_share_74
  exact s_iret X dG12_share_74
set_option maxRecDepth 100000 in
def b_G12_share_48 (J : Nat → List qV → List qV → qW → Prop) (Q : qR) : qK := x_aload 0 (x_iload 2 (x_iload 3 (x_call (some 12) 3 sp_G12_findShares (x_nw (x_istore 5 (x_iload 4 (x_int (-1) (x_icmp_ne (x_aload 0 (x_get 12 32 (x_iload 4 (x_iald (b_G12_share_74 J Q))))) (x_iload 5 (b_G12_share_74 J Q))))))))))
set_option maxRecDepth 100000 in
theorem s_G12_share_48 {p : Program} {l : Launch} {e : Env} {R : Room} {s : State} {m : MethodId} {args : Array Value} {below : List Frame} {meth : Method} {c : Code} {nW : Nat} {dC : Nat → ClassId} {dI : Nat → Nat → Nat} {k : Nat → ClassId} {g : Nat → Nat} {A : Nat → Prop} {J : Nat → List qV → List qV → qW → Prop} {Q : qR} (X : q_X p R s m args meth c cX12_share 6 nW 3 65 RX12 (some .int) dC dI k g A) (hJ : ∀ d : Nat, q_Sd p l e R s m args below meth c 6 nW dC dI k g A (MQ below (q_post (dC, dI) k g nW Q A) args s 0 0 A) d (x_cut (is_G12_share d) (J d))) : q_Sd p l e R s m args below meth c 6 nW dC dI k g A (MQ below (q_post (dC, dI) k g nW Q A) args s 0 0 A) 48 (b_G12_share_48 J Q) := by
  unfold b_G12_share_48
  refine s_aload_n X rfl dG12_share_48 ?_
  refine s_iload_n X rfl dG12_share_49 ?_
  refine s_iload_n X rfl dG12_share_50 ?_
  refine s_callV X (m_G12_findShares l) tw_1333 tw_1334 tw_1574 tw_134 tw_1335 rfl (by decide +kernel) ⟨by decide, by decide⟩ dG12_share_51 ?_
  refine s_nw ?_
  refine s_istore X (by decide) dG12_share_54 ?_
  refine s_iload X dG12_share_56 ?_
  refine s_iconst X ⟨by decide, by decide⟩ dG12_share_58 ?_
  refine s_icmp_ne X (tgt := 67) dG12_share_59 (by decide) ?_ ?_
  · refine s_aload_n X rfl dG12_share_67 ?_
    refine s_get X (T := TX12) (C := RX12) (N := 45) tu_X12 rfl (by decide) tw_1029 dG12_share_68 ?_
    refine s_iload X dG12_share_71 ?_
    refine s_iald X dG12_share_73 ?_
    exact s_G12_share_74 X hJ
  · refine s_iload X dG12_share_62 ?_
    refine s_goto X (tgt := 74) dG12_share_64 (by decide) ?_
    exact s_G12_share_74 X hJ
set_option maxRecDepth 100000 in
def b_G12_share_46 (J : Nat → List qV → List qV → qW → Prop) (Q : qR) : qK := x_int (-1) (x_iret Q)
set_option maxRecDepth 100000 in
theorem s_G12_share_46 {p : Program} {l : Launch} {e : Env} {R : Room} {s : State} {m : MethodId} {args : Array Value} {below : List Frame} {meth : Method} {c : Code} {nW : Nat} {dC : Nat → ClassId} {dI : Nat → Nat → Nat} {k : Nat → ClassId} {g : Nat → Nat} {A : Nat → Prop} {J : Nat → List qV → List qV → qW → Prop} {Q : qR} (X : q_X p R s m args meth c cX12_share 6 nW 3 65 RX12 (some .int) dC dI k g A) (hJ : ∀ d : Nat, q_Sd p l e R s m args below meth c 6 nW dC dI k g A (MQ below (q_post (dC, dI) k g nW Q A) args s 0 0 A) d (x_cut (is_G12_share d) (J d))) : q_Sd p l e R s m args below meth c 6 nW dC dI k g A (MQ below (q_post (dC, dI) k g nW Q A) args s 0 0 A) 46 (b_G12_share_46 J Q) := by
  unfold b_G12_share_46
  refine s_iconst X ⟨by decide, by decide⟩ dG12_share_46 ?_
  exact s_iret X dG12_share_47
set_option maxRecDepth 100000 in
def b_G12_share_0 (J : Nat → List qV → List qV → qW → Prop) (Q : qR) : qK := x_aload 0 (x_int 0 (x_put 12 0 q_oki (x_nw (x_aload 0 (x_iload 1 (x_call (some 12) 2 sp_G12_hand (x_nw (x_if_eq (b_G12_share_46 J Q) (x_aload 0 (x_iload 2 (x_callr (some 12) 2 spr_X12_isPerson (x_if_eq (b_G12_share_46 J Q) (x_iload 3 (x_int 1 (x_int 99 (x_callr none 3 spr_X12_in (x_if_eq (b_G12_share_46 J Q) (x_iload 4 (x_int (-1) (x_icmp_eq (b_G12_share_48 J Q) (x_aload 0 (x_iload 4 (x_callr (some 12) 2 spr_X12_isPerson (x_if_ne (b_G12_share_48 J Q) (b_G12_share_46 J Q)))))))))))))))))))))))))
set_option maxRecDepth 100000 in
theorem s_G12_share_0 {p : Program} {l : Launch} {e : Env} {R : Room} {s : State} {m : MethodId} {args : Array Value} {below : List Frame} {meth : Method} {c : Code} {nW : Nat} {dC : Nat → ClassId} {dI : Nat → Nat → Nat} {k : Nat → ClassId} {g : Nat → Nat} {A : Nat → Prop} {J : Nat → List qV → List qV → qW → Prop} {Q : qR} (X : q_X p R s m args meth c cX12_share 6 nW 3 65 RX12 (some .int) dC dI k g A) (hJ : ∀ d : Nat, q_Sd p l e R s m args below meth c 6 nW dC dI k g A (MQ below (q_post (dC, dI) k g nW Q A) args s 0 0 A) d (x_cut (is_G12_share d) (J d))) : q_Sd p l e R s m args below meth c 6 nW dC dI k g A (MQ below (q_post (dC, dI) k g nW Q A) args s 0 0 A) 0 (b_G12_share_0 J Q) := by
  unfold b_G12_share_0
  refine s_aload_n X rfl dG12_share_0 ?_
  refine s_iconst X ⟨by decide, by decide⟩ dG12_share_1 ?_
  refine s_put X (T := TX12) (C := RX12) (N := 45) tu_X12 tyX12_ok nmX12 rfl (by decide) tw_997 rfl (by decide +kernel) q_oki_t dG12_share_2 ?_
  refine s_nw ?_
  refine s_aload_n X rfl dG12_share_5 ?_
  refine s_iload_n X rfl dG12_share_6 ?_
  refine s_callV X (m_G12_hand l) tw_1186 tw_1187 tw_1585 tw_134 tw_1188 rfl (by decide +kernel) ⟨by decide, by decide⟩ dG12_share_7 ?_
  refine s_nw ?_
  refine s_if_eq X (tgt := 46) dG12_share_10 (by decide) ?_ ?_
  · exact s_G12_share_46 X hJ
  · refine s_aload_n X rfl dG12_share_13 ?_
    refine s_iload_n X rfl dG12_share_14 ?_
    refine s_callVr X (m_X12_isPerson l) tw_1192 tw_1193 tw_1591 tw_134 tw_1194 rfl (by decide +kernel) ⟨by decide, by decide⟩ dG12_share_15 ?_
    refine s_if_eq X (tgt := 46) dG12_share_18 (by decide) ?_ ?_
    · exact s_G12_share_46 X hJ
    · refine s_iload_n X rfl dG12_share_21 ?_
      refine s_iconst X ⟨by decide, by decide⟩ dG12_share_22 ?_
      refine s_bipush X ⟨by decide, by decide⟩ (by decide) dG12_share_23 ?_
      refine s_callSr X (m_X12_in l) tw_1054 tw_1055 tw_134 tw_1056 (by decide +kernel) ⟨by decide, by decide⟩ dG12_share_25 ?_
      refine s_if_eq X (tgt := 46) dG12_share_28 (by decide) ?_ ?_
      · exact s_G12_share_46 X hJ
      · refine s_iload X dG12_share_31 ?_
        refine s_iconst X ⟨by decide, by decide⟩ dG12_share_33 ?_
        refine s_icmp_eq X (tgt := 48) dG12_share_34 (by decide) ?_ ?_
        · exact s_G12_share_48 X hJ
        · refine s_aload_n X rfl dG12_share_37 ?_
          refine s_iload X dG12_share_38 ?_
          refine s_callVr X (m_X12_isPerson l) tw_1192 tw_1193 tw_1591 tw_134 tw_1194 rfl (by decide +kernel) ⟨by decide, by decide⟩ dG12_share_40 ?_
          refine s_if_ne X (tgt := 48) dG12_share_43 (by decide) ?_ ?_
          · exact s_G12_share_48 X hJ
          · exact s_G12_share_46 X hJ

def sp_G12_share : qS := fun av w Q => ∃ (mco : Int) (mre : Int) (mle : Int) (mbe : Int) (mso : Int) (mva : Int) (mwo : Int) (mwr : Int) (mlf : Int) (mlp : Int) (mfp : Int) (mfd : Int) (mgo : Int) (mbo : Int) (mpe : Int) (mye : Int) (mpr : Int) (mld : Int) (msi : Int) (mse : Int) (mn : Nat → Int) (bs : Nat → Int) (lo : Nat → Int) (a : Int) (b : Int) (cc : Int) (dd : Int), av = [q2 0, q1 a, q1 b, q1 cc, q1 dd] ∧ w = [.inr (12, [q1 mco, q2 4, q2 5, q2 6, q2 7, q2 1, q2 2, q2 8, q2 9, q2 10, q1 mre, q1 mle, q1 mbe, q1 mso, q1 mva, q3 mwo, q1 mwr, q1 mlf, q1 mlp, q2 11, q2 12, q1 mfp, q1 mfd, q1 mgo, q1 mbo, q1 mpe, q1 mye, q2 13, q1 mpr, q2 14, q2 15, q2 16, q2 3, q1 mld, q2 17, q1 msi, q2 18, q2 19, q2 20, q2 21, q2 22, q1 mse, q2 23, q2 24, q2 25]), .inl (0, 16, .inl mn), .inl (0, 600, .inl bs), .inl (0, 8, .inl lo)] ∧ (q_rg 0 2 mn) ∧ (BI bs) ∧ (RGM bs (mn (0 : Int).toNat)) ∧ (∀ (r : Int) (x_mco : Int) (x_mbo : Int) (x_mpe : Int) (x_lo : Nat → Int), (bM (mn (0 : Int).toNat) bs a (-1) r (fun D z => ShA D b cc dd z)) → Q (some (q1 r)) ([.inr (12, [q1 x_mco, q2 4, q2 5, q2 6, q2 7, q2 1, q2 2, q2 8, q2 9, q2 10, q1 mre, q1 mle, q1 mbe, q1 mso, q1 mva, q3 mwo, q1 mwr, q1 mlf, q1 mlp, q2 11, q2 12, q1 mfp, q1 mfd, q1 mgo, q1 x_mbo, q1 x_mpe, q1 mye, q2 13, q1 mpr, q2 14, q2 15, q2 16, q2 3, q1 mld, q2 17, q1 msi, q2 18, q2 19, q2 20, q2 21, q2 22, q1 mse, q2 23, q2 24, q2 25]), .inl (0, 16, .inl mn), .inl (0, 600, .inl bs), .inl (0, 8, .inl x_lo)]))
set_option maxHeartbeats 4000000 in
set_option maxRecDepth 100000 in
theorem m_G12_share (l : Launch) : q_M l yX12_share cX12_share 6 (some .int) 3 65 sp_G12_share := by
  refine q_meth (by decide) (fun av w Q h => by obtain ⟨mco, mre, mle, mbe, mso, mva, mwo, mwr, mlf, mlp, mfp, mfd, mgo, mbo, mpe, mye, mpr, mld, msi, mse, mn, bs, lo, a, b, cc, dd, rfl, rfl, hmn, hbi, hrg, hQ⟩ := h; exact Nat.le_of_ble_eq_true rfl) ?_
  intro p e R s m args below meth c dC dI k g A av w Q hsp oka okw X
  obtain ⟨mco, mre, mle, mbe, mso, mva, mwo, mwr, mlf, mlp, mfp, mfd, mgo, mbo, mpe, mye, mpr, mld, msi, mse, mn, bs, lo, a, b, cc, dd, rfl, rfl, hmn, hbi, hrg, hQ⟩ := hsp
  have o_a : -2147483648 ≤ a ∧ a ≤ 2147483647 := oka _ (List.mem_of_getElem? (i := 1) rfl)
  have o_b : -2147483648 ≤ b ∧ b ≤ 2147483647 := oka _ (List.mem_of_getElem? (i := 2) rfl)
  have o_cc : -2147483648 ≤ cc ∧ cc ≤ 2147483647 := oka _ (List.mem_of_getElem? (i := 3) rfl)
  have o_dd : -2147483648 ≤ dd ∧ dd ≤ 2147483647 := oka _ (List.mem_of_getElem? (i := 4) rfl)
  refine s_mono (s_G12_share_0 X (J := fun _ _ _ _ => False) (fun d => s_cutF)) ?_
  rintro lv st w' ⟨rfl, rfl, rfl⟩
  apply And.intro
  · exact trivial
  refine Exists.intro [0, 1, 2, 4, 5, 6, 7, 8, 9, 10, 11, 12, 13, 14, 15, 16, 3, 17, 18, 19, 20, 21, 22, 23, 24, 25] (Exists.intro [q2 0, q1 _] (Exists.intro ([.inr (12, [q1 _, q2 3, q2 4, q2 5, q2 6, q2 1, q2 2, q2 7, q2 8, q2 9, q1 _, q1 _, q1 _, q1 _, q1 _, q3 _, q1 _, q1 _, q1 _, q2 10, q2 11, q1 _, q1 _, q1 _, q1 _, q1 _, q1 _, q2 12, q1 _, q2 13, q2 14, q2 15, q2 16, q1 _, q2 17, q1 _, q2 18, q2 19, q2 20, q2 21, q2 22, q1 _, q2 23, q2 24, q2 25]), .inl (0, 16, .inl _), .inl (0, 600, .inl _)]) (And.intro rfl (And.intro rfl (And.intro rfl (And.intro ⟨⟨_, rfl⟩, rfl⟩ ?_))))))
  refine Exists.intro _ (Exists.intro _ (Exists.intro _ (Exists.intro _ (Exists.intro _ (Exists.intro _ (Exists.intro _ (Exists.intro _ (Exists.intro _ (Exists.intro _ (Exists.intro _ (Exists.intro _ (Exists.intro _ (Exists.intro _ (Exists.intro _ (Exists.intro _ (Exists.intro _ (Exists.intro _ (Exists.intro _ (Exists.intro _ (Exists.intro _ (Exists.intro _ (Exists.intro _ (And.intro rfl (And.intro rfl (And.intro (by first | omega | assumption | exact q_rg_up (by assumption) (by omega) | exact q_rg_up (q_rg_up (by assumption) (by omega)) (by omega) | exact q_rg_cpy (by assumption) (by assumption)) (And.intro (by first | omega | assumption | exact q_rg_up (by assumption) (by omega) | exact q_rg_up (q_rg_up (by assumption) (by omega)) (by omega) | exact q_rg_cpy (by assumption) (by assumption)) (?_)))))))))))))))))))))))))))
  intro z7 x_mbo_7 x_mpe_7 h7
  apply And.intro
  · intro h10
    first | replace h7 := dj1 h7 h10 | replace h7 := dj0 h7 h10
    exact hQ _ _ _ _ _ (by first | exact Or.inr ⟨h7, rfl⟩ | exact Or.inl ⟨⟨h7.2.1.1, h7.2.1.2⟩, Or.inl ⟨⟨⟨by omega, by omega⟩, ⟨by omega, by omega⟩, by omega⟩, ShI_p h51 (by omega)⟩⟩ | exact Or.inl ⟨⟨h7.2.1.1, h7.2.1.2⟩, Or.inr ⟨fun q9 => (by obtain ⟨⟨q1, q2⟩, ⟨q3, q4⟩, q5⟩ := q9; omega), rfl⟩⟩)
  · intro h10
    first | replace h7 := dj1 h7 h10 | replace h7 := dj0 h7 h10
    have hu7 : x_mpe_7 = rwD bs (75 * x_mbo_7).toNat 0 := ob (y := 0) rfl (by omega) h7.2.2.2.2.2 (by decide)
    rw [show x_mbo_7 = a by omega] at hu7
    refine Exists.intro [0, 4, 5, 6, 7, 1, 2, 8, 9, 10, 11, 12, 13, 14, 15, 16, 3, 17, 18, 19, 20, 21, 22, 23, 24, 25] (Exists.intro [q2 0, q1 _] (Exists.intro ([.inr (12, [q1 _, q2 1, q2 2, q2 3, q2 4, q2 5, q2 6, q2 7, q2 8, q2 9, q1 _, q1 _, q1 _, q1 _, q1 _, q3 _, q1 _, q1 _, q1 _, q2 10, q2 11, q1 _, q1 _, q1 _, q1 _, q1 _, q1 _, q2 12, q1 _, q2 13, q2 14, q2 15, q2 16, q1 _, q2 17, q1 _, q2 18, q2 19, q2 20, q2 21, q2 22, q1 _, q2 23, q2 24, q2 25])]) (And.intro rfl (And.intro rfl (And.intro rfl (And.intro ⟨⟨_, rfl⟩, rfl⟩ ?_))))))
    refine Exists.intro _ (Exists.intro _ (Exists.intro _ (Exists.intro _ (Exists.intro _ (Exists.intro _ (Exists.intro _ (Exists.intro _ (Exists.intro _ (Exists.intro _ (Exists.intro _ (Exists.intro _ (Exists.intro _ (Exists.intro _ (Exists.intro _ (Exists.intro _ (Exists.intro _ (Exists.intro _ (Exists.intro _ (Exists.intro _ (Exists.intro _ (And.intro rfl (And.intro rfl (And.intro (by first | omega | assumption | exact q_rg_up (by assumption) (by omega) | exact q_rg_up (q_rg_up (by assumption) (by omega)) (by omega) | exact q_rg_cpy (by assumption) (by assumption)) (?_))))))))))))))))))))))))
    intro z15 h15
    apply And.intro
    · intro h18
      first | replace h15 := dj1 h15 h18 | replace h15 := dj0 h15 h18
      exact hQ _ _ _ _ _ (by first | exact Or.inr ⟨h7, rfl⟩ | exact Or.inl ⟨⟨h7.2.1.1, h7.2.1.2⟩, Or.inl ⟨⟨⟨by omega, by omega⟩, ⟨by omega, by omega⟩, by omega⟩, ShI_p h51 (by omega)⟩⟩ | exact Or.inl ⟨⟨h7.2.1.1, h7.2.1.2⟩, Or.inr ⟨fun q9 => (by obtain ⟨⟨q1, q2⟩, ⟨q3, q4⟩, q5⟩ := q9; omega), rfl⟩⟩)
    · intro h18
      first | replace h15 := dj1 h15 h18 | replace h15 := dj0 h15 h18
      refine Exists.intro [] (Exists.intro [q1 _, q1 _, q1 _] (Exists.intro [] (And.intro rfl (And.intro rfl (And.intro rfl (And.intro trivial ?_))))))
      refine Exists.intro _ (Exists.intro _ (Exists.intro _ (And.intro rfl (And.intro rfl (?_)))))
      intro z25 h25
      apply And.intro
      · intro h28
        first | replace h25 := dj1 h25 h28 | replace h25 := dj0 h25 h28
        exact hQ _ _ _ _ _ (by first | exact Or.inr ⟨h7, rfl⟩ | exact Or.inl ⟨⟨h7.2.1.1, h7.2.1.2⟩, Or.inl ⟨⟨⟨by omega, by omega⟩, ⟨by omega, by omega⟩, by omega⟩, ShI_p h51 (by omega)⟩⟩ | exact Or.inl ⟨⟨h7.2.1.1, h7.2.1.2⟩, Or.inr ⟨fun q9 => (by obtain ⟨⟨q1, q2⟩, ⟨q3, q4⟩, q5⟩ := q9; omega), rfl⟩⟩)
      · intro h28
        first | replace h25 := dj1 h25 h28 | replace h25 := dj0 h25 h28
        apply And.intro
        · intro h34
          refine Exists.intro [0, 3, 2, 4, 5, 6, 7, 1, 8, 9, 10, 11, 12, 13, 14, 15, 16, 17, 18, 19, 20, 21, 22, 23, 24, 25] (Exists.intro [q2 0, q1 _, q1 _] (Exists.intro ([.inr (12, [q1 _, q2 3, q2 4, q2 5, q2 6, q2 7, q2 2, q2 8, q2 9, q2 10, q1 _, q1 _, q1 _, q1 _, q1 _, q3 _, q1 _, q1 _, q1 _, q2 11, q2 12, q1 _, q1 _, q1 _, q1 _, q1 _, q1 _, q2 13, q1 _, q2 14, q2 15, q2 16, q2 1, q1 _, q2 17, q1 _, q2 18, q2 19, q2 20, q2 21, q2 22, q1 _, q2 23, q2 24, q2 25]), .inl (0, 8, .inl _), .inl (0, 600, .inl _)]) (And.intro rfl (And.intro rfl (And.intro rfl (And.intro ⟨⟨_, rfl⟩, rfl⟩ ?_))))))
          refine Exists.intro _ (Exists.intro _ (Exists.intro _ (Exists.intro _ (Exists.intro _ (Exists.intro _ (Exists.intro _ (Exists.intro _ (Exists.intro _ (Exists.intro _ (Exists.intro _ (Exists.intro _ (Exists.intro _ (Exists.intro _ (Exists.intro _ (Exists.intro _ (Exists.intro _ (Exists.intro _ (Exists.intro _ (Exists.intro _ (Exists.intro _ (Exists.intro _ (Exists.intro _ (Exists.intro _ (Exists.intro _ (And.intro rfl (And.intro rfl (And.intro (by first | omega | assumption | exact q_rg_up (by assumption) (by omega) | exact q_rg_up (q_rg_up (by assumption) (by omega)) (by omega) | exact q_rg_cpy (by assumption) (by assumption)) (And.intro (by first | omega | assumption | exact q_rg_up (by assumption) (by omega) | exact q_rg_up (q_rg_up (by assumption) (by omega)) (by omega) | exact q_rg_cpy (by assumption) (by assumption)) (And.intro (by first | omega | assumption | exact q_rg_up (by assumption) (by omega) | exact q_rg_up (q_rg_up (by assumption) (by omega)) (by omega) | exact q_rg_cpy (by assumption) (by assumption)) (And.intro (by first | omega | assumption | exact q_rg_up (by assumption) (by omega) | exact q_rg_up (q_rg_up (by assumption) (by omega)) (by omega) | exact q_rg_cpy (by assumption) (by assumption)) (And.intro (by first | omega | assumption | exact q_rg_up (by assumption) (by omega) | exact q_rg_up (q_rg_up (by assumption) (by omega)) (by omega) | exact q_rg_cpy (by assumption) (by assumption)) (And.intro (by first | omega | assumption | exact q_rg_up (by assumption) (by omega) | exact q_rg_up (q_rg_up (by assumption) (by omega)) (by omega) | exact q_rg_cpy (by assumption) (by assumption)) (And.intro rfl (And.intro (RGM_a hrg (by omega)) (?_)))))))))))))))))))))))))))))))))))
          intro z51 x_lo_51 h51
          rw [show x_mbo_7 = a by omega] at h51
          apply And.intro
          · intro h59
            apply And.intro
            · exact ⟨by omega, by omega⟩
            intro z73 h73
            exact hQ _ _ _ _ _ (by first | exact Or.inr ⟨h7, rfl⟩ | exact Or.inl ⟨⟨h7.2.1.1, h7.2.1.2⟩, Or.inl ⟨⟨⟨by omega, by omega⟩, ⟨by omega, by omega⟩, by omega⟩, ShI_p h51 (by omega)⟩⟩ | exact Or.inl ⟨⟨h7.2.1.1, h7.2.1.2⟩, Or.inr ⟨fun q9 => (by obtain ⟨⟨q1, q2⟩, ⟨q3, q4⟩, q5⟩ := q9; omega), rfl⟩⟩)
          · intro h59
            exact hQ _ _ _ _ _ (by first | exact Or.inr ⟨h7, rfl⟩ | exact Or.inl ⟨⟨h7.2.1.1, h7.2.1.2⟩, Or.inl ⟨⟨⟨by omega, by omega⟩, ⟨by omega, by omega⟩, by omega⟩, ShI_p h51 (by omega)⟩⟩ | exact Or.inl ⟨⟨h7.2.1.1, h7.2.1.2⟩, Or.inr ⟨fun q9 => (by obtain ⟨⟨q1, q2⟩, ⟨q3, q4⟩, q5⟩ := q9; omega), rfl⟩⟩)
        · intro h34
          refine Exists.intro [0, 4, 5, 6, 7, 1, 2, 8, 9, 10, 11, 12, 13, 14, 15, 16, 3, 17, 18, 19, 20, 21, 22, 23, 24, 25] (Exists.intro [q2 0, q1 _] (Exists.intro ([.inr (12, [q1 _, q2 1, q2 2, q2 3, q2 4, q2 5, q2 6, q2 7, q2 8, q2 9, q1 _, q1 _, q1 _, q1 _, q1 _, q3 _, q1 _, q1 _, q1 _, q2 10, q2 11, q1 _, q1 _, q1 _, q1 _, q1 _, q1 _, q2 12, q1 _, q2 13, q2 14, q2 15, q2 16, q1 _, q2 17, q1 _, q2 18, q2 19, q2 20, q2 21, q2 22, q1 _, q2 23, q2 24, q2 25])]) (And.intro rfl (And.intro rfl (And.intro rfl (And.intro ⟨⟨_, rfl⟩, rfl⟩ ?_))))))
          refine Exists.intro _ (Exists.intro _ (Exists.intro _ (Exists.intro _ (Exists.intro _ (Exists.intro _ (Exists.intro _ (Exists.intro _ (Exists.intro _ (Exists.intro _ (Exists.intro _ (Exists.intro _ (Exists.intro _ (Exists.intro _ (Exists.intro _ (Exists.intro _ (Exists.intro _ (Exists.intro _ (Exists.intro _ (Exists.intro _ (Exists.intro _ (And.intro rfl (And.intro rfl (And.intro (by first | omega | assumption | exact q_rg_up (by assumption) (by omega) | exact q_rg_up (q_rg_up (by assumption) (by omega)) (by omega) | exact q_rg_cpy (by assumption) (by assumption)) (?_))))))))))))))))))))))))
          intro z40 h40
          apply And.intro
          · intro h43
            first | replace h40 := dj1 h40 h43 | replace h40 := dj0 h40 h43
            refine Exists.intro [0, 3, 2, 4, 5, 6, 7, 1, 8, 9, 10, 11, 12, 13, 14, 15, 16, 17, 18, 19, 20, 21, 22, 23, 24, 25] (Exists.intro [q2 0, q1 _, q1 _] (Exists.intro ([.inr (12, [q1 _, q2 3, q2 4, q2 5, q2 6, q2 7, q2 2, q2 8, q2 9, q2 10, q1 _, q1 _, q1 _, q1 _, q1 _, q3 _, q1 _, q1 _, q1 _, q2 11, q2 12, q1 _, q1 _, q1 _, q1 _, q1 _, q1 _, q2 13, q1 _, q2 14, q2 15, q2 16, q2 1, q1 _, q2 17, q1 _, q2 18, q2 19, q2 20, q2 21, q2 22, q1 _, q2 23, q2 24, q2 25]), .inl (0, 8, .inl _), .inl (0, 600, .inl _)]) (And.intro rfl (And.intro rfl (And.intro rfl (And.intro ⟨⟨_, rfl⟩, rfl⟩ ?_))))))
            refine Exists.intro _ (Exists.intro _ (Exists.intro _ (Exists.intro _ (Exists.intro _ (Exists.intro _ (Exists.intro _ (Exists.intro _ (Exists.intro _ (Exists.intro _ (Exists.intro _ (Exists.intro _ (Exists.intro _ (Exists.intro _ (Exists.intro _ (Exists.intro _ (Exists.intro _ (Exists.intro _ (Exists.intro _ (Exists.intro _ (Exists.intro _ (Exists.intro _ (Exists.intro _ (Exists.intro _ (Exists.intro _ (And.intro rfl (And.intro rfl (And.intro (by first | omega | assumption | exact q_rg_up (by assumption) (by omega) | exact q_rg_up (q_rg_up (by assumption) (by omega)) (by omega) | exact q_rg_cpy (by assumption) (by assumption)) (And.intro (by first | omega | assumption | exact q_rg_up (by assumption) (by omega) | exact q_rg_up (q_rg_up (by assumption) (by omega)) (by omega) | exact q_rg_cpy (by assumption) (by assumption)) (And.intro (by first | omega | assumption | exact q_rg_up (by assumption) (by omega) | exact q_rg_up (q_rg_up (by assumption) (by omega)) (by omega) | exact q_rg_cpy (by assumption) (by assumption)) (And.intro (by first | omega | assumption | exact q_rg_up (by assumption) (by omega) | exact q_rg_up (q_rg_up (by assumption) (by omega)) (by omega) | exact q_rg_cpy (by assumption) (by assumption)) (And.intro (by first | omega | assumption | exact q_rg_up (by assumption) (by omega) | exact q_rg_up (q_rg_up (by assumption) (by omega)) (by omega) | exact q_rg_cpy (by assumption) (by assumption)) (And.intro (by first | omega | assumption | exact q_rg_up (by assumption) (by omega) | exact q_rg_up (q_rg_up (by assumption) (by omega)) (by omega) | exact q_rg_cpy (by assumption) (by assumption)) (And.intro rfl (And.intro (RGM_a hrg (by omega)) (?_)))))))))))))))))))))))))))))))))))
            intro z51 x_lo_51 h51
            rw [show x_mbo_7 = a by omega] at h51
            apply And.intro
            · intro h59
              apply And.intro
              · exact ⟨by omega, by omega⟩
              intro z73 h73
              exact hQ _ _ _ _ _ (by first | exact Or.inr ⟨h7, rfl⟩ | exact Or.inl ⟨⟨h7.2.1.1, h7.2.1.2⟩, Or.inl ⟨⟨⟨by omega, by omega⟩, ⟨by omega, by omega⟩, by omega⟩, ShI_p h51 (by omega)⟩⟩ | exact Or.inl ⟨⟨h7.2.1.1, h7.2.1.2⟩, Or.inr ⟨fun q9 => (by obtain ⟨⟨q1, q2⟩, ⟨q3, q4⟩, q5⟩ := q9; omega), rfl⟩⟩)
            · intro h59
              exact hQ _ _ _ _ _ (by first | exact Or.inr ⟨h7, rfl⟩ | exact Or.inl ⟨⟨h7.2.1.1, h7.2.1.2⟩, Or.inl ⟨⟨⟨by omega, by omega⟩, ⟨by omega, by omega⟩, by omega⟩, ShI_p h51 (by omega)⟩⟩ | exact Or.inl ⟨⟨h7.2.1.1, h7.2.1.2⟩, Or.inr ⟨fun q9 => (by obtain ⟨⟨q1, q2⟩, ⟨q3, q4⟩, q5⟩ := q9; omega), rfl⟩⟩)
          · intro h43
            first | replace h40 := dj1 h40 h43 | replace h40 := dj0 h40 h43
            exact hQ _ _ _ _ _ (by first | exact Or.inr ⟨h7, rfl⟩ | exact Or.inl ⟨⟨h7.2.1.1, h7.2.1.2⟩, Or.inl ⟨⟨⟨by omega, by omega⟩, ⟨by omega, by omega⟩, by omega⟩, ShI_p h51 (by omega)⟩⟩ | exact Or.inl ⟨⟨h7.2.1.1, h7.2.1.2⟩, Or.inr ⟨fun q9 => (by obtain ⟨⟨q1, q2⟩, ⟨q3, q4⟩, q5⟩ := q9; omega), rfl⟩⟩)
