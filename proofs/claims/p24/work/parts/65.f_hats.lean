theorem dX12_hats_0 : decode cX12_hats 0 = .ok (.aload_n 0, 1) := by decide +kernel
theorem dX12_hats_1 : decode cX12_hats 1 = .ok (.iconst 0, 1) := by decide +kernel
theorem dX12_hats_2 : decode cX12_hats 2 = .ok (.putfield 88, 3) := by decide +kernel
theorem dX12_hats_5 : decode cX12_hats 5 = .ok (.aload_n 0, 1) := by decide +kernel
theorem dX12_hats_6 : decode cX12_hats 6 = .ok (.iload_n 1, 1) := by decide +kernel
theorem dX12_hats_7 : decode cX12_hats 7 = .ok (.invokevirtual 306, 3) := by decide +kernel
theorem dX12_hats_10 : decode cX12_hats 10 = .ok (.ifCond .ne 5, 3) := by decide +kernel
theorem dX12_hats_13 : decode cX12_hats 13 = .ok (.iconst (-1), 1) := by decide +kernel
theorem dX12_hats_14 : decode cX12_hats 14 = .ok (.ireturn, 1) := by decide +kernel
theorem dX12_hats_15 : decode cX12_hats 15 = .ok (.aload_n 0, 1) := by decide +kernel
theorem dX12_hats_16 : decode cX12_hats 16 = .ok (.invokevirtual 345, 3) := by decide +kernel
theorem dX12_hats_19 : decode cX12_hats 19 = .ok (.iconst 0, 1) := by decide +kernel
theorem dX12_hats_20 : decode cX12_hats 20 = .ok (.istore_n 3, 1) := by decide +kernel
theorem dX12_hats_21 : decode cX12_hats 21 = .ok (.iconst 0, 1) := by decide +kernel
theorem dX12_hats_22 : decode cX12_hats 22 = .ok (.istore 4, 2) := by decide +kernel
theorem dX12_hats_24 : decode cX12_hats 24 = .ok (.aload_n 0, 1) := by decide +kernel
theorem dX12_hats_25 : decode cX12_hats 25 = .ok (.getfield 303, 3) := by decide +kernel
theorem dX12_hats_28 : decode cX12_hats 28 = .ok (.iconst 1, 1) := by decide +kernel
theorem dX12_hats_29 : decode cX12_hats 29 = .ok (.isub, 1) := by decide +kernel
theorem dX12_hats_30 : decode cX12_hats 30 = .ok (.istore 5, 2) := by decide +kernel
theorem dX12_hats_32 : decode cX12_hats 32 = .ok (.iload 5, 2) := by decide +kernel
theorem dX12_hats_34 : decode cX12_hats 34 = .ok (.ifCond .lt 50, 3) := by decide +kernel
theorem dX12_hats_37 : decode cX12_hats 37 = .ok (.aload_n 0, 1) := by decide +kernel
theorem dX12_hats_38 : decode cX12_hats 38 = .ok (.getfield 44, 3) := by decide +kernel
theorem dX12_hats_41 : decode cX12_hats 41 = .ok (.aload_n 0, 1) := by decide +kernel
theorem dX12_hats_42 : decode cX12_hats 42 = .ok (.iload 5, 2) := by decide +kernel
theorem dX12_hats_44 : decode cX12_hats 44 = .ok (.invokevirtual 357, 3) := by decide +kernel
theorem dX12_hats_47 : decode cX12_hats 47 = .ok (.iaload, 1) := by decide +kernel
theorem dX12_hats_48 : decode cX12_hats 48 = .ok (.iload 4, 2) := by decide +kernel
theorem dX12_hats_50 : decode cX12_hats 50 = .ok (.iconst 1, 1) := by decide +kernel
theorem dX12_hats_51 : decode cX12_hats 51 = .ok (.iadd, 1) := by decide +kernel
theorem dX12_hats_52 : decode cX12_hats 52 = .ok (.invokestatic 162, 3) := by decide +kernel
theorem dX12_hats_55 : decode cX12_hats 55 = .ok (.istore 6, 2) := by decide +kernel
theorem dX12_hats_57 : decode cX12_hats 57 = .ok (.iload_n 3, 1) := by decide +kernel
theorem dX12_hats_58 : decode cX12_hats 58 = .ok (.iload 6, 2) := by decide +kernel
theorem dX12_hats_60 : decode cX12_hats 60 = .ok (.aload_n 0, 1) := by decide +kernel
theorem dX12_hats_61 : decode cX12_hats 61 = .ok (.getfield 44, 3) := by decide +kernel
theorem dX12_hats_64 : decode cX12_hats 64 = .ok (.aload_n 0, 1) := by decide +kernel
theorem dX12_hats_65 : decode cX12_hats 65 = .ok (.iload 5, 2) := by decide +kernel
theorem dX12_hats_67 : decode cX12_hats 67 = .ok (.invokevirtual 357, 3) := by decide +kernel
theorem dX12_hats_70 : decode cX12_hats 70 = .ok (.iaload, 1) := by decide +kernel
theorem dX12_hats_71 : decode cX12_hats 71 = .ok (.isub, 1) := by decide +kernel
theorem dX12_hats_72 : decode cX12_hats 72 = .ok (.iadd, 1) := by decide +kernel
theorem dX12_hats_73 : decode cX12_hats 73 = .ok (.istore_n 3, 1) := by decide +kernel
theorem dX12_hats_74 : decode cX12_hats 74 = .ok (.iload 6, 2) := by decide +kernel
theorem dX12_hats_76 : decode cX12_hats 76 = .ok (.istore 4, 2) := by decide +kernel
theorem dX12_hats_78 : decode cX12_hats 78 = .ok (.iinc 5 (-1), 3) := by decide +kernel
theorem dX12_hats_81 : decode cX12_hats 81 = .ok (.goto (-49), 3) := by decide +kernel
theorem dX12_hats_84 : decode cX12_hats 84 = .ok (.iload_n 2, 1) := by decide +kernel
theorem dX12_hats_85 : decode cX12_hats 85 = .ok (.ifCond .eq 8, 3) := by decide +kernel
theorem dX12_hats_88 : decode cX12_hats 88 = .ok (.iload 4, 2) := by decide +kernel
theorem dX12_hats_90 : decode cX12_hats 90 = .ok (.goto 4, 3) := by decide +kernel
theorem dX12_hats_93 : decode cX12_hats 93 = .ok (.iload_n 3, 1) := by decide +kernel
theorem dX12_hats_94 : decode cX12_hats 94 = .ok (.ireturn, 1) := by decide +kernel
def is_X12_hats : Nat → List Nat := fun d => if d = 32 then [0, 2, 3, 4, 5] else []
set_option maxRecDepth 100000 in
def b_X12_hats_94 (J : Nat → List qV → List qV → qW → Prop) (Q : qR) : qK := x_iret Q
set_option maxRecDepth 100000 in
theorem s_X12_hats_94 {p : Program} {l : Launch} {e : Env} {R : Room} {s : State} {m : MethodId} {args : Array Value} {below : List Frame} {meth : Method} {c : Code} {nW : Nat} {dC : Nat → ClassId} {dI : Nat → Nat → Nat} {k : Nat → ClassId} {g : Nat → Nat} {A : Nat → Prop} {J : Nat → List qV → List qV → qW → Prop} {Q : qR} (X : q_X p R s m args meth c cX12_hats 7 nW 3 65 RX12 (some .int) dC dI k g A) (hJ : ∀ d : Nat, q_Sd p l e R s m args below meth c 7 nW dC dI k g A (MQ below (q_post (dC, dI) k g nW Q A) args s 0 0 A) d (x_cut (is_X12_hats d) (J d))) : q_Sd p l e R s m args below meth c 7 nW dC dI k g A (MQ below (q_post (dC, dI) k g nW Q A) args s 0 0 A) 94 (b_X12_hats_94 J Q) := by
  unfold b_X12_hats_94
  exact s_iret X dX12_hats_94
set_option maxRecDepth 100000 in
def b_X12_hats_74 (J : Nat → List qV → List qV → qW → Prop) (Q : qR) : qK := x_iload 6 (x_istore 4 (x_iinc 5 (-1) (x_cut [0, 2, 3, 4, 5] (J 32))))
set_option maxRecDepth 100000 in
theorem s_X12_hats_74 {p : Program} {l : Launch} {e : Env} {R : Room} {s : State} {m : MethodId} {args : Array Value} {below : List Frame} {meth : Method} {c : Code} {nW : Nat} {dC : Nat → ClassId} {dI : Nat → Nat → Nat} {k : Nat → ClassId} {g : Nat → Nat} {A : Nat → Prop} {J : Nat → List qV → List qV → qW → Prop} {Q : qR} (X : q_X p R s m args meth c cX12_hats 7 nW 3 65 RX12 (some .int) dC dI k g A) (hJ : ∀ d : Nat, q_Sd p l e R s m args below meth c 7 nW dC dI k g A (MQ below (q_post (dC, dI) k g nW Q A) args s 0 0 A) d (x_cut (is_X12_hats d) (J d))) : q_Sd p l e R s m args below meth c 7 nW dC dI k g A (MQ below (q_post (dC, dI) k g nW Q A) args s 0 0 A) 74 (b_X12_hats_74 J Q) := by
  unfold b_X12_hats_74
  refine s_iload X dX12_hats_74 ?_
  refine s_istore X (by decide) dX12_hats_76 ?_
  refine s_iinc X (by decide) dX12_hats_78 ?_
  refine s_goto X (tgt := 32) dX12_hats_81 (by decide) ?_
  exact hJ 32
set_option maxRecDepth 100000 in
def b_X12_hats_32 (J : Nat → List qV → List qV → qW → Prop) (Q : qR) : qK := x_iload 5 (x_if_lt (x_iload 2 (x_if_eq (x_iload 3 (b_X12_hats_94 J Q)) (x_iload 4 (b_X12_hats_94 J Q)))) (x_aload 0 (x_get 12 27 (x_aload 0 (x_iload 5 (x_callr (some 12) 2 spr_X12_ranked (x_iald (x_iload 4 (x_int 1 (x_iadd (x_callr none 2 spr_X12_greater (x_istore 6 (x_iload 3 (x_iload 6 (x_aload 0 (x_get 12 27 (x_aload 0 (x_iload 5 (x_callr (some 12) 2 spr_X12_ranked (x_iald (x_isub (x_iadd (x_istore 3 (b_X12_hats_74 J Q))))))))))))))))))))))))
set_option maxRecDepth 100000 in
theorem s_X12_hats_32 {p : Program} {l : Launch} {e : Env} {R : Room} {s : State} {m : MethodId} {args : Array Value} {below : List Frame} {meth : Method} {c : Code} {nW : Nat} {dC : Nat → ClassId} {dI : Nat → Nat → Nat} {k : Nat → ClassId} {g : Nat → Nat} {A : Nat → Prop} {J : Nat → List qV → List qV → qW → Prop} {Q : qR} (X : q_X p R s m args meth c cX12_hats 7 nW 3 65 RX12 (some .int) dC dI k g A) (hJ : ∀ d : Nat, q_Sd p l e R s m args below meth c 7 nW dC dI k g A (MQ below (q_post (dC, dI) k g nW Q A) args s 0 0 A) d (x_cut (is_X12_hats d) (J d))) : q_Sd p l e R s m args below meth c 7 nW dC dI k g A (MQ below (q_post (dC, dI) k g nW Q A) args s 0 0 A) 32 (b_X12_hats_32 J Q) := by
  unfold b_X12_hats_32
  refine s_iload X dX12_hats_32 ?_
  refine s_if_lt X (tgt := 84) dX12_hats_34 (by decide) ?_ ?_
  · refine s_iload_n X rfl dX12_hats_84 ?_
    refine s_if_eq X (tgt := 93) dX12_hats_85 (by decide) ?_ ?_
    · refine s_iload_n X rfl dX12_hats_93 ?_
      exact s_X12_hats_94 X hJ
    · refine s_iload X dX12_hats_88 ?_
      refine s_goto X (tgt := 94) dX12_hats_90 (by decide) ?_
      exact s_X12_hats_94 X hJ
  · refine s_aload_n X rfl dX12_hats_37 ?_
    refine s_get X (T := TX12) (C := RX12) (N := 45) tu_X12 rfl (by decide) tw_1024 dX12_hats_38 ?_
    refine s_aload_n X rfl dX12_hats_41 ?_
    refine s_iload X dX12_hats_42 ?_
    refine s_callVr X (m_X12_ranked l) tw_1252 tw_1253 tw_1611 tw_134 tw_1254 rfl (by decide +kernel) ⟨by decide, by decide⟩ dX12_hats_44 ?_
    refine s_iald X dX12_hats_47 ?_
    refine s_iload X dX12_hats_48 ?_
    refine s_iconst X ⟨by decide, by decide⟩ dX12_hats_50 ?_
    refine s_iadd X dX12_hats_51 ?_
    refine s_callSr X (m_X12_greater l) tw_1118 tw_1119 tw_134 tw_1120 (by decide +kernel) ⟨by decide, by decide⟩ dX12_hats_52 ?_
    refine s_istore X (by decide) dX12_hats_55 ?_
    refine s_iload_n X rfl dX12_hats_57 ?_
    refine s_iload X dX12_hats_58 ?_
    refine s_aload_n X rfl dX12_hats_60 ?_
    refine s_get X (T := TX12) (C := RX12) (N := 45) tu_X12 rfl (by decide) tw_1024 dX12_hats_61 ?_
    refine s_aload_n X rfl dX12_hats_64 ?_
    refine s_iload X dX12_hats_65 ?_
    refine s_callVr X (m_X12_ranked l) tw_1252 tw_1253 tw_1611 tw_134 tw_1254 rfl (by decide +kernel) ⟨by decide, by decide⟩ dX12_hats_67 ?_
    refine s_iald X dX12_hats_70 ?_
    refine s_isub X dX12_hats_71 ?_
    refine s_iadd X dX12_hats_72 ?_
    refine s_istore_n X rfl (by decide) dX12_hats_73 ?_
    exact s_X12_hats_74 X hJ
set_option maxRecDepth 100000 in
def b_X12_hats_0 (J : Nat → List qV → List qV → qW → Prop) (Q : qR) : qK := x_aload 0 (x_int 0 (x_put 12 0 q_oki (x_nw (x_aload 0 (x_iload 1 (x_call (some 12) 2 sp_X12_hand (x_nw (x_if_ne (x_aload 0 (x_call (some 12) 1 sp_X12_begin (x_nw (x_int 0 (x_istore 3 (x_int 0 (x_istore 4 (x_aload 0 (x_get 12 25 (x_int 1 (x_isub (x_istore 5 (x_cut [0, 2, 3, 4, 5] (J 32)))))))))))))) (x_int (-1) (x_iret Q))))))))))
set_option maxRecDepth 100000 in
theorem s_X12_hats_0 {p : Program} {l : Launch} {e : Env} {R : Room} {s : State} {m : MethodId} {args : Array Value} {below : List Frame} {meth : Method} {c : Code} {nW : Nat} {dC : Nat → ClassId} {dI : Nat → Nat → Nat} {k : Nat → ClassId} {g : Nat → Nat} {A : Nat → Prop} {J : Nat → List qV → List qV → qW → Prop} {Q : qR} (X : q_X p R s m args meth c cX12_hats 7 nW 3 65 RX12 (some .int) dC dI k g A) (hJ : ∀ d : Nat, q_Sd p l e R s m args below meth c 7 nW dC dI k g A (MQ below (q_post (dC, dI) k g nW Q A) args s 0 0 A) d (x_cut (is_X12_hats d) (J d))) : q_Sd p l e R s m args below meth c 7 nW dC dI k g A (MQ below (q_post (dC, dI) k g nW Q A) args s 0 0 A) 0 (b_X12_hats_0 J Q) := by
  unfold b_X12_hats_0
  refine s_aload_n X rfl dX12_hats_0 ?_
  refine s_iconst X ⟨by decide, by decide⟩ dX12_hats_1 ?_
  refine s_put X (T := TX12) (C := RX12) (N := 45) tu_X12 tyX12_ok nmX12 rfl (by decide) tw_997 rfl (by decide +kernel) q_oki_t dX12_hats_2 ?_
  refine s_nw ?_
  refine s_aload_n X rfl dX12_hats_5 ?_
  refine s_iload_n X rfl dX12_hats_6 ?_
  refine s_callV X (m_X12_hand l) tw_1186 tw_1187 tw_1585 tw_134 tw_1188 rfl (by decide +kernel) ⟨by decide, by decide⟩ dX12_hats_7 ?_
  refine s_nw ?_
  refine s_if_ne X (tgt := 15) dX12_hats_10 (by decide) ?_ ?_
  · refine s_aload_n X rfl dX12_hats_15 ?_
    refine s_callV X (m_X12_begin l) tw_1218 tw_1219 tw_1549 tw_134 tw_1220 rfl (by decide +kernel) ⟨by decide, by decide⟩ dX12_hats_16 ?_
    refine s_nw ?_
    refine s_iconst X ⟨by decide, by decide⟩ dX12_hats_19 ?_
    refine s_istore_n X rfl (by decide) dX12_hats_20 ?_
    refine s_iconst X ⟨by decide, by decide⟩ dX12_hats_21 ?_
    refine s_istore X (by decide) dX12_hats_22 ?_
    refine s_aload_n X rfl dX12_hats_24 ?_
    refine s_get X (T := TX12) (C := RX12) (N := 45) tu_X12 rfl (by decide) tw_1022 dX12_hats_25 ?_
    refine s_iconst X ⟨by decide, by decide⟩ dX12_hats_28 ?_
    refine s_isub X dX12_hats_29 ?_
    refine s_istore X (by decide) dX12_hats_30 ?_
    exact hJ 32
  · refine s_iconst X ⟨by decide, by decide⟩ dX12_hats_13 ?_
    exact s_iret X dX12_hats_14

def sp_X12_hats : qS := fun av w Q => ∃ (mco : Int) (mre : Int) (mle : Int) (mbe : Int) (mso : Int) (mva : Int) (mwo : Int) (mwr : Int) (mlf : Int) (mlp : Int) (mfp : Int) (mfd : Int) (mgo : Int) (mbo : Int) (mpe : Int) (mye : Int) (mpr : Int) (mld : Int) (msi : Int) (mse : Int) (mn : Nat → Int) (bs : Nat → Int) (tl : Nat → Int) (a : Int) (b : Int), av = [q2 0, q1 a, q1 b] ∧ w = [.inr (12, [q1 mco, q2 4, q2 5, q2 6, q2 7, q2 1, q2 2, q2 8, q2 9, q2 10, q1 mre, q1 mle, q1 mbe, q1 mso, q1 mva, q3 mwo, q1 mwr, q1 mlf, q1 mlp, q2 11, q2 12, q1 mfp, q1 mfd, q1 mgo, q1 mbo, q1 mpe, q1 mye, q2 3, q1 mpr, q2 13, q2 14, q2 15, q2 16, q1 mld, q2 17, q1 msi, q2 18, q2 19, q2 20, q2 21, q2 22, q1 mse, q2 23, q2 24, q2 25]), .inl (0, 16, .inl mn), .inl (0, 600, .inl bs), .inl (0, 8, .inl tl)] ∧ (q_rg 0 2 mn) ∧ (BI bs) ∧ (∀ (r : Int) (x_mco : Int) (x_mbo : Int) (x_mpe : Int) (x_tl : Nat → Int) (x_mpr : Int), Q (some (q1 r)) ([.inr (12, [q1 x_mco, q2 4, q2 5, q2 6, q2 7, q2 1, q2 2, q2 8, q2 9, q2 10, q1 mre, q1 mle, q1 mbe, q1 mso, q1 mva, q3 mwo, q1 mwr, q1 mlf, q1 mlp, q2 11, q2 12, q1 mfp, q1 mfd, q1 mgo, q1 x_mbo, q1 x_mpe, q1 mye, q2 3, q1 x_mpr, q2 13, q2 14, q2 15, q2 16, q1 mld, q2 17, q1 msi, q2 18, q2 19, q2 20, q2 21, q2 22, q1 mse, q2 23, q2 24, q2 25]), .inl (0, 16, .inl mn), .inl (0, 600, .inl bs), .inl (0, 8, .inl x_tl)]))
def I_X12_hats (mco : Int) (mre : Int) (mle : Int) (mbe : Int) (mso : Int) (mva : Int) (mwo : Int) (mwr : Int) (mlf : Int) (mlp : Int) (mfp : Int) (mfd : Int) (mgo : Int) (mbo : Int) (mpe : Int) (mye : Int) (mpr : Int) (mld : Int) (msi : Int) (mse : Int) (mn : Nat → Int) (bs : Nat → Int) (tl : Nat → Int) (a : Int) (b : Int) : Nat → Nat → List qV → List qV → qW → Prop := fun dz mz vz sz wz => if dz = 32 then (∃ (y_mco : Int) (y_mbo : Int) (y_mpe : Int) (y_tl : Nat → Int) (y_mpr : Int) (v3 : Int) (v4 : Int) (v5 : Int), vz = [q2 0, q1 b, q1 v3, q1 v4, q1 v5] ∧ sz = [] ∧ wz = [.inr (12, [q1 y_mco, q2 4, q2 5, q2 6, q2 7, q2 1, q2 2, q2 8, q2 9, q2 10, q1 mre, q1 mle, q1 mbe, q1 mso, q1 mva, q3 mwo, q1 mwr, q1 mlf, q1 mlp, q2 11, q2 12, q1 mfp, q1 mfd, q1 mgo, q1 y_mbo, q1 y_mpe, q1 mye, q2 3, q1 y_mpr, q2 13, q2 14, q2 15, q2 16, q1 mld, q2 17, q1 msi, q2 18, q2 19, q2 20, q2 21, q2 22, q1 mse, q2 23, q2 24, q2 25]), .inl (0, 16, .inl mn), .inl (0, 600, .inl bs), .inl (0, 8, .inl y_tl)] ∧ mz = (v5 + 1).toNat ∧ (0 ≤ y_mbo ∧ y_mbo ≤ 1 ∧ 0 ≤ y_mpe ∧ y_mpe ≤ 8) ∧ (-1 ≤ v5 ∧ v5 < y_mpe)) else False
set_option maxHeartbeats 4000000 in
set_option maxRecDepth 100000 in
theorem m_X12_hats (l : Launch) : q_M l yX12_hats cX12_hats 7 (some .int) 3 65 sp_X12_hats := by
  refine q_meth (by decide) (fun av w Q h => by obtain ⟨mco, mre, mle, mbe, mso, mva, mwo, mwr, mlf, mlp, mfp, mfd, mgo, mbo, mpe, mye, mpr, mld, msi, mse, mn, bs, tl, a, b, rfl, rfl, hmn, hbi, hQ⟩ := h; exact Nat.le_of_ble_eq_true rfl) ?_
  intro p e R s m args below meth c dC dI k g A av w Q hsp oka okw X
  obtain ⟨mco, mre, mle, mbe, mso, mva, mwo, mwr, mlf, mlp, mfp, mfd, mgo, mbo, mpe, mye, mpr, mld, msi, mse, mn, bs, tl, a, b, rfl, rfl, hmn, hbi, hQ⟩ := hsp
  have o_a : -2147483648 ≤ a ∧ a ≤ 2147483647 := oka _ (List.mem_of_getElem? (i := 1) rfl)
  have o_b : -2147483648 ≤ b ∧ b ≤ 2147483647 := oka _ (List.mem_of_getElem? (i := 2) rfl)
  refine s_mono (s_X12_hats_0 X (J := fun dz vz sz wz => ∃ mz, I_X12_hats mco mre mle mbe mso mva mwo mwr mlf mlp mfp mfd mgo mbo mpe mye mpr mld msi mse mn bs tl a b dz mz vz sz wz) (q_loopn (I_X12_hats mco mre mle mbe mso mva mwo mwr mlf mlp mfp mfd mgo mbo mpe mye mpr mld msi mse mn bs tl a b) (fun dz J => if dz = 32 then b_X12_hats_32 J Q else q_F) ?hs ?hv)) ?_
  case hs =>
    intro d J hJ
    by_cases h32 : d = 32
    · subst h32; exact s_X12_hats_32 X hJ
    simp only [h32, if_false]
    exact s_F
  case hv =>
    intro dz mz vz sz wz hI okv oks okw hlen
    by_cases h32 : dz = 32
    · subst h32
      obtain ⟨y_mco, y_mbo, y_mpe, y_tl, y_mpr, v3, v4, v5, rfl, rfl, rfl, hn, hyb, hp⟩ := hI
      apply And.intro
      · intro h34
        apply And.intro
        · intro h85
          exact hQ _ _ _ _ _ _
        · intro h85
          exact hQ _ _ _ _ _ _
      · intro h34
        refine Exists.intro [0, 3, 4, 5, 6, 7, 1, 2, 8, 9, 10, 11, 12, 13, 14, 15, 16, 17, 18, 19, 20, 21, 22, 23, 24, 25] (Exists.intro [q2 0, q1 _] (Exists.intro ([.inr (12, [q1 _, q2 2, q2 3, q2 4, q2 5, q2 6, q2 7, q2 8, q2 9, q2 10, q1 _, q1 _, q1 _, q1 _, q1 _, q3 _, q1 _, q1 _, q1 _, q2 11, q2 12, q1 _, q1 _, q1 _, q1 _, q1 _, q1 _, q2 1, q1 _, q2 13, q2 14, q2 15, q2 16, q1 _, q2 17, q1 _, q2 18, q2 19, q2 20, q2 21, q2 22, q1 _, q2 23, q2 24, q2 25]), .inl (0, 8, .inl _)]) (And.intro rfl (And.intro rfl (And.intro rfl (And.intro ⟨⟨_, rfl⟩, rfl⟩ ?_))))))
        refine Exists.intro _ (Exists.intro _ (Exists.intro _ (Exists.intro _ (Exists.intro _ (Exists.intro _ (Exists.intro _ (Exists.intro _ (Exists.intro _ (Exists.intro _ (Exists.intro _ (Exists.intro _ (Exists.intro _ (Exists.intro _ (Exists.intro _ (Exists.intro _ (Exists.intro _ (Exists.intro _ (Exists.intro _ (Exists.intro _ (Exists.intro _ (Exists.intro _ (And.intro rfl (And.intro rfl (And.intro (by first | omega | assumption | exact q_rg_up (by assumption) (by omega) | exact q_rg_up (q_rg_up (by assumption) (by omega)) (by omega) | exact q_rg_cpy (by assumption) (by assumption)) (?_)))))))))))))))))))))))))
        intro z44 h44
        apply And.intro
        · exact ⟨by omega, by omega⟩
        intro z47 h47
        intro z51 h51
        first | replace h51 := e_add h51 (by omega) | replace h51 := e_rng h51
        refine Exists.intro [] (Exists.intro [q1 _, q1 _] (Exists.intro [] (And.intro rfl (And.intro rfl (And.intro rfl (And.intro trivial ?_))))))
        refine Exists.intro _ (Exists.intro _ (And.intro rfl (And.intro rfl (?_))))
        intro z52 h52
        refine Exists.intro [0, 3, 4, 5, 6, 7, 1, 2, 8, 9, 10, 11, 12, 13, 14, 15, 16, 17, 18, 19, 20, 21, 22, 23, 24, 25] (Exists.intro [q2 0, q1 _] (Exists.intro ([.inr (12, [q1 _, q2 2, q2 3, q2 4, q2 5, q2 6, q2 7, q2 8, q2 9, q2 10, q1 _, q1 _, q1 _, q1 _, q1 _, q3 _, q1 _, q1 _, q1 _, q2 11, q2 12, q1 _, q1 _, q1 _, q1 _, q1 _, q1 _, q2 1, q1 _, q2 13, q2 14, q2 15, q2 16, q1 _, q2 17, q1 _, q2 18, q2 19, q2 20, q2 21, q2 22, q1 _, q2 23, q2 24, q2 25]), .inl (0, 8, .inl _)]) (And.intro rfl (And.intro rfl (And.intro rfl (And.intro ⟨⟨_, rfl⟩, rfl⟩ ?_))))))
        refine Exists.intro _ (Exists.intro _ (Exists.intro _ (Exists.intro _ (Exists.intro _ (Exists.intro _ (Exists.intro _ (Exists.intro _ (Exists.intro _ (Exists.intro _ (Exists.intro _ (Exists.intro _ (Exists.intro _ (Exists.intro _ (Exists.intro _ (Exists.intro _ (Exists.intro _ (Exists.intro _ (Exists.intro _ (Exists.intro _ (Exists.intro _ (Exists.intro _ (And.intro rfl (And.intro rfl (And.intro (by first | omega | assumption | exact q_rg_up (by assumption) (by omega) | exact q_rg_up (q_rg_up (by assumption) (by omega)) (by omega) | exact q_rg_cpy (by assumption) (by assumption)) (?_)))))))))))))))))))))))))
        intro z67 h67
        apply And.intro
        · exact ⟨by omega, by omega⟩
        intro z70 h70
        intro z71 h71
        first | replace h71 := e_sub h71 (by omega) | replace h71 := e_rng h71
        intro z72 h72
        first | replace h72 := e_add h72 (by omega) | replace h72 := e_rng h72
        intro z78 h78
        first | replace h78 := e_add h78 (by omega) | replace h78 := e_rng h78
        exact ⟨_, ⟨_, _, _, _, _, _, _, _, rfl, rfl, rfl, rfl, (by first | omega | assumption | exact q_rg_up (by assumption) (by omega) | exact q_rg_up (q_rg_up (by assumption) (by omega)) (by omega) | exact q_rg_cpy (by assumption) (by assumption)), (by first | omega | assumption | exact q_rg_up (by assumption) (by omega) | exact q_rg_up (q_rg_up (by assumption) (by omega)) (by omega) | exact q_rg_cpy (by assumption) (by assumption))⟩, by omega⟩
    simp only [I_X12_hats, h32, if_false] at hI
  rintro lv st w' ⟨rfl, rfl, rfl⟩
  apply And.intro
  · exact trivial
  refine Exists.intro [0, 1, 2, 4, 5, 6, 7, 8, 9, 10, 11, 12, 3, 13, 14, 15, 16, 17, 18, 19, 20, 21, 22, 23, 24, 25] (Exists.intro [q2 0, q1 _] (Exists.intro ([.inr (12, [q1 _, q2 3, q2 4, q2 5, q2 6, q2 1, q2 2, q2 7, q2 8, q2 9, q1 _, q1 _, q1 _, q1 _, q1 _, q3 _, q1 _, q1 _, q1 _, q2 10, q2 11, q1 _, q1 _, q1 _, q1 _, q1 _, q1 _, q2 12, q1 _, q2 13, q2 14, q2 15, q2 16, q1 _, q2 17, q1 _, q2 18, q2 19, q2 20, q2 21, q2 22, q1 _, q2 23, q2 24, q2 25]), .inl (0, 16, .inl _), .inl (0, 600, .inl _)]) (And.intro rfl (And.intro rfl (And.intro rfl (And.intro ⟨⟨_, rfl⟩, rfl⟩ ?_))))))
  refine Exists.intro _ (Exists.intro _ (Exists.intro _ (Exists.intro _ (Exists.intro _ (Exists.intro _ (Exists.intro _ (Exists.intro _ (Exists.intro _ (Exists.intro _ (Exists.intro _ (Exists.intro _ (Exists.intro _ (Exists.intro _ (Exists.intro _ (Exists.intro _ (Exists.intro _ (Exists.intro _ (Exists.intro _ (Exists.intro _ (Exists.intro _ (Exists.intro _ (Exists.intro _ (And.intro rfl (And.intro rfl (And.intro (by first | omega | assumption | exact q_rg_up (by assumption) (by omega) | exact q_rg_up (q_rg_up (by assumption) (by omega)) (by omega) | exact q_rg_cpy (by assumption) (by assumption)) (And.intro (by first | omega | assumption | exact q_rg_up (by assumption) (by omega) | exact q_rg_up (q_rg_up (by assumption) (by omega)) (by omega) | exact q_rg_cpy (by assumption) (by assumption)) (?_)))))))))))))))))))))))))))
  intro z7 x_mbo_7 x_mpe_7 h7
  apply And.intro
  · intro h10
    first | replace h7 := dj1 h7 h10 | replace h7 := dj0 h7 h10
    refine Exists.intro [0, 3, 2, 4, 5, 6, 7, 1, 8, 9, 10, 11, 12, 13, 14, 15, 16, 17, 18, 19, 20, 21, 22, 23, 24, 25] (Exists.intro [q2 0] (Exists.intro ([.inr (12, [q1 _, q2 3, q2 4, q2 5, q2 6, q2 7, q2 2, q2 8, q2 9, q2 10, q1 _, q1 _, q1 _, q1 _, q1 _, q3 _, q1 _, q1 _, q1 _, q2 11, q2 12, q1 _, q1 _, q1 _, q1 _, q1 _, q1 _, q2 1, q1 _, q2 13, q2 14, q2 15, q2 16, q1 _, q2 17, q1 _, q2 18, q2 19, q2 20, q2 21, q2 22, q1 _, q2 23, q2 24, q2 25]), .inl (0, 8, .inl _), .inl (0, 600, .inl _)]) (And.intro rfl (And.intro rfl (And.intro rfl (And.intro ⟨⟨_, rfl⟩, rfl⟩ ?_))))))
    refine Exists.intro _ (Exists.intro _ (Exists.intro _ (Exists.intro _ (Exists.intro _ (Exists.intro _ (Exists.intro _ (Exists.intro _ (Exists.intro _ (Exists.intro _ (Exists.intro _ (Exists.intro _ (Exists.intro _ (Exists.intro _ (Exists.intro _ (Exists.intro _ (Exists.intro _ (Exists.intro _ (Exists.intro _ (Exists.intro _ (Exists.intro _ (Exists.intro _ (And.intro rfl (And.intro rfl (And.intro (by first | omega | assumption | exact q_rg_up (by assumption) (by omega) | exact q_rg_up (q_rg_up (by assumption) (by omega)) (by omega) | exact q_rg_cpy (by assumption) (by assumption)) (And.intro (by first | omega | assumption | exact q_rg_up (by assumption) (by omega) | exact q_rg_up (q_rg_up (by assumption) (by omega)) (by omega) | exact q_rg_cpy (by assumption) (by assumption)) (?_))))))))))))))))))))))))))
    intro x_tl_16 x_mpr_16
    intro z29 h29
    first | replace h29 := e_sub h29 (by omega) | replace h29 := e_rng h29
    exact ⟨_, _, _, _, _, _, _, _, _, rfl, rfl, rfl, rfl, (by first | omega | assumption | exact q_rg_up (by assumption) (by omega) | exact q_rg_up (q_rg_up (by assumption) (by omega)) (by omega) | exact q_rg_cpy (by assumption) (by assumption)), (by first | omega | assumption | exact q_rg_up (by assumption) (by omega) | exact q_rg_up (q_rg_up (by assumption) (by omega)) (by omega) | exact q_rg_cpy (by assumption) (by assumption))⟩
  · intro h10
    first | replace h7 := dj1 h7 h10 | replace h7 := dj0 h7 h10
    exact hQ _ _ _ _ _ _

theorem dX12_teams_0 : decode cX12_teams 0 = .ok (.aload_n 0, 1) := by decide +kernel
theorem dX12_teams_1 : decode cX12_teams 1 = .ok (.iconst 0, 1) := by decide +kernel
theorem dX12_teams_2 : decode cX12_teams 2 = .ok (.putfield 88, 3) := by decide +kernel
theorem dX12_teams_5 : decode cX12_teams 5 = .ok (.aload_n 0, 1) := by decide +kernel
theorem dX12_teams_6 : decode cX12_teams 6 = .ok (.iload_n 1, 1) := by decide +kernel
theorem dX12_teams_7 : decode cX12_teams 7 = .ok (.invokevirtual 306, 3) := by decide +kernel
theorem dX12_teams_10 : decode cX12_teams 10 = .ok (.ifCond .eq 11, 3) := by decide +kernel
theorem dX12_teams_13 : decode cX12_teams 13 = .ok (.aload_n 0, 1) := by decide +kernel
theorem dX12_teams_14 : decode cX12_teams 14 = .ok (.getfield 303, 3) := by decide +kernel
theorem dX12_teams_17 : decode cX12_teams 17 = .ok (.iconst 2, 1) := by decide +kernel
theorem dX12_teams_18 : decode cX12_teams 18 = .ok (.if_icmp .ge 5, 3) := by decide +kernel
theorem dX12_teams_21 : decode cX12_teams 21 = .ok (.iconst (-1), 1) := by decide +kernel
theorem dX12_teams_22 : decode cX12_teams 22 = .ok (.ireturn, 1) := by decide +kernel
theorem dX12_teams_23 : decode cX12_teams 23 = .ok (.iconst 1, 1) := by decide +kernel
theorem dX12_teams_24 : decode cX12_teams 24 = .ok (.aload_n 0, 1) := by decide +kernel
theorem dX12_teams_25 : decode cX12_teams 25 = .ok (.getfield 303, 3) := by decide +kernel
theorem dX12_teams_28 : decode cX12_teams 28 = .ok (.ishl, 1) := by decide +kernel
theorem dX12_teams_29 : decode cX12_teams 29 = .ok (.iconst 1, 1) := by decide +kernel
theorem dX12_teams_30 : decode cX12_teams 30 = .ok (.isub, 1) := by decide +kernel
theorem dX12_teams_31 : decode cX12_teams 31 = .ok (.istore_n 3, 1) := by decide +kernel
theorem dX12_teams_32 : decode cX12_teams 32 = .ok (.iconst (-1), 1) := by decide +kernel
theorem dX12_teams_33 : decode cX12_teams 33 = .ok (.istore 4, 2) := by decide +kernel
theorem dX12_teams_35 : decode cX12_teams 35 = .ok (.ldc_w 376, 3) := by decide +kernel
theorem dX12_teams_38 : decode cX12_teams 38 = .ok (.istore 5, 2) := by decide +kernel
theorem dX12_teams_40 : decode cX12_teams 40 = .ok (.iconst 1, 1) := by decide +kernel
theorem dX12_teams_41 : decode cX12_teams 41 = .ok (.istore 6, 2) := by decide +kernel
theorem dX12_teams_43 : decode cX12_teams 43 = .ok (.iload 6, 2) := by decide +kernel
theorem dX12_teams_45 : decode cX12_teams 45 = .ok (.iload_n 3, 1) := by decide +kernel
theorem dX12_teams_46 : decode cX12_teams 46 = .ok (.if_icmp .gt 107, 3) := by decide +kernel
theorem dX12_teams_49 : decode cX12_teams 49 = .ok (.iconst 2, 1) := by decide +kernel
theorem dX12_teams_50 : decode cX12_teams 50 = .ok (.aload_n 0, 1) := by decide +kernel
theorem dX12_teams_51 : decode cX12_teams 51 = .ok (.iload 6, 2) := by decide +kernel
theorem dX12_teams_53 : decode cX12_teams 53 = .ok (.invokevirtual 401, 3) := by decide +kernel
theorem dX12_teams_56 : decode cX12_teams 56 = .ok (.imul, 1) := by decide +kernel
theorem dX12_teams_57 : decode cX12_teams 57 = .ok (.aload_n 0, 1) := by decide +kernel
theorem dX12_teams_58 : decode cX12_teams 58 = .ok (.iload_n 3, 1) := by decide +kernel
theorem dX12_teams_59 : decode cX12_teams 59 = .ok (.invokevirtual 401, 3) := by decide +kernel
theorem dX12_teams_62 : decode cX12_teams 62 = .ok (.isub, 1) := by decide +kernel
theorem dX12_teams_63 : decode cX12_teams 63 = .ok (.istore 7, 2) := by decide +kernel
theorem dX12_teams_65 : decode cX12_teams 65 = .ok (.iload 7, 2) := by decide +kernel
theorem dX12_teams_67 : decode cX12_teams 67 = .ok (.ifCond .ge 9, 3) := by decide +kernel
theorem dX12_teams_70 : decode cX12_teams 70 = .ok (.iload 7, 2) := by decide +kernel
theorem dX12_teams_72 : decode cX12_teams 72 = .ok (.ineg, 1) := by decide +kernel
theorem dX12_teams_73 : decode cX12_teams 73 = .ok (.goto 5, 3) := by decide +kernel
theorem dX12_teams_76 : decode cX12_teams 76 = .ok (.iload 7, 2) := by decide +kernel
theorem dX12_teams_78 : decode cX12_teams 78 = .ok (.istore 7, 2) := by decide +kernel
theorem dX12_teams_80 : decode cX12_teams 80 = .ok (.iconst 2, 1) := by decide +kernel
theorem dX12_teams_81 : decode cX12_teams 81 = .ok (.iload 6, 2) := by decide +kernel
theorem dX12_teams_83 : decode cX12_teams 83 = .ok (.invokestatic 413, 3) := by decide +kernel
theorem dX12_teams_86 : decode cX12_teams 86 = .ok (.imul, 1) := by decide +kernel
theorem dX12_teams_87 : decode cX12_teams 87 = .ok (.aload_n 0, 1) := by decide +kernel
theorem dX12_teams_88 : decode cX12_teams 88 = .ok (.getfield 303, 3) := by decide +kernel
theorem dX12_teams_91 : decode cX12_teams 91 = .ok (.iconst 1, 1) := by decide +kernel
theorem dX12_teams_92 : decode cX12_teams 92 = .ok (.isub, 1) := by decide +kernel
theorem dX12_teams_93 : decode cX12_teams 93 = .ok (.aload_n 0, 1) := by decide +kernel
theorem dX12_teams_94 : decode cX12_teams 94 = .ok (.getfield 303, 3) := by decide +kernel
theorem dX12_teams_97 : decode cX12_teams 97 = .ok (.iconst 1, 1) := by decide +kernel
theorem dX12_teams_98 : decode cX12_teams 98 = .ok (.iadd, 1) := by decide +kernel
theorem dX12_teams_99 : decode cX12_teams 99 = .ok (.invokestatic 100, 3) := by decide +kernel
theorem dX12_teams_102 : decode cX12_teams 102 = .ok (.ifCond .eq 14, 3) := by decide +kernel
theorem dX12_teams_105 : decode cX12_teams 105 = .ok (.iload 7, 2) := by decide +kernel
theorem dX12_teams_107 : decode cX12_teams 107 = .ok (.iload 5, 2) := by decide +kernel
theorem dX12_teams_109 : decode cX12_teams 109 = .ok (.if_icmp .ge 7, 3) := by decide +kernel
theorem dX12_teams_112 : decode cX12_teams 112 = .ok (.iconst 1, 1) := by decide +kernel
theorem dX12_teams_113 : decode cX12_teams 113 = .ok (.goto 4, 3) := by decide +kernel
theorem dX12_teams_116 : decode cX12_teams 116 = .ok (.iconst 0, 1) := by decide +kernel
theorem dX12_teams_117 : decode cX12_teams 117 = .ok (.istore 8, 2) := by decide +kernel
theorem dX12_teams_119 : decode cX12_teams 119 = .ok (.iload 8, 2) := by decide +kernel
theorem dX12_teams_121 : decode cX12_teams 121 = .ok (.ifCond .eq 8, 3) := by decide +kernel
theorem dX12_teams_124 : decode cX12_teams 124 = .ok (.iload 6, 2) := by decide +kernel
theorem dX12_teams_126 : decode cX12_teams 126 = .ok (.goto 5, 3) := by decide +kernel
theorem dX12_teams_129 : decode cX12_teams 129 = .ok (.iload 4, 2) := by decide +kernel
theorem dX12_teams_131 : decode cX12_teams 131 = .ok (.istore 4, 2) := by decide +kernel
theorem dX12_teams_133 : decode cX12_teams 133 = .ok (.iload 8, 2) := by decide +kernel
theorem dX12_teams_135 : decode cX12_teams 135 = .ok (.ifCond .eq 8, 3) := by decide +kernel
theorem dX12_teams_138 : decode cX12_teams 138 = .ok (.iload 7, 2) := by decide +kernel
theorem dX12_teams_140 : decode cX12_teams 140 = .ok (.goto 5, 3) := by decide +kernel
theorem dX12_teams_143 : decode cX12_teams 143 = .ok (.iload 5, 2) := by decide +kernel
theorem dX12_teams_145 : decode cX12_teams 145 = .ok (.istore 5, 2) := by decide +kernel
theorem dX12_teams_147 : decode cX12_teams 147 = .ok (.iinc 6 2, 3) := by decide +kernel
theorem dX12_teams_150 : decode cX12_teams 150 = .ok (.goto (-107), 3) := by decide +kernel
theorem dX12_teams_153 : decode cX12_teams 153 = .ok (.iload_n 2, 1) := by decide +kernel
theorem dX12_teams_154 : decode cX12_teams 154 = .ok (.ifCond .eq 8, 3) := by decide +kernel
theorem dX12_teams_157 : decode cX12_teams 157 = .ok (.iload 4, 2) := by decide +kernel
theorem dX12_teams_159 : decode cX12_teams 159 = .ok (.goto 5, 3) := by decide +kernel
theorem dX12_teams_162 : decode cX12_teams 162 = .ok (.iload 5, 2) := by decide +kernel
theorem dX12_teams_164 : decode cX12_teams 164 = .ok (.ireturn, 1) := by decide +kernel
def is_X12_teams : Nat → List Nat := fun d => if d = 43 then [0, 2, 3, 4, 5, 6] else if d = 117 then [0, 2, 3, 4, 5, 6, 7] else []
set_option maxRecDepth 100000 in
def b_X12_teams_164 (J : Nat → List qV → List qV → qW → Prop) (Q : qR) : qK := x_iret Q
set_option maxRecDepth 100000 in
theorem s_X12_teams_164 {p : Program} {l : Launch} {e : Env} {R : Room} {s : State} {m : MethodId} {args : Array Value} {below : List Frame} {meth : Method} {c : Code} {nW : Nat} {dC : Nat → ClassId} {dI : Nat → Nat → Nat} {k : Nat → ClassId} {g : Nat → Nat} {A : Nat → Prop} {J : Nat → List qV → List qV → qW → Prop} {Q : qR} (X : q_X p R s m args meth c cX12_teams 9 nW 3 65 RX12 (some .int) dC dI k g A) (hJ : ∀ d : Nat, q_Sd p l e R s m args below meth c 9 nW dC dI k g A (MQ below (q_post (dC, dI) k g nW Q A) args s 0 0 A) d (x_cut (is_X12_teams d) (J d))) : q_Sd p l e R s m args below meth c 9 nW dC dI k g A (MQ below (q_post (dC, dI) k g nW Q A) args s 0 0 A) 164 (b_X12_teams_164 J Q) := by
  unfold b_X12_teams_164
  exact s_iret X dX12_teams_164
set_option maxRecDepth 100000 in
def b_X12_teams_145 (J : Nat → List qV → List qV → qW → Prop) (Q : qR) : qK := x_istore 5 (x_iinc 6 2 (x_cut [0, 2, 3, 4, 5, 6] (J 43)))
set_option maxRecDepth 100000 in
theorem s_X12_teams_145 {p : Program} {l : Launch} {e : Env} {R : Room} {s : State} {m : MethodId} {args : Array Value} {below : List Frame} {meth : Method} {c : Code} {nW : Nat} {dC : Nat → ClassId} {dI : Nat → Nat → Nat} {k : Nat → ClassId} {g : Nat → Nat} {A : Nat → Prop} {J : Nat → List qV → List qV → qW → Prop} {Q : qR} (X : q_X p R s m args meth c cX12_teams 9 nW 3 65 RX12 (some .int) dC dI k g A) (hJ : ∀ d : Nat, q_Sd p l e R s m args below meth c 9 nW dC dI k g A (MQ below (q_post (dC, dI) k g nW Q A) args s 0 0 A) d (x_cut (is_X12_teams d) (J d))) : q_Sd p l e R s m args below meth c 9 nW dC dI k g A (MQ below (q_post (dC, dI) k g nW Q A) args s 0 0 A) 145 (b_X12_teams_145 J Q) := by
  unfold b_X12_teams_145
  refine s_istore X (by decide) dX12_teams_145 ?_
  refine s_iinc X (by decide) dX12_teams_147 ?_
  refine s_goto X (tgt := 43) dX12_teams_150 (by decide) ?_
  exact hJ 43
set_option maxRecDepth 100000 in
def b_X12_teams_131 (J : Nat → List qV → List qV → qW → Prop) (Q : qR) : qK := x_istore 4 (x_iload 8 (x_if_eq (x_iload 5 (b_X12_teams_145 J Q)) (x_iload 7 (b_X12_teams_145 J Q))))
set_option maxRecDepth 100000 in
theorem s_X12_teams_131 {p : Program} {l : Launch} {e : Env} {R : Room} {s : State} {m : MethodId} {args : Array Value} {below : List Frame} {meth : Method} {c : Code} {nW : Nat} {dC : Nat → ClassId} {dI : Nat → Nat → Nat} {k : Nat → ClassId} {g : Nat → Nat} {A : Nat → Prop} {J : Nat → List qV → List qV → qW → Prop} {Q : qR} (X : q_X p R s m args meth c cX12_teams 9 nW 3 65 RX12 (some .int) dC dI k g A) (hJ : ∀ d : Nat, q_Sd p l e R s m args below meth c 9 nW dC dI k g A (MQ below (q_post (dC, dI) k g nW Q A) args s 0 0 A) d (x_cut (is_X12_teams d) (J d))) : q_Sd p l e R s m args below meth c 9 nW dC dI k g A (MQ below (q_post (dC, dI) k g nW Q A) args s 0 0 A) 131 (b_X12_teams_131 J Q) := by
  unfold b_X12_teams_131
  refine s_istore X (by decide) dX12_teams_131 ?_
  refine s_iload X dX12_teams_133 ?_
  refine s_if_eq X (tgt := 143) dX12_teams_135 (by decide) ?_ ?_
  · refine s_iload X dX12_teams_143 ?_
    exact s_X12_teams_145 X hJ
  · refine s_iload X dX12_teams_138 ?_
    refine s_goto X (tgt := 145) dX12_teams_140 (by decide) ?_
    exact s_X12_teams_145 X hJ
set_option maxRecDepth 100000 in
def b_X12_teams_117 (J : Nat → List qV → List qV → qW → Prop) (Q : qR) : qK := x_istore 8 (x_iload 8 (x_if_eq (x_iload 4 (b_X12_teams_131 J Q)) (x_iload 6 (b_X12_teams_131 J Q))))
set_option maxRecDepth 100000 in
theorem s_X12_teams_117 {p : Program} {l : Launch} {e : Env} {R : Room} {s : State} {m : MethodId} {args : Array Value} {below : List Frame} {meth : Method} {c : Code} {nW : Nat} {dC : Nat → ClassId} {dI : Nat → Nat → Nat} {k : Nat → ClassId} {g : Nat → Nat} {A : Nat → Prop} {J : Nat → List qV → List qV → qW → Prop} {Q : qR} (X : q_X p R s m args meth c cX12_teams 9 nW 3 65 RX12 (some .int) dC dI k g A) (hJ : ∀ d : Nat, q_Sd p l e R s m args below meth c 9 nW dC dI k g A (MQ below (q_post (dC, dI) k g nW Q A) args s 0 0 A) d (x_cut (is_X12_teams d) (J d))) : q_Sd p l e R s m args below meth c 9 nW dC dI k g A (MQ below (q_post (dC, dI) k g nW Q A) args s 0 0 A) 117 (b_X12_teams_117 J Q) := by
  unfold b_X12_teams_117
  refine s_istore X (by decide) dX12_teams_117 ?_
  refine s_iload X dX12_teams_119 ?_
  refine s_if_eq X (tgt := 129) dX12_teams_121 (by decide) ?_ ?_
  · refine s_iload X dX12_teams_129 ?_
    exact s_X12_teams_131 X hJ
  · refine s_iload X dX12_teams_124 ?_
    refine s_goto X (tgt := 131) dX12_teams_126 (by decide) ?_
    exact s_X12_teams_131 X hJ
set_option maxRecDepth 100000 in
def b_X12_teams_116 (J : Nat → List qV → List qV → qW → Prop) (Q : qR) : qK := x_int 0 (x_cut [0, 2, 3, 4, 5, 6, 7] (J 117))
set_option maxRecDepth 100000 in
theorem s_X12_teams_116 {p : Program} {l : Launch} {e : Env} {R : Room} {s : State} {m : MethodId} {args : Array Value} {below : List Frame} {meth : Method} {c : Code} {nW : Nat} {dC : Nat → ClassId} {dI : Nat → Nat → Nat} {k : Nat → ClassId} {g : Nat → Nat} {A : Nat → Prop} {J : Nat → List qV → List qV → qW → Prop} {Q : qR} (X : q_X p R s m args meth c cX12_teams 9 nW 3 65 RX12 (some .int) dC dI k g A) (hJ : ∀ d : Nat, q_Sd p l e R s m args below meth c 9 nW dC dI k g A (MQ below (q_post (dC, dI) k g nW Q A) args s 0 0 A) d (x_cut (is_X12_teams d) (J d))) : q_Sd p l e R s m args below meth c 9 nW dC dI k g A (MQ below (q_post (dC, dI) k g nW Q A) args s 0 0 A) 116 (b_X12_teams_116 J Q) := by
  unfold b_X12_teams_116
  refine s_iconst X ⟨by decide, by decide⟩ dX12_teams_116 ?_
  exact hJ 117
set_option maxRecDepth 100000 in
def b_X12_teams_78 (J : Nat → List qV → List qV → qW → Prop) (Q : qR) : qK := x_istore 7 (x_int 2 (x_iload 6 (x_callr none 1 spr_X12_ones (x_imul (x_aload 0 (x_get 12 25 (x_int 1 (x_isub (x_aload 0 (x_get 12 25 (x_int 1 (x_iadd (x_callr none 3 spr_X12_in (x_if_eq (b_X12_teams_116 J Q) (x_iload 7 (x_iload 5 (x_icmp_ge (b_X12_teams_116 J Q) (x_int 1 (x_cut [0, 2, 3, 4, 5, 6, 7] (J 117))))))))))))))))))))
set_option maxRecDepth 100000 in
theorem s_X12_teams_78 {p : Program} {l : Launch} {e : Env} {R : Room} {s : State} {m : MethodId} {args : Array Value} {below : List Frame} {meth : Method} {c : Code} {nW : Nat} {dC : Nat → ClassId} {dI : Nat → Nat → Nat} {k : Nat → ClassId} {g : Nat → Nat} {A : Nat → Prop} {J : Nat → List qV → List qV → qW → Prop} {Q : qR} (X : q_X p R s m args meth c cX12_teams 9 nW 3 65 RX12 (some .int) dC dI k g A) (hJ : ∀ d : Nat, q_Sd p l e R s m args below meth c 9 nW dC dI k g A (MQ below (q_post (dC, dI) k g nW Q A) args s 0 0 A) d (x_cut (is_X12_teams d) (J d))) : q_Sd p l e R s m args below meth c 9 nW dC dI k g A (MQ below (q_post (dC, dI) k g nW Q A) args s 0 0 A) 78 (b_X12_teams_78 J Q) := by
  unfold b_X12_teams_78
  refine s_istore X (by decide) dX12_teams_78 ?_
  refine s_iconst X ⟨by decide, by decide⟩ dX12_teams_80 ?_
  refine s_iload X dX12_teams_81 ?_
  refine s_callSr X (m_X12_ones l) tw_1326 tw_1327 tw_134 tw_1328 (by decide +kernel) ⟨by decide, by decide⟩ dX12_teams_83 ?_
  refine s_imul X dX12_teams_86 ?_
  refine s_aload_n X rfl dX12_teams_87 ?_
  refine s_get X (T := TX12) (C := RX12) (N := 45) tu_X12 rfl (by decide) tw_1022 dX12_teams_88 ?_
  refine s_iconst X ⟨by decide, by decide⟩ dX12_teams_91 ?_
  refine s_isub X dX12_teams_92 ?_
  refine s_aload_n X rfl dX12_teams_93 ?_
  refine s_get X (T := TX12) (C := RX12) (N := 45) tu_X12 rfl (by decide) tw_1022 dX12_teams_94 ?_
  refine s_iconst X ⟨by decide, by decide⟩ dX12_teams_97 ?_
  refine s_iadd X dX12_teams_98 ?_
  refine s_callSr X (m_X12_in l) tw_1054 tw_1055 tw_134 tw_1056 (by decide +kernel) ⟨by decide, by decide⟩ dX12_teams_99 ?_
  refine s_if_eq X (tgt := 116) dX12_teams_102 (by decide) ?_ ?_
  · exact s_X12_teams_116 X hJ
  · refine s_iload X dX12_teams_105 ?_
    refine s_iload X dX12_teams_107 ?_
    refine s_icmp_ge X (tgt := 116) dX12_teams_109 (by decide) ?_ ?_
    · exact s_X12_teams_116 X hJ
    · refine s_iconst X ⟨by decide, by decide⟩ dX12_teams_112 ?_
      refine s_goto X (tgt := 117) dX12_teams_113 (by decide) ?_
      exact hJ 117
set_option maxRecDepth 100000 in
def b_X12_teams_43 (J : Nat → List qV → List qV → qW → Prop) (Q : qR) : qK := x_iload 6 (x_iload 3 (x_icmp_gt (x_iload 2 (x_if_eq (x_iload 5 (b_X12_teams_164 J Q)) (x_iload 4 (b_X12_teams_164 J Q)))) (x_int 2 (x_aload 0 (x_iload 6 (x_callr (some 12) 2 spr_X12_sumOf (x_imul (x_aload 0 (x_iload 3 (x_callr (some 12) 2 spr_X12_sumOf (x_isub (x_istore 7 (x_iload 7 (x_if_ge (x_iload 7 (b_X12_teams_78 J Q)) (x_iload 7 (x_ineg (b_X12_teams_78 J Q)))))))))))))))))
set_option maxRecDepth 100000 in
theorem s_X12_teams_43 {p : Program} {l : Launch} {e : Env} {R : Room} {s : State} {m : MethodId} {args : Array Value} {below : List Frame} {meth : Method} {c : Code} {nW : Nat} {dC : Nat → ClassId} {dI : Nat → Nat → Nat} {k : Nat → ClassId} {g : Nat → Nat} {A : Nat → Prop} {J : Nat → List qV → List qV → qW → Prop} {Q : qR} (X : q_X p R s m args meth c cX12_teams 9 nW 3 65 RX12 (some .int) dC dI k g A) (hJ : ∀ d : Nat, q_Sd p l e R s m args below meth c 9 nW dC dI k g A (MQ below (q_post (dC, dI) k g nW Q A) args s 0 0 A) d (x_cut (is_X12_teams d) (J d))) : q_Sd p l e R s m args below meth c 9 nW dC dI k g A (MQ below (q_post (dC, dI) k g nW Q A) args s 0 0 A) 43 (b_X12_teams_43 J Q) := by
  unfold b_X12_teams_43
  refine s_iload X dX12_teams_43 ?_
  refine s_iload_n X rfl dX12_teams_45 ?_
  refine s_icmp_gt X (tgt := 153) dX12_teams_46 (by decide) ?_ ?_
  · refine s_iload_n X rfl dX12_teams_153 ?_
    refine s_if_eq X (tgt := 162) dX12_teams_154 (by decide) ?_ ?_
    · refine s_iload X dX12_teams_162 ?_
      exact s_X12_teams_164 X hJ
    · refine s_iload X dX12_teams_157 ?_
      refine s_goto X (tgt := 164) dX12_teams_159 (by decide) ?_
      exact s_X12_teams_164 X hJ
  · refine s_iconst X ⟨by decide, by decide⟩ dX12_teams_49 ?_
    refine s_aload_n X rfl dX12_teams_50 ?_
    refine s_iload X dX12_teams_51 ?_
    refine s_callVr X (m_X12_sumOf l) tw_1301 tw_1302 tw_1620 tw_134 tw_1303 rfl (by decide +kernel) ⟨by decide, by decide⟩ dX12_teams_53 ?_
    refine s_imul X dX12_teams_56 ?_
    refine s_aload_n X rfl dX12_teams_57 ?_
    refine s_iload_n X rfl dX12_teams_58 ?_
    refine s_callVr X (m_X12_sumOf l) tw_1301 tw_1302 tw_1620 tw_134 tw_1303 rfl (by decide +kernel) ⟨by decide, by decide⟩ dX12_teams_59 ?_
    refine s_isub X dX12_teams_62 ?_
    refine s_istore X (by decide) dX12_teams_63 ?_
    refine s_iload X dX12_teams_65 ?_
    refine s_if_ge X (tgt := 76) dX12_teams_67 (by decide) ?_ ?_
    · refine s_iload X dX12_teams_76 ?_
      exact s_X12_teams_78 X hJ
    · refine s_iload X dX12_teams_70 ?_
      refine s_ineg X dX12_teams_72 ?_
      refine s_goto X (tgt := 78) dX12_teams_73 (by decide) ?_
      exact s_X12_teams_78 X hJ
set_option maxRecDepth 100000 in
def b_X12_teams_21 (J : Nat → List qV → List qV → qW → Prop) (Q : qR) : qK := x_int (-1) (x_iret Q)
set_option maxRecDepth 100000 in
theorem s_X12_teams_21 {p : Program} {l : Launch} {e : Env} {R : Room} {s : State} {m : MethodId} {args : Array Value} {below : List Frame} {meth : Method} {c : Code} {nW : Nat} {dC : Nat → ClassId} {dI : Nat → Nat → Nat} {k : Nat → ClassId} {g : Nat → Nat} {A : Nat → Prop} {J : Nat → List qV → List qV → qW → Prop} {Q : qR} (X : q_X p R s m args meth c cX12_teams 9 nW 3 65 RX12 (some .int) dC dI k g A) (hJ : ∀ d : Nat, q_Sd p l e R s m args below meth c 9 nW dC dI k g A (MQ below (q_post (dC, dI) k g nW Q A) args s 0 0 A) d (x_cut (is_X12_teams d) (J d))) : q_Sd p l e R s m args below meth c 9 nW dC dI k g A (MQ below (q_post (dC, dI) k g nW Q A) args s 0 0 A) 21 (b_X12_teams_21 J Q) := by
  unfold b_X12_teams_21
  refine s_iconst X ⟨by decide, by decide⟩ dX12_teams_21 ?_
  exact s_iret X dX12_teams_22
set_option maxRecDepth 100000 in
def b_X12_teams_0 (J : Nat → List qV → List qV → qW → Prop) (Q : qR) : qK := x_aload 0 (x_int 0 (x_put 12 0 q_oki (x_nw (x_aload 0 (x_iload 1 (x_call (some 12) 2 sp_X12_hand (x_nw (x_if_eq (b_X12_teams_21 J Q) (x_aload 0 (x_get 12 25 (x_int 2 (x_icmp_ge (x_int 1 (x_aload 0 (x_get 12 25 (x_ishl (x_int 1 (x_isub (x_istore 3 (x_int (-1) (x_istore 4 (x_int 1000000 (x_istore 5 (x_int 1 (x_istore 6 (x_cut [0, 2, 3, 4, 5, 6] (J 43))))))))))))))) (b_X12_teams_21 J Q)))))))))))))
set_option maxRecDepth 100000 in
theorem s_X12_teams_0 {p : Program} {l : Launch} {e : Env} {R : Room} {s : State} {m : MethodId} {args : Array Value} {below : List Frame} {meth : Method} {c : Code} {nW : Nat} {dC : Nat → ClassId} {dI : Nat → Nat → Nat} {k : Nat → ClassId} {g : Nat → Nat} {A : Nat → Prop} {J : Nat → List qV → List qV → qW → Prop} {Q : qR} (X : q_X p R s m args meth c cX12_teams 9 nW 3 65 RX12 (some .int) dC dI k g A) (hJ : ∀ d : Nat, q_Sd p l e R s m args below meth c 9 nW dC dI k g A (MQ below (q_post (dC, dI) k g nW Q A) args s 0 0 A) d (x_cut (is_X12_teams d) (J d))) : q_Sd p l e R s m args below meth c 9 nW dC dI k g A (MQ below (q_post (dC, dI) k g nW Q A) args s 0 0 A) 0 (b_X12_teams_0 J Q) := by
  unfold b_X12_teams_0
  refine s_aload_n X rfl dX12_teams_0 ?_
  refine s_iconst X ⟨by decide, by decide⟩ dX12_teams_1 ?_
  refine s_put X (T := TX12) (C := RX12) (N := 45) tu_X12 tyX12_ok nmX12 rfl (by decide) tw_997 rfl (by decide +kernel) q_oki_t dX12_teams_2 ?_
  refine s_nw ?_
  refine s_aload_n X rfl dX12_teams_5 ?_
  refine s_iload_n X rfl dX12_teams_6 ?_
  refine s_callV X (m_X12_hand l) tw_1186 tw_1187 tw_1585 tw_134 tw_1188 rfl (by decide +kernel) ⟨by decide, by decide⟩ dX12_teams_7 ?_
  refine s_nw ?_
  refine s_if_eq X (tgt := 21) dX12_teams_10 (by decide) ?_ ?_
  · exact s_X12_teams_21 X hJ
  · refine s_aload_n X rfl dX12_teams_13 ?_
    refine s_get X (T := TX12) (C := RX12) (N := 45) tu_X12 rfl (by decide) tw_1022 dX12_teams_14 ?_
    refine s_iconst X ⟨by decide, by decide⟩ dX12_teams_17 ?_
    refine s_icmp_ge X (tgt := 23) dX12_teams_18 (by decide) ?_ ?_
    · refine s_iconst X ⟨by decide, by decide⟩ dX12_teams_23 ?_
      refine s_aload_n X rfl dX12_teams_24 ?_
      refine s_get X (T := TX12) (C := RX12) (N := 45) tu_X12 rfl (by decide) tw_1022 dX12_teams_25 ?_
      refine s_ishl X dX12_teams_28 ?_
      refine s_iconst X ⟨by decide, by decide⟩ dX12_teams_29 ?_
      refine s_isub X dX12_teams_30 ?_
      refine s_istore_n X rfl (by decide) dX12_teams_31 ?_
      refine s_iconst X ⟨by decide, by decide⟩ dX12_teams_32 ?_
      refine s_istore X (by decide) dX12_teams_33 ?_
      refine s_ldcw X ⟨by decide, by decide⟩ tw_1271 dX12_teams_35 ?_
      refine s_istore X (by decide) dX12_teams_38 ?_
      refine s_iconst X ⟨by decide, by decide⟩ dX12_teams_40 ?_
      refine s_istore X (by decide) dX12_teams_41 ?_
      exact hJ 43
    · exact s_X12_teams_21 X hJ

def sp_X12_teams : qS := fun av w Q => ∃ (mco : Int) (mre : Int) (mle : Int) (mbe : Int) (mso : Int) (mva : Int) (mwo : Int) (mwr : Int) (mlf : Int) (mlp : Int) (mfp : Int) (mfd : Int) (mgo : Int) (mbo : Int) (mpe : Int) (mye : Int) (mpr : Int) (mld : Int) (msi : Int) (mse : Int) (mn : Nat → Int) (bs : Nat → Int) (a : Int) (b : Int), av = [q2 0, q1 a, q1 b] ∧ w = [.inr (12, [q1 mco, q2 3, q2 4, q2 5, q2 6, q2 1, q2 2, q2 7, q2 8, q2 9, q1 mre, q1 mle, q1 mbe, q1 mso, q1 mva, q3 mwo, q1 mwr, q1 mlf, q1 mlp, q2 10, q2 11, q1 mfp, q1 mfd, q1 mgo, q1 mbo, q1 mpe, q1 mye, q2 12, q1 mpr, q2 13, q2 14, q2 15, q2 16, q1 mld, q2 17, q1 msi, q2 18, q2 19, q2 20, q2 21, q2 22, q1 mse, q2 23, q2 24, q2 25]), .inl (0, 16, .inl mn), .inl (0, 600, .inl bs)] ∧ (q_rg 0 2 mn) ∧ (BI bs) ∧ (∀ (r : Int) (x_mco : Int) (x_mbo : Int) (x_mpe : Int), Q (some (q1 r)) ([.inr (12, [q1 x_mco, q2 3, q2 4, q2 5, q2 6, q2 1, q2 2, q2 7, q2 8, q2 9, q1 mre, q1 mle, q1 mbe, q1 mso, q1 mva, q3 mwo, q1 mwr, q1 mlf, q1 mlp, q2 10, q2 11, q1 mfp, q1 mfd, q1 mgo, q1 x_mbo, q1 x_mpe, q1 mye, q2 12, q1 mpr, q2 13, q2 14, q2 15, q2 16, q1 mld, q2 17, q1 msi, q2 18, q2 19, q2 20, q2 21, q2 22, q1 mse, q2 23, q2 24, q2 25]), .inl (0, 16, .inl mn), .inl (0, 600, .inl bs)]))
def I_X12_teams (mco : Int) (mre : Int) (mle : Int) (mbe : Int) (mso : Int) (mva : Int) (mwo : Int) (mwr : Int) (mlf : Int) (mlp : Int) (mfp : Int) (mfd : Int) (mgo : Int) (mbo : Int) (mpe : Int) (mye : Int) (mpr : Int) (mld : Int) (msi : Int) (mse : Int) (mn : Nat → Int) (bs : Nat → Int) (a : Int) (b : Int) : Nat → Nat → List qV → List qV → qW → Prop := fun dz mz vz sz wz => if dz = 43 then (∃ (y_mco : Int) (y_mbo : Int) (y_mpe : Int) (v3 : Int) (v4 : Int) (v5 : Int) (v6 : Int), vz = [q2 0, q1 b, q1 v3, q1 v4, q1 v5, q1 v6] ∧ sz = [] ∧ wz = [.inr (12, [q1 y_mco, q2 3, q2 4, q2 5, q2 6, q2 1, q2 2, q2 7, q2 8, q2 9, q1 mre, q1 mle, q1 mbe, q1 mso, q1 mva, q3 mwo, q1 mwr, q1 mlf, q1 mlp, q2 10, q2 11, q1 mfp, q1 mfd, q1 mgo, q1 y_mbo, q1 y_mpe, q1 mye, q2 12, q1 mpr, q2 13, q2 14, q2 15, q2 16, q1 mld, q2 17, q1 msi, q2 18, q2 19, q2 20, q2 21, q2 22, q1 mse, q2 23, q2 24, q2 25]), .inl (0, 16, .inl mn), .inl (0, 600, .inl bs)] ∧ mz = 1000 + (300 - v6).toNat ∧ (0 ≤ y_mbo ∧ y_mbo ≤ 1 ∧ 0 ≤ y_mpe ∧ y_mpe ≤ 8) ∧ (1 ≤ v6 ∧ v6 ≤ 257 ∧ 0 ≤ v3 ∧ v3 ≤ 255)) else if dz = 117 then (∃ (y_mco : Int) (y_mbo : Int) (y_mpe : Int) (s0 : Int) (v3 : Int) (v4 : Int) (v5 : Int) (v6 : Int) (v7 : Int), vz = [q2 0, q1 b, q1 v3, q1 v4, q1 v5, q1 v6, q1 v7] ∧ sz = [q1 s0] ∧ wz = [.inr (12, [q1 y_mco, q2 3, q2 4, q2 5, q2 6, q2 1, q2 2, q2 7, q2 8, q2 9, q1 mre, q1 mle, q1 mbe, q1 mso, q1 mva, q3 mwo, q1 mwr, q1 mlf, q1 mlp, q2 10, q2 11, q1 mfp, q1 mfd, q1 mgo, q1 y_mbo, q1 y_mpe, q1 mye, q2 12, q1 mpr, q2 13, q2 14, q2 15, q2 16, q1 mld, q2 17, q1 msi, q2 18, q2 19, q2 20, q2 21, q2 22, q1 mse, q2 23, q2 24, q2 25]), .inl (0, 16, .inl mn), .inl (0, 600, .inl bs)] ∧ mz = 1000 + (300 - v6).toNat - 1 ∧ (0 ≤ y_mbo ∧ y_mbo ≤ 1 ∧ 0 ≤ y_mpe ∧ y_mpe ≤ 8) ∧ (1 ≤ v6 ∧ v6 ≤ 255 ∧ 0 ≤ v3 ∧ v3 ≤ 255)) else False
set_option maxHeartbeats 4000000 in
set_option maxRecDepth 100000 in
theorem m_X12_teams (l : Launch) : q_M l yX12_teams cX12_teams 9 (some .int) 3 65 sp_X12_teams := by
  refine q_meth (by decide) (fun av w Q h => by obtain ⟨mco, mre, mle, mbe, mso, mva, mwo, mwr, mlf, mlp, mfp, mfd, mgo, mbo, mpe, mye, mpr, mld, msi, mse, mn, bs, a, b, rfl, rfl, hmn, hbi, hQ⟩ := h; exact Nat.le_of_ble_eq_true rfl) ?_
  intro p e R s m args below meth c dC dI k g A av w Q hsp oka okw X
  obtain ⟨mco, mre, mle, mbe, mso, mva, mwo, mwr, mlf, mlp, mfp, mfd, mgo, mbo, mpe, mye, mpr, mld, msi, mse, mn, bs, a, b, rfl, rfl, hmn, hbi, hQ⟩ := hsp
  have o_a : -2147483648 ≤ a ∧ a ≤ 2147483647 := oka _ (List.mem_of_getElem? (i := 1) rfl)
  have o_b : -2147483648 ≤ b ∧ b ≤ 2147483647 := oka _ (List.mem_of_getElem? (i := 2) rfl)
  refine s_mono (s_X12_teams_0 X (J := fun dz vz sz wz => ∃ mz, I_X12_teams mco mre mle mbe mso mva mwo mwr mlf mlp mfp mfd mgo mbo mpe mye mpr mld msi mse mn bs a b dz mz vz sz wz) (q_loopn (I_X12_teams mco mre mle mbe mso mva mwo mwr mlf mlp mfp mfd mgo mbo mpe mye mpr mld msi mse mn bs a b) (fun dz J => if dz = 43 then b_X12_teams_43 J Q else if dz = 117 then b_X12_teams_117 J Q else q_F) ?hs ?hv)) ?_
  case hs =>
    intro d J hJ
    by_cases h43 : d = 43
    · subst h43; exact s_X12_teams_43 X hJ
    by_cases h117 : d = 117
    · subst h117; exact s_X12_teams_117 X hJ
    simp only [h43, h117, if_false]
    exact s_F
  case hv =>
    intro dz mz vz sz wz hI okv oks okw hlen
    by_cases h43 : dz = 43
    · subst h43
      obtain ⟨y_mco, y_mbo, y_mpe, v3, v4, v5, v6, rfl, rfl, rfl, hn, hyb, hp⟩ := hI
      apply And.intro
      · intro h46
        apply And.intro
        · intro h154
          exact hQ _ _ _ _
        · intro h154
          exact hQ _ _ _ _
      · intro h46
        refine Exists.intro [0, 2, 3, 4, 5, 6, 1, 7, 8, 9, 10, 11, 12, 13, 14, 15, 16, 17, 18, 19, 20, 21, 22, 23, 24, 25] (Exists.intro [q2 0, q1 _] (Exists.intro ([.inr (12, [q1 _, q2 2, q2 3, q2 4, q2 5, q2 6, q2 1, q2 7, q2 8, q2 9, q1 _, q1 _, q1 _, q1 _, q1 _, q3 _, q1 _, q1 _, q1 _, q2 10, q2 11, q1 _, q1 _, q1 _, q1 _, q1 _, q1 _, q2 12, q1 _, q2 13, q2 14, q2 15, q2 16, q1 _, q2 17, q1 _, q2 18, q2 19, q2 20, q2 21, q2 22, q1 _, q2 23, q2 24, q2 25]), .inl (0, 600, .inl _)]) (And.intro rfl (And.intro rfl (And.intro rfl (And.intro ⟨⟨_, rfl⟩, rfl⟩ ?_))))))
        refine Exists.intro _ (Exists.intro _ (Exists.intro _ (Exists.intro _ (Exists.intro _ (Exists.intro _ (Exists.intro _ (Exists.intro _ (Exists.intro _ (Exists.intro _ (Exists.intro _ (Exists.intro _ (Exists.intro _ (Exists.intro _ (Exists.intro _ (Exists.intro _ (Exists.intro _ (Exists.intro _ (Exists.intro _ (Exists.intro _ (Exists.intro _ (Exists.intro _ (And.intro rfl (And.intro rfl (And.intro (by first | omega | assumption | exact q_rg_up (by assumption) (by omega) | exact q_rg_up (q_rg_up (by assumption) (by omega)) (by omega) | exact q_rg_cpy (by assumption) (by assumption)) (And.intro (by first | omega | assumption | exact q_rg_up (by assumption) (by omega) | exact q_rg_up (q_rg_up (by assumption) (by omega)) (by omega) | exact q_rg_cpy (by assumption) (by assumption)) (And.intro (by first | omega | assumption | exact q_rg_up (by assumption) (by omega) | exact q_rg_up (q_rg_up (by assumption) (by omega)) (by omega) | exact q_rg_cpy (by assumption) (by assumption)) (?_)))))))))))))))))))))))))))
        intro z53
        intro z56 h56
        first | replace h56 := e_mul h56 (by omega) | replace h56 := e_rng h56
        refine Exists.intro [0, 2, 3, 4, 5, 6, 1, 7, 8, 9, 10, 11, 12, 13, 14, 15, 16, 17, 18, 19, 20, 21, 22, 23, 24, 25] (Exists.intro [q2 0, q1 _] (Exists.intro ([.inr (12, [q1 _, q2 2, q2 3, q2 4, q2 5, q2 6, q2 1, q2 7, q2 8, q2 9, q1 _, q1 _, q1 _, q1 _, q1 _, q3 _, q1 _, q1 _, q1 _, q2 10, q2 11, q1 _, q1 _, q1 _, q1 _, q1 _, q1 _, q2 12, q1 _, q2 13, q2 14, q2 15, q2 16, q1 _, q2 17, q1 _, q2 18, q2 19, q2 20, q2 21, q2 22, q1 _, q2 23, q2 24, q2 25]), .inl (0, 600, .inl _)]) (And.intro rfl (And.intro rfl (And.intro rfl (And.intro ⟨⟨_, rfl⟩, rfl⟩ ?_))))))
        refine Exists.intro _ (Exists.intro _ (Exists.intro _ (Exists.intro _ (Exists.intro _ (Exists.intro _ (Exists.intro _ (Exists.intro _ (Exists.intro _ (Exists.intro _ (Exists.intro _ (Exists.intro _ (Exists.intro _ (Exists.intro _ (Exists.intro _ (Exists.intro _ (Exists.intro _ (Exists.intro _ (Exists.intro _ (Exists.intro _ (Exists.intro _ (Exists.intro _ (And.intro rfl (And.intro rfl (And.intro (by first | omega | assumption | exact q_rg_up (by assumption) (by omega) | exact q_rg_up (q_rg_up (by assumption) (by omega)) (by omega) | exact q_rg_cpy (by assumption) (by assumption)) (And.intro (by first | omega | assumption | exact q_rg_up (by assumption) (by omega) | exact q_rg_up (q_rg_up (by assumption) (by omega)) (by omega) | exact q_rg_cpy (by assumption) (by assumption)) (And.intro (by first | omega | assumption | exact q_rg_up (by assumption) (by omega) | exact q_rg_up (q_rg_up (by assumption) (by omega)) (by omega) | exact q_rg_cpy (by assumption) (by assumption)) (?_)))))))))))))))))))))))))))
        intro z59
        intro z62 h62
        first | replace h62 := e_sub h62 (by omega) | replace h62 := e_rng h62
        apply And.intro
        · intro h67
          refine Exists.intro [] (Exists.intro [q1 _] (Exists.intro [] (And.intro rfl (And.intro rfl (And.intro rfl (And.intro trivial ?_))))))
          refine Exists.intro _ (And.intro rfl (And.intro rfl (?_)))
          intro z83 h83
          intro z86 h86
          first | replace h86 := e_mul h86 (by omega) | replace h86 := e_rng h86
          intro z92 h92
          first | replace h92 := e_sub h92 (by omega) | replace h92 := e_rng h92
          intro z98 h98
          first | replace h98 := e_add h98 (by omega) | replace h98 := e_rng h98
          refine Exists.intro [] (Exists.intro [q1 _, q1 _, q1 _] (Exists.intro [] (And.intro rfl (And.intro rfl (And.intro rfl (And.intro trivial ?_))))))
          refine Exists.intro _ (Exists.intro _ (Exists.intro _ (And.intro rfl (And.intro rfl (?_)))))
          intro z99 h99
          apply And.intro
          · intro h102
            first | replace h99 := dj1 h99 h102 | replace h99 := dj0 h99 h102
            exact ⟨_, ⟨_, _, _, _, _, _, _, _, _, rfl, rfl, rfl, rfl, (by first | omega | assumption | exact q_rg_up (by assumption) (by omega) | exact q_rg_up (q_rg_up (by assumption) (by omega)) (by omega) | exact q_rg_cpy (by assumption) (by assumption)), (by first | omega | assumption | exact q_rg_up (by assumption) (by omega) | exact q_rg_up (q_rg_up (by assumption) (by omega)) (by omega) | exact q_rg_cpy (by assumption) (by assumption))⟩, by omega⟩
          · intro h102
            first | replace h99 := dj1 h99 h102 | replace h99 := dj0 h99 h102
            apply And.intro
            · intro h109
              exact ⟨_, ⟨_, _, _, _, _, _, _, _, _, rfl, rfl, rfl, rfl, (by first | omega | assumption | exact q_rg_up (by assumption) (by omega) | exact q_rg_up (q_rg_up (by assumption) (by omega)) (by omega) | exact q_rg_cpy (by assumption) (by assumption)), (by first | omega | assumption | exact q_rg_up (by assumption) (by omega) | exact q_rg_up (q_rg_up (by assumption) (by omega)) (by omega) | exact q_rg_cpy (by assumption) (by assumption))⟩, by omega⟩
            · intro h109
              exact ⟨_, ⟨_, _, _, _, _, _, _, _, _, rfl, rfl, rfl, rfl, (by first | omega | assumption | exact q_rg_up (by assumption) (by omega) | exact q_rg_up (q_rg_up (by assumption) (by omega)) (by omega) | exact q_rg_cpy (by assumption) (by assumption)), (by first | omega | assumption | exact q_rg_up (by assumption) (by omega) | exact q_rg_up (q_rg_up (by assumption) (by omega)) (by omega) | exact q_rg_cpy (by assumption) (by assumption))⟩, by omega⟩
        · intro h67
          intro z72 h72
          first | replace h72 := e_neg h72 (by omega) | replace h72 := e_rng h72
          refine Exists.intro [] (Exists.intro [q1 _] (Exists.intro [] (And.intro rfl (And.intro rfl (And.intro rfl (And.intro trivial ?_))))))
          refine Exists.intro _ (And.intro rfl (And.intro rfl (?_)))
          intro z83 h83
          intro z86 h86
          first | replace h86 := e_mul h86 (by omega) | replace h86 := e_rng h86
          intro z92 h92
          first | replace h92 := e_sub h92 (by omega) | replace h92 := e_rng h92
          intro z98 h98
          first | replace h98 := e_add h98 (by omega) | replace h98 := e_rng h98
          refine Exists.intro [] (Exists.intro [q1 _, q1 _, q1 _] (Exists.intro [] (And.intro rfl (And.intro rfl (And.intro rfl (And.intro trivial ?_))))))
          refine Exists.intro _ (Exists.intro _ (Exists.intro _ (And.intro rfl (And.intro rfl (?_)))))
          intro z99 h99
          apply And.intro
          · intro h102
            first | replace h99 := dj1 h99 h102 | replace h99 := dj0 h99 h102
            exact ⟨_, ⟨_, _, _, _, _, _, _, _, _, rfl, rfl, rfl, rfl, (by first | omega | assumption | exact q_rg_up (by assumption) (by omega) | exact q_rg_up (q_rg_up (by assumption) (by omega)) (by omega) | exact q_rg_cpy (by assumption) (by assumption)), (by first | omega | assumption | exact q_rg_up (by assumption) (by omega) | exact q_rg_up (q_rg_up (by assumption) (by omega)) (by omega) | exact q_rg_cpy (by assumption) (by assumption))⟩, by omega⟩
          · intro h102
            first | replace h99 := dj1 h99 h102 | replace h99 := dj0 h99 h102
            apply And.intro
            · intro h109
              exact ⟨_, ⟨_, _, _, _, _, _, _, _, _, rfl, rfl, rfl, rfl, (by first | omega | assumption | exact q_rg_up (by assumption) (by omega) | exact q_rg_up (q_rg_up (by assumption) (by omega)) (by omega) | exact q_rg_cpy (by assumption) (by assumption)), (by first | omega | assumption | exact q_rg_up (by assumption) (by omega) | exact q_rg_up (q_rg_up (by assumption) (by omega)) (by omega) | exact q_rg_cpy (by assumption) (by assumption))⟩, by omega⟩
            · intro h109
              exact ⟨_, ⟨_, _, _, _, _, _, _, _, _, rfl, rfl, rfl, rfl, (by first | omega | assumption | exact q_rg_up (by assumption) (by omega) | exact q_rg_up (q_rg_up (by assumption) (by omega)) (by omega) | exact q_rg_cpy (by assumption) (by assumption)), (by first | omega | assumption | exact q_rg_up (by assumption) (by omega) | exact q_rg_up (q_rg_up (by assumption) (by omega)) (by omega) | exact q_rg_cpy (by assumption) (by assumption))⟩, by omega⟩
    by_cases h117 : dz = 117
    · subst h117
      obtain ⟨y_mco, y_mbo, y_mpe, s0, v3, v4, v5, v6, v7, rfl, rfl, rfl, hn, hyb, hp⟩ := hI
      apply And.intro
      · intro h121
        apply And.intro
        · intro h135
          intro z147 h147
          first | replace h147 := e_add h147 (by omega) | replace h147 := e_rng h147
          exact ⟨_, ⟨_, _, _, _, _, _, _, rfl, rfl, rfl, rfl, (by first | omega | assumption | exact q_rg_up (by assumption) (by omega) | exact q_rg_up (q_rg_up (by assumption) (by omega)) (by omega) | exact q_rg_cpy (by assumption) (by assumption)), (by first | omega | assumption | exact q_rg_up (by assumption) (by omega) | exact q_rg_up (q_rg_up (by assumption) (by omega)) (by omega) | exact q_rg_cpy (by assumption) (by assumption))⟩, by omega⟩
        · intro h135
          intro z147 h147
          first | replace h147 := e_add h147 (by omega) | replace h147 := e_rng h147
          exact ⟨_, ⟨_, _, _, _, _, _, _, rfl, rfl, rfl, rfl, (by first | omega | assumption | exact q_rg_up (by assumption) (by omega) | exact q_rg_up (q_rg_up (by assumption) (by omega)) (by omega) | exact q_rg_cpy (by assumption) (by assumption)), (by first | omega | assumption | exact q_rg_up (by assumption) (by omega) | exact q_rg_up (q_rg_up (by assumption) (by omega)) (by omega) | exact q_rg_cpy (by assumption) (by assumption))⟩, by omega⟩
      · intro h121
        apply And.intro
        · intro h135
          intro z147 h147
          first | replace h147 := e_add h147 (by omega) | replace h147 := e_rng h147
          exact ⟨_, ⟨_, _, _, _, _, _, _, rfl, rfl, rfl, rfl, (by first | omega | assumption | exact q_rg_up (by assumption) (by omega) | exact q_rg_up (q_rg_up (by assumption) (by omega)) (by omega) | exact q_rg_cpy (by assumption) (by assumption)), (by first | omega | assumption | exact q_rg_up (by assumption) (by omega) | exact q_rg_up (q_rg_up (by assumption) (by omega)) (by omega) | exact q_rg_cpy (by assumption) (by assumption))⟩, by omega⟩
        · intro h135
          intro z147 h147
          first | replace h147 := e_add h147 (by omega) | replace h147 := e_rng h147
          exact ⟨_, ⟨_, _, _, _, _, _, _, rfl, rfl, rfl, rfl, (by first | omega | assumption | exact q_rg_up (by assumption) (by omega) | exact q_rg_up (q_rg_up (by assumption) (by omega)) (by omega) | exact q_rg_cpy (by assumption) (by assumption)), (by first | omega | assumption | exact q_rg_up (by assumption) (by omega) | exact q_rg_up (q_rg_up (by assumption) (by omega)) (by omega) | exact q_rg_cpy (by assumption) (by assumption))⟩, by omega⟩
    simp only [I_X12_teams, h43, h117, if_false] at hI
  rintro lv st w' ⟨rfl, rfl, rfl⟩
  apply And.intro
  · exact trivial
  refine Exists.intro [0, 1, 2, 3, 4, 5, 6, 7, 8, 9, 10, 11, 12, 13, 14, 15, 16, 17, 18, 19, 20, 21, 22, 23, 24, 25] (Exists.intro [q2 0, q1 _] (Exists.intro ([.inr (12, [q1 _, q2 3, q2 4, q2 5, q2 6, q2 1, q2 2, q2 7, q2 8, q2 9, q1 _, q1 _, q1 _, q1 _, q1 _, q3 _, q1 _, q1 _, q1 _, q2 10, q2 11, q1 _, q1 _, q1 _, q1 _, q1 _, q1 _, q2 12, q1 _, q2 13, q2 14, q2 15, q2 16, q1 _, q2 17, q1 _, q2 18, q2 19, q2 20, q2 21, q2 22, q1 _, q2 23, q2 24, q2 25]), .inl (0, 16, .inl _), .inl (0, 600, .inl _)]) (And.intro rfl (And.intro rfl (And.intro rfl (And.intro ⟨⟨_, rfl⟩, rfl⟩ ?_))))))
  refine Exists.intro _ (Exists.intro _ (Exists.intro _ (Exists.intro _ (Exists.intro _ (Exists.intro _ (Exists.intro _ (Exists.intro _ (Exists.intro _ (Exists.intro _ (Exists.intro _ (Exists.intro _ (Exists.intro _ (Exists.intro _ (Exists.intro _ (Exists.intro _ (Exists.intro _ (Exists.intro _ (Exists.intro _ (Exists.intro _ (Exists.intro _ (Exists.intro _ (Exists.intro _ (And.intro rfl (And.intro rfl (And.intro (by first | omega | assumption | exact q_rg_up (by assumption) (by omega) | exact q_rg_up (q_rg_up (by assumption) (by omega)) (by omega) | exact q_rg_cpy (by assumption) (by assumption)) (And.intro (by first | omega | assumption | exact q_rg_up (by assumption) (by omega) | exact q_rg_up (q_rg_up (by assumption) (by omega)) (by omega) | exact q_rg_cpy (by assumption) (by assumption)) (?_)))))))))))))))))))))))))))
  intro z7 x_mbo_7 x_mpe_7 h7
  apply And.intro
  · intro h10
    first | replace h7 := dj1 h7 h10 | replace h7 := dj0 h7 h10
    exact hQ _ _ _ _
  · intro h10
    first | replace h7 := dj1 h7 h10 | replace h7 := dj0 h7 h10
    apply And.intro
    · intro h18
      intro z28 h28
      first | replace h28 := e_shl h28 (by omega) | replace h28 := e_rng h28
      intro z30 h30
      first | replace h30 := e_sub h30 (by omega) | replace h30 := e_rng h30
      exact ⟨_, _, _, _, _, _, _, _, rfl, rfl, rfl, rfl, (by first | omega | assumption | exact q_rg_up (by assumption) (by omega) | exact q_rg_up (q_rg_up (by assumption) (by omega)) (by omega) | exact q_rg_cpy (by assumption) (by assumption)), (by first | omega | assumption | exact q_rg_up (by assumption) (by omega) | exact q_rg_up (q_rg_up (by assumption) (by omega)) (by omega) | exact q_rg_cpy (by assumption) (by assumption))⟩
    · intro h18
      exact hQ _ _ _ _

theorem dX12_upTo_0 : decode cX12_upTo 0 = .ok (.iconst 0, 1) := by decide +kernel
theorem dX12_upTo_1 : decode cX12_upTo 1 = .ok (.istore_n 3, 1) := by decide +kernel
theorem dX12_upTo_2 : decode cX12_upTo 2 = .ok (.iconst 0, 1) := by decide +kernel
theorem dX12_upTo_3 : decode cX12_upTo 3 = .ok (.istore 4, 2) := by decide +kernel
theorem dX12_upTo_5 : decode cX12_upTo 5 = .ok (.iload 4, 2) := by decide +kernel
theorem dX12_upTo_7 : decode cX12_upTo 7 = .ok (.aload_n 0, 1) := by decide +kernel
theorem dX12_upTo_8 : decode cX12_upTo 8 = .ok (.getfield 303, 3) := by decide +kernel
theorem dX12_upTo_11 : decode cX12_upTo 11 = .ok (.if_icmp .ge 46, 3) := by decide +kernel
theorem dX12_upTo_14 : decode cX12_upTo 14 = .ok (.iload_n 3, 1) := by decide +kernel
theorem dX12_upTo_15 : decode cX12_upTo 15 = .ok (.aload_n 0, 1) := by decide +kernel
theorem dX12_upTo_16 : decode cX12_upTo 16 = .ok (.iconst 5, 1) := by decide +kernel
theorem dX12_upTo_17 : decode cX12_upTo 17 = .ok (.iload 4, 2) := by decide +kernel
theorem dX12_upTo_19 : decode cX12_upTo 19 = .ok (.iadd, 1) := by decide +kernel
theorem dX12_upTo_20 : decode cX12_upTo 20 = .ok (.invokevirtual 299, 3) := by decide +kernel
theorem dX12_upTo_23 : decode cX12_upTo 23 = .ok (.iload_n 1, 1) := by decide +kernel
theorem dX12_upTo_24 : decode cX12_upTo 24 = .ok (.if_icmp .gt 24, 3) := by decide +kernel
theorem dX12_upTo_27 : decode cX12_upTo 27 = .ok (.iload_n 2, 1) := by decide +kernel
theorem dX12_upTo_28 : decode cX12_upTo 28 = .ok (.ifCond .eq 16, 3) := by decide +kernel
theorem dX12_upTo_31 : decode cX12_upTo 31 = .ok (.aload_n 0, 1) := by decide +kernel
theorem dX12_upTo_32 : decode cX12_upTo 32 = .ok (.iconst 1, 1) := by decide +kernel
theorem dX12_upTo_33 : decode cX12_upTo 33 = .ok (.invokevirtual 299, 3) := by decide +kernel
theorem dX12_upTo_36 : decode cX12_upTo 36 = .ok (.iload 4, 2) := by decide +kernel
theorem dX12_upTo_38 : decode cX12_upTo 38 = .ok (.invokestatic 92, 3) := by decide +kernel
theorem dX12_upTo_41 : decode cX12_upTo 41 = .ok (.ifCond .eq 7, 3) := by decide +kernel
theorem dX12_upTo_44 : decode cX12_upTo 44 = .ok (.iconst 1, 1) := by decide +kernel
theorem dX12_upTo_45 : decode cX12_upTo 45 = .ok (.goto 4, 3) := by decide +kernel
theorem dX12_upTo_48 : decode cX12_upTo 48 = .ok (.iconst 0, 1) := by decide +kernel
theorem dX12_upTo_49 : decode cX12_upTo 49 = .ok (.iadd, 1) := by decide +kernel
theorem dX12_upTo_50 : decode cX12_upTo 50 = .ok (.istore_n 3, 1) := by decide +kernel
theorem dX12_upTo_51 : decode cX12_upTo 51 = .ok (.iinc 4 1, 3) := by decide +kernel
theorem dX12_upTo_54 : decode cX12_upTo 54 = .ok (.goto (-49), 3) := by decide +kernel
theorem dX12_upTo_57 : decode cX12_upTo 57 = .ok (.iload_n 3, 1) := by decide +kernel
theorem dX12_upTo_58 : decode cX12_upTo 58 = .ok (.ireturn, 1) := by decide +kernel
def is_X12_upTo : Nat → List Nat := fun d => if d = 5 then [0, 1, 2, 3, 4] else []
set_option maxRecDepth 100000 in
def b_X12_upTo_49 (J : Nat → List qV → List qV → qW → Prop) (Q : qR) : qK := x_iadd (x_istore 3 (x_iinc 4 1 (x_cut [0, 1, 2, 3, 4] (J 5))))
set_option maxRecDepth 100000 in
theorem s_X12_upTo_49 {p : Program} {l : Launch} {e : Env} {R : Room} {s : State} {m : MethodId} {args : Array Value} {below : List Frame} {meth : Method} {c : Code} {nW : Nat} {dC : Nat → ClassId} {dI : Nat → Nat → Nat} {k : Nat → ClassId} {g : Nat → Nat} {A : Nat → Prop} {J : Nat → List qV → List qV → qW → Prop} {Q : qR} (X : q_X p R s m args meth c cX12_upTo 5 nW 1 21 RX12 (some .int) dC dI k g A) (hJ : ∀ d : Nat, q_Sd p l e R s m args below meth c 5 nW dC dI k g A (MQ below (q_post (dC, dI) k g nW Q A) args s 0 0 A) d (x_cut (is_X12_upTo d) (J d))) : q_Sd p l e R s m args below meth c 5 nW dC dI k g A (MQ below (q_post (dC, dI) k g nW Q A) args s 0 0 A) 49 (b_X12_upTo_49 J Q) := by
  unfold b_X12_upTo_49
  refine s_iadd X dX12_upTo_49 ?_
  refine s_istore_n X rfl (by decide) dX12_upTo_50 ?_
  refine s_iinc X (by decide) dX12_upTo_51 ?_
  refine s_goto X (tgt := 5) dX12_upTo_54 (by decide) ?_
  exact hJ 5
set_option maxRecDepth 100000 in
def b_X12_upTo_48 (J : Nat → List qV → List qV → qW → Prop) (Q : qR) : qK := x_int 0 (b_X12_upTo_49 J Q)
set_option maxRecDepth 100000 in
theorem s_X12_upTo_48 {p : Program} {l : Launch} {e : Env} {R : Room} {s : State} {m : MethodId} {args : Array Value} {below : List Frame} {meth : Method} {c : Code} {nW : Nat} {dC : Nat → ClassId} {dI : Nat → Nat → Nat} {k : Nat → ClassId} {g : Nat → Nat} {A : Nat → Prop} {J : Nat → List qV → List qV → qW → Prop} {Q : qR} (X : q_X p R s m args meth c cX12_upTo 5 nW 1 21 RX12 (some .int) dC dI k g A) (hJ : ∀ d : Nat, q_Sd p l e R s m args below meth c 5 nW dC dI k g A (MQ below (q_post (dC, dI) k g nW Q A) args s 0 0 A) d (x_cut (is_X12_upTo d) (J d))) : q_Sd p l e R s m args below meth c 5 nW dC dI k g A (MQ below (q_post (dC, dI) k g nW Q A) args s 0 0 A) 48 (b_X12_upTo_48 J Q) := by
  unfold b_X12_upTo_48
  refine s_iconst X ⟨by decide, by decide⟩ dX12_upTo_48 ?_
  exact s_X12_upTo_49 X hJ
set_option maxRecDepth 100000 in
def b_X12_upTo_44 (J : Nat → List qV → List qV → qW → Prop) (Q : qR) : qK := x_int 1 (b_X12_upTo_49 J Q)
set_option maxRecDepth 100000 in
theorem s_X12_upTo_44 {p : Program} {l : Launch} {e : Env} {R : Room} {s : State} {m : MethodId} {args : Array Value} {below : List Frame} {meth : Method} {c : Code} {nW : Nat} {dC : Nat → ClassId} {dI : Nat → Nat → Nat} {k : Nat → ClassId} {g : Nat → Nat} {A : Nat → Prop} {J : Nat → List qV → List qV → qW → Prop} {Q : qR} (X : q_X p R s m args meth c cX12_upTo 5 nW 1 21 RX12 (some .int) dC dI k g A) (hJ : ∀ d : Nat, q_Sd p l e R s m args below meth c 5 nW dC dI k g A (MQ below (q_post (dC, dI) k g nW Q A) args s 0 0 A) d (x_cut (is_X12_upTo d) (J d))) : q_Sd p l e R s m args below meth c 5 nW dC dI k g A (MQ below (q_post (dC, dI) k g nW Q A) args s 0 0 A) 44 (b_X12_upTo_44 J Q) := by
  unfold b_X12_upTo_44
  refine s_iconst X ⟨by decide, by decide⟩ dX12_upTo_44 ?_
  refine s_goto X (tgt := 49) dX12_upTo_45 (by decide) ?_
  exact s_X12_upTo_49 X hJ
set_option maxRecDepth 100000 in
def b_X12_upTo_5 (J : Nat → List qV → List qV → qW → Prop) (Q : qR) : qK := x_iload 4 (x_aload 0 (x_get 12 25 (x_icmp_ge (x_iload 3 (x_iret Q)) (x_iload 3 (x_aload 0 (x_int 5 (x_iload 4 (x_iadd (x_callr (some 12) 2 spr_X12_of (x_iload 1 (x_icmp_gt (b_X12_upTo_48 J Q) (x_iload 2 (x_if_eq (b_X12_upTo_44 J Q) (x_aload 0 (x_int 1 (x_callr (some 12) 2 spr_X12_of (x_iload 4 (x_callr none 2 spr_X12_has (x_if_eq (b_X12_upTo_48 J Q) (b_X12_upTo_44 J Q))))))))))))))))))))
set_option maxRecDepth 100000 in
theorem s_X12_upTo_5 {p : Program} {l : Launch} {e : Env} {R : Room} {s : State} {m : MethodId} {args : Array Value} {below : List Frame} {meth : Method} {c : Code} {nW : Nat} {dC : Nat → ClassId} {dI : Nat → Nat → Nat} {k : Nat → ClassId} {g : Nat → Nat} {A : Nat → Prop} {J : Nat → List qV → List qV → qW → Prop} {Q : qR} (X : q_X p R s m args meth c cX12_upTo 5 nW 1 21 RX12 (some .int) dC dI k g A) (hJ : ∀ d : Nat, q_Sd p l e R s m args below meth c 5 nW dC dI k g A (MQ below (q_post (dC, dI) k g nW Q A) args s 0 0 A) d (x_cut (is_X12_upTo d) (J d))) : q_Sd p l e R s m args below meth c 5 nW dC dI k g A (MQ below (q_post (dC, dI) k g nW Q A) args s 0 0 A) 5 (b_X12_upTo_5 J Q) := by
  unfold b_X12_upTo_5
  refine s_iload X dX12_upTo_5 ?_
  refine s_aload_n X rfl dX12_upTo_7 ?_
  refine s_get X (T := TX12) (C := RX12) (N := 45) tu_X12 rfl (by decide) tw_1022 dX12_upTo_8 ?_
  refine s_icmp_ge X (tgt := 57) dX12_upTo_11 (by decide) ?_ ?_
  · refine s_iload_n X rfl dX12_upTo_57 ?_
    exact s_iret X dX12_upTo_58
  · refine s_iload_n X rfl dX12_upTo_14 ?_
    refine s_aload_n X rfl dX12_upTo_15 ?_
    refine s_iconst X ⟨by decide, by decide⟩ dX12_upTo_16 ?_
    refine s_iload X dX12_upTo_17 ?_
    refine s_iadd X dX12_upTo_19 ?_
    refine s_callVr X (m_X12_of l) tw_1189 tw_1190 tw_1603 tw_134 tw_1191 rfl (by decide +kernel) ⟨by decide, by decide⟩ dX12_upTo_20 ?_
    refine s_iload_n X rfl dX12_upTo_23 ?_
    refine s_icmp_gt X (tgt := 48) dX12_upTo_24 (by decide) ?_ ?_
    · exact s_X12_upTo_48 X hJ
    · refine s_iload_n X rfl dX12_upTo_27 ?_
      refine s_if_eq X (tgt := 44) dX12_upTo_28 (by decide) ?_ ?_
      · exact s_X12_upTo_44 X hJ
      · refine s_aload_n X rfl dX12_upTo_31 ?_
        refine s_iconst X ⟨by decide, by decide⟩ dX12_upTo_32 ?_
        refine s_callVr X (m_X12_of l) tw_1189 tw_1190 tw_1603 tw_134 tw_1191 rfl (by decide +kernel) ⟨by decide, by decide⟩ dX12_upTo_33 ?_
        refine s_iload X dX12_upTo_36 ?_
        refine s_callSr X (m_X12_has l) tw_1233 tw_1234 tw_134 tw_1235 (by decide +kernel) ⟨by decide, by decide⟩ dX12_upTo_38 ?_
        refine s_if_eq X (tgt := 48) dX12_upTo_41 (by decide) ?_ ?_
        · exact s_X12_upTo_48 X hJ
        · exact s_X12_upTo_44 X hJ
set_option maxRecDepth 100000 in
def b_X12_upTo_0 (J : Nat → List qV → List qV → qW → Prop) (Q : qR) : qK := x_int 0 (x_istore 3 (x_int 0 (x_istore 4 (x_cut [0, 1, 2, 3, 4] (J 5)))))
set_option maxRecDepth 100000 in
theorem s_X12_upTo_0 {p : Program} {l : Launch} {e : Env} {R : Room} {s : State} {m : MethodId} {args : Array Value} {below : List Frame} {meth : Method} {c : Code} {nW : Nat} {dC : Nat → ClassId} {dI : Nat → Nat → Nat} {k : Nat → ClassId} {g : Nat → Nat} {A : Nat → Prop} {J : Nat → List qV → List qV → qW → Prop} {Q : qR} (X : q_X p R s m args meth c cX12_upTo 5 nW 1 21 RX12 (some .int) dC dI k g A) (hJ : ∀ d : Nat, q_Sd p l e R s m args below meth c 5 nW dC dI k g A (MQ below (q_post (dC, dI) k g nW Q A) args s 0 0 A) d (x_cut (is_X12_upTo d) (J d))) : q_Sd p l e R s m args below meth c 5 nW dC dI k g A (MQ below (q_post (dC, dI) k g nW Q A) args s 0 0 A) 0 (b_X12_upTo_0 J Q) := by
  unfold b_X12_upTo_0
  refine s_iconst X ⟨by decide, by decide⟩ dX12_upTo_0 ?_
  refine s_istore_n X rfl (by decide) dX12_upTo_1 ?_
  refine s_iconst X ⟨by decide, by decide⟩ dX12_upTo_2 ?_
  refine s_istore X (by decide) dX12_upTo_3 ?_
  exact hJ 5

def spr_X12_upTo : List qV → qW → (Option qV → Prop) → Prop := fun av w Q => ∃ (mco : Int) (mre : Int) (mle : Int) (mbe : Int) (mso : Int) (mva : Int) (mwo : Int) (mwr : Int) (mlf : Int) (mlp : Int) (mfp : Int) (mfd : Int) (mgo : Int) (mbo : Int) (mpe : Int) (mye : Int) (mpr : Int) (mld : Int) (msi : Int) (mse : Int) (bs : Nat → Int) (a : Int) (b : Int), av = [q2 0, q1 a, q1 b] ∧ w = [.inr (12, [q1 mco, q2 2, q2 3, q2 4, q2 5, q2 6, q2 1, q2 7, q2 8, q2 9, q1 mre, q1 mle, q1 mbe, q1 mso, q1 mva, q3 mwo, q1 mwr, q1 mlf, q1 mlp, q2 10, q2 11, q1 mfp, q1 mfd, q1 mgo, q1 mbo, q1 mpe, q1 mye, q2 12, q1 mpr, q2 13, q2 14, q2 15, q2 16, q1 mld, q2 17, q1 msi, q2 18, q2 19, q2 20, q2 21, q2 22, q1 mse, q2 23, q2 24, q2 25]), .inl (0, 600, .inl bs)] ∧ (0 ≤ mbo ∧ mbo ≤ 1) ∧ (0 ≤ mpe ∧ mpe ≤ 8) ∧ (BI bs) ∧ (∀ (r : Int) , (0 ≤ r ∧ r ≤ 8) → Q (some (q1 r)))
def sp_X12_upTo : qS := fun av w Q => spr_X12_upTo av w (fun r => Q r w)
def I_X12_upTo (mco : Int) (mre : Int) (mle : Int) (mbe : Int) (mso : Int) (mva : Int) (mwo : Int) (mwr : Int) (mlf : Int) (mlp : Int) (mfp : Int) (mfd : Int) (mgo : Int) (mbo : Int) (mpe : Int) (mye : Int) (mpr : Int) (mld : Int) (msi : Int) (mse : Int) (bs : Nat → Int) (a : Int) (b : Int) : Nat → Nat → List qV → List qV → qW → Prop := fun dz mz vz sz wz => if dz = 5 then (∃ (v3 : Int) (v4 : Int), vz = [q2 0, q1 a, q1 b, q1 v3, q1 v4] ∧ sz = [] ∧ wz = [.inr (12, [q1 mco, q2 2, q2 3, q2 4, q2 5, q2 6, q2 1, q2 7, q2 8, q2 9, q1 mre, q1 mle, q1 mbe, q1 mso, q1 mva, q3 mwo, q1 mwr, q1 mlf, q1 mlp, q2 10, q2 11, q1 mfp, q1 mfd, q1 mgo, q1 mbo, q1 mpe, q1 mye, q2 12, q1 mpr, q2 13, q2 14, q2 15, q2 16, q1 mld, q2 17, q1 msi, q2 18, q2 19, q2 20, q2 21, q2 22, q1 mse, q2 23, q2 24, q2 25]), .inl (0, 600, .inl bs)] ∧ mz = (mpe - v4).toNat ∧ (0 ≤ v4 ∧ v4 ≤ mpe) ∧ (0 ≤ v3 ∧ v3 ≤ v4)) else False
set_option maxHeartbeats 4000000 in
set_option maxRecDepth 100000 in
theorem m_X12_upTo (l : Launch) : q_M l yX12_upTo cX12_upTo 5 (some .int) 1 21 sp_X12_upTo := by
  refine q_meth (by decide) (fun av w Q h => by obtain ⟨mco, mre, mle, mbe, mso, mva, mwo, mwr, mlf, mlp, mfp, mfd, mgo, mbo, mpe, mye, mpr, mld, msi, mse, bs, a, b, rfl, rfl, hbo, hpe, hbi, hQ⟩ := h; exact Nat.le_of_ble_eq_true rfl) ?_
  intro p e R s m args below meth c dC dI k g A av w Q hsp oka okw X
  obtain ⟨mco, mre, mle, mbe, mso, mva, mwo, mwr, mlf, mlp, mfp, mfd, mgo, mbo, mpe, mye, mpr, mld, msi, mse, bs, a, b, rfl, rfl, hbo, hpe, hbi, hQ⟩ := hsp
  have o_a : -2147483648 ≤ a ∧ a ≤ 2147483647 := oka _ (List.mem_of_getElem? (i := 1) rfl)
  have o_b : -2147483648 ≤ b ∧ b ≤ 2147483647 := oka _ (List.mem_of_getElem? (i := 2) rfl)
  refine s_mono (s_X12_upTo_0 X (J := fun dz vz sz wz => ∃ mz, I_X12_upTo mco mre mle mbe mso mva mwo mwr mlf mlp mfp mfd mgo mbo mpe mye mpr mld msi mse bs a b dz mz vz sz wz) (q_loopn (I_X12_upTo mco mre mle mbe mso mva mwo mwr mlf mlp mfp mfd mgo mbo mpe mye mpr mld msi mse bs a b) (fun dz J => if dz = 5 then b_X12_upTo_5 J Q else q_F) ?hs ?hv)) ?_
  case hs =>
    intro d J hJ
    by_cases h5 : d = 5
    · subst h5; exact s_X12_upTo_5 X hJ
    simp only [h5, if_false]
    exact s_F
  case hv =>
    intro dz mz vz sz wz hI okv oks okw hlen
    by_cases h5 : dz = 5
    · subst h5
      obtain ⟨v3, v4, rfl, rfl, rfl, hn, hp, hn1⟩ := hI
      apply And.intro
      · intro h11
        exact hQ _ (by first | omega | assumption | exact q_rg_up (by assumption) (by omega) | exact q_rg_up (q_rg_up (by assumption) (by omega)) (by omega) | exact q_rg_cpy (by assumption) (by assumption))
      · intro h11
        intro z19 h19
        first | replace h19 := e_add h19 (by omega) | replace h19 := e_rng h19
        refine Exists.intro [0, 1, 2, 3, 4, 5, 6, 7, 8, 9, 10, 11, 12, 13, 14, 15, 16, 17, 18, 19, 20, 21, 22, 23, 24, 25] (Exists.intro [q2 0, q1 _] (Exists.intro ([.inr (12, [q1 _, q2 2, q2 3, q2 4, q2 5, q2 6, q2 1, q2 7, q2 8, q2 9, q1 _, q1 _, q1 _, q1 _, q1 _, q3 _, q1 _, q1 _, q1 _, q2 10, q2 11, q1 _, q1 _, q1 _, q1 _, q1 _, q1 _, q2 12, q1 _, q2 13, q2 14, q2 15, q2 16, q1 _, q2 17, q1 _, q2 18, q2 19, q2 20, q2 21, q2 22, q1 _, q2 23, q2 24, q2 25]), .inl (0, 600, .inl _)]) (And.intro rfl (And.intro rfl (And.intro rfl (And.intro ⟨⟨_, rfl⟩, rfl⟩ ?_))))))
        refine Exists.intro _ (Exists.intro _ (Exists.intro _ (Exists.intro _ (Exists.intro _ (Exists.intro _ (Exists.intro _ (Exists.intro _ (Exists.intro _ (Exists.intro _ (Exists.intro _ (Exists.intro _ (Exists.intro _ (Exists.intro _ (Exists.intro _ (Exists.intro _ (Exists.intro _ (Exists.intro _ (Exists.intro _ (Exists.intro _ (Exists.intro _ (Exists.intro _ (And.intro rfl (And.intro rfl (And.intro (by first | omega | assumption | exact q_rg_up (by assumption) (by omega) | exact q_rg_up (q_rg_up (by assumption) (by omega)) (by omega) | exact q_rg_cpy (by assumption) (by assumption)) (And.intro (by first | omega | assumption | exact q_rg_up (by assumption) (by omega) | exact q_rg_up (q_rg_up (by assumption) (by omega)) (by omega) | exact q_rg_cpy (by assumption) (by assumption)) (And.intro (by first | omega | assumption | exact q_rg_up (by assumption) (by omega) | exact q_rg_up (q_rg_up (by assumption) (by omega)) (by omega) | exact q_rg_cpy (by assumption) (by assumption)) (?_)))))))))))))))))))))))))))
        intro z20 h20
        obtain ⟨h20, k20⟩ := h20
        first | replace k20 := OFQ_13 k20 (by omega) | replace k20 := OFQ_21 k20 (by omega) | clear k20
        apply And.intro
        · intro h24
          intro z49 h49
          first | replace h49 := e_add h49 (by omega) | replace h49 := e_rng h49
          intro z51 h51
          first | replace h51 := e_add h51 (by omega) | replace h51 := e_rng h51
          exact ⟨_, ⟨_, _, rfl, rfl, rfl, rfl, (by first | omega | assumption | exact q_rg_up (by assumption) (by omega) | exact q_rg_up (q_rg_up (by assumption) (by omega)) (by omega) | exact q_rg_cpy (by assumption) (by assumption)), (by first | omega | assumption | exact q_rg_up (by assumption) (by omega) | exact q_rg_up (q_rg_up (by assumption) (by omega)) (by omega) | exact q_rg_cpy (by assumption) (by assumption))⟩, by omega⟩
        · intro h24
          apply And.intro
          · intro h28
            intro z49 h49
            first | replace h49 := e_add h49 (by omega) | replace h49 := e_rng h49
            intro z51 h51
            first | replace h51 := e_add h51 (by omega) | replace h51 := e_rng h51
            exact ⟨_, ⟨_, _, rfl, rfl, rfl, rfl, (by first | omega | assumption | exact q_rg_up (by assumption) (by omega) | exact q_rg_up (q_rg_up (by assumption) (by omega)) (by omega) | exact q_rg_cpy (by assumption) (by assumption)), (by first | omega | assumption | exact q_rg_up (by assumption) (by omega) | exact q_rg_up (q_rg_up (by assumption) (by omega)) (by omega) | exact q_rg_cpy (by assumption) (by assumption))⟩, by omega⟩
          · intro h28
            refine Exists.intro [0, 1, 2, 3, 4, 5, 6, 7, 8, 9, 10, 11, 12, 13, 14, 15, 16, 17, 18, 19, 20, 21, 22, 23, 24, 25] (Exists.intro [q2 0, q1 _] (Exists.intro ([.inr (12, [q1 _, q2 2, q2 3, q2 4, q2 5, q2 6, q2 1, q2 7, q2 8, q2 9, q1 _, q1 _, q1 _, q1 _, q1 _, q3 _, q1 _, q1 _, q1 _, q2 10, q2 11, q1 _, q1 _, q1 _, q1 _, q1 _, q1 _, q2 12, q1 _, q2 13, q2 14, q2 15, q2 16, q1 _, q2 17, q1 _, q2 18, q2 19, q2 20, q2 21, q2 22, q1 _, q2 23, q2 24, q2 25]), .inl (0, 600, .inl _)]) (And.intro rfl (And.intro rfl (And.intro rfl (And.intro ⟨⟨_, rfl⟩, rfl⟩ ?_))))))
            refine Exists.intro _ (Exists.intro _ (Exists.intro _ (Exists.intro _ (Exists.intro _ (Exists.intro _ (Exists.intro _ (Exists.intro _ (Exists.intro _ (Exists.intro _ (Exists.intro _ (Exists.intro _ (Exists.intro _ (Exists.intro _ (Exists.intro _ (Exists.intro _ (Exists.intro _ (Exists.intro _ (Exists.intro _ (Exists.intro _ (Exists.intro _ (Exists.intro _ (And.intro rfl (And.intro rfl (And.intro (by first | omega | assumption | exact q_rg_up (by assumption) (by omega) | exact q_rg_up (q_rg_up (by assumption) (by omega)) (by omega) | exact q_rg_cpy (by assumption) (by assumption)) (And.intro (by first | omega | assumption | exact q_rg_up (by assumption) (by omega) | exact q_rg_up (q_rg_up (by assumption) (by omega)) (by omega) | exact q_rg_cpy (by assumption) (by assumption)) (And.intro (by first | omega | assumption | exact q_rg_up (by assumption) (by omega) | exact q_rg_up (q_rg_up (by assumption) (by omega)) (by omega) | exact q_rg_cpy (by assumption) (by assumption)) (?_)))))))))))))))))))))))))))
            intro z33 h33
            obtain ⟨h33, k33⟩ := h33
            clear k33
            refine Exists.intro [] (Exists.intro [q1 _, q1 _] (Exists.intro [] (And.intro rfl (And.intro rfl (And.intro rfl (And.intro trivial ?_))))))
            refine Exists.intro _ (Exists.intro _ (And.intro rfl (And.intro rfl (?_))))
            intro z38 h38
            apply And.intro
            · intro h41
              intro z49 h49
              first | replace h49 := e_add h49 (by omega) | replace h49 := e_rng h49
              intro z51 h51
              first | replace h51 := e_add h51 (by omega) | replace h51 := e_rng h51
              exact ⟨_, ⟨_, _, rfl, rfl, rfl, rfl, (by first | omega | assumption | exact q_rg_up (by assumption) (by omega) | exact q_rg_up (q_rg_up (by assumption) (by omega)) (by omega) | exact q_rg_cpy (by assumption) (by assumption)), (by first | omega | assumption | exact q_rg_up (by assumption) (by omega) | exact q_rg_up (q_rg_up (by assumption) (by omega)) (by omega) | exact q_rg_cpy (by assumption) (by assumption))⟩, by omega⟩
            · intro h41
              intro z49 h49
              first | replace h49 := e_add h49 (by omega) | replace h49 := e_rng h49
              intro z51 h51
              first | replace h51 := e_add h51 (by omega) | replace h51 := e_rng h51
              exact ⟨_, ⟨_, _, rfl, rfl, rfl, rfl, (by first | omega | assumption | exact q_rg_up (by assumption) (by omega) | exact q_rg_up (q_rg_up (by assumption) (by omega)) (by omega) | exact q_rg_cpy (by assumption) (by assumption)), (by first | omega | assumption | exact q_rg_up (by assumption) (by omega) | exact q_rg_up (q_rg_up (by assumption) (by omega)) (by omega) | exact q_rg_cpy (by assumption) (by assumption))⟩, by omega⟩
    simp only [I_X12_upTo, h5, if_false] at hI
  rintro lv st w' ⟨rfl, rfl, rfl⟩
  exact ⟨_, _, _, rfl, rfl, rfl, rfl, (by first | omega | assumption | exact q_rg_up (by assumption) (by omega) | exact q_rg_up (q_rg_up (by assumption) (by omega)) (by omega) | exact q_rg_cpy (by assumption) (by assumption)), (by first | omega | assumption | exact q_rg_up (by assumption) (by omega) | exact q_rg_up (q_rg_up (by assumption) (by omega)) (by omega) | exact q_rg_cpy (by assumption) (by assumption))⟩

theorem dX12_wrong_0 : decode cX12_wrong 0 = .ok (.aload_n 0, 1) := by decide +kernel
theorem dX12_wrong_1 : decode cX12_wrong 1 = .ok (.iload_n 1, 1) := by decide +kernel
theorem dX12_wrong_2 : decode cX12_wrong 2 = .ok (.iconst 0, 1) := by decide +kernel
theorem dX12_wrong_3 : decode cX12_wrong 3 = .ok (.invokevirtual 506, 3) := by decide +kernel
theorem dX12_wrong_6 : decode cX12_wrong 6 = .ok (.aload_n 0, 1) := by decide +kernel
theorem dX12_wrong_7 : decode cX12_wrong 7 = .ok (.bipush 99, 2) := by decide +kernel
theorem dX12_wrong_9 : decode cX12_wrong 9 = .ok (.iconst 1, 1) := by decide +kernel
theorem dX12_wrong_10 : decode cX12_wrong 10 = .ok (.invokevirtual 506, 3) := by decide +kernel
theorem dX12_wrong_13 : decode cX12_wrong 13 = .ok (.iadd, 1) := by decide +kernel
theorem dX12_wrong_14 : decode cX12_wrong 14 = .ok (.iconst 2, 1) := by decide +kernel
theorem dX12_wrong_15 : decode cX12_wrong 15 = .ok (.aload_n 0, 1) := by decide +kernel
theorem dX12_wrong_16 : decode cX12_wrong 16 = .ok (.iload_n 1, 1) := by decide +kernel
theorem dX12_wrong_17 : decode cX12_wrong 17 = .ok (.iconst 1, 1) := by decide +kernel
theorem dX12_wrong_18 : decode cX12_wrong 18 = .ok (.invokevirtual 506, 3) := by decide +kernel
theorem dX12_wrong_21 : decode cX12_wrong 21 = .ok (.imul, 1) := by decide +kernel
theorem dX12_wrong_22 : decode cX12_wrong 22 = .ok (.isub, 1) := by decide +kernel
theorem dX12_wrong_23 : decode cX12_wrong 23 = .ok (.ireturn, 1) := by decide +kernel
def is_X12_wrong : Nat → List Nat := fun d => []
set_option maxRecDepth 100000 in
def b_X12_wrong_0 (J : Nat → List qV → List qV → qW → Prop) (Q : qR) : qK := x_aload 0 (x_iload 1 (x_int 0 (x_callr (some 12) 3 spr_X12_upTo (x_aload 0 (x_int 99 (x_int 1 (x_callr (some 12) 3 spr_X12_upTo (x_iadd (x_int 2 (x_aload 0 (x_iload 1 (x_int 1 (x_callr (some 12) 3 spr_X12_upTo (x_imul (x_isub (x_iret Q))))))))))))))))
set_option maxRecDepth 100000 in
theorem s_X12_wrong_0 {p : Program} {l : Launch} {e : Env} {R : Room} {s : State} {m : MethodId} {args : Array Value} {below : List Frame} {meth : Method} {c : Code} {nW : Nat} {dC : Nat → ClassId} {dI : Nat → Nat → Nat} {k : Nat → ClassId} {g : Nat → Nat} {A : Nat → Prop} {J : Nat → List qV → List qV → qW → Prop} {Q : qR} (X : q_X p R s m args meth c cX12_wrong 2 nW 2 45 RX12 (some .int) dC dI k g A) (hJ : ∀ d : Nat, q_Sd p l e R s m args below meth c 2 nW dC dI k g A (MQ below (q_post (dC, dI) k g nW Q A) args s 0 0 A) d (x_cut (is_X12_wrong d) (J d))) : q_Sd p l e R s m args below meth c 2 nW dC dI k g A (MQ below (q_post (dC, dI) k g nW Q A) args s 0 0 A) 0 (b_X12_wrong_0 J Q) := by
  unfold b_X12_wrong_0
  refine s_aload_n X rfl dX12_wrong_0 ?_
  refine s_iload_n X rfl dX12_wrong_1 ?_
  refine s_iconst X ⟨by decide, by decide⟩ dX12_wrong_2 ?_
  refine s_callVr X (m_X12_upTo l) tw_1455 tw_1456 tw_1628 tw_134 tw_1457 rfl (by decide +kernel) ⟨by decide, by decide⟩ dX12_wrong_3 ?_
  refine s_aload_n X rfl dX12_wrong_6 ?_
  refine s_bipush X ⟨by decide, by decide⟩ (by decide) dX12_wrong_7 ?_
  refine s_iconst X ⟨by decide, by decide⟩ dX12_wrong_9 ?_
  refine s_callVr X (m_X12_upTo l) tw_1455 tw_1456 tw_1628 tw_134 tw_1457 rfl (by decide +kernel) ⟨by decide, by decide⟩ dX12_wrong_10 ?_
  refine s_iadd X dX12_wrong_13 ?_
  refine s_iconst X ⟨by decide, by decide⟩ dX12_wrong_14 ?_
  refine s_aload_n X rfl dX12_wrong_15 ?_
  refine s_iload_n X rfl dX12_wrong_16 ?_
  refine s_iconst X ⟨by decide, by decide⟩ dX12_wrong_17 ?_
  refine s_callVr X (m_X12_upTo l) tw_1455 tw_1456 tw_1628 tw_134 tw_1457 rfl (by decide +kernel) ⟨by decide, by decide⟩ dX12_wrong_18 ?_
  refine s_imul X dX12_wrong_21 ?_
  refine s_isub X dX12_wrong_22 ?_
  exact s_iret X dX12_wrong_23

def spr_X12_wrong : List qV → qW → (Option qV → Prop) → Prop := fun av w Q => ∃ (mco : Int) (mre : Int) (mle : Int) (mbe : Int) (mso : Int) (mva : Int) (mwo : Int) (mwr : Int) (mlf : Int) (mlp : Int) (mfp : Int) (mfd : Int) (mgo : Int) (mbo : Int) (mpe : Int) (mye : Int) (mpr : Int) (mld : Int) (msi : Int) (mse : Int) (bs : Nat → Int) (a : Int), av = [q2 0, q1 a] ∧ w = [.inr (12, [q1 mco, q2 2, q2 3, q2 4, q2 5, q2 6, q2 1, q2 7, q2 8, q2 9, q1 mre, q1 mle, q1 mbe, q1 mso, q1 mva, q3 mwo, q1 mwr, q1 mlf, q1 mlp, q2 10, q2 11, q1 mfp, q1 mfd, q1 mgo, q1 mbo, q1 mpe, q1 mye, q2 12, q1 mpr, q2 13, q2 14, q2 15, q2 16, q1 mld, q2 17, q1 msi, q2 18, q2 19, q2 20, q2 21, q2 22, q1 mse, q2 23, q2 24, q2 25]), .inl (0, 600, .inl bs)] ∧ (0 ≤ mbo ∧ mbo ≤ 1) ∧ (0 ≤ mpe ∧ mpe ≤ 8) ∧ (BI bs) ∧ (∀ (r : Int) , Q (some (q1 r)))
def sp_X12_wrong : qS := fun av w Q => spr_X12_wrong av w (fun r => Q r w)
set_option maxHeartbeats 4000000 in
set_option maxRecDepth 100000 in
theorem m_X12_wrong (l : Launch) : q_M l yX12_wrong cX12_wrong 2 (some .int) 2 45 sp_X12_wrong := by
  refine q_meth (by decide) (fun av w Q h => by obtain ⟨mco, mre, mle, mbe, mso, mva, mwo, mwr, mlf, mlp, mfp, mfd, mgo, mbo, mpe, mye, mpr, mld, msi, mse, bs, a, rfl, rfl, hbo, hpe, hbi, hQ⟩ := h; exact Nat.le_of_ble_eq_true rfl) ?_
  intro p e R s m args below meth c dC dI k g A av w Q hsp oka okw X
  obtain ⟨mco, mre, mle, mbe, mso, mva, mwo, mwr, mlf, mlp, mfp, mfd, mgo, mbo, mpe, mye, mpr, mld, msi, mse, bs, a, rfl, rfl, hbo, hpe, hbi, hQ⟩ := hsp
  have o_a : -2147483648 ≤ a ∧ a ≤ 2147483647 := oka _ (List.mem_of_getElem? (i := 1) rfl)
  refine s_mono (s_X12_wrong_0 X (J := fun _ _ _ _ => False) (fun d => s_cutF)) ?_
  rintro lv st w' ⟨rfl, rfl, rfl⟩
  refine Exists.intro [0, 1, 2, 3, 4, 5, 6, 7, 8, 9, 10, 11, 12, 13, 14, 15, 16, 17, 18, 19, 20, 21, 22, 23, 24, 25] (Exists.intro [q2 0, q1 _, q1 _] (Exists.intro ([.inr (12, [q1 _, q2 2, q2 3, q2 4, q2 5, q2 6, q2 1, q2 7, q2 8, q2 9, q1 _, q1 _, q1 _, q1 _, q1 _, q3 _, q1 _, q1 _, q1 _, q2 10, q2 11, q1 _, q1 _, q1 _, q1 _, q1 _, q1 _, q2 12, q1 _, q2 13, q2 14, q2 15, q2 16, q1 _, q2 17, q1 _, q2 18, q2 19, q2 20, q2 21, q2 22, q1 _, q2 23, q2 24, q2 25]), .inl (0, 600, .inl _)]) (And.intro rfl (And.intro rfl (And.intro rfl (And.intro ⟨⟨_, rfl⟩, rfl⟩ ?_))))))
  refine Exists.intro _ (Exists.intro _ (Exists.intro _ (Exists.intro _ (Exists.intro _ (Exists.intro _ (Exists.intro _ (Exists.intro _ (Exists.intro _ (Exists.intro _ (Exists.intro _ (Exists.intro _ (Exists.intro _ (Exists.intro _ (Exists.intro _ (Exists.intro _ (Exists.intro _ (Exists.intro _ (Exists.intro _ (Exists.intro _ (Exists.intro _ (Exists.intro _ (Exists.intro _ (And.intro rfl (And.intro rfl (And.intro (by first | omega | assumption | exact q_rg_up (by assumption) (by omega) | exact q_rg_up (q_rg_up (by assumption) (by omega)) (by omega) | exact q_rg_cpy (by assumption) (by assumption)) (And.intro (by first | omega | assumption | exact q_rg_up (by assumption) (by omega) | exact q_rg_up (q_rg_up (by assumption) (by omega)) (by omega) | exact q_rg_cpy (by assumption) (by assumption)) (And.intro (by first | omega | assumption | exact q_rg_up (by assumption) (by omega) | exact q_rg_up (q_rg_up (by assumption) (by omega)) (by omega) | exact q_rg_cpy (by assumption) (by assumption)) (?_))))))))))))))))))))))))))))
  intro z3 h3
  refine Exists.intro [0, 1, 2, 3, 4, 5, 6, 7, 8, 9, 10, 11, 12, 13, 14, 15, 16, 17, 18, 19, 20, 21, 22, 23, 24, 25] (Exists.intro [q2 0, q1 _, q1 _] (Exists.intro ([.inr (12, [q1 _, q2 2, q2 3, q2 4, q2 5, q2 6, q2 1, q2 7, q2 8, q2 9, q1 _, q1 _, q1 _, q1 _, q1 _, q3 _, q1 _, q1 _, q1 _, q2 10, q2 11, q1 _, q1 _, q1 _, q1 _, q1 _, q1 _, q2 12, q1 _, q2 13, q2 14, q2 15, q2 16, q1 _, q2 17, q1 _, q2 18, q2 19, q2 20, q2 21, q2 22, q1 _, q2 23, q2 24, q2 25]), .inl (0, 600, .inl _)]) (And.intro rfl (And.intro rfl (And.intro rfl (And.intro ⟨⟨_, rfl⟩, rfl⟩ ?_))))))
  refine Exists.intro _ (Exists.intro _ (Exists.intro _ (Exists.intro _ (Exists.intro _ (Exists.intro _ (Exists.intro _ (Exists.intro _ (Exists.intro _ (Exists.intro _ (Exists.intro _ (Exists.intro _ (Exists.intro _ (Exists.intro _ (Exists.intro _ (Exists.intro _ (Exists.intro _ (Exists.intro _ (Exists.intro _ (Exists.intro _ (Exists.intro _ (Exists.intro _ (Exists.intro _ (And.intro rfl (And.intro rfl (And.intro (by first | omega | assumption | exact q_rg_up (by assumption) (by omega) | exact q_rg_up (q_rg_up (by assumption) (by omega)) (by omega) | exact q_rg_cpy (by assumption) (by assumption)) (And.intro (by first | omega | assumption | exact q_rg_up (by assumption) (by omega) | exact q_rg_up (q_rg_up (by assumption) (by omega)) (by omega) | exact q_rg_cpy (by assumption) (by assumption)) (And.intro (by first | omega | assumption | exact q_rg_up (by assumption) (by omega) | exact q_rg_up (q_rg_up (by assumption) (by omega)) (by omega) | exact q_rg_cpy (by assumption) (by assumption)) (?_))))))))))))))))))))))))))))
  intro z10 h10
  intro z13 h13
  first | replace h13 := e_add h13 (by omega) | replace h13 := e_rng h13
  refine Exists.intro [0, 1, 2, 3, 4, 5, 6, 7, 8, 9, 10, 11, 12, 13, 14, 15, 16, 17, 18, 19, 20, 21, 22, 23, 24, 25] (Exists.intro [q2 0, q1 _, q1 _] (Exists.intro ([.inr (12, [q1 _, q2 2, q2 3, q2 4, q2 5, q2 6, q2 1, q2 7, q2 8, q2 9, q1 _, q1 _, q1 _, q1 _, q1 _, q3 _, q1 _, q1 _, q1 _, q2 10, q2 11, q1 _, q1 _, q1 _, q1 _, q1 _, q1 _, q2 12, q1 _, q2 13, q2 14, q2 15, q2 16, q1 _, q2 17, q1 _, q2 18, q2 19, q2 20, q2 21, q2 22, q1 _, q2 23, q2 24, q2 25]), .inl (0, 600, .inl _)]) (And.intro rfl (And.intro rfl (And.intro rfl (And.intro ⟨⟨_, rfl⟩, rfl⟩ ?_))))))
  refine Exists.intro _ (Exists.intro _ (Exists.intro _ (Exists.intro _ (Exists.intro _ (Exists.intro _ (Exists.intro _ (Exists.intro _ (Exists.intro _ (Exists.intro _ (Exists.intro _ (Exists.intro _ (Exists.intro _ (Exists.intro _ (Exists.intro _ (Exists.intro _ (Exists.intro _ (Exists.intro _ (Exists.intro _ (Exists.intro _ (Exists.intro _ (Exists.intro _ (Exists.intro _ (And.intro rfl (And.intro rfl (And.intro (by first | omega | assumption | exact q_rg_up (by assumption) (by omega) | exact q_rg_up (q_rg_up (by assumption) (by omega)) (by omega) | exact q_rg_cpy (by assumption) (by assumption)) (And.intro (by first | omega | assumption | exact q_rg_up (by assumption) (by omega) | exact q_rg_up (q_rg_up (by assumption) (by omega)) (by omega) | exact q_rg_cpy (by assumption) (by assumption)) (And.intro (by first | omega | assumption | exact q_rg_up (by assumption) (by omega) | exact q_rg_up (q_rg_up (by assumption) (by omega)) (by omega) | exact q_rg_cpy (by assumption) (by assumption)) (?_))))))))))))))))))))))))))))
  intro z18 h18
  intro z21 h21
  first | replace h21 := e_mul h21 (by omega) | replace h21 := e_rng h21
  intro z22 h22
  first | replace h22 := e_sub h22 (by omega) | replace h22 := e_rng h22
  exact hQ _

theorem dX12_assumed_0 : decode cX12_assumed 0 = .ok (.aload_n 0, 1) := by decide +kernel
theorem dX12_assumed_1 : decode cX12_assumed 1 = .ok (.iconst 0, 1) := by decide +kernel
theorem dX12_assumed_2 : decode cX12_assumed 2 = .ok (.putfield 88, 3) := by decide +kernel
theorem dX12_assumed_5 : decode cX12_assumed 5 = .ok (.iload_n 2, 1) := by decide +kernel
theorem dX12_assumed_6 : decode cX12_assumed 6 = .ok (.iconst 0, 1) := by decide +kernel
theorem dX12_assumed_7 : decode cX12_assumed 7 = .ok (.bipush 99, 2) := by decide +kernel
theorem dX12_assumed_9 : decode cX12_assumed 9 = .ok (.invokestatic 100, 3) := by decide +kernel
theorem dX12_assumed_12 : decode cX12_assumed 12 = .ok (.ifCond .eq 20, 3) := by decide +kernel
theorem dX12_assumed_15 : decode cX12_assumed 15 = .ok (.aload_n 0, 1) := by decide +kernel
theorem dX12_assumed_16 : decode cX12_assumed 16 = .ok (.iload_n 1, 1) := by decide +kernel
theorem dX12_assumed_17 : decode cX12_assumed 17 = .ok (.invokevirtual 306, 3) := by decide +kernel
theorem dX12_assumed_20 : decode cX12_assumed 20 = .ok (.ifCond .eq 12, 3) := by decide +kernel
theorem dX12_assumed_23 : decode cX12_assumed 23 = .ok (.iload_n 3, 1) := by decide +kernel
theorem dX12_assumed_24 : decode cX12_assumed 24 = .ok (.iconst 0, 1) := by decide +kernel
theorem dX12_assumed_25 : decode cX12_assumed 25 = .ok (.iconst 3, 1) := by decide +kernel
theorem dX12_assumed_26 : decode cX12_assumed 26 = .ok (.invokestatic 100, 3) := by decide +kernel
theorem dX12_assumed_29 : decode cX12_assumed 29 = .ok (.ifCond .ne 5, 3) := by decide +kernel
theorem dX12_assumed_32 : decode cX12_assumed 32 = .ok (.iconst (-1), 1) := by decide +kernel
theorem dX12_assumed_33 : decode cX12_assumed 33 = .ok (.ireturn, 1) := by decide +kernel
theorem dX12_assumed_34 : decode cX12_assumed 34 = .ok (.iload_n 3, 1) := by decide +kernel
theorem dX12_assumed_35 : decode cX12_assumed 35 = .ok (.ifCond .ne 9, 3) := by decide +kernel
theorem dX12_assumed_38 : decode cX12_assumed 38 = .ok (.aload_n 0, 1) := by decide +kernel
theorem dX12_assumed_39 : decode cX12_assumed 39 = .ok (.iload_n 2, 1) := by decide +kernel
theorem dX12_assumed_40 : decode cX12_assumed 40 = .ok (.invokevirtual 510, 3) := by decide +kernel
theorem dX12_assumed_43 : decode cX12_assumed 43 = .ok (.ireturn, 1) := by decide +kernel
theorem dX12_assumed_44 : decode cX12_assumed 44 = .ok (.iload_n 3, 1) := by decide +kernel
theorem dX12_assumed_45 : decode cX12_assumed 45 = .ok (.iconst 3, 1) := by decide +kernel
theorem dX12_assumed_46 : decode cX12_assumed 46 = .ok (.if_icmp .ge 65, 3) := by decide +kernel
theorem dX12_assumed_49 : decode cX12_assumed 49 = .ok (.aload_n 0, 1) := by decide +kernel
theorem dX12_assumed_50 : decode cX12_assumed 50 = .ok (.iload_n 2, 1) := by decide +kernel
theorem dX12_assumed_51 : decode cX12_assumed 51 = .ok (.iconst 1, 1) := by decide +kernel
theorem dX12_assumed_52 : decode cX12_assumed 52 = .ok (.invokevirtual 506, 3) := by decide +kernel
theorem dX12_assumed_55 : decode cX12_assumed 55 = .ok (.istore 4, 2) := by decide +kernel
theorem dX12_assumed_57 : decode cX12_assumed 57 = .ok (.iconst 1, 1) := by decide +kernel
theorem dX12_assumed_58 : decode cX12_assumed 58 = .ok (.aload_n 0, 1) := by decide +kernel
theorem dX12_assumed_59 : decode cX12_assumed 59 = .ok (.iload_n 2, 1) := by decide +kernel
theorem dX12_assumed_60 : decode cX12_assumed 60 = .ok (.iconst 0, 1) := by decide +kernel
theorem dX12_assumed_61 : decode cX12_assumed 61 = .ok (.invokevirtual 506, 3) := by decide +kernel
theorem dX12_assumed_64 : decode cX12_assumed 64 = .ok (.invokestatic 162, 3) := by decide +kernel
theorem dX12_assumed_67 : decode cX12_assumed 67 = .ok (.istore 5, 2) := by decide +kernel
theorem dX12_assumed_69 : decode cX12_assumed 69 = .ok (.iload 5, 2) := by decide +kernel
theorem dX12_assumed_71 : decode cX12_assumed 71 = .ok (.istore 6, 2) := by decide +kernel
theorem dX12_assumed_73 : decode cX12_assumed 73 = .ok (.iload 4, 2) := by decide +kernel
theorem dX12_assumed_75 : decode cX12_assumed 75 = .ok (.iload 6, 2) := by decide +kernel
theorem dX12_assumed_77 : decode cX12_assumed 77 = .ok (.irem, 1) := by decide +kernel
theorem dX12_assumed_78 : decode cX12_assumed 78 = .ok (.ifCond .ne 11, 3) := by decide +kernel
theorem dX12_assumed_81 : decode cX12_assumed 81 = .ok (.iload 5, 2) := by decide +kernel
theorem dX12_assumed_83 : decode cX12_assumed 83 = .ok (.iload 6, 2) := by decide +kernel
theorem dX12_assumed_85 : decode cX12_assumed 85 = .ok (.irem, 1) := by decide +kernel
theorem dX12_assumed_86 : decode cX12_assumed 86 = .ok (.ifCond .eq 9, 3) := by decide +kernel
theorem dX12_assumed_89 : decode cX12_assumed 89 = .ok (.iinc 6 (-1), 3) := by decide +kernel
theorem dX12_assumed_92 : decode cX12_assumed 92 = .ok (.goto (-19), 3) := by decide +kernel
theorem dX12_assumed_95 : decode cX12_assumed 95 = .ok (.iload_n 3, 1) := by decide +kernel
theorem dX12_assumed_96 : decode cX12_assumed 96 = .ok (.iconst 1, 1) := by decide +kernel
theorem dX12_assumed_97 : decode cX12_assumed 97 = .ok (.if_icmp .ne 8, 3) := by decide +kernel
theorem dX12_assumed_100 : decode cX12_assumed 100 = .ok (.iload 4, 2) := by decide +kernel
theorem dX12_assumed_102 : decode cX12_assumed 102 = .ok (.goto 5, 3) := by decide +kernel
theorem dX12_assumed_105 : decode cX12_assumed 105 = .ok (.iload 5, 2) := by decide +kernel
theorem dX12_assumed_107 : decode cX12_assumed 107 = .ok (.iload 6, 2) := by decide +kernel
theorem dX12_assumed_109 : decode cX12_assumed 109 = .ok (.idiv, 1) := by decide +kernel
theorem dX12_assumed_110 : decode cX12_assumed 110 = .ok (.ireturn, 1) := by decide +kernel
theorem dX12_assumed_111 : decode cX12_assumed 111 = .ok (.iconst 0, 1) := by decide +kernel
theorem dX12_assumed_112 : decode cX12_assumed 112 = .ok (.istore 4, 2) := by decide +kernel
theorem dX12_assumed_114 : decode cX12_assumed 114 = .ok (.iconst 1, 1) := by decide +kernel
theorem dX12_assumed_115 : decode cX12_assumed 115 = .ok (.istore 5, 2) := by decide +kernel
theorem dX12_assumed_117 : decode cX12_assumed 117 = .ok (.iload 5, 2) := by decide +kernel
theorem dX12_assumed_119 : decode cX12_assumed 119 = .ok (.bipush 99, 2) := by decide +kernel
theorem dX12_assumed_121 : decode cX12_assumed 121 = .ok (.if_icmp .gt 33, 3) := by decide +kernel
theorem dX12_assumed_124 : decode cX12_assumed 124 = .ok (.aload_n 0, 1) := by decide +kernel
theorem dX12_assumed_125 : decode cX12_assumed 125 = .ok (.iload 5, 2) := by decide +kernel
theorem dX12_assumed_127 : decode cX12_assumed 127 = .ok (.invokevirtual 510, 3) := by decide +kernel
theorem dX12_assumed_130 : decode cX12_assumed 130 = .ok (.aload_n 0, 1) := by decide +kernel
theorem dX12_assumed_131 : decode cX12_assumed 131 = .ok (.iload 4, 2) := by decide +kernel
theorem dX12_assumed_133 : decode cX12_assumed 133 = .ok (.invokevirtual 510, 3) := by decide +kernel
theorem dX12_assumed_136 : decode cX12_assumed 136 = .ok (.if_icmp .ge 8, 3) := by decide +kernel
theorem dX12_assumed_139 : decode cX12_assumed 139 = .ok (.iload 5, 2) := by decide +kernel
theorem dX12_assumed_141 : decode cX12_assumed 141 = .ok (.goto 5, 3) := by decide +kernel
theorem dX12_assumed_144 : decode cX12_assumed 144 = .ok (.iload 4, 2) := by decide +kernel
theorem dX12_assumed_146 : decode cX12_assumed 146 = .ok (.istore 4, 2) := by decide +kernel
theorem dX12_assumed_148 : decode cX12_assumed 148 = .ok (.iinc 5 1, 3) := by decide +kernel
theorem dX12_assumed_151 : decode cX12_assumed 151 = .ok (.goto (-34), 3) := by decide +kernel
theorem dX12_assumed_154 : decode cX12_assumed 154 = .ok (.iload 4, 2) := by decide +kernel
theorem dX12_assumed_156 : decode cX12_assumed 156 = .ok (.ireturn, 1) := by decide +kernel
def is_X12_assumed : Nat → List Nat := fun d => if d = 73 then [3, 4, 5, 6] else if d = 117 then [0, 4, 5] else []
set_option maxRecDepth 100000 in
def b_X12_assumed_146 (J : Nat → List qV → List qV → qW → Prop) (Q : qR) : qK := x_istore 4 (x_iinc 5 1 (x_cut [0, 4, 5] (J 117)))
set_option maxRecDepth 100000 in
theorem s_X12_assumed_146 {p : Program} {l : Launch} {e : Env} {R : Room} {s : State} {m : MethodId} {args : Array Value} {below : List Frame} {meth : Method} {c : Code} {nW : Nat} {dC : Nat → ClassId} {dI : Nat → Nat → Nat} {k : Nat → ClassId} {g : Nat → Nat} {A : Nat → Prop} {J : Nat → List qV → List qV → qW → Prop} {Q : qR} (X : q_X p R s m args meth c cX12_assumed 7 nW 3 66 RX12 (some .int) dC dI k g A) (hJ : ∀ d : Nat, q_Sd p l e R s m args below meth c 7 nW dC dI k g A (MQ below (q_post (dC, dI) k g nW Q A) args s 0 0 A) d (x_cut (is_X12_assumed d) (J d))) : q_Sd p l e R s m args below meth c 7 nW dC dI k g A (MQ below (q_post (dC, dI) k g nW Q A) args s 0 0 A) 146 (b_X12_assumed_146 J Q) := by
  unfold b_X12_assumed_146
  refine s_istore X (by decide) dX12_assumed_146 ?_
  refine s_iinc X (by decide) dX12_assumed_148 ?_
  refine s_goto X (tgt := 117) dX12_assumed_151 (by decide) ?_
  exact hJ 117
set_option maxRecDepth 100000 in
def b_X12_assumed_117 (J : Nat → List qV → List qV → qW → Prop) (Q : qR) : qK := x_iload 5 (x_int 99 (x_icmp_gt (x_iload 4 (x_iret Q)) (x_aload 0 (x_iload 5 (x_callr (some 12) 2 spr_X12_wrong (x_aload 0 (x_iload 4 (x_callr (some 12) 2 spr_X12_wrong (x_icmp_ge (x_iload 4 (b_X12_assumed_146 J Q)) (x_iload 5 (b_X12_assumed_146 J Q)))))))))))
set_option maxRecDepth 100000 in
theorem s_X12_assumed_117 {p : Program} {l : Launch} {e : Env} {R : Room} {s : State} {m : MethodId} {args : Array Value} {below : List Frame} {meth : Method} {c : Code} {nW : Nat} {dC : Nat → ClassId} {dI : Nat → Nat → Nat} {k : Nat → ClassId} {g : Nat → Nat} {A : Nat → Prop} {J : Nat → List qV → List qV → qW → Prop} {Q : qR} (X : q_X p R s m args meth c cX12_assumed 7 nW 3 66 RX12 (some .int) dC dI k g A) (hJ : ∀ d : Nat, q_Sd p l e R s m args below meth c 7 nW dC dI k g A (MQ below (q_post (dC, dI) k g nW Q A) args s 0 0 A) d (x_cut (is_X12_assumed d) (J d))) : q_Sd p l e R s m args below meth c 7 nW dC dI k g A (MQ below (q_post (dC, dI) k g nW Q A) args s 0 0 A) 117 (b_X12_assumed_117 J Q) := by
  unfold b_X12_assumed_117
  refine s_iload X dX12_assumed_117 ?_
  refine s_bipush X ⟨by decide, by decide⟩ (by decide) dX12_assumed_119 ?_
  refine s_icmp_gt X (tgt := 154) dX12_assumed_121 (by decide) ?_ ?_
  · refine s_iload X dX12_assumed_154 ?_
    exact s_iret X dX12_assumed_156
  · refine s_aload_n X rfl dX12_assumed_124 ?_
    refine s_iload X dX12_assumed_125 ?_
    refine s_callVr X (m_X12_wrong l) tw_1452 tw_1453 tw_1632 tw_134 tw_1454 rfl (by decide +kernel) ⟨by decide, by decide⟩ dX12_assumed_127 ?_
    refine s_aload_n X rfl dX12_assumed_130 ?_
    refine s_iload X dX12_assumed_131 ?_
    refine s_callVr X (m_X12_wrong l) tw_1452 tw_1453 tw_1632 tw_134 tw_1454 rfl (by decide +kernel) ⟨by decide, by decide⟩ dX12_assumed_133 ?_
    refine s_icmp_ge X (tgt := 144) dX12_assumed_136 (by decide) ?_ ?_
    · refine s_iload X dX12_assumed_144 ?_
      exact s_X12_assumed_146 X hJ
    · refine s_iload X dX12_assumed_139 ?_
      refine s_goto X (tgt := 146) dX12_assumed_141 (by decide) ?_
      exact s_X12_assumed_146 X hJ
set_option maxRecDepth 100000 in
def b_X12_assumed_107 (J : Nat → List qV → List qV → qW → Prop) (Q : qR) : qK := x_iload 6 (x_idiv (x_iret Q))
set_option maxRecDepth 100000 in
theorem s_X12_assumed_107 {p : Program} {l : Launch} {e : Env} {R : Room} {s : State} {m : MethodId} {args : Array Value} {below : List Frame} {meth : Method} {c : Code} {nW : Nat} {dC : Nat → ClassId} {dI : Nat → Nat → Nat} {k : Nat → ClassId} {g : Nat → Nat} {A : Nat → Prop} {J : Nat → List qV → List qV → qW → Prop} {Q : qR} (X : q_X p R s m args meth c cX12_assumed 7 nW 3 66 RX12 (some .int) dC dI k g A) (hJ : ∀ d : Nat, q_Sd p l e R s m args below meth c 7 nW dC dI k g A (MQ below (q_post (dC, dI) k g nW Q A) args s 0 0 A) d (x_cut (is_X12_assumed d) (J d))) : q_Sd p l e R s m args below meth c 7 nW dC dI k g A (MQ below (q_post (dC, dI) k g nW Q A) args s 0 0 A) 107 (b_X12_assumed_107 J Q) := by
  unfold b_X12_assumed_107
  refine s_iload X dX12_assumed_107 ?_
  refine s_idiv X dX12_assumed_109 ?_
  exact s_iret X dX12_assumed_110
set_option maxRecDepth 100000 in
def b_X12_assumed_89 (J : Nat → List qV → List qV → qW → Prop) (Q : qR) : qK := x_iinc 6 (-1) (x_cut [3, 4, 5, 6] (J 73))
set_option maxRecDepth 100000 in
theorem s_X12_assumed_89 {p : Program} {l : Launch} {e : Env} {R : Room} {s : State} {m : MethodId} {args : Array Value} {below : List Frame} {meth : Method} {c : Code} {nW : Nat} {dC : Nat → ClassId} {dI : Nat → Nat → Nat} {k : Nat → ClassId} {g : Nat → Nat} {A : Nat → Prop} {J : Nat → List qV → List qV → qW → Prop} {Q : qR} (X : q_X p R s m args meth c cX12_assumed 7 nW 3 66 RX12 (some .int) dC dI k g A) (hJ : ∀ d : Nat, q_Sd p l e R s m args below meth c 7 nW dC dI k g A (MQ below (q_post (dC, dI) k g nW Q A) args s 0 0 A) d (x_cut (is_X12_assumed d) (J d))) : q_Sd p l e R s m args below meth c 7 nW dC dI k g A (MQ below (q_post (dC, dI) k g nW Q A) args s 0 0 A) 89 (b_X12_assumed_89 J Q) := by
  unfold b_X12_assumed_89
  refine s_iinc X (by decide) dX12_assumed_89 ?_
  refine s_goto X (tgt := 73) dX12_assumed_92 (by decide) ?_
  exact hJ 73
set_option maxRecDepth 100000 in
def b_X12_assumed_73 (J : Nat → List qV → List qV → qW → Prop) (Q : qR) : qK := x_iload 4 (x_iload 6 (x_irem (x_if_ne (b_X12_assumed_89 J Q) (x_iload 5 (x_iload 6 (x_irem (x_if_eq (x_iload 3 (x_int 1 (x_icmp_ne (x_iload 5 (b_X12_assumed_107 J Q)) (x_iload 4 (b_X12_assumed_107 J Q))))) (b_X12_assumed_89 J Q))))))))
set_option maxRecDepth 100000 in
theorem s_X12_assumed_73 {p : Program} {l : Launch} {e : Env} {R : Room} {s : State} {m : MethodId} {args : Array Value} {below : List Frame} {meth : Method} {c : Code} {nW : Nat} {dC : Nat → ClassId} {dI : Nat → Nat → Nat} {k : Nat → ClassId} {g : Nat → Nat} {A : Nat → Prop} {J : Nat → List qV → List qV → qW → Prop} {Q : qR} (X : q_X p R s m args meth c cX12_assumed 7 nW 3 66 RX12 (some .int) dC dI k g A) (hJ : ∀ d : Nat, q_Sd p l e R s m args below meth c 7 nW dC dI k g A (MQ below (q_post (dC, dI) k g nW Q A) args s 0 0 A) d (x_cut (is_X12_assumed d) (J d))) : q_Sd p l e R s m args below meth c 7 nW dC dI k g A (MQ below (q_post (dC, dI) k g nW Q A) args s 0 0 A) 73 (b_X12_assumed_73 J Q) := by
  unfold b_X12_assumed_73
  refine s_iload X dX12_assumed_73 ?_
  refine s_iload X dX12_assumed_75 ?_
  refine s_irem X dX12_assumed_77 ?_
  refine s_if_ne X (tgt := 89) dX12_assumed_78 (by decide) ?_ ?_
  · exact s_X12_assumed_89 X hJ
  · refine s_iload X dX12_assumed_81 ?_
    refine s_iload X dX12_assumed_83 ?_
    refine s_irem X dX12_assumed_85 ?_
    refine s_if_eq X (tgt := 95) dX12_assumed_86 (by decide) ?_ ?_
    · refine s_iload_n X rfl dX12_assumed_95 ?_
      refine s_iconst X ⟨by decide, by decide⟩ dX12_assumed_96 ?_
      refine s_icmp_ne X (tgt := 105) dX12_assumed_97 (by decide) ?_ ?_
      · refine s_iload X dX12_assumed_105 ?_
        exact s_X12_assumed_107 X hJ
      · refine s_iload X dX12_assumed_100 ?_
        refine s_goto X (tgt := 107) dX12_assumed_102 (by decide) ?_
        exact s_X12_assumed_107 X hJ
    · exact s_X12_assumed_89 X hJ
set_option maxRecDepth 100000 in
def b_X12_assumed_71 (J : Nat → List qV → List qV → qW → Prop) (Q : qR) : qK := x_istore 6 (x_cut [3, 4, 5, 6] (J 73))
set_option maxRecDepth 100000 in
theorem s_X12_assumed_71 {p : Program} {l : Launch} {e : Env} {R : Room} {s : State} {m : MethodId} {args : Array Value} {below : List Frame} {meth : Method} {c : Code} {nW : Nat} {dC : Nat → ClassId} {dI : Nat → Nat → Nat} {k : Nat → ClassId} {g : Nat → Nat} {A : Nat → Prop} {J : Nat → List qV → List qV → qW → Prop} {Q : qR} (X : q_X p R s m args meth c cX12_assumed 7 nW 3 66 RX12 (some .int) dC dI k g A) (hJ : ∀ d : Nat, q_Sd p l e R s m args below meth c 7 nW dC dI k g A (MQ below (q_post (dC, dI) k g nW Q A) args s 0 0 A) d (x_cut (is_X12_assumed d) (J d))) : q_Sd p l e R s m args below meth c 7 nW dC dI k g A (MQ below (q_post (dC, dI) k g nW Q A) args s 0 0 A) 71 (b_X12_assumed_71 J Q) := by
  unfold b_X12_assumed_71
  refine s_istore X (by decide) dX12_assumed_71 ?_
  exact hJ 73
set_option maxRecDepth 100000 in
def b_X12_assumed_32 (J : Nat → List qV → List qV → qW → Prop) (Q : qR) : qK := x_int (-1) (x_iret Q)
set_option maxRecDepth 100000 in
theorem s_X12_assumed_32 {p : Program} {l : Launch} {e : Env} {R : Room} {s : State} {m : MethodId} {args : Array Value} {below : List Frame} {meth : Method} {c : Code} {nW : Nat} {dC : Nat → ClassId} {dI : Nat → Nat → Nat} {k : Nat → ClassId} {g : Nat → Nat} {A : Nat → Prop} {J : Nat → List qV → List qV → qW → Prop} {Q : qR} (X : q_X p R s m args meth c cX12_assumed 7 nW 3 66 RX12 (some .int) dC dI k g A) (hJ : ∀ d : Nat, q_Sd p l e R s m args below meth c 7 nW dC dI k g A (MQ below (q_post (dC, dI) k g nW Q A) args s 0 0 A) d (x_cut (is_X12_assumed d) (J d))) : q_Sd p l e R s m args below meth c 7 nW dC dI k g A (MQ below (q_post (dC, dI) k g nW Q A) args s 0 0 A) 32 (b_X12_assumed_32 J Q) := by
  unfold b_X12_assumed_32
  refine s_iconst X ⟨by decide, by decide⟩ dX12_assumed_32 ?_
  exact s_iret X dX12_assumed_33
set_option maxRecDepth 100000 in
def b_X12_assumed_0 (J : Nat → List qV → List qV → qW → Prop) (Q : qR) : qK := x_aload 0 (x_int 0 (x_put 12 0 q_oki (x_nw (x_iload 2 (x_int 0 (x_int 99 (x_callr none 3 spr_X12_in (x_if_eq (b_X12_assumed_32 J Q) (x_aload 0 (x_iload 1 (x_call (some 12) 2 sp_X12_hand (x_nw (x_if_eq (b_X12_assumed_32 J Q) (x_iload 3 (x_int 0 (x_int 3 (x_callr none 3 spr_X12_in (x_if_ne (x_iload 3 (x_if_ne (x_iload 3 (x_int 3 (x_icmp_ge (x_int 0 (x_istore 4 (x_int 1 (x_istore 5 (x_cut [0, 4, 5] (J 117)))))) (x_aload 0 (x_iload 2 (x_int 1 (x_callr (some 12) 3 spr_X12_upTo (x_istore 4 (x_int 1 (x_aload 0 (x_iload 2 (x_int 0 (x_callr (some 12) 3 spr_X12_upTo (x_callr none 2 spr_X12_greater (x_istore 5 (x_iload 5 (b_X12_assumed_71 J Q))))))))))))))))) (x_aload 0 (x_iload 2 (x_callr (some 12) 2 spr_X12_wrong (x_iret Q)))))) (b_X12_assumed_32 J Q)))))))))))))))))))
set_option maxRecDepth 100000 in
theorem s_X12_assumed_0 {p : Program} {l : Launch} {e : Env} {R : Room} {s : State} {m : MethodId} {args : Array Value} {below : List Frame} {meth : Method} {c : Code} {nW : Nat} {dC : Nat → ClassId} {dI : Nat → Nat → Nat} {k : Nat → ClassId} {g : Nat → Nat} {A : Nat → Prop} {J : Nat → List qV → List qV → qW → Prop} {Q : qR} (X : q_X p R s m args meth c cX12_assumed 7 nW 3 66 RX12 (some .int) dC dI k g A) (hJ : ∀ d : Nat, q_Sd p l e R s m args below meth c 7 nW dC dI k g A (MQ below (q_post (dC, dI) k g nW Q A) args s 0 0 A) d (x_cut (is_X12_assumed d) (J d))) : q_Sd p l e R s m args below meth c 7 nW dC dI k g A (MQ below (q_post (dC, dI) k g nW Q A) args s 0 0 A) 0 (b_X12_assumed_0 J Q) := by
  unfold b_X12_assumed_0
  refine s_aload_n X rfl dX12_assumed_0 ?_
  refine s_iconst X ⟨by decide, by decide⟩ dX12_assumed_1 ?_
  refine s_put X (T := TX12) (C := RX12) (N := 45) tu_X12 tyX12_ok nmX12 rfl (by decide) tw_997 rfl (by decide +kernel) q_oki_t dX12_assumed_2 ?_
  refine s_nw ?_
  refine s_iload_n X rfl dX12_assumed_5 ?_
  refine s_iconst X ⟨by decide, by decide⟩ dX12_assumed_6 ?_
  refine s_bipush X ⟨by decide, by decide⟩ (by decide) dX12_assumed_7 ?_
  refine s_callSr X (m_X12_in l) tw_1054 tw_1055 tw_134 tw_1056 (by decide +kernel) ⟨by decide, by decide⟩ dX12_assumed_9 ?_
  refine s_if_eq X (tgt := 32) dX12_assumed_12 (by decide) ?_ ?_
  · exact s_X12_assumed_32 X hJ
  · refine s_aload_n X rfl dX12_assumed_15 ?_
    refine s_iload_n X rfl dX12_assumed_16 ?_
    refine s_callV X (m_X12_hand l) tw_1186 tw_1187 tw_1585 tw_134 tw_1188 rfl (by decide +kernel) ⟨by decide, by decide⟩ dX12_assumed_17 ?_
    refine s_nw ?_
    refine s_if_eq X (tgt := 32) dX12_assumed_20 (by decide) ?_ ?_
    · exact s_X12_assumed_32 X hJ
    · refine s_iload_n X rfl dX12_assumed_23 ?_
      refine s_iconst X ⟨by decide, by decide⟩ dX12_assumed_24 ?_
      refine s_iconst X ⟨by decide, by decide⟩ dX12_assumed_25 ?_
      refine s_callSr X (m_X12_in l) tw_1054 tw_1055 tw_134 tw_1056 (by decide +kernel) ⟨by decide, by decide⟩ dX12_assumed_26 ?_
      refine s_if_ne X (tgt := 34) dX12_assumed_29 (by decide) ?_ ?_
      · refine s_iload_n X rfl dX12_assumed_34 ?_
        refine s_if_ne X (tgt := 44) dX12_assumed_35 (by decide) ?_ ?_
        · refine s_iload_n X rfl dX12_assumed_44 ?_
          refine s_iconst X ⟨by decide, by decide⟩ dX12_assumed_45 ?_
          refine s_icmp_ge X (tgt := 111) dX12_assumed_46 (by decide) ?_ ?_
          · refine s_iconst X ⟨by decide, by decide⟩ dX12_assumed_111 ?_
            refine s_istore X (by decide) dX12_assumed_112 ?_
            refine s_iconst X ⟨by decide, by decide⟩ dX12_assumed_114 ?_
            refine s_istore X (by decide) dX12_assumed_115 ?_
            exact hJ 117
          · refine s_aload_n X rfl dX12_assumed_49 ?_
            refine s_iload_n X rfl dX12_assumed_50 ?_
            refine s_iconst X ⟨by decide, by decide⟩ dX12_assumed_51 ?_
            refine s_callVr X (m_X12_upTo l) tw_1455 tw_1456 tw_1628 tw_134 tw_1457 rfl (by decide +kernel) ⟨by decide, by decide⟩ dX12_assumed_52 ?_
            refine s_istore X (by decide) dX12_assumed_55 ?_
            refine s_iconst X ⟨by decide, by decide⟩ dX12_assumed_57 ?_
            refine s_aload_n X rfl dX12_assumed_58 ?_
            refine s_iload_n X rfl dX12_assumed_59 ?_
            refine s_iconst X ⟨by decide, by decide⟩ dX12_assumed_60 ?_
            refine s_callVr X (m_X12_upTo l) tw_1455 tw_1456 tw_1628 tw_134 tw_1457 rfl (by decide +kernel) ⟨by decide, by decide⟩ dX12_assumed_61 ?_
            refine s_callSr X (m_X12_greater l) tw_1118 tw_1119 tw_134 tw_1120 (by decide +kernel) ⟨by decide, by decide⟩ dX12_assumed_64 ?_
            refine s_istore X (by decide) dX12_assumed_67 ?_
            refine s_iload X dX12_assumed_69 ?_
            exact s_X12_assumed_71 X hJ
        · refine s_aload_n X rfl dX12_assumed_38 ?_
          refine s_iload_n X rfl dX12_assumed_39 ?_
          refine s_callVr X (m_X12_wrong l) tw_1452 tw_1453 tw_1632 tw_134 tw_1454 rfl (by decide +kernel) ⟨by decide, by decide⟩ dX12_assumed_40 ?_
          exact s_iret X dX12_assumed_43
      · exact s_X12_assumed_32 X hJ

def sp_X12_assumed : qS := fun av w Q => ∃ (mco : Int) (mre : Int) (mle : Int) (mbe : Int) (mso : Int) (mva : Int) (mwo : Int) (mwr : Int) (mlf : Int) (mlp : Int) (mfp : Int) (mfd : Int) (mgo : Int) (mbo : Int) (mpe : Int) (mye : Int) (mpr : Int) (mld : Int) (msi : Int) (mse : Int) (mn : Nat → Int) (bs : Nat → Int) (a : Int) (b : Int) (cc : Int), av = [q2 0, q1 a, q1 b, q1 cc] ∧ w = [.inr (12, [q1 mco, q2 3, q2 4, q2 5, q2 6, q2 1, q2 2, q2 7, q2 8, q2 9, q1 mre, q1 mle, q1 mbe, q1 mso, q1 mva, q3 mwo, q1 mwr, q1 mlf, q1 mlp, q2 10, q2 11, q1 mfp, q1 mfd, q1 mgo, q1 mbo, q1 mpe, q1 mye, q2 12, q1 mpr, q2 13, q2 14, q2 15, q2 16, q1 mld, q2 17, q1 msi, q2 18, q2 19, q2 20, q2 21, q2 22, q1 mse, q2 23, q2 24, q2 25]), .inl (0, 16, .inl mn), .inl (0, 600, .inl bs)] ∧ (q_rg 0 2 mn) ∧ (BI bs) ∧ (∀ (r : Int) (x_mco : Int) (x_mbo : Int) (x_mpe : Int), Q (some (q1 r)) ([.inr (12, [q1 x_mco, q2 3, q2 4, q2 5, q2 6, q2 1, q2 2, q2 7, q2 8, q2 9, q1 mre, q1 mle, q1 mbe, q1 mso, q1 mva, q3 mwo, q1 mwr, q1 mlf, q1 mlp, q2 10, q2 11, q1 mfp, q1 mfd, q1 mgo, q1 x_mbo, q1 x_mpe, q1 mye, q2 12, q1 mpr, q2 13, q2 14, q2 15, q2 16, q1 mld, q2 17, q1 msi, q2 18, q2 19, q2 20, q2 21, q2 22, q1 mse, q2 23, q2 24, q2 25]), .inl (0, 16, .inl mn), .inl (0, 600, .inl bs)]))
def I_X12_assumed (mco : Int) (mre : Int) (mle : Int) (mbe : Int) (mso : Int) (mva : Int) (mwo : Int) (mwr : Int) (mlf : Int) (mlp : Int) (mfp : Int) (mfd : Int) (mgo : Int) (mbo : Int) (mpe : Int) (mye : Int) (mpr : Int) (mld : Int) (msi : Int) (mse : Int) (mn : Nat → Int) (bs : Nat → Int) (a : Int) (b : Int) (cc : Int) : Nat → Nat → List qV → List qV → qW → Prop := fun dz mz vz sz wz => if dz = 73 then (∃ (y_mco : Int) (y_mbo : Int) (y_mpe : Int) (v4 : Int) (v5 : Int) (v6 : Int), vz = [q1 cc, q1 v4, q1 v5, q1 v6] ∧ sz = [] ∧ wz = [.inr (12, [q1 y_mco, q2 3, q2 4, q2 5, q2 6, q2 1, q2 2, q2 7, q2 8, q2 9, q1 mre, q1 mle, q1 mbe, q1 mso, q1 mva, q3 mwo, q1 mwr, q1 mlf, q1 mlp, q2 10, q2 11, q1 mfp, q1 mfd, q1 mgo, q1 y_mbo, q1 y_mpe, q1 mye, q2 12, q1 mpr, q2 13, q2 14, q2 15, q2 16, q1 mld, q2 17, q1 msi, q2 18, q2 19, q2 20, q2 21, q2 22, q1 mse, q2 23, q2 24, q2 25]), .inl (0, 16, .inl mn), .inl (0, 600, .inl bs)] ∧ mz = v6.toNat ∧ (1 ≤ v6 ∧ v6 ≤ 8 ∧ 0 ≤ v4 ∧ v4 ≤ 8 ∧ 1 ≤ v5 ∧ v5 ≤ 8)) else if dz = 117 then (∃ (y_mco : Int) (y_mbo : Int) (y_mpe : Int) (v4 : Int) (v5 : Int), vz = [q2 0, q1 v4, q1 v5] ∧ sz = [] ∧ wz = [.inr (12, [q1 y_mco, q2 3, q2 4, q2 5, q2 6, q2 1, q2 2, q2 7, q2 8, q2 9, q1 mre, q1 mle, q1 mbe, q1 mso, q1 mva, q3 mwo, q1 mwr, q1 mlf, q1 mlp, q2 10, q2 11, q1 mfp, q1 mfd, q1 mgo, q1 y_mbo, q1 y_mpe, q1 mye, q2 12, q1 mpr, q2 13, q2 14, q2 15, q2 16, q1 mld, q2 17, q1 msi, q2 18, q2 19, q2 20, q2 21, q2 22, q1 mse, q2 23, q2 24, q2 25]), .inl (0, 16, .inl mn), .inl (0, 600, .inl bs)] ∧ mz = (100 - v5).toNat ∧ (0 ≤ y_mbo ∧ y_mbo ≤ 1 ∧ 0 ≤ y_mpe ∧ y_mpe ≤ 8) ∧ (1 ≤ v5 ∧ v5 ≤ 100)) else False
set_option maxHeartbeats 4000000 in
set_option maxRecDepth 100000 in
theorem m_X12_assumed (l : Launch) : q_M l yX12_assumed cX12_assumed 7 (some .int) 3 66 sp_X12_assumed := by
  refine q_meth (by decide) (fun av w Q h => by obtain ⟨mco, mre, mle, mbe, mso, mva, mwo, mwr, mlf, mlp, mfp, mfd, mgo, mbo, mpe, mye, mpr, mld, msi, mse, mn, bs, a, b, cc, rfl, rfl, hmn, hbi, hQ⟩ := h; exact Nat.le_of_ble_eq_true rfl) ?_
  intro p e R s m args below meth c dC dI k g A av w Q hsp oka okw X
  obtain ⟨mco, mre, mle, mbe, mso, mva, mwo, mwr, mlf, mlp, mfp, mfd, mgo, mbo, mpe, mye, mpr, mld, msi, mse, mn, bs, a, b, cc, rfl, rfl, hmn, hbi, hQ⟩ := hsp
  have o_a : -2147483648 ≤ a ∧ a ≤ 2147483647 := oka _ (List.mem_of_getElem? (i := 1) rfl)
  have o_b : -2147483648 ≤ b ∧ b ≤ 2147483647 := oka _ (List.mem_of_getElem? (i := 2) rfl)
  have o_cc : -2147483648 ≤ cc ∧ cc ≤ 2147483647 := oka _ (List.mem_of_getElem? (i := 3) rfl)
  refine s_mono (s_X12_assumed_0 X (J := fun dz vz sz wz => ∃ mz, I_X12_assumed mco mre mle mbe mso mva mwo mwr mlf mlp mfp mfd mgo mbo mpe mye mpr mld msi mse mn bs a b cc dz mz vz sz wz) (q_loopn (I_X12_assumed mco mre mle mbe mso mva mwo mwr mlf mlp mfp mfd mgo mbo mpe mye mpr mld msi mse mn bs a b cc) (fun dz J => if dz = 73 then b_X12_assumed_73 J Q else if dz = 117 then b_X12_assumed_117 J Q else q_F) ?hs ?hv)) ?_
  case hs =>
    intro d J hJ
    by_cases h73 : d = 73
    · subst h73; exact s_X12_assumed_73 X hJ
    by_cases h117 : d = 117
    · subst h117; exact s_X12_assumed_117 X hJ
    simp only [h73, h117, if_false]
    exact s_F
  case hv =>
    intro dz mz vz sz wz hI okv oks okw hlen
    by_cases h73 : dz = 73
    · subst h73
      obtain ⟨y_mco, y_mbo, y_mpe, v4, v5, v6, rfl, rfl, rfl, hn, hp⟩ := hI
      apply And.intro
      · first | omega | (intro e9; omega)
      intro z77 h77
      first | replace h77 := e_rem h77 (by omega) (by omega) | replace h77 := e_rng h77
      apply And.intro
      · intro h78
        intro z89 h89
        first | replace h89 := e_add h89 (by omega) | replace h89 := e_rng h89
        exact ⟨_, ⟨_, _, _, _, _, _, rfl, rfl, rfl, rfl, (by first | omega | assumption | exact q_rg_up (by assumption) (by omega) | exact q_rg_up (q_rg_up (by assumption) (by omega)) (by omega) | exact q_rg_cpy (by assumption) (by assumption))⟩, by omega⟩
      · intro h78
        apply And.intro
        · first | omega | (intro e9; omega)
        intro z85 h85
        first | replace h85 := e_rem h85 (by omega) (by omega) | replace h85 := e_rng h85
        apply And.intro
        · intro h86
          apply And.intro
          · intro h97
            apply And.intro
            · first | omega | (intro e9; omega)
            intro z109 h109
            first | replace h109 := e_div h109 (by omega) (by omega) | replace h109 := e_rng h109
            exact hQ _ _ _ _
          · intro h97
            apply And.intro
            · first | omega | (intro e9; omega)
            intro z109 h109
            first | replace h109 := e_div h109 (by omega) (by omega) | replace h109 := e_rng h109
            exact hQ _ _ _ _
        · intro h86
          intro z89 h89
          first | replace h89 := e_add h89 (by omega) | replace h89 := e_rng h89
          exact ⟨_, ⟨_, _, _, _, _, _, rfl, rfl, rfl, rfl, (by first | omega | assumption | exact q_rg_up (by assumption) (by omega) | exact q_rg_up (q_rg_up (by assumption) (by omega)) (by omega) | exact q_rg_cpy (by assumption) (by assumption))⟩, by omega⟩
    by_cases h117 : dz = 117
    · subst h117
      obtain ⟨y_mco, y_mbo, y_mpe, v4, v5, rfl, rfl, rfl, hn, hyb, hp⟩ := hI
      apply And.intro
      · intro h121
        exact hQ _ _ _ _
      · intro h121
        refine Exists.intro [0, 2, 3, 4, 5, 6, 1, 7, 8, 9, 10, 11, 12, 13, 14, 15, 16, 17, 18, 19, 20, 21, 22, 23, 24, 25] (Exists.intro [q2 0, q1 _] (Exists.intro ([.inr (12, [q1 _, q2 2, q2 3, q2 4, q2 5, q2 6, q2 1, q2 7, q2 8, q2 9, q1 _, q1 _, q1 _, q1 _, q1 _, q3 _, q1 _, q1 _, q1 _, q2 10, q2 11, q1 _, q1 _, q1 _, q1 _, q1 _, q1 _, q2 12, q1 _, q2 13, q2 14, q2 15, q2 16, q1 _, q2 17, q1 _, q2 18, q2 19, q2 20, q2 21, q2 22, q1 _, q2 23, q2 24, q2 25]), .inl (0, 600, .inl _)]) (And.intro rfl (And.intro rfl (And.intro rfl (And.intro ⟨⟨_, rfl⟩, rfl⟩ ?_))))))
        refine Exists.intro _ (Exists.intro _ (Exists.intro _ (Exists.intro _ (Exists.intro _ (Exists.intro _ (Exists.intro _ (Exists.intro _ (Exists.intro _ (Exists.intro _ (Exists.intro _ (Exists.intro _ (Exists.intro _ (Exists.intro _ (Exists.intro _ (Exists.intro _ (Exists.intro _ (Exists.intro _ (Exists.intro _ (Exists.intro _ (Exists.intro _ (Exists.intro _ (And.intro rfl (And.intro rfl (And.intro (by first | omega | assumption | exact q_rg_up (by assumption) (by omega) | exact q_rg_up (q_rg_up (by assumption) (by omega)) (by omega) | exact q_rg_cpy (by assumption) (by assumption)) (And.intro (by first | omega | assumption | exact q_rg_up (by assumption) (by omega) | exact q_rg_up (q_rg_up (by assumption) (by omega)) (by omega) | exact q_rg_cpy (by assumption) (by assumption)) (And.intro (by first | omega | assumption | exact q_rg_up (by assumption) (by omega) | exact q_rg_up (q_rg_up (by assumption) (by omega)) (by omega) | exact q_rg_cpy (by assumption) (by assumption)) (?_)))))))))))))))))))))))))))
        intro z127
        refine Exists.intro [0, 2, 3, 4, 5, 6, 1, 7, 8, 9, 10, 11, 12, 13, 14, 15, 16, 17, 18, 19, 20, 21, 22, 23, 24, 25] (Exists.intro [q2 0, q1 _] (Exists.intro ([.inr (12, [q1 _, q2 2, q2 3, q2 4, q2 5, q2 6, q2 1, q2 7, q2 8, q2 9, q1 _, q1 _, q1 _, q1 _, q1 _, q3 _, q1 _, q1 _, q1 _, q2 10, q2 11, q1 _, q1 _, q1 _, q1 _, q1 _, q1 _, q2 12, q1 _, q2 13, q2 14, q2 15, q2 16, q1 _, q2 17, q1 _, q2 18, q2 19, q2 20, q2 21, q2 22, q1 _, q2 23, q2 24, q2 25]), .inl (0, 600, .inl _)]) (And.intro rfl (And.intro rfl (And.intro rfl (And.intro ⟨⟨_, rfl⟩, rfl⟩ ?_))))))
        refine Exists.intro _ (Exists.intro _ (Exists.intro _ (Exists.intro _ (Exists.intro _ (Exists.intro _ (Exists.intro _ (Exists.intro _ (Exists.intro _ (Exists.intro _ (Exists.intro _ (Exists.intro _ (Exists.intro _ (Exists.intro _ (Exists.intro _ (Exists.intro _ (Exists.intro _ (Exists.intro _ (Exists.intro _ (Exists.intro _ (Exists.intro _ (Exists.intro _ (And.intro rfl (And.intro rfl (And.intro (by first | omega | assumption | exact q_rg_up (by assumption) (by omega) | exact q_rg_up (q_rg_up (by assumption) (by omega)) (by omega) | exact q_rg_cpy (by assumption) (by assumption)) (And.intro (by first | omega | assumption | exact q_rg_up (by assumption) (by omega) | exact q_rg_up (q_rg_up (by assumption) (by omega)) (by omega) | exact q_rg_cpy (by assumption) (by assumption)) (And.intro (by first | omega | assumption | exact q_rg_up (by assumption) (by omega) | exact q_rg_up (q_rg_up (by assumption) (by omega)) (by omega) | exact q_rg_cpy (by assumption) (by assumption)) (?_)))))))))))))))))))))))))))
        intro z133
        apply And.intro
        · intro h136
          intro z148 h148
          first | replace h148 := e_add h148 (by omega) | replace h148 := e_rng h148
          exact ⟨_, ⟨_, _, _, _, _, rfl, rfl, rfl, rfl, (by first | omega | assumption | exact q_rg_up (by assumption) (by omega) | exact q_rg_up (q_rg_up (by assumption) (by omega)) (by omega) | exact q_rg_cpy (by assumption) (by assumption)), (by first | omega | assumption | exact q_rg_up (by assumption) (by omega) | exact q_rg_up (q_rg_up (by assumption) (by omega)) (by omega) | exact q_rg_cpy (by assumption) (by assumption))⟩, by omega⟩
        · intro h136
          intro z148 h148
          first | replace h148 := e_add h148 (by omega) | replace h148 := e_rng h148
          exact ⟨_, ⟨_, _, _, _, _, rfl, rfl, rfl, rfl, (by first | omega | assumption | exact q_rg_up (by assumption) (by omega) | exact q_rg_up (q_rg_up (by assumption) (by omega)) (by omega) | exact q_rg_cpy (by assumption) (by assumption)), (by first | omega | assumption | exact q_rg_up (by assumption) (by omega) | exact q_rg_up (q_rg_up (by assumption) (by omega)) (by omega) | exact q_rg_cpy (by assumption) (by assumption))⟩, by omega⟩
    simp only [I_X12_assumed, h73, h117, if_false] at hI
  rintro lv st w' ⟨rfl, rfl, rfl⟩
  apply And.intro
  · exact trivial
  refine Exists.intro [] (Exists.intro [q1 _, q1 _, q1 _] (Exists.intro [] (And.intro rfl (And.intro rfl (And.intro rfl (And.intro trivial ?_))))))
  refine Exists.intro _ (Exists.intro _ (Exists.intro _ (And.intro rfl (And.intro rfl (?_)))))
  intro z9 h9
  apply And.intro
  · intro h12
    first | replace h9 := dj1 h9 h12 | replace h9 := dj0 h9 h12
    exact hQ _ _ _ _
  · intro h12
    first | replace h9 := dj1 h9 h12 | replace h9 := dj0 h9 h12
    refine Exists.intro [0, 1, 2, 3, 4, 5, 6, 7, 8, 9, 10, 11, 12, 13, 14, 15, 16, 17, 18, 19, 20, 21, 22, 23, 24, 25] (Exists.intro [q2 0, q1 _] (Exists.intro ([.inr (12, [q1 _, q2 3, q2 4, q2 5, q2 6, q2 1, q2 2, q2 7, q2 8, q2 9, q1 _, q1 _, q1 _, q1 _, q1 _, q3 _, q1 _, q1 _, q1 _, q2 10, q2 11, q1 _, q1 _, q1 _, q1 _, q1 _, q1 _, q2 12, q1 _, q2 13, q2 14, q2 15, q2 16, q1 _, q2 17, q1 _, q2 18, q2 19, q2 20, q2 21, q2 22, q1 _, q2 23, q2 24, q2 25]), .inl (0, 16, .inl _), .inl (0, 600, .inl _)]) (And.intro rfl (And.intro rfl (And.intro rfl (And.intro ⟨⟨_, rfl⟩, rfl⟩ ?_))))))
    refine Exists.intro _ (Exists.intro _ (Exists.intro _ (Exists.intro _ (Exists.intro _ (Exists.intro _ (Exists.intro _ (Exists.intro _ (Exists.intro _ (Exists.intro _ (Exists.intro _ (Exists.intro _ (Exists.intro _ (Exists.intro _ (Exists.intro _ (Exists.intro _ (Exists.intro _ (Exists.intro _ (Exists.intro _ (Exists.intro _ (Exists.intro _ (Exists.intro _ (Exists.intro _ (And.intro rfl (And.intro rfl (And.intro (by first | omega | assumption | exact q_rg_up (by assumption) (by omega) | exact q_rg_up (q_rg_up (by assumption) (by omega)) (by omega) | exact q_rg_cpy (by assumption) (by assumption)) (And.intro (by first | omega | assumption | exact q_rg_up (by assumption) (by omega) | exact q_rg_up (q_rg_up (by assumption) (by omega)) (by omega) | exact q_rg_cpy (by assumption) (by assumption)) (?_)))))))))))))))))))))))))))
    intro z17 x_mbo_17 x_mpe_17 h17
    apply And.intro
    · intro h20
      first | replace h17 := dj1 h17 h20 | replace h17 := dj0 h17 h20
      exact hQ _ _ _ _
    · intro h20
      first | replace h17 := dj1 h17 h20 | replace h17 := dj0 h17 h20
      refine Exists.intro [] (Exists.intro [q1 _, q1 _, q1 _] (Exists.intro [] (And.intro rfl (And.intro rfl (And.intro rfl (And.intro trivial ?_))))))
      refine Exists.intro _ (Exists.intro _ (Exists.intro _ (And.intro rfl (And.intro rfl (?_)))))
      intro z26 h26
      apply And.intro
      · intro h29
        first | replace h26 := dj1 h26 h29 | replace h26 := dj0 h26 h29
        apply And.intro
        · intro h35
          apply And.intro
          · intro h46
            exact ⟨_, _, _, _, _, _, rfl, rfl, rfl, rfl, (by first | omega | assumption | exact q_rg_up (by assumption) (by omega) | exact q_rg_up (q_rg_up (by assumption) (by omega)) (by omega) | exact q_rg_cpy (by assumption) (by assumption)), (by first | omega | assumption | exact q_rg_up (by assumption) (by omega) | exact q_rg_up (q_rg_up (by assumption) (by omega)) (by omega) | exact q_rg_cpy (by assumption) (by assumption))⟩
          · intro h46
            refine Exists.intro [0, 2, 3, 4, 5, 6, 1, 7, 8, 9, 10, 11, 12, 13, 14, 15, 16, 17, 18, 19, 20, 21, 22, 23, 24, 25] (Exists.intro [q2 0, q1 _, q1 _] (Exists.intro ([.inr (12, [q1 _, q2 2, q2 3, q2 4, q2 5, q2 6, q2 1, q2 7, q2 8, q2 9, q1 _, q1 _, q1 _, q1 _, q1 _, q3 _, q1 _, q1 _, q1 _, q2 10, q2 11, q1 _, q1 _, q1 _, q1 _, q1 _, q1 _, q2 12, q1 _, q2 13, q2 14, q2 15, q2 16, q1 _, q2 17, q1 _, q2 18, q2 19, q2 20, q2 21, q2 22, q1 _, q2 23, q2 24, q2 25]), .inl (0, 600, .inl _)]) (And.intro rfl (And.intro rfl (And.intro rfl (And.intro ⟨⟨_, rfl⟩, rfl⟩ ?_))))))
            refine Exists.intro _ (Exists.intro _ (Exists.intro _ (Exists.intro _ (Exists.intro _ (Exists.intro _ (Exists.intro _ (Exists.intro _ (Exists.intro _ (Exists.intro _ (Exists.intro _ (Exists.intro _ (Exists.intro _ (Exists.intro _ (Exists.intro _ (Exists.intro _ (Exists.intro _ (Exists.intro _ (Exists.intro _ (Exists.intro _ (Exists.intro _ (Exists.intro _ (Exists.intro _ (And.intro rfl (And.intro rfl (And.intro (by first | omega | assumption | exact q_rg_up (by assumption) (by omega) | exact q_rg_up (q_rg_up (by assumption) (by omega)) (by omega) | exact q_rg_cpy (by assumption) (by assumption)) (And.intro (by first | omega | assumption | exact q_rg_up (by assumption) (by omega) | exact q_rg_up (q_rg_up (by assumption) (by omega)) (by omega) | exact q_rg_cpy (by assumption) (by assumption)) (And.intro (by first | omega | assumption | exact q_rg_up (by assumption) (by omega) | exact q_rg_up (q_rg_up (by assumption) (by omega)) (by omega) | exact q_rg_cpy (by assumption) (by assumption)) (?_))))))))))))))))))))))))))))
            intro z52 h52
            refine Exists.intro [0, 2, 3, 4, 5, 6, 1, 7, 8, 9, 10, 11, 12, 13, 14, 15, 16, 17, 18, 19, 20, 21, 22, 23, 24, 25] (Exists.intro [q2 0, q1 _, q1 _] (Exists.intro ([.inr (12, [q1 _, q2 2, q2 3, q2 4, q2 5, q2 6, q2 1, q2 7, q2 8, q2 9, q1 _, q1 _, q1 _, q1 _, q1 _, q3 _, q1 _, q1 _, q1 _, q2 10, q2 11, q1 _, q1 _, q1 _, q1 _, q1 _, q1 _, q2 12, q1 _, q2 13, q2 14, q2 15, q2 16, q1 _, q2 17, q1 _, q2 18, q2 19, q2 20, q2 21, q2 22, q1 _, q2 23, q2 24, q2 25]), .inl (0, 600, .inl _)]) (And.intro rfl (And.intro rfl (And.intro rfl (And.intro ⟨⟨_, rfl⟩, rfl⟩ ?_))))))
            refine Exists.intro _ (Exists.intro _ (Exists.intro _ (Exists.intro _ (Exists.intro _ (Exists.intro _ (Exists.intro _ (Exists.intro _ (Exists.intro _ (Exists.intro _ (Exists.intro _ (Exists.intro _ (Exists.intro _ (Exists.intro _ (Exists.intro _ (Exists.intro _ (Exists.intro _ (Exists.intro _ (Exists.intro _ (Exists.intro _ (Exists.intro _ (Exists.intro _ (Exists.intro _ (And.intro rfl (And.intro rfl (And.intro (by first | omega | assumption | exact q_rg_up (by assumption) (by omega) | exact q_rg_up (q_rg_up (by assumption) (by omega)) (by omega) | exact q_rg_cpy (by assumption) (by assumption)) (And.intro (by first | omega | assumption | exact q_rg_up (by assumption) (by omega) | exact q_rg_up (q_rg_up (by assumption) (by omega)) (by omega) | exact q_rg_cpy (by assumption) (by assumption)) (And.intro (by first | omega | assumption | exact q_rg_up (by assumption) (by omega) | exact q_rg_up (q_rg_up (by assumption) (by omega)) (by omega) | exact q_rg_cpy (by assumption) (by assumption)) (?_))))))))))))))))))))))))))))
            intro z61 h61
            refine Exists.intro [] (Exists.intro [q1 _, q1 _] (Exists.intro [] (And.intro rfl (And.intro rfl (And.intro rfl (And.intro trivial ?_))))))
            refine Exists.intro _ (Exists.intro _ (And.intro rfl (And.intro rfl (?_))))
            intro z64 h64
            exact ⟨_, _, _, _, _, _, _, rfl, rfl, rfl, rfl, (by first | omega | assumption | exact q_rg_up (by assumption) (by omega) | exact q_rg_up (q_rg_up (by assumption) (by omega)) (by omega) | exact q_rg_cpy (by assumption) (by assumption))⟩
        · intro h35
          refine Exists.intro [0, 2, 3, 4, 5, 6, 1, 7, 8, 9, 10, 11, 12, 13, 14, 15, 16, 17, 18, 19, 20, 21, 22, 23, 24, 25] (Exists.intro [q2 0, q1 _] (Exists.intro ([.inr (12, [q1 _, q2 2, q2 3, q2 4, q2 5, q2 6, q2 1, q2 7, q2 8, q2 9, q1 _, q1 _, q1 _, q1 _, q1 _, q3 _, q1 _, q1 _, q1 _, q2 10, q2 11, q1 _, q1 _, q1 _, q1 _, q1 _, q1 _, q2 12, q1 _, q2 13, q2 14, q2 15, q2 16, q1 _, q2 17, q1 _, q2 18, q2 19, q2 20, q2 21, q2 22, q1 _, q2 23, q2 24, q2 25]), .inl (0, 600, .inl _)]) (And.intro rfl (And.intro rfl (And.intro rfl (And.intro ⟨⟨_, rfl⟩, rfl⟩ ?_))))))
          refine Exists.intro _ (Exists.intro _ (Exists.intro _ (Exists.intro _ (Exists.intro _ (Exists.intro _ (Exists.intro _ (Exists.intro _ (Exists.intro _ (Exists.intro _ (Exists.intro _ (Exists.intro _ (Exists.intro _ (Exists.intro _ (Exists.intro _ (Exists.intro _ (Exists.intro _ (Exists.intro _ (Exists.intro _ (Exists.intro _ (Exists.intro _ (Exists.intro _ (And.intro rfl (And.intro rfl (And.intro (by first | omega | assumption | exact q_rg_up (by assumption) (by omega) | exact q_rg_up (q_rg_up (by assumption) (by omega)) (by omega) | exact q_rg_cpy (by assumption) (by assumption)) (And.intro (by first | omega | assumption | exact q_rg_up (by assumption) (by omega) | exact q_rg_up (q_rg_up (by assumption) (by omega)) (by omega) | exact q_rg_cpy (by assumption) (by assumption)) (And.intro (by first | omega | assumption | exact q_rg_up (by assumption) (by omega) | exact q_rg_up (q_rg_up (by assumption) (by omega)) (by omega) | exact q_rg_cpy (by assumption) (by assumption)) (?_)))))))))))))))))))))))))))
          intro z40
          exact hQ _ _ _ _
      · intro h29
        first | replace h26 := dj1 h26 h29 | replace h26 := dj0 h26 h29
        exact hQ _ _ _ _

theorem dX12_more_0 : decode cX12_more 0 = .ok (.iload_n 1, 1) := by decide +kernel
theorem dX12_more_1 : decode cX12_more 1 = .ok (.bipush 8, 2) := by decide +kernel
theorem dX12_more_3 : decode cX12_more 3 = .ok (.if_icmp .ne 10, 3) := by decide +kernel
theorem dX12_more_6 : decode cX12_more 6 = .ok (.aload_n 0, 1) := by decide +kernel
theorem dX12_more_7 : decode cX12_more 7 = .ok (.getfield 324, 3) := by decide +kernel
theorem dX12_more_10 : decode cX12_more 10 = .ok (.goto 29, 3) := by decide +kernel
theorem dX12_more_13 : decode cX12_more 13 = .ok (.iload_n 1, 1) := by decide +kernel
theorem dX12_more_14 : decode cX12_more 14 = .ok (.aload_n 0, 1) := by decide +kernel
theorem dX12_more_15 : decode cX12_more 15 = .ok (.getfield 303, 3) := by decide +kernel
theorem dX12_more_18 : decode cX12_more 18 = .ok (.if_icmp .ge 20, 3) := by decide +kernel
theorem dX12_more_21 : decode cX12_more 21 = .ok (.aload_n 0, 1) := by decide +kernel
theorem dX12_more_22 : decode cX12_more 22 = .ok (.getfield 44, 3) := by decide +kernel
theorem dX12_more_25 : decode cX12_more 25 = .ok (.iload_n 1, 1) := by decide +kernel
theorem dX12_more_26 : decode cX12_more 26 = .ok (.iaload, 1) := by decide +kernel
theorem dX12_more_27 : decode cX12_more 27 = .ok (.aload_n 0, 1) := by decide +kernel
theorem dX12_more_28 : decode cX12_more 28 = .ok (.iconst 5, 1) := by decide +kernel
theorem dX12_more_29 : decode cX12_more 29 = .ok (.iload_n 1, 1) := by decide +kernel
theorem dX12_more_30 : decode cX12_more 30 = .ok (.iadd, 1) := by decide +kernel
theorem dX12_more_31 : decode cX12_more 31 = .ok (.invokevirtual 299, 3) := by decide +kernel
theorem dX12_more_34 : decode cX12_more 34 = .ok (.isub, 1) := by decide +kernel
theorem dX12_more_35 : decode cX12_more 35 = .ok (.goto 4, 3) := by decide +kernel
theorem dX12_more_38 : decode cX12_more 38 = .ok (.iconst 0, 1) := by decide +kernel
theorem dX12_more_39 : decode cX12_more 39 = .ok (.ireturn, 1) := by decide +kernel
def is_X12_more : Nat → List Nat := fun d => []
set_option maxRecDepth 100000 in
def b_X12_more_39 (J : Nat → List qV → List qV → qW → Prop) (Q : qR) : qK := x_iret Q
set_option maxRecDepth 100000 in
theorem s_X12_more_39 {p : Program} {l : Launch} {e : Env} {R : Room} {s : State} {m : MethodId} {args : Array Value} {below : List Frame} {meth : Method} {c : Code} {nW : Nat} {dC : Nat → ClassId} {dI : Nat → Nat → Nat} {k : Nat → ClassId} {g : Nat → Nat} {A : Nat → Prop} {J : Nat → List qV → List qV → qW → Prop} {Q : qR} (X : q_X p R s m args meth c cX12_more 2 nW 1 21 RX12 (some .int) dC dI k g A) (hJ : ∀ d : Nat, q_Sd p l e R s m args below meth c 2 nW dC dI k g A (MQ below (q_post (dC, dI) k g nW Q A) args s 0 0 A) d (x_cut (is_X12_more d) (J d))) : q_Sd p l e R s m args below meth c 2 nW dC dI k g A (MQ below (q_post (dC, dI) k g nW Q A) args s 0 0 A) 39 (b_X12_more_39 J Q) := by
  unfold b_X12_more_39
  exact s_iret X dX12_more_39
set_option maxRecDepth 100000 in
def b_X12_more_0 (J : Nat → List qV → List qV → qW → Prop) (Q : qR) : qK := x_iload 1 (x_int 8 (x_icmp_ne (x_iload 1 (x_aload 0 (x_get 12 25 (x_icmp_ge (x_int 0 (b_X12_more_39 J Q)) (x_aload 0 (x_get 12 27 (x_iload 1 (x_iald (x_aload 0 (x_int 5 (x_iload 1 (x_iadd (x_callr (some 12) 2 spr_X12_of (x_isub (b_X12_more_39 J Q))))))))))))))) (x_aload 0 (x_get 12 28 (b_X12_more_39 J Q)))))
set_option maxRecDepth 100000 in
theorem s_X12_more_0 {p : Program} {l : Launch} {e : Env} {R : Room} {s : State} {m : MethodId} {args : Array Value} {below : List Frame} {meth : Method} {c : Code} {nW : Nat} {dC : Nat → ClassId} {dI : Nat → Nat → Nat} {k : Nat → ClassId} {g : Nat → Nat} {A : Nat → Prop} {J : Nat → List qV → List qV → qW → Prop} {Q : qR} (X : q_X p R s m args meth c cX12_more 2 nW 1 21 RX12 (some .int) dC dI k g A) (hJ : ∀ d : Nat, q_Sd p l e R s m args below meth c 2 nW dC dI k g A (MQ below (q_post (dC, dI) k g nW Q A) args s 0 0 A) d (x_cut (is_X12_more d) (J d))) : q_Sd p l e R s m args below meth c 2 nW dC dI k g A (MQ below (q_post (dC, dI) k g nW Q A) args s 0 0 A) 0 (b_X12_more_0 J Q) := by
  unfold b_X12_more_0
  refine s_iload_n X rfl dX12_more_0 ?_
  refine s_bipush X ⟨by decide, by decide⟩ (by decide) dX12_more_1 ?_
  refine s_icmp_ne X (tgt := 13) dX12_more_3 (by decide) ?_ ?_
  · refine s_iload_n X rfl dX12_more_13 ?_
    refine s_aload_n X rfl dX12_more_14 ?_
    refine s_get X (T := TX12) (C := RX12) (N := 45) tu_X12 rfl (by decide) tw_1022 dX12_more_15 ?_
    refine s_icmp_ge X (tgt := 38) dX12_more_18 (by decide) ?_ ?_
    · refine s_iconst X ⟨by decide, by decide⟩ dX12_more_38 ?_
      exact s_X12_more_39 X hJ
    · refine s_aload_n X rfl dX12_more_21 ?_
      refine s_get X (T := TX12) (C := RX12) (N := 45) tu_X12 rfl (by decide) tw_1024 dX12_more_22 ?_
      refine s_iload_n X rfl dX12_more_25 ?_
      refine s_iald X dX12_more_26 ?_
      refine s_aload_n X rfl dX12_more_27 ?_
      refine s_iconst X ⟨by decide, by decide⟩ dX12_more_28 ?_
      refine s_iload_n X rfl dX12_more_29 ?_
      refine s_iadd X dX12_more_30 ?_
      refine s_callVr X (m_X12_of l) tw_1189 tw_1190 tw_1603 tw_134 tw_1191 rfl (by decide +kernel) ⟨by decide, by decide⟩ dX12_more_31 ?_
      refine s_isub X dX12_more_34 ?_
      refine s_goto X (tgt := 39) dX12_more_35 (by decide) ?_
      exact s_X12_more_39 X hJ
  · refine s_aload_n X rfl dX12_more_6 ?_
    refine s_get X (T := TX12) (C := RX12) (N := 45) tu_X12 rfl (by decide) tw_1025 dX12_more_7 ?_
    refine s_goto X (tgt := 39) dX12_more_10 (by decide) ?_
    exact s_X12_more_39 X hJ

def spr_X12_more : List qV → qW → (Option qV → Prop) → Prop := fun av w Q => ∃ (mco : Int) (mre : Int) (mle : Int) (mbe : Int) (mso : Int) (mva : Int) (mwo : Int) (mwr : Int) (mlf : Int) (mlp : Int) (mfp : Int) (mfd : Int) (mgo : Int) (mbo : Int) (mpe : Int) (mye : Int) (mpr : Int) (mld : Int) (msi : Int) (mse : Int) (tl : Nat → Int) (bs : Nat → Int) (a : Int), av = [q2 0, q1 a] ∧ w = [.inr (12, [q1 mco, q2 3, q2 4, q2 5, q2 6, q2 7, q2 2, q2 8, q2 9, q2 10, q1 mre, q1 mle, q1 mbe, q1 mso, q1 mva, q3 mwo, q1 mwr, q1 mlf, q1 mlp, q2 11, q2 12, q1 mfp, q1 mfd, q1 mgo, q1 mbo, q1 mpe, q1 mye, q2 1, q1 mpr, q2 13, q2 14, q2 15, q2 16, q1 mld, q2 17, q1 msi, q2 18, q2 19, q2 20, q2 21, q2 22, q1 mse, q2 23, q2 24, q2 25]), .inl (0, 8, .inl tl), .inl (0, 600, .inl bs)] ∧ (0 ≤ mbo ∧ mbo ≤ 1) ∧ (0 ≤ mpe ∧ mpe ≤ 8) ∧ (BI bs) ∧ (0 ≤ a ∧ a ≤ 8) ∧ (∀ (r : Int) , Q (some (q1 r)))
def sp_X12_more : qS := fun av w Q => spr_X12_more av w (fun r => Q r w)
set_option maxHeartbeats 4000000 in
set_option maxRecDepth 100000 in
theorem m_X12_more (l : Launch) : q_M l yX12_more cX12_more 2 (some .int) 1 21 sp_X12_more := by
  refine q_meth (by decide) (fun av w Q h => by obtain ⟨mco, mre, mle, mbe, mso, mva, mwo, mwr, mlf, mlp, mfp, mfd, mgo, mbo, mpe, mye, mpr, mld, msi, mse, tl, bs, a, rfl, rfl, hbo, hpe, hbi, ha, hQ⟩ := h; exact Nat.le_of_ble_eq_true rfl) ?_
  intro p e R s m args below meth c dC dI k g A av w Q hsp oka okw X
  obtain ⟨mco, mre, mle, mbe, mso, mva, mwo, mwr, mlf, mlp, mfp, mfd, mgo, mbo, mpe, mye, mpr, mld, msi, mse, tl, bs, a, rfl, rfl, hbo, hpe, hbi, ha, hQ⟩ := hsp
  have o_a : -2147483648 ≤ a ∧ a ≤ 2147483647 := oka _ (List.mem_of_getElem? (i := 1) rfl)
  refine s_mono (s_X12_more_0 X (J := fun _ _ _ _ => False) (fun d => s_cutF)) ?_
  rintro lv st w' ⟨rfl, rfl, rfl⟩
  apply And.intro
  · intro h3
    apply And.intro
    · intro h18
      exact hQ _
    · intro h18
      apply And.intro
      · exact ⟨by omega, by omega⟩
      intro z26 h26
      intro z30 h30
      first | replace h30 := e_add h30 (by omega) | replace h30 := e_rng h30
      refine Exists.intro [0, 2, 3, 4, 5, 6, 7, 8, 9, 10, 11, 12, 1, 13, 14, 15, 16, 17, 18, 19, 20, 21, 22, 23, 24, 25] (Exists.intro [q2 0, q1 _] (Exists.intro ([.inr (12, [q1 _, q2 2, q2 3, q2 4, q2 5, q2 6, q2 1, q2 7, q2 8, q2 9, q1 _, q1 _, q1 _, q1 _, q1 _, q3 _, q1 _, q1 _, q1 _, q2 10, q2 11, q1 _, q1 _, q1 _, q1 _, q1 _, q1 _, q2 12, q1 _, q2 13, q2 14, q2 15, q2 16, q1 _, q2 17, q1 _, q2 18, q2 19, q2 20, q2 21, q2 22, q1 _, q2 23, q2 24, q2 25]), .inl (0, 600, .inl _)]) (And.intro rfl (And.intro rfl (And.intro rfl (And.intro ⟨⟨_, rfl⟩, rfl⟩ ?_))))))
      refine Exists.intro _ (Exists.intro _ (Exists.intro _ (Exists.intro _ (Exists.intro _ (Exists.intro _ (Exists.intro _ (Exists.intro _ (Exists.intro _ (Exists.intro _ (Exists.intro _ (Exists.intro _ (Exists.intro _ (Exists.intro _ (Exists.intro _ (Exists.intro _ (Exists.intro _ (Exists.intro _ (Exists.intro _ (Exists.intro _ (Exists.intro _ (Exists.intro _ (And.intro rfl (And.intro rfl (And.intro (by first | omega | assumption | exact q_rg_up (by assumption) (by omega) | exact q_rg_up (q_rg_up (by assumption) (by omega)) (by omega) | exact q_rg_cpy (by assumption) (by assumption)) (And.intro (by first | omega | assumption | exact q_rg_up (by assumption) (by omega) | exact q_rg_up (q_rg_up (by assumption) (by omega)) (by omega) | exact q_rg_cpy (by assumption) (by assumption)) (And.intro (by first | omega | assumption | exact q_rg_up (by assumption) (by omega) | exact q_rg_up (q_rg_up (by assumption) (by omega)) (by omega) | exact q_rg_cpy (by assumption) (by assumption)) (?_)))))))))))))))))))))))))))
      intro z31 h31
      obtain ⟨h31, k31⟩ := h31
      first | replace k31 := OFQ_13 k31 (by omega) | replace k31 := OFQ_21 k31 (by omega) | clear k31
      intro z34 h34
      first | replace h34 := e_sub h34 (by omega) | replace h34 := e_rng h34
      exact hQ _
  · intro h3
    exact hQ _

theorem dX12_settled_0 : decode cX12_settled 0 = .ok (.aload_n 0, 1) := by decide +kernel
theorem dX12_settled_1 : decode cX12_settled 1 = .ok (.iconst 0, 1) := by decide +kernel
theorem dX12_settled_2 : decode cX12_settled 2 = .ok (.putfield 88, 3) := by decide +kernel
theorem dX12_settled_5 : decode cX12_settled 5 = .ok (.aload_n 0, 1) := by decide +kernel
theorem dX12_settled_6 : decode cX12_settled 6 = .ok (.iload_n 1, 1) := by decide +kernel
theorem dX12_settled_7 : decode cX12_settled 7 = .ok (.iload_n 2, 1) := by decide +kernel
theorem dX12_settled_8 : decode cX12_settled 8 = .ok (.invokevirtual 351, 3) := by decide +kernel
theorem dX12_settled_11 : decode cX12_settled 11 = .ok (.ifCond .eq 24, 3) := by decide +kernel
theorem dX12_settled_14 : decode cX12_settled 14 = .ok (.iload_n 3, 1) := by decide +kernel
theorem dX12_settled_15 : decode cX12_settled 15 = .ok (.iconst 0, 1) := by decide +kernel
theorem dX12_settled_16 : decode cX12_settled 16 = .ok (.aload_n 0, 1) := by decide +kernel
theorem dX12_settled_17 : decode cX12_settled 17 = .ok (.invokevirtual 318, 3) := by decide +kernel
theorem dX12_settled_20 : decode cX12_settled 20 = .ok (.invokestatic 100, 3) := by decide +kernel
theorem dX12_settled_23 : decode cX12_settled 23 = .ok (.ifCond .eq 12, 3) := by decide +kernel
theorem dX12_settled_26 : decode cX12_settled 26 = .ok (.aload_n 0, 1) := by decide +kernel
theorem dX12_settled_27 : decode cX12_settled 27 = .ok (.iload_n 3, 1) := by decide +kernel
theorem dX12_settled_28 : decode cX12_settled 28 = .ok (.invokevirtual 354, 3) := by decide +kernel
theorem dX12_settled_31 : decode cX12_settled 31 = .ok (.iload_n 3, 1) := by decide +kernel
theorem dX12_settled_32 : decode cX12_settled 32 = .ok (.if_icmp .ge 5, 3) := by decide +kernel
theorem dX12_settled_35 : decode cX12_settled 35 = .ok (.iconst (-1), 1) := by decide +kernel
theorem dX12_settled_36 : decode cX12_settled 36 = .ok (.ireturn, 1) := by decide +kernel
theorem dX12_settled_37 : decode cX12_settled 37 = .ok (.iconst 0, 1) := by decide +kernel
theorem dX12_settled_38 : decode cX12_settled 38 = .ok (.istore 4, 2) := by decide +kernel
theorem dX12_settled_40 : decode cX12_settled 40 = .ok (.iconst 0, 1) := by decide +kernel
theorem dX12_settled_41 : decode cX12_settled 41 = .ok (.istore 5, 2) := by decide +kernel
theorem dX12_settled_43 : decode cX12_settled 43 = .ok (.iload 5, 2) := by decide +kernel
theorem dX12_settled_45 : decode cX12_settled 45 = .ok (.bipush 8, 2) := by decide +kernel
theorem dX12_settled_47 : decode cX12_settled 47 = .ok (.if_icmp .gt 31, 3) := by decide +kernel
theorem dX12_settled_50 : decode cX12_settled 50 = .ok (.iload 4, 2) := by decide +kernel
theorem dX12_settled_52 : decode cX12_settled 52 = .ok (.aload_n 0, 1) := by decide +kernel
theorem dX12_settled_53 : decode cX12_settled 53 = .ok (.iload 5, 2) := by decide +kernel
theorem dX12_settled_55 : decode cX12_settled 55 = .ok (.invokevirtual 513, 3) := by decide +kernel
theorem dX12_settled_58 : decode cX12_settled 58 = .ok (.ifCond .eq 10, 3) := by decide +kernel
theorem dX12_settled_61 : decode cX12_settled 61 = .ok (.iconst 1, 1) := by decide +kernel
theorem dX12_settled_62 : decode cX12_settled 62 = .ok (.iload 5, 2) := by decide +kernel
theorem dX12_settled_64 : decode cX12_settled 64 = .ok (.ishl, 1) := by decide +kernel
theorem dX12_settled_65 : decode cX12_settled 65 = .ok (.goto 4, 3) := by decide +kernel
theorem dX12_settled_68 : decode cX12_settled 68 = .ok (.iconst 0, 1) := by decide +kernel
theorem dX12_settled_69 : decode cX12_settled 69 = .ok (.ior, 1) := by decide +kernel
theorem dX12_settled_70 : decode cX12_settled 70 = .ok (.istore 4, 2) := by decide +kernel
theorem dX12_settled_72 : decode cX12_settled 72 = .ok (.iinc 5 1, 3) := by decide +kernel
theorem dX12_settled_75 : decode cX12_settled 75 = .ok (.goto (-32), 3) := by decide +kernel
theorem dX12_settled_78 : decode cX12_settled 78 = .ok (.iconst 0, 1) := by decide +kernel
theorem dX12_settled_79 : decode cX12_settled 79 = .ok (.istore 5, 2) := by decide +kernel
theorem dX12_settled_81 : decode cX12_settled 81 = .ok (.iload 5, 2) := by decide +kernel
theorem dX12_settled_83 : decode cX12_settled 83 = .ok (.sipush 512, 3) := by decide +kernel
theorem dX12_settled_86 : decode cX12_settled 86 = .ok (.if_icmp .ge 131, 3) := by decide +kernel
theorem dX12_settled_89 : decode cX12_settled 89 = .ok (.iconst 0, 1) := by decide +kernel
theorem dX12_settled_90 : decode cX12_settled 90 = .ok (.istore 6, 2) := by decide +kernel
theorem dX12_settled_92 : decode cX12_settled 92 = .ok (.iconst 0, 1) := by decide +kernel
theorem dX12_settled_93 : decode cX12_settled 93 = .ok (.istore 7, 2) := by decide +kernel
theorem dX12_settled_95 : decode cX12_settled 95 = .ok (.iconst 0, 1) := by decide +kernel
theorem dX12_settled_96 : decode cX12_settled 96 = .ok (.istore 8, 2) := by decide +kernel
theorem dX12_settled_98 : decode cX12_settled 98 = .ok (.iload 8, 2) := by decide +kernel
theorem dX12_settled_100 : decode cX12_settled 100 = .ok (.bipush 8, 2) := by decide +kernel
theorem dX12_settled_102 : decode cX12_settled 102 = .ok (.if_icmp .gt 70, 3) := by decide +kernel
theorem dX12_settled_105 : decode cX12_settled 105 = .ok (.iload 6, 2) := by decide +kernel
theorem dX12_settled_107 : decode cX12_settled 107 = .ok (.iload 5, 2) := by decide +kernel
theorem dX12_settled_109 : decode cX12_settled 109 = .ok (.iload 8, 2) := by decide +kernel
theorem dX12_settled_111 : decode cX12_settled 111 = .ok (.invokestatic 92, 3) := by decide +kernel
theorem dX12_settled_114 : decode cX12_settled 114 = .ok (.ifCond .eq 12, 3) := by decide +kernel
theorem dX12_settled_117 : decode cX12_settled 117 = .ok (.aload_n 0, 1) := by decide +kernel
theorem dX12_settled_118 : decode cX12_settled 118 = .ok (.iload 8, 2) := by decide +kernel
theorem dX12_settled_120 : decode cX12_settled 120 = .ok (.invokevirtual 513, 3) := by decide +kernel
theorem dX12_settled_123 : decode cX12_settled 123 = .ok (.goto 4, 3) := by decide +kernel
theorem dX12_settled_126 : decode cX12_settled 126 = .ok (.iconst 0, 1) := by decide +kernel
theorem dX12_settled_127 : decode cX12_settled 127 = .ok (.iadd, 1) := by decide +kernel
theorem dX12_settled_128 : decode cX12_settled 128 = .ok (.istore 6, 2) := by decide +kernel
theorem dX12_settled_130 : decode cX12_settled 130 = .ok (.iload 5, 2) := by decide +kernel
theorem dX12_settled_132 : decode cX12_settled 132 = .ok (.iload 8, 2) := by decide +kernel
theorem dX12_settled_134 : decode cX12_settled 134 = .ok (.invokestatic 92, 3) := by decide +kernel
theorem dX12_settled_137 : decode cX12_settled 137 = .ok (.ifCond .eq 25, 3) := by decide +kernel
theorem dX12_settled_140 : decode cX12_settled 140 = .ok (.iload 7, 2) := by decide +kernel
theorem dX12_settled_142 : decode cX12_settled 142 = .ok (.aload_n 0, 1) := by decide +kernel
theorem dX12_settled_143 : decode cX12_settled 143 = .ok (.getfield 81, 3) := by decide +kernel
theorem dX12_settled_146 : decode cX12_settled 146 = .ok (.iload 5, 2) := by decide +kernel
theorem dX12_settled_148 : decode cX12_settled 148 = .ok (.iconst 1, 1) := by decide +kernel
theorem dX12_settled_149 : decode cX12_settled 149 = .ok (.iload 8, 2) := by decide +kernel
theorem dX12_settled_151 : decode cX12_settled 151 = .ok (.ishl, 1) := by decide +kernel
theorem dX12_settled_152 : decode cX12_settled 152 = .ok (.iconst (-1), 1) := by decide +kernel
theorem dX12_settled_153 : decode cX12_settled 153 = .ok (.ixor, 1) := by decide +kernel
theorem dX12_settled_154 : decode cX12_settled 154 = .ok (.iand, 1) := by decide +kernel
theorem dX12_settled_155 : decode cX12_settled 155 = .ok (.iaload, 1) := by decide +kernel
theorem dX12_settled_156 : decode cX12_settled 156 = .ok (.invokestatic 162, 3) := by decide +kernel
theorem dX12_settled_159 : decode cX12_settled 159 = .ok (.goto 5, 3) := by decide +kernel
theorem dX12_settled_162 : decode cX12_settled 162 = .ok (.iload 7, 2) := by decide +kernel
theorem dX12_settled_164 : decode cX12_settled 164 = .ok (.istore 7, 2) := by decide +kernel
theorem dX12_settled_166 : decode cX12_settled 166 = .ok (.iinc 8 1, 3) := by decide +kernel
theorem dX12_settled_169 : decode cX12_settled 169 = .ok (.goto (-71), 3) := by decide +kernel
theorem dX12_settled_172 : decode cX12_settled 172 = .ok (.aload_n 0, 1) := by decide +kernel
theorem dX12_settled_173 : decode cX12_settled 173 = .ok (.getfield 81, 3) := by decide +kernel
theorem dX12_settled_176 : decode cX12_settled 176 = .ok (.iload 5, 2) := by decide +kernel
theorem dX12_settled_178 : decode cX12_settled 178 = .ok (.iload 7, 2) := by decide +kernel
theorem dX12_settled_180 : decode cX12_settled 180 = .ok (.iload 5, 2) := by decide +kernel
theorem dX12_settled_182 : decode cX12_settled 182 = .ok (.ifCond .le 12, 3) := by decide +kernel
theorem dX12_settled_185 : decode cX12_settled 185 = .ok (.iload 6, 2) := by decide +kernel
theorem dX12_settled_187 : decode cX12_settled 187 = .ok (.ifCond .ne 7, 3) := by decide +kernel
theorem dX12_settled_190 : decode cX12_settled 190 = .ok (.iconst 1, 1) := by decide +kernel
theorem dX12_settled_191 : decode cX12_settled 191 = .ok (.goto 4, 3) := by decide +kernel
theorem dX12_settled_194 : decode cX12_settled 194 = .ok (.iconst 0, 1) := by decide +kernel
theorem dX12_settled_195 : decode cX12_settled 195 = .ok (.iadd, 1) := by decide +kernel
theorem dX12_settled_196 : decode cX12_settled 196 = .ok (.iastore, 1) := by decide +kernel
theorem dX12_settled_197 : decode cX12_settled 197 = .ok (.iload 5, 2) := by decide +kernel
theorem dX12_settled_199 : decode cX12_settled 199 = .ok (.iload 4, 2) := by decide +kernel
theorem dX12_settled_201 : decode cX12_settled 201 = .ok (.if_icmp .ne 10, 3) := by decide +kernel
theorem dX12_settled_204 : decode cX12_settled 204 = .ok (.iload 6, 2) := by decide +kernel
theorem dX12_settled_206 : decode cX12_settled 206 = .ok (.ifCond .eq 5, 3) := by decide +kernel
theorem dX12_settled_209 : decode cX12_settled 209 = .ok (.iconst (-1), 1) := by decide +kernel
theorem dX12_settled_210 : decode cX12_settled 210 = .ok (.ireturn, 1) := by decide +kernel
theorem dX12_settled_211 : decode cX12_settled 211 = .ok (.iinc 5 1, 3) := by decide +kernel
theorem dX12_settled_214 : decode cX12_settled 214 = .ok (.goto (-133), 3) := by decide +kernel
theorem dX12_settled_217 : decode cX12_settled 217 = .ok (.iload 4, 2) := by decide +kernel
theorem dX12_settled_219 : decode cX12_settled 219 = .ok (.sipush 255, 3) := by decide +kernel
theorem dX12_settled_222 : decode cX12_settled 222 = .ok (.iand, 1) := by decide +kernel
theorem dX12_settled_223 : decode cX12_settled 223 = .ok (.invokestatic 413, 3) := by decide +kernel
theorem dX12_settled_226 : decode cX12_settled 226 = .ok (.iload 4, 2) := by decide +kernel
theorem dX12_settled_228 : decode cX12_settled 228 = .ok (.bipush 8, 2) := by decide +kernel
theorem dX12_settled_230 : decode cX12_settled 230 = .ok (.invokestatic 92, 3) := by decide +kernel
theorem dX12_settled_233 : decode cX12_settled 233 = .ok (.ifCond .eq 7, 3) := by decide +kernel
theorem dX12_settled_236 : decode cX12_settled 236 = .ok (.iconst 1, 1) := by decide +kernel
theorem dX12_settled_237 : decode cX12_settled 237 = .ok (.goto 4, 3) := by decide +kernel
theorem dX12_settled_240 : decode cX12_settled 240 = .ok (.iconst 0, 1) := by decide +kernel
theorem dX12_settled_241 : decode cX12_settled 241 = .ok (.iadd, 1) := by decide +kernel
theorem dX12_settled_242 : decode cX12_settled 242 = .ok (.istore 5, 2) := by decide +kernel
theorem dX12_settled_244 : decode cX12_settled 244 = .ok (.iload 5, 2) := by decide +kernel
theorem dX12_settled_246 : decode cX12_settled 246 = .ok (.aload_n 0, 1) := by decide +kernel
theorem dX12_settled_247 : decode cX12_settled 247 = .ok (.getfield 81, 3) := by decide +kernel
theorem dX12_settled_250 : decode cX12_settled 250 = .ok (.iload 4, 2) := by decide +kernel
theorem dX12_settled_252 : decode cX12_settled 252 = .ok (.iaload, 1) := by decide +kernel
theorem dX12_settled_253 : decode cX12_settled 253 = .ok (.isub, 1) := by decide +kernel
theorem dX12_settled_254 : decode cX12_settled 254 = .ok (.ireturn, 1) := by decide +kernel
def is_X12_settled : Nat → List Nat := fun d => if d = 43 then [0, 4, 5] else if d = 81 then [0, 4, 5] else if d = 98 then [0, 4, 5, 6, 7, 8] else []
set_option maxRecDepth 100000 in
def b_X12_settled_241 (J : Nat → List qV → List qV → qW → Prop) (Q : qR) : qK := x_iadd (x_istore 5 (x_iload 5 (x_aload 0 (x_get 12 43 (x_iload 4 (x_iald (x_isub (x_iret Q))))))))
set_option maxRecDepth 100000 in
theorem s_X12_settled_241 {p : Program} {l : Launch} {e : Env} {R : Room} {s : State} {m : MethodId} {args : Array Value} {below : List Frame} {meth : Method} {c : Code} {nW : Nat} {dC : Nat → ClassId} {dI : Nat → Nat → Nat} {k : Nat → ClassId} {g : Nat → Nat} {A : Nat → Prop} {J : Nat → List qV → List qV → qW → Prop} {Q : qR} (X : q_X p R s m args meth c cX12_settled 9 nW 5 111 RX12 (some .int) dC dI k g A) (hJ : ∀ d : Nat, q_Sd p l e R s m args below meth c 9 nW dC dI k g A (MQ below (q_post (dC, dI) k g nW Q A) args s 0 0 A) d (x_cut (is_X12_settled d) (J d))) : q_Sd p l e R s m args below meth c 9 nW dC dI k g A (MQ below (q_post (dC, dI) k g nW Q A) args s 0 0 A) 241 (b_X12_settled_241 J Q) := by
  unfold b_X12_settled_241
  refine s_iadd X dX12_settled_241 ?_
  refine s_istore X (by decide) dX12_settled_242 ?_
  refine s_iload X dX12_settled_244 ?_
  refine s_aload_n X rfl dX12_settled_246 ?_
  refine s_get X (T := TX12) (C := RX12) (N := 45) tu_X12 rfl (by decide) tw_1040 dX12_settled_247 ?_
  refine s_iload X dX12_settled_250 ?_
  refine s_iald X dX12_settled_252 ?_
  refine s_isub X dX12_settled_253 ?_
  exact s_iret X dX12_settled_254
set_option maxRecDepth 100000 in
def b_X12_settled_211 (J : Nat → List qV → List qV → qW → Prop) (Q : qR) : qK := x_iinc 5 1 (x_cut [0, 4, 5] (J 81))
set_option maxRecDepth 100000 in
theorem s_X12_settled_211 {p : Program} {l : Launch} {e : Env} {R : Room} {s : State} {m : MethodId} {args : Array Value} {below : List Frame} {meth : Method} {c : Code} {nW : Nat} {dC : Nat → ClassId} {dI : Nat → Nat → Nat} {k : Nat → ClassId} {g : Nat → Nat} {A : Nat → Prop} {J : Nat → List qV → List qV → qW → Prop} {Q : qR} (X : q_X p R s m args meth c cX12_settled 9 nW 5 111 RX12 (some .int) dC dI k g A) (hJ : ∀ d : Nat, q_Sd p l e R s m args below meth c 9 nW dC dI k g A (MQ below (q_post (dC, dI) k g nW Q A) args s 0 0 A) d (x_cut (is_X12_settled d) (J d))) : q_Sd p l e R s m args below meth c 9 nW dC dI k g A (MQ below (q_post (dC, dI) k g nW Q A) args s 0 0 A) 211 (b_X12_settled_211 J Q) := by
  unfold b_X12_settled_211
  refine s_iinc X (by decide) dX12_settled_211 ?_
  refine s_goto X (tgt := 81) dX12_settled_214 (by decide) ?_
  exact hJ 81
set_option maxRecDepth 100000 in
def b_X12_settled_195 (J : Nat → List qV → List qV → qW → Prop) (Q : qR) : qK := x_iadd (x_iast (x_nw (x_iload 5 (x_iload 4 (x_icmp_ne (b_X12_settled_211 J Q) (x_iload 6 (x_if_eq (b_X12_settled_211 J Q) (x_int (-1) (x_iret Q)))))))))
set_option maxRecDepth 100000 in
theorem s_X12_settled_195 {p : Program} {l : Launch} {e : Env} {R : Room} {s : State} {m : MethodId} {args : Array Value} {below : List Frame} {meth : Method} {c : Code} {nW : Nat} {dC : Nat → ClassId} {dI : Nat → Nat → Nat} {k : Nat → ClassId} {g : Nat → Nat} {A : Nat → Prop} {J : Nat → List qV → List qV → qW → Prop} {Q : qR} (X : q_X p R s m args meth c cX12_settled 9 nW 5 111 RX12 (some .int) dC dI k g A) (hJ : ∀ d : Nat, q_Sd p l e R s m args below meth c 9 nW dC dI k g A (MQ below (q_post (dC, dI) k g nW Q A) args s 0 0 A) d (x_cut (is_X12_settled d) (J d))) : q_Sd p l e R s m args below meth c 9 nW dC dI k g A (MQ below (q_post (dC, dI) k g nW Q A) args s 0 0 A) 195 (b_X12_settled_195 J Q) := by
  unfold b_X12_settled_195
  refine s_iadd X dX12_settled_195 ?_
  refine s_iast X dX12_settled_196 ?_
  refine s_nw ?_
  refine s_iload X dX12_settled_197 ?_
  refine s_iload X dX12_settled_199 ?_
  refine s_icmp_ne X (tgt := 211) dX12_settled_201 (by decide) ?_ ?_
  · exact s_X12_settled_211 X hJ
  · refine s_iload X dX12_settled_204 ?_
    refine s_if_eq X (tgt := 211) dX12_settled_206 (by decide) ?_ ?_
    · exact s_X12_settled_211 X hJ
    · refine s_iconst X ⟨by decide, by decide⟩ dX12_settled_209 ?_
      exact s_iret X dX12_settled_210
set_option maxRecDepth 100000 in
def b_X12_settled_194 (J : Nat → List qV → List qV → qW → Prop) (Q : qR) : qK := x_int 0 (b_X12_settled_195 J Q)
set_option maxRecDepth 100000 in
theorem s_X12_settled_194 {p : Program} {l : Launch} {e : Env} {R : Room} {s : State} {m : MethodId} {args : Array Value} {below : List Frame} {meth : Method} {c : Code} {nW : Nat} {dC : Nat → ClassId} {dI : Nat → Nat → Nat} {k : Nat → ClassId} {g : Nat → Nat} {A : Nat → Prop} {J : Nat → List qV → List qV → qW → Prop} {Q : qR} (X : q_X p R s m args meth c cX12_settled 9 nW 5 111 RX12 (some .int) dC dI k g A) (hJ : ∀ d : Nat, q_Sd p l e R s m args below meth c 9 nW dC dI k g A (MQ below (q_post (dC, dI) k g nW Q A) args s 0 0 A) d (x_cut (is_X12_settled d) (J d))) : q_Sd p l e R s m args below meth c 9 nW dC dI k g A (MQ below (q_post (dC, dI) k g nW Q A) args s 0 0 A) 194 (b_X12_settled_194 J Q) := by
  unfold b_X12_settled_194
  refine s_iconst X ⟨by decide, by decide⟩ dX12_settled_194 ?_
  exact s_X12_settled_195 X hJ
set_option maxRecDepth 100000 in
def b_X12_settled_164 (J : Nat → List qV → List qV → qW → Prop) (Q : qR) : qK := x_istore 7 (x_iinc 8 1 (x_cut [0, 4, 5, 6, 7, 8] (J 98)))
set_option maxRecDepth 100000 in
theorem s_X12_settled_164 {p : Program} {l : Launch} {e : Env} {R : Room} {s : State} {m : MethodId} {args : Array Value} {below : List Frame} {meth : Method} {c : Code} {nW : Nat} {dC : Nat → ClassId} {dI : Nat → Nat → Nat} {k : Nat → ClassId} {g : Nat → Nat} {A : Nat → Prop} {J : Nat → List qV → List qV → qW → Prop} {Q : qR} (X : q_X p R s m args meth c cX12_settled 9 nW 5 111 RX12 (some .int) dC dI k g A) (hJ : ∀ d : Nat, q_Sd p l e R s m args below meth c 9 nW dC dI k g A (MQ below (q_post (dC, dI) k g nW Q A) args s 0 0 A) d (x_cut (is_X12_settled d) (J d))) : q_Sd p l e R s m args below meth c 9 nW dC dI k g A (MQ below (q_post (dC, dI) k g nW Q A) args s 0 0 A) 164 (b_X12_settled_164 J Q) := by
  unfold b_X12_settled_164
  refine s_istore X (by decide) dX12_settled_164 ?_
  refine s_iinc X (by decide) dX12_settled_166 ?_
  refine s_goto X (tgt := 98) dX12_settled_169 (by decide) ?_
  exact hJ 98
set_option maxRecDepth 100000 in
def b_X12_settled_127 (J : Nat → List qV → List qV → qW → Prop) (Q : qR) : qK := x_iadd (x_istore 6 (x_iload 5 (x_iload 8 (x_callr none 2 spr_X12_has (x_if_eq (x_iload 7 (b_X12_settled_164 J Q)) (x_iload 7 (x_aload 0 (x_get 12 43 (x_iload 5 (x_int 1 (x_iload 8 (x_ishl (x_int (-1) (x_ixor (x_iand (x_iald (x_callr none 2 spr_X12_greater (b_X12_settled_164 J Q))))))))))))))))))
set_option maxRecDepth 100000 in
theorem s_X12_settled_127 {p : Program} {l : Launch} {e : Env} {R : Room} {s : State} {m : MethodId} {args : Array Value} {below : List Frame} {meth : Method} {c : Code} {nW : Nat} {dC : Nat → ClassId} {dI : Nat → Nat → Nat} {k : Nat → ClassId} {g : Nat → Nat} {A : Nat → Prop} {J : Nat → List qV → List qV → qW → Prop} {Q : qR} (X : q_X p R s m args meth c cX12_settled 9 nW 5 111 RX12 (some .int) dC dI k g A) (hJ : ∀ d : Nat, q_Sd p l e R s m args below meth c 9 nW dC dI k g A (MQ below (q_post (dC, dI) k g nW Q A) args s 0 0 A) d (x_cut (is_X12_settled d) (J d))) : q_Sd p l e R s m args below meth c 9 nW dC dI k g A (MQ below (q_post (dC, dI) k g nW Q A) args s 0 0 A) 127 (b_X12_settled_127 J Q) := by
  unfold b_X12_settled_127
  refine s_iadd X dX12_settled_127 ?_
  refine s_istore X (by decide) dX12_settled_128 ?_
  refine s_iload X dX12_settled_130 ?_
  refine s_iload X dX12_settled_132 ?_
  refine s_callSr X (m_X12_has l) tw_1233 tw_1234 tw_134 tw_1235 (by decide +kernel) ⟨by decide, by decide⟩ dX12_settled_134 ?_
  refine s_if_eq X (tgt := 162) dX12_settled_137 (by decide) ?_ ?_
  · refine s_iload X dX12_settled_162 ?_
    exact s_X12_settled_164 X hJ
  · refine s_iload X dX12_settled_140 ?_
    refine s_aload_n X rfl dX12_settled_142 ?_
    refine s_get X (T := TX12) (C := RX12) (N := 45) tu_X12 rfl (by decide) tw_1040 dX12_settled_143 ?_
    refine s_iload X dX12_settled_146 ?_
    refine s_iconst X ⟨by decide, by decide⟩ dX12_settled_148 ?_
    refine s_iload X dX12_settled_149 ?_
    refine s_ishl X dX12_settled_151 ?_
    refine s_iconst X ⟨by decide, by decide⟩ dX12_settled_152 ?_
    refine s_ixor X dX12_settled_153 ?_
    refine s_iand X dX12_settled_154 ?_
    refine s_iald X dX12_settled_155 ?_
    refine s_callSr X (m_X12_greater l) tw_1118 tw_1119 tw_134 tw_1120 (by decide +kernel) ⟨by decide, by decide⟩ dX12_settled_156 ?_
    refine s_goto X (tgt := 164) dX12_settled_159 (by decide) ?_
    exact s_X12_settled_164 X hJ
set_option maxRecDepth 100000 in
def b_X12_settled_98 (J : Nat → List qV → List qV → qW → Prop) (Q : qR) : qK := x_iload 8 (x_int 8 (x_icmp_gt (x_aload 0 (x_get 12 43 (x_iload 5 (x_iload 7 (x_iload 5 (x_if_le (b_X12_settled_194 J Q) (x_iload 6 (x_if_ne (b_X12_settled_194 J Q) (x_int 1 (b_X12_settled_195 J Q)))))))))) (x_iload 6 (x_iload 5 (x_iload 8 (x_callr none 2 spr_X12_has (x_if_eq (x_int 0 (b_X12_settled_127 J Q)) (x_aload 0 (x_iload 8 (x_callr (some 12) 2 spr_X12_more (b_X12_settled_127 J Q)))))))))))
set_option maxRecDepth 100000 in
theorem s_X12_settled_98 {p : Program} {l : Launch} {e : Env} {R : Room} {s : State} {m : MethodId} {args : Array Value} {below : List Frame} {meth : Method} {c : Code} {nW : Nat} {dC : Nat → ClassId} {dI : Nat → Nat → Nat} {k : Nat → ClassId} {g : Nat → Nat} {A : Nat → Prop} {J : Nat → List qV → List qV → qW → Prop} {Q : qR} (X : q_X p R s m args meth c cX12_settled 9 nW 5 111 RX12 (some .int) dC dI k g A) (hJ : ∀ d : Nat, q_Sd p l e R s m args below meth c 9 nW dC dI k g A (MQ below (q_post (dC, dI) k g nW Q A) args s 0 0 A) d (x_cut (is_X12_settled d) (J d))) : q_Sd p l e R s m args below meth c 9 nW dC dI k g A (MQ below (q_post (dC, dI) k g nW Q A) args s 0 0 A) 98 (b_X12_settled_98 J Q) := by
  unfold b_X12_settled_98
  refine s_iload X dX12_settled_98 ?_
  refine s_bipush X ⟨by decide, by decide⟩ (by decide) dX12_settled_100 ?_
  refine s_icmp_gt X (tgt := 172) dX12_settled_102 (by decide) ?_ ?_
  · refine s_aload_n X rfl dX12_settled_172 ?_
    refine s_get X (T := TX12) (C := RX12) (N := 45) tu_X12 rfl (by decide) tw_1040 dX12_settled_173 ?_
    refine s_iload X dX12_settled_176 ?_
    refine s_iload X dX12_settled_178 ?_
    refine s_iload X dX12_settled_180 ?_
    refine s_if_le X (tgt := 194) dX12_settled_182 (by decide) ?_ ?_
    · exact s_X12_settled_194 X hJ
    · refine s_iload X dX12_settled_185 ?_
      refine s_if_ne X (tgt := 194) dX12_settled_187 (by decide) ?_ ?_
      · exact s_X12_settled_194 X hJ
      · refine s_iconst X ⟨by decide, by decide⟩ dX12_settled_190 ?_
        refine s_goto X (tgt := 195) dX12_settled_191 (by decide) ?_
        exact s_X12_settled_195 X hJ
  · refine s_iload X dX12_settled_105 ?_
    refine s_iload X dX12_settled_107 ?_
    refine s_iload X dX12_settled_109 ?_
    refine s_callSr X (m_X12_has l) tw_1233 tw_1234 tw_134 tw_1235 (by decide +kernel) ⟨by decide, by decide⟩ dX12_settled_111 ?_
    refine s_if_eq X (tgt := 126) dX12_settled_114 (by decide) ?_ ?_
    · refine s_iconst X ⟨by decide, by decide⟩ dX12_settled_126 ?_
      exact s_X12_settled_127 X hJ
    · refine s_aload_n X rfl dX12_settled_117 ?_
      refine s_iload X dX12_settled_118 ?_
      refine s_callVr X (m_X12_more l) tw_1462 tw_1463 tw_1602 tw_134 tw_1464 rfl (by decide +kernel) ⟨by decide, by decide⟩ dX12_settled_120 ?_
      refine s_goto X (tgt := 127) dX12_settled_123 (by decide) ?_
      exact s_X12_settled_127 X hJ
set_option maxRecDepth 100000 in
def b_X12_settled_81 (J : Nat → List qV → List qV → qW → Prop) (Q : qR) : qK := x_iload 5 (x_int 512 (x_icmp_ge (x_iload 4 (x_int 255 (x_iand (x_callr none 1 spr_X12_ones (x_iload 4 (x_int 8 (x_callr none 2 spr_X12_has (x_if_eq (x_int 0 (b_X12_settled_241 J Q)) (x_int 1 (b_X12_settled_241 J Q)))))))))) (x_int 0 (x_istore 6 (x_int 0 (x_istore 7 (x_int 0 (x_istore 8 (x_cut [0, 4, 5, 6, 7, 8] (J 98))))))))))
set_option maxRecDepth 100000 in
theorem s_X12_settled_81 {p : Program} {l : Launch} {e : Env} {R : Room} {s : State} {m : MethodId} {args : Array Value} {below : List Frame} {meth : Method} {c : Code} {nW : Nat} {dC : Nat → ClassId} {dI : Nat → Nat → Nat} {k : Nat → ClassId} {g : Nat → Nat} {A : Nat → Prop} {J : Nat → List qV → List qV → qW → Prop} {Q : qR} (X : q_X p R s m args meth c cX12_settled 9 nW 5 111 RX12 (some .int) dC dI k g A) (hJ : ∀ d : Nat, q_Sd p l e R s m args below meth c 9 nW dC dI k g A (MQ below (q_post (dC, dI) k g nW Q A) args s 0 0 A) d (x_cut (is_X12_settled d) (J d))) : q_Sd p l e R s m args below meth c 9 nW dC dI k g A (MQ below (q_post (dC, dI) k g nW Q A) args s 0 0 A) 81 (b_X12_settled_81 J Q) := by
  unfold b_X12_settled_81
  refine s_iload X dX12_settled_81 ?_
  refine s_sipush X ⟨by decide, by decide⟩ (by decide) dX12_settled_83 ?_
  refine s_icmp_ge X (tgt := 217) dX12_settled_86 (by decide) ?_ ?_
  · refine s_iload X dX12_settled_217 ?_
    refine s_sipush X ⟨by decide, by decide⟩ (by decide) dX12_settled_219 ?_
    refine s_iand X dX12_settled_222 ?_
    refine s_callSr X (m_X12_ones l) tw_1326 tw_1327 tw_134 tw_1328 (by decide +kernel) ⟨by decide, by decide⟩ dX12_settled_223 ?_
    refine s_iload X dX12_settled_226 ?_
    refine s_bipush X ⟨by decide, by decide⟩ (by decide) dX12_settled_228 ?_
    refine s_callSr X (m_X12_has l) tw_1233 tw_1234 tw_134 tw_1235 (by decide +kernel) ⟨by decide, by decide⟩ dX12_settled_230 ?_
    refine s_if_eq X (tgt := 240) dX12_settled_233 (by decide) ?_ ?_
    · refine s_iconst X ⟨by decide, by decide⟩ dX12_settled_240 ?_
      exact s_X12_settled_241 X hJ
    · refine s_iconst X ⟨by decide, by decide⟩ dX12_settled_236 ?_
      refine s_goto X (tgt := 241) dX12_settled_237 (by decide) ?_
      exact s_X12_settled_241 X hJ
  · refine s_iconst X ⟨by decide, by decide⟩ dX12_settled_89 ?_
    refine s_istore X (by decide) dX12_settled_90 ?_
    refine s_iconst X ⟨by decide, by decide⟩ dX12_settled_92 ?_
    refine s_istore X (by decide) dX12_settled_93 ?_
    refine s_iconst X ⟨by decide, by decide⟩ dX12_settled_95 ?_
    refine s_istore X (by decide) dX12_settled_96 ?_
    exact hJ 98
set_option maxRecDepth 100000 in
def b_X12_settled_69 (J : Nat → List qV → List qV → qW → Prop) (Q : qR) : qK := x_ior (x_istore 4 (x_iinc 5 1 (x_cut [0, 4, 5] (J 43))))
set_option maxRecDepth 100000 in
theorem s_X12_settled_69 {p : Program} {l : Launch} {e : Env} {R : Room} {s : State} {m : MethodId} {args : Array Value} {below : List Frame} {meth : Method} {c : Code} {nW : Nat} {dC : Nat → ClassId} {dI : Nat → Nat → Nat} {k : Nat → ClassId} {g : Nat → Nat} {A : Nat → Prop} {J : Nat → List qV → List qV → qW → Prop} {Q : qR} (X : q_X p R s m args meth c cX12_settled 9 nW 5 111 RX12 (some .int) dC dI k g A) (hJ : ∀ d : Nat, q_Sd p l e R s m args below meth c 9 nW dC dI k g A (MQ below (q_post (dC, dI) k g nW Q A) args s 0 0 A) d (x_cut (is_X12_settled d) (J d))) : q_Sd p l e R s m args below meth c 9 nW dC dI k g A (MQ below (q_post (dC, dI) k g nW Q A) args s 0 0 A) 69 (b_X12_settled_69 J Q) := by
  unfold b_X12_settled_69
  refine s_ior X dX12_settled_69 ?_
  refine s_istore X (by decide) dX12_settled_70 ?_
  refine s_iinc X (by decide) dX12_settled_72 ?_
  refine s_goto X (tgt := 43) dX12_settled_75 (by decide) ?_
  exact hJ 43
set_option maxRecDepth 100000 in
def b_X12_settled_43 (J : Nat → List qV → List qV → qW → Prop) (Q : qR) : qK := x_iload 5 (x_int 8 (x_icmp_gt (x_int 0 (x_istore 5 (x_cut [0, 4, 5] (J 81)))) (x_iload 4 (x_aload 0 (x_iload 5 (x_callr (some 12) 2 spr_X12_more (x_if_eq (x_int 0 (b_X12_settled_69 J Q)) (x_int 1 (x_iload 5 (x_ishl (b_X12_settled_69 J Q)))))))))))
set_option maxRecDepth 100000 in
theorem s_X12_settled_43 {p : Program} {l : Launch} {e : Env} {R : Room} {s : State} {m : MethodId} {args : Array Value} {below : List Frame} {meth : Method} {c : Code} {nW : Nat} {dC : Nat → ClassId} {dI : Nat → Nat → Nat} {k : Nat → ClassId} {g : Nat → Nat} {A : Nat → Prop} {J : Nat → List qV → List qV → qW → Prop} {Q : qR} (X : q_X p R s m args meth c cX12_settled 9 nW 5 111 RX12 (some .int) dC dI k g A) (hJ : ∀ d : Nat, q_Sd p l e R s m args below meth c 9 nW dC dI k g A (MQ below (q_post (dC, dI) k g nW Q A) args s 0 0 A) d (x_cut (is_X12_settled d) (J d))) : q_Sd p l e R s m args below meth c 9 nW dC dI k g A (MQ below (q_post (dC, dI) k g nW Q A) args s 0 0 A) 43 (b_X12_settled_43 J Q) := by
  unfold b_X12_settled_43
  refine s_iload X dX12_settled_43 ?_
  refine s_bipush X ⟨by decide, by decide⟩ (by decide) dX12_settled_45 ?_
  refine s_icmp_gt X (tgt := 78) dX12_settled_47 (by decide) ?_ ?_
  · refine s_iconst X ⟨by decide, by decide⟩ dX12_settled_78 ?_
    refine s_istore X (by decide) dX12_settled_79 ?_
    exact hJ 81
  · refine s_iload X dX12_settled_50 ?_
    refine s_aload_n X rfl dX12_settled_52 ?_
    refine s_iload X dX12_settled_53 ?_
    refine s_callVr X (m_X12_more l) tw_1462 tw_1463 tw_1602 tw_134 tw_1464 rfl (by decide +kernel) ⟨by decide, by decide⟩ dX12_settled_55 ?_
    refine s_if_eq X (tgt := 68) dX12_settled_58 (by decide) ?_ ?_
    · refine s_iconst X ⟨by decide, by decide⟩ dX12_settled_68 ?_
      exact s_X12_settled_69 X hJ
    · refine s_iconst X ⟨by decide, by decide⟩ dX12_settled_61 ?_
      refine s_iload X dX12_settled_62 ?_
      refine s_ishl X dX12_settled_64 ?_
      refine s_goto X (tgt := 69) dX12_settled_65 (by decide) ?_
      exact s_X12_settled_69 X hJ
set_option maxRecDepth 100000 in
def b_X12_settled_35 (J : Nat → List qV → List qV → qW → Prop) (Q : qR) : qK := x_int (-1) (x_iret Q)
set_option maxRecDepth 100000 in
theorem s_X12_settled_35 {p : Program} {l : Launch} {e : Env} {R : Room} {s : State} {m : MethodId} {args : Array Value} {below : List Frame} {meth : Method} {c : Code} {nW : Nat} {dC : Nat → ClassId} {dI : Nat → Nat → Nat} {k : Nat → ClassId} {g : Nat → Nat} {A : Nat → Prop} {J : Nat → List qV → List qV → qW → Prop} {Q : qR} (X : q_X p R s m args meth c cX12_settled 9 nW 5 111 RX12 (some .int) dC dI k g A) (hJ : ∀ d : Nat, q_Sd p l e R s m args below meth c 9 nW dC dI k g A (MQ below (q_post (dC, dI) k g nW Q A) args s 0 0 A) d (x_cut (is_X12_settled d) (J d))) : q_Sd p l e R s m args below meth c 9 nW dC dI k g A (MQ below (q_post (dC, dI) k g nW Q A) args s 0 0 A) 35 (b_X12_settled_35 J Q) := by
  unfold b_X12_settled_35
  refine s_iconst X ⟨by decide, by decide⟩ dX12_settled_35 ?_
  exact s_iret X dX12_settled_36
set_option maxRecDepth 100000 in
def b_X12_settled_0 (J : Nat → List qV → List qV → qW → Prop) (Q : qR) : qK := x_aload 0 (x_int 0 (x_put 12 0 q_oki (x_nw (x_aload 0 (x_iload 1 (x_iload 2 (x_call (some 12) 3 sp_X12_layAll (x_nw (x_if_eq (b_X12_settled_35 J Q) (x_iload 3 (x_int 0 (x_aload 0 (x_callr (some 12) 1 spr_X12_deeds (x_callr none 3 spr_X12_in (x_if_eq (b_X12_settled_35 J Q) (x_aload 0 (x_iload 3 (x_call (some 12) 2 sp_X12_play (x_nw (x_iload 3 (x_icmp_ge (x_int 0 (x_istore 4 (x_int 0 (x_istore 5 (x_cut [0, 4, 5] (J 43)))))) (b_X12_settled_35 J Q))))))))))))))))))))))
set_option maxRecDepth 100000 in
theorem s_X12_settled_0 {p : Program} {l : Launch} {e : Env} {R : Room} {s : State} {m : MethodId} {args : Array Value} {below : List Frame} {meth : Method} {c : Code} {nW : Nat} {dC : Nat → ClassId} {dI : Nat → Nat → Nat} {k : Nat → ClassId} {g : Nat → Nat} {A : Nat → Prop} {J : Nat → List qV → List qV → qW → Prop} {Q : qR} (X : q_X p R s m args meth c cX12_settled 9 nW 5 111 RX12 (some .int) dC dI k g A) (hJ : ∀ d : Nat, q_Sd p l e R s m args below meth c 9 nW dC dI k g A (MQ below (q_post (dC, dI) k g nW Q A) args s 0 0 A) d (x_cut (is_X12_settled d) (J d))) : q_Sd p l e R s m args below meth c 9 nW dC dI k g A (MQ below (q_post (dC, dI) k g nW Q A) args s 0 0 A) 0 (b_X12_settled_0 J Q) := by
  unfold b_X12_settled_0
  refine s_aload_n X rfl dX12_settled_0 ?_
  refine s_iconst X ⟨by decide, by decide⟩ dX12_settled_1 ?_
  refine s_put X (T := TX12) (C := RX12) (N := 45) tu_X12 tyX12_ok nmX12 rfl (by decide) tw_997 rfl (by decide +kernel) q_oki_t dX12_settled_2 ?_
  refine s_nw ?_
  refine s_aload_n X rfl dX12_settled_5 ?_
  refine s_iload_n X rfl dX12_settled_6 ?_
  refine s_iload_n X rfl dX12_settled_7 ?_
  refine s_callV X (m_X12_layAll l) tw_1212 tw_1213 tw_1595 tw_134 tw_1214 rfl (by decide +kernel) ⟨by decide, by decide⟩ dX12_settled_8 ?_
  refine s_nw ?_
  refine s_if_eq X (tgt := 35) dX12_settled_11 (by decide) ?_ ?_
  · exact s_X12_settled_35 X hJ
  · refine s_iload_n X rfl dX12_settled_14 ?_
    refine s_iconst X ⟨by decide, by decide⟩ dX12_settled_15 ?_
    refine s_aload_n X rfl dX12_settled_16 ?_
    refine s_callVr X (m_X12_deeds l) tw_1202 tw_1203 tw_1559 tw_134 tw_1204 rfl (by decide +kernel) ⟨by decide, by decide⟩ dX12_settled_17 ?_
    refine s_callSr X (m_X12_in l) tw_1054 tw_1055 tw_134 tw_1056 (by decide +kernel) ⟨by decide, by decide⟩ dX12_settled_20 ?_
    refine s_if_eq X (tgt := 35) dX12_settled_23 (by decide) ?_ ?_
    · exact s_X12_settled_35 X hJ
    · refine s_aload_n X rfl dX12_settled_26 ?_
      refine s_iload_n X rfl dX12_settled_27 ?_
      refine s_callV X (m_X12_play l) tw_1215 tw_1216 tw_1608 tw_134 tw_1217 rfl (by decide +kernel) ⟨by decide, by decide⟩ dX12_settled_28 ?_
      refine s_nw ?_
      refine s_iload_n X rfl dX12_settled_31 ?_
      refine s_icmp_ge X (tgt := 37) dX12_settled_32 (by decide) ?_ ?_
      · refine s_iconst X ⟨by decide, by decide⟩ dX12_settled_37 ?_
        refine s_istore X (by decide) dX12_settled_38 ?_
        refine s_iconst X ⟨by decide, by decide⟩ dX12_settled_40 ?_
        refine s_istore X (by decide) dX12_settled_41 ?_
        exact hJ 43
      · exact s_X12_settled_35 X hJ

def sp_X12_settled : qS := fun av w Q => ∃ (mco : Int) (mre : Int) (mle : Int) (mbe : Int) (mso : Int) (mva : Int) (mwo : Int) (mwr : Int) (mlf : Int) (mlp : Int) (mfp : Int) (mfd : Int) (mgo : Int) (mbo : Int) (mpe : Int) (mye : Int) (mpr : Int) (mld : Int) (msi : Int) (mse : Int) (mn : Nat → Int) (bs : Nat → Int) (ys : Nat → Int) (tl : Nat → Int) (pa : Nat → Int) (a : Int) (b : Int) (cc : Int), av = [q2 0, q1 a, q1 b, q1 cc] ∧ w = [.inr (12, [q1 mco, q2 6, q2 7, q2 8, q2 9, q2 1, q2 2, q2 3, q2 10, q2 11, q1 mre, q1 mle, q1 mbe, q1 mso, q1 mva, q3 mwo, q1 mwr, q1 mlf, q1 mlp, q2 12, q2 13, q1 mfp, q1 mfd, q1 mgo, q1 mbo, q1 mpe, q1 mye, q2 4, q1 mpr, q2 14, q2 15, q2 16, q2 17, q1 mld, q2 18, q1 msi, q2 19, q2 20, q2 21, q2 22, q2 23, q1 mse, q2 24, q2 5, q2 25]), .inl (0, 16, .inl mn), .inl (0, 600, .inl bs), .inl (0, 1288, .inl ys), .inl (0, 8, .inl tl), .inl (0, 512, .inl pa)] ∧ (q_rg 0 2 mn) ∧ (BI bs) ∧ (YI ys) ∧ (∀ (r : Int) (x_mco : Int) (x_mye : Int) (x_mbo : Int) (x_mpe : Int) (x_tl : Nat → Int) (x_mpr : Int) (x_pa : Nat → Int), Q (some (q1 r)) ([.inr (12, [q1 x_mco, q2 6, q2 7, q2 8, q2 9, q2 1, q2 2, q2 3, q2 10, q2 11, q1 mre, q1 mle, q1 mbe, q1 mso, q1 mva, q3 mwo, q1 mwr, q1 mlf, q1 mlp, q2 12, q2 13, q1 mfp, q1 mfd, q1 mgo, q1 x_mbo, q1 x_mpe, q1 x_mye, q2 4, q1 x_mpr, q2 14, q2 15, q2 16, q2 17, q1 mld, q2 18, q1 msi, q2 19, q2 20, q2 21, q2 22, q2 23, q1 mse, q2 24, q2 5, q2 25]), .inl (0, 16, .inl mn), .inl (0, 600, .inl bs), .inl (0, 1288, .inl ys), .inl (0, 8, .inl x_tl), .inl (0, 512, .inl x_pa)]))
def I_X12_settled (mco : Int) (mre : Int) (mle : Int) (mbe : Int) (mso : Int) (mva : Int) (mwo : Int) (mwr : Int) (mlf : Int) (mlp : Int) (mfp : Int) (mfd : Int) (mgo : Int) (mbo : Int) (mpe : Int) (mye : Int) (mpr : Int) (mld : Int) (msi : Int) (mse : Int) (mn : Nat → Int) (bs : Nat → Int) (ys : Nat → Int) (tl : Nat → Int) (pa : Nat → Int) (a : Int) (b : Int) (cc : Int) : Nat → Nat → List qV → List qV → qW → Prop := fun dz mz vz sz wz => if dz = 43 then (∃ (y_mco : Int) (y_mye : Int) (y_mbo : Int) (y_mpe : Int) (y_tl : Nat → Int) (y_mpr : Int) (y_pa : Nat → Int) (v4 : Int) (v5 : Int), vz = [q2 0, q1 v4, q1 v5] ∧ sz = [] ∧ wz = [.inr (12, [q1 y_mco, q2 6, q2 7, q2 8, q2 9, q2 1, q2 2, q2 3, q2 10, q2 11, q1 mre, q1 mle, q1 mbe, q1 mso, q1 mva, q3 mwo, q1 mwr, q1 mlf, q1 mlp, q2 12, q2 13, q1 mfp, q1 mfd, q1 mgo, q1 y_mbo, q1 y_mpe, q1 y_mye, q2 4, q1 y_mpr, q2 14, q2 15, q2 16, q2 17, q1 mld, q2 18, q1 msi, q2 19, q2 20, q2 21, q2 22, q2 23, q1 mse, q2 24, q2 5, q2 25]), .inl (0, 16, .inl mn), .inl (0, 600, .inl bs), .inl (0, 1288, .inl ys), .inl (0, 8, .inl y_tl), .inl (0, 512, .inl y_pa)] ∧ mz = 1000000 + (9 - v5).toNat ∧ (0 ≤ y_mbo ∧ y_mbo ≤ 1 ∧ 0 ≤ y_mpe ∧ y_mpe ≤ 8) ∧ (0 ≤ v5 ∧ v5 ≤ 9 ∧ 0 ≤ v4 ∧ v4 ≤ 511)) else if dz = 81 then (∃ (y_mco : Int) (y_mye : Int) (y_mbo : Int) (y_mpe : Int) (y_tl : Nat → Int) (y_mpr : Int) (y_pa : Nat → Int) (v4 : Int) (v5 : Int), vz = [q2 0, q1 v4, q1 v5] ∧ sz = [] ∧ wz = [.inr (12, [q1 y_mco, q2 6, q2 7, q2 8, q2 9, q2 1, q2 2, q2 3, q2 10, q2 11, q1 mre, q1 mle, q1 mbe, q1 mso, q1 mva, q3 mwo, q1 mwr, q1 mlf, q1 mlp, q2 12, q2 13, q1 mfp, q1 mfd, q1 mgo, q1 y_mbo, q1 y_mpe, q1 y_mye, q2 4, q1 y_mpr, q2 14, q2 15, q2 16, q2 17, q1 mld, q2 18, q1 msi, q2 19, q2 20, q2 21, q2 22, q2 23, q1 mse, q2 24, q2 5, q2 25]), .inl (0, 16, .inl mn), .inl (0, 600, .inl bs), .inl (0, 1288, .inl ys), .inl (0, 8, .inl y_tl), .inl (0, 512, .inl y_pa)] ∧ mz = 1000 * (512 - v5).toNat ∧ (0 ≤ y_mbo ∧ y_mbo ≤ 1 ∧ 0 ≤ y_mpe ∧ y_mpe ≤ 8) ∧ (0 ≤ v5 ∧ v5 ≤ 512 ∧ 0 ≤ v4 ∧ v4 ≤ 511)) else if dz = 98 then (∃ (y_mco : Int) (y_mye : Int) (y_mbo : Int) (y_mpe : Int) (y_tl : Nat → Int) (y_mpr : Int) (y_pa : Nat → Int) (v4 : Int) (v5 : Int) (v6 : Int) (v7 : Int) (v8 : Int), vz = [q2 0, q1 v4, q1 v5, q1 v6, q1 v7, q1 v8] ∧ sz = [] ∧ wz = [.inr (12, [q1 y_mco, q2 6, q2 7, q2 8, q2 9, q2 1, q2 2, q2 3, q2 10, q2 11, q1 mre, q1 mle, q1 mbe, q1 mso, q1 mva, q3 mwo, q1 mwr, q1 mlf, q1 mlp, q2 12, q2 13, q1 mfp, q1 mfd, q1 mgo, q1 y_mbo, q1 y_mpe, q1 y_mye, q2 4, q1 y_mpr, q2 14, q2 15, q2 16, q2 17, q1 mld, q2 18, q1 msi, q2 19, q2 20, q2 21, q2 22, q2 23, q1 mse, q2 24, q2 5, q2 25]), .inl (0, 16, .inl mn), .inl (0, 600, .inl bs), .inl (0, 1288, .inl ys), .inl (0, 8, .inl y_tl), .inl (0, 512, .inl y_pa)] ∧ mz = 1000 * (512 - v5).toNat - 500 + (9 - v8).toNat ∧ (0 ≤ y_mbo ∧ y_mbo ≤ 1 ∧ 0 ≤ y_mpe ∧ y_mpe ≤ 8) ∧ (0 ≤ v5 ∧ v5 ≤ 511 ∧ 0 ≤ v4 ∧ v4 ≤ 511 ∧ 0 ≤ v8 ∧ v8 ≤ 9)) else False
set_option maxHeartbeats 4000000 in
set_option maxRecDepth 100000 in
theorem m_X12_settled (l : Launch) : q_M l yX12_settled cX12_settled 9 (some .int) 5 111 sp_X12_settled := by
  refine q_meth (by decide) (fun av w Q h => by obtain ⟨mco, mre, mle, mbe, mso, mva, mwo, mwr, mlf, mlp, mfp, mfd, mgo, mbo, mpe, mye, mpr, mld, msi, mse, mn, bs, ys, tl, pa, a, b, cc, rfl, rfl, hmn, hbi, hyi, hQ⟩ := h; exact Nat.le_of_ble_eq_true rfl) ?_
  intro p e R s m args below meth c dC dI k g A av w Q hsp oka okw X
  obtain ⟨mco, mre, mle, mbe, mso, mva, mwo, mwr, mlf, mlp, mfp, mfd, mgo, mbo, mpe, mye, mpr, mld, msi, mse, mn, bs, ys, tl, pa, a, b, cc, rfl, rfl, hmn, hbi, hyi, hQ⟩ := hsp
  have o_a : -2147483648 ≤ a ∧ a ≤ 2147483647 := oka _ (List.mem_of_getElem? (i := 1) rfl)
  have o_b : -2147483648 ≤ b ∧ b ≤ 2147483647 := oka _ (List.mem_of_getElem? (i := 2) rfl)
  have o_cc : -2147483648 ≤ cc ∧ cc ≤ 2147483647 := oka _ (List.mem_of_getElem? (i := 3) rfl)
  refine s_mono (s_X12_settled_0 X (J := fun dz vz sz wz => ∃ mz, I_X12_settled mco mre mle mbe mso mva mwo mwr mlf mlp mfp mfd mgo mbo mpe mye mpr mld msi mse mn bs ys tl pa a b cc dz mz vz sz wz) (q_loopn (I_X12_settled mco mre mle mbe mso mva mwo mwr mlf mlp mfp mfd mgo mbo mpe mye mpr mld msi mse mn bs ys tl pa a b cc) (fun dz J => if dz = 43 then b_X12_settled_43 J Q else if dz = 81 then b_X12_settled_81 J Q else if dz = 98 then b_X12_settled_98 J Q else q_F) ?hs ?hv)) ?_
  case hs =>
    intro d J hJ
    by_cases h43 : d = 43
    · subst h43; exact s_X12_settled_43 X hJ
    by_cases h81 : d = 81
    · subst h81; exact s_X12_settled_81 X hJ
    by_cases h98 : d = 98
    · subst h98; exact s_X12_settled_98 X hJ
    simp only [h43, h81, h98, if_false]
    exact s_F
  case hv =>
    intro dz mz vz sz wz hI okv oks okw hlen
    by_cases h43 : dz = 43
    · subst h43
      obtain ⟨y_mco, y_mye, y_mbo, y_mpe, y_tl, y_mpr, y_pa, v4, v5, rfl, rfl, rfl, hn, hyb, hp⟩ := hI
      apply And.intro
      · intro h47
        exact ⟨_, ⟨_, _, _, _, _, _, _, _, _, rfl, rfl, rfl, rfl, (by first | omega | assumption | exact q_rg_up (by assumption) (by omega) | exact q_rg_up (q_rg_up (by assumption) (by omega)) (by omega) | exact q_rg_cpy (by assumption) (by assumption)), (by first | omega | assumption | exact q_rg_up (by assumption) (by omega) | exact q_rg_up (q_rg_up (by assumption) (by omega)) (by omega) | exact q_rg_cpy (by assumption) (by assumption))⟩, by omega⟩
      · intro h47
        refine Exists.intro [0, 4, 2, 6, 7, 8, 9, 1, 3, 10, 11, 12, 13, 14, 15, 16, 17, 18, 19, 20, 21, 22, 23, 24, 5, 25] (Exists.intro [q2 0, q1 _] (Exists.intro ([.inr (12, [q1 _, q2 3, q2 4, q2 5, q2 6, q2 7, q2 2, q2 8, q2 9, q2 10, q1 _, q1 _, q1 _, q1 _, q1 _, q3 _, q1 _, q1 _, q1 _, q2 11, q2 12, q1 _, q1 _, q1 _, q1 _, q1 _, q1 _, q2 1, q1 _, q2 13, q2 14, q2 15, q2 16, q1 _, q2 17, q1 _, q2 18, q2 19, q2 20, q2 21, q2 22, q1 _, q2 23, q2 24, q2 25]), .inl (0, 8, .inl _), .inl (0, 600, .inl _)]) (And.intro rfl (And.intro rfl (And.intro rfl (And.intro ⟨⟨_, rfl⟩, rfl⟩ ?_))))))
        refine Exists.intro _ (Exists.intro _ (Exists.intro _ (Exists.intro _ (Exists.intro _ (Exists.intro _ (Exists.intro _ (Exists.intro _ (Exists.intro _ (Exists.intro _ (Exists.intro _ (Exists.intro _ (Exists.intro _ (Exists.intro _ (Exists.intro _ (Exists.intro _ (Exists.intro _ (Exists.intro _ (Exists.intro _ (Exists.intro _ (Exists.intro _ (Exists.intro _ (Exists.intro _ (And.intro rfl (And.intro rfl (And.intro (by first | omega | assumption | exact q_rg_up (by assumption) (by omega) | exact q_rg_up (q_rg_up (by assumption) (by omega)) (by omega) | exact q_rg_cpy (by assumption) (by assumption)) (And.intro (by first | omega | assumption | exact q_rg_up (by assumption) (by omega) | exact q_rg_up (q_rg_up (by assumption) (by omega)) (by omega) | exact q_rg_cpy (by assumption) (by assumption)) (And.intro (by first | omega | assumption | exact q_rg_up (by assumption) (by omega) | exact q_rg_up (q_rg_up (by assumption) (by omega)) (by omega) | exact q_rg_cpy (by assumption) (by assumption)) (And.intro (by first | omega | assumption | exact q_rg_up (by assumption) (by omega) | exact q_rg_up (q_rg_up (by assumption) (by omega)) (by omega) | exact q_rg_cpy (by assumption) (by assumption)) (?_)))))))))))))))))))))))))))))
        intro z55
        apply And.intro
        · intro h58
          intro z69 h69
          first | replace h69 := e_or8 h69 (by omega) (by omega) | replace h69 := e_or9 h69 (by omega) (by omega) | replace h69 := e_rng h69
          intro z72 h72
          first | replace h72 := e_add h72 (by omega) | replace h72 := e_rng h72
          exact ⟨_, ⟨_, _, _, _, _, _, _, _, _, rfl, rfl, rfl, rfl, (by first | omega | assumption | exact q_rg_up (by assumption) (by omega) | exact q_rg_up (q_rg_up (by assumption) (by omega)) (by omega) | exact q_rg_cpy (by assumption) (by assumption)), (by first | omega | assumption | exact q_rg_up (by assumption) (by omega) | exact q_rg_up (q_rg_up (by assumption) (by omega)) (by omega) | exact q_rg_cpy (by assumption) (by assumption))⟩, by omega⟩
        · intro h58
          intro z64 h64
          first | replace h64 := e_shl h64 (by omega) | replace h64 := e_rng h64
          intro z69 h69
          first | replace h69 := e_or8 h69 (by omega) (by omega) | replace h69 := e_or9 h69 (by omega) (by omega) | replace h69 := e_rng h69
          intro z72 h72
          first | replace h72 := e_add h72 (by omega) | replace h72 := e_rng h72
          exact ⟨_, ⟨_, _, _, _, _, _, _, _, _, rfl, rfl, rfl, rfl, (by first | omega | assumption | exact q_rg_up (by assumption) (by omega) | exact q_rg_up (q_rg_up (by assumption) (by omega)) (by omega) | exact q_rg_cpy (by assumption) (by assumption)), (by first | omega | assumption | exact q_rg_up (by assumption) (by omega) | exact q_rg_up (q_rg_up (by assumption) (by omega)) (by omega) | exact q_rg_cpy (by assumption) (by assumption))⟩, by omega⟩
    by_cases h81 : dz = 81
    · subst h81
      obtain ⟨y_mco, y_mye, y_mbo, y_mpe, y_tl, y_mpr, y_pa, v4, v5, rfl, rfl, rfl, hn, hyb, hp⟩ := hI
      apply And.intro
      · intro h86
        intro z222 h222
        first | replace h222 := e_and1 h222 | replace h222 := e_and255 h222 | replace h222 := e_and h222 (by omega) (by omega) | replace h222 := e_rng h222
        refine Exists.intro [] (Exists.intro [q1 _] (Exists.intro [] (And.intro rfl (And.intro rfl (And.intro rfl (And.intro trivial ?_))))))
        refine Exists.intro _ (And.intro rfl (And.intro rfl (?_)))
        intro z223 h223
        refine Exists.intro [] (Exists.intro [q1 _, q1 _] (Exists.intro [] (And.intro rfl (And.intro rfl (And.intro rfl (And.intro trivial ?_))))))
        refine Exists.intro _ (Exists.intro _ (And.intro rfl (And.intro rfl (?_))))
        intro z230 h230
        apply And.intro
        · intro h233
          intro z241 h241
          first | replace h241 := e_add h241 (by omega) | replace h241 := e_rng h241
          apply And.intro
          · exact ⟨by omega, by omega⟩
          intro z252 h252
          intro z253 h253
          first | replace h253 := e_sub h253 (by omega) | replace h253 := e_rng h253
          exact hQ _ _ _ _ _ _ _ _
        · intro h233
          intro z241 h241
          first | replace h241 := e_add h241 (by omega) | replace h241 := e_rng h241
          apply And.intro
          · exact ⟨by omega, by omega⟩
          intro z252 h252
          intro z253 h253
          first | replace h253 := e_sub h253 (by omega) | replace h253 := e_rng h253
          exact hQ _ _ _ _ _ _ _ _
      · intro h86
        exact ⟨_, ⟨_, _, _, _, _, _, _, _, _, _, _, _, rfl, rfl, rfl, rfl, (by first | omega | assumption | exact q_rg_up (by assumption) (by omega) | exact q_rg_up (q_rg_up (by assumption) (by omega)) (by omega) | exact q_rg_cpy (by assumption) (by assumption)), (by first | omega | assumption | exact q_rg_up (by assumption) (by omega) | exact q_rg_up (q_rg_up (by assumption) (by omega)) (by omega) | exact q_rg_cpy (by assumption) (by assumption))⟩, by omega⟩
    by_cases h98 : dz = 98
    · subst h98
      obtain ⟨y_mco, y_mye, y_mbo, y_mpe, y_tl, y_mpr, y_pa, v4, v5, v6, v7, v8, rfl, rfl, rfl, hn, hyb, hp⟩ := hI
      apply And.intro
      · intro h102
        apply And.intro
        · intro h182
          intro z195 h195
          first | replace h195 := e_add h195 (by omega) | replace h195 := e_rng h195
          apply And.intro
          · exact ⟨by omega, by omega⟩
          apply And.intro
          · intro h201
            intro z211 h211
            first | replace h211 := e_add h211 (by omega) | replace h211 := e_rng h211
            exact ⟨_, ⟨_, _, _, _, _, _, _, _, _, rfl, rfl, rfl, rfl, (by first | omega | assumption | exact q_rg_up (by assumption) (by omega) | exact q_rg_up (q_rg_up (by assumption) (by omega)) (by omega) | exact q_rg_cpy (by assumption) (by assumption)), (by first | omega | assumption | exact q_rg_up (by assumption) (by omega) | exact q_rg_up (q_rg_up (by assumption) (by omega)) (by omega) | exact q_rg_cpy (by assumption) (by assumption))⟩, by omega⟩
          · intro h201
            apply And.intro
            · intro h206
              intro z211 h211
              first | replace h211 := e_add h211 (by omega) | replace h211 := e_rng h211
              exact ⟨_, ⟨_, _, _, _, _, _, _, _, _, rfl, rfl, rfl, rfl, (by first | omega | assumption | exact q_rg_up (by assumption) (by omega) | exact q_rg_up (q_rg_up (by assumption) (by omega)) (by omega) | exact q_rg_cpy (by assumption) (by assumption)), (by first | omega | assumption | exact q_rg_up (by assumption) (by omega) | exact q_rg_up (q_rg_up (by assumption) (by omega)) (by omega) | exact q_rg_cpy (by assumption) (by assumption))⟩, by omega⟩
            · intro h206
              exact hQ _ _ _ _ _ _ _ _
        · intro h182
          apply And.intro
          · intro h187
            intro z195 h195
            first | replace h195 := e_add h195 (by omega) | replace h195 := e_rng h195
            apply And.intro
            · exact ⟨by omega, by omega⟩
            apply And.intro
            · intro h201
              intro z211 h211
              first | replace h211 := e_add h211 (by omega) | replace h211 := e_rng h211
              exact ⟨_, ⟨_, _, _, _, _, _, _, _, _, rfl, rfl, rfl, rfl, (by first | omega | assumption | exact q_rg_up (by assumption) (by omega) | exact q_rg_up (q_rg_up (by assumption) (by omega)) (by omega) | exact q_rg_cpy (by assumption) (by assumption)), (by first | omega | assumption | exact q_rg_up (by assumption) (by omega) | exact q_rg_up (q_rg_up (by assumption) (by omega)) (by omega) | exact q_rg_cpy (by assumption) (by assumption))⟩, by omega⟩
            · intro h201
              apply And.intro
              · intro h206
                intro z211 h211
                first | replace h211 := e_add h211 (by omega) | replace h211 := e_rng h211
                exact ⟨_, ⟨_, _, _, _, _, _, _, _, _, rfl, rfl, rfl, rfl, (by first | omega | assumption | exact q_rg_up (by assumption) (by omega) | exact q_rg_up (q_rg_up (by assumption) (by omega)) (by omega) | exact q_rg_cpy (by assumption) (by assumption)), (by first | omega | assumption | exact q_rg_up (by assumption) (by omega) | exact q_rg_up (q_rg_up (by assumption) (by omega)) (by omega) | exact q_rg_cpy (by assumption) (by assumption))⟩, by omega⟩
              · intro h206
                exact hQ _ _ _ _ _ _ _ _
          · intro h187
            intro z195 h195
            first | replace h195 := e_add h195 (by omega) | replace h195 := e_rng h195
            apply And.intro
            · exact ⟨by omega, by omega⟩
            apply And.intro
            · intro h201
              intro z211 h211
              first | replace h211 := e_add h211 (by omega) | replace h211 := e_rng h211
              exact ⟨_, ⟨_, _, _, _, _, _, _, _, _, rfl, rfl, rfl, rfl, (by first | omega | assumption | exact q_rg_up (by assumption) (by omega) | exact q_rg_up (q_rg_up (by assumption) (by omega)) (by omega) | exact q_rg_cpy (by assumption) (by assumption)), (by first | omega | assumption | exact q_rg_up (by assumption) (by omega) | exact q_rg_up (q_rg_up (by assumption) (by omega)) (by omega) | exact q_rg_cpy (by assumption) (by assumption))⟩, by omega⟩
            · intro h201
              apply And.intro
              · intro h206
                intro z211 h211
                first | replace h211 := e_add h211 (by omega) | replace h211 := e_rng h211
                exact ⟨_, ⟨_, _, _, _, _, _, _, _, _, rfl, rfl, rfl, rfl, (by first | omega | assumption | exact q_rg_up (by assumption) (by omega) | exact q_rg_up (q_rg_up (by assumption) (by omega)) (by omega) | exact q_rg_cpy (by assumption) (by assumption)), (by first | omega | assumption | exact q_rg_up (by assumption) (by omega) | exact q_rg_up (q_rg_up (by assumption) (by omega)) (by omega) | exact q_rg_cpy (by assumption) (by assumption))⟩, by omega⟩
              · intro h206
                exact hQ _ _ _ _ _ _ _ _
      · intro h102
        refine Exists.intro [] (Exists.intro [q1 _, q1 _] (Exists.intro [] (And.intro rfl (And.intro rfl (And.intro rfl (And.intro trivial ?_))))))
        refine Exists.intro _ (Exists.intro _ (And.intro rfl (And.intro rfl (?_))))
        intro z111 h111
        apply And.intro
        · intro h114
          intro z127 h127
          first | replace h127 := e_add h127 (by omega) | replace h127 := e_rng h127
          refine Exists.intro [] (Exists.intro [q1 _, q1 _] (Exists.intro [] (And.intro rfl (And.intro rfl (And.intro rfl (And.intro trivial ?_))))))
          refine Exists.intro _ (Exists.intro _ (And.intro rfl (And.intro rfl (?_))))
          intro z134 h134
          apply And.intro
          · intro h137
            intro z166 h166
            first | replace h166 := e_add h166 (by omega) | replace h166 := e_rng h166
            exact ⟨_, ⟨_, _, _, _, _, _, _, _, _, _, _, _, rfl, rfl, rfl, rfl, (by first | omega | assumption | exact q_rg_up (by assumption) (by omega) | exact q_rg_up (q_rg_up (by assumption) (by omega)) (by omega) | exact q_rg_cpy (by assumption) (by assumption)), (by first | omega | assumption | exact q_rg_up (by assumption) (by omega) | exact q_rg_up (q_rg_up (by assumption) (by omega)) (by omega) | exact q_rg_cpy (by assumption) (by assumption))⟩, by omega⟩
          · intro h137
            intro z151 h151
            first | replace h151 := e_shl h151 (by omega) | replace h151 := e_rng h151
            intro z153 h153
            first | replace h153 := e_xor8 h153 (by omega) (by omega) | replace h153 := e_xor9 h153 (by omega) (by omega) | replace h153 := e_rng h153
            intro z154 h154
            replace h154 := e_and0 h154 (by omega)
            apply And.intro
            · exact ⟨by omega, by omega⟩
            intro z155 h155
            refine Exists.intro [] (Exists.intro [q1 _, q1 _] (Exists.intro [] (And.intro rfl (And.intro rfl (And.intro rfl (And.intro trivial ?_))))))
            refine Exists.intro _ (Exists.intro _ (And.intro rfl (And.intro rfl (?_))))
            intro z156 h156
            intro z166 h166
            first | replace h166 := e_add h166 (by omega) | replace h166 := e_rng h166
            exact ⟨_, ⟨_, _, _, _, _, _, _, _, _, _, _, _, rfl, rfl, rfl, rfl, (by first | omega | assumption | exact q_rg_up (by assumption) (by omega) | exact q_rg_up (q_rg_up (by assumption) (by omega)) (by omega) | exact q_rg_cpy (by assumption) (by assumption)), (by first | omega | assumption | exact q_rg_up (by assumption) (by omega) | exact q_rg_up (q_rg_up (by assumption) (by omega)) (by omega) | exact q_rg_cpy (by assumption) (by assumption))⟩, by omega⟩
        · intro h114
          refine Exists.intro [0, 4, 2, 6, 7, 8, 9, 1, 3, 10, 11, 12, 13, 14, 15, 16, 17, 18, 19, 20, 21, 22, 23, 24, 5, 25] (Exists.intro [q2 0, q1 _] (Exists.intro ([.inr (12, [q1 _, q2 3, q2 4, q2 5, q2 6, q2 7, q2 2, q2 8, q2 9, q2 10, q1 _, q1 _, q1 _, q1 _, q1 _, q3 _, q1 _, q1 _, q1 _, q2 11, q2 12, q1 _, q1 _, q1 _, q1 _, q1 _, q1 _, q2 1, q1 _, q2 13, q2 14, q2 15, q2 16, q1 _, q2 17, q1 _, q2 18, q2 19, q2 20, q2 21, q2 22, q1 _, q2 23, q2 24, q2 25]), .inl (0, 8, .inl _), .inl (0, 600, .inl _)]) (And.intro rfl (And.intro rfl (And.intro rfl (And.intro ⟨⟨_, rfl⟩, rfl⟩ ?_))))))
          refine Exists.intro _ (Exists.intro _ (Exists.intro _ (Exists.intro _ (Exists.intro _ (Exists.intro _ (Exists.intro _ (Exists.intro _ (Exists.intro _ (Exists.intro _ (Exists.intro _ (Exists.intro _ (Exists.intro _ (Exists.intro _ (Exists.intro _ (Exists.intro _ (Exists.intro _ (Exists.intro _ (Exists.intro _ (Exists.intro _ (Exists.intro _ (Exists.intro _ (Exists.intro _ (And.intro rfl (And.intro rfl (And.intro (by first | omega | assumption | exact q_rg_up (by assumption) (by omega) | exact q_rg_up (q_rg_up (by assumption) (by omega)) (by omega) | exact q_rg_cpy (by assumption) (by assumption)) (And.intro (by first | omega | assumption | exact q_rg_up (by assumption) (by omega) | exact q_rg_up (q_rg_up (by assumption) (by omega)) (by omega) | exact q_rg_cpy (by assumption) (by assumption)) (And.intro (by first | omega | assumption | exact q_rg_up (by assumption) (by omega) | exact q_rg_up (q_rg_up (by assumption) (by omega)) (by omega) | exact q_rg_cpy (by assumption) (by assumption)) (And.intro (by first | omega | assumption | exact q_rg_up (by assumption) (by omega) | exact q_rg_up (q_rg_up (by assumption) (by omega)) (by omega) | exact q_rg_cpy (by assumption) (by assumption)) (?_)))))))))))))))))))))))))))))
          intro z120
          intro z127 h127
          first | replace h127 := e_add h127 (by omega) | replace h127 := e_rng h127
          refine Exists.intro [] (Exists.intro [q1 _, q1 _] (Exists.intro [] (And.intro rfl (And.intro rfl (And.intro rfl (And.intro trivial ?_))))))
          refine Exists.intro _ (Exists.intro _ (And.intro rfl (And.intro rfl (?_))))
          intro z134 h134
          apply And.intro
          · intro h137
            intro z166 h166
            first | replace h166 := e_add h166 (by omega) | replace h166 := e_rng h166
            exact ⟨_, ⟨_, _, _, _, _, _, _, _, _, _, _, _, rfl, rfl, rfl, rfl, (by first | omega | assumption | exact q_rg_up (by assumption) (by omega) | exact q_rg_up (q_rg_up (by assumption) (by omega)) (by omega) | exact q_rg_cpy (by assumption) (by assumption)), (by first | omega | assumption | exact q_rg_up (by assumption) (by omega) | exact q_rg_up (q_rg_up (by assumption) (by omega)) (by omega) | exact q_rg_cpy (by assumption) (by assumption))⟩, by omega⟩
          · intro h137
            intro z151 h151
            first | replace h151 := e_shl h151 (by omega) | replace h151 := e_rng h151
            intro z153 h153
            first | replace h153 := e_xor8 h153 (by omega) (by omega) | replace h153 := e_xor9 h153 (by omega) (by omega) | replace h153 := e_rng h153
            intro z154 h154
            replace h154 := e_and0 h154 (by omega)
            apply And.intro
            · exact ⟨by omega, by omega⟩
            intro z155 h155
            refine Exists.intro [] (Exists.intro [q1 _, q1 _] (Exists.intro [] (And.intro rfl (And.intro rfl (And.intro rfl (And.intro trivial ?_))))))
            refine Exists.intro _ (Exists.intro _ (And.intro rfl (And.intro rfl (?_))))
            intro z156 h156
            intro z166 h166
            first | replace h166 := e_add h166 (by omega) | replace h166 := e_rng h166
            exact ⟨_, ⟨_, _, _, _, _, _, _, _, _, _, _, _, rfl, rfl, rfl, rfl, (by first | omega | assumption | exact q_rg_up (by assumption) (by omega) | exact q_rg_up (q_rg_up (by assumption) (by omega)) (by omega) | exact q_rg_cpy (by assumption) (by assumption)), (by first | omega | assumption | exact q_rg_up (by assumption) (by omega) | exact q_rg_up (q_rg_up (by assumption) (by omega)) (by omega) | exact q_rg_cpy (by assumption) (by assumption))⟩, by omega⟩
    simp only [I_X12_settled, h43, h81, h98, if_false] at hI
  rintro lv st w' ⟨rfl, rfl, rfl⟩
  apply And.intro
  · exact trivial
  refine Exists.intro [0, 1, 2, 6, 7, 8, 9, 3, 10, 11, 12, 13, 4, 14, 15, 16, 17, 18, 19, 20, 21, 22, 23, 24, 5, 25] (Exists.intro [q2 0, q1 _, q1 _] (Exists.intro ([.inr (12, [q1 _, q2 3, q2 4, q2 5, q2 6, q2 1, q2 2, q2 7, q2 8, q2 9, q1 _, q1 _, q1 _, q1 _, q1 _, q3 _, q1 _, q1 _, q1 _, q2 10, q2 11, q1 _, q1 _, q1 _, q1 _, q1 _, q1 _, q2 12, q1 _, q2 13, q2 14, q2 15, q2 16, q1 _, q2 17, q1 _, q2 18, q2 19, q2 20, q2 21, q2 22, q1 _, q2 23, q2 24, q2 25]), .inl (0, 16, .inl _), .inl (0, 600, .inl _)]) (And.intro rfl (And.intro rfl (And.intro rfl (And.intro ⟨⟨_, rfl⟩, rfl⟩ ?_))))))
  refine Exists.intro _ (Exists.intro _ (Exists.intro _ (Exists.intro _ (Exists.intro _ (Exists.intro _ (Exists.intro _ (Exists.intro _ (Exists.intro _ (Exists.intro _ (Exists.intro _ (Exists.intro _ (Exists.intro _ (Exists.intro _ (Exists.intro _ (Exists.intro _ (Exists.intro _ (Exists.intro _ (Exists.intro _ (Exists.intro _ (Exists.intro _ (Exists.intro _ (Exists.intro _ (Exists.intro _ (And.intro rfl (And.intro rfl (And.intro (by first | omega | assumption | exact q_rg_up (by assumption) (by omega) | exact q_rg_up (q_rg_up (by assumption) (by omega)) (by omega) | exact q_rg_cpy (by assumption) (by assumption)) (And.intro (by first | omega | assumption | exact q_rg_up (by assumption) (by omega) | exact q_rg_up (q_rg_up (by assumption) (by omega)) (by omega) | exact q_rg_cpy (by assumption) (by assumption)) (?_))))))))))))))))))))))))))))
  intro z8 x_mye_8 x_mbo_8 x_mpe_8 h8
  apply And.intro
  · intro h11
    first | replace h8 := dj1 h8 h11 | replace h8 := dj0 h8 h11
    exact hQ _ _ _ _ _ _ _ _
  · intro h11
    first | replace h8 := dj1 h8 h11 | replace h8 := dj0 h8 h11
    refine Exists.intro [0, 3, 6, 7, 8, 9, 1, 2, 10, 11, 12, 13, 4, 14, 15, 16, 17, 18, 19, 20, 21, 22, 23, 24, 5, 25] (Exists.intro [q2 0] (Exists.intro ([.inr (12, [q1 _, q2 2, q2 3, q2 4, q2 5, q2 6, q2 7, q2 1, q2 8, q2 9, q1 _, q1 _, q1 _, q1 _, q1 _, q3 _, q1 _, q1 _, q1 _, q2 10, q2 11, q1 _, q1 _, q1 _, q1 _, q1 _, q1 _, q2 12, q1 _, q2 13, q2 14, q2 15, q2 16, q1 _, q2 17, q1 _, q2 18, q2 19, q2 20, q2 21, q2 22, q1 _, q2 23, q2 24, q2 25]), .inl (0, 1288, .inl _)]) (And.intro rfl (And.intro rfl (And.intro rfl (And.intro ⟨⟨_, rfl⟩, rfl⟩ ?_))))))
    refine Exists.intro _ (Exists.intro _ (Exists.intro _ (Exists.intro _ (Exists.intro _ (Exists.intro _ (Exists.intro _ (Exists.intro _ (Exists.intro _ (Exists.intro _ (Exists.intro _ (Exists.intro _ (Exists.intro _ (Exists.intro _ (Exists.intro _ (Exists.intro _ (Exists.intro _ (Exists.intro _ (Exists.intro _ (Exists.intro _ (Exists.intro _ (And.intro rfl (And.intro rfl (And.intro (by first | omega | assumption | exact q_rg_up (by assumption) (by omega) | exact q_rg_up (q_rg_up (by assumption) (by omega)) (by omega) | exact q_rg_cpy (by assumption) (by assumption)) (And.intro (by first | omega | assumption | exact q_rg_up (by assumption) (by omega) | exact q_rg_up (q_rg_up (by assumption) (by omega)) (by omega) | exact q_rg_cpy (by assumption) (by assumption)) (?_)))))))))))))))))))))))))
    intro z17 h17
    refine Exists.intro [] (Exists.intro [q1 _, q1 _, q1 _] (Exists.intro [] (And.intro rfl (And.intro rfl (And.intro rfl (And.intro trivial ?_))))))
    refine Exists.intro _ (Exists.intro _ (Exists.intro _ (And.intro rfl (And.intro rfl (?_)))))
    intro z20 h20
    apply And.intro
    · intro h23
      first | replace h20 := dj1 h20 h23 | replace h20 := dj0 h20 h23
      exact hQ _ _ _ _ _ _ _ _
    · intro h23
      first | replace h20 := dj1 h20 h23 | replace h20 := dj0 h20 h23
      refine Exists.intro [0, 4, 2, 3, 6, 7, 8, 9, 1, 10, 11, 12, 13, 14, 15, 16, 17, 18, 19, 20, 21, 22, 23, 24, 5, 25] (Exists.intro [q2 0, q1 _] (Exists.intro ([.inr (12, [q1 _, q2 4, q2 5, q2 6, q2 7, q2 8, q2 2, q2 3, q2 9, q2 10, q1 _, q1 _, q1 _, q1 _, q1 _, q3 _, q1 _, q1 _, q1 _, q2 11, q2 12, q1 _, q1 _, q1 _, q1 _, q1 _, q1 _, q2 1, q1 _, q2 13, q2 14, q2 15, q2 16, q1 _, q2 17, q1 _, q2 18, q2 19, q2 20, q2 21, q2 22, q1 _, q2 23, q2 24, q2 25]), .inl (0, 8, .inl _), .inl (0, 600, .inl _), .inl (0, 1288, .inl _)]) (And.intro rfl (And.intro rfl (And.intro rfl (And.intro ⟨⟨_, rfl⟩, rfl⟩ ?_))))))
      refine Exists.intro _ (Exists.intro _ (Exists.intro _ (Exists.intro _ (Exists.intro _ (Exists.intro _ (Exists.intro _ (Exists.intro _ (Exists.intro _ (Exists.intro _ (Exists.intro _ (Exists.intro _ (Exists.intro _ (Exists.intro _ (Exists.intro _ (Exists.intro _ (Exists.intro _ (Exists.intro _ (Exists.intro _ (Exists.intro _ (Exists.intro _ (Exists.intro _ (Exists.intro _ (Exists.intro _ (And.intro rfl (And.intro rfl (And.intro (by first | omega | assumption | exact q_rg_up (by assumption) (by omega) | exact q_rg_up (q_rg_up (by assumption) (by omega)) (by omega) | exact q_rg_cpy (by assumption) (by assumption)) (And.intro (by first | omega | assumption | exact q_rg_up (by assumption) (by omega) | exact q_rg_up (q_rg_up (by assumption) (by omega)) (by omega) | exact q_rg_cpy (by assumption) (by assumption)) (And.intro (by first | omega | assumption | exact q_rg_up (by assumption) (by omega) | exact q_rg_up (q_rg_up (by assumption) (by omega)) (by omega) | exact q_rg_cpy (by assumption) (by assumption)) (And.intro (by first | omega | assumption | exact q_rg_up (by assumption) (by omega) | exact q_rg_up (q_rg_up (by assumption) (by omega)) (by omega) | exact q_rg_cpy (by assumption) (by assumption)) (And.intro (by first | omega | assumption | exact q_rg_up (by assumption) (by omega) | exact q_rg_up (q_rg_up (by assumption) (by omega)) (by omega) | exact q_rg_cpy (by assumption) (by assumption)) (And.intro (by first | omega | assumption | exact q_rg_up (by assumption) (by omega) | exact q_rg_up (q_rg_up (by assumption) (by omega)) (by omega) | exact q_rg_cpy (by assumption) (by assumption)) (?_))))))))))))))))))))))))))))))))
      intro z28 x_tl_28 x_mpr_28 h28
      apply And.intro
      · intro h32
        exact ⟨_, _, _, _, _, _, _, _, _, _, rfl, rfl, rfl, rfl, (by first | omega | assumption | exact q_rg_up (by assumption) (by omega) | exact q_rg_up (q_rg_up (by assumption) (by omega)) (by omega) | exact q_rg_cpy (by assumption) (by assumption)), (by first | omega | assumption | exact q_rg_up (by assumption) (by omega) | exact q_rg_up (q_rg_up (by assumption) (by omega)) (by omega) | exact q_rg_cpy (by assumption) (by assumption))⟩
      · intro h32
        exact hQ _ _ _ _ _ _ _ _
