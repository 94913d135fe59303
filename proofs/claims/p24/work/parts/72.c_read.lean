theorem dX6_read_0 : decode cX6_read 0 = .ok (.aload_n 0, 1) := by decide +kernel
theorem dX6_read_1 : decode cX6_read 1 = .ok (.aload_n 2, 1) := by decide +kernel
theorem dX6_read_2 : decode cX6_read 2 = .ok (.iload_n 3, 1) := by decide +kernel
theorem dX6_read_3 : decode cX6_read 3 = .ok (.invokevirtual 47, 3) := by decide +kernel
theorem dX6_read_6 : decode cX6_read 6 = .ok (.iconst 0, 1) := by decide +kernel
theorem dX6_read_7 : decode cX6_read 7 = .ok (.istore 4, 2) := by decide +kernel
theorem dX6_read_9 : decode cX6_read 9 = .ok (.iload 4, 2) := by decide +kernel
theorem dX6_read_11 : decode cX6_read 11 = .ok (.aload_n 0, 1) := by decide +kernel
theorem dX6_read_12 : decode cX6_read 12 = .ok (.getfield 51, 3) := by decide +kernel
theorem dX6_read_15 : decode cX6_read 15 = .ok (.if_icmp .gt 48, 3) := by decide +kernel
theorem dX6_read_18 : decode cX6_read 18 = .ok (.aload_n 0, 1) := by decide +kernel
theorem dX6_read_19 : decode cX6_read 19 = .ok (.invokevirtual 55, 3) := by decide +kernel
theorem dX6_read_22 : decode cX6_read 22 = .ok (.aload_n 0, 1) := by decide +kernel
theorem dX6_read_23 : decode cX6_read 23 = .ok (.getfield 58, 3) := by decide +kernel
theorem dX6_read_26 : decode cX6_read 26 = .ok (.ifCond .ne 9, 3) := by decide +kernel
theorem dX6_read_29 : decode cX6_read 29 = .ok (.aload_n 0, 1) := by decide +kernel
theorem dX6_read_30 : decode cX6_read 30 = .ok (.iload_n 1, 1) := by decide +kernel
theorem dX6_read_31 : decode cX6_read 31 = .ok (.invokevirtual 61, 3) := by decide +kernel
theorem dX6_read_34 : decode cX6_read 34 = .ok (.return_, 1) := by decide +kernel
theorem dX6_read_35 : decode cX6_read 35 = .ok (.aload_n 0, 1) := by decide +kernel
theorem dX6_read_36 : decode cX6_read 36 = .ok (.iload_n 1, 1) := by decide +kernel
theorem dX6_read_37 : decode cX6_read 37 = .ok (.invokevirtual 65, 3) := by decide +kernel
theorem dX6_read_40 : decode cX6_read 40 = .ok (.ifCond .ne 17, 3) := by decide +kernel
theorem dX6_read_43 : decode cX6_read 43 = .ok (.aload_n 0, 1) := by decide +kernel
theorem dX6_read_44 : decode cX6_read 44 = .ok (.iconst 1, 1) := by decide +kernel
theorem dX6_read_45 : decode cX6_read 45 = .ok (.putfield 69, 3) := by decide +kernel
theorem dX6_read_48 : decode cX6_read 48 = .ok (.aload_n 0, 1) := by decide +kernel
theorem dX6_read_49 : decode cX6_read 49 = .ok (.aload_n 0, 1) := by decide +kernel
theorem dX6_read_50 : decode cX6_read 50 = .ok (.getfield 72, 3) := by decide +kernel
theorem dX6_read_53 : decode cX6_read 53 = .ok (.putfield 75, 3) := by decide +kernel
theorem dX6_read_56 : decode cX6_read 56 = .ok (.return_, 1) := by decide +kernel
theorem dX6_read_57 : decode cX6_read 57 = .ok (.iinc 4 1, 3) := by decide +kernel
theorem dX6_read_60 : decode cX6_read 60 = .ok (.goto (-51), 3) := by decide +kernel
theorem dX6_read_63 : decode cX6_read 63 = .ok (.return_, 1) := by decide +kernel
def is_X6_read : Nat → List Nat := fun d => if d = 9 then [0, 1, 4] else []
set_option maxRecDepth 100000 in
def b_X6_read_56 (J : Nat → List qV → List qV → qW → Prop) (Q : qR) : qK := x_vret Q
set_option maxRecDepth 100000 in
theorem s_X6_read_56 {p : Program} {l : Launch} {e : Env} {R : Room} {s : State} {m : MethodId} {args : Array Value} {below : List Frame} {meth : Method} {c : Code} {nW : Nat} {dC : Nat → ClassId} {dI : Nat → Nat → Nat} {k : Nat → ClassId} {g : Nat → Nat} {A : Nat → Prop} {J : Nat → List qV → List qV → qW → Prop} {Q : qR} (X : q_X p R s m args meth c cX6_read 5 nW 8 174 RX6 none dC dI k g A) (hJ : ∀ d : Nat, q_Sd p l e R s m args below meth c 5 nW dC dI k g A (MQ below (q_post (dC, dI) k g nW Q A) args s 0 0 A) d (x_cut (is_X6_read d) (J d))) : q_Sd p l e R s m args below meth c 5 nW dC dI k g A (MQ below (q_post (dC, dI) k g nW Q A) args s 0 0 A) 56 (b_X6_read_56 J Q) := by
  unfold b_X6_read_56
  exact s_vret X dX6_read_56
set_option maxRecDepth 100000 in
def b_X6_read_9 (J : Nat → List qV → List qV → qW → Prop) (Q : qR) : qK := x_iload 4 (x_aload 0 (x_get 6 6 (x_icmp_gt (x_vret Q) (x_aload 0 (x_call (some 6) 1 sp_X6_advance (x_nw (x_aload 0 (x_get 6 11 (x_if_ne (x_aload 0 (x_iload 1 (x_calln (some 6) 2 sp_X6_readLine (x_if_ne (x_iinc 4 1 (x_cut [0, 1, 4] (J 9))) (x_aload 0 (x_int 1 (x_put 6 7 q_oki (x_nw (x_aload 0 (x_aload 0 (x_get 6 9 (x_put 6 8 q_oki (x_nw (b_X6_read_56 J Q)))))))))))))) (x_aload 0 (x_iload 1 (x_call (some 6) 2 sp_X6_close (x_nw (x_vret Q))))))))))))))
set_option maxRecDepth 100000 in
theorem s_X6_read_9 {p : Program} {l : Launch} {e : Env} {R : Room} {s : State} {m : MethodId} {args : Array Value} {below : List Frame} {meth : Method} {c : Code} {nW : Nat} {dC : Nat → ClassId} {dI : Nat → Nat → Nat} {k : Nat → ClassId} {g : Nat → Nat} {A : Nat → Prop} {J : Nat → List qV → List qV → qW → Prop} {Q : qR} (X : q_X p R s m args meth c cX6_read 5 nW 8 174 RX6 none dC dI k g A) (hJ : ∀ d : Nat, q_Sd p l e R s m args below meth c 5 nW dC dI k g A (MQ below (q_post (dC, dI) k g nW Q A) args s 0 0 A) d (x_cut (is_X6_read d) (J d))) : q_Sd p l e R s m args below meth c 5 nW dC dI k g A (MQ below (q_post (dC, dI) k g nW Q A) args s 0 0 A) 9 (b_X6_read_9 J Q) := by
  unfold b_X6_read_9
  refine s_iload X dX6_read_9 ?_
  refine s_aload_n X rfl dX6_read_11 ?_
  refine s_get X (T := TX6) (C := RX6) (N := 15) tu_X6 rfl (by decide) tw_277 dX6_read_12 ?_
  refine s_icmp_gt X (tgt := 63) dX6_read_15 (by decide) ?_ ?_
  · exact s_vret X dX6_read_63
  · refine s_aload_n X rfl dX6_read_18 ?_
    refine s_callV X (m_X6_advance l) tw_373 tw_374 tw_1507 tw_128 tw_375 rfl (by decide +kernel) ⟨by decide, by decide⟩ dX6_read_19 ?_
    refine s_nw ?_
    refine s_aload_n X rfl dX6_read_22 ?_
    refine s_get X (T := TX6) (C := RX6) (N := 15) tu_X6 rfl (by decide) tw_284 dX6_read_23 ?_
    refine s_if_ne X (tgt := 35) dX6_read_26 (by decide) ?_ ?_
    · refine s_aload_n X rfl dX6_read_35 ?_
      refine s_iload_n X rfl dX6_read_36 ?_
      refine s_callVn X (m_X6_readLine l) tw_402 tw_403 tw_1517 tw_128 tw_404 rfl (by decide +kernel) ⟨by decide, by decide⟩ dX6_read_37 ?_
      refine s_if_ne X (tgt := 57) dX6_read_40 (by decide) ?_ ?_
      · refine s_iinc X (by decide) dX6_read_57 ?_
        refine s_goto X (tgt := 9) dX6_read_60 (by decide) ?_
        exact hJ 9
      · refine s_aload_n X rfl dX6_read_43 ?_
        refine s_iconst X ⟨by decide, by decide⟩ dX6_read_44 ?_
        refine s_put X (T := TX6) (C := RX6) (N := 15) tu_X6 tyX6_ok nmX6 rfl (by decide) tw_278 rfl (by decide +kernel) q_oki_t dX6_read_45 ?_
        refine s_nw ?_
        refine s_aload_n X rfl dX6_read_48 ?_
        refine s_aload_n X rfl dX6_read_49 ?_
        refine s_get X (T := TX6) (C := RX6) (N := 15) tu_X6 rfl (by decide) tw_282 dX6_read_50 ?_
        refine s_put X (T := TX6) (C := RX6) (N := 15) tu_X6 tyX6_ok nmX6 rfl (by decide) tw_280 rfl (by decide +kernel) q_oki_t dX6_read_53 ?_
        refine s_nw ?_
        exact s_X6_read_56 X hJ
    · refine s_aload_n X rfl dX6_read_29 ?_
      refine s_iload_n X rfl dX6_read_30 ?_
      refine s_callV X (m_X6_close l) tw_388 tw_389 tw_1510 tw_128 tw_390 rfl (by decide +kernel) ⟨by decide, by decide⟩ dX6_read_31 ?_
      refine s_nw ?_
      exact s_vret X dX6_read_34
set_option maxRecDepth 100000 in
def b_X6_read_0 (J : Nat → List qV → List qV → qW → Prop) (Q : qR) : qK := x_aload 0 (x_aload 2 (x_iload 3 (x_calln (some 6) 3 sp_X6_open (x_int 0 (x_istore 4 (x_cut [0, 1, 4] (J 9)))))))
set_option maxRecDepth 100000 in
theorem s_X6_read_0 {p : Program} {l : Launch} {e : Env} {R : Room} {s : State} {m : MethodId} {args : Array Value} {below : List Frame} {meth : Method} {c : Code} {nW : Nat} {dC : Nat → ClassId} {dI : Nat → Nat → Nat} {k : Nat → ClassId} {g : Nat → Nat} {A : Nat → Prop} {J : Nat → List qV → List qV → qW → Prop} {Q : qR} (X : q_X p R s m args meth c cX6_read 5 nW 8 174 RX6 none dC dI k g A) (hJ : ∀ d : Nat, q_Sd p l e R s m args below meth c 5 nW dC dI k g A (MQ below (q_post (dC, dI) k g nW Q A) args s 0 0 A) d (x_cut (is_X6_read d) (J d))) : q_Sd p l e R s m args below meth c 5 nW dC dI k g A (MQ below (q_post (dC, dI) k g nW Q A) args s 0 0 A) 0 (b_X6_read_0 J Q) := by
  unfold b_X6_read_0
  refine s_aload_n X rfl dX6_read_0 ?_
  refine s_aload_n X rfl dX6_read_1 ?_
  refine s_iload_n X rfl dX6_read_2 ?_
  refine s_callVn X (m_X6_open l) tw_361 tw_362 tw_1516 tw_128 tw_363 rfl (by decide +kernel) ⟨by decide, by decide⟩ dX6_read_3 ?_
  refine s_iconst X ⟨by decide, by decide⟩ dX6_read_6 ?_
  refine s_istore X (by decide) dX6_read_7 ?_
  exact hJ 9

def sp_X6_read : qS := fun av w Q => ∃ (rln : Int) (rfa : Int) (rpl : Int) (rst : Int) (rnx : Int) (rtk : Int) (rnm : Int) (rnp : Int) (rnd : Int) (tp : Nat → Int) (rv : Nat → Int) (rbf1 : Nat → Int) (rbf2 : Nat → Int) (rbf3 : Nat → Int) (rbf4 : Nat → Int) (rbf5 : Nat → Int) (rbf6 : Nat → Int) (rbf7 : Nat → Int) (rbu0 : Int) (rbu1 : Int) (rbu2 : Int) (rbu3 : Int) (rbu4 : Int) (ryk1 : Nat → Int) (ryk2 : Nat → Int) (ryk3 : Nat → Int) (ryk4 : Nat → Int) (ryd : Int) (rlg : Nat → Int) (rlo : Int) (rsp : Nat → Int) (rsq : Nat → Int) (rsc : Int) (a : Int) (b : Int), av = [q2 0, q1 a, q2 1, q1 b] ∧ w = [.inr (6, [q2 3, q2 11, q2 16, q2 18, q2 2, q2 21, q1 rln, q1 rfa, q1 rpl, q1 rst, q1 rnx, q1 rtk, q1 rnm, q1 rnp, q1 rnd]), .inl (1, 600, .inl tp), .inl (0, 3, .inl rv), .inr (0, [q2 4, q2 5, q2 6, q2 7, q2 8, q2 9, q2 10, q1 rbu0, q1 rbu1, q1 rbu2, q1 rbu3, q1 rbu4]), .inl (0, 8, .inl rbf1), .inl (0, 8, .inl rbf2), .inl (0, 4, .inl rbf3), .inl (0, 32, .inl rbf4), .inl (0, 6, .inl rbf5), .inl (0, 6, .inl rbf6), .inl (0, 6, .inl rbf7), .inr (10, [q2 12, q2 13, q2 14, q2 15, q1 ryd]), .inl (0, 40, .inl ryk1), .inl (0, 40, .inl ryk2), .inl (0, 40, .inl ryk3), .inl (0, 40, .inl ryk4), .inr (3, [q2 17, q1 rlo]), .inl (0, 8, .inl rlg), .inr (7, [q2 19, q2 20, q1 rsc]), .inl (0, 10, .inl rsp), .inl (0, 10, .inl rsq)] ∧ (0 ≤ b ∧ b ≤ 600) ∧ (0 ≤ rst ∧ rst ≤ 600) ∧ (q_rg 0 9 rbf3) ∧ (∀ (x_rln : Int) (x_rst : Int) (x_rnx : Int) (x_rtk : Int) (x_rnm : Int) (x_rfa : Int) (x_rpl : Int) (x_rv : Nat → Int) (x_rbf1 : Nat → Int) (x_rbf2 : Nat → Int) (x_rbf3 : Nat → Int) (x_rbf4 : Nat → Int) (x_rbf5 : Nat → Int) (x_rbf6 : Nat → Int) (x_rbf7 : Nat → Int) (x_rbu0 : Int) (x_rbu1 : Int) (x_rbu2 : Int) (x_rbu3 : Int) (x_rbu4 : Int) (x_rnp : Int) (x_rnd : Int) (x_ryk1 : Nat → Int) (x_ryk2 : Nat → Int) (x_ryk3 : Nat → Int) (x_ryk4 : Nat → Int) (x_ryd : Int) (x_rlg : Nat → Int) (x_rlo : Int) (x_rsp : Nat → Int) (x_rsq : Nat → Int) (x_rsc : Int), (((0 ≤ x_rbu0 ∧ x_rbu0 ≤ 8 ∧ 0 ≤ x_rbu3 ∧ x_rbu3 ≤ 6 ∧ 0 ≤ x_rbu4 ∧ x_rbu4 ≤ 6 ∧ q_rg 0 9 x_rbf3) ∧ (0 ≤ x_ryd ∧ x_ryd ≤ 40) ∧ (0 ≤ x_rsc ∧ x_rsc ≤ 10)) ∧ (0 ≤ x_rst ∧ x_rst ≤ 600)) → Q none ([.inr (6, [q2 3, q2 11, q2 16, q2 18, q2 2, q2 1, q1 x_rln, q1 x_rfa, q1 x_rpl, q1 x_rst, q1 x_rnx, q1 x_rtk, q1 x_rnm, q1 x_rnp, q1 x_rnd]), .inl (1, 600, .inl tp), .inl (0, 3, .inl x_rv), .inr (0, [q2 4, q2 5, q2 6, q2 7, q2 8, q2 9, q2 10, q1 x_rbu0, q1 x_rbu1, q1 x_rbu2, q1 x_rbu3, q1 x_rbu4]), .inl (0, 8, .inl x_rbf1), .inl (0, 8, .inl x_rbf2), .inl (0, 4, .inl x_rbf3), .inl (0, 32, .inl x_rbf4), .inl (0, 6, .inl x_rbf5), .inl (0, 6, .inl x_rbf6), .inl (0, 6, .inl x_rbf7), .inr (10, [q2 12, q2 13, q2 14, q2 15, q1 x_ryd]), .inl (0, 40, .inl x_ryk1), .inl (0, 40, .inl x_ryk2), .inl (0, 40, .inl x_ryk3), .inl (0, 40, .inl x_ryk4), .inr (3, [q2 17, q1 x_rlo]), .inl (0, 8, .inl x_rlg), .inr (7, [q2 19, q2 20, q1 x_rsc]), .inl (0, 10, .inl x_rsp), .inl (0, 10, .inl x_rsq)]))
def I_X6_read (rln : Int) (rfa : Int) (rpl : Int) (rst : Int) (rnx : Int) (rtk : Int) (rnm : Int) (rnp : Int) (rnd : Int) (tp : Nat → Int) (rv : Nat → Int) (rbf1 : Nat → Int) (rbf2 : Nat → Int) (rbf3 : Nat → Int) (rbf4 : Nat → Int) (rbf5 : Nat → Int) (rbf6 : Nat → Int) (rbf7 : Nat → Int) (rbu0 : Int) (rbu1 : Int) (rbu2 : Int) (rbu3 : Int) (rbu4 : Int) (ryk1 : Nat → Int) (ryk2 : Nat → Int) (ryk3 : Nat → Int) (ryk4 : Nat → Int) (ryd : Int) (rlg : Nat → Int) (rlo : Int) (rsp : Nat → Int) (rsq : Nat → Int) (rsc : Int) (a : Int) (b : Int) : Nat → Nat → List qV → List qV → qW → Prop := fun dz mz vz sz wz => if dz = 9 then (∃ (y_rln : Int) (y_rst : Int) (y_rnx : Int) (y_rtk : Int) (y_rnm : Int) (y_rfa : Int) (y_rpl : Int) (y_rv : Nat → Int) (y_rbf1 : Nat → Int) (y_rbf2 : Nat → Int) (y_rbf3 : Nat → Int) (y_rbf4 : Nat → Int) (y_rbf5 : Nat → Int) (y_rbf6 : Nat → Int) (y_rbf7 : Nat → Int) (y_rbu0 : Int) (y_rbu1 : Int) (y_rbu2 : Int) (y_rbu3 : Int) (y_rbu4 : Int) (y_rnp : Int) (y_rnd : Int) (y_ryk1 : Nat → Int) (y_ryk2 : Nat → Int) (y_ryk3 : Nat → Int) (y_ryk4 : Nat → Int) (y_ryd : Int) (y_rlg : Nat → Int) (y_rlo : Int) (y_rsp : Nat → Int) (y_rsq : Nat → Int) (y_rsc : Int) (v4 : Int), vz = [q2 0, q1 a, q1 v4] ∧ sz = [] ∧ wz = [.inr (6, [q2 3, q2 11, q2 16, q2 18, q2 2, q2 1, q1 y_rln, q1 y_rfa, q1 y_rpl, q1 y_rst, q1 y_rnx, q1 y_rtk, q1 y_rnm, q1 y_rnp, q1 y_rnd]), .inl (1, 600, .inl tp), .inl (0, 3, .inl y_rv), .inr (0, [q2 4, q2 5, q2 6, q2 7, q2 8, q2 9, q2 10, q1 y_rbu0, q1 y_rbu1, q1 y_rbu2, q1 y_rbu3, q1 y_rbu4]), .inl (0, 8, .inl y_rbf1), .inl (0, 8, .inl y_rbf2), .inl (0, 4, .inl y_rbf3), .inl (0, 32, .inl y_rbf4), .inl (0, 6, .inl y_rbf5), .inl (0, 6, .inl y_rbf6), .inl (0, 6, .inl y_rbf7), .inr (10, [q2 12, q2 13, q2 14, q2 15, q1 y_ryd]), .inl (0, 40, .inl y_ryk1), .inl (0, 40, .inl y_ryk2), .inl (0, 40, .inl y_ryk3), .inl (0, 40, .inl y_ryk4), .inr (3, [q2 17, q1 y_rlo]), .inl (0, 8, .inl y_rlg), .inr (7, [q2 19, q2 20, q1 y_rsc]), .inl (0, 10, .inl y_rsp), .inl (0, 10, .inl y_rsq)] ∧ mz = (601 - v4).toNat ∧ (0 ≤ v4 ∧ v4 ≤ 601 ∧ 0 ≤ y_rln ∧ y_rln ≤ 600 ∧ 0 ≤ y_rnx ∧ y_rnx ≤ y_rln ∧ 0 ≤ y_rst ∧ y_rst ≤ 600) ∧ (0 ≤ y_rbu0 ∧ y_rbu0 ≤ 8 ∧ 0 ≤ y_rbu3 ∧ y_rbu3 ≤ 6 ∧ 0 ≤ y_rbu4 ∧ y_rbu4 ≤ 6) ∧ (q_rg 0 9 y_rbf3) ∧ (0 ≤ y_ryd ∧ y_ryd ≤ 40 ∧ 0 ≤ y_rsc ∧ y_rsc ≤ 10)) else False
set_option maxHeartbeats 4000000 in
set_option maxRecDepth 100000 in
theorem m_X6_read (l : Launch) : q_M l yX6_read cX6_read 5 none 8 174 sp_X6_read := by
  refine q_meth (by decide) (fun av w Q h => by obtain ⟨rln, rfa, rpl, rst, rnx, rtk, rnm, rnp, rnd, tp, rv, rbf1, rbf2, rbf3, rbf4, rbf5, rbf6, rbf7, rbu0, rbu1, rbu2, rbu3, rbu4, ryk1, ryk2, ryk3, ryk4, ryd, rlg, rlo, rsp, rsq, rsc, a, b, rfl, rfl, hb, hst0, hf3, hQ⟩ := h; exact Nat.le_of_ble_eq_true rfl) ?_
  intro p e R s m args below meth c dC dI k g A av w Q hsp oka okw X
  obtain ⟨rln, rfa, rpl, rst, rnx, rtk, rnm, rnp, rnd, tp, rv, rbf1, rbf2, rbf3, rbf4, rbf5, rbf6, rbf7, rbu0, rbu1, rbu2, rbu3, rbu4, ryk1, ryk2, ryk3, ryk4, ryd, rlg, rlo, rsp, rsq, rsc, a, b, rfl, rfl, hb, hst0, hf3, hQ⟩ := hsp
  have o_a : -2147483648 ≤ a ∧ a ≤ 2147483647 := oka _ (List.mem_of_getElem? (i := 1) rfl)
  have o_b : -2147483648 ≤ b ∧ b ≤ 2147483647 := oka _ (List.mem_of_getElem? (i := 3) rfl)
  refine s_mono (s_X6_read_0 X (J := fun dz vz sz wz => ∃ mz, I_X6_read rln rfa rpl rst rnx rtk rnm rnp rnd tp rv rbf1 rbf2 rbf3 rbf4 rbf5 rbf6 rbf7 rbu0 rbu1 rbu2 rbu3 rbu4 ryk1 ryk2 ryk3 ryk4 ryd rlg rlo rsp rsq rsc a b dz mz vz sz wz) (q_loopn (I_X6_read rln rfa rpl rst rnx rtk rnm rnp rnd tp rv rbf1 rbf2 rbf3 rbf4 rbf5 rbf6 rbf7 rbu0 rbu1 rbu2 rbu3 rbu4 ryk1 ryk2 ryk3 ryk4 ryd rlg rlo rsp rsq rsc a b) (fun dz J => if dz = 9 then b_X6_read_9 J Q else q_F) ?hs ?hv)) ?_
  case hs =>
    intro d J hJ
    by_cases h9 : d = 9
    · subst h9; exact s_X6_read_9 X hJ
    simp only [h9, if_false]
    exact s_F
  case hv =>
    intro dz mz vz sz wz hI okv oks okw hlen
    by_cases h9 : dz = 9
    · subst h9
      obtain ⟨y_rln, y_rst, y_rnx, y_rtk, y_rnm, y_rfa, y_rpl, y_rv, y_rbf1, y_rbf2, y_rbf3, y_rbf4, y_rbf5, y_rbf6, y_rbf7, y_rbu0, y_rbu1, y_rbu2, y_rbu3, y_rbu4, y_rnp, y_rnd, y_ryk1, y_ryk2, y_ryk3, y_ryk4, y_ryd, y_rlg, y_rlo, y_rsp, y_rsq, y_rsc, v4, rfl, rfl, rfl, hn, hp, hyb, hyf, hyd⟩ := hI
      apply And.intro
      · intro h15
        exact hQ _ _ _ _ _ _ _ _ _ _ _ _ _ _ _ _ _ _ _ _ _ _ _ _ _ _ _ _ _ _ _ _ ⟨⟨⟨by omega, by omega, by omega, by omega, by omega, by omega, (by first | assumption | exact q_rg_up (by assumption) (by omega) | exact q_rg_up (q_rg_up (by assumption) (by omega)) (by omega) | exact q_rg_cpy (by assumption) (by assumption) | omega)⟩, by omega, by omega⟩, by omega⟩
      · intro h15
        refine Exists.intro [0, 1, 3, 11, 16, 18, 2] (Exists.intro [q2 0] (Exists.intro ([.inr (6, [q2 2, q2 3, q2 4, q2 5, q2 6, q2 1, q1 _, q1 _, q1 _, q1 _, q1 _, q1 _, q1 _, q1 _, q1 _]), .inl (1, 600, .inl _)]) (And.intro rfl (And.intro rfl (And.intro rfl (And.intro ⟨⟨_, rfl⟩, rfl⟩ ?_))))))
        refine Exists.intro _ (Exists.intro _ (Exists.intro _ (Exists.intro _ (Exists.intro _ (Exists.intro _ (Exists.intro _ (Exists.intro _ (Exists.intro _ (Exists.intro _ (And.intro rfl (And.intro rfl (And.intro (by first | assumption | exact q_rg_up (by assumption) (by omega) | exact q_rg_up (q_rg_up (by assumption) (by omega)) (by omega) | exact q_rg_cpy (by assumption) (by assumption) | omega) (?_)))))))))))))
        intro x_rst_19 x_rnx_19 x_rtk_19 x_rnm_19 h19
        apply And.intro
        · intro h26
          refine Exists.intro [0, 1, 2, 3, 4, 5, 6, 7, 8, 9, 10, 11, 12, 13, 14, 15, 16, 17, 18, 19, 20] (Exists.intro [q2 0, q1 _] (Exists.intro ([.inr (6, [q2 3, q2 11, q2 16, q2 18, q2 2, q2 1, q1 _, q1 _, q1 _, q1 _, q1 _, q1 _, q1 _, q1 _, q1 _]), .inl (1, 600, .inl _), .inl (0, 3, .inl _), .inr (0, [q2 4, q2 5, q2 6, q2 7, q2 8, q2 9, q2 10, q1 _, q1 _, q1 _, q1 _, q1 _]), .inl (0, 8, .inl _), .inl (0, 8, .inl _), .inl (0, 4, .inl _), .inl (0, 32, .inl _), .inl (0, 6, .inl _), .inl (0, 6, .inl _), .inl (0, 6, .inl _), .inr (10, [q2 12, q2 13, q2 14, q2 15, q1 _]), .inl (0, 40, .inl _), .inl (0, 40, .inl _), .inl (0, 40, .inl _), .inl (0, 40, .inl _), .inr (3, [q2 17, q1 _]), .inl (0, 8, .inl _), .inr (7, [q2 19, q2 20, q1 _]), .inl (0, 10, .inl _), .inl (0, 10, .inl _)]) (And.intro rfl (And.intro rfl (And.intro rfl (And.intro ⟨⟨_, rfl⟩, rfl⟩ ?_))))))
          refine Exists.intro _ (Exists.intro _ (Exists.intro _ (Exists.intro _ (Exists.intro _ (Exists.intro _ (Exists.intro _ (Exists.intro _ (Exists.intro _ (Exists.intro _ (Exists.intro _ (Exists.intro _ (Exists.intro _ (Exists.intro _ (Exists.intro _ (Exists.intro _ (Exists.intro _ (Exists.intro _ (Exists.intro _ (Exists.intro _ (Exists.intro _ (Exists.intro _ (Exists.intro _ (Exists.intro _ (Exists.intro _ (Exists.intro _ (Exists.intro _ (Exists.intro _ (Exists.intro _ (Exists.intro _ (Exists.intro _ (Exists.intro _ (Exists.intro _ (Exists.intro _ (And.intro rfl (And.intro rfl (And.intro (by first | assumption | exact q_rg_up (by assumption) (by omega) | exact q_rg_up (q_rg_up (by assumption) (by omega)) (by omega) | exact q_rg_cpy (by assumption) (by assumption) | omega) (And.intro (by first | assumption | exact q_rg_up (by assumption) (by omega) | exact q_rg_up (q_rg_up (by assumption) (by omega)) (by omega) | exact q_rg_cpy (by assumption) (by assumption) | omega) (And.intro (by first | assumption | exact q_rg_up (by assumption) (by omega) | exact q_rg_up (q_rg_up (by assumption) (by omega)) (by omega) | exact q_rg_cpy (by assumption) (by assumption) | omega) (And.intro (by first | assumption | exact q_rg_up (by assumption) (by omega) | exact q_rg_up (q_rg_up (by assumption) (by omega)) (by omega) | exact q_rg_cpy (by assumption) (by assumption) | omega) (And.intro (by first | assumption | exact q_rg_up (by assumption) (by omega) | exact q_rg_up (q_rg_up (by assumption) (by omega)) (by omega) | exact q_rg_cpy (by assumption) (by assumption) | omega) (?_)))))))))))))))))))))))))))))))))))))))))
          intro z37 x_rst_37 x_rnx_37 x_rtk_37 x_rnm_37 x_rfa_37 x_rpl_37 x_rv_37 x_rbf1_37 x_rbf2_37 x_rbf3_37 x_rbf4_37 x_rbf5_37 x_rbf6_37 x_rbf7_37 x_rbu0_37 x_rbu1_37 x_rbu2_37 x_rbu3_37 x_rbu4_37 x_rnp_37 x_rnd_37 x_ryk1_37 x_ryk2_37 x_ryk3_37 x_ryk4_37 x_ryd_37 x_rlg_37 x_rlo_37 x_rsp_37 x_rsq_37 x_rsc_37 h37
          obtain ⟨l1, l2, ⟨l3, l4, l5, l6, l7, l8, l9⟩, lA, lB⟩ := h37
          apply And.intro
          · intro h40
            intro z57 h57
            first | replace h57 := e_add h57 (by omega) | replace h57 := e_rng h57
            exact ⟨_, ⟨_, _, _, _, _, _, _, _, _, _, _, _, _, _, _, _, _, _, _, _, _, _, _, _, _, _, _, _, _, _, _, _, _, rfl, rfl, rfl, rfl, (by first | assumption | exact q_rg_up (by assumption) (by omega) | exact q_rg_up (q_rg_up (by assumption) (by omega)) (by omega) | exact q_rg_cpy (by assumption) (by assumption) | omega), (by first | assumption | exact q_rg_up (by assumption) (by omega) | exact q_rg_up (q_rg_up (by assumption) (by omega)) (by omega) | exact q_rg_cpy (by assumption) (by assumption) | omega), (by first | assumption | exact q_rg_up (by assumption) (by omega) | exact q_rg_up (q_rg_up (by assumption) (by omega)) (by omega) | exact q_rg_cpy (by assumption) (by assumption) | omega), (by first | assumption | exact q_rg_up (by assumption) (by omega) | exact q_rg_up (q_rg_up (by assumption) (by omega)) (by omega) | exact q_rg_cpy (by assumption) (by assumption) | omega)⟩, by omega⟩
          · intro h40
            apply And.intro
            · exact trivial
            apply And.intro
            · exact trivial
            exact hQ _ _ _ _ _ _ _ _ _ _ _ _ _ _ _ _ _ _ _ _ _ _ _ _ _ _ _ _ _ _ _ _ ⟨⟨⟨by omega, by omega, by omega, by omega, by omega, by omega, (by first | assumption | exact q_rg_up (by assumption) (by omega) | exact q_rg_up (q_rg_up (by assumption) (by omega)) (by omega) | exact q_rg_cpy (by assumption) (by assumption) | omega)⟩, by omega, by omega⟩, by omega⟩
        · intro h26
          refine Exists.intro [0, 3, 4, 5, 6, 7, 8, 9, 10, 11, 16, 18, 2, 1] (Exists.intro [q2 0, q1 _] (Exists.intro ([.inr (6, [q2 1, q2 9, q2 10, q2 11, q2 12, q2 13, q1 _, q1 _, q1 _, q1 _, q1 _, q1 _, q1 _, q1 _, q1 _]), .inr (0, [q2 2, q2 3, q2 4, q2 5, q2 6, q2 7, q2 8, q1 _, q1 _, q1 _, q1 _, q1 _]), .inl (0, 8, .inl _), .inl (0, 8, .inl _), .inl (0, 4, .inl _), .inl (0, 32, .inl _), .inl (0, 6, .inl _), .inl (0, 6, .inl _), .inl (0, 6, .inl _)]) (And.intro rfl (And.intro rfl (And.intro rfl (And.intro ⟨⟨_, rfl⟩, rfl⟩ ?_))))))
          refine Exists.intro _ (Exists.intro _ (Exists.intro _ (Exists.intro _ (Exists.intro _ (Exists.intro _ (Exists.intro _ (Exists.intro _ (Exists.intro _ (Exists.intro _ (Exists.intro _ (Exists.intro _ (Exists.intro _ (Exists.intro _ (Exists.intro _ (Exists.intro _ (Exists.intro _ (Exists.intro _ (Exists.intro _ (Exists.intro _ (Exists.intro _ (Exists.intro _ (And.intro rfl (And.intro rfl (And.intro (by first | assumption | exact q_rg_up (by assumption) (by omega) | exact q_rg_up (q_rg_up (by assumption) (by omega)) (by omega) | exact q_rg_cpy (by assumption) (by assumption) | omega) (?_)))))))))))))))))))))))))
          intro x_rfa_31 x_rpl_31 h31
          exact hQ _ _ _ _ _ _ _ _ _ _ _ _ _ _ _ _ _ _ _ _ _ _ _ _ _ _ _ _ _ _ _ _ ⟨⟨⟨by omega, by omega, by omega, by omega, by omega, by omega, (by first | assumption | exact q_rg_up (by assumption) (by omega) | exact q_rg_up (q_rg_up (by assumption) (by omega)) (by omega) | exact q_rg_cpy (by assumption) (by assumption) | omega)⟩, by omega, by omega⟩, by omega⟩
    simp only [I_X6_read, h9, if_false] at hI
  rintro lv st w' ⟨rfl, rfl, rfl⟩
  refine Exists.intro [0, 1, 3, 4, 5, 6, 7, 8, 9, 10, 11, 12, 13, 14, 15, 16, 17, 18, 19, 20, 2, 21] (Exists.intro [q2 0, q2 1, q1 _] (Exists.intro ([.inr (6, [q2 2, q2 10, q2 15, q2 17, q2 20, q2 21, q1 _, q1 _, q1 _, q1 _, q1 _, q1 _, q1 _, q1 _, q1 _]), .inl (1, 600, .inl _), .inr (0, [q2 3, q2 4, q2 5, q2 6, q2 7, q2 8, q2 9, q1 _, q1 _, q1 _, q1 _, q1 _]), .inl (0, 8, .inl _), .inl (0, 8, .inl _), .inl (0, 4, .inl _), .inl (0, 32, .inl _), .inl (0, 6, .inl _), .inl (0, 6, .inl _), .inl (0, 6, .inl _), .inr (10, [q2 11, q2 12, q2 13, q2 14, q1 _]), .inl (0, 40, .inl _), .inl (0, 40, .inl _), .inl (0, 40, .inl _), .inl (0, 40, .inl _), .inr (3, [q2 16, q1 _]), .inl (0, 8, .inl _), .inr (7, [q2 18, q2 19, q1 _]), .inl (0, 10, .inl _), .inl (0, 10, .inl _)]) (And.intro rfl (And.intro rfl (And.intro rfl (And.intro ⟨⟨_, rfl⟩, rfl⟩ ?_))))))
  refine Exists.intro _ (Exists.intro _ (Exists.intro _ (Exists.intro _ (Exists.intro _ (Exists.intro _ (Exists.intro _ (Exists.intro _ (Exists.intro _ (Exists.intro _ (Exists.intro _ (Exists.intro _ (Exists.intro _ (Exists.intro _ (Exists.intro _ (Exists.intro _ (Exists.intro _ (Exists.intro _ (Exists.intro _ (Exists.intro _ (Exists.intro _ (Exists.intro _ (Exists.intro _ (Exists.intro _ (Exists.intro _ (Exists.intro _ (Exists.intro _ (Exists.intro _ (Exists.intro _ (Exists.intro _ (Exists.intro _ (Exists.intro _ (Exists.intro _ (And.intro rfl (And.intro rfl (And.intro (by first | assumption | exact q_rg_up (by assumption) (by omega) | exact q_rg_up (q_rg_up (by assumption) (by omega)) (by omega) | exact q_rg_cpy (by assumption) (by assumption) | omega) (And.intro (by first | assumption | exact q_rg_up (by assumption) (by omega) | exact q_rg_up (q_rg_up (by assumption) (by omega)) (by omega) | exact q_rg_cpy (by assumption) (by assumption) | omega) (?_)))))))))))))))))))))))))))))))))))))
  intro x_rln_3 x_rfa_3 x_rpl_3 x_rnx_3 x_rnp_3 x_rnd_3 x_rbf1_3 x_rbf2_3 x_rbf3_3 x_rbf4_3 x_rbf5_3 x_rbf6_3 x_rbf7_3 x_rbu0_3 x_rbu1_3 x_rbu2_3 x_rbu3_3 x_rbu4_3 x_ryd_3 x_rlg_3 x_rlo_3 x_rsc_3 h3
  obtain ⟨o1, o2, ⟨o3, o4, o5, o6, o7, o8, o9⟩, oA, oB⟩ := h3
  exact ⟨_, _, _, _, _, _, _, _, _, _, _, _, _, _, _, _, _, _, _, _, _, _, _, _, _, _, _, _, _, _, _, _, _, _, rfl, rfl, rfl, rfl, (by first | assumption | exact q_rg_up (by assumption) (by omega) | exact q_rg_up (q_rg_up (by assumption) (by omega)) (by omega) | exact q_rg_cpy (by assumption) (by assumption) | omega), (by first | assumption | exact q_rg_up (by assumption) (by omega) | exact q_rg_up (q_rg_up (by assumption) (by omega)) (by omega) | exact q_rg_cpy (by assumption) (by assumption) | omega), (by first | assumption | exact q_rg_up (by assumption) (by omega) | exact q_rg_up (q_rg_up (by assumption) (by omega)) (by omega) | exact q_rg_cpy (by assumption) (by assumption) | omega), (by first | assumption | exact q_rg_up (by assumption) (by omega) | exact q_rg_up (q_rg_up (by assumption) (by omega)) (by omega) | exact q_rg_cpy (by assumption) (by assumption) | omega)⟩
