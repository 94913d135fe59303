theorem dF12_furtherLine_0 : decode cX12_furtherLine 0 = .ok (.aload_n 0, 1) := by decide +kernel
theorem dF12_furtherLine_1 : decode cX12_furtherLine 1 = .ok (.iconst 0, 1) := by decide +kernel
theorem dF12_furtherLine_2 : decode cX12_furtherLine 2 = .ok (.iconst 1, 1) := by decide +kernel
theorem dF12_furtherLine_3 : decode cX12_furtherLine 3 = .ok (.bipush 99, 2) := by decide +kernel
theorem dF12_furtherLine_5 : decode cX12_furtherLine 5 = .ok (.invokevirtual 174, 3) := by decide +kernel
theorem dF12_furtherLine_8 : decode cX12_furtherLine 8 = .ok (.ifCond .ne 5, 3) := by decide +kernel
theorem dF12_furtherLine_11 : decode cX12_furtherLine 11 = .ok (.iconst 0, 1) := by decide +kernel
theorem dF12_furtherLine_12 : decode cX12_furtherLine 12 = .ok (.ireturn, 1) := by decide +kernel
theorem dF12_furtherLine_13 : decode cX12_furtherLine 13 = .ok (.aload_n 0, 1) := by decide +kernel
theorem dF12_furtherLine_14 : decode cX12_furtherLine 14 = .ok (.getfield 38, 3) := by decide +kernel
theorem dF12_furtherLine_17 : decode cX12_furtherLine 17 = .ok (.iload_n 1, 1) := by decide +kernel
theorem dF12_furtherLine_18 : decode cX12_furtherLine 18 = .ok (.iaload, 1) := by decide +kernel
theorem dF12_furtherLine_19 : decode cX12_furtherLine 19 = .ok (.iload_n 3, 1) := by decide +kernel
theorem dF12_furtherLine_20 : decode cX12_furtherLine 20 = .ok (.if_icmp .ge 32, 3) := by decide +kernel
theorem dF12_furtherLine_23 : decode cX12_furtherLine 23 = .ok (.aload_n 0, 1) := by decide +kernel
theorem dF12_furtherLine_24 : decode cX12_furtherLine 24 = .ok (.getfield 38, 3) := by decide +kernel
theorem dF12_furtherLine_27 : decode cX12_furtherLine 27 = .ok (.iload_n 2, 1) := by decide +kernel
theorem dF12_furtherLine_28 : decode cX12_furtherLine 28 = .ok (.aload_n 0, 1) := by decide +kernel
theorem dF12_furtherLine_29 : decode cX12_furtherLine 29 = .ok (.getfield 38, 3) := by decide +kernel
theorem dF12_furtherLine_32 : decode cX12_furtherLine 32 = .ok (.iload_n 1, 1) := by decide +kernel
theorem dF12_furtherLine_33 : decode cX12_furtherLine 33 = .ok (.iaload, 1) := by decide +kernel
theorem dF12_furtherLine_34 : decode cX12_furtherLine 34 = .ok (.iadd, 1) := by decide +kernel
theorem dF12_furtherLine_35 : decode cX12_furtherLine 35 = .ok (.aload_n 0, 1) := by decide +kernel
theorem dF12_furtherLine_36 : decode cX12_furtherLine 36 = .ok (.getfield 41, 3) := by decide +kernel
theorem dF12_furtherLine_39 : decode cX12_furtherLine 39 = .ok (.iconst 0, 1) := by decide +kernel
theorem dF12_furtherLine_40 : decode cX12_furtherLine 40 = .ok (.iaload, 1) := by decide +kernel
theorem dF12_furtherLine_41 : decode cX12_furtherLine 41 = .ok (.iastore, 1) := by decide +kernel
theorem dF12_furtherLine_42 : decode cX12_furtherLine 42 = .ok (.aload_n 0, 1) := by decide +kernel
theorem dF12_furtherLine_43 : decode cX12_furtherLine 43 = .ok (.getfield 38, 3) := by decide +kernel
theorem dF12_furtherLine_46 : decode cX12_furtherLine 46 = .ok (.iload_n 1, 1) := by decide +kernel
theorem dF12_furtherLine_47 : decode cX12_furtherLine 47 = .ok (.dup2, 1) := by decide +kernel
theorem dF12_furtherLine_48 : decode cX12_furtherLine 48 = .ok (.iaload, 1) := by decide +kernel
theorem dF12_furtherLine_49 : decode cX12_furtherLine 49 = .ok (.iconst 1, 1) := by decide +kernel
theorem dF12_furtherLine_50 : decode cX12_furtherLine 50 = .ok (.iadd, 1) := by decide +kernel
theorem dF12_furtherLine_51 : decode cX12_furtherLine 51 = .ok (.iastore, 1) := by decide +kernel
theorem dF12_furtherLine_52 : decode cX12_furtherLine 52 = .ok (.iconst 1, 1) := by decide +kernel
theorem dF12_furtherLine_53 : decode cX12_furtherLine 53 = .ok (.ireturn, 1) := by decide +kernel
def is_F12_furtherLine : Nat → List Nat := fun d => []
set_option maxRecDepth 100000 in
def b_F12_furtherLine_52 (J : Nat → List qV → List qV → qW → Prop) (Q : qR) : qK := x_int 1 (x_zret Q)
set_option maxRecDepth 100000 in
theorem s_F12_furtherLine_52 {p : Program} {l : Launch} {e : Env} {R : Room} {s : State} {m : MethodId} {args : Array Value} {below : List Frame} {meth : Method} {c : Code} {nW : Nat} {dC : Nat → ClassId} {dI : Nat → Nat → Nat} {k : Nat → ClassId} {g : Nat → Nat} {A : Nat → Prop} {J : Nat → List qV → List qV → qW → Prop} {Q : qR} (X : q_X p R s m args meth c cX12_furtherLine 4 nW 4 91 RX12 (some .boolean) dC dI k g A) (hJ : ∀ d : Nat, q_Sd p l e R s m args below meth c 4 nW dC dI k g A (MQ below (q_post (dC, dI) k g nW Q A) args s 0 0 A) d (x_cut (is_F12_furtherLine d) (J d))) : q_Sd p l e R s m args below meth c 4 nW dC dI k g A (MQ below (q_post (dC, dI) k g nW Q A) args s 0 0 A) 52 (b_F12_furtherLine_52 J Q) := by
  unfold b_F12_furtherLine_52
  refine s_iconst X ⟨by decide, by decide⟩ dF12_furtherLine_52 ?_
  exact s_zret X dF12_furtherLine_53
set_option maxRecDepth 100000 in
def b_F12_furtherLine_39 (J : Nat → List qV → List qV → qW → Prop) (Q : qR) : qK := x_int 0 (x_iald (x_iast (x_nw (x_aload 0 (x_get 12 19 (x_iload 1 (x_dup2 (x_iald (x_int 1 (x_iadd (x_iast (x_nw (b_F12_furtherLine_52 J Q)))))))))))))
set_option maxRecDepth 100000 in
theorem s_F12_furtherLine_39 {p : Program} {l : Launch} {e : Env} {R : Room} {s : State} {m : MethodId} {args : Array Value} {below : List Frame} {meth : Method} {c : Code} {nW : Nat} {dC : Nat → ClassId} {dI : Nat → Nat → Nat} {k : Nat → ClassId} {g : Nat → Nat} {A : Nat → Prop} {J : Nat → List qV → List qV → qW → Prop} {Q : qR} (X : q_X p R s m args meth c cX12_furtherLine 4 nW 4 91 RX12 (some .boolean) dC dI k g A) (hJ : ∀ d : Nat, q_Sd p l e R s m args below meth c 4 nW dC dI k g A (MQ below (q_post (dC, dI) k g nW Q A) args s 0 0 A) d (x_cut (is_F12_furtherLine d) (J d))) : q_Sd p l e R s m args below meth c 4 nW dC dI k g A (MQ below (q_post (dC, dI) k g nW Q A) args s 0 0 A) 39 (b_F12_furtherLine_39 J Q) := by
  unfold b_F12_furtherLine_39
  refine s_iconst X ⟨by decide, by decide⟩ dF12_furtherLine_39 ?_
  refine s_iald X dF12_furtherLine_40 ?_
  refine s_iast X dF12_furtherLine_41 ?_
  refine s_nw ?_
  refine s_aload_n X rfl dF12_furtherLine_42 ?_
  refine s_get X (T := TX12) (C := RX12) (N := 45) tu_X12 rfl (by decide) tw_1016 dF12_furtherLine_43 ?_
  refine s_iload_n X rfl dF12_furtherLine_46 ?_
  refine s_dup2 X dF12_furtherLine_47 ?_
  refine s_iald X dF12_furtherLine_48 ?_
  refine s_iconst X ⟨by decide, by decide⟩ dF12_furtherLine_49 ?_
  refine s_iadd X dF12_furtherLine_50 ?_
  refine s_iast X dF12_furtherLine_51 ?_
  refine s_nw ?_
  exact s_F12_furtherLine_52 X hJ
set_option maxRecDepth 100000 in
def b_F12_furtherLine_0 (J : Nat → List qV → List qV → qW → Prop) (Q : qR) : qK := x_aload 0 (x_int 0 (x_int 1 (x_int 99 (x_call (some 12) 4 sp_F12_take (x_nw (x_if_ne (x_aload 0 (x_get 12 19 (x_iload 1 (x_iald (x_iload 3 (x_icmp_ge (b_F12_furtherLine_52 J Q) (x_aload 0 (x_get 12 19 (x_iload 2 (x_aload 0 (x_get 12 19 (x_iload 1 (x_iald (x_iadd (x_aload 0 (x_get 12 20 (b_F12_furtherLine_39 J Q))))))))))))))))) (x_int 0 (x_zret Q))))))))
set_option maxRecDepth 100000 in
theorem s_F12_furtherLine_0 {p : Program} {l : Launch} {e : Env} {R : Room} {s : State} {m : MethodId} {args : Array Value} {below : List Frame} {meth : Method} {c : Code} {nW : Nat} {dC : Nat → ClassId} {dI : Nat → Nat → Nat} {k : Nat → ClassId} {g : Nat → Nat} {A : Nat → Prop} {J : Nat → List qV → List qV → qW → Prop} {Q : qR} (X : q_X p R s m args meth c cX12_furtherLine 4 nW 4 91 RX12 (some .boolean) dC dI k g A) (hJ : ∀ d : Nat, q_Sd p l e R s m args below meth c 4 nW dC dI k g A (MQ below (q_post (dC, dI) k g nW Q A) args s 0 0 A) d (x_cut (is_F12_furtherLine d) (J d))) : q_Sd p l e R s m args below meth c 4 nW dC dI k g A (MQ below (q_post (dC, dI) k g nW Q A) args s 0 0 A) 0 (b_F12_furtherLine_0 J Q) := by
  unfold b_F12_furtherLine_0
  refine s_aload_n X rfl dF12_furtherLine_0 ?_
  refine s_iconst X ⟨by decide, by decide⟩ dF12_furtherLine_1 ?_
  refine s_iconst X ⟨by decide, by decide⟩ dF12_furtherLine_2 ?_
  refine s_bipush X ⟨by decide, by decide⟩ (by decide) dF12_furtherLine_3 ?_
  refine s_callV X (m_F12_take l) tw_1097 tw_1098 tw_1621 tw_134 tw_1099 rfl (by decide +kernel) ⟨by decide, by decide⟩ dF12_furtherLine_5 ?_
  refine s_nw ?_
  refine s_if_ne X (tgt := 13) dF12_furtherLine_8 (by decide) ?_ ?_
  · refine s_aload_n X rfl dF12_furtherLine_13 ?_
    refine s_get X (T := TX12) (C := RX12) (N := 45) tu_X12 rfl (by decide) tw_1016 dF12_furtherLine_14 ?_
    refine s_iload_n X rfl dF12_furtherLine_17 ?_
    refine s_iald X dF12_furtherLine_18 ?_
    refine s_iload_n X rfl dF12_furtherLine_19 ?_
    refine s_icmp_ge X (tgt := 52) dF12_furtherLine_20 (by decide) ?_ ?_
    · exact s_F12_furtherLine_52 X hJ
    · refine s_aload_n X rfl dF12_furtherLine_23 ?_
      refine s_get X (T := TX12) (C := RX12) (N := 45) tu_X12 rfl (by decide) tw_1016 dF12_furtherLine_24 ?_
      refine s_iload_n X rfl dF12_furtherLine_27 ?_
      refine s_aload_n X rfl dF12_furtherLine_28 ?_
      refine s_get X (T := TX12) (C := RX12) (N := 45) tu_X12 rfl (by decide) tw_1016 dF12_furtherLine_29 ?_
      refine s_iload_n X rfl dF12_furtherLine_32 ?_
      refine s_iald X dF12_furtherLine_33 ?_
      refine s_iadd X dF12_furtherLine_34 ?_
      refine s_aload_n X rfl dF12_furtherLine_35 ?_
      refine s_get X (T := TX12) (C := RX12) (N := 45) tu_X12 rfl (by decide) tw_1017 dF12_furtherLine_36 ?_
      exact s_F12_furtherLine_39 X hJ
  · refine s_iconst X ⟨by decide, by decide⟩ dF12_furtherLine_11 ?_
    exact s_zret X dF12_furtherLine_12

def sp_F12_furtherLine : qS := fun av w Q => ∃ (mco : Int) (mre : Int) (mle : Int) (mbe : Int) (mso : Int) (mva : Int) (mwo : Int) (mwr : Int) (mlf : Int) (mlp : Int) (mfp : Int) (mfd : Int) (mgo : Int) (mbo : Int) (mpe : Int) (mye : Int) (mpr : Int) (mld : Int) (msi : Int) (mse : Int) (tp : Nat → Int) (re : Nat → Int) (td : Nat → Int) (gw : Int) (gp : Int) (gf : Int) (gq : Int) (gD : Nat → Int) (gfp : Int) (gfd : Int) (a : Int) (b : Int) (cc : Int), av = [q2 0, q1 a, q1 b, q1 cc] ∧ w = [.inr (12, [q1 mco, q2 1, q2 4, q2 5, q2 6, q2 7, q2 8, q2 9, q2 10, q2 11, q1 mre, q1 mle, q1 mbe, q1 mso, q1 mva, q3 mwo, q1 mwr, q1 mlf, q1 mlp, q2 3, q2 2, q1 mfp, q1 mfd, q1 mgo, q1 mbo, q1 mpe, q1 mye, q2 12, q1 mpr, q2 13, q2 14, q2 15, q2 16, q1 mld, q2 17, q1 msi, q2 18, q2 19, q2 20, q2 21, q2 22, q1 mse, q2 23, q2 24, q2 25]), .inl (1, 2400, .inl tp), .inl (0, 4, .inl re), .inl (0, 161, .inl td)] ∧ (0 ≤ mre ∧ mre ≤ mle ∧ mle ≤ 600) ∧ (BT td 0) ∧ ((a = 0 ∧ b = 5 ∧ cc = 8 ∧ gw = 0) ∨ (a = 3 ∧ b = 25 ∧ cc = 6 ∧ gw = 3) ∨ (a = 4 ∧ b = 37 ∧ cc = 6 ∧ gw = 4)) ∧ (gf = 0 → ¬ fulP gw gD) ∧ (SlM (tc tp) mle gw gp gf gq 0 mre mbe mso mva mwo mlf mlp mgo) ∧ (TdR (gf = 0) gD gfp gfd td mfp mfd) ∧ (∀ (r : Int) (x_mre : Int) (x_mbe : Int) (x_mso : Int) (x_mva : Int) (x_mwo : Int) (x_mwr : Int) (x_mlf : Int) (x_mlp : Int) (x_mgo : Int) (x_re : Nat → Int) (x_td : Nat → Int), ((r = 0 ∨ r = 1 ∧ (x_mso = 0 ∨ mre < x_mre)) ∧ mre ≤ x_mre ∧ x_mre ≤ mle ∧ BT x_td 0 ∧ LnM (tc tp) mle gw gp gf gq gD gfp gfd r x_mre x_mbe x_mso x_mva x_mwo x_mwr x_mlf x_mlp x_mgo x_td mfp mfd) → Q (some (q1 r)) ([.inr (12, [q1 mco, q2 1, q2 4, q2 5, q2 6, q2 7, q2 8, q2 9, q2 10, q2 11, q1 x_mre, q1 mle, q1 x_mbe, q1 x_mso, q1 x_mva, q3 x_mwo, q1 x_mwr, q1 x_mlf, q1 x_mlp, q2 3, q2 2, q1 mfp, q1 mfd, q1 x_mgo, q1 mbo, q1 mpe, q1 mye, q2 12, q1 mpr, q2 13, q2 14, q2 15, q2 16, q1 mld, q2 17, q1 msi, q2 18, q2 19, q2 20, q2 21, q2 22, q1 mse, q2 23, q2 24, q2 25]), .inl (1, 2400, .inl tp), .inl (0, 4, .inl x_re), .inl (0, 161, .inl x_td)]))
set_option maxHeartbeats 4000000 in
set_option maxRecDepth 100000 in
theorem m_F12_furtherLine (l : Launch) : q_M l yX12_furtherLine cX12_furtherLine 4 (some .boolean) 4 91 sp_F12_furtherLine := by
  refine q_meth (by decide) (fun av w Q h => by obtain ⟨mco, mre, mle, mbe, mso, mva, mwo, mwr, mlf, mlp, mfp, mfd, mgo, mbo, mpe, mye, mpr, mld, msi, mse, tp, re, td, gw, gp, gf, gq, gD, gfp, gfd, a, b, cc, rfl, rfl, htp, hbt, ha, hf9, hS, hT, hQ⟩ := h; exact Nat.le_of_ble_eq_true rfl) ?_
  intro p e R s m args below meth c dC dI k g A av w Q hsp oka okw X
  obtain ⟨mco, mre, mle, mbe, mso, mva, mwo, mwr, mlf, mlp, mfp, mfd, mgo, mbo, mpe, mye, mpr, mld, msi, mse, tp, re, td, gw, gp, gf, gq, gD, gfp, gfd, a, b, cc, rfl, rfl, htp, hbt, ha, hf9, hS, hT, hQ⟩ := hsp
  have o_a : -2147483648 ≤ a ∧ a ≤ 2147483647 := oka _ (List.mem_of_getElem? (i := 1) rfl)
  have o_b : -2147483648 ≤ b ∧ b ≤ 2147483647 := oka _ (List.mem_of_getElem? (i := 2) rfl)
  have o_cc : -2147483648 ≤ cc ∧ cc ≤ 2147483647 := oka _ (List.mem_of_getElem? (i := 3) rfl)
  refine s_mono (s_F12_furtherLine_0 X (J := fun _ _ _ _ => False) (fun d => s_cutF)) ?_
  rintro lv st w' ⟨rfl, rfl, rfl⟩
  have f9 := fw_w (w := gw) (by omega)
  refine Exists.intro [0, 1, 2, 4, 5, 6, 7, 8, 9, 10, 11, 3, 12, 13, 14, 15, 16, 17, 18, 19, 20, 21, 22, 23, 24, 25] (Exists.intro [q2 0, q1 _, q1 _, q1 _] (Exists.intro ([.inr (12, [q1 _, q2 1, q2 3, q2 4, q2 5, q2 6, q2 7, q2 8, q2 9, q2 10, q1 _, q1 _, q1 _, q1 _, q1 _, q3 _, q1 _, q1 _, q1 _, q2 11, q2 2, q1 _, q1 _, q1 _, q1 _, q1 _, q1 _, q2 12, q1 _, q2 13, q2 14, q2 15, q2 16, q1 _, q2 17, q1 _, q2 18, q2 19, q2 20, q2 21, q2 22, q1 _, q2 23, q2 24, q2 25]), .inl (1, 2400, .inl _), .inl (0, 4, .inl _)]) (And.intro rfl (And.intro rfl (And.intro rfl (And.intro ⟨⟨_, rfl⟩, rfl⟩ ?_))))))
  refine Exists.intro _ (Exists.intro _ (Exists.intro _ (Exists.intro _ (Exists.intro _ (Exists.intro _ (Exists.intro _ (Exists.intro _ (Exists.intro _ (Exists.intro _ (Exists.intro _ (Exists.intro _ (Exists.intro _ (Exists.intro _ (Exists.intro _ (Exists.intro _ (Exists.intro _ (Exists.intro _ (Exists.intro _ (Exists.intro _ (Exists.intro _ (Exists.intro _ (Exists.intro _ (Exists.intro _ (Exists.intro _ (Exists.intro _ (Exists.intro _ (Exists.intro _ (Exists.intro _ (Exists.intro _ (And.intro rfl (And.intro rfl (And.intro (by first | omega | assumption | exact q_rg_up (by assumption) (by omega) | exact q_rg_up (q_rg_up (by assumption) (by omega)) (by omega) | exact q_rg_cpy (by assumption) (by assumption)) (And.intro (by decide) (And.intro hS (And.intro f9.1 (And.intro ⟨f9.2.1.symm, f9.2.2.1.symm⟩ (And.intro (by omega) (?_))))))))))))))))))))))))))))))))))))))
  intro zq_5 x_mre_5 x_mbe_5 x_mso_5 x_mva_5 x_mwo_5 x_mwr_5 x_mlf_5 x_mlp_5 x_mgo_5 x_re_5 hq_5
  apply And.intro
  · intro hq_8
    apply And.intro
    · exact ⟨by omega, by omega⟩
    intro zq_18 hq_18
    have b18 := BT_cnt (b := b) (c := cc) hbt (by omega) hq_18
    apply And.intro
    · intro hq_20
      apply And.intro
      · first | exact Or.inl rfl | exact Or.inr rfl | omega
      exact hQ _ _ _ _ _ _ _ _ _ _ _ _ ⟨by omega, by omega, by omega, (by first | assumption | exact BT_up (BT_up hbt (by omega)) (by omega)), (by first | exact LnM_0 hS f9.2.2.2.2.2 (by decide) (dj0 hq_5.2.2.2 hq_8) | exact LnM_1 (SlM_z (SlM_z (dj1 hq_5.2.2.2 hq_8).1 f9.2.2.2.1) f9.2.2.2.2.1) (fun q9 => absurd (fu_ful ha (hT (lfa_m q9)).1 hq_18 (hf9 (lfa_m q9))) (by omega)) | exact LnM_1 (SlM_z (SlM_z (dj1 hq_5.2.2.2 hq_8).1 f9.2.2.2.1) f9.2.2.2.2.1) (fun q9 => ⟨fu_tel ha (hT (lfa_m q9)).1 hq_18 (by omega) (by omega) (by rw [hq_40, (dj1 hq_5.2.2.2 hq_8).2]; exact q_up_s) (by omega), (by rw [fpN_n (by omega)]; exact (hT (lfa_m q9)).2.1), (by rw [fdN_n (by omega)]; exact (hT (lfa_m q9)).2.2)⟩))⟩
    · intro hq_20
      apply And.intro
      · exact ⟨by omega, by omega⟩
      intro zq_33 hq_33
      intro zq_34 hq_34
      first | replace hq_34 := e_add hq_34 (by omega) | replace hq_34 := e_rng hq_34
      apply And.intro
      · exact ⟨by omega, by omega⟩
      intro zq_40 hq_40
      apply And.intro
      · exact ⟨by omega, by omega⟩
      apply And.intro
      · exact ⟨by omega, by omega⟩
      intro zq_48 hq_48
      rw [q_up_n (by omega)] at hq_48
      intro zq_50 hq_50
      first | replace hq_50 := e_add hq_50 (by omega) | replace hq_50 := e_rng hq_50
      apply And.intro
      · exact ⟨by omega, by omega⟩
      apply And.intro
      · first | exact Or.inl rfl | exact Or.inr rfl | omega
      exact hQ _ _ _ _ _ _ _ _ _ _ _ _ ⟨by omega, by omega, by omega, (by first | assumption | exact BT_up (BT_up hbt (by omega)) (by omega)), (by first | exact LnM_0 hS f9.2.2.2.2.2 (by decide) (dj0 hq_5.2.2.2 hq_8) | exact LnM_1 (SlM_z (SlM_z (dj1 hq_5.2.2.2 hq_8).1 f9.2.2.2.1) f9.2.2.2.2.1) (fun q9 => absurd (fu_ful ha (hT (lfa_m q9)).1 hq_18 (hf9 (lfa_m q9))) (by omega)) | exact LnM_1 (SlM_z (SlM_z (dj1 hq_5.2.2.2 hq_8).1 f9.2.2.2.1) f9.2.2.2.2.1) (fun q9 => ⟨fu_tel ha (hT (lfa_m q9)).1 hq_18 (by omega) (by omega) (by rw [hq_40, (dj1 hq_5.2.2.2 hq_8).2]; exact q_up_s) (by omega), (by rw [fpN_n (by omega)]; exact (hT (lfa_m q9)).2.1), (by rw [fdN_n (by omega)]; exact (hT (lfa_m q9)).2.2)⟩))⟩
  · intro hq_8
    apply And.intro
    · first | exact Or.inl rfl | exact Or.inr rfl | omega
    exact hQ _ _ _ _ _ _ _ _ _ _ _ _ ⟨by omega, by omega, by omega, (by first | assumption | exact BT_up (BT_up hbt (by omega)) (by omega)), (by first | exact LnM_0 hS f9.2.2.2.2.2 (by decide) (dj0 hq_5.2.2.2 hq_8) | exact LnM_1 (SlM_z (SlM_z (dj1 hq_5.2.2.2 hq_8).1 f9.2.2.2.1) f9.2.2.2.2.1) (fun q9 => absurd (fu_ful ha (hT (lfa_m q9)).1 hq_18 (hf9 (lfa_m q9))) (by omega)) | exact LnM_1 (SlM_z (SlM_z (dj1 hq_5.2.2.2 hq_8).1 f9.2.2.2.1) f9.2.2.2.2.1) (fun q9 => ⟨fu_tel ha (hT (lfa_m q9)).1 hq_18 (by omega) (by omega) (by rw [hq_40, (dj1 hq_5.2.2.2 hq_8).2]; exact q_up_s) (by omega), (by rw [fpN_n (by omega)]; exact (hT (lfa_m q9)).2.1), (by rw [fdN_n (by omega)]; exact (hT (lfa_m q9)).2.2)⟩))⟩

theorem dF12_poorLine_0 : decode cX12_poorLine 0 = .ok (.aload_n 0, 1) := by decide +kernel
theorem dF12_poorLine_1 : decode cX12_poorLine 1 = .ok (.iconst 0, 1) := by decide +kernel
theorem dF12_poorLine_2 : decode cX12_poorLine 2 = .ok (.iconst (-1), 1) := by decide +kernel
theorem dF12_poorLine_3 : decode cX12_poorLine 3 = .ok (.invokevirtual 177, 3) := by decide +kernel
theorem dF12_poorLine_6 : decode cX12_poorLine 6 = .ok (.ifCond .ne 5, 3) := by decide +kernel
theorem dF12_poorLine_9 : decode cX12_poorLine 9 = .ok (.iconst 0, 1) := by decide +kernel
theorem dF12_poorLine_10 : decode cX12_poorLine 10 = .ok (.ireturn, 1) := by decide +kernel
theorem dF12_poorLine_11 : decode cX12_poorLine 11 = .ok (.aload_n 0, 1) := by decide +kernel
theorem dF12_poorLine_12 : decode cX12_poorLine 12 = .ok (.getfield 38, 3) := by decide +kernel
theorem dF12_poorLine_15 : decode cX12_poorLine 15 = .ok (.iconst 1, 1) := by decide +kernel
theorem dF12_poorLine_16 : decode cX12_poorLine 16 = .ok (.dup2, 1) := by decide +kernel
theorem dF12_poorLine_17 : decode cX12_poorLine 17 = .ok (.iaload, 1) := by decide +kernel
theorem dF12_poorLine_18 : decode cX12_poorLine 18 = .ok (.aload_n 0, 1) := by decide +kernel
theorem dF12_poorLine_19 : decode cX12_poorLine 19 = .ok (.getfield 148, 3) := by decide +kernel
theorem dF12_poorLine_22 : decode cX12_poorLine 22 = .ok (.ifCond .eq 14, 3) := by decide +kernel
theorem dF12_poorLine_25 : decode cX12_poorLine 25 = .ok (.iconst 1, 1) := by decide +kernel
theorem dF12_poorLine_26 : decode cX12_poorLine 26 = .ok (.aload_n 0, 1) := by decide +kernel
theorem dF12_poorLine_27 : decode cX12_poorLine 27 = .ok (.getfield 41, 3) := by decide +kernel
theorem dF12_poorLine_30 : decode cX12_poorLine 30 = .ok (.iconst 0, 1) := by decide +kernel
theorem dF12_poorLine_31 : decode cX12_poorLine 31 = .ok (.iaload, 1) := by decide +kernel
theorem dF12_poorLine_32 : decode cX12_poorLine 32 = .ok (.ishl, 1) := by decide +kernel
theorem dF12_poorLine_33 : decode cX12_poorLine 33 = .ok (.goto 4, 3) := by decide +kernel
theorem dF12_poorLine_36 : decode cX12_poorLine 36 = .ok (.iconst 0, 1) := by decide +kernel
theorem dF12_poorLine_37 : decode cX12_poorLine 37 = .ok (.ior, 1) := by decide +kernel
theorem dF12_poorLine_38 : decode cX12_poorLine 38 = .ok (.iastore, 1) := by decide +kernel
theorem dF12_poorLine_39 : decode cX12_poorLine 39 = .ok (.iconst 1, 1) := by decide +kernel
theorem dF12_poorLine_40 : decode cX12_poorLine 40 = .ok (.ireturn, 1) := by decide +kernel
def is_F12_poorLine : Nat → List Nat := fun d => []
set_option maxRecDepth 100000 in
def b_F12_poorLine_37 (J : Nat → List qV → List qV → qW → Prop) (Q : qR) : qK := x_ior (x_iast (x_nw (x_int 1 (x_zret Q))))
set_option maxRecDepth 100000 in
theorem s_F12_poorLine_37 {p : Program} {l : Launch} {e : Env} {R : Room} {s : State} {m : MethodId} {args : Array Value} {below : List Frame} {meth : Method} {c : Code} {nW : Nat} {dC : Nat → ClassId} {dI : Nat → Nat → Nat} {k : Nat → ClassId} {g : Nat → Nat} {A : Nat → Prop} {J : Nat → List qV → List qV → qW → Prop} {Q : qR} (X : q_X p R s m args meth c cX12_poorLine 1 nW 4 90 RX12 (some .boolean) dC dI k g A) (hJ : ∀ d : Nat, q_Sd p l e R s m args below meth c 1 nW dC dI k g A (MQ below (q_post (dC, dI) k g nW Q A) args s 0 0 A) d (x_cut (is_F12_poorLine d) (J d))) : q_Sd p l e R s m args below meth c 1 nW dC dI k g A (MQ below (q_post (dC, dI) k g nW Q A) args s 0 0 A) 37 (b_F12_poorLine_37 J Q) := by
  unfold b_F12_poorLine_37
  refine s_ior X dF12_poorLine_37 ?_
  refine s_iast X dF12_poorLine_38 ?_
  refine s_nw ?_
  refine s_iconst X ⟨by decide, by decide⟩ dF12_poorLine_39 ?_
  exact s_zret X dF12_poorLine_40
set_option maxRecDepth 100000 in
def b_F12_poorLine_0 (J : Nat → List qV → List qV → qW → Prop) (Q : qR) : qK := x_aload 0 (x_int 0 (x_int (-1) (x_call (some 12) 3 sp_F12_takePerson (x_nw (x_if_ne (x_aload 0 (x_get 12 19 (x_int 1 (x_dup2 (x_iald (x_aload 0 (x_get 12 23 (x_if_eq (x_int 0 (b_F12_poorLine_37 J Q)) (x_int 1 (x_aload 0 (x_get 12 20 (x_int 0 (x_iald (x_ishl (b_F12_poorLine_37 J Q))))))))))))))) (x_int 0 (x_zret Q)))))))
set_option maxRecDepth 100000 in
theorem s_F12_poorLine_0 {p : Program} {l : Launch} {e : Env} {R : Room} {s : State} {m : MethodId} {args : Array Value} {below : List Frame} {meth : Method} {c : Code} {nW : Nat} {dC : Nat → ClassId} {dI : Nat → Nat → Nat} {k : Nat → ClassId} {g : Nat → Nat} {A : Nat → Prop} {J : Nat → List qV → List qV → qW → Prop} {Q : qR} (X : q_X p R s m args meth c cX12_poorLine 1 nW 4 90 RX12 (some .boolean) dC dI k g A) (hJ : ∀ d : Nat, q_Sd p l e R s m args below meth c 1 nW dC dI k g A (MQ below (q_post (dC, dI) k g nW Q A) args s 0 0 A) d (x_cut (is_F12_poorLine d) (J d))) : q_Sd p l e R s m args below meth c 1 nW dC dI k g A (MQ below (q_post (dC, dI) k g nW Q A) args s 0 0 A) 0 (b_F12_poorLine_0 J Q) := by
  unfold b_F12_poorLine_0
  refine s_aload_n X rfl dF12_poorLine_0 ?_
  refine s_iconst X ⟨by decide, by decide⟩ dF12_poorLine_1 ?_
  refine s_iconst X ⟨by decide, by decide⟩ dF12_poorLine_2 ?_
  refine s_callV X (m_F12_takePerson l) tw_1115 tw_1116 tw_1624 tw_134 tw_1117 rfl (by decide +kernel) ⟨by decide, by decide⟩ dF12_poorLine_3 ?_
  refine s_nw ?_
  refine s_if_ne X (tgt := 11) dF12_poorLine_6 (by decide) ?_ ?_
  · refine s_aload_n X rfl dF12_poorLine_11 ?_
    refine s_get X (T := TX12) (C := RX12) (N := 45) tu_X12 rfl (by decide) tw_1016 dF12_poorLine_12 ?_
    refine s_iconst X ⟨by decide, by decide⟩ dF12_poorLine_15 ?_
    refine s_dup2 X dF12_poorLine_16 ?_
    refine s_iald X dF12_poorLine_17 ?_
    refine s_aload_n X rfl dF12_poorLine_18 ?_
    refine s_get X (T := TX12) (C := RX12) (N := 45) tu_X12 rfl (by decide) tw_1020 dF12_poorLine_19 ?_
    refine s_if_eq X (tgt := 36) dF12_poorLine_22 (by decide) ?_ ?_
    · refine s_iconst X ⟨by decide, by decide⟩ dF12_poorLine_36 ?_
      exact s_F12_poorLine_37 X hJ
    · refine s_iconst X ⟨by decide, by decide⟩ dF12_poorLine_25 ?_
      refine s_aload_n X rfl dF12_poorLine_26 ?_
      refine s_get X (T := TX12) (C := RX12) (N := 45) tu_X12 rfl (by decide) tw_1017 dF12_poorLine_27 ?_
      refine s_iconst X ⟨by decide, by decide⟩ dF12_poorLine_30 ?_
      refine s_iald X dF12_poorLine_31 ?_
      refine s_ishl X dF12_poorLine_32 ?_
      refine s_goto X (tgt := 37) dF12_poorLine_33 (by decide) ?_
      exact s_F12_poorLine_37 X hJ
  · refine s_iconst X ⟨by decide, by decide⟩ dF12_poorLine_9 ?_
    exact s_zret X dF12_poorLine_10

def sp_F12_poorLine : qS := fun av w Q => ∃ (mco : Int) (mre : Int) (mle : Int) (mbe : Int) (mso : Int) (mva : Int) (mwo : Int) (mwr : Int) (mlf : Int) (mlp : Int) (mfp : Int) (mfd : Int) (mgo : Int) (mbo : Int) (mpe : Int) (mye : Int) (mpr : Int) (mld : Int) (msi : Int) (mse : Int) (tp : Nat → Int) (re : Nat → Int) (td : Nat → Int) (gw : Int) (gp : Int) (gf : Int) (gq : Int) (gD : Nat → Int) (gfp : Int) (gfd : Int), av = [q2 0] ∧ w = [.inr (12, [q1 mco, q2 1, q2 4, q2 5, q2 6, q2 7, q2 8, q2 9, q2 10, q2 11, q1 mre, q1 mle, q1 mbe, q1 mso, q1 mva, q3 mwo, q1 mwr, q1 mlf, q1 mlp, q2 3, q2 2, q1 mfp, q1 mfd, q1 mgo, q1 mbo, q1 mpe, q1 mye, q2 12, q1 mpr, q2 13, q2 14, q2 15, q2 16, q1 mld, q2 17, q1 msi, q2 18, q2 19, q2 20, q2 21, q2 22, q1 mse, q2 23, q2 24, q2 25]), .inl (1, 2400, .inl tp), .inl (0, 4, .inl re), .inl (0, 161, .inl td)] ∧ (0 ≤ mre ∧ mre ≤ mle ∧ mle ≤ 600) ∧ (BT td 0) ∧ (gw = 1) ∧ (SlM (tc tp) mle gw gp gf gq 0 mre mbe mso mva mwo mlf mlp mgo) ∧ (TdR (gf = 0) gD gfp gfd td mfp mfd) ∧ (∀ (r : Int) (x_mre : Int) (x_mbe : Int) (x_mso : Int) (x_mva : Int) (x_mwo : Int) (x_mwr : Int) (x_mlf : Int) (x_mlp : Int) (x_mgo : Int) (x_re : Nat → Int) (x_td : Nat → Int) (x_mfp : Int), ((r = 0 ∨ r = 1 ∧ (x_mso = 0 ∨ mre < x_mre)) ∧ mre ≤ x_mre ∧ x_mre ≤ mle ∧ BT x_td 0 ∧ LnM (tc tp) mle gw gp gf gq gD gfp gfd r x_mre x_mbe x_mso x_mva x_mwo x_mwr x_mlf x_mlp x_mgo x_td x_mfp mfd) → Q (some (q1 r)) ([.inr (12, [q1 mco, q2 1, q2 4, q2 5, q2 6, q2 7, q2 8, q2 9, q2 10, q2 11, q1 x_mre, q1 mle, q1 x_mbe, q1 x_mso, q1 x_mva, q3 x_mwo, q1 x_mwr, q1 x_mlf, q1 x_mlp, q2 3, q2 2, q1 x_mfp, q1 mfd, q1 x_mgo, q1 mbo, q1 mpe, q1 mye, q2 12, q1 mpr, q2 13, q2 14, q2 15, q2 16, q1 mld, q2 17, q1 msi, q2 18, q2 19, q2 20, q2 21, q2 22, q1 mse, q2 23, q2 24, q2 25]), .inl (1, 2400, .inl tp), .inl (0, 4, .inl x_re), .inl (0, 161, .inl x_td)]))
set_option maxHeartbeats 4000000 in
set_option maxRecDepth 100000 in
theorem m_F12_poorLine (l : Launch) : q_M l yX12_poorLine cX12_poorLine 1 (some .boolean) 4 90 sp_F12_poorLine := by
  refine q_meth (by decide) (fun av w Q h => by obtain ⟨mco, mre, mle, mbe, mso, mva, mwo, mwr, mlf, mlp, mfp, mfd, mgo, mbo, mpe, mye, mpr, mld, msi, mse, tp, re, td, gw, gp, gf, gq, gD, gfp, gfd, rfl, rfl, htp, hbt, hgw, hS, hT, hQ⟩ := h; exact Nat.le_of_ble_eq_true rfl) ?_
  intro p e R s m args below meth c dC dI k g A av w Q hsp oka okw X
  obtain ⟨mco, mre, mle, mbe, mso, mva, mwo, mwr, mlf, mlp, mfp, mfd, mgo, mbo, mpe, mye, mpr, mld, msi, mse, tp, re, td, gw, gp, gf, gq, gD, gfp, gfd, rfl, rfl, htp, hbt, hgw, hS, hT, hQ⟩ := hsp
  refine s_mono (s_F12_poorLine_0 X (J := fun _ _ _ _ => False) (fun d => s_cutF)) ?_
  rintro lv st w' ⟨rfl, rfl, rfl⟩
  subst hgw
  refine Exists.intro [0, 1, 2, 4, 5, 6, 7, 8, 9, 10, 11, 3, 12, 13, 14, 15, 16, 17, 18, 19, 20, 21, 22, 23, 24, 25] (Exists.intro [q2 0, q1 _, q1 _] (Exists.intro ([.inr (12, [q1 _, q2 1, q2 3, q2 4, q2 5, q2 6, q2 7, q2 8, q2 9, q2 10, q1 _, q1 _, q1 _, q1 _, q1 _, q3 _, q1 _, q1 _, q1 _, q2 11, q2 2, q1 _, q1 _, q1 _, q1 _, q1 _, q1 _, q2 12, q1 _, q2 13, q2 14, q2 15, q2 16, q1 _, q2 17, q1 _, q2 18, q2 19, q2 20, q2 21, q2 22, q1 _, q2 23, q2 24, q2 25]), .inl (1, 2400, .inl _), .inl (0, 4, .inl _)]) (And.intro rfl (And.intro rfl (And.intro rfl (And.intro ⟨⟨_, rfl⟩, rfl⟩ ?_))))))
  refine Exists.intro _ (Exists.intro _ (Exists.intro _ (Exists.intro _ (Exists.intro _ (Exists.intro _ (Exists.intro _ (Exists.intro _ (Exists.intro _ (Exists.intro _ (Exists.intro _ (Exists.intro _ (Exists.intro _ (Exists.intro _ (Exists.intro _ (Exists.intro _ (Exists.intro _ (Exists.intro _ (Exists.intro _ (Exists.intro _ (Exists.intro _ (Exists.intro _ (Exists.intro _ (Exists.intro _ (Exists.intro _ (Exists.intro _ (Exists.intro _ (Exists.intro _ (Exists.intro _ (And.intro rfl (And.intro rfl (And.intro (by first | omega | assumption | exact q_rg_up (by assumption) (by omega) | exact q_rg_up (q_rg_up (by assumption) (by omega)) (by omega) | exact q_rg_cpy (by assumption) (by assumption)) (And.intro (by decide) (And.intro hS (And.intro (by decide) (And.intro ⟨by decide, by decide⟩ (And.intro (Or.inr ⟨by decide, rfl⟩) (?_)))))))))))))))))))))))))))))))))))))
  intro zq_3 x_mre_3 x_mbe_3 x_mso_3 x_mva_3 x_mwo_3 x_mwr_3 x_mlf_3 x_mlp_3 x_mgo_3 x_re_3 x_mfp_3 hq_3
  apply And.intro
  · intro hq_6
    apply And.intro
    · exact ⟨by omega, by omega⟩
    intro zq_17 hq_17
    apply And.intro
    · intro hq_22
      intro zq_37 hq_37
      try skip
      apply And.intro
      · exact ⟨by omega, by omega⟩
      apply And.intro
      · first | exact Or.inl rfl | exact Or.inr rfl | omega
      exact hQ _ _ _ _ _ _ _ _ _ _ _ _ _ ⟨by omega, by omega, by omega, (by first | assumption | exact BT_up hbt (by omega)), (by first | exact LnM_0 hS (by decide) (by decide) (dj0 hq_3.2.2.2.1 hq_6) | exact LnM_1 (SlM_z (SlM_z (dj1 hq_3.2.2.2.1 hq_6).1 (by decide)) (by decide)) (fun q9 => (SlM_go (SlM_z (SlM_z (dj1 hq_3.2.2.2.1 hq_6).1 (by decide)) (by decide)) hq_22 q9).elim) | exact LnM_1 (SlM_z (SlM_z (dj1 hq_3.2.2.2.1 hq_6).1 (by decide)) (by decide)) (fun q9 => ⟨tl_1 (hT (lfa_m q9)).1 (po_v hq_32 hq_37 (hq_17.trans ((hT (lfa_m q9)).1 1 (by decide))) (by rw [hq_31, (dj1 hq_3.2.2.2.1 hq_6).2]; exact q_up_s)), (by rw [fpN_1 (by decide), ← (hT (lfa_m q9)).2.1]; exact (hq_3.2.2.2.2 (by omega))), (by rw [fdN_n (by decide)]; exact (hT (lfa_m q9)).2.2)⟩))⟩
    · intro hq_22
      apply And.intro
      · exact ⟨by omega, by omega⟩
      intro zq_31 hq_31
      intro zq_32 hq_32
      skip
      intro zq_37 hq_37
      try skip
      apply And.intro
      · exact ⟨by omega, by omega⟩
      apply And.intro
      · first | exact Or.inl rfl | exact Or.inr rfl | omega
      exact hQ _ _ _ _ _ _ _ _ _ _ _ _ _ ⟨by omega, by omega, by omega, (by first | assumption | exact BT_up hbt (by omega)), (by first | exact LnM_0 hS (by decide) (by decide) (dj0 hq_3.2.2.2.1 hq_6) | exact LnM_1 (SlM_z (SlM_z (dj1 hq_3.2.2.2.1 hq_6).1 (by decide)) (by decide)) (fun q9 => (SlM_go (SlM_z (SlM_z (dj1 hq_3.2.2.2.1 hq_6).1 (by decide)) (by decide)) hq_22 q9).elim) | exact LnM_1 (SlM_z (SlM_z (dj1 hq_3.2.2.2.1 hq_6).1 (by decide)) (by decide)) (fun q9 => ⟨tl_1 (hT (lfa_m q9)).1 (po_v hq_32 hq_37 (hq_17.trans ((hT (lfa_m q9)).1 1 (by decide))) (by rw [hq_31, (dj1 hq_3.2.2.2.1 hq_6).2]; exact q_up_s)), (by rw [fpN_1 (by decide), ← (hT (lfa_m q9)).2.1]; exact (hq_3.2.2.2.2 (by omega))), (by rw [fdN_n (by decide)]; exact (hT (lfa_m q9)).2.2)⟩))⟩
  · intro hq_6
    apply And.intro
    · first | exact Or.inl rfl | exact Or.inr rfl | omega
    exact hQ _ _ _ _ _ _ _ _ _ _ _ _ _ ⟨by omega, by omega, by omega, (by first | assumption | exact BT_up hbt (by omega)), (by first | exact LnM_0 hS (by decide) (by decide) (dj0 hq_3.2.2.2.1 hq_6) | exact LnM_1 (SlM_z (SlM_z (dj1 hq_3.2.2.2.1 hq_6).1 (by decide)) (by decide)) (fun q9 => (SlM_go (SlM_z (SlM_z (dj1 hq_3.2.2.2.1 hq_6).1 (by decide)) (by decide)) hq_22 q9).elim) | exact LnM_1 (SlM_z (SlM_z (dj1 hq_3.2.2.2.1 hq_6).1 (by decide)) (by decide)) (fun q9 => ⟨tl_1 (hT (lfa_m q9)).1 (po_v hq_32 hq_37 (hq_17.trans ((hT (lfa_m q9)).1 1 (by decide))) (by rw [hq_31, (dj1 hq_3.2.2.2.1 hq_6).2]; exact q_up_s)), (by rw [fpN_1 (by decide), ← (hT (lfa_m q9)).2.1]; exact (hq_3.2.2.2.2 (by omega))), (by rw [fdN_n (by decide)]; exact (hT (lfa_m q9)).2.2)⟩))⟩

theorem dF12_caughtLine_0 : decode cX12_caughtLine 0 = .ok (.aload_n 0, 1) := by decide +kernel
theorem dF12_caughtLine_1 : decode cX12_caughtLine 1 = .ok (.iconst 0, 1) := by decide +kernel
theorem dF12_caughtLine_2 : decode cX12_caughtLine 2 = .ok (.iconst 0, 1) := by decide +kernel
theorem dF12_caughtLine_3 : decode cX12_caughtLine 3 = .ok (.bipush 10, 2) := by decide +kernel
theorem dF12_caughtLine_5 : decode cX12_caughtLine 5 = .ok (.invokevirtual 174, 3) := by decide +kernel
theorem dF12_caughtLine_8 : decode cX12_caughtLine 8 = .ok (.ifCond .ne 5, 3) := by decide +kernel
theorem dF12_caughtLine_11 : decode cX12_caughtLine 11 = .ok (.iconst 0, 1) := by decide +kernel
theorem dF12_caughtLine_12 : decode cX12_caughtLine 12 = .ok (.ireturn, 1) := by decide +kernel
theorem dF12_caughtLine_13 : decode cX12_caughtLine 13 = .ok (.aload_n 0, 1) := by decide +kernel
theorem dF12_caughtLine_14 : decode cX12_caughtLine 14 = .ok (.getfield 38, 3) := by decide +kernel
theorem dF12_caughtLine_17 : decode cX12_caughtLine 17 = .ok (.iconst 2, 1) := by decide +kernel
theorem dF12_caughtLine_18 : decode cX12_caughtLine 18 = .ok (.aload_n 0, 1) := by decide +kernel
theorem dF12_caughtLine_19 : decode cX12_caughtLine 19 = .ok (.getfield 41, 3) := by decide +kernel
theorem dF12_caughtLine_22 : decode cX12_caughtLine 22 = .ok (.iconst 0, 1) := by decide +kernel
theorem dF12_caughtLine_23 : decode cX12_caughtLine 23 = .ok (.iaload, 1) := by decide +kernel
theorem dF12_caughtLine_24 : decode cX12_caughtLine 24 = .ok (.iastore, 1) := by decide +kernel
theorem dF12_caughtLine_25 : decode cX12_caughtLine 25 = .ok (.iconst 1, 1) := by decide +kernel
theorem dF12_caughtLine_26 : decode cX12_caughtLine 26 = .ok (.ireturn, 1) := by decide +kernel
def is_F12_caughtLine : Nat → List Nat := fun d => []
set_option maxRecDepth 100000 in
def b_F12_caughtLine_0 (J : Nat → List qV → List qV → qW → Prop) (Q : qR) : qK := x_aload 0 (x_int 0 (x_int 0 (x_int 10 (x_call (some 12) 4 sp_F12_take (x_nw (x_if_ne (x_aload 0 (x_get 12 19 (x_int 2 (x_aload 0 (x_get 12 20 (x_int 0 (x_iald (x_iast (x_nw (x_int 1 (x_zret Q))))))))))) (x_int 0 (x_zret Q))))))))
set_option maxRecDepth 100000 in
theorem s_F12_caughtLine_0 {p : Program} {l : Launch} {e : Env} {R : Room} {s : State} {m : MethodId} {args : Array Value} {below : List Frame} {meth : Method} {c : Code} {nW : Nat} {dC : Nat → ClassId} {dI : Nat → Nat → Nat} {k : Nat → ClassId} {g : Nat → Nat} {A : Nat → Prop} {J : Nat → List qV → List qV → qW → Prop} {Q : qR} (X : q_X p R s m args meth c cX12_caughtLine 1 nW 4 91 RX12 (some .boolean) dC dI k g A) (hJ : ∀ d : Nat, q_Sd p l e R s m args below meth c 1 nW dC dI k g A (MQ below (q_post (dC, dI) k g nW Q A) args s 0 0 A) d (x_cut (is_F12_caughtLine d) (J d))) : q_Sd p l e R s m args below meth c 1 nW dC dI k g A (MQ below (q_post (dC, dI) k g nW Q A) args s 0 0 A) 0 (b_F12_caughtLine_0 J Q) := by
  unfold b_F12_caughtLine_0
  refine s_aload_n X rfl dF12_caughtLine_0 ?_
  refine s_iconst X ⟨by decide, by decide⟩ dF12_caughtLine_1 ?_
  refine s_iconst X ⟨by decide, by decide⟩ dF12_caughtLine_2 ?_
  refine s_bipush X ⟨by decide, by decide⟩ (by decide) dF12_caughtLine_3 ?_
  refine s_callV X (m_F12_take l) tw_1097 tw_1098 tw_1621 tw_134 tw_1099 rfl (by decide +kernel) ⟨by decide, by decide⟩ dF12_caughtLine_5 ?_
  refine s_nw ?_
  refine s_if_ne X (tgt := 13) dF12_caughtLine_8 (by decide) ?_ ?_
  · refine s_aload_n X rfl dF12_caughtLine_13 ?_
    refine s_get X (T := TX12) (C := RX12) (N := 45) tu_X12 rfl (by decide) tw_1016 dF12_caughtLine_14 ?_
    refine s_iconst X ⟨by decide, by decide⟩ dF12_caughtLine_17 ?_
    refine s_aload_n X rfl dF12_caughtLine_18 ?_
    refine s_get X (T := TX12) (C := RX12) (N := 45) tu_X12 rfl (by decide) tw_1017 dF12_caughtLine_19 ?_
    refine s_iconst X ⟨by decide, by decide⟩ dF12_caughtLine_22 ?_
    refine s_iald X dF12_caughtLine_23 ?_
    refine s_iast X dF12_caughtLine_24 ?_
    refine s_nw ?_
    refine s_iconst X ⟨by decide, by decide⟩ dF12_caughtLine_25 ?_
    exact s_zret X dF12_caughtLine_26
  · refine s_iconst X ⟨by decide, by decide⟩ dF12_caughtLine_11 ?_
    exact s_zret X dF12_caughtLine_12

def sp_F12_caughtLine : qS := fun av w Q => ∃ (mco : Int) (mre : Int) (mle : Int) (mbe : Int) (mso : Int) (mva : Int) (mwo : Int) (mwr : Int) (mlf : Int) (mlp : Int) (mfp : Int) (mfd : Int) (mgo : Int) (mbo : Int) (mpe : Int) (mye : Int) (mpr : Int) (mld : Int) (msi : Int) (mse : Int) (tp : Nat → Int) (re : Nat → Int) (td : Nat → Int) (gw : Int) (gp : Int) (gf : Int) (gq : Int) (gD : Nat → Int) (gfp : Int) (gfd : Int), av = [q2 0] ∧ w = [.inr (12, [q1 mco, q2 1, q2 4, q2 5, q2 6, q2 7, q2 8, q2 9, q2 10, q2 11, q1 mre, q1 mle, q1 mbe, q1 mso, q1 mva, q3 mwo, q1 mwr, q1 mlf, q1 mlp, q2 3, q2 2, q1 mfp, q1 mfd, q1 mgo, q1 mbo, q1 mpe, q1 mye, q2 12, q1 mpr, q2 13, q2 14, q2 15, q2 16, q1 mld, q2 17, q1 msi, q2 18, q2 19, q2 20, q2 21, q2 22, q1 mse, q2 23, q2 24, q2 25]), .inl (1, 2400, .inl tp), .inl (0, 4, .inl re), .inl (0, 161, .inl td)] ∧ (0 ≤ mre ∧ mre ≤ mle ∧ mle ≤ 600) ∧ (BT td 0) ∧ (gw = 2) ∧ (SlM (tc tp) mle gw gp gf gq 0 mre mbe mso mva mwo mlf mlp mgo) ∧ (TdR (gf = 0) gD gfp gfd td mfp mfd) ∧ (∀ (r : Int) (x_mre : Int) (x_mbe : Int) (x_mso : Int) (x_mva : Int) (x_mwo : Int) (x_mwr : Int) (x_mlf : Int) (x_mlp : Int) (x_mgo : Int) (x_re : Nat → Int) (x_td : Nat → Int), ((r = 0 ∨ r = 1 ∧ (x_mso = 0 ∨ mre < x_mre)) ∧ mre ≤ x_mre ∧ x_mre ≤ mle ∧ BT x_td 0 ∧ LnM (tc tp) mle gw gp gf gq gD gfp gfd r x_mre x_mbe x_mso x_mva x_mwo x_mwr x_mlf x_mlp x_mgo x_td mfp mfd) → Q (some (q1 r)) ([.inr (12, [q1 mco, q2 1, q2 4, q2 5, q2 6, q2 7, q2 8, q2 9, q2 10, q2 11, q1 x_mre, q1 mle, q1 x_mbe, q1 x_mso, q1 x_mva, q3 x_mwo, q1 x_mwr, q1 x_mlf, q1 x_mlp, q2 3, q2 2, q1 mfp, q1 mfd, q1 x_mgo, q1 mbo, q1 mpe, q1 mye, q2 12, q1 mpr, q2 13, q2 14, q2 15, q2 16, q1 mld, q2 17, q1 msi, q2 18, q2 19, q2 20, q2 21, q2 22, q1 mse, q2 23, q2 24, q2 25]), .inl (1, 2400, .inl tp), .inl (0, 4, .inl x_re), .inl (0, 161, .inl x_td)]))
set_option maxHeartbeats 4000000 in
set_option maxRecDepth 100000 in
theorem m_F12_caughtLine (l : Launch) : q_M l yX12_caughtLine cX12_caughtLine 1 (some .boolean) 4 91 sp_F12_caughtLine := by
  refine q_meth (by decide) (fun av w Q h => by obtain ⟨mco, mre, mle, mbe, mso, mva, mwo, mwr, mlf, mlp, mfp, mfd, mgo, mbo, mpe, mye, mpr, mld, msi, mse, tp, re, td, gw, gp, gf, gq, gD, gfp, gfd, rfl, rfl, htp, hbt, hgw, hS, hT, hQ⟩ := h; exact Nat.le_of_ble_eq_true rfl) ?_
  intro p e R s m args below meth c dC dI k g A av w Q hsp oka okw X
  obtain ⟨mco, mre, mle, mbe, mso, mva, mwo, mwr, mlf, mlp, mfp, mfd, mgo, mbo, mpe, mye, mpr, mld, msi, mse, tp, re, td, gw, gp, gf, gq, gD, gfp, gfd, rfl, rfl, htp, hbt, hgw, hS, hT, hQ⟩ := hsp
  refine s_mono (s_F12_caughtLine_0 X (J := fun _ _ _ _ => False) (fun d => s_cutF)) ?_
  rintro lv st w' ⟨rfl, rfl, rfl⟩
  subst hgw
  refine Exists.intro [0, 1, 2, 4, 5, 6, 7, 8, 9, 10, 11, 3, 12, 13, 14, 15, 16, 17, 18, 19, 20, 21, 22, 23, 24, 25] (Exists.intro [q2 0, q1 _, q1 _, q1 _] (Exists.intro ([.inr (12, [q1 _, q2 1, q2 3, q2 4, q2 5, q2 6, q2 7, q2 8, q2 9, q2 10, q1 _, q1 _, q1 _, q1 _, q1 _, q3 _, q1 _, q1 _, q1 _, q2 11, q2 2, q1 _, q1 _, q1 _, q1 _, q1 _, q1 _, q2 12, q1 _, q2 13, q2 14, q2 15, q2 16, q1 _, q2 17, q1 _, q2 18, q2 19, q2 20, q2 21, q2 22, q1 _, q2 23, q2 24, q2 25]), .inl (1, 2400, .inl _), .inl (0, 4, .inl _)]) (And.intro rfl (And.intro rfl (And.intro rfl (And.intro ⟨⟨_, rfl⟩, rfl⟩ ?_))))))
  refine Exists.intro _ (Exists.intro _ (Exists.intro _ (Exists.intro _ (Exists.intro _ (Exists.intro _ (Exists.intro _ (Exists.intro _ (Exists.intro _ (Exists.intro _ (Exists.intro _ (Exists.intro _ (Exists.intro _ (Exists.intro _ (Exists.intro _ (Exists.intro _ (Exists.intro _ (Exists.intro _ (Exists.intro _ (Exists.intro _ (Exists.intro _ (Exists.intro _ (Exists.intro _ (Exists.intro _ (Exists.intro _ (Exists.intro _ (Exists.intro _ (Exists.intro _ (Exists.intro _ (Exists.intro _ (And.intro rfl (And.intro rfl (And.intro (by first | omega | assumption | exact q_rg_up (by assumption) (by omega) | exact q_rg_up (q_rg_up (by assumption) (by omega)) (by omega) | exact q_rg_cpy (by assumption) (by assumption)) (And.intro (by decide) (And.intro hS (And.intro (by decide) (And.intro ⟨by decide, by decide⟩ (And.intro (by decide) (?_))))))))))))))))))))))))))))))))))))))
  intro zq_5 x_mre_5 x_mbe_5 x_mso_5 x_mva_5 x_mwo_5 x_mwr_5 x_mlf_5 x_mlp_5 x_mgo_5 x_re_5 hq_5
  apply And.intro
  · intro hq_8
    apply And.intro
    · exact ⟨by omega, by omega⟩
    intro zq_23 hq_23
    apply And.intro
    · exact ⟨by omega, by omega⟩
    apply And.intro
    · first | exact Or.inl rfl | exact Or.inr rfl | omega
    exact hQ _ _ _ _ _ _ _ _ _ _ _ _ ⟨by omega, by omega, by omega, (by first | assumption | exact BT_up hbt (by omega)), (by first | exact LnM_0 hS (by decide) (by decide) (dj0 hq_5.2.2.2 hq_8) | exact LnM_1 (SlM_z (SlM_z (dj1 hq_5.2.2.2 hq_8).1 (by decide)) (by decide)) (fun q9 => ⟨tl_2 (hT (lfa_m q9)).1 (by rw [hq_23, (dj1 hq_5.2.2.2 hq_8).2]; exact q_up_s), (by rw [fpN_n (by decide)]; exact (hT (lfa_m q9)).2.1), (by rw [fdN_n (by decide)]; exact (hT (lfa_m q9)).2.2)⟩))⟩
  · intro hq_8
    apply And.intro
    · first | exact Or.inl rfl | exact Or.inr rfl | omega
    exact hQ _ _ _ _ _ _ _ _ _ _ _ _ ⟨by omega, by omega, by omega, (by first | assumption | exact BT_up hbt (by omega)), (by first | exact LnM_0 hS (by decide) (by decide) (dj0 hq_5.2.2.2 hq_8) | exact LnM_1 (SlM_z (SlM_z (dj1 hq_5.2.2.2 hq_8).1 (by decide)) (by decide)) (fun q9 => ⟨tl_2 (hT (lfa_m q9)).1 (by rw [hq_23, (dj1 hq_5.2.2.2 hq_8).2]; exact q_up_s), (by rw [fpN_n (by decide)]; exact (hT (lfa_m q9)).2.1), (by rw [fdN_n (by decide)]; exact (hT (lfa_m q9)).2.2)⟩))⟩

theorem dF12_childLine_0 : decode cX12_childLine 0 = .ok (.aload_n 0, 1) := by decide +kernel
theorem dF12_childLine_1 : decode cX12_childLine 1 = .ok (.iconst 0, 1) := by decide +kernel
theorem dF12_childLine_2 : decode cX12_childLine 2 = .ok (.iconst (-1), 1) := by decide +kernel
theorem dF12_childLine_3 : decode cX12_childLine 3 = .ok (.invokevirtual 177, 3) := by decide +kernel
theorem dF12_childLine_6 : decode cX12_childLine 6 = .ok (.ifCond .eq 17, 3) := by decide +kernel
theorem dF12_childLine_9 : decode cX12_childLine 9 = .ok (.aload_n 0, 1) := by decide +kernel
theorem dF12_childLine_10 : decode cX12_childLine 10 = .ok (.iconst 1, 1) := by decide +kernel
theorem dF12_childLine_11 : decode cX12_childLine 11 = .ok (.aload_n 0, 1) := by decide +kernel
theorem dF12_childLine_12 : decode cX12_childLine 12 = .ok (.getfield 41, 3) := by decide +kernel
theorem dF12_childLine_15 : decode cX12_childLine 15 = .ok (.iconst 0, 1) := by decide +kernel
theorem dF12_childLine_16 : decode cX12_childLine 16 = .ok (.iaload, 1) := by decide +kernel
theorem dF12_childLine_17 : decode cX12_childLine 17 = .ok (.invokevirtual 177, 3) := by decide +kernel
theorem dF12_childLine_20 : decode cX12_childLine 20 = .ok (.ifCond .ne 5, 3) := by decide +kernel
theorem dF12_childLine_23 : decode cX12_childLine 23 = .ok (.iconst 0, 1) := by decide +kernel
theorem dF12_childLine_24 : decode cX12_childLine 24 = .ok (.ireturn, 1) := by decide +kernel
theorem dF12_childLine_25 : decode cX12_childLine 25 = .ok (.aload_n 0, 1) := by decide +kernel
theorem dF12_childLine_26 : decode cX12_childLine 26 = .ok (.getfield 148, 3) := by decide +kernel
theorem dF12_childLine_29 : decode cX12_childLine 29 = .ok (.ifCond .eq 23, 3) := by decide +kernel
theorem dF12_childLine_32 : decode cX12_childLine 32 = .ok (.aload_n 0, 1) := by decide +kernel
theorem dF12_childLine_33 : decode cX12_childLine 33 = .ok (.getfield 38, 3) := by decide +kernel
theorem dF12_childLine_36 : decode cX12_childLine 36 = .ok (.bipush 13, 2) := by decide +kernel
theorem dF12_childLine_38 : decode cX12_childLine 38 = .ok (.aload_n 0, 1) := by decide +kernel
theorem dF12_childLine_39 : decode cX12_childLine 39 = .ok (.getfield 41, 3) := by decide +kernel
theorem dF12_childLine_42 : decode cX12_childLine 42 = .ok (.iconst 0, 1) := by decide +kernel
theorem dF12_childLine_43 : decode cX12_childLine 43 = .ok (.iaload, 1) := by decide +kernel
theorem dF12_childLine_44 : decode cX12_childLine 44 = .ok (.iadd, 1) := by decide +kernel
theorem dF12_childLine_45 : decode cX12_childLine 45 = .ok (.aload_n 0, 1) := by decide +kernel
theorem dF12_childLine_46 : decode cX12_childLine 46 = .ok (.getfield 41, 3) := by decide +kernel
theorem dF12_childLine_49 : decode cX12_childLine 49 = .ok (.iconst 1, 1) := by decide +kernel
theorem dF12_childLine_50 : decode cX12_childLine 50 = .ok (.iaload, 1) := by decide +kernel
theorem dF12_childLine_51 : decode cX12_childLine 51 = .ok (.iastore, 1) := by decide +kernel
theorem dF12_childLine_52 : decode cX12_childLine 52 = .ok (.iconst 1, 1) := by decide +kernel
theorem dF12_childLine_53 : decode cX12_childLine 53 = .ok (.ireturn, 1) := by decide +kernel
def is_F12_childLine : Nat → List Nat := fun d => []
set_option maxRecDepth 100000 in
def b_F12_childLine_52 (J : Nat → List qV → List qV → qW → Prop) (Q : qR) : qK := x_int 1 (x_zret Q)
set_option maxRecDepth 100000 in
theorem s_F12_childLine_52 {p : Program} {l : Launch} {e : Env} {R : Room} {s : State} {m : MethodId} {args : Array Value} {below : List Frame} {meth : Method} {c : Code} {nW : Nat} {dC : Nat → ClassId} {dI : Nat → Nat → Nat} {k : Nat → ClassId} {g : Nat → Nat} {A : Nat → Prop} {J : Nat → List qV → List qV → qW → Prop} {Q : qR} (X : q_X p R s m args meth c cX12_childLine 1 nW 4 90 RX12 (some .boolean) dC dI k g A) (hJ : ∀ d : Nat, q_Sd p l e R s m args below meth c 1 nW dC dI k g A (MQ below (q_post (dC, dI) k g nW Q A) args s 0 0 A) d (x_cut (is_F12_childLine d) (J d))) : q_Sd p l e R s m args below meth c 1 nW dC dI k g A (MQ below (q_post (dC, dI) k g nW Q A) args s 0 0 A) 52 (b_F12_childLine_52 J Q) := by
  unfold b_F12_childLine_52
  refine s_iconst X ⟨by decide, by decide⟩ dF12_childLine_52 ?_
  exact s_zret X dF12_childLine_53
set_option maxRecDepth 100000 in
def b_F12_childLine_23 (J : Nat → List qV → List qV → qW → Prop) (Q : qR) : qK := x_int 0 (x_zret Q)
set_option maxRecDepth 100000 in
theorem s_F12_childLine_23 {p : Program} {l : Launch} {e : Env} {R : Room} {s : State} {m : MethodId} {args : Array Value} {below : List Frame} {meth : Method} {c : Code} {nW : Nat} {dC : Nat → ClassId} {dI : Nat → Nat → Nat} {k : Nat → ClassId} {g : Nat → Nat} {A : Nat → Prop} {J : Nat → List qV → List qV → qW → Prop} {Q : qR} (X : q_X p R s m args meth c cX12_childLine 1 nW 4 90 RX12 (some .boolean) dC dI k g A) (hJ : ∀ d : Nat, q_Sd p l e R s m args below meth c 1 nW dC dI k g A (MQ below (q_post (dC, dI) k g nW Q A) args s 0 0 A) d (x_cut (is_F12_childLine d) (J d))) : q_Sd p l e R s m args below meth c 1 nW dC dI k g A (MQ below (q_post (dC, dI) k g nW Q A) args s 0 0 A) 23 (b_F12_childLine_23 J Q) := by
  unfold b_F12_childLine_23
  refine s_iconst X ⟨by decide, by decide⟩ dF12_childLine_23 ?_
  exact s_zret X dF12_childLine_24
set_option maxRecDepth 100000 in
def b_F12_childLine_0 (J : Nat → List qV → List qV → qW → Prop) (Q : qR) : qK := x_aload 0 (x_int 0 (x_int (-1) (x_call (some 12) 3 sp_F12_takePerson (x_nw (x_if_eq (b_F12_childLine_23 J Q) (x_aload 0 (x_int 1 (x_aload 0 (x_get 12 20 (x_int 0 (x_iald (x_call (some 12) 3 sp_F12_takePerson (x_nw (x_if_ne (x_aload 0 (x_get 12 23 (x_if_eq (b_F12_childLine_52 J Q) (x_aload 0 (x_get 12 19 (x_int 13 (x_aload 0 (x_get 12 20 (x_int 0 (x_iald (x_iadd (x_aload 0 (x_get 12 20 (x_int 1 (x_iald (x_iast (x_nw (b_F12_childLine_52 J Q)))))))))))))))))) (b_F12_childLine_23 J Q)))))))))))))))
set_option maxRecDepth 100000 in
theorem s_F12_childLine_0 {p : Program} {l : Launch} {e : Env} {R : Room} {s : State} {m : MethodId} {args : Array Value} {below : List Frame} {meth : Method} {c : Code} {nW : Nat} {dC : Nat → ClassId} {dI : Nat → Nat → Nat} {k : Nat → ClassId} {g : Nat → Nat} {A : Nat → Prop} {J : Nat → List qV → List qV → qW → Prop} {Q : qR} (X : q_X p R s m args meth c cX12_childLine 1 nW 4 90 RX12 (some .boolean) dC dI k g A) (hJ : ∀ d : Nat, q_Sd p l e R s m args below meth c 1 nW dC dI k g A (MQ below (q_post (dC, dI) k g nW Q A) args s 0 0 A) d (x_cut (is_F12_childLine d) (J d))) : q_Sd p l e R s m args below meth c 1 nW dC dI k g A (MQ below (q_post (dC, dI) k g nW Q A) args s 0 0 A) 0 (b_F12_childLine_0 J Q) := by
  unfold b_F12_childLine_0
  refine s_aload_n X rfl dF12_childLine_0 ?_
  refine s_iconst X ⟨by decide, by decide⟩ dF12_childLine_1 ?_
  refine s_iconst X ⟨by decide, by decide⟩ dF12_childLine_2 ?_
  refine s_callV X (m_F12_takePerson l) tw_1115 tw_1116 tw_1624 tw_134 tw_1117 rfl (by decide +kernel) ⟨by decide, by decide⟩ dF12_childLine_3 ?_
  refine s_nw ?_
  refine s_if_eq X (tgt := 23) dF12_childLine_6 (by decide) ?_ ?_
  · exact s_F12_childLine_23 X hJ
  · refine s_aload_n X rfl dF12_childLine_9 ?_
    refine s_iconst X ⟨by decide, by decide⟩ dF12_childLine_10 ?_
    refine s_aload_n X rfl dF12_childLine_11 ?_
    refine s_get X (T := TX12) (C := RX12) (N := 45) tu_X12 rfl (by decide) tw_1017 dF12_childLine_12 ?_
    refine s_iconst X ⟨by decide, by decide⟩ dF12_childLine_15 ?_
    refine s_iald X dF12_childLine_16 ?_
    refine s_callV X (m_F12_takePerson l) tw_1115 tw_1116 tw_1624 tw_134 tw_1117 rfl (by decide +kernel) ⟨by decide, by decide⟩ dF12_childLine_17 ?_
    refine s_nw ?_
    refine s_if_ne X (tgt := 25) dF12_childLine_20 (by decide) ?_ ?_
    · refine s_aload_n X rfl dF12_childLine_25 ?_
      refine s_get X (T := TX12) (C := RX12) (N := 45) tu_X12 rfl (by decide) tw_1020 dF12_childLine_26 ?_
      refine s_if_eq X (tgt := 52) dF12_childLine_29 (by decide) ?_ ?_
      · exact s_F12_childLine_52 X hJ
      · refine s_aload_n X rfl dF12_childLine_32 ?_
        refine s_get X (T := TX12) (C := RX12) (N := 45) tu_X12 rfl (by decide) tw_1016 dF12_childLine_33 ?_
        refine s_bipush X ⟨by decide, by decide⟩ (by decide) dF12_childLine_36 ?_
        refine s_aload_n X rfl dF12_childLine_38 ?_
        refine s_get X (T := TX12) (C := RX12) (N := 45) tu_X12 rfl (by decide) tw_1017 dF12_childLine_39 ?_
        refine s_iconst X ⟨by decide, by decide⟩ dF12_childLine_42 ?_
        refine s_iald X dF12_childLine_43 ?_
        refine s_iadd X dF12_childLine_44 ?_
        refine s_aload_n X rfl dF12_childLine_45 ?_
        refine s_get X (T := TX12) (C := RX12) (N := 45) tu_X12 rfl (by decide) tw_1017 dF12_childLine_46 ?_
        refine s_iconst X ⟨by decide, by decide⟩ dF12_childLine_49 ?_
        refine s_iald X dF12_childLine_50 ?_
        refine s_iast X dF12_childLine_51 ?_
        refine s_nw ?_
        exact s_F12_childLine_52 X hJ
    · exact s_F12_childLine_23 X hJ

def sp_F12_childLine : qS := fun av w Q => ∃ (mco : Int) (mre : Int) (mle : Int) (mbe : Int) (mso : Int) (mva : Int) (mwo : Int) (mwr : Int) (mlf : Int) (mlp : Int) (mfp : Int) (mfd : Int) (mgo : Int) (mbo : Int) (mpe : Int) (mye : Int) (mpr : Int) (mld : Int) (msi : Int) (mse : Int) (tp : Nat → Int) (re : Nat → Int) (td : Nat → Int) (gw : Int) (gp : Int) (gf : Int) (gq : Int) (gD : Nat → Int) (gfp : Int) (gfd : Int), av = [q2 0] ∧ w = [.inr (12, [q1 mco, q2 1, q2 4, q2 5, q2 6, q2 7, q2 8, q2 9, q2 10, q2 11, q1 mre, q1 mle, q1 mbe, q1 mso, q1 mva, q3 mwo, q1 mwr, q1 mlf, q1 mlp, q2 3, q2 2, q1 mfp, q1 mfd, q1 mgo, q1 mbo, q1 mpe, q1 mye, q2 12, q1 mpr, q2 13, q2 14, q2 15, q2 16, q1 mld, q2 17, q1 msi, q2 18, q2 19, q2 20, q2 21, q2 22, q1 mse, q2 23, q2 24, q2 25]), .inl (1, 2400, .inl tp), .inl (0, 4, .inl re), .inl (0, 161, .inl td)] ∧ (0 ≤ mre ∧ mre ≤ mle ∧ mle ≤ 600) ∧ (BT td 0) ∧ (gw = 5) ∧ (SlM (tc tp) mle gw gp gf gq 0 mre mbe mso mva mwo mlf mlp mgo) ∧ (TdR (gf = 0) gD gfp gfd td mfp mfd) ∧ (∀ (r : Int) (x_mre : Int) (x_mbe : Int) (x_mso : Int) (x_mva : Int) (x_mwo : Int) (x_mwr : Int) (x_mlf : Int) (x_mlp : Int) (x_mgo : Int) (x_re : Nat → Int) (x_td : Nat → Int) (x_mfp : Int), ((r = 0 ∨ r = 1 ∧ (x_mso = 0 ∨ mre < x_mre)) ∧ mre ≤ x_mre ∧ x_mre ≤ mle ∧ BT x_td 0 ∧ LnM (tc tp) mle gw gp gf gq gD gfp gfd r x_mre x_mbe x_mso x_mva x_mwo x_mwr x_mlf x_mlp x_mgo x_td x_mfp mfd) → Q (some (q1 r)) ([.inr (12, [q1 mco, q2 1, q2 4, q2 5, q2 6, q2 7, q2 8, q2 9, q2 10, q2 11, q1 x_mre, q1 mle, q1 x_mbe, q1 x_mso, q1 x_mva, q3 x_mwo, q1 x_mwr, q1 x_mlf, q1 x_mlp, q2 3, q2 2, q1 x_mfp, q1 mfd, q1 x_mgo, q1 mbo, q1 mpe, q1 mye, q2 12, q1 mpr, q2 13, q2 14, q2 15, q2 16, q1 mld, q2 17, q1 msi, q2 18, q2 19, q2 20, q2 21, q2 22, q1 mse, q2 23, q2 24, q2 25]), .inl (1, 2400, .inl tp), .inl (0, 4, .inl x_re), .inl (0, 161, .inl x_td)]))
set_option maxHeartbeats 4000000 in
set_option maxRecDepth 100000 in
theorem m_F12_childLine (l : Launch) : q_M l yX12_childLine cX12_childLine 1 (some .boolean) 4 90 sp_F12_childLine := by
  refine q_meth (by decide) (fun av w Q h => by obtain ⟨mco, mre, mle, mbe, mso, mva, mwo, mwr, mlf, mlp, mfp, mfd, mgo, mbo, mpe, mye, mpr, mld, msi, mse, tp, re, td, gw, gp, gf, gq, gD, gfp, gfd, rfl, rfl, htp, hbt, hgw, hS, hT, hQ⟩ := h; exact Nat.le_of_ble_eq_true rfl) ?_
  intro p e R s m args below meth c dC dI k g A av w Q hsp oka okw X
  obtain ⟨mco, mre, mle, mbe, mso, mva, mwo, mwr, mlf, mlp, mfp, mfd, mgo, mbo, mpe, mye, mpr, mld, msi, mse, tp, re, td, gw, gp, gf, gq, gD, gfp, gfd, rfl, rfl, htp, hbt, hgw, hS, hT, hQ⟩ := hsp
  refine s_mono (s_F12_childLine_0 X (J := fun _ _ _ _ => False) (fun d => s_cutF)) ?_
  rintro lv st w' ⟨rfl, rfl, rfl⟩
  subst hgw
  refine Exists.intro [0, 1, 2, 4, 5, 6, 7, 8, 9, 10, 11, 3, 12, 13, 14, 15, 16, 17, 18, 19, 20, 21, 22, 23, 24, 25] (Exists.intro [q2 0, q1 _, q1 _] (Exists.intro ([.inr (12, [q1 _, q2 1, q2 3, q2 4, q2 5, q2 6, q2 7, q2 8, q2 9, q2 10, q1 _, q1 _, q1 _, q1 _, q1 _, q3 _, q1 _, q1 _, q1 _, q2 11, q2 2, q1 _, q1 _, q1 _, q1 _, q1 _, q1 _, q2 12, q1 _, q2 13, q2 14, q2 15, q2 16, q1 _, q2 17, q1 _, q2 18, q2 19, q2 20, q2 21, q2 22, q1 _, q2 23, q2 24, q2 25]), .inl (1, 2400, .inl _), .inl (0, 4, .inl _)]) (And.intro rfl (And.intro rfl (And.intro rfl (And.intro ⟨⟨_, rfl⟩, rfl⟩ ?_))))))
  refine Exists.intro _ (Exists.intro _ (Exists.intro _ (Exists.intro _ (Exists.intro _ (Exists.intro _ (Exists.intro _ (Exists.intro _ (Exists.intro _ (Exists.intro _ (Exists.intro _ (Exists.intro _ (Exists.intro _ (Exists.intro _ (Exists.intro _ (Exists.intro _ (Exists.intro _ (Exists.intro _ (Exists.intro _ (Exists.intro _ (Exists.intro _ (Exists.intro _ (Exists.intro _ (Exists.intro _ (Exists.intro _ (Exists.intro _ (Exists.intro _ (Exists.intro _ (Exists.intro _ (And.intro rfl (And.intro rfl (And.intro (by first | omega | assumption | exact q_rg_up (by assumption) (by omega) | exact q_rg_up (q_rg_up (by assumption) (by omega)) (by omega) | exact q_rg_cpy (by assumption) (by assumption)) (And.intro (by decide) (And.intro hS (And.intro (by decide) (And.intro ⟨by decide, by decide⟩ (And.intro (Or.inr ⟨by decide, rfl⟩) (?_)))))))))))))))))))))))))))))))))))))
  intro zq_3 x_mre_3 x_mbe_3 x_mso_3 x_mva_3 x_mwo_3 x_mwr_3 x_mlf_3 x_mlp_3 x_mgo_3 x_re_3 x_mfp_3 hq_3
  apply And.intro
  · intro hq_6
    apply And.intro
    · first | exact Or.inl rfl | exact Or.inr rfl | omega
    exact hQ _ _ _ _ _ _ _ _ _ _ _ _ _ ⟨by omega, by omega, by omega, (by first | assumption | exact BT_up hbt (by omega)), (by first | exact LnM_0 hS (by decide) (by decide) (dj0 hq_3.2.2.2.1 hq_6) | exact LnM_0 (dj1 hq_3.2.2.2.1 hq_6).1 (by decide) (by decide) (dj0 hq_17.2.2.2.1 hq_20) | exact LnM_1 (SlM_z (dj1 hq_17.2.2.2.1 hq_20).1 (by decide)) (fun q9 => (SlM_go (SlM_z (dj1 hq_17.2.2.2.1 hq_20).1 (by decide)) hq_29 q9).elim) | exact LnM_1 (SlM_z (dj1 hq_17.2.2.2.1 hq_20).1 (by decide)) (fun q9 => ⟨tl_5 (hT (lfa_m q9)).1 (by omega) (by rw [hq_50, (dj1 hq_17.2.2.2.1 hq_20).2]; exact q_up_s), (by rw [fpN_5, ← (hT (lfa_m q9)).2.1, ← (hq_3.2.2.2.2 (by omega))]; exact (hq_17.2.2.2.2 (by omega))), (by rw [fdN_n (by decide)]; exact (hT (lfa_m q9)).2.2)⟩))⟩
  · intro hq_6
    apply And.intro
    · exact ⟨by omega, by omega⟩
    intro zq_16 hq_16
    refine Exists.intro [0, 1, 2, 4, 5, 6, 7, 8, 9, 10, 11, 3, 12, 13, 14, 15, 16, 17, 18, 19, 20, 21, 22, 23, 24, 25] (Exists.intro [q2 0, q1 _, q1 _] (Exists.intro ([.inr (12, [q1 _, q2 1, q2 3, q2 4, q2 5, q2 6, q2 7, q2 8, q2 9, q2 10, q1 _, q1 _, q1 _, q1 _, q1 _, q3 _, q1 _, q1 _, q1 _, q2 11, q2 2, q1 _, q1 _, q1 _, q1 _, q1 _, q1 _, q2 12, q1 _, q2 13, q2 14, q2 15, q2 16, q1 _, q2 17, q1 _, q2 18, q2 19, q2 20, q2 21, q2 22, q1 _, q2 23, q2 24, q2 25]), .inl (1, 2400, .inl _), .inl (0, 4, .inl _)]) (And.intro rfl (And.intro rfl (And.intro rfl (And.intro ⟨⟨_, rfl⟩, rfl⟩ ?_))))))
    refine Exists.intro _ (Exists.intro _ (Exists.intro _ (Exists.intro _ (Exists.intro _ (Exists.intro _ (Exists.intro _ (Exists.intro _ (Exists.intro _ (Exists.intro _ (Exists.intro _ (Exists.intro _ (Exists.intro _ (Exists.intro _ (Exists.intro _ (Exists.intro _ (Exists.intro _ (Exists.intro _ (Exists.intro _ (Exists.intro _ (Exists.intro _ (Exists.intro _ (Exists.intro _ (Exists.intro _ (Exists.intro _ (Exists.intro _ (Exists.intro _ (Exists.intro _ (Exists.intro _ (And.intro rfl (And.intro rfl (And.intro (by first | omega | assumption | exact q_rg_up (by assumption) (by omega) | exact q_rg_up (q_rg_up (by assumption) (by omega)) (by omega) | exact q_rg_cpy (by assumption) (by assumption)) (And.intro (by decide) (And.intro (dj1 hq_3.2.2.2.1 hq_6).1 (And.intro (by decide) (And.intro ⟨by decide, by decide⟩ (And.intro (Or.inl ⟨by decide, (by rw [hq_16, (dj1 hq_3.2.2.2.1 hq_6).2]; exact q_up_s)⟩) (?_)))))))))))))))))))))))))))))))))))))
    intro zq_17 x_mre_17 x_mbe_17 x_mso_17 x_mva_17 x_mwo_17 x_mwr_17 x_mlf_17 x_mlp_17 x_mgo_17 x_re_17 x_mfp_17 hq_17
    apply And.intro
    · intro hq_20
      apply And.intro
      · intro hq_29
        apply And.intro
        · first | exact Or.inl rfl | exact Or.inr rfl | omega
        exact hQ _ _ _ _ _ _ _ _ _ _ _ _ _ ⟨by omega, by omega, by omega, (by first | assumption | exact BT_up hbt (by omega)), (by first | exact LnM_0 hS (by decide) (by decide) (dj0 hq_3.2.2.2.1 hq_6) | exact LnM_0 (dj1 hq_3.2.2.2.1 hq_6).1 (by decide) (by decide) (dj0 hq_17.2.2.2.1 hq_20) | exact LnM_1 (SlM_z (dj1 hq_17.2.2.2.1 hq_20).1 (by decide)) (fun q9 => (SlM_go (SlM_z (dj1 hq_17.2.2.2.1 hq_20).1 (by decide)) hq_29 q9).elim) | exact LnM_1 (SlM_z (dj1 hq_17.2.2.2.1 hq_20).1 (by decide)) (fun q9 => ⟨tl_5 (hT (lfa_m q9)).1 (by omega) (by rw [hq_50, (dj1 hq_17.2.2.2.1 hq_20).2]; exact q_up_s), (by rw [fpN_5, ← (hT (lfa_m q9)).2.1, ← (hq_3.2.2.2.2 (by omega))]; exact (hq_17.2.2.2.2 (by omega))), (by rw [fdN_n (by decide)]; exact (hT (lfa_m q9)).2.2)⟩))⟩
      · intro hq_29
        have r9 := SlM_rg (dj1 hq_17.2.2.2.1 hq_20).1 hq_29 0 (by decide) (by decide) (a := 0) (b := 7) (by decide) (by decide)
        have s9 := SlM_rg (dj1 hq_17.2.2.2.1 hq_20).1 hq_29 1 (by decide) (by decide) (a := 0) (b := 7) (by decide) (by decide)
        apply And.intro
        · exact ⟨by omega, by omega⟩
        intro zq_43 hq_43
        have e43 : zq_43 = lvs (tc tp) mle 5 gp 0 := (by rw [hq_43, (dj1 hq_17.2.2.2.1 hq_20).2, q_up_n (by decide), (dj1 hq_3.2.2.2.1 hq_6).2]; exact q_up_s)
        intro zq_44 hq_44
        first | replace hq_44 := e_add hq_44 (by omega) | replace hq_44 := e_rng hq_44
        apply And.intro
        · exact ⟨by omega, by omega⟩
        intro zq_50 hq_50
        have e50 : zq_50 = lvs (tc tp) mle 5 gp 1 := (by rw [hq_50, (dj1 hq_17.2.2.2.1 hq_20).2]; exact q_up_s)
        apply And.intro
        · exact ⟨by omega, by omega⟩
        apply And.intro
        · first | exact Or.inl rfl | exact Or.inr rfl | omega
        exact hQ _ _ _ _ _ _ _ _ _ _ _ _ _ ⟨by omega, by omega, by omega, (by first | assumption | exact BT_up hbt (by omega)), (by first | exact LnM_0 hS (by decide) (by decide) (dj0 hq_3.2.2.2.1 hq_6) | exact LnM_0 (dj1 hq_3.2.2.2.1 hq_6).1 (by decide) (by decide) (dj0 hq_17.2.2.2.1 hq_20) | exact LnM_1 (SlM_z (dj1 hq_17.2.2.2.1 hq_20).1 (by decide)) (fun q9 => (SlM_go (SlM_z (dj1 hq_17.2.2.2.1 hq_20).1 (by decide)) hq_29 q9).elim) | exact LnM_1 (SlM_z (dj1 hq_17.2.2.2.1 hq_20).1 (by decide)) (fun q9 => ⟨tl_5 (hT (lfa_m q9)).1 (by omega) (by rw [hq_50, (dj1 hq_17.2.2.2.1 hq_20).2]; exact q_up_s), (by rw [fpN_5, ← (hT (lfa_m q9)).2.1, ← (hq_3.2.2.2.2 (by omega))]; exact (hq_17.2.2.2.2 (by omega))), (by rw [fdN_n (by decide)]; exact (hT (lfa_m q9)).2.2)⟩))⟩
    · intro hq_20
      apply And.intro
      · first | exact Or.inl rfl | exact Or.inr rfl | omega
      exact hQ _ _ _ _ _ _ _ _ _ _ _ _ _ ⟨by omega, by omega, by omega, (by first | assumption | exact BT_up hbt (by omega)), (by first | exact LnM_0 hS (by decide) (by decide) (dj0 hq_3.2.2.2.1 hq_6) | exact LnM_0 (dj1 hq_3.2.2.2.1 hq_6).1 (by decide) (by decide) (dj0 hq_17.2.2.2.1 hq_20) | exact LnM_1 (SlM_z (dj1 hq_17.2.2.2.1 hq_20).1 (by decide)) (fun q9 => (SlM_go (SlM_z (dj1 hq_17.2.2.2.1 hq_20).1 (by decide)) hq_29 q9).elim) | exact LnM_1 (SlM_z (dj1 hq_17.2.2.2.1 hq_20).1 (by decide)) (fun q9 => ⟨tl_5 (hT (lfa_m q9)).1 (by omega) (by rw [hq_50, (dj1 hq_17.2.2.2.1 hq_20).2]; exact q_up_s), (by rw [fpN_5, ← (hT (lfa_m q9)).2.1, ← (hq_3.2.2.2.2 (by omega))]; exact (hq_17.2.2.2.2 (by omega))), (by rw [fdN_n (by decide)]; exact (hT (lfa_m q9)).2.2)⟩))⟩

theorem dF12_passLine_0 : decode cX12_passLine 0 = .ok (.aload_n 0, 1) := by decide +kernel
theorem dF12_passLine_1 : decode cX12_passLine 1 = .ok (.iconst 0, 1) := by decide +kernel
theorem dF12_passLine_2 : decode cX12_passLine 2 = .ok (.iconst (-1), 1) := by decide +kernel
theorem dF12_passLine_3 : decode cX12_passLine 3 = .ok (.invokevirtual 177, 3) := by decide +kernel
theorem dF12_passLine_6 : decode cX12_passLine 6 = .ok (.ifCond .eq 13, 3) := by decide +kernel
theorem dF12_passLine_9 : decode cX12_passLine 9 = .ok (.aload_n 0, 1) := by decide +kernel
theorem dF12_passLine_10 : decode cX12_passLine 10 = .ok (.iconst 1, 1) := by decide +kernel
theorem dF12_passLine_11 : decode cX12_passLine 11 = .ok (.iconst 0, 1) := by decide +kernel
theorem dF12_passLine_12 : decode cX12_passLine 12 = .ok (.iconst 5, 1) := by decide +kernel
theorem dF12_passLine_13 : decode cX12_passLine 13 = .ok (.invokevirtual 174, 3) := by decide +kernel
theorem dF12_passLine_16 : decode cX12_passLine 16 = .ok (.ifCond .ne 5, 3) := by decide +kernel
theorem dF12_passLine_19 : decode cX12_passLine 19 = .ok (.iconst 0, 1) := by decide +kernel
theorem dF12_passLine_20 : decode cX12_passLine 20 = .ok (.ireturn, 1) := by decide +kernel
theorem dF12_passLine_21 : decode cX12_passLine 21 = .ok (.aload_n 0, 1) := by decide +kernel
theorem dF12_passLine_22 : decode cX12_passLine 22 = .ok (.aload_n 0, 1) := by decide +kernel
theorem dF12_passLine_23 : decode cX12_passLine 23 = .ok (.getfield 180, 3) := by decide +kernel
theorem dF12_passLine_26 : decode cX12_passLine 26 = .ok (.aload_n 0, 1) := by decide +kernel
theorem dF12_passLine_27 : decode cX12_passLine 27 = .ok (.getfield 41, 3) := by decide +kernel
theorem dF12_passLine_30 : decode cX12_passLine 30 = .ok (.iconst 1, 1) := by decide +kernel
theorem dF12_passLine_31 : decode cX12_passLine 31 = .ok (.iaload, 1) := by decide +kernel
theorem dF12_passLine_32 : decode cX12_passLine 32 = .ok (.invokestatic 162, 3) := by decide +kernel
theorem dF12_passLine_35 : decode cX12_passLine 35 = .ok (.putfield 180, 3) := by decide +kernel
theorem dF12_passLine_38 : decode cX12_passLine 38 = .ok (.aload_n 0, 1) := by decide +kernel
theorem dF12_passLine_39 : decode cX12_passLine 39 = .ok (.getfield 148, 3) := by decide +kernel
theorem dF12_passLine_42 : decode cX12_passLine 42 = .ok (.ifCond .eq 28, 3) := by decide +kernel
theorem dF12_passLine_45 : decode cX12_passLine 45 = .ok (.aload_n 0, 1) := by decide +kernel
theorem dF12_passLine_46 : decode cX12_passLine 46 = .ok (.getfield 38, 3) := by decide +kernel
theorem dF12_passLine_49 : decode cX12_passLine 49 = .ok (.bipush 31, 2) := by decide +kernel
theorem dF12_passLine_51 : decode cX12_passLine 51 = .ok (.aload_n 0, 1) := by decide +kernel
theorem dF12_passLine_52 : decode cX12_passLine 52 = .ok (.getfield 41, 3) := by decide +kernel
theorem dF12_passLine_55 : decode cX12_passLine 55 = .ok (.iconst 1, 1) := by decide +kernel
theorem dF12_passLine_56 : decode cX12_passLine 56 = .ok (.iaload, 1) := by decide +kernel
theorem dF12_passLine_57 : decode cX12_passLine 57 = .ok (.iadd, 1) := by decide +kernel
theorem dF12_passLine_58 : decode cX12_passLine 58 = .ok (.dup2, 1) := by decide +kernel
theorem dF12_passLine_59 : decode cX12_passLine 59 = .ok (.iaload, 1) := by decide +kernel
theorem dF12_passLine_60 : decode cX12_passLine 60 = .ok (.iconst 1, 1) := by decide +kernel
theorem dF12_passLine_61 : decode cX12_passLine 61 = .ok (.aload_n 0, 1) := by decide +kernel
theorem dF12_passLine_62 : decode cX12_passLine 62 = .ok (.getfield 41, 3) := by decide +kernel
theorem dF12_passLine_65 : decode cX12_passLine 65 = .ok (.iconst 0, 1) := by decide +kernel
theorem dF12_passLine_66 : decode cX12_passLine 66 = .ok (.iaload, 1) := by decide +kernel
theorem dF12_passLine_67 : decode cX12_passLine 67 = .ok (.ishl, 1) := by decide +kernel
theorem dF12_passLine_68 : decode cX12_passLine 68 = .ok (.ior, 1) := by decide +kernel
theorem dF12_passLine_69 : decode cX12_passLine 69 = .ok (.iastore, 1) := by decide +kernel
theorem dF12_passLine_70 : decode cX12_passLine 70 = .ok (.iconst 1, 1) := by decide +kernel
theorem dF12_passLine_71 : decode cX12_passLine 71 = .ok (.ireturn, 1) := by decide +kernel
def is_F12_passLine : Nat → List Nat := fun d => []
set_option maxRecDepth 100000 in
def b_F12_passLine_70 (J : Nat → List qV → List qV → qW → Prop) (Q : qR) : qK := x_int 1 (x_zret Q)
set_option maxRecDepth 100000 in
theorem s_F12_passLine_70 {p : Program} {l : Launch} {e : Env} {R : Room} {s : State} {m : MethodId} {args : Array Value} {below : List Frame} {meth : Method} {c : Code} {nW : Nat} {dC : Nat → ClassId} {dI : Nat → Nat → Nat} {k : Nat → ClassId} {g : Nat → Nat} {A : Nat → Prop} {J : Nat → List qV → List qV → qW → Prop} {Q : qR} (X : q_X p R s m args meth c cX12_passLine 1 nW 4 91 RX12 (some .boolean) dC dI k g A) (hJ : ∀ d : Nat, q_Sd p l e R s m args below meth c 1 nW dC dI k g A (MQ below (q_post (dC, dI) k g nW Q A) args s 0 0 A) d (x_cut (is_F12_passLine d) (J d))) : q_Sd p l e R s m args below meth c 1 nW dC dI k g A (MQ below (q_post (dC, dI) k g nW Q A) args s 0 0 A) 70 (b_F12_passLine_70 J Q) := by
  unfold b_F12_passLine_70
  refine s_iconst X ⟨by decide, by decide⟩ dF12_passLine_70 ?_
  exact s_zret X dF12_passLine_71
set_option maxRecDepth 100000 in
def b_F12_passLine_60 (J : Nat → List qV → List qV → qW → Prop) (Q : qR) : qK := x_int 1 (x_aload 0 (x_get 12 20 (x_int 0 (x_iald (x_ishl (x_ior (x_iast (x_nw (b_F12_passLine_70 J Q)))))))))
set_option maxRecDepth 100000 in
theorem s_F12_passLine_60 {p : Program} {l : Launch} {e : Env} {R : Room} {s : State} {m : MethodId} {args : Array Value} {below : List Frame} {meth : Method} {c : Code} {nW : Nat} {dC : Nat → ClassId} {dI : Nat → Nat → Nat} {k : Nat → ClassId} {g : Nat → Nat} {A : Nat → Prop} {J : Nat → List qV → List qV → qW → Prop} {Q : qR} (X : q_X p R s m args meth c cX12_passLine 1 nW 4 91 RX12 (some .boolean) dC dI k g A) (hJ : ∀ d : Nat, q_Sd p l e R s m args below meth c 1 nW dC dI k g A (MQ below (q_post (dC, dI) k g nW Q A) args s 0 0 A) d (x_cut (is_F12_passLine d) (J d))) : q_Sd p l e R s m args below meth c 1 nW dC dI k g A (MQ below (q_post (dC, dI) k g nW Q A) args s 0 0 A) 60 (b_F12_passLine_60 J Q) := by
  unfold b_F12_passLine_60
  refine s_iconst X ⟨by decide, by decide⟩ dF12_passLine_60 ?_
  refine s_aload_n X rfl dF12_passLine_61 ?_
  refine s_get X (T := TX12) (C := RX12) (N := 45) tu_X12 rfl (by decide) tw_1017 dF12_passLine_62 ?_
  refine s_iconst X ⟨by decide, by decide⟩ dF12_passLine_65 ?_
  refine s_iald X dF12_passLine_66 ?_
  refine s_ishl X dF12_passLine_67 ?_
  refine s_ior X dF12_passLine_68 ?_
  refine s_iast X dF12_passLine_69 ?_
  refine s_nw ?_
  exact s_F12_passLine_70 X hJ
set_option maxRecDepth 100000 in
def b_F12_passLine_19 (J : Nat → List qV → List qV → qW → Prop) (Q : qR) : qK := x_int 0 (x_zret Q)
set_option maxRecDepth 100000 in
theorem s_F12_passLine_19 {p : Program} {l : Launch} {e : Env} {R : Room} {s : State} {m : MethodId} {args : Array Value} {below : List Frame} {meth : Method} {c : Code} {nW : Nat} {dC : Nat → ClassId} {dI : Nat → Nat → Nat} {k : Nat → ClassId} {g : Nat → Nat} {A : Nat → Prop} {J : Nat → List qV → List qV → qW → Prop} {Q : qR} (X : q_X p R s m args meth c cX12_passLine 1 nW 4 91 RX12 (some .boolean) dC dI k g A) (hJ : ∀ d : Nat, q_Sd p l e R s m args below meth c 1 nW dC dI k g A (MQ below (q_post (dC, dI) k g nW Q A) args s 0 0 A) d (x_cut (is_F12_passLine d) (J d))) : q_Sd p l e R s m args below meth c 1 nW dC dI k g A (MQ below (q_post (dC, dI) k g nW Q A) args s 0 0 A) 19 (b_F12_passLine_19 J Q) := by
  unfold b_F12_passLine_19
  refine s_iconst X ⟨by decide, by decide⟩ dF12_passLine_19 ?_
  exact s_zret X dF12_passLine_20
set_option maxRecDepth 100000 in
def b_F12_passLine_0 (J : Nat → List qV → List qV → qW → Prop) (Q : qR) : qK := x_aload 0 (x_int 0 (x_int (-1) (x_call (some 12) 3 sp_F12_takePerson (x_nw (x_if_eq (b_F12_passLine_19 J Q) (x_aload 0 (x_int 1 (x_int 0 (x_int 5 (x_call (some 12) 4 sp_F12_take (x_nw (x_if_ne (x_aload 0 (x_aload 0 (x_get 12 22 (x_aload 0 (x_get 12 20 (x_int 1 (x_iald (x_callr none 2 spr_X12_greater (x_put 12 22 q_oki (x_nw (x_aload 0 (x_get 12 23 (x_if_eq (b_F12_passLine_70 J Q) (x_aload 0 (x_get 12 19 (x_int 31 (x_aload 0 (x_get 12 20 (x_int 1 (x_iald (x_iadd (x_dup2 (x_iald (b_F12_passLine_60 J Q)))))))))))))))))))))))) (b_F12_passLine_19 J Q)))))))))))))
set_option maxRecDepth 100000 in
theorem s_F12_passLine_0 {p : Program} {l : Launch} {e : Env} {R : Room} {s : State} {m : MethodId} {args : Array Value} {below : List Frame} {meth : Method} {c : Code} {nW : Nat} {dC : Nat → ClassId} {dI : Nat → Nat → Nat} {k : Nat → ClassId} {g : Nat → Nat} {A : Nat → Prop} {J : Nat → List qV → List qV → qW → Prop} {Q : qR} (X : q_X p R s m args meth c cX12_passLine 1 nW 4 91 RX12 (some .boolean) dC dI k g A) (hJ : ∀ d : Nat, q_Sd p l e R s m args below meth c 1 nW dC dI k g A (MQ below (q_post (dC, dI) k g nW Q A) args s 0 0 A) d (x_cut (is_F12_passLine d) (J d))) : q_Sd p l e R s m args below meth c 1 nW dC dI k g A (MQ below (q_post (dC, dI) k g nW Q A) args s 0 0 A) 0 (b_F12_passLine_0 J Q) := by
  unfold b_F12_passLine_0
  refine s_aload_n X rfl dF12_passLine_0 ?_
  refine s_iconst X ⟨by decide, by decide⟩ dF12_passLine_1 ?_
  refine s_iconst X ⟨by decide, by decide⟩ dF12_passLine_2 ?_
  refine s_callV X (m_F12_takePerson l) tw_1115 tw_1116 tw_1624 tw_134 tw_1117 rfl (by decide +kernel) ⟨by decide, by decide⟩ dF12_passLine_3 ?_
  refine s_nw ?_
  refine s_if_eq X (tgt := 19) dF12_passLine_6 (by decide) ?_ ?_
  · exact s_F12_passLine_19 X hJ
  · refine s_aload_n X rfl dF12_passLine_9 ?_
    refine s_iconst X ⟨by decide, by decide⟩ dF12_passLine_10 ?_
    refine s_iconst X ⟨by decide, by decide⟩ dF12_passLine_11 ?_
    refine s_iconst X ⟨by decide, by decide⟩ dF12_passLine_12 ?_
    refine s_callV X (m_F12_take l) tw_1097 tw_1098 tw_1621 tw_134 tw_1099 rfl (by decide +kernel) ⟨by decide, by decide⟩ dF12_passLine_13 ?_
    refine s_nw ?_
    refine s_if_ne X (tgt := 21) dF12_passLine_16 (by decide) ?_ ?_
    · refine s_aload_n X rfl dF12_passLine_21 ?_
      refine s_aload_n X rfl dF12_passLine_22 ?_
      refine s_get X (T := TX12) (C := RX12) (N := 45) tu_X12 rfl (by decide) tw_1019 dF12_passLine_23 ?_
      refine s_aload_n X rfl dF12_passLine_26 ?_
      refine s_get X (T := TX12) (C := RX12) (N := 45) tu_X12 rfl (by decide) tw_1017 dF12_passLine_27 ?_
      refine s_iconst X ⟨by decide, by decide⟩ dF12_passLine_30 ?_
      refine s_iald X dF12_passLine_31 ?_
      refine s_callSr X (m_X12_greater l) tw_1118 tw_1119 tw_134 tw_1120 (by decide +kernel) ⟨by decide, by decide⟩ dF12_passLine_32 ?_
      refine s_put X (T := TX12) (C := RX12) (N := 45) tu_X12 tyX12_ok nmX12 rfl (by decide) tw_1019 rfl (by decide +kernel) q_oki_t dF12_passLine_35 ?_
      refine s_nw ?_
      refine s_aload_n X rfl dF12_passLine_38 ?_
      refine s_get X (T := TX12) (C := RX12) (N := 45) tu_X12 rfl (by decide) tw_1020 dF12_passLine_39 ?_
      refine s_if_eq X (tgt := 70) dF12_passLine_42 (by decide) ?_ ?_
      · exact s_F12_passLine_70 X hJ
      · refine s_aload_n X rfl dF12_passLine_45 ?_
        refine s_get X (T := TX12) (C := RX12) (N := 45) tu_X12 rfl (by decide) tw_1016 dF12_passLine_46 ?_
        refine s_bipush X ⟨by decide, by decide⟩ (by decide) dF12_passLine_49 ?_
        refine s_aload_n X rfl dF12_passLine_51 ?_
        refine s_get X (T := TX12) (C := RX12) (N := 45) tu_X12 rfl (by decide) tw_1017 dF12_passLine_52 ?_
        refine s_iconst X ⟨by decide, by decide⟩ dF12_passLine_55 ?_
        refine s_iald X dF12_passLine_56 ?_
        refine s_iadd X dF12_passLine_57 ?_
        refine s_dup2 X dF12_passLine_58 ?_
        refine s_iald X dF12_passLine_59 ?_
        exact s_F12_passLine_60 X hJ
    · exact s_F12_passLine_19 X hJ

def sp_F12_passLine : qS := fun av w Q => ∃ (mco : Int) (mre : Int) (mle : Int) (mbe : Int) (mso : Int) (mva : Int) (mwo : Int) (mwr : Int) (mlf : Int) (mlp : Int) (mfp : Int) (mfd : Int) (mgo : Int) (mbo : Int) (mpe : Int) (mye : Int) (mpr : Int) (mld : Int) (msi : Int) (mse : Int) (tp : Nat → Int) (re : Nat → Int) (td : Nat → Int) (gw : Int) (gp : Int) (gf : Int) (gq : Int) (gD : Nat → Int) (gfp : Int) (gfd : Int), av = [q2 0] ∧ w = [.inr (12, [q1 mco, q2 1, q2 4, q2 5, q2 6, q2 7, q2 8, q2 9, q2 10, q2 11, q1 mre, q1 mle, q1 mbe, q1 mso, q1 mva, q3 mwo, q1 mwr, q1 mlf, q1 mlp, q2 3, q2 2, q1 mfp, q1 mfd, q1 mgo, q1 mbo, q1 mpe, q1 mye, q2 12, q1 mpr, q2 13, q2 14, q2 15, q2 16, q1 mld, q2 17, q1 msi, q2 18, q2 19, q2 20, q2 21, q2 22, q1 mse, q2 23, q2 24, q2 25]), .inl (1, 2400, .inl tp), .inl (0, 4, .inl re), .inl (0, 161, .inl td)] ∧ (0 ≤ mre ∧ mre ≤ mle ∧ mle ≤ 600) ∧ (BT td 0) ∧ (gw = 6) ∧ (SlM (tc tp) mle gw gp gf gq 0 mre mbe mso mva mwo mlf mlp mgo) ∧ (TdR (gf = 0) gD gfp gfd td mfp mfd) ∧ (∀ (r : Int) (x_mre : Int) (x_mbe : Int) (x_mso : Int) (x_mva : Int) (x_mwo : Int) (x_mwr : Int) (x_mlf : Int) (x_mlp : Int) (x_mgo : Int) (x_re : Nat → Int) (x_td : Nat → Int) (x_mfp : Int) (x_mfd : Int), ((r = 0 ∨ r = 1 ∧ (x_mso = 0 ∨ mre < x_mre)) ∧ mre ≤ x_mre ∧ x_mre ≤ mle ∧ BT x_td 0 ∧ LnM (tc tp) mle gw gp gf gq gD gfp gfd r x_mre x_mbe x_mso x_mva x_mwo x_mwr x_mlf x_mlp x_mgo x_td x_mfp x_mfd) → Q (some (q1 r)) ([.inr (12, [q1 mco, q2 1, q2 4, q2 5, q2 6, q2 7, q2 8, q2 9, q2 10, q2 11, q1 x_mre, q1 mle, q1 x_mbe, q1 x_mso, q1 x_mva, q3 x_mwo, q1 x_mwr, q1 x_mlf, q1 x_mlp, q2 3, q2 2, q1 x_mfp, q1 x_mfd, q1 x_mgo, q1 mbo, q1 mpe, q1 mye, q2 12, q1 mpr, q2 13, q2 14, q2 15, q2 16, q1 mld, q2 17, q1 msi, q2 18, q2 19, q2 20, q2 21, q2 22, q1 mse, q2 23, q2 24, q2 25]), .inl (1, 2400, .inl tp), .inl (0, 4, .inl x_re), .inl (0, 161, .inl x_td)]))
set_option maxHeartbeats 4000000 in
set_option maxRecDepth 100000 in
theorem m_F12_passLine (l : Launch) : q_M l yX12_passLine cX12_passLine 1 (some .boolean) 4 91 sp_F12_passLine := by
  refine q_meth (by decide) (fun av w Q h => by obtain ⟨mco, mre, mle, mbe, mso, mva, mwo, mwr, mlf, mlp, mfp, mfd, mgo, mbo, mpe, mye, mpr, mld, msi, mse, tp, re, td, gw, gp, gf, gq, gD, gfp, gfd, rfl, rfl, htp, hbt, hgw, hS, hT, hQ⟩ := h; exact Nat.le_of_ble_eq_true rfl) ?_
  intro p e R s m args below meth c dC dI k g A av w Q hsp oka okw X
  obtain ⟨mco, mre, mle, mbe, mso, mva, mwo, mwr, mlf, mlp, mfp, mfd, mgo, mbo, mpe, mye, mpr, mld, msi, mse, tp, re, td, gw, gp, gf, gq, gD, gfp, gfd, rfl, rfl, htp, hbt, hgw, hS, hT, hQ⟩ := hsp
  refine s_mono (s_F12_passLine_0 X (J := fun _ _ _ _ => False) (fun d => s_cutF)) ?_
  rintro lv st w' ⟨rfl, rfl, rfl⟩
  subst hgw
  refine Exists.intro [0, 1, 2, 4, 5, 6, 7, 8, 9, 10, 11, 3, 12, 13, 14, 15, 16, 17, 18, 19, 20, 21, 22, 23, 24, 25] (Exists.intro [q2 0, q1 _, q1 _] (Exists.intro ([.inr (12, [q1 _, q2 1, q2 3, q2 4, q2 5, q2 6, q2 7, q2 8, q2 9, q2 10, q1 _, q1 _, q1 _, q1 _, q1 _, q3 _, q1 _, q1 _, q1 _, q2 11, q2 2, q1 _, q1 _, q1 _, q1 _, q1 _, q1 _, q2 12, q1 _, q2 13, q2 14, q2 15, q2 16, q1 _, q2 17, q1 _, q2 18, q2 19, q2 20, q2 21, q2 22, q1 _, q2 23, q2 24, q2 25]), .inl (1, 2400, .inl _), .inl (0, 4, .inl _)]) (And.intro rfl (And.intro rfl (And.intro rfl (And.intro ⟨⟨_, rfl⟩, rfl⟩ ?_))))))
  refine Exists.intro _ (Exists.intro _ (Exists.intro _ (Exists.intro _ (Exists.intro _ (Exists.intro _ (Exists.intro _ (Exists.intro _ (Exists.intro _ (Exists.intro _ (Exists.intro _ (Exists.intro _ (Exists.intro _ (Exists.intro _ (Exists.intro _ (Exists.intro _ (Exists.intro _ (Exists.intro _ (Exists.intro _ (Exists.intro _ (Exists.intro _ (Exists.intro _ (Exists.intro _ (Exists.intro _ (Exists.intro _ (Exists.intro _ (Exists.intro _ (Exists.intro _ (Exists.intro _ (And.intro rfl (And.intro rfl (And.intro (by first | omega | assumption | exact q_rg_up (by assumption) (by omega) | exact q_rg_up (q_rg_up (by assumption) (by omega)) (by omega) | exact q_rg_cpy (by assumption) (by assumption)) (And.intro (by decide) (And.intro hS (And.intro (by decide) (And.intro ⟨by decide, by decide⟩ (And.intro (Or.inr ⟨by decide, rfl⟩) (?_)))))))))))))))))))))))))))))))))))))
  intro zq_3 x_mre_3 x_mbe_3 x_mso_3 x_mva_3 x_mwo_3 x_mwr_3 x_mlf_3 x_mlp_3 x_mgo_3 x_re_3 x_mfp_3 hq_3
  apply And.intro
  · intro hq_6
    apply And.intro
    · first | exact Or.inl rfl | exact Or.inr rfl | omega
    exact hQ _ _ _ _ _ _ _ _ _ _ _ _ _ _ ⟨by omega, by omega, by omega, (by first | assumption | exact BT_up hbt (by omega)), (by first | exact LnM_0 hS (by decide) (by decide) (dj0 hq_3.2.2.2.1 hq_6) | exact LnM_0 (dj1 hq_3.2.2.2.1 hq_6).1 (by decide) (by decide) (dj0 hq_13.2.2.2 hq_16) | exact LnM_1 (SlM_z (dj1 hq_13.2.2.2 hq_16).1 (by decide)) (fun q9 => (SlM_go (SlM_z (dj1 hq_13.2.2.2 hq_16).1 (by decide)) hq_42 q9).elim) | exact LnM_1 (SlM_z (dj1 hq_13.2.2.2 hq_16).1 (by decide)) (fun q9 => ⟨tl_6 (hT (lfa_m q9)).1 (by omega) (po_v hq_67 hq_68 (hq_59.trans ((congrArg td (by omega)).trans ((hT (lfa_m q9)).1 (31 + lvs (tc tp) mle 6 gp 1).toNat (by omega)))) (by rw [hq_66, (dj1 hq_13.2.2.2 hq_16).2, q_up_n (by decide), (dj1 hq_3.2.2.2.1 hq_6).2]; exact q_up_s)), (by rw [fpN_1 (by decide), ← (hT (lfa_m q9)).2.1]; exact (hq_3.2.2.2.2 (by omega))), (by rw [fdN_6, ← (hT (lfa_m q9)).2.2]; omega)⟩))⟩
  · intro hq_6
    refine Exists.intro [0, 1, 2, 4, 5, 6, 7, 8, 9, 10, 11, 3, 12, 13, 14, 15, 16, 17, 18, 19, 20, 21, 22, 23, 24, 25] (Exists.intro [q2 0, q1 _, q1 _, q1 _] (Exists.intro ([.inr (12, [q1 _, q2 1, q2 3, q2 4, q2 5, q2 6, q2 7, q2 8, q2 9, q2 10, q1 _, q1 _, q1 _, q1 _, q1 _, q3 _, q1 _, q1 _, q1 _, q2 11, q2 2, q1 _, q1 _, q1 _, q1 _, q1 _, q1 _, q2 12, q1 _, q2 13, q2 14, q2 15, q2 16, q1 _, q2 17, q1 _, q2 18, q2 19, q2 20, q2 21, q2 22, q1 _, q2 23, q2 24, q2 25]), .inl (1, 2400, .inl _), .inl (0, 4, .inl _)]) (And.intro rfl (And.intro rfl (And.intro rfl (And.intro ⟨⟨_, rfl⟩, rfl⟩ ?_))))))
    refine Exists.intro _ (Exists.intro _ (Exists.intro _ (Exists.intro _ (Exists.intro _ (Exists.intro _ (Exists.intro _ (Exists.intro _ (Exists.intro _ (Exists.intro _ (Exists.intro _ (Exists.intro _ (Exists.intro _ (Exists.intro _ (Exists.intro _ (Exists.intro _ (Exists.intro _ (Exists.intro _ (Exists.intro _ (Exists.intro _ (Exists.intro _ (Exists.intro _ (Exists.intro _ (Exists.intro _ (Exists.intro _ (Exists.intro _ (Exists.intro _ (Exists.intro _ (Exists.intro _ (Exists.intro _ (And.intro rfl (And.intro rfl (And.intro (by first | omega | assumption | exact q_rg_up (by assumption) (by omega) | exact q_rg_up (q_rg_up (by assumption) (by omega)) (by omega) | exact q_rg_cpy (by assumption) (by assumption)) (And.intro (by decide) (And.intro (dj1 hq_3.2.2.2.1 hq_6).1 (And.intro (by decide) (And.intro ⟨by decide, by decide⟩ (And.intro (by decide) (?_))))))))))))))))))))))))))))))))))))))
    intro zq_13 x_mre_13 x_mbe_13 x_mso_13 x_mva_13 x_mwo_13 x_mwr_13 x_mlf_13 x_mlp_13 x_mgo_13 x_re_13 hq_13
    apply And.intro
    · intro hq_16
      apply And.intro
      · exact ⟨by omega, by omega⟩
      intro zq_31 hq_31
      have e31 : zq_31 = lvs (tc tp) mle 6 gp 1 := (by rw [hq_31, (dj1 hq_13.2.2.2 hq_16).2]; exact q_up_s)
      refine Exists.intro [] (Exists.intro [q1 _, q1 _] (Exists.intro [] (And.intro rfl (And.intro rfl (And.intro rfl (And.intro trivial ?_))))))
      refine Exists.intro _ (Exists.intro _ (And.intro rfl (And.intro rfl (?_))))
      intro zq_32 hq_32
      apply And.intro
      · exact trivial
      apply And.intro
      · intro hq_42
        apply And.intro
        · first | exact Or.inl rfl | exact Or.inr rfl | omega
        exact hQ _ _ _ _ _ _ _ _ _ _ _ _ _ _ ⟨by omega, by omega, by omega, (by first | assumption | exact BT_up hbt (by omega)), (by first | exact LnM_0 hS (by decide) (by decide) (dj0 hq_3.2.2.2.1 hq_6) | exact LnM_0 (dj1 hq_3.2.2.2.1 hq_6).1 (by decide) (by decide) (dj0 hq_13.2.2.2 hq_16) | exact LnM_1 (SlM_z (dj1 hq_13.2.2.2 hq_16).1 (by decide)) (fun q9 => (SlM_go (SlM_z (dj1 hq_13.2.2.2 hq_16).1 (by decide)) hq_42 q9).elim) | exact LnM_1 (SlM_z (dj1 hq_13.2.2.2 hq_16).1 (by decide)) (fun q9 => ⟨tl_6 (hT (lfa_m q9)).1 (by omega) (po_v hq_67 hq_68 (hq_59.trans ((congrArg td (by omega)).trans ((hT (lfa_m q9)).1 (31 + lvs (tc tp) mle 6 gp 1).toNat (by omega)))) (by rw [hq_66, (dj1 hq_13.2.2.2 hq_16).2, q_up_n (by decide), (dj1 hq_3.2.2.2.1 hq_6).2]; exact q_up_s)), (by rw [fpN_1 (by decide), ← (hT (lfa_m q9)).2.1]; exact (hq_3.2.2.2.2 (by omega))), (by rw [fdN_6, ← (hT (lfa_m q9)).2.2]; omega)⟩))⟩
      · intro hq_42
        have r9 := SlM_rg (dj1 hq_13.2.2.2 hq_16).1 hq_42 0 (by decide) (by decide) (a := 0) (b := 7) (by decide) (by decide)
        have s9 := SlM_rg (dj1 hq_13.2.2.2 hq_16).1 hq_42 1 (by decide) (by decide) (a := 0) (b := 5) (by decide) (by decide)
        apply And.intro
        · exact ⟨by omega, by omega⟩
        intro zq_56 hq_56
        have e56 : zq_56 = lvs (tc tp) mle 6 gp 1 := (by rw [hq_56, (dj1 hq_13.2.2.2 hq_16).2]; exact q_up_s)
        intro zq_57 hq_57
        first | replace hq_57 := e_add hq_57 (by omega) | replace hq_57 := e_rng hq_57
        apply And.intro
        · exact ⟨by omega, by omega⟩
        intro zq_59 hq_59
        apply And.intro
        · exact ⟨by omega, by omega⟩
        intro zq_66 hq_66
        intro zq_67 hq_67
        skip
        intro zq_68 hq_68
        skip
        apply And.intro
        · exact ⟨by omega, by omega⟩
        apply And.intro
        · first | exact Or.inl rfl | exact Or.inr rfl | omega
        exact hQ _ _ _ _ _ _ _ _ _ _ _ _ _ _ ⟨by omega, by omega, by omega, (by first | assumption | exact BT_up hbt (by omega)), (by first | exact LnM_0 hS (by decide) (by decide) (dj0 hq_3.2.2.2.1 hq_6) | exact LnM_0 (dj1 hq_3.2.2.2.1 hq_6).1 (by decide) (by decide) (dj0 hq_13.2.2.2 hq_16) | exact LnM_1 (SlM_z (dj1 hq_13.2.2.2 hq_16).1 (by decide)) (fun q9 => (SlM_go (SlM_z (dj1 hq_13.2.2.2 hq_16).1 (by decide)) hq_42 q9).elim) | exact LnM_1 (SlM_z (dj1 hq_13.2.2.2 hq_16).1 (by decide)) (fun q9 => ⟨tl_6 (hT (lfa_m q9)).1 (by omega) (po_v hq_67 hq_68 (hq_59.trans ((congrArg td (by omega)).trans ((hT (lfa_m q9)).1 (31 + lvs (tc tp) mle 6 gp 1).toNat (by omega)))) (by rw [hq_66, (dj1 hq_13.2.2.2 hq_16).2, q_up_n (by decide), (dj1 hq_3.2.2.2.1 hq_6).2]; exact q_up_s)), (by rw [fpN_1 (by decide), ← (hT (lfa_m q9)).2.1]; exact (hq_3.2.2.2.2 (by omega))), (by rw [fdN_6, ← (hT (lfa_m q9)).2.2]; omega)⟩))⟩
    · intro hq_16
      apply And.intro
      · first | exact Or.inl rfl | exact Or.inr rfl | omega
      exact hQ _ _ _ _ _ _ _ _ _ _ _ _ _ _ ⟨by omega, by omega, by omega, (by first | assumption | exact BT_up hbt (by omega)), (by first | exact LnM_0 hS (by decide) (by decide) (dj0 hq_3.2.2.2.1 hq_6) | exact LnM_0 (dj1 hq_3.2.2.2.1 hq_6).1 (by decide) (by decide) (dj0 hq_13.2.2.2 hq_16) | exact LnM_1 (SlM_z (dj1 hq_13.2.2.2 hq_16).1 (by decide)) (fun q9 => (SlM_go (SlM_z (dj1 hq_13.2.2.2 hq_16).1 (by decide)) hq_42 q9).elim) | exact LnM_1 (SlM_z (dj1 hq_13.2.2.2 hq_16).1 (by decide)) (fun q9 => ⟨tl_6 (hT (lfa_m q9)).1 (by omega) (po_v hq_67 hq_68 (hq_59.trans ((congrArg td (by omega)).trans ((hT (lfa_m q9)).1 (31 + lvs (tc tp) mle 6 gp 1).toNat (by omega)))) (by rw [hq_66, (dj1 hq_13.2.2.2 hq_16).2, q_up_n (by decide), (dj1 hq_3.2.2.2.1 hq_6).2]; exact q_up_s)), (by rw [fpN_1 (by decide), ← (hT (lfa_m q9)).2.1]; exact (hq_3.2.2.2.2 (by omega))), (by rw [fdN_6, ← (hT (lfa_m q9)).2.2]; omega)⟩))⟩

theorem dF12_costLine_0 : decode cX12_costLine 0 = .ok (.aload_n 0, 1) := by decide +kernel
theorem dF12_costLine_1 : decode cX12_costLine 1 = .ok (.iconst 0, 1) := by decide +kernel
theorem dF12_costLine_2 : decode cX12_costLine 2 = .ok (.invokevirtual 183, 3) := by decide +kernel
theorem dF12_costLine_5 : decode cX12_costLine 5 = .ok (.ifCond .eq 14, 3) := by decide +kernel
theorem dF12_costLine_8 : decode cX12_costLine 8 = .ok (.aload_n 0, 1) := by decide +kernel
theorem dF12_costLine_9 : decode cX12_costLine 9 = .ok (.iconst 1, 1) := by decide +kernel
theorem dF12_costLine_10 : decode cX12_costLine 10 = .ok (.iconst 1, 1) := by decide +kernel
theorem dF12_costLine_11 : decode cX12_costLine 11 = .ok (.bipush 9, 2) := by decide +kernel
theorem dF12_costLine_13 : decode cX12_costLine 13 = .ok (.invokevirtual 174, 3) := by decide +kernel
theorem dF12_costLine_16 : decode cX12_costLine 16 = .ok (.ifCond .ne 5, 3) := by decide +kernel
theorem dF12_costLine_19 : decode cX12_costLine 19 = .ok (.iconst 0, 1) := by decide +kernel
theorem dF12_costLine_20 : decode cX12_costLine 20 = .ok (.ireturn, 1) := by decide +kernel
theorem dF12_costLine_21 : decode cX12_costLine 21 = .ok (.aload_n 0, 1) := by decide +kernel
theorem dF12_costLine_22 : decode cX12_costLine 22 = .ok (.getfield 148, 3) := by decide +kernel
theorem dF12_costLine_25 : decode cX12_costLine 25 = .ok (.ifCond .eq 23, 3) := by decide +kernel
theorem dF12_costLine_28 : decode cX12_costLine 28 = .ok (.aload_n 0, 1) := by decide +kernel
theorem dF12_costLine_29 : decode cX12_costLine 29 = .ok (.getfield 38, 3) := by decide +kernel
theorem dF12_costLine_32 : decode cX12_costLine 32 = .ok (.bipush 21, 2) := by decide +kernel
theorem dF12_costLine_34 : decode cX12_costLine 34 = .ok (.aload_n 0, 1) := by decide +kernel
theorem dF12_costLine_35 : decode cX12_costLine 35 = .ok (.getfield 41, 3) := by decide +kernel
theorem dF12_costLine_38 : decode cX12_costLine 38 = .ok (.iconst 0, 1) := by decide +kernel
theorem dF12_costLine_39 : decode cX12_costLine 39 = .ok (.iaload, 1) := by decide +kernel
theorem dF12_costLine_40 : decode cX12_costLine 40 = .ok (.iadd, 1) := by decide +kernel
theorem dF12_costLine_41 : decode cX12_costLine 41 = .ok (.aload_n 0, 1) := by decide +kernel
theorem dF12_costLine_42 : decode cX12_costLine 42 = .ok (.getfield 41, 3) := by decide +kernel
theorem dF12_costLine_45 : decode cX12_costLine 45 = .ok (.iconst 1, 1) := by decide +kernel
theorem dF12_costLine_46 : decode cX12_costLine 46 = .ok (.iaload, 1) := by decide +kernel
theorem dF12_costLine_47 : decode cX12_costLine 47 = .ok (.iastore, 1) := by decide +kernel
theorem dF12_costLine_48 : decode cX12_costLine 48 = .ok (.iconst 1, 1) := by decide +kernel
theorem dF12_costLine_49 : decode cX12_costLine 49 = .ok (.ireturn, 1) := by decide +kernel
def is_F12_costLine : Nat → List Nat := fun d => []
set_option maxRecDepth 100000 in
def b_F12_costLine_48 (J : Nat → List qV → List qV → qW → Prop) (Q : qR) : qK := x_int 1 (x_zret Q)
set_option maxRecDepth 100000 in
theorem s_F12_costLine_48 {p : Program} {l : Launch} {e : Env} {R : Room} {s : State} {m : MethodId} {args : Array Value} {below : List Frame} {meth : Method} {c : Code} {nW : Nat} {dC : Nat → ClassId} {dI : Nat → Nat → Nat} {k : Nat → ClassId} {g : Nat → Nat} {A : Nat → Prop} {J : Nat → List qV → List qV → qW → Prop} {Q : qR} (X : q_X p R s m args meth c cX12_costLine 1 nW 4 91 RX12 (some .boolean) dC dI k g A) (hJ : ∀ d : Nat, q_Sd p l e R s m args below meth c 1 nW dC dI k g A (MQ below (q_post (dC, dI) k g nW Q A) args s 0 0 A) d (x_cut (is_F12_costLine d) (J d))) : q_Sd p l e R s m args below meth c 1 nW dC dI k g A (MQ below (q_post (dC, dI) k g nW Q A) args s 0 0 A) 48 (b_F12_costLine_48 J Q) := by
  unfold b_F12_costLine_48
  refine s_iconst X ⟨by decide, by decide⟩ dF12_costLine_48 ?_
  exact s_zret X dF12_costLine_49
set_option maxRecDepth 100000 in
def b_F12_costLine_19 (J : Nat → List qV → List qV → qW → Prop) (Q : qR) : qK := x_int 0 (x_zret Q)
set_option maxRecDepth 100000 in
theorem s_F12_costLine_19 {p : Program} {l : Launch} {e : Env} {R : Room} {s : State} {m : MethodId} {args : Array Value} {below : List Frame} {meth : Method} {c : Code} {nW : Nat} {dC : Nat → ClassId} {dI : Nat → Nat → Nat} {k : Nat → ClassId} {g : Nat → Nat} {A : Nat → Prop} {J : Nat → List qV → List qV → qW → Prop} {Q : qR} (X : q_X p R s m args meth c cX12_costLine 1 nW 4 91 RX12 (some .boolean) dC dI k g A) (hJ : ∀ d : Nat, q_Sd p l e R s m args below meth c 1 nW dC dI k g A (MQ below (q_post (dC, dI) k g nW Q A) args s 0 0 A) d (x_cut (is_F12_costLine d) (J d))) : q_Sd p l e R s m args below meth c 1 nW dC dI k g A (MQ below (q_post (dC, dI) k g nW Q A) args s 0 0 A) 19 (b_F12_costLine_19 J Q) := by
  unfold b_F12_costLine_19
  refine s_iconst X ⟨by decide, by decide⟩ dF12_costLine_19 ?_
  exact s_zret X dF12_costLine_20
set_option maxRecDepth 100000 in
def b_F12_costLine_0 (J : Nat → List qV → List qV → qW → Prop) (Q : qR) : qK := x_aload 0 (x_int 0 (x_call (some 12) 2 sp_F12_takeOffence (x_nw (x_if_eq (b_F12_costLine_19 J Q) (x_aload 0 (x_int 1 (x_int 1 (x_int 9 (x_call (some 12) 4 sp_F12_take (x_nw (x_if_ne (x_aload 0 (x_get 12 23 (x_if_eq (b_F12_costLine_48 J Q) (x_aload 0 (x_get 12 19 (x_int 21 (x_aload 0 (x_get 12 20 (x_int 0 (x_iald (x_iadd (x_aload 0 (x_get 12 20 (x_int 1 (x_iald (x_iast (x_nw (b_F12_costLine_48 J Q)))))))))))))))))) (b_F12_costLine_19 J Q))))))))))))
set_option maxRecDepth 100000 in
theorem s_F12_costLine_0 {p : Program} {l : Launch} {e : Env} {R : Room} {s : State} {m : MethodId} {args : Array Value} {below : List Frame} {meth : Method} {c : Code} {nW : Nat} {dC : Nat → ClassId} {dI : Nat → Nat → Nat} {k : Nat → ClassId} {g : Nat → Nat} {A : Nat → Prop} {J : Nat → List qV → List qV → qW → Prop} {Q : qR} (X : q_X p R s m args meth c cX12_costLine 1 nW 4 91 RX12 (some .boolean) dC dI k g A) (hJ : ∀ d : Nat, q_Sd p l e R s m args below meth c 1 nW dC dI k g A (MQ below (q_post (dC, dI) k g nW Q A) args s 0 0 A) d (x_cut (is_F12_costLine d) (J d))) : q_Sd p l e R s m args below meth c 1 nW dC dI k g A (MQ below (q_post (dC, dI) k g nW Q A) args s 0 0 A) 0 (b_F12_costLine_0 J Q) := by
  unfold b_F12_costLine_0
  refine s_aload_n X rfl dF12_costLine_0 ?_
  refine s_iconst X ⟨by decide, by decide⟩ dF12_costLine_1 ?_
  refine s_callV X (m_F12_takeOffence l) tw_1133 tw_1134 tw_1623 tw_134 tw_1135 rfl (by decide +kernel) ⟨by decide, by decide⟩ dF12_costLine_2 ?_
  refine s_nw ?_
  refine s_if_eq X (tgt := 19) dF12_costLine_5 (by decide) ?_ ?_
  · exact s_F12_costLine_19 X hJ
  · refine s_aload_n X rfl dF12_costLine_8 ?_
    refine s_iconst X ⟨by decide, by decide⟩ dF12_costLine_9 ?_
    refine s_iconst X ⟨by decide, by decide⟩ dF12_costLine_10 ?_
    refine s_bipush X ⟨by decide, by decide⟩ (by decide) dF12_costLine_11 ?_
    refine s_callV X (m_F12_take l) tw_1097 tw_1098 tw_1621 tw_134 tw_1099 rfl (by decide +kernel) ⟨by decide, by decide⟩ dF12_costLine_13 ?_
    refine s_nw ?_
    refine s_if_ne X (tgt := 21) dF12_costLine_16 (by decide) ?_ ?_
    · refine s_aload_n X rfl dF12_costLine_21 ?_
      refine s_get X (T := TX12) (C := RX12) (N := 45) tu_X12 rfl (by decide) tw_1020 dF12_costLine_22 ?_
      refine s_if_eq X (tgt := 48) dF12_costLine_25 (by decide) ?_ ?_
      · exact s_F12_costLine_48 X hJ
      · refine s_aload_n X rfl dF12_costLine_28 ?_
        refine s_get X (T := TX12) (C := RX12) (N := 45) tu_X12 rfl (by decide) tw_1016 dF12_costLine_29 ?_
        refine s_bipush X ⟨by decide, by decide⟩ (by decide) dF12_costLine_32 ?_
        refine s_aload_n X rfl dF12_costLine_34 ?_
        refine s_get X (T := TX12) (C := RX12) (N := 45) tu_X12 rfl (by decide) tw_1017 dF12_costLine_35 ?_
        refine s_iconst X ⟨by decide, by decide⟩ dF12_costLine_38 ?_
        refine s_iald X dF12_costLine_39 ?_
        refine s_iadd X dF12_costLine_40 ?_
        refine s_aload_n X rfl dF12_costLine_41 ?_
        refine s_get X (T := TX12) (C := RX12) (N := 45) tu_X12 rfl (by decide) tw_1017 dF12_costLine_42 ?_
        refine s_iconst X ⟨by decide, by decide⟩ dF12_costLine_45 ?_
        refine s_iald X dF12_costLine_46 ?_
        refine s_iast X dF12_costLine_47 ?_
        refine s_nw ?_
        exact s_F12_costLine_48 X hJ
    · exact s_F12_costLine_19 X hJ

def sp_F12_costLine : qS := fun av w Q => ∃ (mco : Int) (mre : Int) (mle : Int) (mbe : Int) (mso : Int) (mva : Int) (mwo : Int) (mwr : Int) (mlf : Int) (mlp : Int) (mfp : Int) (mfd : Int) (mgo : Int) (mbo : Int) (mpe : Int) (mye : Int) (mpr : Int) (mld : Int) (msi : Int) (mse : Int) (tp : Nat → Int) (re : Nat → Int) (td : Nat → Int) (gw : Int) (gp : Int) (gf : Int) (gq : Int) (gD : Nat → Int) (gfp : Int) (gfd : Int), av = [q2 0] ∧ w = [.inr (12, [q1 mco, q2 1, q2 4, q2 5, q2 6, q2 7, q2 8, q2 9, q2 10, q2 11, q1 mre, q1 mle, q1 mbe, q1 mso, q1 mva, q3 mwo, q1 mwr, q1 mlf, q1 mlp, q2 3, q2 2, q1 mfp, q1 mfd, q1 mgo, q1 mbo, q1 mpe, q1 mye, q2 12, q1 mpr, q2 13, q2 14, q2 15, q2 16, q1 mld, q2 17, q1 msi, q2 18, q2 19, q2 20, q2 21, q2 22, q1 mse, q2 23, q2 24, q2 25]), .inl (1, 2400, .inl tp), .inl (0, 4, .inl re), .inl (0, 161, .inl td)] ∧ (0 ≤ mre ∧ mre ≤ mle ∧ mle ≤ 600) ∧ (BT td 0) ∧ (gw = 7) ∧ (SlM (tc tp) mle gw gp gf gq 0 mre mbe mso mva mwo mlf mlp mgo) ∧ (TdR (gf = 0) gD gfp gfd td mfp mfd) ∧ (∀ (r : Int) (x_mre : Int) (x_mbe : Int) (x_mso : Int) (x_mva : Int) (x_mwo : Int) (x_mwr : Int) (x_mlf : Int) (x_mlp : Int) (x_mgo : Int) (x_re : Nat → Int) (x_td : Nat → Int), ((r = 0 ∨ r = 1 ∧ (x_mso = 0 ∨ mre < x_mre)) ∧ mre ≤ x_mre ∧ x_mre ≤ mle ∧ BT x_td 0 ∧ LnM (tc tp) mle gw gp gf gq gD gfp gfd r x_mre x_mbe x_mso x_mva x_mwo x_mwr x_mlf x_mlp x_mgo x_td mfp mfd) → Q (some (q1 r)) ([.inr (12, [q1 mco, q2 1, q2 4, q2 5, q2 6, q2 7, q2 8, q2 9, q2 10, q2 11, q1 x_mre, q1 mle, q1 x_mbe, q1 x_mso, q1 x_mva, q3 x_mwo, q1 x_mwr, q1 x_mlf, q1 x_mlp, q2 3, q2 2, q1 mfp, q1 mfd, q1 x_mgo, q1 mbo, q1 mpe, q1 mye, q2 12, q1 mpr, q2 13, q2 14, q2 15, q2 16, q1 mld, q2 17, q1 msi, q2 18, q2 19, q2 20, q2 21, q2 22, q1 mse, q2 23, q2 24, q2 25]), .inl (1, 2400, .inl tp), .inl (0, 4, .inl x_re), .inl (0, 161, .inl x_td)]))
set_option maxHeartbeats 4000000 in
set_option maxRecDepth 100000 in
theorem m_F12_costLine (l : Launch) : q_M l yX12_costLine cX12_costLine 1 (some .boolean) 4 91 sp_F12_costLine := by
  refine q_meth (by decide) (fun av w Q h => by obtain ⟨mco, mre, mle, mbe, mso, mva, mwo, mwr, mlf, mlp, mfp, mfd, mgo, mbo, mpe, mye, mpr, mld, msi, mse, tp, re, td, gw, gp, gf, gq, gD, gfp, gfd, rfl, rfl, htp, hbt, hgw, hS, hT, hQ⟩ := h; exact Nat.le_of_ble_eq_true rfl) ?_
  intro p e R s m args below meth c dC dI k g A av w Q hsp oka okw X
  obtain ⟨mco, mre, mle, mbe, mso, mva, mwo, mwr, mlf, mlp, mfp, mfd, mgo, mbo, mpe, mye, mpr, mld, msi, mse, tp, re, td, gw, gp, gf, gq, gD, gfp, gfd, rfl, rfl, htp, hbt, hgw, hS, hT, hQ⟩ := hsp
  refine s_mono (s_F12_costLine_0 X (J := fun _ _ _ _ => False) (fun d => s_cutF)) ?_
  rintro lv st w' ⟨rfl, rfl, rfl⟩
  subst hgw
  refine Exists.intro [0, 1, 2, 4, 5, 6, 7, 8, 9, 10, 11, 3, 12, 13, 14, 15, 16, 17, 18, 19, 20, 21, 22, 23, 24, 25] (Exists.intro [q2 0, q1 _] (Exists.intro ([.inr (12, [q1 _, q2 1, q2 3, q2 4, q2 5, q2 6, q2 7, q2 8, q2 9, q2 10, q1 _, q1 _, q1 _, q1 _, q1 _, q3 _, q1 _, q1 _, q1 _, q2 11, q2 2, q1 _, q1 _, q1 _, q1 _, q1 _, q1 _, q2 12, q1 _, q2 13, q2 14, q2 15, q2 16, q1 _, q2 17, q1 _, q2 18, q2 19, q2 20, q2 21, q2 22, q1 _, q2 23, q2 24, q2 25]), .inl (1, 2400, .inl _), .inl (0, 4, .inl _)]) (And.intro rfl (And.intro rfl (And.intro rfl (And.intro ⟨⟨_, rfl⟩, rfl⟩ ?_))))))
  refine Exists.intro _ (Exists.intro _ (Exists.intro _ (Exists.intro _ (Exists.intro _ (Exists.intro _ (Exists.intro _ (Exists.intro _ (Exists.intro _ (Exists.intro _ (Exists.intro _ (Exists.intro _ (Exists.intro _ (Exists.intro _ (Exists.intro _ (Exists.intro _ (Exists.intro _ (Exists.intro _ (Exists.intro _ (Exists.intro _ (Exists.intro _ (Exists.intro _ (Exists.intro _ (Exists.intro _ (Exists.intro _ (Exists.intro _ (Exists.intro _ (Exists.intro _ (And.intro rfl (And.intro rfl (And.intro (by first | omega | assumption | exact q_rg_up (by assumption) (by omega) | exact q_rg_up (q_rg_up (by assumption) (by omega)) (by omega) | exact q_rg_cpy (by assumption) (by assumption)) (And.intro (by decide) (And.intro hS (And.intro (by decide) (?_))))))))))))))))))))))))))))))))))
  intro zq_2 x_mre_2 x_mbe_2 x_mso_2 x_mva_2 x_mwo_2 x_mwr_2 x_re_2 hq_2
  apply And.intro
  · intro hq_5
    apply And.intro
    · first | exact Or.inl rfl | exact Or.inr rfl | omega
    exact hQ _ _ _ _ _ _ _ _ _ _ _ _ ⟨by omega, by omega, by omega, (by first | assumption | exact BT_up hbt (by omega)), (by first | exact LnM_0 hS (by decide) (by decide) (dj0 hq_2.2.2.2 hq_5) | exact LnM_0 (dj1 hq_2.2.2.2 hq_5).1 (by decide) (by decide) (dj0 hq_13.2.2.2 hq_16) | exact LnM_1 (SlM_z (dj1 hq_13.2.2.2 hq_16).1 (by decide)) (fun q9 => (SlM_go (SlM_z (dj1 hq_13.2.2.2 hq_16).1 (by decide)) hq_25 q9).elim) | exact LnM_1 (SlM_z (dj1 hq_13.2.2.2 hq_16).1 (by decide)) (fun q9 => ⟨tl_7 (hT (lfa_m q9)).1 (by omega) (by rw [hq_46, (dj1 hq_13.2.2.2 hq_16).2]; exact q_up_s), (by rw [fpN_n (by decide)]; exact (hT (lfa_m q9)).2.1), (by rw [fdN_n (by decide)]; exact (hT (lfa_m q9)).2.2)⟩))⟩
  · intro hq_5
    refine Exists.intro [0, 1, 2, 4, 5, 6, 7, 8, 9, 10, 11, 3, 12, 13, 14, 15, 16, 17, 18, 19, 20, 21, 22, 23, 24, 25] (Exists.intro [q2 0, q1 _, q1 _, q1 _] (Exists.intro ([.inr (12, [q1 _, q2 1, q2 3, q2 4, q2 5, q2 6, q2 7, q2 8, q2 9, q2 10, q1 _, q1 _, q1 _, q1 _, q1 _, q3 _, q1 _, q1 _, q1 _, q2 11, q2 2, q1 _, q1 _, q1 _, q1 _, q1 _, q1 _, q2 12, q1 _, q2 13, q2 14, q2 15, q2 16, q1 _, q2 17, q1 _, q2 18, q2 19, q2 20, q2 21, q2 22, q1 _, q2 23, q2 24, q2 25]), .inl (1, 2400, .inl _), .inl (0, 4, .inl _)]) (And.intro rfl (And.intro rfl (And.intro rfl (And.intro ⟨⟨_, rfl⟩, rfl⟩ ?_))))))
    refine Exists.intro _ (Exists.intro _ (Exists.intro _ (Exists.intro _ (Exists.intro _ (Exists.intro _ (Exists.intro _ (Exists.intro _ (Exists.intro _ (Exists.intro _ (Exists.intro _ (Exists.intro _ (Exists.intro _ (Exists.intro _ (Exists.intro _ (Exists.intro _ (Exists.intro _ (Exists.intro _ (Exists.intro _ (Exists.intro _ (Exists.intro _ (Exists.intro _ (Exists.intro _ (Exists.intro _ (Exists.intro _ (Exists.intro _ (Exists.intro _ (Exists.intro _ (Exists.intro _ (Exists.intro _ (And.intro rfl (And.intro rfl (And.intro (by first | omega | assumption | exact q_rg_up (by assumption) (by omega) | exact q_rg_up (q_rg_up (by assumption) (by omega)) (by omega) | exact q_rg_cpy (by assumption) (by assumption)) (And.intro (by decide) (And.intro (dj1 hq_2.2.2.2 hq_5).1 (And.intro (by decide) (And.intro ⟨by decide, by decide⟩ (And.intro (by decide) (?_))))))))))))))))))))))))))))))))))))))
    intro zq_13 x_mre_13 x_mbe_13 x_mso_13 x_mva_13 x_mwo_13 x_mwr_13 x_mlf_13 x_mlp_13 x_mgo_13 x_re_13 hq_13
    apply And.intro
    · intro hq_16
      apply And.intro
      · intro hq_25
        apply And.intro
        · first | exact Or.inl rfl | exact Or.inr rfl | omega
        exact hQ _ _ _ _ _ _ _ _ _ _ _ _ ⟨by omega, by omega, by omega, (by first | assumption | exact BT_up hbt (by omega)), (by first | exact LnM_0 hS (by decide) (by decide) (dj0 hq_2.2.2.2 hq_5) | exact LnM_0 (dj1 hq_2.2.2.2 hq_5).1 (by decide) (by decide) (dj0 hq_13.2.2.2 hq_16) | exact LnM_1 (SlM_z (dj1 hq_13.2.2.2 hq_16).1 (by decide)) (fun q9 => (SlM_go (SlM_z (dj1 hq_13.2.2.2 hq_16).1 (by decide)) hq_25 q9).elim) | exact LnM_1 (SlM_z (dj1 hq_13.2.2.2 hq_16).1 (by decide)) (fun q9 => ⟨tl_7 (hT (lfa_m q9)).1 (by omega) (by rw [hq_46, (dj1 hq_13.2.2.2 hq_16).2]; exact q_up_s), (by rw [fpN_n (by decide)]; exact (hT (lfa_m q9)).2.1), (by rw [fdN_n (by decide)]; exact (hT (lfa_m q9)).2.2)⟩))⟩
      · intro hq_25
        have r9 := SlM_of (dj1 hq_13.2.2.2 hq_16).1 0 (by decide) (by decide) (by decide)
        have s9 := SlM_rg (dj1 hq_13.2.2.2 hq_16).1 hq_25 1 (by decide) (by decide) (a := 1) (b := 9) (by decide) (by decide)
        apply And.intro
        · exact ⟨by omega, by omega⟩
        intro zq_39 hq_39
        have e39 : zq_39 = lvs (tc tp) mle 7 gp 0 := (by rw [hq_39, (dj1 hq_13.2.2.2 hq_16).2, q_up_n (by decide), (dj1 hq_2.2.2.2 hq_5).2]; exact q_up_s)
        intro zq_40 hq_40
        first | replace hq_40 := e_add hq_40 (by omega) | replace hq_40 := e_rng hq_40
        apply And.intro
        · exact ⟨by omega, by omega⟩
        intro zq_46 hq_46
        have e46 : zq_46 = lvs (tc tp) mle 7 gp 1 := (by rw [hq_46, (dj1 hq_13.2.2.2 hq_16).2]; exact q_up_s)
        apply And.intro
        · exact ⟨by omega, by omega⟩
        apply And.intro
        · first | exact Or.inl rfl | exact Or.inr rfl | omega
        exact hQ _ _ _ _ _ _ _ _ _ _ _ _ ⟨by omega, by omega, by omega, (by first | assumption | exact BT_up hbt (by omega)), (by first | exact LnM_0 hS (by decide) (by decide) (dj0 hq_2.2.2.2 hq_5) | exact LnM_0 (dj1 hq_2.2.2.2 hq_5).1 (by decide) (by decide) (dj0 hq_13.2.2.2 hq_16) | exact LnM_1 (SlM_z (dj1 hq_13.2.2.2 hq_16).1 (by decide)) (fun q9 => (SlM_go (SlM_z (dj1 hq_13.2.2.2 hq_16).1 (by decide)) hq_25 q9).elim) | exact LnM_1 (SlM_z (dj1 hq_13.2.2.2 hq_16).1 (by decide)) (fun q9 => ⟨tl_7 (hT (lfa_m q9)).1 (by omega) (by rw [hq_46, (dj1 hq_13.2.2.2 hq_16).2]; exact q_up_s), (by rw [fpN_n (by decide)]; exact (hT (lfa_m q9)).2.1), (by rw [fdN_n (by decide)]; exact (hT (lfa_m q9)).2.2)⟩))⟩
    · intro hq_16
      apply And.intro
      · first | exact Or.inl rfl | exact Or.inr rfl | omega
      exact hQ _ _ _ _ _ _ _ _ _ _ _ _ ⟨by omega, by omega, by omega, (by first | assumption | exact BT_up hbt (by omega)), (by first | exact LnM_0 hS (by decide) (by decide) (dj0 hq_2.2.2.2 hq_5) | exact LnM_0 (dj1 hq_2.2.2.2 hq_5).1 (by decide) (by decide) (dj0 hq_13.2.2.2 hq_16) | exact LnM_1 (SlM_z (dj1 hq_13.2.2.2 hq_16).1 (by decide)) (fun q9 => (SlM_go (SlM_z (dj1 hq_13.2.2.2 hq_16).1 (by decide)) hq_25 q9).elim) | exact LnM_1 (SlM_z (dj1 hq_13.2.2.2 hq_16).1 (by decide)) (fun q9 => ⟨tl_7 (hT (lfa_m q9)).1 (by omega) (by rw [hq_46, (dj1 hq_13.2.2.2 hq_16).2]; exact q_up_s), (by rw [fpN_n (by decide)]; exact (hT (lfa_m q9)).2.1), (by rw [fdN_n (by decide)]; exact (hT (lfa_m q9)).2.2)⟩))⟩

theorem dF12_wishLine_0 : decode cX12_wishLine 0 = .ok (.aload_n 0, 1) := by decide +kernel
theorem dF12_wishLine_1 : decode cX12_wishLine 1 = .ok (.iconst 0, 1) := by decide +kernel
theorem dF12_wishLine_2 : decode cX12_wishLine 2 = .ok (.iconst (-1), 1) := by decide +kernel
theorem dF12_wishLine_3 : decode cX12_wishLine 3 = .ok (.invokevirtual 177, 3) := by decide +kernel
theorem dF12_wishLine_6 : decode cX12_wishLine 6 = .ok (.ifCond .eq 22, 3) := by decide +kernel
theorem dF12_wishLine_9 : decode cX12_wishLine 9 = .ok (.aload_n 0, 1) := by decide +kernel
theorem dF12_wishLine_10 : decode cX12_wishLine 10 = .ok (.iconst 1, 1) := by decide +kernel
theorem dF12_wishLine_11 : decode cX12_wishLine 11 = .ok (.invokevirtual 183, 3) := by decide +kernel
theorem dF12_wishLine_14 : decode cX12_wishLine 14 = .ok (.ifCond .eq 14, 3) := by decide +kernel
theorem dF12_wishLine_17 : decode cX12_wishLine 17 = .ok (.aload_n 0, 1) := by decide +kernel
theorem dF12_wishLine_18 : decode cX12_wishLine 18 = .ok (.iconst 2, 1) := by decide +kernel
theorem dF12_wishLine_19 : decode cX12_wishLine 19 = .ok (.iconst 0, 1) := by decide +kernel
theorem dF12_wishLine_20 : decode cX12_wishLine 20 = .ok (.bipush 99, 2) := by decide +kernel
theorem dF12_wishLine_22 : decode cX12_wishLine 22 = .ok (.invokevirtual 174, 3) := by decide +kernel
theorem dF12_wishLine_25 : decode cX12_wishLine 25 = .ok (.ifCond .ne 5, 3) := by decide +kernel
theorem dF12_wishLine_28 : decode cX12_wishLine 28 = .ok (.iconst 0, 1) := by decide +kernel
theorem dF12_wishLine_29 : decode cX12_wishLine 29 = .ok (.ireturn, 1) := by decide +kernel
theorem dF12_wishLine_30 : decode cX12_wishLine 30 = .ok (.aload_n 0, 1) := by decide +kernel
theorem dF12_wishLine_31 : decode cX12_wishLine 31 = .ok (.getfield 148, 3) := by decide +kernel
theorem dF12_wishLine_34 : decode cX12_wishLine 34 = .ok (.ifCond .eq 32, 3) := by decide +kernel
theorem dF12_wishLine_37 : decode cX12_wishLine 37 = .ok (.aload_n 0, 1) := by decide +kernel
theorem dF12_wishLine_38 : decode cX12_wishLine 38 = .ok (.getfield 38, 3) := by decide +kernel
theorem dF12_wishLine_41 : decode cX12_wishLine 41 = .ok (.bipush 43, 2) := by decide +kernel
theorem dF12_wishLine_43 : decode cX12_wishLine 43 = .ok (.iconst 4, 1) := by decide +kernel
theorem dF12_wishLine_44 : decode cX12_wishLine 44 = .ok (.aload_n 0, 1) := by decide +kernel
theorem dF12_wishLine_45 : decode cX12_wishLine 45 = .ok (.getfield 41, 3) := by decide +kernel
theorem dF12_wishLine_48 : decode cX12_wishLine 48 = .ok (.iconst 0, 1) := by decide +kernel
theorem dF12_wishLine_49 : decode cX12_wishLine 49 = .ok (.iaload, 1) := by decide +kernel
theorem dF12_wishLine_50 : decode cX12_wishLine 50 = .ok (.imul, 1) := by decide +kernel
theorem dF12_wishLine_51 : decode cX12_wishLine 51 = .ok (.iadd, 1) := by decide +kernel
theorem dF12_wishLine_52 : decode cX12_wishLine 52 = .ok (.aload_n 0, 1) := by decide +kernel
theorem dF12_wishLine_53 : decode cX12_wishLine 53 = .ok (.getfield 41, 3) := by decide +kernel
theorem dF12_wishLine_56 : decode cX12_wishLine 56 = .ok (.iconst 1, 1) := by decide +kernel
theorem dF12_wishLine_57 : decode cX12_wishLine 57 = .ok (.iaload, 1) := by decide +kernel
theorem dF12_wishLine_58 : decode cX12_wishLine 58 = .ok (.iadd, 1) := by decide +kernel
theorem dF12_wishLine_59 : decode cX12_wishLine 59 = .ok (.aload_n 0, 1) := by decide +kernel
theorem dF12_wishLine_60 : decode cX12_wishLine 60 = .ok (.getfield 41, 3) := by decide +kernel
theorem dF12_wishLine_63 : decode cX12_wishLine 63 = .ok (.iconst 2, 1) := by decide +kernel
theorem dF12_wishLine_64 : decode cX12_wishLine 64 = .ok (.iaload, 1) := by decide +kernel
theorem dF12_wishLine_65 : decode cX12_wishLine 65 = .ok (.iastore, 1) := by decide +kernel
theorem dF12_wishLine_66 : decode cX12_wishLine 66 = .ok (.iconst 1, 1) := by decide +kernel
theorem dF12_wishLine_67 : decode cX12_wishLine 67 = .ok (.ireturn, 1) := by decide +kernel
def is_F12_wishLine : Nat → List Nat := fun d => []
set_option maxRecDepth 100000 in
def b_F12_wishLine_66 (J : Nat → List qV → List qV → qW → Prop) (Q : qR) : qK := x_int 1 (x_zret Q)
set_option maxRecDepth 100000 in
theorem s_F12_wishLine_66 {p : Program} {l : Launch} {e : Env} {R : Room} {s : State} {m : MethodId} {args : Array Value} {below : List Frame} {meth : Method} {c : Code} {nW : Nat} {dC : Nat → ClassId} {dI : Nat → Nat → Nat} {k : Nat → ClassId} {g : Nat → Nat} {A : Nat → Prop} {J : Nat → List qV → List qV → qW → Prop} {Q : qR} (X : q_X p R s m args meth c cX12_wishLine 1 nW 4 91 RX12 (some .boolean) dC dI k g A) (hJ : ∀ d : Nat, q_Sd p l e R s m args below meth c 1 nW dC dI k g A (MQ below (q_post (dC, dI) k g nW Q A) args s 0 0 A) d (x_cut (is_F12_wishLine d) (J d))) : q_Sd p l e R s m args below meth c 1 nW dC dI k g A (MQ below (q_post (dC, dI) k g nW Q A) args s 0 0 A) 66 (b_F12_wishLine_66 J Q) := by
  unfold b_F12_wishLine_66
  refine s_iconst X ⟨by decide, by decide⟩ dF12_wishLine_66 ?_
  exact s_zret X dF12_wishLine_67
set_option maxRecDepth 100000 in
def b_F12_wishLine_65 (J : Nat → List qV → List qV → qW → Prop) (Q : qR) : qK := x_iast (x_nw (b_F12_wishLine_66 J Q))
set_option maxRecDepth 100000 in
theorem s_F12_wishLine_65 {p : Program} {l : Launch} {e : Env} {R : Room} {s : State} {m : MethodId} {args : Array Value} {below : List Frame} {meth : Method} {c : Code} {nW : Nat} {dC : Nat → ClassId} {dI : Nat → Nat → Nat} {k : Nat → ClassId} {g : Nat → Nat} {A : Nat → Prop} {J : Nat → List qV → List qV → qW → Prop} {Q : qR} (X : q_X p R s m args meth c cX12_wishLine 1 nW 4 91 RX12 (some .boolean) dC dI k g A) (hJ : ∀ d : Nat, q_Sd p l e R s m args below meth c 1 nW dC dI k g A (MQ below (q_post (dC, dI) k g nW Q A) args s 0 0 A) d (x_cut (is_F12_wishLine d) (J d))) : q_Sd p l e R s m args below meth c 1 nW dC dI k g A (MQ below (q_post (dC, dI) k g nW Q A) args s 0 0 A) 65 (b_F12_wishLine_65 J Q) := by
  unfold b_F12_wishLine_65
  refine s_iast X dF12_wishLine_65 ?_
  refine s_nw ?_
  exact s_F12_wishLine_66 X hJ
set_option maxRecDepth 100000 in
def b_F12_wishLine_28 (J : Nat → List qV → List qV → qW → Prop) (Q : qR) : qK := x_int 0 (x_zret Q)
set_option maxRecDepth 100000 in
theorem s_F12_wishLine_28 {p : Program} {l : Launch} {e : Env} {R : Room} {s : State} {m : MethodId} {args : Array Value} {below : List Frame} {meth : Method} {c : Code} {nW : Nat} {dC : Nat → ClassId} {dI : Nat → Nat → Nat} {k : Nat → ClassId} {g : Nat → Nat} {A : Nat → Prop} {J : Nat → List qV → List qV → qW → Prop} {Q : qR} (X : q_X p R s m args meth c cX12_wishLine 1 nW 4 91 RX12 (some .boolean) dC dI k g A) (hJ : ∀ d : Nat, q_Sd p l e R s m args below meth c 1 nW dC dI k g A (MQ below (q_post (dC, dI) k g nW Q A) args s 0 0 A) d (x_cut (is_F12_wishLine d) (J d))) : q_Sd p l e R s m args below meth c 1 nW dC dI k g A (MQ below (q_post (dC, dI) k g nW Q A) args s 0 0 A) 28 (b_F12_wishLine_28 J Q) := by
  unfold b_F12_wishLine_28
  refine s_iconst X ⟨by decide, by decide⟩ dF12_wishLine_28 ?_
  exact s_zret X dF12_wishLine_29
set_option maxRecDepth 100000 in
def b_F12_wishLine_0 (J : Nat → List qV → List qV → qW → Prop) (Q : qR) : qK := x_aload 0 (x_int 0 (x_int (-1) (x_call (some 12) 3 sp_F12_takePerson (x_nw (x_if_eq (b_F12_wishLine_28 J Q) (x_aload 0 (x_int 1 (x_call (some 12) 2 sp_F12_takeOffence (x_nw (x_if_eq (b_F12_wishLine_28 J Q) (x_aload 0 (x_int 2 (x_int 0 (x_int 99 (x_call (some 12) 4 sp_F12_take (x_nw (x_if_ne (x_aload 0 (x_get 12 23 (x_if_eq (b_F12_wishLine_66 J Q) (x_aload 0 (x_get 12 19 (x_int 43 (x_int 4 (x_aload 0 (x_get 12 20 (x_int 0 (x_iald (x_imul (x_iadd (x_aload 0 (x_get 12 20 (x_int 1 (x_iald (x_iadd (x_aload 0 (x_get 12 20 (x_int 2 (x_iald (b_F12_wishLine_65 J Q))))))))))))))))))))))) (b_F12_wishLine_28 J Q))))))))))))))))))
set_option maxRecDepth 100000 in
theorem s_F12_wishLine_0 {p : Program} {l : Launch} {e : Env} {R : Room} {s : State} {m : MethodId} {args : Array Value} {below : List Frame} {meth : Method} {c : Code} {nW : Nat} {dC : Nat → ClassId} {dI : Nat → Nat → Nat} {k : Nat → ClassId} {g : Nat → Nat} {A : Nat → Prop} {J : Nat → List qV → List qV → qW → Prop} {Q : qR} (X : q_X p R s m args meth c cX12_wishLine 1 nW 4 91 RX12 (some .boolean) dC dI k g A) (hJ : ∀ d : Nat, q_Sd p l e R s m args below meth c 1 nW dC dI k g A (MQ below (q_post (dC, dI) k g nW Q A) args s 0 0 A) d (x_cut (is_F12_wishLine d) (J d))) : q_Sd p l e R s m args below meth c 1 nW dC dI k g A (MQ below (q_post (dC, dI) k g nW Q A) args s 0 0 A) 0 (b_F12_wishLine_0 J Q) := by
  unfold b_F12_wishLine_0
  refine s_aload_n X rfl dF12_wishLine_0 ?_
  refine s_iconst X ⟨by decide, by decide⟩ dF12_wishLine_1 ?_
  refine s_iconst X ⟨by decide, by decide⟩ dF12_wishLine_2 ?_
  refine s_callV X (m_F12_takePerson l) tw_1115 tw_1116 tw_1624 tw_134 tw_1117 rfl (by decide +kernel) ⟨by decide, by decide⟩ dF12_wishLine_3 ?_
  refine s_nw ?_
  refine s_if_eq X (tgt := 28) dF12_wishLine_6 (by decide) ?_ ?_
  · exact s_F12_wishLine_28 X hJ
  · refine s_aload_n X rfl dF12_wishLine_9 ?_
    refine s_iconst X ⟨by decide, by decide⟩ dF12_wishLine_10 ?_
    refine s_callV X (m_F12_takeOffence l) tw_1133 tw_1134 tw_1623 tw_134 tw_1135 rfl (by decide +kernel) ⟨by decide, by decide⟩ dF12_wishLine_11 ?_
    refine s_nw ?_
    refine s_if_eq X (tgt := 28) dF12_wishLine_14 (by decide) ?_ ?_
    · exact s_F12_wishLine_28 X hJ
    · refine s_aload_n X rfl dF12_wishLine_17 ?_
      refine s_iconst X ⟨by decide, by decide⟩ dF12_wishLine_18 ?_
      refine s_iconst X ⟨by decide, by decide⟩ dF12_wishLine_19 ?_
      refine s_bipush X ⟨by decide, by decide⟩ (by decide) dF12_wishLine_20 ?_
      refine s_callV X (m_F12_take l) tw_1097 tw_1098 tw_1621 tw_134 tw_1099 rfl (by decide +kernel) ⟨by decide, by decide⟩ dF12_wishLine_22 ?_
      refine s_nw ?_
      refine s_if_ne X (tgt := 30) dF12_wishLine_25 (by decide) ?_ ?_
      · refine s_aload_n X rfl dF12_wishLine_30 ?_
        refine s_get X (T := TX12) (C := RX12) (N := 45) tu_X12 rfl (by decide) tw_1020 dF12_wishLine_31 ?_
        refine s_if_eq X (tgt := 66) dF12_wishLine_34 (by decide) ?_ ?_
        · exact s_F12_wishLine_66 X hJ
        · refine s_aload_n X rfl dF12_wishLine_37 ?_
          refine s_get X (T := TX12) (C := RX12) (N := 45) tu_X12 rfl (by decide) tw_1016 dF12_wishLine_38 ?_
          refine s_bipush X ⟨by decide, by decide⟩ (by decide) dF12_wishLine_41 ?_
          refine s_iconst X ⟨by decide, by decide⟩ dF12_wishLine_43 ?_
          refine s_aload_n X rfl dF12_wishLine_44 ?_
          refine s_get X (T := TX12) (C := RX12) (N := 45) tu_X12 rfl (by decide) tw_1017 dF12_wishLine_45 ?_
          refine s_iconst X ⟨by decide, by decide⟩ dF12_wishLine_48 ?_
          refine s_iald X dF12_wishLine_49 ?_
          refine s_imul X dF12_wishLine_50 ?_
          refine s_iadd X dF12_wishLine_51 ?_
          refine s_aload_n X rfl dF12_wishLine_52 ?_
          refine s_get X (T := TX12) (C := RX12) (N := 45) tu_X12 rfl (by decide) tw_1017 dF12_wishLine_53 ?_
          refine s_iconst X ⟨by decide, by decide⟩ dF12_wishLine_56 ?_
          refine s_iald X dF12_wishLine_57 ?_
          refine s_iadd X dF12_wishLine_58 ?_
          refine s_aload_n X rfl dF12_wishLine_59 ?_
          refine s_get X (T := TX12) (C := RX12) (N := 45) tu_X12 rfl (by decide) tw_1017 dF12_wishLine_60 ?_
          refine s_iconst X ⟨by decide, by decide⟩ dF12_wishLine_63 ?_
          refine s_iald X dF12_wishLine_64 ?_
          exact s_F12_wishLine_65 X hJ
      · exact s_F12_wishLine_28 X hJ

def sp_F12_wishLine : qS := fun av w Q => ∃ (mco : Int) (mre : Int) (mle : Int) (mbe : Int) (mso : Int) (mva : Int) (mwo : Int) (mwr : Int) (mlf : Int) (mlp : Int) (mfp : Int) (mfd : Int) (mgo : Int) (mbo : Int) (mpe : Int) (mye : Int) (mpr : Int) (mld : Int) (msi : Int) (mse : Int) (tp : Nat → Int) (re : Nat → Int) (td : Nat → Int) (gw : Int) (gp : Int) (gf : Int) (gq : Int) (gD : Nat → Int) (gfp : Int) (gfd : Int), av = [q2 0] ∧ w = [.inr (12, [q1 mco, q2 1, q2 4, q2 5, q2 6, q2 7, q2 8, q2 9, q2 10, q2 11, q1 mre, q1 mle, q1 mbe, q1 mso, q1 mva, q3 mwo, q1 mwr, q1 mlf, q1 mlp, q2 3, q2 2, q1 mfp, q1 mfd, q1 mgo, q1 mbo, q1 mpe, q1 mye, q2 12, q1 mpr, q2 13, q2 14, q2 15, q2 16, q1 mld, q2 17, q1 msi, q2 18, q2 19, q2 20, q2 21, q2 22, q1 mse, q2 23, q2 24, q2 25]), .inl (1, 2400, .inl tp), .inl (0, 4, .inl re), .inl (0, 161, .inl td)] ∧ (0 ≤ mre ∧ mre ≤ mle ∧ mle ≤ 600) ∧ (BT td 0) ∧ (gw = 8) ∧ (SlM (tc tp) mle gw gp gf gq 0 mre mbe mso mva mwo mlf mlp mgo) ∧ (TdR (gf = 0) gD gfp gfd td mfp mfd) ∧ (∀ (r : Int) (x_mre : Int) (x_mbe : Int) (x_mso : Int) (x_mva : Int) (x_mwo : Int) (x_mwr : Int) (x_mlf : Int) (x_mlp : Int) (x_mgo : Int) (x_re : Nat → Int) (x_td : Nat → Int) (x_mfp : Int), ((r = 0 ∨ r = 1 ∧ (x_mso = 0 ∨ mre < x_mre)) ∧ mre ≤ x_mre ∧ x_mre ≤ mle ∧ BT x_td 0 ∧ LnM (tc tp) mle gw gp gf gq gD gfp gfd r x_mre x_mbe x_mso x_mva x_mwo x_mwr x_mlf x_mlp x_mgo x_td x_mfp mfd) → Q (some (q1 r)) ([.inr (12, [q1 mco, q2 1, q2 4, q2 5, q2 6, q2 7, q2 8, q2 9, q2 10, q2 11, q1 x_mre, q1 mle, q1 x_mbe, q1 x_mso, q1 x_mva, q3 x_mwo, q1 x_mwr, q1 x_mlf, q1 x_mlp, q2 3, q2 2, q1 x_mfp, q1 mfd, q1 x_mgo, q1 mbo, q1 mpe, q1 mye, q2 12, q1 mpr, q2 13, q2 14, q2 15, q2 16, q1 mld, q2 17, q1 msi, q2 18, q2 19, q2 20, q2 21, q2 22, q1 mse, q2 23, q2 24, q2 25]), .inl (1, 2400, .inl tp), .inl (0, 4, .inl x_re), .inl (0, 161, .inl x_td)]))
set_option maxHeartbeats 4000000 in
set_option maxRecDepth 100000 in
theorem m_F12_wishLine (l : Launch) : q_M l yX12_wishLine cX12_wishLine 1 (some .boolean) 4 91 sp_F12_wishLine := by
  refine q_meth (by decide) (fun av w Q h => by obtain ⟨mco, mre, mle, mbe, mso, mva, mwo, mwr, mlf, mlp, mfp, mfd, mgo, mbo, mpe, mye, mpr, mld, msi, mse, tp, re, td, gw, gp, gf, gq, gD, gfp, gfd, rfl, rfl, htp, hbt, hgw, hS, hT, hQ⟩ := h; exact Nat.le_of_ble_eq_true rfl) ?_
  intro p e R s m args below meth c dC dI k g A av w Q hsp oka okw X
  obtain ⟨mco, mre, mle, mbe, mso, mva, mwo, mwr, mlf, mlp, mfp, mfd, mgo, mbo, mpe, mye, mpr, mld, msi, mse, tp, re, td, gw, gp, gf, gq, gD, gfp, gfd, rfl, rfl, htp, hbt, hgw, hS, hT, hQ⟩ := hsp
  refine s_mono (s_F12_wishLine_0 X (J := fun _ _ _ _ => False) (fun d => s_cutF)) ?_
  rintro lv st w' ⟨rfl, rfl, rfl⟩
  subst hgw
  refine Exists.intro [0, 1, 2, 4, 5, 6, 7, 8, 9, 10, 11, 3, 12, 13, 14, 15, 16, 17, 18, 19, 20, 21, 22, 23, 24, 25] (Exists.intro [q2 0, q1 _, q1 _] (Exists.intro ([.inr (12, [q1 _, q2 1, q2 3, q2 4, q2 5, q2 6, q2 7, q2 8, q2 9, q2 10, q1 _, q1 _, q1 _, q1 _, q1 _, q3 _, q1 _, q1 _, q1 _, q2 11, q2 2, q1 _, q1 _, q1 _, q1 _, q1 _, q1 _, q2 12, q1 _, q2 13, q2 14, q2 15, q2 16, q1 _, q2 17, q1 _, q2 18, q2 19, q2 20, q2 21, q2 22, q1 _, q2 23, q2 24, q2 25]), .inl (1, 2400, .inl _), .inl (0, 4, .inl _)]) (And.intro rfl (And.intro rfl (And.intro rfl (And.intro ⟨⟨_, rfl⟩, rfl⟩ ?_))))))
  refine Exists.intro _ (Exists.intro _ (Exists.intro _ (Exists.intro _ (Exists.intro _ (Exists.intro _ (Exists.intro _ (Exists.intro _ (Exists.intro _ (Exists.intro _ (Exists.intro _ (Exists.intro _ (Exists.intro _ (Exists.intro _ (Exists.intro _ (Exists.intro _ (Exists.intro _ (Exists.intro _ (Exists.intro _ (Exists.intro _ (Exists.intro _ (Exists.intro _ (Exists.intro _ (Exists.intro _ (Exists.intro _ (Exists.intro _ (Exists.intro _ (Exists.intro _ (Exists.intro _ (And.intro rfl (And.intro rfl (And.intro (by first | omega | assumption | exact q_rg_up (by assumption) (by omega) | exact q_rg_up (q_rg_up (by assumption) (by omega)) (by omega) | exact q_rg_cpy (by assumption) (by assumption)) (And.intro (by decide) (And.intro hS (And.intro (by decide) (And.intro ⟨by decide, by decide⟩ (And.intro (Or.inr ⟨by decide, rfl⟩) (?_)))))))))))))))))))))))))))))))))))))
  intro zq_3 x_mre_3 x_mbe_3 x_mso_3 x_mva_3 x_mwo_3 x_mwr_3 x_mlf_3 x_mlp_3 x_mgo_3 x_re_3 x_mfp_3 hq_3
  apply And.intro
  · intro hq_6
    apply And.intro
    · first | exact Or.inl rfl | exact Or.inr rfl | omega
    exact hQ _ _ _ _ _ _ _ _ _ _ _ _ _ ⟨by omega, by omega, by omega, (by first | assumption | exact BT_up hbt (by omega)), (by first | exact LnM_0 hS (by decide) (by decide) (dj0 hq_3.2.2.2.1 hq_6) | exact LnM_0 (dj1 hq_3.2.2.2.1 hq_6).1 (by decide) (by decide) (dj0 hq_11.2.2.2 hq_14) | exact LnM_0 (dj1 hq_11.2.2.2 hq_14).1 (by decide) (by decide) (dj0 hq_22.2.2.2 hq_25) | exact LnM_1 (dj1 hq_22.2.2.2 hq_25).1 (fun q9 => (SlM_go (dj1 hq_22.2.2.2 hq_25).1 hq_34 q9).elim) | exact LnM_1 (dj1 hq_22.2.2.2 hq_25).1 (fun q9 => ⟨tl_8 (hT (lfa_m q9)).1 (by omega) (by rw [hq_64, (dj1 hq_22.2.2.2 hq_25).2]; exact q_up_s), (by rw [fpN_1 (by decide), ← (hT (lfa_m q9)).2.1]; exact (hq_3.2.2.2.2 (by omega))), (by rw [fdN_n (by decide)]; exact (hT (lfa_m q9)).2.2)⟩))⟩
  · intro hq_6
    refine Exists.intro [0, 1, 2, 4, 5, 6, 7, 8, 9, 10, 11, 3, 12, 13, 14, 15, 16, 17, 18, 19, 20, 21, 22, 23, 24, 25] (Exists.intro [q2 0, q1 _] (Exists.intro ([.inr (12, [q1 _, q2 1, q2 3, q2 4, q2 5, q2 6, q2 7, q2 8, q2 9, q2 10, q1 _, q1 _, q1 _, q1 _, q1 _, q3 _, q1 _, q1 _, q1 _, q2 11, q2 2, q1 _, q1 _, q1 _, q1 _, q1 _, q1 _, q2 12, q1 _, q2 13, q2 14, q2 15, q2 16, q1 _, q2 17, q1 _, q2 18, q2 19, q2 20, q2 21, q2 22, q1 _, q2 23, q2 24, q2 25]), .inl (1, 2400, .inl _), .inl (0, 4, .inl _)]) (And.intro rfl (And.intro rfl (And.intro rfl (And.intro ⟨⟨_, rfl⟩, rfl⟩ ?_))))))
    refine Exists.intro _ (Exists.intro _ (Exists.intro _ (Exists.intro _ (Exists.intro _ (Exists.intro _ (Exists.intro _ (Exists.intro _ (Exists.intro _ (Exists.intro _ (Exists.intro _ (Exists.intro _ (Exists.intro _ (Exists.intro _ (Exists.intro _ (Exists.intro _ (Exists.intro _ (Exists.intro _ (Exists.intro _ (Exists.intro _ (Exists.intro _ (Exists.intro _ (Exists.intro _ (Exists.intro _ (Exists.intro _ (Exists.intro _ (Exists.intro _ (Exists.intro _ (And.intro rfl (And.intro rfl (And.intro (by first | omega | assumption | exact q_rg_up (by assumption) (by omega) | exact q_rg_up (q_rg_up (by assumption) (by omega)) (by omega) | exact q_rg_cpy (by assumption) (by assumption)) (And.intro (by decide) (And.intro (dj1 hq_3.2.2.2.1 hq_6).1 (And.intro (by decide) (?_))))))))))))))))))))))))))))))))))
    intro zq_11 x_mre_11 x_mbe_11 x_mso_11 x_mva_11 x_mwo_11 x_mwr_11 x_re_11 hq_11
    apply And.intro
    · intro hq_14
      apply And.intro
      · first | exact Or.inl rfl | exact Or.inr rfl | omega
      exact hQ _ _ _ _ _ _ _ _ _ _ _ _ _ ⟨by omega, by omega, by omega, (by first | assumption | exact BT_up hbt (by omega)), (by first | exact LnM_0 hS (by decide) (by decide) (dj0 hq_3.2.2.2.1 hq_6) | exact LnM_0 (dj1 hq_3.2.2.2.1 hq_6).1 (by decide) (by decide) (dj0 hq_11.2.2.2 hq_14) | exact LnM_0 (dj1 hq_11.2.2.2 hq_14).1 (by decide) (by decide) (dj0 hq_22.2.2.2 hq_25) | exact LnM_1 (dj1 hq_22.2.2.2 hq_25).1 (fun q9 => (SlM_go (dj1 hq_22.2.2.2 hq_25).1 hq_34 q9).elim) | exact LnM_1 (dj1 hq_22.2.2.2 hq_25).1 (fun q9 => ⟨tl_8 (hT (lfa_m q9)).1 (by omega) (by rw [hq_64, (dj1 hq_22.2.2.2 hq_25).2]; exact q_up_s), (by rw [fpN_1 (by decide), ← (hT (lfa_m q9)).2.1]; exact (hq_3.2.2.2.2 (by omega))), (by rw [fdN_n (by decide)]; exact (hT (lfa_m q9)).2.2)⟩))⟩
    · intro hq_14
      refine Exists.intro [0, 1, 2, 4, 5, 6, 7, 8, 9, 10, 11, 3, 12, 13, 14, 15, 16, 17, 18, 19, 20, 21, 22, 23, 24, 25] (Exists.intro [q2 0, q1 _, q1 _, q1 _] (Exists.intro ([.inr (12, [q1 _, q2 1, q2 3, q2 4, q2 5, q2 6, q2 7, q2 8, q2 9, q2 10, q1 _, q1 _, q1 _, q1 _, q1 _, q3 _, q1 _, q1 _, q1 _, q2 11, q2 2, q1 _, q1 _, q1 _, q1 _, q1 _, q1 _, q2 12, q1 _, q2 13, q2 14, q2 15, q2 16, q1 _, q2 17, q1 _, q2 18, q2 19, q2 20, q2 21, q2 22, q1 _, q2 23, q2 24, q2 25]), .inl (1, 2400, .inl _), .inl (0, 4, .inl _)]) (And.intro rfl (And.intro rfl (And.intro rfl (And.intro ⟨⟨_, rfl⟩, rfl⟩ ?_))))))
      refine Exists.intro _ (Exists.intro _ (Exists.intro _ (Exists.intro _ (Exists.intro _ (Exists.intro _ (Exists.intro _ (Exists.intro _ (Exists.intro _ (Exists.intro _ (Exists.intro _ (Exists.intro _ (Exists.intro _ (Exists.intro _ (Exists.intro _ (Exists.intro _ (Exists.intro _ (Exists.intro _ (Exists.intro _ (Exists.intro _ (Exists.intro _ (Exists.intro _ (Exists.intro _ (Exists.intro _ (Exists.intro _ (Exists.intro _ (Exists.intro _ (Exists.intro _ (Exists.intro _ (Exists.intro _ (And.intro rfl (And.intro rfl (And.intro (by first | omega | assumption | exact q_rg_up (by assumption) (by omega) | exact q_rg_up (q_rg_up (by assumption) (by omega)) (by omega) | exact q_rg_cpy (by assumption) (by assumption)) (And.intro (by decide) (And.intro (dj1 hq_11.2.2.2 hq_14).1 (And.intro (by decide) (And.intro ⟨by decide, by decide⟩ (And.intro (by decide) (?_))))))))))))))))))))))))))))))))))))))
      intro zq_22 x_mre_22 x_mbe_22 x_mso_22 x_mva_22 x_mwo_22 x_mwr_22 x_mlf_22 x_mlp_22 x_mgo_22 x_re_22 hq_22
      apply And.intro
      · intro hq_25
        apply And.intro
        · intro hq_34
          apply And.intro
          · first | exact Or.inl rfl | exact Or.inr rfl | omega
          exact hQ _ _ _ _ _ _ _ _ _ _ _ _ _ ⟨by omega, by omega, by omega, (by first | assumption | exact BT_up hbt (by omega)), (by first | exact LnM_0 hS (by decide) (by decide) (dj0 hq_3.2.2.2.1 hq_6) | exact LnM_0 (dj1 hq_3.2.2.2.1 hq_6).1 (by decide) (by decide) (dj0 hq_11.2.2.2 hq_14) | exact LnM_0 (dj1 hq_11.2.2.2 hq_14).1 (by decide) (by decide) (dj0 hq_22.2.2.2 hq_25) | exact LnM_1 (dj1 hq_22.2.2.2 hq_25).1 (fun q9 => (SlM_go (dj1 hq_22.2.2.2 hq_25).1 hq_34 q9).elim) | exact LnM_1 (dj1 hq_22.2.2.2 hq_25).1 (fun q9 => ⟨tl_8 (hT (lfa_m q9)).1 (by omega) (by rw [hq_64, (dj1 hq_22.2.2.2 hq_25).2]; exact q_up_s), (by rw [fpN_1 (by decide), ← (hT (lfa_m q9)).2.1]; exact (hq_3.2.2.2.2 (by omega))), (by rw [fdN_n (by decide)]; exact (hT (lfa_m q9)).2.2)⟩))⟩
        · intro hq_34
          have r9 := SlM_rg (dj1 hq_22.2.2.2 hq_25).1 hq_34 0 (by decide) (by decide) (a := 0) (b := 7) (by decide) (by decide)
          have s9 := SlM_of (dj1 hq_22.2.2.2 hq_25).1 1 (by decide) (by decide) (by decide)
          apply And.intro
          · exact ⟨by omega, by omega⟩
          intro zq_49 hq_49
          have e49 : zq_49 = lvs (tc tp) mle 8 gp 0 := (by rw [hq_49, (dj1 hq_22.2.2.2 hq_25).2, q_up_n (by decide), (dj1 hq_11.2.2.2 hq_14).2, q_up_n (by decide), (dj1 hq_3.2.2.2.1 hq_6).2]; exact q_up_s)
          intro zq_50 hq_50
          first | replace hq_50 := e_mul hq_50 (by omega) | replace hq_50 := e_rng hq_50
          intro zq_51 hq_51
          first | replace hq_51 := e_add hq_51 (by omega) | replace hq_51 := e_rng hq_51
          apply And.intro
          · exact ⟨by omega, by omega⟩
          intro zq_57 hq_57
          have e57 : zq_57 = lvs (tc tp) mle 8 gp 1 := (by rw [hq_57, (dj1 hq_22.2.2.2 hq_25).2, q_up_n (by decide), (dj1 hq_11.2.2.2 hq_14).2]; exact q_up_s)
          intro zq_58 hq_58
          first | replace hq_58 := e_add hq_58 (by omega) | replace hq_58 := e_rng hq_58
          apply And.intro
          · exact ⟨by omega, by omega⟩
          intro zq_64 hq_64
          apply And.intro
          · exact ⟨by omega, by omega⟩
          apply And.intro
          · first | exact Or.inl rfl | exact Or.inr rfl | omega
          exact hQ _ _ _ _ _ _ _ _ _ _ _ _ _ ⟨by omega, by omega, by omega, (by first | assumption | exact BT_up hbt (by omega)), (by first | exact LnM_0 hS (by decide) (by decide) (dj0 hq_3.2.2.2.1 hq_6) | exact LnM_0 (dj1 hq_3.2.2.2.1 hq_6).1 (by decide) (by decide) (dj0 hq_11.2.2.2 hq_14) | exact LnM_0 (dj1 hq_11.2.2.2 hq_14).1 (by decide) (by decide) (dj0 hq_22.2.2.2 hq_25) | exact LnM_1 (dj1 hq_22.2.2.2 hq_25).1 (fun q9 => (SlM_go (dj1 hq_22.2.2.2 hq_25).1 hq_34 q9).elim) | exact LnM_1 (dj1 hq_22.2.2.2 hq_25).1 (fun q9 => ⟨tl_8 (hT (lfa_m q9)).1 (by omega) (by rw [hq_64, (dj1 hq_22.2.2.2 hq_25).2]; exact q_up_s), (by rw [fpN_1 (by decide), ← (hT (lfa_m q9)).2.1]; exact (hq_3.2.2.2.2 (by omega))), (by rw [fdN_n (by decide)]; exact (hT (lfa_m q9)).2.2)⟩))⟩
      · intro hq_25
        apply And.intro
        · first | exact Or.inl rfl | exact Or.inr rfl | omega
        exact hQ _ _ _ _ _ _ _ _ _ _ _ _ _ ⟨by omega, by omega, by omega, (by first | assumption | exact BT_up hbt (by omega)), (by first | exact LnM_0 hS (by decide) (by decide) (dj0 hq_3.2.2.2.1 hq_6) | exact LnM_0 (dj1 hq_3.2.2.2.1 hq_6).1 (by decide) (by decide) (dj0 hq_11.2.2.2 hq_14) | exact LnM_0 (dj1 hq_11.2.2.2 hq_14).1 (by decide) (by decide) (dj0 hq_22.2.2.2 hq_25) | exact LnM_1 (dj1 hq_22.2.2.2 hq_25).1 (fun q9 => (SlM_go (dj1 hq_22.2.2.2 hq_25).1 hq_34 q9).elim) | exact LnM_1 (dj1 hq_22.2.2.2 hq_25).1 (fun q9 => ⟨tl_8 (hT (lfa_m q9)).1 (by omega) (by rw [hq_64, (dj1 hq_22.2.2.2 hq_25).2]; exact q_up_s), (by rw [fpN_1 (by decide), ← (hT (lfa_m q9)).2.1]; exact (hq_3.2.2.2.2 (by omega))), (by rw [fdN_n (by decide)]; exact (hT (lfa_m q9)).2.2)⟩))⟩
