theorem dX12_furtherLine_0 : decode cX12_furtherLine 0 = .ok (.aload_n 0, 1) := by decide +kernel
theorem dX12_furtherLine_1 : decode cX12_furtherLine 1 = .ok (.iconst 0, 1) := by decide +kernel
theorem dX12_furtherLine_2 : decode cX12_furtherLine 2 = .ok (.iconst 1, 1) := by decide +kernel
theorem dX12_furtherLine_3 : decode cX12_furtherLine 3 = .ok (.bipush 99, 2) := by decide +kernel
theorem dX12_furtherLine_5 : decode cX12_furtherLine 5 = .ok (.invokevirtual 174, 3) := by decide +kernel
theorem dX12_furtherLine_8 : decode cX12_furtherLine 8 = .ok (.ifCond .ne 5, 3) := by decide +kernel
theorem dX12_furtherLine_11 : decode cX12_furtherLine 11 = .ok (.iconst 0, 1) := by decide +kernel
theorem dX12_furtherLine_12 : decode cX12_furtherLine 12 = .ok (.ireturn, 1) := by decide +kernel
theorem dX12_furtherLine_13 : decode cX12_furtherLine 13 = .ok (.aload_n 0, 1) := by decide +kernel
theorem dX12_furtherLine_14 : decode cX12_furtherLine 14 = .ok (.getfield 38, 3) := by decide +kernel
theorem dX12_furtherLine_17 : decode cX12_furtherLine 17 = .ok (.iload_n 1, 1) := by decide +kernel
theorem dX12_furtherLine_18 : decode cX12_furtherLine 18 = .ok (.iaload, 1) := by decide +kernel
theorem dX12_furtherLine_19 : decode cX12_furtherLine 19 = .ok (.iload_n 3, 1) := by decide +kernel
theorem dX12_furtherLine_20 : decode cX12_furtherLine 20 = .ok (.if_icmp .ge 32, 3) := by decide +kernel
theorem dX12_furtherLine_23 : decode cX12_furtherLine 23 = .ok (.aload_n 0, 1) := by decide +kernel
theorem dX12_furtherLine_24 : decode cX12_furtherLine 24 = .ok (.getfield 38, 3) := by decide +kernel
theorem dX12_furtherLine_27 : decode cX12_furtherLine 27 = .ok (.iload_n 2, 1) := by decide +kernel
theorem dX12_furtherLine_28 : decode cX12_furtherLine 28 = .ok (.aload_n 0, 1) := by decide +kernel
theorem dX12_furtherLine_29 : decode cX12_furtherLine 29 = .ok (.getfield 38, 3) := by decide +kernel
theorem dX12_furtherLine_32 : decode cX12_furtherLine 32 = .ok (.iload_n 1, 1) := by decide +kernel
theorem dX12_furtherLine_33 : decode cX12_furtherLine 33 = .ok (.iaload, 1) := by decide +kernel
theorem dX12_furtherLine_34 : decode cX12_furtherLine 34 = .ok (.iadd, 1) := by decide +kernel
theorem dX12_furtherLine_35 : decode cX12_furtherLine 35 = .ok (.aload_n 0, 1) := by decide +kernel
theorem dX12_furtherLine_36 : decode cX12_furtherLine 36 = .ok (.getfield 41, 3) := by decide +kernel
theorem dX12_furtherLine_39 : decode cX12_furtherLine 39 = .ok (.iconst 0, 1) := by decide +kernel
theorem dX12_furtherLine_40 : decode cX12_furtherLine 40 = .ok (.iaload, 1) := by decide +kernel
theorem dX12_furtherLine_41 : decode cX12_furtherLine 41 = .ok (.iastore, 1) := by decide +kernel
theorem dX12_furtherLine_42 : decode cX12_furtherLine 42 = .ok (.aload_n 0, 1) := by decide +kernel
theorem dX12_furtherLine_43 : decode cX12_furtherLine 43 = .ok (.getfield 38, 3) := by decide +kernel
theorem dX12_furtherLine_46 : decode cX12_furtherLine 46 = .ok (.iload_n 1, 1) := by decide +kernel
theorem dX12_furtherLine_47 : decode cX12_furtherLine 47 = .ok (.dup2, 1) := by decide +kernel
theorem dX12_furtherLine_48 : decode cX12_furtherLine 48 = .ok (.iaload, 1) := by decide +kernel
theorem dX12_furtherLine_49 : decode cX12_furtherLine 49 = .ok (.iconst 1, 1) := by decide +kernel
theorem dX12_furtherLine_50 : decode cX12_furtherLine 50 = .ok (.iadd, 1) := by decide +kernel
theorem dX12_furtherLine_51 : decode cX12_furtherLine 51 = .ok (.iastore, 1) := by decide +kernel
theorem dX12_furtherLine_52 : decode cX12_furtherLine 52 = .ok (.iconst 1, 1) := by decide +kernel
theorem dX12_furtherLine_53 : decode cX12_furtherLine 53 = .ok (.ireturn, 1) := by decide +kernel
def is_X12_furtherLine : Nat → List Nat := fun d => []
set_option maxRecDepth 100000 in
def b_X12_furtherLine_52 (J : Nat → List qV → List qV → qW → Prop) (Q : qR) : qK := x_int 1 (x_zret Q)
set_option maxRecDepth 100000 in
theorem s_X12_furtherLine_52 {p : Program} {l : Launch} {e : Env} {R : Room} {s : State} {m : MethodId} {args : Array Value} {below : List Frame} {meth : Method} {c : Code} {nW : Nat} {dC : Nat → ClassId} {dI : Nat → Nat → Nat} {k : Nat → ClassId} {g : Nat → Nat} {A : Nat → Prop} {J : Nat → List qV → List qV → qW → Prop} {Q : qR} (X : q_X p R s m args meth c cX12_furtherLine 4 nW 4 91 RX12 (some .boolean) dC dI k g A) (hJ : ∀ d : Nat, q_Sd p l e R s m args below meth c 4 nW dC dI k g A (MQ below (q_post (dC, dI) k g nW Q A) args s 0 0 A) d (x_cut (is_X12_furtherLine d) (J d))) : q_Sd p l e R s m args below meth c 4 nW dC dI k g A (MQ below (q_post (dC, dI) k g nW Q A) args s 0 0 A) 52 (b_X12_furtherLine_52 J Q) := by
  unfold b_X12_furtherLine_52
  refine s_iconst X ⟨by decide, by decide⟩ dX12_furtherLine_52 ?_
  exact s_zret X dX12_furtherLine_53
set_option maxRecDepth 100000 in
def b_X12_furtherLine_39 (J : Nat → List qV → List qV → qW → Prop) (Q : qR) : qK := x_int 0 (x_iald (x_iast (x_nw (x_aload 0 (x_get 12 19 (x_iload 1 (x_dup2 (x_iald (x_int 1 (x_iadd (x_iast (x_nw (b_X12_furtherLine_52 J Q)))))))))))))
set_option maxRecDepth 100000 in
theorem s_X12_furtherLine_39 {p : Program} {l : Launch} {e : Env} {R : Room} {s : State} {m : MethodId} {args : Array Value} {below : List Frame} {meth : Method} {c : Code} {nW : Nat} {dC : Nat → ClassId} {dI : Nat → Nat → Nat} {k : Nat → ClassId} {g : Nat → Nat} {A : Nat → Prop} {J : Nat → List qV → List qV → qW → Prop} {Q : qR} (X : q_X p R s m args meth c cX12_furtherLine 4 nW 4 91 RX12 (some .boolean) dC dI k g A) (hJ : ∀ d : Nat, q_Sd p l e R s m args below meth c 4 nW dC dI k g A (MQ below (q_post (dC, dI) k g nW Q A) args s 0 0 A) d (x_cut (is_X12_furtherLine d) (J d))) : q_Sd p l e R s m args below meth c 4 nW dC dI k g A (MQ below (q_post (dC, dI) k g nW Q A) args s 0 0 A) 39 (b_X12_furtherLine_39 J Q) := by
  unfold b_X12_furtherLine_39
  refine s_iconst X ⟨by decide, by decide⟩ dX12_furtherLine_39 ?_
  refine s_iald X dX12_furtherLine_40 ?_
  refine s_iast X dX12_furtherLine_41 ?_
  refine s_nw ?_
  refine s_aload_n X rfl dX12_furtherLine_42 ?_
  refine s_get X (T := TX12) (C := RX12) (N := 45) tu_X12 rfl (by decide) tw_1016 dX12_furtherLine_43 ?_
  refine s_iload_n X rfl dX12_furtherLine_46 ?_
  refine s_dup2 X dX12_furtherLine_47 ?_
  refine s_iald X dX12_furtherLine_48 ?_
  refine s_iconst X ⟨by decide, by decide⟩ dX12_furtherLine_49 ?_
  refine s_iadd X dX12_furtherLine_50 ?_
  refine s_iast X dX12_furtherLine_51 ?_
  refine s_nw ?_
  exact s_X12_furtherLine_52 X hJ
set_option maxRecDepth 100000 in
def b_X12_furtherLine_0 (J : Nat → List qV → List qV → qW → Prop) (Q : qR) : qK := x_aload 0 (x_int 0 (x_int 1 (x_int 99 (x_call (some 12) 4 sp_X12_take (x_nw (x_if_ne (x_aload 0 (x_get 12 19 (x_iload 1 (x_iald (x_iload 3 (x_icmp_ge (b_X12_furtherLine_52 J Q) (x_aload 0 (x_get 12 19 (x_iload 2 (x_aload 0 (x_get 12 19 (x_iload 1 (x_iald (x_iadd (x_aload 0 (x_get 12 20 (b_X12_furtherLine_39 J Q))))))))))))))))) (x_int 0 (x_zret Q))))))))
set_option maxRecDepth 100000 in
theorem s_X12_furtherLine_0 {p : Program} {l : Launch} {e : Env} {R : Room} {s : State} {m : MethodId} {args : Array Value} {below : List Frame} {meth : Method} {c : Code} {nW : Nat} {dC : Nat → ClassId} {dI : Nat → Nat → Nat} {k : Nat → ClassId} {g : Nat → Nat} {A : Nat → Prop} {J : Nat → List qV → List qV → qW → Prop} {Q : qR} (X : q_X p R s m args meth c cX12_furtherLine 4 nW 4 91 RX12 (some .boolean) dC dI k g A) (hJ : ∀ d : Nat, q_Sd p l e R s m args below meth c 4 nW dC dI k g A (MQ below (q_post (dC, dI) k g nW Q A) args s 0 0 A) d (x_cut (is_X12_furtherLine d) (J d))) : q_Sd p l e R s m args below meth c 4 nW dC dI k g A (MQ below (q_post (dC, dI) k g nW Q A) args s 0 0 A) 0 (b_X12_furtherLine_0 J Q) := by
  unfold b_X12_furtherLine_0
  refine s_aload_n X rfl dX12_furtherLine_0 ?_
  refine s_iconst X ⟨by decide, by decide⟩ dX12_furtherLine_1 ?_
  refine s_iconst X ⟨by decide, by decide⟩ dX12_furtherLine_2 ?_
  refine s_bipush X ⟨by decide, by decide⟩ (by decide) dX12_furtherLine_3 ?_
  refine s_callV X (m_X12_take l) tw_1097 tw_1098 tw_1621 tw_134 tw_1099 rfl (by decide +kernel) ⟨by decide, by decide⟩ dX12_furtherLine_5 ?_
  refine s_nw ?_
  refine s_if_ne X (tgt := 13) dX12_furtherLine_8 (by decide) ?_ ?_
  · refine s_aload_n X rfl dX12_furtherLine_13 ?_
    refine s_get X (T := TX12) (C := RX12) (N := 45) tu_X12 rfl (by decide) tw_1016 dX12_furtherLine_14 ?_
    refine s_iload_n X rfl dX12_furtherLine_17 ?_
    refine s_iald X dX12_furtherLine_18 ?_
    refine s_iload_n X rfl dX12_furtherLine_19 ?_
    refine s_icmp_ge X (tgt := 52) dX12_furtherLine_20 (by decide) ?_ ?_
    · exact s_X12_furtherLine_52 X hJ
    · refine s_aload_n X rfl dX12_furtherLine_23 ?_
      refine s_get X (T := TX12) (C := RX12) (N := 45) tu_X12 rfl (by decide) tw_1016 dX12_furtherLine_24 ?_
      refine s_iload_n X rfl dX12_furtherLine_27 ?_
      refine s_aload_n X rfl dX12_furtherLine_28 ?_
      refine s_get X (T := TX12) (C := RX12) (N := 45) tu_X12 rfl (by decide) tw_1016 dX12_furtherLine_29 ?_
      refine s_iload_n X rfl dX12_furtherLine_32 ?_
      refine s_iald X dX12_furtherLine_33 ?_
      refine s_iadd X dX12_furtherLine_34 ?_
      refine s_aload_n X rfl dX12_furtherLine_35 ?_
      refine s_get X (T := TX12) (C := RX12) (N := 45) tu_X12 rfl (by decide) tw_1017 dX12_furtherLine_36 ?_
      exact s_X12_furtherLine_39 X hJ
  · refine s_iconst X ⟨by decide, by decide⟩ dX12_furtherLine_11 ?_
    exact s_zret X dX12_furtherLine_12

def sp_X12_furtherLine : qS := fun av w Q => ∃ (mco : Int) (mre : Int) (mle : Int) (mbe : Int) (mso : Int) (mva : Int) (mwo : Int) (mwr : Int) (mlf : Int) (mlp : Int) (mfp : Int) (mfd : Int) (mgo : Int) (mbo : Int) (mpe : Int) (mye : Int) (mpr : Int) (mld : Int) (msi : Int) (mse : Int) (tp : Nat → Int) (re : Nat → Int) (td : Nat → Int) (a : Int) (b : Int) (cc : Int), av = [q2 0, q1 a, q1 b, q1 cc] ∧ w = [.inr (12, [q1 mco, q2 1, q2 4, q2 5, q2 6, q2 7, q2 8, q2 9, q2 10, q2 11, q1 mre, q1 mle, q1 mbe, q1 mso, q1 mva, q3 mwo, q1 mwr, q1 mlf, q1 mlp, q2 3, q2 2, q1 mfp, q1 mfd, q1 mgo, q1 mbo, q1 mpe, q1 mye, q2 12, q1 mpr, q2 13, q2 14, q2 15, q2 16, q1 mld, q2 17, q1 msi, q2 18, q2 19, q2 20, q2 21, q2 22, q1 mse, q2 23, q2 24, q2 25]), .inl (1, 2400, .inl tp), .inl (0, 4, .inl re), .inl (0, 161, .inl td)] ∧ (0 ≤ mre ∧ mre ≤ mle ∧ mle ≤ 600) ∧ (BT td 0) ∧ ((a = 0 ∧ b = 5 ∧ cc = 8) ∨ (a = 3 ∧ b = 25 ∧ cc = 6) ∨ (a = 4 ∧ b = 37 ∧ cc = 6)) ∧ (∀ (r : Int) (x_mre : Int) (x_mbe : Int) (x_mso : Int) (x_mva : Int) (x_mwo : Int) (x_mwr : Int) (x_mlf : Int) (x_mlp : Int) (x_mgo : Int) (x_re : Nat → Int) (x_td : Nat → Int), ((r = 0 ∨ r = 1 ∧ (x_mso = 0 ∨ mre < x_mre)) ∧ mre ≤ x_mre ∧ x_mre ≤ mle ∧ BT x_td 0) → Q (some (q1 r)) ([.inr (12, [q1 mco, q2 1, q2 4, q2 5, q2 6, q2 7, q2 8, q2 9, q2 10, q2 11, q1 x_mre, q1 mle, q1 x_mbe, q1 x_mso, q1 x_mva, q3 x_mwo, q1 x_mwr, q1 x_mlf, q1 x_mlp, q2 3, q2 2, q1 mfp, q1 mfd, q1 x_mgo, q1 mbo, q1 mpe, q1 mye, q2 12, q1 mpr, q2 13, q2 14, q2 15, q2 16, q1 mld, q2 17, q1 msi, q2 18, q2 19, q2 20, q2 21, q2 22, q1 mse, q2 23, q2 24, q2 25]), .inl (1, 2400, .inl tp), .inl (0, 4, .inl x_re), .inl (0, 161, .inl x_td)]))
set_option maxHeartbeats 4000000 in
set_option maxRecDepth 100000 in
theorem m_X12_furtherLine (l : Launch) : q_M l yX12_furtherLine cX12_furtherLine 4 (some .boolean) 4 91 sp_X12_furtherLine := by
  refine q_meth (by decide) (fun av w Q h => by obtain ⟨mco, mre, mle, mbe, mso, mva, mwo, mwr, mlf, mlp, mfp, mfd, mgo, mbo, mpe, mye, mpr, mld, msi, mse, tp, re, td, a, b, cc, rfl, rfl, htp, hbt, ha, hQ⟩ := h; exact Nat.le_of_ble_eq_true rfl) ?_
  intro p e R s m args below meth c dC dI k g A av w Q hsp oka okw X
  obtain ⟨mco, mre, mle, mbe, mso, mva, mwo, mwr, mlf, mlp, mfp, mfd, mgo, mbo, mpe, mye, mpr, mld, msi, mse, tp, re, td, a, b, cc, rfl, rfl, htp, hbt, ha, hQ⟩ := hsp
  have o_a : -2147483648 ≤ a ∧ a ≤ 2147483647 := oka _ (List.mem_of_getElem? (i := 1) rfl)
  have o_b : -2147483648 ≤ b ∧ b ≤ 2147483647 := oka _ (List.mem_of_getElem? (i := 2) rfl)
  have o_cc : -2147483648 ≤ cc ∧ cc ≤ 2147483647 := oka _ (List.mem_of_getElem? (i := 3) rfl)
  refine s_mono (s_X12_furtherLine_0 X (J := fun _ _ _ _ => False) (fun d => s_cutF)) ?_
  rintro lv st w' ⟨rfl, rfl, rfl⟩
  refine Exists.intro [0, 1, 2, 4, 5, 6, 7, 8, 9, 10, 11, 3, 12, 13, 14, 15, 16, 17, 18, 19, 20, 21, 22, 23, 24, 25] (Exists.intro [q2 0, q1 _, q1 _, q1 _] (Exists.intro ([.inr (12, [q1 _, q2 1, q2 3, q2 4, q2 5, q2 6, q2 7, q2 8, q2 9, q2 10, q1 _, q1 _, q1 _, q1 _, q1 _, q3 _, q1 _, q1 _, q1 _, q2 11, q2 2, q1 _, q1 _, q1 _, q1 _, q1 _, q1 _, q2 12, q1 _, q2 13, q2 14, q2 15, q2 16, q1 _, q2 17, q1 _, q2 18, q2 19, q2 20, q2 21, q2 22, q1 _, q2 23, q2 24, q2 25]), .inl (1, 2400, .inl _), .inl (0, 4, .inl _)]) (And.intro rfl (And.intro rfl (And.intro rfl (And.intro ⟨⟨_, rfl⟩, rfl⟩ ?_))))))
  refine Exists.intro _ (Exists.intro _ (Exists.intro _ (Exists.intro _ (Exists.intro _ (Exists.intro _ (Exists.intro _ (Exists.intro _ (Exists.intro _ (Exists.intro _ (Exists.intro _ (Exists.intro _ (Exists.intro _ (Exists.intro _ (Exists.intro _ (Exists.intro _ (Exists.intro _ (Exists.intro _ (Exists.intro _ (Exists.intro _ (Exists.intro _ (Exists.intro _ (Exists.intro _ (Exists.intro _ (Exists.intro _ (And.intro rfl (And.intro rfl (And.intro (by first | omega | assumption | exact q_rg_up (by assumption) (by omega) | exact q_rg_up (q_rg_up (by assumption) (by omega)) (by omega) | exact q_rg_cpy (by assumption) (by assumption)) (And.intro (by first | omega | assumption | exact q_rg_up (by assumption) (by omega) | exact q_rg_up (q_rg_up (by assumption) (by omega)) (by omega) | exact q_rg_cpy (by assumption) (by assumption)) (?_)))))))))))))))))))))))))))))
  intro z5 x_mre_5 x_mbe_5 x_mso_5 x_mva_5 x_mwo_5 x_mwr_5 x_mlf_5 x_mlp_5 x_mgo_5 x_re_5 h5
  apply And.intro
  · intro h8
    apply And.intro
    · exact ⟨by omega, by omega⟩
    intro z18 h18
    have b18 := BT_cnt hbt ha h18
    apply And.intro
    · intro h20
      apply And.intro
      · first | exact Or.inl rfl | exact Or.inr rfl | omega
      exact hQ _ _ _ _ _ _ _ _ _ _ _ _ ⟨by omega, by omega, by omega, (by first | assumption | exact BT_up (BT_up hbt (by omega)) (by omega))⟩
    · intro h20
      apply And.intro
      · exact ⟨by omega, by omega⟩
      intro z33 h33
      intro z34 h34
      first | replace h34 := e_add h34 (by omega) | replace h34 := e_rng h34
      apply And.intro
      · exact ⟨by omega, by omega⟩
      intro z40 h40
      apply And.intro
      · exact ⟨by omega, by omega⟩
      apply And.intro
      · exact ⟨by omega, by omega⟩
      intro z48 h48
      rw [q_up_n (by omega)] at h48
      intro z50 h50
      first | replace h50 := e_add h50 (by omega) | replace h50 := e_rng h50
      apply And.intro
      · exact ⟨by omega, by omega⟩
      apply And.intro
      · first | exact Or.inl rfl | exact Or.inr rfl | omega
      exact hQ _ _ _ _ _ _ _ _ _ _ _ _ ⟨by omega, by omega, by omega, (by first | assumption | exact BT_up (BT_up hbt (by omega)) (by omega))⟩
  · intro h8
    apply And.intro
    · first | exact Or.inl rfl | exact Or.inr rfl | omega
    exact hQ _ _ _ _ _ _ _ _ _ _ _ _ ⟨by omega, by omega, by omega, (by first | assumption | exact BT_up (BT_up hbt (by omega)) (by omega))⟩

theorem dX12_poorLine_0 : decode cX12_poorLine 0 = .ok (.aload_n 0, 1) := by decide +kernel
theorem dX12_poorLine_1 : decode cX12_poorLine 1 = .ok (.iconst 0, 1) := by decide +kernel
theorem dX12_poorLine_2 : decode cX12_poorLine 2 = .ok (.iconst (-1), 1) := by decide +kernel
theorem dX12_poorLine_3 : decode cX12_poorLine 3 = .ok (.invokevirtual 177, 3) := by decide +kernel
theorem dX12_poorLine_6 : decode cX12_poorLine 6 = .ok (.ifCond .ne 5, 3) := by decide +kernel
theorem dX12_poorLine_9 : decode cX12_poorLine 9 = .ok (.iconst 0, 1) := by decide +kernel
theorem dX12_poorLine_10 : decode cX12_poorLine 10 = .ok (.ireturn, 1) := by decide +kernel
theorem dX12_poorLine_11 : decode cX12_poorLine 11 = .ok (.aload_n 0, 1) := by decide +kernel
theorem dX12_poorLine_12 : decode cX12_poorLine 12 = .ok (.getfield 38, 3) := by decide +kernel
theorem dX12_poorLine_15 : decode cX12_poorLine 15 = .ok (.iconst 1, 1) := by decide +kernel
theorem dX12_poorLine_16 : decode cX12_poorLine 16 = .ok (.dup2, 1) := by decide +kernel
theorem dX12_poorLine_17 : decode cX12_poorLine 17 = .ok (.iaload, 1) := by decide +kernel
theorem dX12_poorLine_18 : decode cX12_poorLine 18 = .ok (.aload_n 0, 1) := by decide +kernel
theorem dX12_poorLine_19 : decode cX12_poorLine 19 = .ok (.getfield 148, 3) := by decide +kernel
theorem dX12_poorLine_22 : decode cX12_poorLine 22 = .ok (.ifCond .eq 14, 3) := by decide +kernel
theorem dX12_poorLine_25 : decode cX12_poorLine 25 = .ok (.iconst 1, 1) := by decide +kernel
theorem dX12_poorLine_26 : decode cX12_poorLine 26 = .ok (.aload_n 0, 1) := by decide +kernel
theorem dX12_poorLine_27 : decode cX12_poorLine 27 = .ok (.getfield 41, 3) := by decide +kernel
theorem dX12_poorLine_30 : decode cX12_poorLine 30 = .ok (.iconst 0, 1) := by decide +kernel
theorem dX12_poorLine_31 : decode cX12_poorLine 31 = .ok (.iaload, 1) := by decide +kernel
theorem dX12_poorLine_32 : decode cX12_poorLine 32 = .ok (.ishl, 1) := by decide +kernel
theorem dX12_poorLine_33 : decode cX12_poorLine 33 = .ok (.goto 4, 3) := by decide +kernel
theorem dX12_poorLine_36 : decode cX12_poorLine 36 = .ok (.iconst 0, 1) := by decide +kernel
theorem dX12_poorLine_37 : decode cX12_poorLine 37 = .ok (.ior, 1) := by decide +kernel
theorem dX12_poorLine_38 : decode cX12_poorLine 38 = .ok (.iastore, 1) := by decide +kernel
theorem dX12_poorLine_39 : decode cX12_poorLine 39 = .ok (.iconst 1, 1) := by decide +kernel
theorem dX12_poorLine_40 : decode cX12_poorLine 40 = .ok (.ireturn, 1) := by decide +kernel
def is_X12_poorLine : Nat → List Nat := fun d => []
set_option maxRecDepth 100000 in
def b_X12_poorLine_37 (J : Nat → List qV → List qV → qW → Prop) (Q : qR) : qK := x_ior (x_iast (x_nw (x_int 1 (x_zret Q))))
set_option maxRecDepth 100000 in
theorem s_X12_poorLine_37 {p : Program} {l : Launch} {e : Env} {R : Room} {s : State} {m : MethodId} {args : Array Value} {below : List Frame} {meth : Method} {c : Code} {nW : Nat} {dC : Nat → ClassId} {dI : Nat → Nat → Nat} {k : Nat → ClassId} {g : Nat → Nat} {A : Nat → Prop} {J : Nat → List qV → List qV → qW → Prop} {Q : qR} (X : q_X p R s m args meth c cX12_poorLine 1 nW 4 90 RX12 (some .boolean) dC dI k g A) (hJ : ∀ d : Nat, q_Sd p l e R s m args below meth c 1 nW dC dI k g A (MQ below (q_post (dC, dI) k g nW Q A) args s 0 0 A) d (x_cut (is_X12_poorLine d) (J d))) : q_Sd p l e R s m args below meth c 1 nW dC dI k g A (MQ below (q_post (dC, dI) k g nW Q A) args s 0 0 A) 37 (b_X12_poorLine_37 J Q) := by
  unfold b_X12_poorLine_37
  refine s_ior X dX12_poorLine_37 ?_
  refine s_iast X dX12_poorLine_38 ?_
  refine s_nw ?_
  refine s_iconst X ⟨by decide, by decide⟩ dX12_poorLine_39 ?_
  exact s_zret X dX12_poorLine_40
set_option maxRecDepth 100000 in
def b_X12_poorLine_0 (J : Nat → List qV → List qV → qW → Prop) (Q : qR) : qK := x_aload 0 (x_int 0 (x_int (-1) (x_call (some 12) 3 sp_X12_takePerson (x_nw (x_if_ne (x_aload 0 (x_get 12 19 (x_int 1 (x_dup2 (x_iald (x_aload 0 (x_get 12 23 (x_if_eq (x_int 0 (b_X12_poorLine_37 J Q)) (x_int 1 (x_aload 0 (x_get 12 20 (x_int 0 (x_iald (x_ishl (b_X12_poorLine_37 J Q))))))))))))))) (x_int 0 (x_zret Q)))))))
set_option maxRecDepth 100000 in
theorem s_X12_poorLine_0 {p : Program} {l : Launch} {e : Env} {R : Room} {s : State} {m : MethodId} {args : Array Value} {below : List Frame} {meth : Method} {c : Code} {nW : Nat} {dC : Nat → ClassId} {dI : Nat → Nat → Nat} {k : Nat → ClassId} {g : Nat → Nat} {A : Nat → Prop} {J : Nat → List qV → List qV → qW → Prop} {Q : qR} (X : q_X p R s m args meth c cX12_poorLine 1 nW 4 90 RX12 (some .boolean) dC dI k g A) (hJ : ∀ d : Nat, q_Sd p l e R s m args below meth c 1 nW dC dI k g A (MQ below (q_post (dC, dI) k g nW Q A) args s 0 0 A) d (x_cut (is_X12_poorLine d) (J d))) : q_Sd p l e R s m args below meth c 1 nW dC dI k g A (MQ below (q_post (dC, dI) k g nW Q A) args s 0 0 A) 0 (b_X12_poorLine_0 J Q) := by
  unfold b_X12_poorLine_0
  refine s_aload_n X rfl dX12_poorLine_0 ?_
  refine s_iconst X ⟨by decide, by decide⟩ dX12_poorLine_1 ?_
  refine s_iconst X ⟨by decide, by decide⟩ dX12_poorLine_2 ?_
  refine s_callV X (m_X12_takePerson l) tw_1115 tw_1116 tw_1624 tw_134 tw_1117 rfl (by decide +kernel) ⟨by decide, by decide⟩ dX12_poorLine_3 ?_
  refine s_nw ?_
  refine s_if_ne X (tgt := 11) dX12_poorLine_6 (by decide) ?_ ?_
  · refine s_aload_n X rfl dX12_poorLine_11 ?_
    refine s_get X (T := TX12) (C := RX12) (N := 45) tu_X12 rfl (by decide) tw_1016 dX12_poorLine_12 ?_
    refine s_iconst X ⟨by decide, by decide⟩ dX12_poorLine_15 ?_
    refine s_dup2 X dX12_poorLine_16 ?_
    refine s_iald X dX12_poorLine_17 ?_
    refine s_aload_n X rfl dX12_poorLine_18 ?_
    refine s_get X (T := TX12) (C := RX12) (N := 45) tu_X12 rfl (by decide) tw_1020 dX12_poorLine_19 ?_
    refine s_if_eq X (tgt := 36) dX12_poorLine_22 (by decide) ?_ ?_
    · refine s_iconst X ⟨by decide, by decide⟩ dX12_poorLine_36 ?_
      exact s_X12_poorLine_37 X hJ
    · refine s_iconst X ⟨by decide, by decide⟩ dX12_poorLine_25 ?_
      refine s_aload_n X rfl dX12_poorLine_26 ?_
      refine s_get X (T := TX12) (C := RX12) (N := 45) tu_X12 rfl (by decide) tw_1017 dX12_poorLine_27 ?_
      refine s_iconst X ⟨by decide, by decide⟩ dX12_poorLine_30 ?_
      refine s_iald X dX12_poorLine_31 ?_
      refine s_ishl X dX12_poorLine_32 ?_
      refine s_goto X (tgt := 37) dX12_poorLine_33 (by decide) ?_
      exact s_X12_poorLine_37 X hJ
  · refine s_iconst X ⟨by decide, by decide⟩ dX12_poorLine_9 ?_
    exact s_zret X dX12_poorLine_10

def sp_X12_poorLine : qS := fun av w Q => ∃ (mco : Int) (mre : Int) (mle : Int) (mbe : Int) (mso : Int) (mva : Int) (mwo : Int) (mwr : Int) (mlf : Int) (mlp : Int) (mfp : Int) (mfd : Int) (mgo : Int) (mbo : Int) (mpe : Int) (mye : Int) (mpr : Int) (mld : Int) (msi : Int) (mse : Int) (tp : Nat → Int) (re : Nat → Int) (td : Nat → Int), av = [q2 0] ∧ w = [.inr (12, [q1 mco, q2 1, q2 4, q2 5, q2 6, q2 7, q2 8, q2 9, q2 10, q2 11, q1 mre, q1 mle, q1 mbe, q1 mso, q1 mva, q3 mwo, q1 mwr, q1 mlf, q1 mlp, q2 3, q2 2, q1 mfp, q1 mfd, q1 mgo, q1 mbo, q1 mpe, q1 mye, q2 12, q1 mpr, q2 13, q2 14, q2 15, q2 16, q1 mld, q2 17, q1 msi, q2 18, q2 19, q2 20, q2 21, q2 22, q1 mse, q2 23, q2 24, q2 25]), .inl (1, 2400, .inl tp), .inl (0, 4, .inl re), .inl (0, 161, .inl td)] ∧ (0 ≤ mre ∧ mre ≤ mle ∧ mle ≤ 600) ∧ (BT td 0) ∧ (∀ (r : Int) (x_mre : Int) (x_mbe : Int) (x_mso : Int) (x_mva : Int) (x_mwo : Int) (x_mwr : Int) (x_mlf : Int) (x_mlp : Int) (x_mgo : Int) (x_mfp : Int) (x_re : Nat → Int) (x_td : Nat → Int), ((r = 0 ∨ r = 1 ∧ (x_mso = 0 ∨ mre < x_mre)) ∧ mre ≤ x_mre ∧ x_mre ≤ mle ∧ BT x_td 0) → Q (some (q1 r)) ([.inr (12, [q1 mco, q2 1, q2 4, q2 5, q2 6, q2 7, q2 8, q2 9, q2 10, q2 11, q1 x_mre, q1 mle, q1 x_mbe, q1 x_mso, q1 x_mva, q3 x_mwo, q1 x_mwr, q1 x_mlf, q1 x_mlp, q2 3, q2 2, q1 x_mfp, q1 mfd, q1 x_mgo, q1 mbo, q1 mpe, q1 mye, q2 12, q1 mpr, q2 13, q2 14, q2 15, q2 16, q1 mld, q2 17, q1 msi, q2 18, q2 19, q2 20, q2 21, q2 22, q1 mse, q2 23, q2 24, q2 25]), .inl (1, 2400, .inl tp), .inl (0, 4, .inl x_re), .inl (0, 161, .inl x_td)]))
set_option maxHeartbeats 4000000 in
set_option maxRecDepth 100000 in
theorem m_X12_poorLine (l : Launch) : q_M l yX12_poorLine cX12_poorLine 1 (some .boolean) 4 90 sp_X12_poorLine := by
  refine q_meth (by decide) (fun av w Q h => by obtain ⟨mco, mre, mle, mbe, mso, mva, mwo, mwr, mlf, mlp, mfp, mfd, mgo, mbo, mpe, mye, mpr, mld, msi, mse, tp, re, td, rfl, rfl, htp, hbt, hQ⟩ := h; exact Nat.le_of_ble_eq_true rfl) ?_
  intro p e R s m args below meth c dC dI k g A av w Q hsp oka okw X
  obtain ⟨mco, mre, mle, mbe, mso, mva, mwo, mwr, mlf, mlp, mfp, mfd, mgo, mbo, mpe, mye, mpr, mld, msi, mse, tp, re, td, rfl, rfl, htp, hbt, hQ⟩ := hsp
  refine s_mono (s_X12_poorLine_0 X (J := fun _ _ _ _ => False) (fun d => s_cutF)) ?_
  rintro lv st w' ⟨rfl, rfl, rfl⟩
  refine Exists.intro [0, 1, 2, 4, 5, 6, 7, 8, 9, 10, 11, 3, 12, 13, 14, 15, 16, 17, 18, 19, 20, 21, 22, 23, 24, 25] (Exists.intro [q2 0, q1 _, q1 _] (Exists.intro ([.inr (12, [q1 _, q2 1, q2 3, q2 4, q2 5, q2 6, q2 7, q2 8, q2 9, q2 10, q1 _, q1 _, q1 _, q1 _, q1 _, q3 _, q1 _, q1 _, q1 _, q2 11, q2 2, q1 _, q1 _, q1 _, q1 _, q1 _, q1 _, q2 12, q1 _, q2 13, q2 14, q2 15, q2 16, q1 _, q2 17, q1 _, q2 18, q2 19, q2 20, q2 21, q2 22, q1 _, q2 23, q2 24, q2 25]), .inl (1, 2400, .inl _), .inl (0, 4, .inl _)]) (And.intro rfl (And.intro rfl (And.intro rfl (And.intro ⟨⟨_, rfl⟩, rfl⟩ ?_))))))
  refine Exists.intro _ (Exists.intro _ (Exists.intro _ (Exists.intro _ (Exists.intro _ (Exists.intro _ (Exists.intro _ (Exists.intro _ (Exists.intro _ (Exists.intro _ (Exists.intro _ (Exists.intro _ (Exists.intro _ (Exists.intro _ (Exists.intro _ (Exists.intro _ (Exists.intro _ (Exists.intro _ (Exists.intro _ (Exists.intro _ (Exists.intro _ (Exists.intro _ (Exists.intro _ (Exists.intro _ (And.intro rfl (And.intro rfl (And.intro (by first | omega | assumption | exact q_rg_up (by assumption) (by omega) | exact q_rg_up (q_rg_up (by assumption) (by omega)) (by omega) | exact q_rg_cpy (by assumption) (by assumption)) (And.intro (by first | omega | assumption | exact q_rg_up (by assumption) (by omega) | exact q_rg_up (q_rg_up (by assumption) (by omega)) (by omega) | exact q_rg_cpy (by assumption) (by assumption)) (?_))))))))))))))))))))))))))))
  intro z3 x_mre_3 x_mbe_3 x_mso_3 x_mva_3 x_mwo_3 x_mwr_3 x_mlf_3 x_mlp_3 x_mgo_3 x_mfp_3 x_re_3 h3
  apply And.intro
  · intro h6
    apply And.intro
    · exact ⟨by omega, by omega⟩
    intro z17 h17
    apply And.intro
    · intro h22
      intro z37 h37
      first | replace h37 := e_or8 h37 (by omega) (by omega) | replace h37 := e_or9 h37 (by omega) (by omega) | replace h37 := e_rng h37
      apply And.intro
      · exact ⟨by omega, by omega⟩
      apply And.intro
      · first | exact Or.inl rfl | exact Or.inr rfl | omega
      exact hQ _ _ _ _ _ _ _ _ _ _ _ _ _ ⟨by omega, by omega, by omega, (by first | assumption | exact BT_up hbt (by omega))⟩
    · intro h22
      apply And.intro
      · exact ⟨by omega, by omega⟩
      intro z31 h31
      intro z32 h32
      first | replace h32 := e_shl h32 (by omega) | replace h32 := e_rng h32
      intro z37 h37
      first | replace h37 := e_or8 h37 (by omega) (by omega) | replace h37 := e_or9 h37 (by omega) (by omega) | replace h37 := e_rng h37
      apply And.intro
      · exact ⟨by omega, by omega⟩
      apply And.intro
      · first | exact Or.inl rfl | exact Or.inr rfl | omega
      exact hQ _ _ _ _ _ _ _ _ _ _ _ _ _ ⟨by omega, by omega, by omega, (by first | assumption | exact BT_up hbt (by omega))⟩
  · intro h6
    apply And.intro
    · first | exact Or.inl rfl | exact Or.inr rfl | omega
    exact hQ _ _ _ _ _ _ _ _ _ _ _ _ _ ⟨by omega, by omega, by omega, (by first | assumption | exact BT_up hbt (by omega))⟩

theorem dX12_caughtLine_0 : decode cX12_caughtLine 0 = .ok (.aload_n 0, 1) := by decide +kernel
theorem dX12_caughtLine_1 : decode cX12_caughtLine 1 = .ok (.iconst 0, 1) := by decide +kernel
theorem dX12_caughtLine_2 : decode cX12_caughtLine 2 = .ok (.iconst 0, 1) := by decide +kernel
theorem dX12_caughtLine_3 : decode cX12_caughtLine 3 = .ok (.bipush 10, 2) := by decide +kernel
theorem dX12_caughtLine_5 : decode cX12_caughtLine 5 = .ok (.invokevirtual 174, 3) := by decide +kernel
theorem dX12_caughtLine_8 : decode cX12_caughtLine 8 = .ok (.ifCond .ne 5, 3) := by decide +kernel
theorem dX12_caughtLine_11 : decode cX12_caughtLine 11 = .ok (.iconst 0, 1) := by decide +kernel
theorem dX12_caughtLine_12 : decode cX12_caughtLine 12 = .ok (.ireturn, 1) := by decide +kernel
theorem dX12_caughtLine_13 : decode cX12_caughtLine 13 = .ok (.aload_n 0, 1) := by decide +kernel
theorem dX12_caughtLine_14 : decode cX12_caughtLine 14 = .ok (.getfield 38, 3) := by decide +kernel
theorem dX12_caughtLine_17 : decode cX12_caughtLine 17 = .ok (.iconst 2, 1) := by decide +kernel
theorem dX12_caughtLine_18 : decode cX12_caughtLine 18 = .ok (.aload_n 0, 1) := by decide +kernel
theorem dX12_caughtLine_19 : decode cX12_caughtLine 19 = .ok (.getfield 41, 3) := by decide +kernel
theorem dX12_caughtLine_22 : decode cX12_caughtLine 22 = .ok (.iconst 0, 1) := by decide +kernel
theorem dX12_caughtLine_23 : decode cX12_caughtLine 23 = .ok (.iaload, 1) := by decide +kernel
theorem dX12_caughtLine_24 : decode cX12_caughtLine 24 = .ok (.iastore, 1) := by decide +kernel
theorem dX12_caughtLine_25 : decode cX12_caughtLine 25 = .ok (.iconst 1, 1) := by decide +kernel
theorem dX12_caughtLine_26 : decode cX12_caughtLine 26 = .ok (.ireturn, 1) := by decide +kernel
def is_X12_caughtLine : Nat → List Nat := fun d => []
set_option maxRecDepth 100000 in
def b_X12_caughtLine_0 (J : Nat → List qV → List qV → qW → Prop) (Q : qR) : qK := x_aload 0 (x_int 0 (x_int 0 (x_int 10 (x_call (some 12) 4 sp_X12_take (x_nw (x_if_ne (x_aload 0 (x_get 12 19 (x_int 2 (x_aload 0 (x_get 12 20 (x_int 0 (x_iald (x_iast (x_nw (x_int 1 (x_zret Q))))))))))) (x_int 0 (x_zret Q))))))))
set_option maxRecDepth 100000 in
theorem s_X12_caughtLine_0 {p : Program} {l : Launch} {e : Env} {R : Room} {s : State} {m : MethodId} {args : Array Value} {below : List Frame} {meth : Method} {c : Code} {nW : Nat} {dC : Nat → ClassId} {dI : Nat → Nat → Nat} {k : Nat → ClassId} {g : Nat → Nat} {A : Nat → Prop} {J : Nat → List qV → List qV → qW → Prop} {Q : qR} (X : q_X p R s m args meth c cX12_caughtLine 1 nW 4 91 RX12 (some .boolean) dC dI k g A) (hJ : ∀ d : Nat, q_Sd p l e R s m args below meth c 1 nW dC dI k g A (MQ below (q_post (dC, dI) k g nW Q A) args s 0 0 A) d (x_cut (is_X12_caughtLine d) (J d))) : q_Sd p l e R s m args below meth c 1 nW dC dI k g A (MQ below (q_post (dC, dI) k g nW Q A) args s 0 0 A) 0 (b_X12_caughtLine_0 J Q) := by
  unfold b_X12_caughtLine_0
  refine s_aload_n X rfl dX12_caughtLine_0 ?_
  refine s_iconst X ⟨by decide, by decide⟩ dX12_caughtLine_1 ?_
  refine s_iconst X ⟨by decide, by decide⟩ dX12_caughtLine_2 ?_
  refine s_bipush X ⟨by decide, by decide⟩ (by decide) dX12_caughtLine_3 ?_
  refine s_callV X (m_X12_take l) tw_1097 tw_1098 tw_1621 tw_134 tw_1099 rfl (by decide +kernel) ⟨by decide, by decide⟩ dX12_caughtLine_5 ?_
  refine s_nw ?_
  refine s_if_ne X (tgt := 13) dX12_caughtLine_8 (by decide) ?_ ?_
  · refine s_aload_n X rfl dX12_caughtLine_13 ?_
    refine s_get X (T := TX12) (C := RX12) (N := 45) tu_X12 rfl (by decide) tw_1016 dX12_caughtLine_14 ?_
    refine s_iconst X ⟨by decide, by decide⟩ dX12_caughtLine_17 ?_
    refine s_aload_n X rfl dX12_caughtLine_18 ?_
    refine s_get X (T := TX12) (C := RX12) (N := 45) tu_X12 rfl (by decide) tw_1017 dX12_caughtLine_19 ?_
    refine s_iconst X ⟨by decide, by decide⟩ dX12_caughtLine_22 ?_
    refine s_iald X dX12_caughtLine_23 ?_
    refine s_iast X dX12_caughtLine_24 ?_
    refine s_nw ?_
    refine s_iconst X ⟨by decide, by decide⟩ dX12_caughtLine_25 ?_
    exact s_zret X dX12_caughtLine_26
  · refine s_iconst X ⟨by decide, by decide⟩ dX12_caughtLine_11 ?_
    exact s_zret X dX12_caughtLine_12

def sp_X12_caughtLine : qS := fun av w Q => ∃ (mco : Int) (mre : Int) (mle : Int) (mbe : Int) (mso : Int) (mva : Int) (mwo : Int) (mwr : Int) (mlf : Int) (mlp : Int) (mfp : Int) (mfd : Int) (mgo : Int) (mbo : Int) (mpe : Int) (mye : Int) (mpr : Int) (mld : Int) (msi : Int) (mse : Int) (tp : Nat → Int) (re : Nat → Int) (td : Nat → Int), av = [q2 0] ∧ w = [.inr (12, [q1 mco, q2 1, q2 4, q2 5, q2 6, q2 7, q2 8, q2 9, q2 10, q2 11, q1 mre, q1 mle, q1 mbe, q1 mso, q1 mva, q3 mwo, q1 mwr, q1 mlf, q1 mlp, q2 3, q2 2, q1 mfp, q1 mfd, q1 mgo, q1 mbo, q1 mpe, q1 mye, q2 12, q1 mpr, q2 13, q2 14, q2 15, q2 16, q1 mld, q2 17, q1 msi, q2 18, q2 19, q2 20, q2 21, q2 22, q1 mse, q2 23, q2 24, q2 25]), .inl (1, 2400, .inl tp), .inl (0, 4, .inl re), .inl (0, 161, .inl td)] ∧ (0 ≤ mre ∧ mre ≤ mle ∧ mle ≤ 600) ∧ (BT td 0) ∧ (∀ (r : Int) (x_mre : Int) (x_mbe : Int) (x_mso : Int) (x_mva : Int) (x_mwo : Int) (x_mwr : Int) (x_mlf : Int) (x_mlp : Int) (x_mgo : Int) (x_re : Nat → Int) (x_td : Nat → Int), ((r = 0 ∨ r = 1 ∧ (x_mso = 0 ∨ mre < x_mre)) ∧ mre ≤ x_mre ∧ x_mre ≤ mle ∧ BT x_td 0) → Q (some (q1 r)) ([.inr (12, [q1 mco, q2 1, q2 4, q2 5, q2 6, q2 7, q2 8, q2 9, q2 10, q2 11, q1 x_mre, q1 mle, q1 x_mbe, q1 x_mso, q1 x_mva, q3 x_mwo, q1 x_mwr, q1 x_mlf, q1 x_mlp, q2 3, q2 2, q1 mfp, q1 mfd, q1 x_mgo, q1 mbo, q1 mpe, q1 mye, q2 12, q1 mpr, q2 13, q2 14, q2 15, q2 16, q1 mld, q2 17, q1 msi, q2 18, q2 19, q2 20, q2 21, q2 22, q1 mse, q2 23, q2 24, q2 25]), .inl (1, 2400, .inl tp), .inl (0, 4, .inl x_re), .inl (0, 161, .inl x_td)]))
set_option maxHeartbeats 4000000 in
set_option maxRecDepth 100000 in
theorem m_X12_caughtLine (l : Launch) : q_M l yX12_caughtLine cX12_caughtLine 1 (some .boolean) 4 91 sp_X12_caughtLine := by
  refine q_meth (by decide) (fun av w Q h => by obtain ⟨mco, mre, mle, mbe, mso, mva, mwo, mwr, mlf, mlp, mfp, mfd, mgo, mbo, mpe, mye, mpr, mld, msi, mse, tp, re, td, rfl, rfl, htp, hbt, hQ⟩ := h; exact Nat.le_of_ble_eq_true rfl) ?_
  intro p e R s m args below meth c dC dI k g A av w Q hsp oka okw X
  obtain ⟨mco, mre, mle, mbe, mso, mva, mwo, mwr, mlf, mlp, mfp, mfd, mgo, mbo, mpe, mye, mpr, mld, msi, mse, tp, re, td, rfl, rfl, htp, hbt, hQ⟩ := hsp
  refine s_mono (s_X12_caughtLine_0 X (J := fun _ _ _ _ => False) (fun d => s_cutF)) ?_
  rintro lv st w' ⟨rfl, rfl, rfl⟩
  refine Exists.intro [0, 1, 2, 4, 5, 6, 7, 8, 9, 10, 11, 3, 12, 13, 14, 15, 16, 17, 18, 19, 20, 21, 22, 23, 24, 25] (Exists.intro [q2 0, q1 _, q1 _, q1 _] (Exists.intro ([.inr (12, [q1 _, q2 1, q2 3, q2 4, q2 5, q2 6, q2 7, q2 8, q2 9, q2 10, q1 _, q1 _, q1 _, q1 _, q1 _, q3 _, q1 _, q1 _, q1 _, q2 11, q2 2, q1 _, q1 _, q1 _, q1 _, q1 _, q1 _, q2 12, q1 _, q2 13, q2 14, q2 15, q2 16, q1 _, q2 17, q1 _, q2 18, q2 19, q2 20, q2 21, q2 22, q1 _, q2 23, q2 24, q2 25]), .inl (1, 2400, .inl _), .inl (0, 4, .inl _)]) (And.intro rfl (And.intro rfl (And.intro rfl (And.intro ⟨⟨_, rfl⟩, rfl⟩ ?_))))))
  refine Exists.intro _ (Exists.intro _ (Exists.intro _ (Exists.intro _ (Exists.intro _ (Exists.intro _ (Exists.intro _ (Exists.intro _ (Exists.intro _ (Exists.intro _ (Exists.intro _ (Exists.intro _ (Exists.intro _ (Exists.intro _ (Exists.intro _ (Exists.intro _ (Exists.intro _ (Exists.intro _ (Exists.intro _ (Exists.intro _ (Exists.intro _ (Exists.intro _ (Exists.intro _ (Exists.intro _ (Exists.intro _ (And.intro rfl (And.intro rfl (And.intro (by first | omega | assumption | exact q_rg_up (by assumption) (by omega) | exact q_rg_up (q_rg_up (by assumption) (by omega)) (by omega) | exact q_rg_cpy (by assumption) (by assumption)) (And.intro (by first | omega | assumption | exact q_rg_up (by assumption) (by omega) | exact q_rg_up (q_rg_up (by assumption) (by omega)) (by omega) | exact q_rg_cpy (by assumption) (by assumption)) (?_)))))))))))))))))))))))))))))
  intro z5 x_mre_5 x_mbe_5 x_mso_5 x_mva_5 x_mwo_5 x_mwr_5 x_mlf_5 x_mlp_5 x_mgo_5 x_re_5 h5
  apply And.intro
  · intro h8
    apply And.intro
    · exact ⟨by omega, by omega⟩
    intro z23 h23
    apply And.intro
    · exact ⟨by omega, by omega⟩
    apply And.intro
    · first | exact Or.inl rfl | exact Or.inr rfl | omega
    exact hQ _ _ _ _ _ _ _ _ _ _ _ _ ⟨by omega, by omega, by omega, (by first | assumption | exact BT_up hbt (by omega))⟩
  · intro h8
    apply And.intro
    · first | exact Or.inl rfl | exact Or.inr rfl | omega
    exact hQ _ _ _ _ _ _ _ _ _ _ _ _ ⟨by omega, by omega, by omega, (by first | assumption | exact BT_up hbt (by omega))⟩

theorem dX12_childLine_0 : decode cX12_childLine 0 = .ok (.aload_n 0, 1) := by decide +kernel
theorem dX12_childLine_1 : decode cX12_childLine 1 = .ok (.iconst 0, 1) := by decide +kernel
theorem dX12_childLine_2 : decode cX12_childLine 2 = .ok (.iconst (-1), 1) := by decide +kernel
theorem dX12_childLine_3 : decode cX12_childLine 3 = .ok (.invokevirtual 177, 3) := by decide +kernel
theorem dX12_childLine_6 : decode cX12_childLine 6 = .ok (.ifCond .eq 17, 3) := by decide +kernel
theorem dX12_childLine_9 : decode cX12_childLine 9 = .ok (.aload_n 0, 1) := by decide +kernel
theorem dX12_childLine_10 : decode cX12_childLine 10 = .ok (.iconst 1, 1) := by decide +kernel
theorem dX12_childLine_11 : decode cX12_childLine 11 = .ok (.aload_n 0, 1) := by decide +kernel
theorem dX12_childLine_12 : decode cX12_childLine 12 = .ok (.getfield 41, 3) := by decide +kernel
theorem dX12_childLine_15 : decode cX12_childLine 15 = .ok (.iconst 0, 1) := by decide +kernel
theorem dX12_childLine_16 : decode cX12_childLine 16 = .ok (.iaload, 1) := by decide +kernel
theorem dX12_childLine_17 : decode cX12_childLine 17 = .ok (.invokevirtual 177, 3) := by decide +kernel
theorem dX12_childLine_20 : decode cX12_childLine 20 = .ok (.ifCond .ne 5, 3) := by decide +kernel
theorem dX12_childLine_23 : decode cX12_childLine 23 = .ok (.iconst 0, 1) := by decide +kernel
theorem dX12_childLine_24 : decode cX12_childLine 24 = .ok (.ireturn, 1) := by decide +kernel
theorem dX12_childLine_25 : decode cX12_childLine 25 = .ok (.aload_n 0, 1) := by decide +kernel
theorem dX12_childLine_26 : decode cX12_childLine 26 = .ok (.getfield 148, 3) := by decide +kernel
theorem dX12_childLine_29 : decode cX12_childLine 29 = .ok (.ifCond .eq 23, 3) := by decide +kernel
theorem dX12_childLine_32 : decode cX12_childLine 32 = .ok (.aload_n 0, 1) := by decide +kernel
theorem dX12_childLine_33 : decode cX12_childLine 33 = .ok (.getfield 38, 3) := by decide +kernel
theorem dX12_childLine_36 : decode cX12_childLine 36 = .ok (.bipush 13, 2) := by decide +kernel
theorem dX12_childLine_38 : decode cX12_childLine 38 = .ok (.aload_n 0, 1) := by decide +kernel
theorem dX12_childLine_39 : decode cX12_childLine 39 = .ok (.getfield 41, 3) := by decide +kernel
theorem dX12_childLine_42 : decode cX12_childLine 42 = .ok (.iconst 0, 1) := by decide +kernel
theorem dX12_childLine_43 : decode cX12_childLine 43 = .ok (.iaload, 1) := by decide +kernel
theorem dX12_childLine_44 : decode cX12_childLine 44 = .ok (.iadd, 1) := by decide +kernel
theorem dX12_childLine_45 : decode cX12_childLine 45 = .ok (.aload_n 0, 1) := by decide +kernel
theorem dX12_childLine_46 : decode cX12_childLine 46 = .ok (.getfield 41, 3) := by decide +kernel
theorem dX12_childLine_49 : decode cX12_childLine 49 = .ok (.iconst 1, 1) := by decide +kernel
theorem dX12_childLine_50 : decode cX12_childLine 50 = .ok (.iaload, 1) := by decide +kernel
theorem dX12_childLine_51 : decode cX12_childLine 51 = .ok (.iastore, 1) := by decide +kernel
theorem dX12_childLine_52 : decode cX12_childLine 52 = .ok (.iconst 1, 1) := by decide +kernel
theorem dX12_childLine_53 : decode cX12_childLine 53 = .ok (.ireturn, 1) := by decide +kernel
def is_X12_childLine : Nat → List Nat := fun d => []
set_option maxRecDepth 100000 in
def b_X12_childLine_52 (J : Nat → List qV → List qV → qW → Prop) (Q : qR) : qK := x_int 1 (x_zret Q)
set_option maxRecDepth 100000 in
theorem s_X12_childLine_52 {p : Program} {l : Launch} {e : Env} {R : Room} {s : State} {m : MethodId} {args : Array Value} {below : List Frame} {meth : Method} {c : Code} {nW : Nat} {dC : Nat → ClassId} {dI : Nat → Nat → Nat} {k : Nat → ClassId} {g : Nat → Nat} {A : Nat → Prop} {J : Nat → List qV → List qV → qW → Prop} {Q : qR} (X : q_X p R s m args meth c cX12_childLine 1 nW 4 90 RX12 (some .boolean) dC dI k g A) (hJ : ∀ d : Nat, q_Sd p l e R s m args below meth c 1 nW dC dI k g A (MQ below (q_post (dC, dI) k g nW Q A) args s 0 0 A) d (x_cut (is_X12_childLine d) (J d))) : q_Sd p l e R s m args below meth c 1 nW dC dI k g A (MQ below (q_post (dC, dI) k g nW Q A) args s 0 0 A) 52 (b_X12_childLine_52 J Q) := by
  unfold b_X12_childLine_52
  refine s_iconst X ⟨by decide, by decide⟩ dX12_childLine_52 ?_
  exact s_zret X dX12_childLine_53
set_option maxRecDepth 100000 in
def b_X12_childLine_23 (J : Nat → List qV → List qV → qW → Prop) (Q : qR) : qK := x_int 0 (x_zret Q)
set_option maxRecDepth 100000 in
theorem s_X12_childLine_23 {p : Program} {l : Launch} {e : Env} {R : Room} {s : State} {m : MethodId} {args : Array Value} {below : List Frame} {meth : Method} {c : Code} {nW : Nat} {dC : Nat → ClassId} {dI : Nat → Nat → Nat} {k : Nat → ClassId} {g : Nat → Nat} {A : Nat → Prop} {J : Nat → List qV → List qV → qW → Prop} {Q : qR} (X : q_X p R s m args meth c cX12_childLine 1 nW 4 90 RX12 (some .boolean) dC dI k g A) (hJ : ∀ d : Nat, q_Sd p l e R s m args below meth c 1 nW dC dI k g A (MQ below (q_post (dC, dI) k g nW Q A) args s 0 0 A) d (x_cut (is_X12_childLine d) (J d))) : q_Sd p l e R s m args below meth c 1 nW dC dI k g A (MQ below (q_post (dC, dI) k g nW Q A) args s 0 0 A) 23 (b_X12_childLine_23 J Q) := by
  unfold b_X12_childLine_23
  refine s_iconst X ⟨by decide, by decide⟩ dX12_childLine_23 ?_
  exact s_zret X dX12_childLine_24
set_option maxRecDepth 100000 in
def b_X12_childLine_0 (J : Nat → List qV → List qV → qW → Prop) (Q : qR) : qK := x_aload 0 (x_int 0 (x_int (-1) (x_call (some 12) 3 sp_X12_takePerson (x_nw (x_if_eq (b_X12_childLine_23 J Q) (x_aload 0 (x_int 1 (x_aload 0 (x_get 12 20 (x_int 0 (x_iald (x_call (some 12) 3 sp_X12_takePerson (x_nw (x_if_ne (x_aload 0 (x_get 12 23 (x_if_eq (b_X12_childLine_52 J Q) (x_aload 0 (x_get 12 19 (x_int 13 (x_aload 0 (x_get 12 20 (x_int 0 (x_iald (x_iadd (x_aload 0 (x_get 12 20 (x_int 1 (x_iald (x_iast (x_nw (b_X12_childLine_52 J Q)))))))))))))))))) (b_X12_childLine_23 J Q)))))))))))))))
set_option maxRecDepth 100000 in
theorem s_X12_childLine_0 {p : Program} {l : Launch} {e : Env} {R : Room} {s : State} {m : MethodId} {args : Array Value} {below : List Frame} {meth : Method} {c : Code} {nW : Nat} {dC : Nat → ClassId} {dI : Nat → Nat → Nat} {k : Nat → ClassId} {g : Nat → Nat} {A : Nat → Prop} {J : Nat → List qV → List qV → qW → Prop} {Q : qR} (X : q_X p R s m args meth c cX12_childLine 1 nW 4 90 RX12 (some .boolean) dC dI k g A) (hJ : ∀ d : Nat, q_Sd p l e R s m args below meth c 1 nW dC dI k g A (MQ below (q_post (dC, dI) k g nW Q A) args s 0 0 A) d (x_cut (is_X12_childLine d) (J d))) : q_Sd p l e R s m args below meth c 1 nW dC dI k g A (MQ below (q_post (dC, dI) k g nW Q A) args s 0 0 A) 0 (b_X12_childLine_0 J Q) := by
  unfold b_X12_childLine_0
  refine s_aload_n X rfl dX12_childLine_0 ?_
  refine s_iconst X ⟨by decide, by decide⟩ dX12_childLine_1 ?_
  refine s_iconst X ⟨by decide, by decide⟩ dX12_childLine_2 ?_
  refine s_callV X (m_X12_takePerson l) tw_1115 tw_1116 tw_1624 tw_134 tw_1117 rfl (by decide +kernel) ⟨by decide, by decide⟩ dX12_childLine_3 ?_
  refine s_nw ?_
  refine s_if_eq X (tgt := 23) dX12_childLine_6 (by decide) ?_ ?_
  · exact s_X12_childLine_23 X hJ
  · refine s_aload_n X rfl dX12_childLine_9 ?_
    refine s_iconst X ⟨by decide, by decide⟩ dX12_childLine_10 ?_
    refine s_aload_n X rfl dX12_childLine_11 ?_
    refine s_get X (T := TX12) (C := RX12) (N := 45) tu_X12 rfl (by decide) tw_1017 dX12_childLine_12 ?_
    refine s_iconst X ⟨by decide, by decide⟩ dX12_childLine_15 ?_
    refine s_iald X dX12_childLine_16 ?_
    refine s_callV X (m_X12_takePerson l) tw_1115 tw_1116 tw_1624 tw_134 tw_1117 rfl (by decide +kernel) ⟨by decide, by decide⟩ dX12_childLine_17 ?_
    refine s_nw ?_
    refine s_if_ne X (tgt := 25) dX12_childLine_20 (by decide) ?_ ?_
    · refine s_aload_n X rfl dX12_childLine_25 ?_
      refine s_get X (T := TX12) (C := RX12) (N := 45) tu_X12 rfl (by decide) tw_1020 dX12_childLine_26 ?_
      refine s_if_eq X (tgt := 52) dX12_childLine_29 (by decide) ?_ ?_
      · exact s_X12_childLine_52 X hJ
      · refine s_aload_n X rfl dX12_childLine_32 ?_
        refine s_get X (T := TX12) (C := RX12) (N := 45) tu_X12 rfl (by decide) tw_1016 dX12_childLine_33 ?_
        refine s_bipush X ⟨by decide, by decide⟩ (by decide) dX12_childLine_36 ?_
        refine s_aload_n X rfl dX12_childLine_38 ?_
        refine s_get X (T := TX12) (C := RX12) (N := 45) tu_X12 rfl (by decide) tw_1017 dX12_childLine_39 ?_
        refine s_iconst X ⟨by decide, by decide⟩ dX12_childLine_42 ?_
        refine s_iald X dX12_childLine_43 ?_
        refine s_iadd X dX12_childLine_44 ?_
        refine s_aload_n X rfl dX12_childLine_45 ?_
        refine s_get X (T := TX12) (C := RX12) (N := 45) tu_X12 rfl (by decide) tw_1017 dX12_childLine_46 ?_
        refine s_iconst X ⟨by decide, by decide⟩ dX12_childLine_49 ?_
        refine s_iald X dX12_childLine_50 ?_
        refine s_iast X dX12_childLine_51 ?_
        refine s_nw ?_
        exact s_X12_childLine_52 X hJ
    · exact s_X12_childLine_23 X hJ

def sp_X12_childLine : qS := fun av w Q => ∃ (mco : Int) (mre : Int) (mle : Int) (mbe : Int) (mso : Int) (mva : Int) (mwo : Int) (mwr : Int) (mlf : Int) (mlp : Int) (mfp : Int) (mfd : Int) (mgo : Int) (mbo : Int) (mpe : Int) (mye : Int) (mpr : Int) (mld : Int) (msi : Int) (mse : Int) (tp : Nat → Int) (re : Nat → Int) (td : Nat → Int), av = [q2 0] ∧ w = [.inr (12, [q1 mco, q2 1, q2 4, q2 5, q2 6, q2 7, q2 8, q2 9, q2 10, q2 11, q1 mre, q1 mle, q1 mbe, q1 mso, q1 mva, q3 mwo, q1 mwr, q1 mlf, q1 mlp, q2 3, q2 2, q1 mfp, q1 mfd, q1 mgo, q1 mbo, q1 mpe, q1 mye, q2 12, q1 mpr, q2 13, q2 14, q2 15, q2 16, q1 mld, q2 17, q1 msi, q2 18, q2 19, q2 20, q2 21, q2 22, q1 mse, q2 23, q2 24, q2 25]), .inl (1, 2400, .inl tp), .inl (0, 4, .inl re), .inl (0, 161, .inl td)] ∧ (0 ≤ mre ∧ mre ≤ mle ∧ mle ≤ 600) ∧ (BT td 0) ∧ (∀ (r : Int) (x_mre : Int) (x_mbe : Int) (x_mso : Int) (x_mva : Int) (x_mwo : Int) (x_mwr : Int) (x_mlf : Int) (x_mlp : Int) (x_mgo : Int) (x_mfp : Int) (x_re : Nat → Int) (x_td : Nat → Int), ((r = 0 ∨ r = 1 ∧ (x_mso = 0 ∨ mre < x_mre)) ∧ mre ≤ x_mre ∧ x_mre ≤ mle ∧ BT x_td 0) → Q (some (q1 r)) ([.inr (12, [q1 mco, q2 1, q2 4, q2 5, q2 6, q2 7, q2 8, q2 9, q2 10, q2 11, q1 x_mre, q1 mle, q1 x_mbe, q1 x_mso, q1 x_mva, q3 x_mwo, q1 x_mwr, q1 x_mlf, q1 x_mlp, q2 3, q2 2, q1 x_mfp, q1 mfd, q1 x_mgo, q1 mbo, q1 mpe, q1 mye, q2 12, q1 mpr, q2 13, q2 14, q2 15, q2 16, q1 mld, q2 17, q1 msi, q2 18, q2 19, q2 20, q2 21, q2 22, q1 mse, q2 23, q2 24, q2 25]), .inl (1, 2400, .inl tp), .inl (0, 4, .inl x_re), .inl (0, 161, .inl x_td)]))
set_option maxHeartbeats 4000000 in
set_option maxRecDepth 100000 in
theorem m_X12_childLine (l : Launch) : q_M l yX12_childLine cX12_childLine 1 (some .boolean) 4 90 sp_X12_childLine := by
  refine q_meth (by decide) (fun av w Q h => by obtain ⟨mco, mre, mle, mbe, mso, mva, mwo, mwr, mlf, mlp, mfp, mfd, mgo, mbo, mpe, mye, mpr, mld, msi, mse, tp, re, td, rfl, rfl, htp, hbt, hQ⟩ := h; exact Nat.le_of_ble_eq_true rfl) ?_
  intro p e R s m args below meth c dC dI k g A av w Q hsp oka okw X
  obtain ⟨mco, mre, mle, mbe, mso, mva, mwo, mwr, mlf, mlp, mfp, mfd, mgo, mbo, mpe, mye, mpr, mld, msi, mse, tp, re, td, rfl, rfl, htp, hbt, hQ⟩ := hsp
  refine s_mono (s_X12_childLine_0 X (J := fun _ _ _ _ => False) (fun d => s_cutF)) ?_
  rintro lv st w' ⟨rfl, rfl, rfl⟩
  refine Exists.intro [0, 1, 2, 4, 5, 6, 7, 8, 9, 10, 11, 3, 12, 13, 14, 15, 16, 17, 18, 19, 20, 21, 22, 23, 24, 25] (Exists.intro [q2 0, q1 _, q1 _] (Exists.intro ([.inr (12, [q1 _, q2 1, q2 3, q2 4, q2 5, q2 6, q2 7, q2 8, q2 9, q2 10, q1 _, q1 _, q1 _, q1 _, q1 _, q3 _, q1 _, q1 _, q1 _, q2 11, q2 2, q1 _, q1 _, q1 _, q1 _, q1 _, q1 _, q2 12, q1 _, q2 13, q2 14, q2 15, q2 16, q1 _, q2 17, q1 _, q2 18, q2 19, q2 20, q2 21, q2 22, q1 _, q2 23, q2 24, q2 25]), .inl (1, 2400, .inl _), .inl (0, 4, .inl _)]) (And.intro rfl (And.intro rfl (And.intro rfl (And.intro ⟨⟨_, rfl⟩, rfl⟩ ?_))))))
  refine Exists.intro _ (Exists.intro _ (Exists.intro _ (Exists.intro _ (Exists.intro _ (Exists.intro _ (Exists.intro _ (Exists.intro _ (Exists.intro _ (Exists.intro _ (Exists.intro _ (Exists.intro _ (Exists.intro _ (Exists.intro _ (Exists.intro _ (Exists.intro _ (Exists.intro _ (Exists.intro _ (Exists.intro _ (Exists.intro _ (Exists.intro _ (Exists.intro _ (Exists.intro _ (Exists.intro _ (And.intro rfl (And.intro rfl (And.intro (by first | omega | assumption | exact q_rg_up (by assumption) (by omega) | exact q_rg_up (q_rg_up (by assumption) (by omega)) (by omega) | exact q_rg_cpy (by assumption) (by assumption)) (And.intro (by first | omega | assumption | exact q_rg_up (by assumption) (by omega) | exact q_rg_up (q_rg_up (by assumption) (by omega)) (by omega) | exact q_rg_cpy (by assumption) (by assumption)) (?_))))))))))))))))))))))))))))
  intro z3 x_mre_3 x_mbe_3 x_mso_3 x_mva_3 x_mwo_3 x_mwr_3 x_mlf_3 x_mlp_3 x_mgo_3 x_mfp_3 x_re_3 h3
  apply And.intro
  · intro h6
    apply And.intro
    · first | exact Or.inl rfl | exact Or.inr rfl | omega
    exact hQ _ _ _ _ _ _ _ _ _ _ _ _ _ ⟨by omega, by omega, by omega, (by first | assumption | exact BT_up hbt (by omega))⟩
  · intro h6
    apply And.intro
    · exact ⟨by omega, by omega⟩
    intro z16 h16
    refine Exists.intro [0, 1, 2, 4, 5, 6, 7, 8, 9, 10, 11, 3, 12, 13, 14, 15, 16, 17, 18, 19, 20, 21, 22, 23, 24, 25] (Exists.intro [q2 0, q1 _, q1 _] (Exists.intro ([.inr (12, [q1 _, q2 1, q2 3, q2 4, q2 5, q2 6, q2 7, q2 8, q2 9, q2 10, q1 _, q1 _, q1 _, q1 _, q1 _, q3 _, q1 _, q1 _, q1 _, q2 11, q2 2, q1 _, q1 _, q1 _, q1 _, q1 _, q1 _, q2 12, q1 _, q2 13, q2 14, q2 15, q2 16, q1 _, q2 17, q1 _, q2 18, q2 19, q2 20, q2 21, q2 22, q1 _, q2 23, q2 24, q2 25]), .inl (1, 2400, .inl _), .inl (0, 4, .inl _)]) (And.intro rfl (And.intro rfl (And.intro rfl (And.intro ⟨⟨_, rfl⟩, rfl⟩ ?_))))))
    refine Exists.intro _ (Exists.intro _ (Exists.intro _ (Exists.intro _ (Exists.intro _ (Exists.intro _ (Exists.intro _ (Exists.intro _ (Exists.intro _ (Exists.intro _ (Exists.intro _ (Exists.intro _ (Exists.intro _ (Exists.intro _ (Exists.intro _ (Exists.intro _ (Exists.intro _ (Exists.intro _ (Exists.intro _ (Exists.intro _ (Exists.intro _ (Exists.intro _ (Exists.intro _ (Exists.intro _ (And.intro rfl (And.intro rfl (And.intro (by first | omega | assumption | exact q_rg_up (by assumption) (by omega) | exact q_rg_up (q_rg_up (by assumption) (by omega)) (by omega) | exact q_rg_cpy (by assumption) (by assumption)) (And.intro (by first | omega | assumption | exact q_rg_up (by assumption) (by omega) | exact q_rg_up (q_rg_up (by assumption) (by omega)) (by omega) | exact q_rg_cpy (by assumption) (by assumption)) (?_))))))))))))))))))))))))))))
    intro z17 x_mre_17 x_mbe_17 x_mso_17 x_mva_17 x_mwo_17 x_mwr_17 x_mlf_17 x_mlp_17 x_mgo_17 x_mfp_17 x_re_17 h17
    apply And.intro
    · intro h20
      apply And.intro
      · intro h29
        apply And.intro
        · first | exact Or.inl rfl | exact Or.inr rfl | omega
        exact hQ _ _ _ _ _ _ _ _ _ _ _ _ _ ⟨by omega, by omega, by omega, (by first | assumption | exact BT_up hbt (by omega))⟩
      · intro h29
        have g1 := h17.2.2.2.2 (by omega) h29
        have g2 := h3.2.2.2.2 (by omega) g1.1
        have g3 := h17.2.2.2.1 0 (by omega) (by omega)
        apply And.intro
        · exact ⟨by omega, by omega⟩
        intro z43 h43
        intro z44 h44
        first | replace h44 := e_add h44 (by omega) | replace h44 := e_rng h44
        apply And.intro
        · exact ⟨by omega, by omega⟩
        intro z50 h50
        apply And.intro
        · exact ⟨by omega, by omega⟩
        apply And.intro
        · first | exact Or.inl rfl | exact Or.inr rfl | omega
        exact hQ _ _ _ _ _ _ _ _ _ _ _ _ _ ⟨by omega, by omega, by omega, (by first | assumption | exact BT_up hbt (by omega))⟩
    · intro h20
      apply And.intro
      · first | exact Or.inl rfl | exact Or.inr rfl | omega
      exact hQ _ _ _ _ _ _ _ _ _ _ _ _ _ ⟨by omega, by omega, by omega, (by first | assumption | exact BT_up hbt (by omega))⟩

theorem dX12_passLine_0 : decode cX12_passLine 0 = .ok (.aload_n 0, 1) := by decide +kernel
theorem dX12_passLine_1 : decode cX12_passLine 1 = .ok (.iconst 0, 1) := by decide +kernel
theorem dX12_passLine_2 : decode cX12_passLine 2 = .ok (.iconst (-1), 1) := by decide +kernel
theorem dX12_passLine_3 : decode cX12_passLine 3 = .ok (.invokevirtual 177, 3) := by decide +kernel
theorem dX12_passLine_6 : decode cX12_passLine 6 = .ok (.ifCond .eq 13, 3) := by decide +kernel
theorem dX12_passLine_9 : decode cX12_passLine 9 = .ok (.aload_n 0, 1) := by decide +kernel
theorem dX12_passLine_10 : decode cX12_passLine 10 = .ok (.iconst 1, 1) := by decide +kernel
theorem dX12_passLine_11 : decode cX12_passLine 11 = .ok (.iconst 0, 1) := by decide +kernel
theorem dX12_passLine_12 : decode cX12_passLine 12 = .ok (.iconst 5, 1) := by decide +kernel
theorem dX12_passLine_13 : decode cX12_passLine 13 = .ok (.invokevirtual 174, 3) := by decide +kernel
theorem dX12_passLine_16 : decode cX12_passLine 16 = .ok (.ifCond .ne 5, 3) := by decide +kernel
theorem dX12_passLine_19 : decode cX12_passLine 19 = .ok (.iconst 0, 1) := by decide +kernel
theorem dX12_passLine_20 : decode cX12_passLine 20 = .ok (.ireturn, 1) := by decide +kernel
theorem dX12_passLine_21 : decode cX12_passLine 21 = .ok (.aload_n 0, 1) := by decide +kernel
theorem dX12_passLine_22 : decode cX12_passLine 22 = .ok (.aload_n 0, 1) := by decide +kernel
theorem dX12_passLine_23 : decode cX12_passLine 23 = .ok (.getfield 180, 3) := by decide +kernel
theorem dX12_passLine_26 : decode cX12_passLine 26 = .ok (.aload_n 0, 1) := by decide +kernel
theorem dX12_passLine_27 : decode cX12_passLine 27 = .ok (.getfield 41, 3) := by decide +kernel
theorem dX12_passLine_30 : decode cX12_passLine 30 = .ok (.iconst 1, 1) := by decide +kernel
theorem dX12_passLine_31 : decode cX12_passLine 31 = .ok (.iaload, 1) := by decide +kernel
theorem dX12_passLine_32 : decode cX12_passLine 32 = .ok (.invokestatic 162, 3) := by decide +kernel
theorem dX12_passLine_35 : decode cX12_passLine 35 = .ok (.putfield 180, 3) := by decide +kernel
theorem dX12_passLine_38 : decode cX12_passLine 38 = .ok (.aload_n 0, 1) := by decide +kernel
theorem dX12_passLine_39 : decode cX12_passLine 39 = .ok (.getfield 148, 3) := by decide +kernel
theorem dX12_passLine_42 : decode cX12_passLine 42 = .ok (.ifCond .eq 28, 3) := by decide +kernel
theorem dX12_passLine_45 : decode cX12_passLine 45 = .ok (.aload_n 0, 1) := by decide +kernel
theorem dX12_passLine_46 : decode cX12_passLine 46 = .ok (.getfield 38, 3) := by decide +kernel
theorem dX12_passLine_49 : decode cX12_passLine 49 = .ok (.bipush 31, 2) := by decide +kernel
theorem dX12_passLine_51 : decode cX12_passLine 51 = .ok (.aload_n 0, 1) := by decide +kernel
theorem dX12_passLine_52 : decode cX12_passLine 52 = .ok (.getfield 41, 3) := by decide +kernel
theorem dX12_passLine_55 : decode cX12_passLine 55 = .ok (.iconst 1, 1) := by decide +kernel
theorem dX12_passLine_56 : decode cX12_passLine 56 = .ok (.iaload, 1) := by decide +kernel
theorem dX12_passLine_57 : decode cX12_passLine 57 = .ok (.iadd, 1) := by decide +kernel
theorem dX12_passLine_58 : decode cX12_passLine 58 = .ok (.dup2, 1) := by decide +kernel
theorem dX12_passLine_59 : decode cX12_passLine 59 = .ok (.iaload, 1) := by decide +kernel
theorem dX12_passLine_60 : decode cX12_passLine 60 = .ok (.iconst 1, 1) := by decide +kernel
theorem dX12_passLine_61 : decode cX12_passLine 61 = .ok (.aload_n 0, 1) := by decide +kernel
theorem dX12_passLine_62 : decode cX12_passLine 62 = .ok (.getfield 41, 3) := by decide +kernel
theorem dX12_passLine_65 : decode cX12_passLine 65 = .ok (.iconst 0, 1) := by decide +kernel
theorem dX12_passLine_66 : decode cX12_passLine 66 = .ok (.iaload, 1) := by decide +kernel
theorem dX12_passLine_67 : decode cX12_passLine 67 = .ok (.ishl, 1) := by decide +kernel
theorem dX12_passLine_68 : decode cX12_passLine 68 = .ok (.ior, 1) := by decide +kernel
theorem dX12_passLine_69 : decode cX12_passLine 69 = .ok (.iastore, 1) := by decide +kernel
theorem dX12_passLine_70 : decode cX12_passLine 70 = .ok (.iconst 1, 1) := by decide +kernel
theorem dX12_passLine_71 : decode cX12_passLine 71 = .ok (.ireturn, 1) := by decide +kernel
def is_X12_passLine : Nat → List Nat := fun d => []
set_option maxRecDepth 100000 in
def b_X12_passLine_70 (J : Nat → List qV → List qV → qW → Prop) (Q : qR) : qK := x_int 1 (x_zret Q)
set_option maxRecDepth 100000 in
theorem s_X12_passLine_70 {p : Program} {l : Launch} {e : Env} {R : Room} {s : State} {m : MethodId} {args : Array Value} {below : List Frame} {meth : Method} {c : Code} {nW : Nat} {dC : Nat → ClassId} {dI : Nat → Nat → Nat} {k : Nat → ClassId} {g : Nat → Nat} {A : Nat → Prop} {J : Nat → List qV → List qV → qW → Prop} {Q : qR} (X : q_X p R s m args meth c cX12_passLine 1 nW 4 91 RX12 (some .boolean) dC dI k g A) (hJ : ∀ d : Nat, q_Sd p l e R s m args below meth c 1 nW dC dI k g A (MQ below (q_post (dC, dI) k g nW Q A) args s 0 0 A) d (x_cut (is_X12_passLine d) (J d))) : q_Sd p l e R s m args below meth c 1 nW dC dI k g A (MQ below (q_post (dC, dI) k g nW Q A) args s 0 0 A) 70 (b_X12_passLine_70 J Q) := by
  unfold b_X12_passLine_70
  refine s_iconst X ⟨by decide, by decide⟩ dX12_passLine_70 ?_
  exact s_zret X dX12_passLine_71
set_option maxRecDepth 100000 in
def b_X12_passLine_60 (J : Nat → List qV → List qV → qW → Prop) (Q : qR) : qK := x_int 1 (x_aload 0 (x_get 12 20 (x_int 0 (x_iald (x_ishl (x_ior (x_iast (x_nw (b_X12_passLine_70 J Q)))))))))
set_option maxRecDepth 100000 in
theorem s_X12_passLine_60 {p : Program} {l : Launch} {e : Env} {R : Room} {s : State} {m : MethodId} {args : Array Value} {below : List Frame} {meth : Method} {c : Code} {nW : Nat} {dC : Nat → ClassId} {dI : Nat → Nat → Nat} {k : Nat → ClassId} {g : Nat → Nat} {A : Nat → Prop} {J : Nat → List qV → List qV → qW → Prop} {Q : qR} (X : q_X p R s m args meth c cX12_passLine 1 nW 4 91 RX12 (some .boolean) dC dI k g A) (hJ : ∀ d : Nat, q_Sd p l e R s m args below meth c 1 nW dC dI k g A (MQ below (q_post (dC, dI) k g nW Q A) args s 0 0 A) d (x_cut (is_X12_passLine d) (J d))) : q_Sd p l e R s m args below meth c 1 nW dC dI k g A (MQ below (q_post (dC, dI) k g nW Q A) args s 0 0 A) 60 (b_X12_passLine_60 J Q) := by
  unfold b_X12_passLine_60
  refine s_iconst X ⟨by decide, by decide⟩ dX12_passLine_60 ?_
  refine s_aload_n X rfl dX12_passLine_61 ?_
  refine s_get X (T := TX12) (C := RX12) (N := 45) tu_X12 rfl (by decide) tw_1017 dX12_passLine_62 ?_
  refine s_iconst X ⟨by decide, by decide⟩ dX12_passLine_65 ?_
  refine s_iald X dX12_passLine_66 ?_
  refine s_ishl X dX12_passLine_67 ?_
  refine s_ior X dX12_passLine_68 ?_
  refine s_iast X dX12_passLine_69 ?_
  refine s_nw ?_
  exact s_X12_passLine_70 X hJ
set_option maxRecDepth 100000 in
def b_X12_passLine_19 (J : Nat → List qV → List qV → qW → Prop) (Q : qR) : qK := x_int 0 (x_zret Q)
set_option maxRecDepth 100000 in
theorem s_X12_passLine_19 {p : Program} {l : Launch} {e : Env} {R : Room} {s : State} {m : MethodId} {args : Array Value} {below : List Frame} {meth : Method} {c : Code} {nW : Nat} {dC : Nat → ClassId} {dI : Nat → Nat → Nat} {k : Nat → ClassId} {g : Nat → Nat} {A : Nat → Prop} {J : Nat → List qV → List qV → qW → Prop} {Q : qR} (X : q_X p R s m args meth c cX12_passLine 1 nW 4 91 RX12 (some .boolean) dC dI k g A) (hJ : ∀ d : Nat, q_Sd p l e R s m args below meth c 1 nW dC dI k g A (MQ below (q_post (dC, dI) k g nW Q A) args s 0 0 A) d (x_cut (is_X12_passLine d) (J d))) : q_Sd p l e R s m args below meth c 1 nW dC dI k g A (MQ below (q_post (dC, dI) k g nW Q A) args s 0 0 A) 19 (b_X12_passLine_19 J Q) := by
  unfold b_X12_passLine_19
  refine s_iconst X ⟨by decide, by decide⟩ dX12_passLine_19 ?_
  exact s_zret X dX12_passLine_20
set_option maxRecDepth 100000 in
def b_X12_passLine_0 (J : Nat → List qV → List qV → qW → Prop) (Q : qR) : qK := x_aload 0 (x_int 0 (x_int (-1) (x_call (some 12) 3 sp_X12_takePerson (x_nw (x_if_eq (b_X12_passLine_19 J Q) (x_aload 0 (x_int 1 (x_int 0 (x_int 5 (x_call (some 12) 4 sp_X12_take (x_nw (x_if_ne (x_aload 0 (x_aload 0 (x_get 12 22 (x_aload 0 (x_get 12 20 (x_int 1 (x_iald (x_callr none 2 spr_X12_greater (x_put 12 22 q_oki (x_nw (x_aload 0 (x_get 12 23 (x_if_eq (b_X12_passLine_70 J Q) (x_aload 0 (x_get 12 19 (x_int 31 (x_aload 0 (x_get 12 20 (x_int 1 (x_iald (x_iadd (x_dup2 (x_iald (b_X12_passLine_60 J Q)))))))))))))))))))))))) (b_X12_passLine_19 J Q)))))))))))))
set_option maxRecDepth 100000 in
theorem s_X12_passLine_0 {p : Program} {l : Launch} {e : Env} {R : Room} {s : State} {m : MethodId} {args : Array Value} {below : List Frame} {meth : Method} {c : Code} {nW : Nat} {dC : Nat → ClassId} {dI : Nat → Nat → Nat} {k : Nat → ClassId} {g : Nat → Nat} {A : Nat → Prop} {J : Nat → List qV → List qV → qW → Prop} {Q : qR} (X : q_X p R s m args meth c cX12_passLine 1 nW 4 91 RX12 (some .boolean) dC dI k g A) (hJ : ∀ d : Nat, q_Sd p l e R s m args below meth c 1 nW dC dI k g A (MQ below (q_post (dC, dI) k g nW Q A) args s 0 0 A) d (x_cut (is_X12_passLine d) (J d))) : q_Sd p l e R s m args below meth c 1 nW dC dI k g A (MQ below (q_post (dC, dI) k g nW Q A) args s 0 0 A) 0 (b_X12_passLine_0 J Q) := by
  unfold b_X12_passLine_0
  refine s_aload_n X rfl dX12_passLine_0 ?_
  refine s_iconst X ⟨by decide, by decide⟩ dX12_passLine_1 ?_
  refine s_iconst X ⟨by decide, by decide⟩ dX12_passLine_2 ?_
  refine s_callV X (m_X12_takePerson l) tw_1115 tw_1116 tw_1624 tw_134 tw_1117 rfl (by decide +kernel) ⟨by decide, by decide⟩ dX12_passLine_3 ?_
  refine s_nw ?_
  refine s_if_eq X (tgt := 19) dX12_passLine_6 (by decide) ?_ ?_
  · exact s_X12_passLine_19 X hJ
  · refine s_aload_n X rfl dX12_passLine_9 ?_
    refine s_iconst X ⟨by decide, by decide⟩ dX12_passLine_10 ?_
    refine s_iconst X ⟨by decide, by decide⟩ dX12_passLine_11 ?_
    refine s_iconst X ⟨by decide, by decide⟩ dX12_passLine_12 ?_
    refine s_callV X (m_X12_take l) tw_1097 tw_1098 tw_1621 tw_134 tw_1099 rfl (by decide +kernel) ⟨by decide, by decide⟩ dX12_passLine_13 ?_
    refine s_nw ?_
    refine s_if_ne X (tgt := 21) dX12_passLine_16 (by decide) ?_ ?_
    · refine s_aload_n X rfl dX12_passLine_21 ?_
      refine s_aload_n X rfl dX12_passLine_22 ?_
      refine s_get X (T := TX12) (C := RX12) (N := 45) tu_X12 rfl (by decide) tw_1019 dX12_passLine_23 ?_
      refine s_aload_n X rfl dX12_passLine_26 ?_
      refine s_get X (T := TX12) (C := RX12) (N := 45) tu_X12 rfl (by decide) tw_1017 dX12_passLine_27 ?_
      refine s_iconst X ⟨by decide, by decide⟩ dX12_passLine_30 ?_
      refine s_iald X dX12_passLine_31 ?_
      refine s_callSr X (m_X12_greater l) tw_1118 tw_1119 tw_134 tw_1120 (by decide +kernel) ⟨by decide, by decide⟩ dX12_passLine_32 ?_
      refine s_put X (T := TX12) (C := RX12) (N := 45) tu_X12 tyX12_ok nmX12 rfl (by decide) tw_1019 rfl (by decide +kernel) q_oki_t dX12_passLine_35 ?_
      refine s_nw ?_
      refine s_aload_n X rfl dX12_passLine_38 ?_
      refine s_get X (T := TX12) (C := RX12) (N := 45) tu_X12 rfl (by decide) tw_1020 dX12_passLine_39 ?_
      refine s_if_eq X (tgt := 70) dX12_passLine_42 (by decide) ?_ ?_
      · exact s_X12_passLine_70 X hJ
      · refine s_aload_n X rfl dX12_passLine_45 ?_
        refine s_get X (T := TX12) (C := RX12) (N := 45) tu_X12 rfl (by decide) tw_1016 dX12_passLine_46 ?_
        refine s_bipush X ⟨by decide, by decide⟩ (by decide) dX12_passLine_49 ?_
        refine s_aload_n X rfl dX12_passLine_51 ?_
        refine s_get X (T := TX12) (C := RX12) (N := 45) tu_X12 rfl (by decide) tw_1017 dX12_passLine_52 ?_
        refine s_iconst X ⟨by decide, by decide⟩ dX12_passLine_55 ?_
        refine s_iald X dX12_passLine_56 ?_
        refine s_iadd X dX12_passLine_57 ?_
        refine s_dup2 X dX12_passLine_58 ?_
        refine s_iald X dX12_passLine_59 ?_
        exact s_X12_passLine_60 X hJ
    · exact s_X12_passLine_19 X hJ

def sp_X12_passLine : qS := fun av w Q => ∃ (mco : Int) (mre : Int) (mle : Int) (mbe : Int) (mso : Int) (mva : Int) (mwo : Int) (mwr : Int) (mlf : Int) (mlp : Int) (mfp : Int) (mfd : Int) (mgo : Int) (mbo : Int) (mpe : Int) (mye : Int) (mpr : Int) (mld : Int) (msi : Int) (mse : Int) (tp : Nat → Int) (re : Nat → Int) (td : Nat → Int), av = [q2 0] ∧ w = [.inr (12, [q1 mco, q2 1, q2 4, q2 5, q2 6, q2 7, q2 8, q2 9, q2 10, q2 11, q1 mre, q1 mle, q1 mbe, q1 mso, q1 mva, q3 mwo, q1 mwr, q1 mlf, q1 mlp, q2 3, q2 2, q1 mfp, q1 mfd, q1 mgo, q1 mbo, q1 mpe, q1 mye, q2 12, q1 mpr, q2 13, q2 14, q2 15, q2 16, q1 mld, q2 17, q1 msi, q2 18, q2 19, q2 20, q2 21, q2 22, q1 mse, q2 23, q2 24, q2 25]), .inl (1, 2400, .inl tp), .inl (0, 4, .inl re), .inl (0, 161, .inl td)] ∧ (0 ≤ mre ∧ mre ≤ mle ∧ mle ≤ 600) ∧ (BT td 0) ∧ (∀ (r : Int) (x_mre : Int) (x_mbe : Int) (x_mso : Int) (x_mva : Int) (x_mwo : Int) (x_mwr : Int) (x_mlf : Int) (x_mlp : Int) (x_mgo : Int) (x_mfp : Int) (x_mfd : Int) (x_re : Nat → Int) (x_td : Nat → Int), ((r = 0 ∨ r = 1 ∧ (x_mso = 0 ∨ mre < x_mre)) ∧ mre ≤ x_mre ∧ x_mre ≤ mle ∧ BT x_td 0) → Q (some (q1 r)) ([.inr (12, [q1 mco, q2 1, q2 4, q2 5, q2 6, q2 7, q2 8, q2 9, q2 10, q2 11, q1 x_mre, q1 mle, q1 x_mbe, q1 x_mso, q1 x_mva, q3 x_mwo, q1 x_mwr, q1 x_mlf, q1 x_mlp, q2 3, q2 2, q1 x_mfp, q1 x_mfd, q1 x_mgo, q1 mbo, q1 mpe, q1 mye, q2 12, q1 mpr, q2 13, q2 14, q2 15, q2 16, q1 mld, q2 17, q1 msi, q2 18, q2 19, q2 20, q2 21, q2 22, q1 mse, q2 23, q2 24, q2 25]), .inl (1, 2400, .inl tp), .inl (0, 4, .inl x_re), .inl (0, 161, .inl x_td)]))
set_option maxHeartbeats 4000000 in
set_option maxRecDepth 100000 in
theorem m_X12_passLine (l : Launch) : q_M l yX12_passLine cX12_passLine 1 (some .boolean) 4 91 sp_X12_passLine := by
  refine q_meth (by decide) (fun av w Q h => by obtain ⟨mco, mre, mle, mbe, mso, mva, mwo, mwr, mlf, mlp, mfp, mfd, mgo, mbo, mpe, mye, mpr, mld, msi, mse, tp, re, td, rfl, rfl, htp, hbt, hQ⟩ := h; exact Nat.le_of_ble_eq_true rfl) ?_
  intro p e R s m args below meth c dC dI k g A av w Q hsp oka okw X
  obtain ⟨mco, mre, mle, mbe, mso, mva, mwo, mwr, mlf, mlp, mfp, mfd, mgo, mbo, mpe, mye, mpr, mld, msi, mse, tp, re, td, rfl, rfl, htp, hbt, hQ⟩ := hsp
  refine s_mono (s_X12_passLine_0 X (J := fun _ _ _ _ => False) (fun d => s_cutF)) ?_
  rintro lv st w' ⟨rfl, rfl, rfl⟩
  refine Exists.intro [0, 1, 2, 4, 5, 6, 7, 8, 9, 10, 11, 3, 12, 13, 14, 15, 16, 17, 18, 19, 20, 21, 22, 23, 24, 25] (Exists.intro [q2 0, q1 _, q1 _] (Exists.intro ([.inr (12, [q1 _, q2 1, q2 3, q2 4, q2 5, q2 6, q2 7, q2 8, q2 9, q2 10, q1 _, q1 _, q1 _, q1 _, q1 _, q3 _, q1 _, q1 _, q1 _, q2 11, q2 2, q1 _, q1 _, q1 _, q1 _, q1 _, q1 _, q2 12, q1 _, q2 13, q2 14, q2 15, q2 16, q1 _, q2 17, q1 _, q2 18, q2 19, q2 20, q2 21, q2 22, q1 _, q2 23, q2 24, q2 25]), .inl (1, 2400, .inl _), .inl (0, 4, .inl _)]) (And.intro rfl (And.intro rfl (And.intro rfl (And.intro ⟨⟨_, rfl⟩, rfl⟩ ?_))))))
  refine Exists.intro _ (Exists.intro _ (Exists.intro _ (Exists.intro _ (Exists.intro _ (Exists.intro _ (Exists.intro _ (Exists.intro _ (Exists.intro _ (Exists.intro _ (Exists.intro _ (Exists.intro _ (Exists.intro _ (Exists.intro _ (Exists.intro _ (Exists.intro _ (Exists.intro _ (Exists.intro _ (Exists.intro _ (Exists.intro _ (Exists.intro _ (Exists.intro _ (Exists.intro _ (Exists.intro _ (And.intro rfl (And.intro rfl (And.intro (by first | omega | assumption | exact q_rg_up (by assumption) (by omega) | exact q_rg_up (q_rg_up (by assumption) (by omega)) (by omega) | exact q_rg_cpy (by assumption) (by assumption)) (And.intro (by first | omega | assumption | exact q_rg_up (by assumption) (by omega) | exact q_rg_up (q_rg_up (by assumption) (by omega)) (by omega) | exact q_rg_cpy (by assumption) (by assumption)) (?_))))))))))))))))))))))))))))
  intro z3 x_mre_3 x_mbe_3 x_mso_3 x_mva_3 x_mwo_3 x_mwr_3 x_mlf_3 x_mlp_3 x_mgo_3 x_mfp_3 x_re_3 h3
  apply And.intro
  · intro h6
    apply And.intro
    · first | exact Or.inl rfl | exact Or.inr rfl | omega
    exact hQ _ _ _ _ _ _ _ _ _ _ _ _ _ _ ⟨by omega, by omega, by omega, (by first | assumption | exact BT_up hbt (by omega))⟩
  · intro h6
    refine Exists.intro [0, 1, 2, 4, 5, 6, 7, 8, 9, 10, 11, 3, 12, 13, 14, 15, 16, 17, 18, 19, 20, 21, 22, 23, 24, 25] (Exists.intro [q2 0, q1 _, q1 _, q1 _] (Exists.intro ([.inr (12, [q1 _, q2 1, q2 3, q2 4, q2 5, q2 6, q2 7, q2 8, q2 9, q2 10, q1 _, q1 _, q1 _, q1 _, q1 _, q3 _, q1 _, q1 _, q1 _, q2 11, q2 2, q1 _, q1 _, q1 _, q1 _, q1 _, q1 _, q2 12, q1 _, q2 13, q2 14, q2 15, q2 16, q1 _, q2 17, q1 _, q2 18, q2 19, q2 20, q2 21, q2 22, q1 _, q2 23, q2 24, q2 25]), .inl (1, 2400, .inl _), .inl (0, 4, .inl _)]) (And.intro rfl (And.intro rfl (And.intro rfl (And.intro ⟨⟨_, rfl⟩, rfl⟩ ?_))))))
    refine Exists.intro _ (Exists.intro _ (Exists.intro _ (Exists.intro _ (Exists.intro _ (Exists.intro _ (Exists.intro _ (Exists.intro _ (Exists.intro _ (Exists.intro _ (Exists.intro _ (Exists.intro _ (Exists.intro _ (Exists.intro _ (Exists.intro _ (Exists.intro _ (Exists.intro _ (Exists.intro _ (Exists.intro _ (Exists.intro _ (Exists.intro _ (Exists.intro _ (Exists.intro _ (Exists.intro _ (Exists.intro _ (And.intro rfl (And.intro rfl (And.intro (by first | omega | assumption | exact q_rg_up (by assumption) (by omega) | exact q_rg_up (q_rg_up (by assumption) (by omega)) (by omega) | exact q_rg_cpy (by assumption) (by assumption)) (And.intro (by first | omega | assumption | exact q_rg_up (by assumption) (by omega) | exact q_rg_up (q_rg_up (by assumption) (by omega)) (by omega) | exact q_rg_cpy (by assumption) (by assumption)) (?_)))))))))))))))))))))))))))))
    intro z13 x_mre_13 x_mbe_13 x_mso_13 x_mva_13 x_mwo_13 x_mwr_13 x_mlf_13 x_mlp_13 x_mgo_13 x_re_13 h13
    apply And.intro
    · intro h16
      apply And.intro
      · exact ⟨by omega, by omega⟩
      intro z31 h31
      refine Exists.intro [] (Exists.intro [q1 _, q1 _] (Exists.intro [] (And.intro rfl (And.intro rfl (And.intro rfl (And.intro trivial ?_))))))
      refine Exists.intro _ (Exists.intro _ (And.intro rfl (And.intro rfl (?_))))
      intro z32 h32
      apply And.intro
      · exact trivial
      apply And.intro
      · intro h42
        apply And.intro
        · first | exact Or.inl rfl | exact Or.inr rfl | omega
        exact hQ _ _ _ _ _ _ _ _ _ _ _ _ _ _ ⟨by omega, by omega, by omega, (by first | assumption | exact BT_up hbt (by omega))⟩
      · intro h42
        have g1 := h13.2.2.2.2 (by omega) h42
        have g2 := h3.2.2.2.2 (by omega) g1.1
        have g3 := h13.2.2.2.1 0 (by omega) (by omega)
        apply And.intro
        · exact ⟨by omega, by omega⟩
        intro z56 h56
        intro z57 h57
        first | replace h57 := e_add h57 (by omega) | replace h57 := e_rng h57
        apply And.intro
        · exact ⟨by omega, by omega⟩
        intro z59 h59
        apply And.intro
        · exact ⟨by omega, by omega⟩
        intro z66 h66
        intro z67 h67
        first | replace h67 := e_shl h67 (by omega) | replace h67 := e_rng h67
        intro z68 h68
        first | replace h68 := e_or8 h68 (by omega) (by omega) | replace h68 := e_or9 h68 (by omega) (by omega) | replace h68 := e_rng h68
        apply And.intro
        · exact ⟨by omega, by omega⟩
        apply And.intro
        · first | exact Or.inl rfl | exact Or.inr rfl | omega
        exact hQ _ _ _ _ _ _ _ _ _ _ _ _ _ _ ⟨by omega, by omega, by omega, (by first | assumption | exact BT_up hbt (by omega))⟩
    · intro h16
      apply And.intro
      · first | exact Or.inl rfl | exact Or.inr rfl | omega
      exact hQ _ _ _ _ _ _ _ _ _ _ _ _ _ _ ⟨by omega, by omega, by omega, (by first | assumption | exact BT_up hbt (by omega))⟩

theorem dX12_costLine_0 : decode cX12_costLine 0 = .ok (.aload_n 0, 1) := by decide +kernel
theorem dX12_costLine_1 : decode cX12_costLine 1 = .ok (.iconst 0, 1) := by decide +kernel
theorem dX12_costLine_2 : decode cX12_costLine 2 = .ok (.invokevirtual 183, 3) := by decide +kernel
theorem dX12_costLine_5 : decode cX12_costLine 5 = .ok (.ifCond .eq 14, 3) := by decide +kernel
theorem dX12_costLine_8 : decode cX12_costLine 8 = .ok (.aload_n 0, 1) := by decide +kernel
theorem dX12_costLine_9 : decode cX12_costLine 9 = .ok (.iconst 1, 1) := by decide +kernel
theorem dX12_costLine_10 : decode cX12_costLine 10 = .ok (.iconst 1, 1) := by decide +kernel
theorem dX12_costLine_11 : decode cX12_costLine 11 = .ok (.bipush 9, 2) := by decide +kernel
theorem dX12_costLine_13 : decode cX12_costLine 13 = .ok (.invokevirtual 174, 3) := by decide +kernel
theorem dX12_costLine_16 : decode cX12_costLine 16 = .ok (.ifCond .ne 5, 3) := by decide +kernel
theorem dX12_costLine_19 : decode cX12_costLine 19 = .ok (.iconst 0, 1) := by decide +kernel
theorem dX12_costLine_20 : decode cX12_costLine 20 = .ok (.ireturn, 1) := by decide +kernel
theorem dX12_costLine_21 : decode cX12_costLine 21 = .ok (.aload_n 0, 1) := by decide +kernel
theorem dX12_costLine_22 : decode cX12_costLine 22 = .ok (.getfield 148, 3) := by decide +kernel
theorem dX12_costLine_25 : decode cX12_costLine 25 = .ok (.ifCond .eq 23, 3) := by decide +kernel
theorem dX12_costLine_28 : decode cX12_costLine 28 = .ok (.aload_n 0, 1) := by decide +kernel
theorem dX12_costLine_29 : decode cX12_costLine 29 = .ok (.getfield 38, 3) := by decide +kernel
theorem dX12_costLine_32 : decode cX12_costLine 32 = .ok (.bipush 21, 2) := by decide +kernel
theorem dX12_costLine_34 : decode cX12_costLine 34 = .ok (.aload_n 0, 1) := by decide +kernel
theorem dX12_costLine_35 : decode cX12_costLine 35 = .ok (.getfield 41, 3) := by decide +kernel
theorem dX12_costLine_38 : decode cX12_costLine 38 = .ok (.iconst 0, 1) := by decide +kernel
theorem dX12_costLine_39 : decode cX12_costLine 39 = .ok (.iaload, 1) := by decide +kernel
theorem dX12_costLine_40 : decode cX12_costLine 40 = .ok (.iadd, 1) := by decide +kernel
theorem dX12_costLine_41 : decode cX12_costLine 41 = .ok (.aload_n 0, 1) := by decide +kernel
theorem dX12_costLine_42 : decode cX12_costLine 42 = .ok (.getfield 41, 3) := by decide +kernel
theorem dX12_costLine_45 : decode cX12_costLine 45 = .ok (.iconst 1, 1) := by decide +kernel
theorem dX12_costLine_46 : decode cX12_costLine 46 = .ok (.iaload, 1) := by decide +kernel
theorem dX12_costLine_47 : decode cX12_costLine 47 = .ok (.iastore, 1) := by decide +kernel
theorem dX12_costLine_48 : decode cX12_costLine 48 = .ok (.iconst 1, 1) := by decide +kernel
theorem dX12_costLine_49 : decode cX12_costLine 49 = .ok (.ireturn, 1) := by decide +kernel
def is_X12_costLine : Nat → List Nat := fun d => []
set_option maxRecDepth 100000 in
def b_X12_costLine_48 (J : Nat → List qV → List qV → qW → Prop) (Q : qR) : qK := x_int 1 (x_zret Q)
set_option maxRecDepth 100000 in
theorem s_X12_costLine_48 {p : Program} {l : Launch} {e : Env} {R : Room} {s : State} {m : MethodId} {args : Array Value} {below : List Frame} {meth : Method} {c : Code} {nW : Nat} {dC : Nat → ClassId} {dI : Nat → Nat → Nat} {k : Nat → ClassId} {g : Nat → Nat} {A : Nat → Prop} {J : Nat → List qV → List qV → qW → Prop} {Q : qR} (X : q_X p R s m args meth c cX12_costLine 1 nW 4 91 RX12 (some .boolean) dC dI k g A) (hJ : ∀ d : Nat, q_Sd p l e R s m args below meth c 1 nW dC dI k g A (MQ below (q_post (dC, dI) k g nW Q A) args s 0 0 A) d (x_cut (is_X12_costLine d) (J d))) : q_Sd p l e R s m args below meth c 1 nW dC dI k g A (MQ below (q_post (dC, dI) k g nW Q A) args s 0 0 A) 48 (b_X12_costLine_48 J Q) := by
  unfold b_X12_costLine_48
  refine s_iconst X ⟨by decide, by decide⟩ dX12_costLine_48 ?_
  exact s_zret X dX12_costLine_49
set_option maxRecDepth 100000 in
def b_X12_costLine_19 (J : Nat → List qV → List qV → qW → Prop) (Q : qR) : qK := x_int 0 (x_zret Q)
set_option maxRecDepth 100000 in
theorem s_X12_costLine_19 {p : Program} {l : Launch} {e : Env} {R : Room} {s : State} {m : MethodId} {args : Array Value} {below : List Frame} {meth : Method} {c : Code} {nW : Nat} {dC : Nat → ClassId} {dI : Nat → Nat → Nat} {k : Nat → ClassId} {g : Nat → Nat} {A : Nat → Prop} {J : Nat → List qV → List qV → qW → Prop} {Q : qR} (X : q_X p R s m args meth c cX12_costLine 1 nW 4 91 RX12 (some .boolean) dC dI k g A) (hJ : ∀ d : Nat, q_Sd p l e R s m args below meth c 1 nW dC dI k g A (MQ below (q_post (dC, dI) k g nW Q A) args s 0 0 A) d (x_cut (is_X12_costLine d) (J d))) : q_Sd p l e R s m args below meth c 1 nW dC dI k g A (MQ below (q_post (dC, dI) k g nW Q A) args s 0 0 A) 19 (b_X12_costLine_19 J Q) := by
  unfold b_X12_costLine_19
  refine s_iconst X ⟨by decide, by decide⟩ dX12_costLine_19 ?_
  exact s_zret X dX12_costLine_20
set_option maxRecDepth 100000 in
def b_X12_costLine_0 (J : Nat → List qV → List qV → qW → Prop) (Q : qR) : qK := x_aload 0 (x_int 0 (x_call (some 12) 2 sp_X12_takeOffence (x_nw (x_if_eq (b_X12_costLine_19 J Q) (x_aload 0 (x_int 1 (x_int 1 (x_int 9 (x_call (some 12) 4 sp_X12_take (x_nw (x_if_ne (x_aload 0 (x_get 12 23 (x_if_eq (b_X12_costLine_48 J Q) (x_aload 0 (x_get 12 19 (x_int 21 (x_aload 0 (x_get 12 20 (x_int 0 (x_iald (x_iadd (x_aload 0 (x_get 12 20 (x_int 1 (x_iald (x_iast (x_nw (b_X12_costLine_48 J Q)))))))))))))))))) (b_X12_costLine_19 J Q))))))))))))
set_option maxRecDepth 100000 in
theorem s_X12_costLine_0 {p : Program} {l : Launch} {e : Env} {R : Room} {s : State} {m : MethodId} {args : Array Value} {below : List Frame} {meth : Method} {c : Code} {nW : Nat} {dC : Nat → ClassId} {dI : Nat → Nat → Nat} {k : Nat → ClassId} {g : Nat → Nat} {A : Nat → Prop} {J : Nat → List qV → List qV → qW → Prop} {Q : qR} (X : q_X p R s m args meth c cX12_costLine 1 nW 4 91 RX12 (some .boolean) dC dI k g A) (hJ : ∀ d : Nat, q_Sd p l e R s m args below meth c 1 nW dC dI k g A (MQ below (q_post (dC, dI) k g nW Q A) args s 0 0 A) d (x_cut (is_X12_costLine d) (J d))) : q_Sd p l e R s m args below meth c 1 nW dC dI k g A (MQ below (q_post (dC, dI) k g nW Q A) args s 0 0 A) 0 (b_X12_costLine_0 J Q) := by
  unfold b_X12_costLine_0
  refine s_aload_n X rfl dX12_costLine_0 ?_
  refine s_iconst X ⟨by decide, by decide⟩ dX12_costLine_1 ?_
  refine s_callV X (m_X12_takeOffence l) tw_1133 tw_1134 tw_1623 tw_134 tw_1135 rfl (by decide +kernel) ⟨by decide, by decide⟩ dX12_costLine_2 ?_
  refine s_nw ?_
  refine s_if_eq X (tgt := 19) dX12_costLine_5 (by decide) ?_ ?_
  · exact s_X12_costLine_19 X hJ
  · refine s_aload_n X rfl dX12_costLine_8 ?_
    refine s_iconst X ⟨by decide, by decide⟩ dX12_costLine_9 ?_
    refine s_iconst X ⟨by decide, by decide⟩ dX12_costLine_10 ?_
    refine s_bipush X ⟨by decide, by decide⟩ (by decide) dX12_costLine_11 ?_
    refine s_callV X (m_X12_take l) tw_1097 tw_1098 tw_1621 tw_134 tw_1099 rfl (by decide +kernel) ⟨by decide, by decide⟩ dX12_costLine_13 ?_
    refine s_nw ?_
    refine s_if_ne X (tgt := 21) dX12_costLine_16 (by decide) ?_ ?_
    · refine s_aload_n X rfl dX12_costLine_21 ?_
      refine s_get X (T := TX12) (C := RX12) (N := 45) tu_X12 rfl (by decide) tw_1020 dX12_costLine_22 ?_
      refine s_if_eq X (tgt := 48) dX12_costLine_25 (by decide) ?_ ?_
      · exact s_X12_costLine_48 X hJ
      · refine s_aload_n X rfl dX12_costLine_28 ?_
        refine s_get X (T := TX12) (C := RX12) (N := 45) tu_X12 rfl (by decide) tw_1016 dX12_costLine_29 ?_
        refine s_bipush X ⟨by decide, by decide⟩ (by decide) dX12_costLine_32 ?_
        refine s_aload_n X rfl dX12_costLine_34 ?_
        refine s_get X (T := TX12) (C := RX12) (N := 45) tu_X12 rfl (by decide) tw_1017 dX12_costLine_35 ?_
        refine s_iconst X ⟨by decide, by decide⟩ dX12_costLine_38 ?_
        refine s_iald X dX12_costLine_39 ?_
        refine s_iadd X dX12_costLine_40 ?_
        refine s_aload_n X rfl dX12_costLine_41 ?_
        refine s_get X (T := TX12) (C := RX12) (N := 45) tu_X12 rfl (by decide) tw_1017 dX12_costLine_42 ?_
        refine s_iconst X ⟨by decide, by decide⟩ dX12_costLine_45 ?_
        refine s_iald X dX12_costLine_46 ?_
        refine s_iast X dX12_costLine_47 ?_
        refine s_nw ?_
        exact s_X12_costLine_48 X hJ
    · exact s_X12_costLine_19 X hJ

def sp_X12_costLine : qS := fun av w Q => ∃ (mco : Int) (mre : Int) (mle : Int) (mbe : Int) (mso : Int) (mva : Int) (mwo : Int) (mwr : Int) (mlf : Int) (mlp : Int) (mfp : Int) (mfd : Int) (mgo : Int) (mbo : Int) (mpe : Int) (mye : Int) (mpr : Int) (mld : Int) (msi : Int) (mse : Int) (tp : Nat → Int) (re : Nat → Int) (td : Nat → Int), av = [q2 0] ∧ w = [.inr (12, [q1 mco, q2 1, q2 4, q2 5, q2 6, q2 7, q2 8, q2 9, q2 10, q2 11, q1 mre, q1 mle, q1 mbe, q1 mso, q1 mva, q3 mwo, q1 mwr, q1 mlf, q1 mlp, q2 3, q2 2, q1 mfp, q1 mfd, q1 mgo, q1 mbo, q1 mpe, q1 mye, q2 12, q1 mpr, q2 13, q2 14, q2 15, q2 16, q1 mld, q2 17, q1 msi, q2 18, q2 19, q2 20, q2 21, q2 22, q1 mse, q2 23, q2 24, q2 25]), .inl (1, 2400, .inl tp), .inl (0, 4, .inl re), .inl (0, 161, .inl td)] ∧ (0 ≤ mre ∧ mre ≤ mle ∧ mle ≤ 600) ∧ (BT td 0) ∧ (∀ (r : Int) (x_mre : Int) (x_mbe : Int) (x_mso : Int) (x_mva : Int) (x_mwo : Int) (x_mwr : Int) (x_mlf : Int) (x_mlp : Int) (x_mgo : Int) (x_re : Nat → Int) (x_td : Nat → Int), ((r = 0 ∨ r = 1 ∧ (x_mso = 0 ∨ mre < x_mre)) ∧ mre ≤ x_mre ∧ x_mre ≤ mle ∧ BT x_td 0) → Q (some (q1 r)) ([.inr (12, [q1 mco, q2 1, q2 4, q2 5, q2 6, q2 7, q2 8, q2 9, q2 10, q2 11, q1 x_mre, q1 mle, q1 x_mbe, q1 x_mso, q1 x_mva, q3 x_mwo, q1 x_mwr, q1 x_mlf, q1 x_mlp, q2 3, q2 2, q1 mfp, q1 mfd, q1 x_mgo, q1 mbo, q1 mpe, q1 mye, q2 12, q1 mpr, q2 13, q2 14, q2 15, q2 16, q1 mld, q2 17, q1 msi, q2 18, q2 19, q2 20, q2 21, q2 22, q1 mse, q2 23, q2 24, q2 25]), .inl (1, 2400, .inl tp), .inl (0, 4, .inl x_re), .inl (0, 161, .inl x_td)]))
set_option maxHeartbeats 4000000 in
set_option maxRecDepth 100000 in
theorem m_X12_costLine (l : Launch) : q_M l yX12_costLine cX12_costLine 1 (some .boolean) 4 91 sp_X12_costLine := by
  refine q_meth (by decide) (fun av w Q h => by obtain ⟨mco, mre, mle, mbe, mso, mva, mwo, mwr, mlf, mlp, mfp, mfd, mgo, mbo, mpe, mye, mpr, mld, msi, mse, tp, re, td, rfl, rfl, htp, hbt, hQ⟩ := h; exact Nat.le_of_ble_eq_true rfl) ?_
  intro p e R s m args below meth c dC dI k g A av w Q hsp oka okw X
  obtain ⟨mco, mre, mle, mbe, mso, mva, mwo, mwr, mlf, mlp, mfp, mfd, mgo, mbo, mpe, mye, mpr, mld, msi, mse, tp, re, td, rfl, rfl, htp, hbt, hQ⟩ := hsp
  refine s_mono (s_X12_costLine_0 X (J := fun _ _ _ _ => False) (fun d => s_cutF)) ?_
  rintro lv st w' ⟨rfl, rfl, rfl⟩
  refine Exists.intro [0, 1, 2, 4, 5, 6, 7, 8, 9, 10, 11, 3, 12, 13, 14, 15, 16, 17, 18, 19, 20, 21, 22, 23, 24, 25] (Exists.intro [q2 0, q1 _] (Exists.intro ([.inr (12, [q1 _, q2 1, q2 3, q2 4, q2 5, q2 6, q2 7, q2 8, q2 9, q2 10, q1 _, q1 _, q1 _, q1 _, q1 _, q3 _, q1 _, q1 _, q1 _, q2 11, q2 2, q1 _, q1 _, q1 _, q1 _, q1 _, q1 _, q2 12, q1 _, q2 13, q2 14, q2 15, q2 16, q1 _, q2 17, q1 _, q2 18, q2 19, q2 20, q2 21, q2 22, q1 _, q2 23, q2 24, q2 25]), .inl (1, 2400, .inl _), .inl (0, 4, .inl _)]) (And.intro rfl (And.intro rfl (And.intro rfl (And.intro ⟨⟨_, rfl⟩, rfl⟩ ?_))))))
  refine Exists.intro _ (Exists.intro _ (Exists.intro _ (Exists.intro _ (Exists.intro _ (Exists.intro _ (Exists.intro _ (Exists.intro _ (Exists.intro _ (Exists.intro _ (Exists.intro _ (Exists.intro _ (Exists.intro _ (Exists.intro _ (Exists.intro _ (Exists.intro _ (Exists.intro _ (Exists.intro _ (Exists.intro _ (Exists.intro _ (Exists.intro _ (Exists.intro _ (Exists.intro _ (And.intro rfl (And.intro rfl (And.intro (by first | omega | assumption | exact q_rg_up (by assumption) (by omega) | exact q_rg_up (q_rg_up (by assumption) (by omega)) (by omega) | exact q_rg_cpy (by assumption) (by assumption)) (And.intro (by first | omega | assumption | exact q_rg_up (by assumption) (by omega) | exact q_rg_up (q_rg_up (by assumption) (by omega)) (by omega) | exact q_rg_cpy (by assumption) (by assumption)) (?_)))))))))))))))))))))))))))
  intro z2 x_mre_2 x_mbe_2 x_mso_2 x_mva_2 x_mwo_2 x_mwr_2 x_re_2 h2
  apply And.intro
  · intro h5
    apply And.intro
    · first | exact Or.inl rfl | exact Or.inr rfl | omega
    exact hQ _ _ _ _ _ _ _ _ _ _ _ _ ⟨by omega, by omega, by omega, (by first | assumption | exact BT_up hbt (by omega))⟩
  · intro h5
    refine Exists.intro [0, 1, 2, 4, 5, 6, 7, 8, 9, 10, 11, 3, 12, 13, 14, 15, 16, 17, 18, 19, 20, 21, 22, 23, 24, 25] (Exists.intro [q2 0, q1 _, q1 _, q1 _] (Exists.intro ([.inr (12, [q1 _, q2 1, q2 3, q2 4, q2 5, q2 6, q2 7, q2 8, q2 9, q2 10, q1 _, q1 _, q1 _, q1 _, q1 _, q3 _, q1 _, q1 _, q1 _, q2 11, q2 2, q1 _, q1 _, q1 _, q1 _, q1 _, q1 _, q2 12, q1 _, q2 13, q2 14, q2 15, q2 16, q1 _, q2 17, q1 _, q2 18, q2 19, q2 20, q2 21, q2 22, q1 _, q2 23, q2 24, q2 25]), .inl (1, 2400, .inl _), .inl (0, 4, .inl _)]) (And.intro rfl (And.intro rfl (And.intro rfl (And.intro ⟨⟨_, rfl⟩, rfl⟩ ?_))))))
    refine Exists.intro _ (Exists.intro _ (Exists.intro _ (Exists.intro _ (Exists.intro _ (Exists.intro _ (Exists.intro _ (Exists.intro _ (Exists.intro _ (Exists.intro _ (Exists.intro _ (Exists.intro _ (Exists.intro _ (Exists.intro _ (Exists.intro _ (Exists.intro _ (Exists.intro _ (Exists.intro _ (Exists.intro _ (Exists.intro _ (Exists.intro _ (Exists.intro _ (Exists.intro _ (Exists.intro _ (Exists.intro _ (And.intro rfl (And.intro rfl (And.intro (by first | omega | assumption | exact q_rg_up (by assumption) (by omega) | exact q_rg_up (q_rg_up (by assumption) (by omega)) (by omega) | exact q_rg_cpy (by assumption) (by assumption)) (And.intro (by first | omega | assumption | exact q_rg_up (by assumption) (by omega) | exact q_rg_up (q_rg_up (by assumption) (by omega)) (by omega) | exact q_rg_cpy (by assumption) (by assumption)) (?_)))))))))))))))))))))))))))))
    intro z13 x_mre_13 x_mbe_13 x_mso_13 x_mva_13 x_mwo_13 x_mwr_13 x_mlf_13 x_mlp_13 x_mgo_13 x_re_13 h13
    apply And.intro
    · intro h16
      apply And.intro
      · intro h25
        apply And.intro
        · first | exact Or.inl rfl | exact Or.inr rfl | omega
        exact hQ _ _ _ _ _ _ _ _ _ _ _ _ ⟨by omega, by omega, by omega, (by first | assumption | exact BT_up hbt (by omega))⟩
      · intro h25
        have g1 := h13.2.2.2.2 (by omega) h25
        have g2 := h2.2.2.2.2 (by omega)
        have g3 := h13.2.2.2.1 0 (by omega) (by omega)
        apply And.intro
        · exact ⟨by omega, by omega⟩
        intro z39 h39
        intro z40 h40
        first | replace h40 := e_add h40 (by omega) | replace h40 := e_rng h40
        apply And.intro
        · exact ⟨by omega, by omega⟩
        intro z46 h46
        apply And.intro
        · exact ⟨by omega, by omega⟩
        apply And.intro
        · first | exact Or.inl rfl | exact Or.inr rfl | omega
        exact hQ _ _ _ _ _ _ _ _ _ _ _ _ ⟨by omega, by omega, by omega, (by first | assumption | exact BT_up hbt (by omega))⟩
    · intro h16
      apply And.intro
      · first | exact Or.inl rfl | exact Or.inr rfl | omega
      exact hQ _ _ _ _ _ _ _ _ _ _ _ _ ⟨by omega, by omega, by omega, (by first | assumption | exact BT_up hbt (by omega))⟩

theorem dX12_wishLine_0 : decode cX12_wishLine 0 = .ok (.aload_n 0, 1) := by decide +kernel
theorem dX12_wishLine_1 : decode cX12_wishLine 1 = .ok (.iconst 0, 1) := by decide +kernel
theorem dX12_wishLine_2 : decode cX12_wishLine 2 = .ok (.iconst (-1), 1) := by decide +kernel
theorem dX12_wishLine_3 : decode cX12_wishLine 3 = .ok (.invokevirtual 177, 3) := by decide +kernel
theorem dX12_wishLine_6 : decode cX12_wishLine 6 = .ok (.ifCond .eq 22, 3) := by decide +kernel
theorem dX12_wishLine_9 : decode cX12_wishLine 9 = .ok (.aload_n 0, 1) := by decide +kernel
theorem dX12_wishLine_10 : decode cX12_wishLine 10 = .ok (.iconst 1, 1) := by decide +kernel
theorem dX12_wishLine_11 : decode cX12_wishLine 11 = .ok (.invokevirtual 183, 3) := by decide +kernel
theorem dX12_wishLine_14 : decode cX12_wishLine 14 = .ok (.ifCond .eq 14, 3) := by decide +kernel
theorem dX12_wishLine_17 : decode cX12_wishLine 17 = .ok (.aload_n 0, 1) := by decide +kernel
theorem dX12_wishLine_18 : decode cX12_wishLine 18 = .ok (.iconst 2, 1) := by decide +kernel
theorem dX12_wishLine_19 : decode cX12_wishLine 19 = .ok (.iconst 0, 1) := by decide +kernel
theorem dX12_wishLine_20 : decode cX12_wishLine 20 = .ok (.bipush 99, 2) := by decide +kernel
theorem dX12_wishLine_22 : decode cX12_wishLine 22 = .ok (.invokevirtual 174, 3) := by decide +kernel
theorem dX12_wishLine_25 : decode cX12_wishLine 25 = .ok (.ifCond .ne 5, 3) := by decide +kernel
theorem dX12_wishLine_28 : decode cX12_wishLine 28 = .ok (.iconst 0, 1) := by decide +kernel
theorem dX12_wishLine_29 : decode cX12_wishLine 29 = .ok (.ireturn, 1) := by decide +kernel
theorem dX12_wishLine_30 : decode cX12_wishLine 30 = .ok (.aload_n 0, 1) := by decide +kernel
theorem dX12_wishLine_31 : decode cX12_wishLine 31 = .ok (.getfield 148, 3) := by decide +kernel
theorem dX12_wishLine_34 : decode cX12_wishLine 34 = .ok (.ifCond .eq 32, 3) := by decide +kernel
theorem dX12_wishLine_37 : decode cX12_wishLine 37 = .ok (.aload_n 0, 1) := by decide +kernel
theorem dX12_wishLine_38 : decode cX12_wishLine 38 = .ok (.getfield 38, 3) := by decide +kernel
theorem dX12_wishLine_41 : decode cX12_wishLine 41 = .ok (.bipush 43, 2) := by decide +kernel
theorem dX12_wishLine_43 : decode cX12_wishLine 43 = .ok (.iconst 4, 1) := by decide +kernel
theorem dX12_wishLine_44 : decode cX12_wishLine 44 = .ok (.aload_n 0, 1) := by decide +kernel
theorem dX12_wishLine_45 : decode cX12_wishLine 45 = .ok (.getfield 41, 3) := by decide +kernel
theorem dX12_wishLine_48 : decode cX12_wishLine 48 = .ok (.iconst 0, 1) := by decide +kernel
theorem dX12_wishLine_49 : decode cX12_wishLine 49 = .ok (.iaload, 1) := by decide +kernel
theorem dX12_wishLine_50 : decode cX12_wishLine 50 = .ok (.imul, 1) := by decide +kernel
theorem dX12_wishLine_51 : decode cX12_wishLine 51 = .ok (.iadd, 1) := by decide +kernel
theorem dX12_wishLine_52 : decode cX12_wishLine 52 = .ok (.aload_n 0, 1) := by decide +kernel
theorem dX12_wishLine_53 : decode cX12_wishLine 53 = .ok (.getfield 41, 3) := by decide +kernel
theorem dX12_wishLine_56 : decode cX12_wishLine 56 = .ok (.iconst 1, 1) := by decide +kernel
theorem dX12_wishLine_57 : decode cX12_wishLine 57 = .ok (.iaload, 1) := by decide +kernel
theorem dX12_wishLine_58 : decode cX12_wishLine 58 = .ok (.iadd, 1) := by decide +kernel
theorem dX12_wishLine_59 : decode cX12_wishLine 59 = .ok (.aload_n 0, 1) := by decide +kernel
theorem dX12_wishLine_60 : decode cX12_wishLine 60 = .ok (.getfield 41, 3) := by decide +kernel
theorem dX12_wishLine_63 : decode cX12_wishLine 63 = .ok (.iconst 2, 1) := by decide +kernel
theorem dX12_wishLine_64 : decode cX12_wishLine 64 = .ok (.iaload, 1) := by decide +kernel
theorem dX12_wishLine_65 : decode cX12_wishLine 65 = .ok (.iastore, 1) := by decide +kernel
theorem dX12_wishLine_66 : decode cX12_wishLine 66 = .ok (.iconst 1, 1) := by decide +kernel
theorem dX12_wishLine_67 : decode cX12_wishLine 67 = .ok (.ireturn, 1) := by decide +kernel
def is_X12_wishLine : Nat → List Nat := fun d => []
set_option maxRecDepth 100000 in
def b_X12_wishLine_66 (J : Nat → List qV → List qV → qW → Prop) (Q : qR) : qK := x_int 1 (x_zret Q)
set_option maxRecDepth 100000 in
theorem s_X12_wishLine_66 {p : Program} {l : Launch} {e : Env} {R : Room} {s : State} {m : MethodId} {args : Array Value} {below : List Frame} {meth : Method} {c : Code} {nW : Nat} {dC : Nat → ClassId} {dI : Nat → Nat → Nat} {k : Nat → ClassId} {g : Nat → Nat} {A : Nat → Prop} {J : Nat → List qV → List qV → qW → Prop} {Q : qR} (X : q_X p R s m args meth c cX12_wishLine 1 nW 4 91 RX12 (some .boolean) dC dI k g A) (hJ : ∀ d : Nat, q_Sd p l e R s m args below meth c 1 nW dC dI k g A (MQ below (q_post (dC, dI) k g nW Q A) args s 0 0 A) d (x_cut (is_X12_wishLine d) (J d))) : q_Sd p l e R s m args below meth c 1 nW dC dI k g A (MQ below (q_post (dC, dI) k g nW Q A) args s 0 0 A) 66 (b_X12_wishLine_66 J Q) := by
  unfold b_X12_wishLine_66
  refine s_iconst X ⟨by decide, by decide⟩ dX12_wishLine_66 ?_
  exact s_zret X dX12_wishLine_67
set_option maxRecDepth 100000 in
def b_X12_wishLine_65 (J : Nat → List qV → List qV → qW → Prop) (Q : qR) : qK := x_iast (x_nw (b_X12_wishLine_66 J Q))
set_option maxRecDepth 100000 in
theorem s_X12_wishLine_65 {p : Program} {l : Launch} {e : Env} {R : Room} {s : State} {m : MethodId} {args : Array Value} {below : List Frame} {meth : Method} {c : Code} {nW : Nat} {dC : Nat → ClassId} {dI : Nat → Nat → Nat} {k : Nat → ClassId} {g : Nat → Nat} {A : Nat → Prop} {J : Nat → List qV → List qV → qW → Prop} {Q : qR} (X : q_X p R s m args meth c cX12_wishLine 1 nW 4 91 RX12 (some .boolean) dC dI k g A) (hJ : ∀ d : Nat, q_Sd p l e R s m args below meth c 1 nW dC dI k g A (MQ below (q_post (dC, dI) k g nW Q A) args s 0 0 A) d (x_cut (is_X12_wishLine d) (J d))) : q_Sd p l e R s m args below meth c 1 nW dC dI k g A (MQ below (q_post (dC, dI) k g nW Q A) args s 0 0 A) 65 (b_X12_wishLine_65 J Q) := by
  unfold b_X12_wishLine_65
  refine s_iast X dX12_wishLine_65 ?_
  refine s_nw ?_
  exact s_X12_wishLine_66 X hJ
set_option maxRecDepth 100000 in
def b_X12_wishLine_28 (J : Nat → List qV → List qV → qW → Prop) (Q : qR) : qK := x_int 0 (x_zret Q)
set_option maxRecDepth 100000 in
theorem s_X12_wishLine_28 {p : Program} {l : Launch} {e : Env} {R : Room} {s : State} {m : MethodId} {args : Array Value} {below : List Frame} {meth : Method} {c : Code} {nW : Nat} {dC : Nat → ClassId} {dI : Nat → Nat → Nat} {k : Nat → ClassId} {g : Nat → Nat} {A : Nat → Prop} {J : Nat → List qV → List qV → qW → Prop} {Q : qR} (X : q_X p R s m args meth c cX12_wishLine 1 nW 4 91 RX12 (some .boolean) dC dI k g A) (hJ : ∀ d : Nat, q_Sd p l e R s m args below meth c 1 nW dC dI k g A (MQ below (q_post (dC, dI) k g nW Q A) args s 0 0 A) d (x_cut (is_X12_wishLine d) (J d))) : q_Sd p l e R s m args below meth c 1 nW dC dI k g A (MQ below (q_post (dC, dI) k g nW Q A) args s 0 0 A) 28 (b_X12_wishLine_28 J Q) := by
  unfold b_X12_wishLine_28
  refine s_iconst X ⟨by decide, by decide⟩ dX12_wishLine_28 ?_
  exact s_zret X dX12_wishLine_29
set_option maxRecDepth 100000 in
def b_X12_wishLine_0 (J : Nat → List qV → List qV → qW → Prop) (Q : qR) : qK := x_aload 0 (x_int 0 (x_int (-1) (x_call (some 12) 3 sp_X12_takePerson (x_nw (x_if_eq (b_X12_wishLine_28 J Q) (x_aload 0 (x_int 1 (x_call (some 12) 2 sp_X12_takeOffence (x_nw (x_if_eq (b_X12_wishLine_28 J Q) (x_aload 0 (x_int 2 (x_int 0 (x_int 99 (x_call (some 12) 4 sp_X12_take (x_nw (x_if_ne (x_aload 0 (x_get 12 23 (x_if_eq (b_X12_wishLine_66 J Q) (x_aload 0 (x_get 12 19 (x_int 43 (x_int 4 (x_aload 0 (x_get 12 20 (x_int 0 (x_iald (x_imul (x_iadd (x_aload 0 (x_get 12 20 (x_int 1 (x_iald (x_iadd (x_aload 0 (x_get 12 20 (x_int 2 (x_iald (b_X12_wishLine_65 J Q))))))))))))))))))))))) (b_X12_wishLine_28 J Q))))))))))))))))))
set_option maxRecDepth 100000 in
theorem s_X12_wishLine_0 {p : Program} {l : Launch} {e : Env} {R : Room} {s : State} {m : MethodId} {args : Array Value} {below : List Frame} {meth : Method} {c : Code} {nW : Nat} {dC : Nat → ClassId} {dI : Nat → Nat → Nat} {k : Nat → ClassId} {g : Nat → Nat} {A : Nat → Prop} {J : Nat → List qV → List qV → qW → Prop} {Q : qR} (X : q_X p R s m args meth c cX12_wishLine 1 nW 4 91 RX12 (some .boolean) dC dI k g A) (hJ : ∀ d : Nat, q_Sd p l e R s m args below meth c 1 nW dC dI k g A (MQ below (q_post (dC, dI) k g nW Q A) args s 0 0 A) d (x_cut (is_X12_wishLine d) (J d))) : q_Sd p l e R s m args below meth c 1 nW dC dI k g A (MQ below (q_post (dC, dI) k g nW Q A) args s 0 0 A) 0 (b_X12_wishLine_0 J Q) := by
  unfold b_X12_wishLine_0
  refine s_aload_n X rfl dX12_wishLine_0 ?_
  refine s_iconst X ⟨by decide, by decide⟩ dX12_wishLine_1 ?_
  refine s_iconst X ⟨by decide, by decide⟩ dX12_wishLine_2 ?_
  refine s_callV X (m_X12_takePerson l) tw_1115 tw_1116 tw_1624 tw_134 tw_1117 rfl (by decide +kernel) ⟨by decide, by decide⟩ dX12_wishLine_3 ?_
  refine s_nw ?_
  refine s_if_eq X (tgt := 28) dX12_wishLine_6 (by decide) ?_ ?_
  · exact s_X12_wishLine_28 X hJ
  · refine s_aload_n X rfl dX12_wishLine_9 ?_
    refine s_iconst X ⟨by decide, by decide⟩ dX12_wishLine_10 ?_
    refine s_callV X (m_X12_takeOffence l) tw_1133 tw_1134 tw_1623 tw_134 tw_1135 rfl (by decide +kernel) ⟨by decide, by decide⟩ dX12_wishLine_11 ?_
    refine s_nw ?_
    refine s_if_eq X (tgt := 28) dX12_wishLine_14 (by decide) ?_ ?_
    · exact s_X12_wishLine_28 X hJ
    · refine s_aload_n X rfl dX12_wishLine_17 ?_
      refine s_iconst X ⟨by decide, by decide⟩ dX12_wishLine_18 ?_
      refine s_iconst X ⟨by decide, by decide⟩ dX12_wishLine_19 ?_
      refine s_bipush X ⟨by decide, by decide⟩ (by decide) dX12_wishLine_20 ?_
      refine s_callV X (m_X12_take l) tw_1097 tw_1098 tw_1621 tw_134 tw_1099 rfl (by decide +kernel) ⟨by decide, by decide⟩ dX12_wishLine_22 ?_
      refine s_nw ?_
      refine s_if_ne X (tgt := 30) dX12_wishLine_25 (by decide) ?_ ?_
      · refine s_aload_n X rfl dX12_wishLine_30 ?_
        refine s_get X (T := TX12) (C := RX12) (N := 45) tu_X12 rfl (by decide) tw_1020 dX12_wishLine_31 ?_
        refine s_if_eq X (tgt := 66) dX12_wishLine_34 (by decide) ?_ ?_
        · exact s_X12_wishLine_66 X hJ
        · refine s_aload_n X rfl dX12_wishLine_37 ?_
          refine s_get X (T := TX12) (C := RX12) (N := 45) tu_X12 rfl (by decide) tw_1016 dX12_wishLine_38 ?_
          refine s_bipush X ⟨by decide, by decide⟩ (by decide) dX12_wishLine_41 ?_
          refine s_iconst X ⟨by decide, by decide⟩ dX12_wishLine_43 ?_
          refine s_aload_n X rfl dX12_wishLine_44 ?_
          refine s_get X (T := TX12) (C := RX12) (N := 45) tu_X12 rfl (by decide) tw_1017 dX12_wishLine_45 ?_
          refine s_iconst X ⟨by decide, by decide⟩ dX12_wishLine_48 ?_
          refine s_iald X dX12_wishLine_49 ?_
          refine s_imul X dX12_wishLine_50 ?_
          refine s_iadd X dX12_wishLine_51 ?_
          refine s_aload_n X rfl dX12_wishLine_52 ?_
          refine s_get X (T := TX12) (C := RX12) (N := 45) tu_X12 rfl (by decide) tw_1017 dX12_wishLine_53 ?_
          refine s_iconst X ⟨by decide, by decide⟩ dX12_wishLine_56 ?_
          refine s_iald X dX12_wishLine_57 ?_
          refine s_iadd X dX12_wishLine_58 ?_
          refine s_aload_n X rfl dX12_wishLine_59 ?_
          refine s_get X (T := TX12) (C := RX12) (N := 45) tu_X12 rfl (by decide) tw_1017 dX12_wishLine_60 ?_
          refine s_iconst X ⟨by decide, by decide⟩ dX12_wishLine_63 ?_
          refine s_iald X dX12_wishLine_64 ?_
          exact s_X12_wishLine_65 X hJ
      · exact s_X12_wishLine_28 X hJ

def sp_X12_wishLine : qS := fun av w Q => ∃ (mco : Int) (mre : Int) (mle : Int) (mbe : Int) (mso : Int) (mva : Int) (mwo : Int) (mwr : Int) (mlf : Int) (mlp : Int) (mfp : Int) (mfd : Int) (mgo : Int) (mbo : Int) (mpe : Int) (mye : Int) (mpr : Int) (mld : Int) (msi : Int) (mse : Int) (tp : Nat → Int) (re : Nat → Int) (td : Nat → Int), av = [q2 0] ∧ w = [.inr (12, [q1 mco, q2 1, q2 4, q2 5, q2 6, q2 7, q2 8, q2 9, q2 10, q2 11, q1 mre, q1 mle, q1 mbe, q1 mso, q1 mva, q3 mwo, q1 mwr, q1 mlf, q1 mlp, q2 3, q2 2, q1 mfp, q1 mfd, q1 mgo, q1 mbo, q1 mpe, q1 mye, q2 12, q1 mpr, q2 13, q2 14, q2 15, q2 16, q1 mld, q2 17, q1 msi, q2 18, q2 19, q2 20, q2 21, q2 22, q1 mse, q2 23, q2 24, q2 25]), .inl (1, 2400, .inl tp), .inl (0, 4, .inl re), .inl (0, 161, .inl td)] ∧ (0 ≤ mre ∧ mre ≤ mle ∧ mle ≤ 600) ∧ (BT td 0) ∧ (∀ (r : Int) (x_mre : Int) (x_mbe : Int) (x_mso : Int) (x_mva : Int) (x_mwo : Int) (x_mwr : Int) (x_mlf : Int) (x_mlp : Int) (x_mgo : Int) (x_mfp : Int) (x_re : Nat → Int) (x_td : Nat → Int), ((r = 0 ∨ r = 1 ∧ (x_mso = 0 ∨ mre < x_mre)) ∧ mre ≤ x_mre ∧ x_mre ≤ mle ∧ BT x_td 0) → Q (some (q1 r)) ([.inr (12, [q1 mco, q2 1, q2 4, q2 5, q2 6, q2 7, q2 8, q2 9, q2 10, q2 11, q1 x_mre, q1 mle, q1 x_mbe, q1 x_mso, q1 x_mva, q3 x_mwo, q1 x_mwr, q1 x_mlf, q1 x_mlp, q2 3, q2 2, q1 x_mfp, q1 mfd, q1 x_mgo, q1 mbo, q1 mpe, q1 mye, q2 12, q1 mpr, q2 13, q2 14, q2 15, q2 16, q1 mld, q2 17, q1 msi, q2 18, q2 19, q2 20, q2 21, q2 22, q1 mse, q2 23, q2 24, q2 25]), .inl (1, 2400, .inl tp), .inl (0, 4, .inl x_re), .inl (0, 161, .inl x_td)]))
set_option maxHeartbeats 4000000 in
set_option maxRecDepth 100000 in
theorem m_X12_wishLine (l : Launch) : q_M l yX12_wishLine cX12_wishLine 1 (some .boolean) 4 91 sp_X12_wishLine := by
  refine q_meth (by decide) (fun av w Q h => by obtain ⟨mco, mre, mle, mbe, mso, mva, mwo, mwr, mlf, mlp, mfp, mfd, mgo, mbo, mpe, mye, mpr, mld, msi, mse, tp, re, td, rfl, rfl, htp, hbt, hQ⟩ := h; exact Nat.le_of_ble_eq_true rfl) ?_
  intro p e R s m args below meth c dC dI k g A av w Q hsp oka okw X
  obtain ⟨mco, mre, mle, mbe, mso, mva, mwo, mwr, mlf, mlp, mfp, mfd, mgo, mbo, mpe, mye, mpr, mld, msi, mse, tp, re, td, rfl, rfl, htp, hbt, hQ⟩ := hsp
  refine s_mono (s_X12_wishLine_0 X (J := fun _ _ _ _ => False) (fun d => s_cutF)) ?_
  rintro lv st w' ⟨rfl, rfl, rfl⟩
  refine Exists.intro [0, 1, 2, 4, 5, 6, 7, 8, 9, 10, 11, 3, 12, 13, 14, 15, 16, 17, 18, 19, 20, 21, 22, 23, 24, 25] (Exists.intro [q2 0, q1 _, q1 _] (Exists.intro ([.inr (12, [q1 _, q2 1, q2 3, q2 4, q2 5, q2 6, q2 7, q2 8, q2 9, q2 10, q1 _, q1 _, q1 _, q1 _, q1 _, q3 _, q1 _, q1 _, q1 _, q2 11, q2 2, q1 _, q1 _, q1 _, q1 _, q1 _, q1 _, q2 12, q1 _, q2 13, q2 14, q2 15, q2 16, q1 _, q2 17, q1 _, q2 18, q2 19, q2 20, q2 21, q2 22, q1 _, q2 23, q2 24, q2 25]), .inl (1, 2400, .inl _), .inl (0, 4, .inl _)]) (And.intro rfl (And.intro rfl (And.intro rfl (And.intro ⟨⟨_, rfl⟩, rfl⟩ ?_))))))
  refine Exists.intro _ (Exists.intro _ (Exists.intro _ (Exists.intro _ (Exists.intro _ (Exists.intro _ (Exists.intro _ (Exists.intro _ (Exists.intro _ (Exists.intro _ (Exists.intro _ (Exists.intro _ (Exists.intro _ (Exists.intro _ (Exists.intro _ (Exists.intro _ (Exists.intro _ (Exists.intro _ (Exists.intro _ (Exists.intro _ (Exists.intro _ (Exists.intro _ (Exists.intro _ (Exists.intro _ (And.intro rfl (And.intro rfl (And.intro (by first | omega | assumption | exact q_rg_up (by assumption) (by omega) | exact q_rg_up (q_rg_up (by assumption) (by omega)) (by omega) | exact q_rg_cpy (by assumption) (by assumption)) (And.intro (by first | omega | assumption | exact q_rg_up (by assumption) (by omega) | exact q_rg_up (q_rg_up (by assumption) (by omega)) (by omega) | exact q_rg_cpy (by assumption) (by assumption)) (?_))))))))))))))))))))))))))))
  intro z3 x_mre_3 x_mbe_3 x_mso_3 x_mva_3 x_mwo_3 x_mwr_3 x_mlf_3 x_mlp_3 x_mgo_3 x_mfp_3 x_re_3 h3
  apply And.intro
  · intro h6
    apply And.intro
    · first | exact Or.inl rfl | exact Or.inr rfl | omega
    exact hQ _ _ _ _ _ _ _ _ _ _ _ _ _ ⟨by omega, by omega, by omega, (by first | assumption | exact BT_up hbt (by omega))⟩
  · intro h6
    refine Exists.intro [0, 1, 2, 4, 5, 6, 7, 8, 9, 10, 11, 3, 12, 13, 14, 15, 16, 17, 18, 19, 20, 21, 22, 23, 24, 25] (Exists.intro [q2 0, q1 _] (Exists.intro ([.inr (12, [q1 _, q2 1, q2 3, q2 4, q2 5, q2 6, q2 7, q2 8, q2 9, q2 10, q1 _, q1 _, q1 _, q1 _, q1 _, q3 _, q1 _, q1 _, q1 _, q2 11, q2 2, q1 _, q1 _, q1 _, q1 _, q1 _, q1 _, q2 12, q1 _, q2 13, q2 14, q2 15, q2 16, q1 _, q2 17, q1 _, q2 18, q2 19, q2 20, q2 21, q2 22, q1 _, q2 23, q2 24, q2 25]), .inl (1, 2400, .inl _), .inl (0, 4, .inl _)]) (And.intro rfl (And.intro rfl (And.intro rfl (And.intro ⟨⟨_, rfl⟩, rfl⟩ ?_))))))
    refine Exists.intro _ (Exists.intro _ (Exists.intro _ (Exists.intro _ (Exists.intro _ (Exists.intro _ (Exists.intro _ (Exists.intro _ (Exists.intro _ (Exists.intro _ (Exists.intro _ (Exists.intro _ (Exists.intro _ (Exists.intro _ (Exists.intro _ (Exists.intro _ (Exists.intro _ (Exists.intro _ (Exists.intro _ (Exists.intro _ (Exists.intro _ (Exists.intro _ (Exists.intro _ (And.intro rfl (And.intro rfl (And.intro (by first | omega | assumption | exact q_rg_up (by assumption) (by omega) | exact q_rg_up (q_rg_up (by assumption) (by omega)) (by omega) | exact q_rg_cpy (by assumption) (by assumption)) (And.intro (by first | omega | assumption | exact q_rg_up (by assumption) (by omega) | exact q_rg_up (q_rg_up (by assumption) (by omega)) (by omega) | exact q_rg_cpy (by assumption) (by assumption)) (?_)))))))))))))))))))))))))))
    intro z11 x_mre_11 x_mbe_11 x_mso_11 x_mva_11 x_mwo_11 x_mwr_11 x_re_11 h11
    apply And.intro
    · intro h14
      apply And.intro
      · first | exact Or.inl rfl | exact Or.inr rfl | omega
      exact hQ _ _ _ _ _ _ _ _ _ _ _ _ _ ⟨by omega, by omega, by omega, (by first | assumption | exact BT_up hbt (by omega))⟩
    · intro h14
      refine Exists.intro [0, 1, 2, 4, 5, 6, 7, 8, 9, 10, 11, 3, 12, 13, 14, 15, 16, 17, 18, 19, 20, 21, 22, 23, 24, 25] (Exists.intro [q2 0, q1 _, q1 _, q1 _] (Exists.intro ([.inr (12, [q1 _, q2 1, q2 3, q2 4, q2 5, q2 6, q2 7, q2 8, q2 9, q2 10, q1 _, q1 _, q1 _, q1 _, q1 _, q3 _, q1 _, q1 _, q1 _, q2 11, q2 2, q1 _, q1 _, q1 _, q1 _, q1 _, q1 _, q2 12, q1 _, q2 13, q2 14, q2 15, q2 16, q1 _, q2 17, q1 _, q2 18, q2 19, q2 20, q2 21, q2 22, q1 _, q2 23, q2 24, q2 25]), .inl (1, 2400, .inl _), .inl (0, 4, .inl _)]) (And.intro rfl (And.intro rfl (And.intro rfl (And.intro ⟨⟨_, rfl⟩, rfl⟩ ?_))))))
      refine Exists.intro _ (Exists.intro _ (Exists.intro _ (Exists.intro _ (Exists.intro _ (Exists.intro _ (Exists.intro _ (Exists.intro _ (Exists.intro _ (Exists.intro _ (Exists.intro _ (Exists.intro _ (Exists.intro _ (Exists.intro _ (Exists.intro _ (Exists.intro _ (Exists.intro _ (Exists.intro _ (Exists.intro _ (Exists.intro _ (Exists.intro _ (Exists.intro _ (Exists.intro _ (Exists.intro _ (Exists.intro _ (And.intro rfl (And.intro rfl (And.intro (by first | omega | assumption | exact q_rg_up (by assumption) (by omega) | exact q_rg_up (q_rg_up (by assumption) (by omega)) (by omega) | exact q_rg_cpy (by assumption) (by assumption)) (And.intro (by first | omega | assumption | exact q_rg_up (by assumption) (by omega) | exact q_rg_up (q_rg_up (by assumption) (by omega)) (by omega) | exact q_rg_cpy (by assumption) (by assumption)) (?_)))))))))))))))))))))))))))))
      intro z22 x_mre_22 x_mbe_22 x_mso_22 x_mva_22 x_mwo_22 x_mwr_22 x_mlf_22 x_mlp_22 x_mgo_22 x_re_22 h22
      apply And.intro
      · intro h25
        apply And.intro
        · intro h34
          apply And.intro
          · first | exact Or.inl rfl | exact Or.inr rfl | omega
          exact hQ _ _ _ _ _ _ _ _ _ _ _ _ _ ⟨by omega, by omega, by omega, (by first | assumption | exact BT_up hbt (by omega))⟩
        · intro h34
          have g1 := h22.2.2.2.2 (by omega) h34
          have g2 := h11.2.2.2.2 (by omega)
          have g3 := h3.2.2.2.2 (by omega) g1.1
          have g4 := h22.2.2.2.1 0 (by omega) (by omega)
          have g5 := h22.2.2.2.1 1 (by omega) (by omega)
          have g6 := h11.2.2.2.1 0 (by omega) (by omega)
          apply And.intro
          · exact ⟨by omega, by omega⟩
          intro z49 h49
          intro z50 h50
          first | replace h50 := e_mul h50 (by omega) | replace h50 := e_rng h50
          intro z51 h51
          first | replace h51 := e_add h51 (by omega) | replace h51 := e_rng h51
          apply And.intro
          · exact ⟨by omega, by omega⟩
          intro z57 h57
          intro z58 h58
          first | replace h58 := e_add h58 (by omega) | replace h58 := e_rng h58
          apply And.intro
          · exact ⟨by omega, by omega⟩
          intro z64 h64
          apply And.intro
          · exact ⟨by omega, by omega⟩
          apply And.intro
          · first | exact Or.inl rfl | exact Or.inr rfl | omega
          exact hQ _ _ _ _ _ _ _ _ _ _ _ _ _ ⟨by omega, by omega, by omega, (by first | assumption | exact BT_up hbt (by omega))⟩
      · intro h25
        apply And.intro
        · first | exact Or.inl rfl | exact Or.inr rfl | omega
        exact hQ _ _ _ _ _ _ _ _ _ _ _ _ _ ⟨by omega, by omega, by omega, (by first | assumption | exact BT_up hbt (by omega))⟩
