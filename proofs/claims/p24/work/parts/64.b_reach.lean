theorem dX12_lacks_0 : decode cX12_lacks 0 = .ok (.iconst 0, 1) := by decide +kernel
theorem dX12_lacks_1 : decode cX12_lacks 1 = .ok (.aload_n 0, 1) := by decide +kernel
theorem dX12_lacks_2 : decode cX12_lacks 2 = .ok (.bipush 37, 2) := by decide +kernel
theorem dX12_lacks_4 : decode cX12_lacks 4 = .ok (.iload_n 2, 1) := by decide +kernel
theorem dX12_lacks_5 : decode cX12_lacks 5 = .ok (.iadd, 1) := by decide +kernel
theorem dX12_lacks_6 : decode cX12_lacks 6 = .ok (.invokevirtual 299, 3) := by decide +kernel
theorem dX12_lacks_9 : decode cX12_lacks 9 = .ok (.aload_n 0, 1) := by decide +kernel
theorem dX12_lacks_10 : decode cX12_lacks 10 = .ok (.iconst 5, 1) := by decide +kernel
theorem dX12_lacks_11 : decode cX12_lacks 11 = .ok (.iload_n 1, 1) := by decide +kernel
theorem dX12_lacks_12 : decode cX12_lacks 12 = .ok (.iadd, 1) := by decide +kernel
theorem dX12_lacks_13 : decode cX12_lacks 13 = .ok (.invokevirtual 299, 3) := by decide +kernel
theorem dX12_lacks_16 : decode cX12_lacks 16 = .ok (.isub, 1) := by decide +kernel
theorem dX12_lacks_17 : decode cX12_lacks 17 = .ok (.invokestatic 162, 3) := by decide +kernel
theorem dX12_lacks_20 : decode cX12_lacks 20 = .ok (.ireturn, 1) := by decide +kernel
def is_X12_lacks : Nat → List Nat := fun d => []
set_option maxRecDepth 100000 in
def b_X12_lacks_0 (J : Nat → List qV → List qV → qW → Prop) (Q : qR) : qK := x_int 0 (x_aload 0 (x_int 37 (x_iload 2 (x_iadd (x_callr (some 12) 2 spr_X12_of (x_aload 0 (x_int 5 (x_iload 1 (x_iadd (x_callr (some 12) 2 spr_X12_of (x_isub (x_callr none 2 spr_X12_greater (x_iret Q)))))))))))))
set_option maxRecDepth 100000 in
theorem s_X12_lacks_0 {p : Program} {l : Launch} {e : Env} {R : Room} {s : State} {m : MethodId} {args : Array Value} {below : List Frame} {meth : Method} {c : Code} {nW : Nat} {dC : Nat → ClassId} {dI : Nat → Nat → Nat} {k : Nat → ClassId} {g : Nat → Nat} {A : Nat → Prop} {J : Nat → List qV → List qV → qW → Prop} {Q : qR} (X : q_X p R s m args meth c cX12_lacks 3 nW 1 21 RX12 (some .int) dC dI k g A) (hJ : ∀ d : Nat, q_Sd p l e R s m args below meth c 3 nW dC dI k g A (MQ below (q_post (dC, dI) k g nW Q A) args s 0 0 A) d (x_cut (is_X12_lacks d) (J d))) : q_Sd p l e R s m args below meth c 3 nW dC dI k g A (MQ below (q_post (dC, dI) k g nW Q A) args s 0 0 A) 0 (b_X12_lacks_0 J Q) := by
  unfold b_X12_lacks_0
  refine s_iconst X ⟨by decide, by decide⟩ dX12_lacks_0 ?_
  refine s_aload_n X rfl dX12_lacks_1 ?_
  refine s_bipush X ⟨by decide, by decide⟩ (by decide) dX12_lacks_2 ?_
  refine s_iload_n X rfl dX12_lacks_4 ?_
  refine s_iadd X dX12_lacks_5 ?_
  refine s_callVr X (m_X12_of l) tw_1189 tw_1190 tw_1603 tw_134 tw_1191 rfl (by decide +kernel) ⟨by decide, by decide⟩ dX12_lacks_6 ?_
  refine s_aload_n X rfl dX12_lacks_9 ?_
  refine s_iconst X ⟨by decide, by decide⟩ dX12_lacks_10 ?_
  refine s_iload_n X rfl dX12_lacks_11 ?_
  refine s_iadd X dX12_lacks_12 ?_
  refine s_callVr X (m_X12_of l) tw_1189 tw_1190 tw_1603 tw_134 tw_1191 rfl (by decide +kernel) ⟨by decide, by decide⟩ dX12_lacks_13 ?_
  refine s_isub X dX12_lacks_16 ?_
  refine s_callSr X (m_X12_greater l) tw_1118 tw_1119 tw_134 tw_1120 (by decide +kernel) ⟨by decide, by decide⟩ dX12_lacks_17 ?_
  exact s_iret X dX12_lacks_20

def spr_X12_lacks : List qV → qW → (Option qV → Prop) → Prop := fun av w Q => ∃ (mco : Int) (mre : Int) (mle : Int) (mbe : Int) (mso : Int) (mva : Int) (mwo : Int) (mwr : Int) (mlf : Int) (mlp : Int) (mfp : Int) (mfd : Int) (mgo : Int) (mbo : Int) (mpe : Int) (mye : Int) (mpr : Int) (mld : Int) (msi : Int) (mse : Int) (bs : Nat → Int) (a : Int) (b : Int), av = [q2 0, q1 a, q1 b] ∧ w = [.inr (12, [q1 mco, q2 2, q2 3, q2 4, q2 5, q2 6, q2 1, q2 7, q2 8, q2 9, q1 mre, q1 mle, q1 mbe, q1 mso, q1 mva, q3 mwo, q1 mwr, q1 mlf, q1 mlp, q2 10, q2 11, q1 mfp, q1 mfd, q1 mgo, q1 mbo, q1 mpe, q1 mye, q2 12, q1 mpr, q2 13, q2 14, q2 15, q2 16, q1 mld, q2 17, q1 msi, q2 18, q2 19, q2 20, q2 21, q2 22, q1 mse, q2 23, q2 24, q2 25]), .inl (0, 600, .inl bs)] ∧ (0 ≤ mbo ∧ mbo ≤ 1) ∧ (BI bs) ∧ (0 ≤ a ∧ a ≤ 7 ∧ 0 ≤ b ∧ b ≤ 5) ∧ (∀ (r : Int) , Q (some (q1 r)))
def sp_X12_lacks : qS := fun av w Q => spr_X12_lacks av w (fun r => Q r w)
set_option maxHeartbeats 4000000 in
set_option maxRecDepth 100000 in
theorem m_X12_lacks (l : Launch) : q_M l yX12_lacks cX12_lacks 3 (some .int) 1 21 sp_X12_lacks := by
  refine q_meth (by decide) (fun av w Q h => by obtain ⟨mco, mre, mle, mbe, mso, mva, mwo, mwr, mlf, mlp, mfp, mfd, mgo, mbo, mpe, mye, mpr, mld, msi, mse, bs, a, b, rfl, rfl, hbo, hbi, ha, hQ⟩ := h; exact Nat.le_of_ble_eq_true rfl) ?_
  intro p e R s m args below meth c dC dI k g A av w Q hsp oka okw X
  obtain ⟨mco, mre, mle, mbe, mso, mva, mwo, mwr, mlf, mlp, mfp, mfd, mgo, mbo, mpe, mye, mpr, mld, msi, mse, bs, a, b, rfl, rfl, hbo, hbi, ha, hQ⟩ := hsp
  have o_a : -2147483648 ≤ a ∧ a ≤ 2147483647 := oka _ (List.mem_of_getElem? (i := 1) rfl)
  have o_b : -2147483648 ≤ b ∧ b ≤ 2147483647 := oka _ (List.mem_of_getElem? (i := 2) rfl)
  refine s_mono (s_X12_lacks_0 X (J := fun _ _ _ _ => False) (fun d => s_cutF)) ?_
  rintro lv st w' ⟨rfl, rfl, rfl⟩
  intro z5 h5
  first | replace h5 := e_add h5 (by omega) | replace h5 := e_rng h5
  refine Exists.intro [0, 1, 2, 3, 4, 5, 6, 7, 8, 9, 10, 11, 12, 13, 14, 15, 16, 17, 18, 19, 20, 21, 22, 23, 24, 25] (Exists.intro [q2 0, q1 _] (Exists.intro ([.inr (12, [q1 _, q2 2, q2 3, q2 4, q2 5, q2 6, q2 1, q2 7, q2 8, q2 9, q1 _, q1 _, q1 _, q1 _, q1 _, q3 _, q1 _, q1 _, q1 _, q2 10, q2 11, q1 _, q1 _, q1 _, q1 _, q1 _, q1 _, q2 12, q1 _, q2 13, q2 14, q2 15, q2 16, q1 _, q2 17, q1 _, q2 18, q2 19, q2 20, q2 21, q2 22, q1 _, q2 23, q2 24, q2 25]), .inl (0, 600, .inl _)]) (And.intro rfl (And.intro rfl (And.intro rfl (And.intro ⟨⟨_, rfl⟩, rfl⟩ ?_))))))
  refine Exists.intro _ (Exists.intro _ (Exists.intro _ (Exists.intro _ (Exists.intro _ (Exists.intro _ (Exists.intro _ (Exists.intro _ (Exists.intro _ (Exists.intro _ (Exists.intro _ (Exists.intro _ (Exists.intro _ (Exists.intro _ (Exists.intro _ (Exists.intro _ (Exists.intro _ (Exists.intro _ (Exists.intro _ (Exists.intro _ (Exists.intro _ (Exists.intro _ (And.intro rfl (And.intro rfl (And.intro (by first | omega | assumption | exact q_rg_up (by assumption) (by omega) | exact q_rg_up (q_rg_up (by assumption) (by omega)) (by omega) | exact q_rg_cpy (by assumption) (by assumption)) (And.intro (by first | omega | assumption | exact q_rg_up (by assumption) (by omega) | exact q_rg_up (q_rg_up (by assumption) (by omega)) (by omega) | exact q_rg_cpy (by assumption) (by assumption)) (And.intro (by first | omega | assumption | exact q_rg_up (by assumption) (by omega) | exact q_rg_up (q_rg_up (by assumption) (by omega)) (by omega) | exact q_rg_cpy (by assumption) (by assumption)) (?_)))))))))))))))))))))))))))
  intro z6 h6
  obtain ⟨h6, k6⟩ := h6
  first | replace k6 := OFQ_13 k6 (by omega) | replace k6 := OFQ_21 k6 (by omega) | clear k6
  intro z12 h12
  first | replace h12 := e_add h12 (by omega) | replace h12 := e_rng h12
  refine Exists.intro [0, 1, 2, 3, 4, 5, 6, 7, 8, 9, 10, 11, 12, 13, 14, 15, 16, 17, 18, 19, 20, 21, 22, 23, 24, 25] (Exists.intro [q2 0, q1 _] (Exists.intro ([.inr (12, [q1 _, q2 2, q2 3, q2 4, q2 5, q2 6, q2 1, q2 7, q2 8, q2 9, q1 _, q1 _, q1 _, q1 _, q1 _, q3 _, q1 _, q1 _, q1 _, q2 10, q2 11, q1 _, q1 _, q1 _, q1 _, q1 _, q1 _, q2 12, q1 _, q2 13, q2 14, q2 15, q2 16, q1 _, q2 17, q1 _, q2 18, q2 19, q2 20, q2 21, q2 22, q1 _, q2 23, q2 24, q2 25]), .inl (0, 600, .inl _)]) (And.intro rfl (And.intro rfl (And.intro rfl (And.intro ⟨⟨_, rfl⟩, rfl⟩ ?_))))))
  refine Exists.intro _ (Exists.intro _ (Exists.intro _ (Exists.intro _ (Exists.intro _ (Exists.intro _ (Exists.intro _ (Exists.intro _ (Exists.intro _ (Exists.intro _ (Exists.intro _ (Exists.intro _ (Exists.intro _ (Exists.intro _ (Exists.intro _ (Exists.intro _ (Exists.intro _ (Exists.intro _ (Exists.intro _ (Exists.intro _ (Exists.intro _ (Exists.intro _ (And.intro rfl (And.intro rfl (And.intro (by first | omega | assumption | exact q_rg_up (by assumption) (by omega) | exact q_rg_up (q_rg_up (by assumption) (by omega)) (by omega) | exact q_rg_cpy (by assumption) (by assumption)) (And.intro (by first | omega | assumption | exact q_rg_up (by assumption) (by omega) | exact q_rg_up (q_rg_up (by assumption) (by omega)) (by omega) | exact q_rg_cpy (by assumption) (by assumption)) (And.intro (by first | omega | assumption | exact q_rg_up (by assumption) (by omega) | exact q_rg_up (q_rg_up (by assumption) (by omega)) (by omega) | exact q_rg_cpy (by assumption) (by assumption)) (?_)))))))))))))))))))))))))))
  intro z13 h13
  obtain ⟨h13, k13⟩ := h13
  first | replace k13 := OFQ_13 k13 (by omega) | replace k13 := OFQ_21 k13 (by omega) | clear k13
  intro z16 h16
  first | replace h16 := e_sub h16 (by omega) | replace h16 := e_rng h16
  refine Exists.intro [] (Exists.intro [q1 _, q1 _] (Exists.intro [] (And.intro rfl (And.intro rfl (And.intro rfl (And.intro trivial ?_))))))
  refine Exists.intro _ (Exists.intro _ (And.intro rfl (And.intro rfl (?_))))
  intro z17 h17
  exact hQ _

theorem dX12_works_0 : decode cX12_works 0 = .ok (.aload_n 0, 1) := by decide +kernel
theorem dX12_works_1 : decode cX12_works 1 = .ok (.iconst 4, 1) := by decide +kernel
theorem dX12_works_2 : decode cX12_works 2 = .ok (.invokevirtual 299, 3) := by decide +kernel
theorem dX12_works_5 : decode cX12_works 5 = .ok (.ireturn, 1) := by decide +kernel
def is_X12_works : Nat → List Nat := fun d => []
set_option maxRecDepth 100000 in
def b_X12_works_0 (J : Nat → List qV → List qV → qW → Prop) (Q : qR) : qK := x_aload 0 (x_int 4 (x_callr (some 12) 2 spr_X12_of (x_iret Q)))
set_option maxRecDepth 100000 in
theorem s_X12_works_0 {p : Program} {l : Launch} {e : Env} {R : Room} {s : State} {m : MethodId} {args : Array Value} {below : List Frame} {meth : Method} {c : Code} {nW : Nat} {dC : Nat → ClassId} {dI : Nat → Nat → Nat} {k : Nat → ClassId} {g : Nat → Nat} {A : Nat → Prop} {J : Nat → List qV → List qV → qW → Prop} {Q : qR} (X : q_X p R s m args meth c cX12_works 1 nW 1 21 RX12 (some .int) dC dI k g A) (hJ : ∀ d : Nat, q_Sd p l e R s m args below meth c 1 nW dC dI k g A (MQ below (q_post (dC, dI) k g nW Q A) args s 0 0 A) d (x_cut (is_X12_works d) (J d))) : q_Sd p l e R s m args below meth c 1 nW dC dI k g A (MQ below (q_post (dC, dI) k g nW Q A) args s 0 0 A) 0 (b_X12_works_0 J Q) := by
  unfold b_X12_works_0
  refine s_aload_n X rfl dX12_works_0 ?_
  refine s_iconst X ⟨by decide, by decide⟩ dX12_works_1 ?_
  refine s_callVr X (m_X12_of l) tw_1189 tw_1190 tw_1603 tw_134 tw_1191 rfl (by decide +kernel) ⟨by decide, by decide⟩ dX12_works_2 ?_
  exact s_iret X dX12_works_5

def spr_X12_works : List qV → qW → (Option qV → Prop) → Prop := fun av w Q => ∃ (mco : Int) (mre : Int) (mle : Int) (mbe : Int) (mso : Int) (mva : Int) (mwo : Int) (mwr : Int) (mlf : Int) (mlp : Int) (mfp : Int) (mfd : Int) (mgo : Int) (mbo : Int) (mpe : Int) (mye : Int) (mpr : Int) (mld : Int) (msi : Int) (mse : Int) (bs : Nat → Int), av = [q2 0] ∧ w = [.inr (12, [q1 mco, q2 2, q2 3, q2 4, q2 5, q2 6, q2 1, q2 7, q2 8, q2 9, q1 mre, q1 mle, q1 mbe, q1 mso, q1 mva, q3 mwo, q1 mwr, q1 mlf, q1 mlp, q2 10, q2 11, q1 mfp, q1 mfd, q1 mgo, q1 mbo, q1 mpe, q1 mye, q2 12, q1 mpr, q2 13, q2 14, q2 15, q2 16, q1 mld, q2 17, q1 msi, q2 18, q2 19, q2 20, q2 21, q2 22, q1 mse, q2 23, q2 24, q2 25]), .inl (0, 600, .inl bs)] ∧ (0 ≤ mbo ∧ mbo ≤ 1) ∧ (BI bs) ∧ (∀ (r : Int) , (r = ofR bs mbo 4 ∧ 0 ≤ r ∧ r ≤ 6) → Q (some (q1 r)))
def sp_X12_works : qS := fun av w Q => spr_X12_works av w (fun r => Q r w)
set_option maxHeartbeats 4000000 in
set_option maxRecDepth 100000 in
theorem m_X12_works (l : Launch) : q_M l yX12_works cX12_works 1 (some .int) 1 21 sp_X12_works := by
  refine q_meth (by decide) (fun av w Q h => by obtain ⟨mco, mre, mle, mbe, mso, mva, mwo, mwr, mlf, mlp, mfp, mfd, mgo, mbo, mpe, mye, mpr, mld, msi, mse, bs, rfl, rfl, hbo, hbi, hQ⟩ := h; exact Nat.le_of_ble_eq_true rfl) ?_
  intro p e R s m args below meth c dC dI k g A av w Q hsp oka okw X
  obtain ⟨mco, mre, mle, mbe, mso, mva, mwo, mwr, mlf, mlp, mfp, mfd, mgo, mbo, mpe, mye, mpr, mld, msi, mse, bs, rfl, rfl, hbo, hbi, hQ⟩ := hsp
  refine s_mono (s_X12_works_0 X (J := fun _ _ _ _ => False) (fun d => s_cutF)) ?_
  rintro lv st w' ⟨rfl, rfl, rfl⟩
  refine Exists.intro [0, 1, 2, 3, 4, 5, 6, 7, 8, 9, 10, 11, 12, 13, 14, 15, 16, 17, 18, 19, 20, 21, 22, 23, 24, 25] (Exists.intro [q2 0, q1 _] (Exists.intro ([.inr (12, [q1 _, q2 2, q2 3, q2 4, q2 5, q2 6, q2 1, q2 7, q2 8, q2 9, q1 _, q1 _, q1 _, q1 _, q1 _, q3 _, q1 _, q1 _, q1 _, q2 10, q2 11, q1 _, q1 _, q1 _, q1 _, q1 _, q1 _, q2 12, q1 _, q2 13, q2 14, q2 15, q2 16, q1 _, q2 17, q1 _, q2 18, q2 19, q2 20, q2 21, q2 22, q1 _, q2 23, q2 24, q2 25]), .inl (0, 600, .inl _)]) (And.intro rfl (And.intro rfl (And.intro rfl (And.intro ⟨⟨_, rfl⟩, rfl⟩ ?_))))))
  refine Exists.intro _ (Exists.intro _ (Exists.intro _ (Exists.intro _ (Exists.intro _ (Exists.intro _ (Exists.intro _ (Exists.intro _ (Exists.intro _ (Exists.intro _ (Exists.intro _ (Exists.intro _ (Exists.intro _ (Exists.intro _ (Exists.intro _ (Exists.intro _ (Exists.intro _ (Exists.intro _ (Exists.intro _ (Exists.intro _ (Exists.intro _ (Exists.intro _ (And.intro rfl (And.intro rfl (And.intro (by first | omega | assumption | exact q_rg_up (by assumption) (by omega) | exact q_rg_up (q_rg_up (by assumption) (by omega)) (by omega) | exact q_rg_cpy (by assumption) (by assumption)) (And.intro (by first | omega | assumption | exact q_rg_up (by assumption) (by omega) | exact q_rg_up (q_rg_up (by assumption) (by omega)) (by omega) | exact q_rg_cpy (by assumption) (by assumption)) (And.intro (by first | omega | assumption | exact q_rg_up (by assumption) (by omega) | exact q_rg_up (q_rg_up (by assumption) (by omega)) (by omega) | exact q_rg_cpy (by assumption) (by assumption)) (?_)))))))))))))))))))))))))))
  intro z2 h2
  obtain ⟨h2, k2⟩ := h2
  replace k2 := OFQ_3 k2 (by omega)
  exact hQ _ ⟨h2, by omega, by omega⟩

theorem dX12_leastFrom_0 : decode cX12_leastFrom 0 = .ok (.aload_n 0, 1) := by decide +kernel
theorem dX12_leastFrom_1 : decode cX12_leastFrom 1 = .ok (.getfield 47, 3) := by decide +kernel
theorem dX12_leastFrom_4 : decode cX12_leastFrom 4 = .ok (.iload_n 1, 1) := by decide +kernel
theorem dX12_leastFrom_5 : decode cX12_leastFrom 5 = .ok (.iconst 1, 1) := by decide +kernel
theorem dX12_leastFrom_6 : decode cX12_leastFrom 6 = .ok (.iadd, 1) := by decide +kernel
theorem dX12_leastFrom_7 : decode cX12_leastFrom 7 = .ok (.iload_n 2, 1) := by decide +kernel
theorem dX12_leastFrom_8 : decode cX12_leastFrom 8 = .ok (.iload_n 3, 1) := by decide +kernel
theorem dX12_leastFrom_9 : decode cX12_leastFrom 9 = .ok (.invokestatic 366, 3) := by decide +kernel
theorem dX12_leastFrom_12 : decode cX12_leastFrom 12 = .ok (.iaload, 1) := by decide +kernel
theorem dX12_leastFrom_13 : decode cX12_leastFrom 13 = .ok (.istore 4, 2) := by decide +kernel
theorem dX12_leastFrom_15 : decode cX12_leastFrom 15 = .ok (.iconst 0, 1) := by decide +kernel
theorem dX12_leastFrom_16 : decode cX12_leastFrom 16 = .ok (.istore 5, 2) := by decide +kernel
theorem dX12_leastFrom_18 : decode cX12_leastFrom 18 = .ok (.iload 5, 2) := by decide +kernel
theorem dX12_leastFrom_20 : decode cX12_leastFrom 20 = .ok (.aload_n 0, 1) := by decide +kernel
theorem dX12_leastFrom_21 : decode cX12_leastFrom 21 = .ok (.getfield 303, 3) := by decide +kernel
theorem dX12_leastFrom_24 : decode cX12_leastFrom 24 = .ok (.if_icmp .ge 57, 3) := by decide +kernel
theorem dX12_leastFrom_27 : decode cX12_leastFrom 27 = .ok (.iload_n 3, 1) := by decide +kernel
theorem dX12_leastFrom_28 : decode cX12_leastFrom 28 = .ok (.ifCond .le 53, 3) := by decide +kernel
theorem dX12_leastFrom_31 : decode cX12_leastFrom 31 = .ok (.iload_n 2, 1) := by decide +kernel
theorem dX12_leastFrom_32 : decode cX12_leastFrom 32 = .ok (.iload 5, 2) := by decide +kernel
theorem dX12_leastFrom_34 : decode cX12_leastFrom 34 = .ok (.invokestatic 92, 3) := by decide +kernel
theorem dX12_leastFrom_37 : decode cX12_leastFrom 37 = .ok (.ifCond .ne 38, 3) := by decide +kernel
theorem dX12_leastFrom_40 : decode cX12_leastFrom 40 = .ok (.iload 4, 2) := by decide +kernel
theorem dX12_leastFrom_42 : decode cX12_leastFrom 42 = .ok (.aload_n 0, 1) := by decide +kernel
theorem dX12_leastFrom_43 : decode cX12_leastFrom 43 = .ok (.iload 5, 2) := by decide +kernel
theorem dX12_leastFrom_45 : decode cX12_leastFrom 45 = .ok (.iload_n 1, 1) := by decide +kernel
theorem dX12_leastFrom_46 : decode cX12_leastFrom 46 = .ok (.invokevirtual 370, 3) := by decide +kernel
theorem dX12_leastFrom_49 : decode cX12_leastFrom 49 = .ok (.aload_n 0, 1) := by decide +kernel
theorem dX12_leastFrom_50 : decode cX12_leastFrom 50 = .ok (.getfield 47, 3) := by decide +kernel
theorem dX12_leastFrom_53 : decode cX12_leastFrom 53 = .ok (.iload_n 1, 1) := by decide +kernel
theorem dX12_leastFrom_54 : decode cX12_leastFrom 54 = .ok (.iconst 1, 1) := by decide +kernel
theorem dX12_leastFrom_55 : decode cX12_leastFrom 55 = .ok (.iadd, 1) := by decide +kernel
theorem dX12_leastFrom_56 : decode cX12_leastFrom 56 = .ok (.iload_n 2, 1) := by decide +kernel
theorem dX12_leastFrom_57 : decode cX12_leastFrom 57 = .ok (.iconst 1, 1) := by decide +kernel
theorem dX12_leastFrom_58 : decode cX12_leastFrom 58 = .ok (.iload 5, 2) := by decide +kernel
theorem dX12_leastFrom_60 : decode cX12_leastFrom 60 = .ok (.ishl, 1) := by decide +kernel
theorem dX12_leastFrom_61 : decode cX12_leastFrom 61 = .ok (.ior, 1) := by decide +kernel
theorem dX12_leastFrom_62 : decode cX12_leastFrom 62 = .ok (.iload_n 3, 1) := by decide +kernel
theorem dX12_leastFrom_63 : decode cX12_leastFrom 63 = .ok (.iconst 1, 1) := by decide +kernel
theorem dX12_leastFrom_64 : decode cX12_leastFrom 64 = .ok (.isub, 1) := by decide +kernel
theorem dX12_leastFrom_65 : decode cX12_leastFrom 65 = .ok (.invokestatic 366, 3) := by decide +kernel
theorem dX12_leastFrom_68 : decode cX12_leastFrom 68 = .ok (.iaload, 1) := by decide +kernel
theorem dX12_leastFrom_69 : decode cX12_leastFrom 69 = .ok (.iadd, 1) := by decide +kernel
theorem dX12_leastFrom_70 : decode cX12_leastFrom 70 = .ok (.invokestatic 327, 3) := by decide +kernel
theorem dX12_leastFrom_73 : decode cX12_leastFrom 73 = .ok (.istore 4, 2) := by decide +kernel
theorem dX12_leastFrom_75 : decode cX12_leastFrom 75 = .ok (.iinc 5 1, 3) := by decide +kernel
theorem dX12_leastFrom_78 : decode cX12_leastFrom 78 = .ok (.goto (-60), 3) := by decide +kernel
theorem dX12_leastFrom_81 : decode cX12_leastFrom 81 = .ok (.iload 4, 2) := by decide +kernel
theorem dX12_leastFrom_83 : decode cX12_leastFrom 83 = .ok (.ireturn, 1) := by decide +kernel
def is_X12_leastFrom : Nat → List Nat := fun d => if d = 18 then [0, 1, 2, 3, 4, 5] else []
set_option maxRecDepth 100000 in
def b_X12_leastFrom_81 (J : Nat → List qV → List qV → qW → Prop) (Q : qR) : qK := x_iload 4 (x_iret Q)
set_option maxRecDepth 100000 in
theorem s_X12_leastFrom_81 {p : Program} {l : Launch} {e : Env} {R : Room} {s : State} {m : MethodId} {args : Array Value} {below : List Frame} {meth : Method} {c : Code} {nW : Nat} {dC : Nat → ClassId} {dI : Nat → Nat → Nat} {k : Nat → ClassId} {g : Nat → Nat} {A : Nat → Prop} {J : Nat → List qV → List qV → qW → Prop} {Q : qR} (X : q_X p R s m args meth c cX12_leastFrom 6 nW 2 43 RX12 (some .int) dC dI k g A) (hJ : ∀ d : Nat, q_Sd p l e R s m args below meth c 6 nW dC dI k g A (MQ below (q_post (dC, dI) k g nW Q A) args s 0 0 A) d (x_cut (is_X12_leastFrom d) (J d))) : q_Sd p l e R s m args below meth c 6 nW dC dI k g A (MQ below (q_post (dC, dI) k g nW Q A) args s 0 0 A) 81 (b_X12_leastFrom_81 J Q) := by
  unfold b_X12_leastFrom_81
  refine s_iload X dX12_leastFrom_81 ?_
  exact s_iret X dX12_leastFrom_83
set_option maxRecDepth 100000 in
def b_X12_leastFrom_75 (J : Nat → List qV → List qV → qW → Prop) (Q : qR) : qK := x_iinc 5 1 (x_cut [0, 1, 2, 3, 4, 5] (J 18))
set_option maxRecDepth 100000 in
theorem s_X12_leastFrom_75 {p : Program} {l : Launch} {e : Env} {R : Room} {s : State} {m : MethodId} {args : Array Value} {below : List Frame} {meth : Method} {c : Code} {nW : Nat} {dC : Nat → ClassId} {dI : Nat → Nat → Nat} {k : Nat → ClassId} {g : Nat → Nat} {A : Nat → Prop} {J : Nat → List qV → List qV → qW → Prop} {Q : qR} (X : q_X p R s m args meth c cX12_leastFrom 6 nW 2 43 RX12 (some .int) dC dI k g A) (hJ : ∀ d : Nat, q_Sd p l e R s m args below meth c 6 nW dC dI k g A (MQ below (q_post (dC, dI) k g nW Q A) args s 0 0 A) d (x_cut (is_X12_leastFrom d) (J d))) : q_Sd p l e R s m args below meth c 6 nW dC dI k g A (MQ below (q_post (dC, dI) k g nW Q A) args s 0 0 A) 75 (b_X12_leastFrom_75 J Q) := by
  unfold b_X12_leastFrom_75
  refine s_iinc X (by decide) dX12_leastFrom_75 ?_
  refine s_goto X (tgt := 18) dX12_leastFrom_78 (by decide) ?_
  exact hJ 18
set_option maxRecDepth 100000 in
def b_X12_leastFrom_61 (J : Nat → List qV → List qV → qW → Prop) (Q : qR) : qK := x_ior (x_iload 3 (x_int 1 (x_isub (x_callr none 3 spr_X12_cell (x_iald (x_iadd (x_callr none 2 spr_X12_lesser (x_istore 4 (b_X12_leastFrom_75 J Q)))))))))
set_option maxRecDepth 100000 in
theorem s_X12_leastFrom_61 {p : Program} {l : Launch} {e : Env} {R : Room} {s : State} {m : MethodId} {args : Array Value} {below : List Frame} {meth : Method} {c : Code} {nW : Nat} {dC : Nat → ClassId} {dI : Nat → Nat → Nat} {k : Nat → ClassId} {g : Nat → Nat} {A : Nat → Prop} {J : Nat → List qV → List qV → qW → Prop} {Q : qR} (X : q_X p R s m args meth c cX12_leastFrom 6 nW 2 43 RX12 (some .int) dC dI k g A) (hJ : ∀ d : Nat, q_Sd p l e R s m args below meth c 6 nW dC dI k g A (MQ below (q_post (dC, dI) k g nW Q A) args s 0 0 A) d (x_cut (is_X12_leastFrom d) (J d))) : q_Sd p l e R s m args below meth c 6 nW dC dI k g A (MQ below (q_post (dC, dI) k g nW Q A) args s 0 0 A) 61 (b_X12_leastFrom_61 J Q) := by
  unfold b_X12_leastFrom_61
  refine s_ior X dX12_leastFrom_61 ?_
  refine s_iload_n X rfl dX12_leastFrom_62 ?_
  refine s_iconst X ⟨by decide, by decide⟩ dX12_leastFrom_63 ?_
  refine s_isub X dX12_leastFrom_64 ?_
  refine s_callSr X (m_X12_cell l) tw_1268 tw_1269 tw_134 tw_1270 (by decide +kernel) ⟨by decide, by decide⟩ dX12_leastFrom_65 ?_
  refine s_iald X dX12_leastFrom_68 ?_
  refine s_iadd X dX12_leastFrom_69 ?_
  refine s_callSr X (m_X12_lesser l) tw_1239 tw_1240 tw_134 tw_1241 (by decide +kernel) ⟨by decide, by decide⟩ dX12_leastFrom_70 ?_
  refine s_istore X (by decide) dX12_leastFrom_73 ?_
  exact s_X12_leastFrom_75 X hJ
set_option maxRecDepth 100000 in
def b_X12_leastFrom_18 (J : Nat → List qV → List qV → qW → Prop) (Q : qR) : qK := x_iload 5 (x_aload 0 (x_get 12 25 (x_icmp_ge (b_X12_leastFrom_81 J Q) (x_iload 3 (x_if_le (b_X12_leastFrom_81 J Q) (x_iload 2 (x_iload 5 (x_callr none 2 spr_X12_has (x_if_ne (b_X12_leastFrom_75 J Q) (x_iload 4 (x_aload 0 (x_iload 5 (x_iload 1 (x_callr (some 12) 3 spr_X12_lacks (x_aload 0 (x_get 12 29 (x_iload 1 (x_int 1 (x_iadd (x_iload 2 (x_int 1 (x_iload 5 (x_ishl (b_X12_leastFrom_61 J Q))))))))))))))))))))))))
set_option maxRecDepth 100000 in
theorem s_X12_leastFrom_18 {p : Program} {l : Launch} {e : Env} {R : Room} {s : State} {m : MethodId} {args : Array Value} {below : List Frame} {meth : Method} {c : Code} {nW : Nat} {dC : Nat → ClassId} {dI : Nat → Nat → Nat} {k : Nat → ClassId} {g : Nat → Nat} {A : Nat → Prop} {J : Nat → List qV → List qV → qW → Prop} {Q : qR} (X : q_X p R s m args meth c cX12_leastFrom 6 nW 2 43 RX12 (some .int) dC dI k g A) (hJ : ∀ d : Nat, q_Sd p l e R s m args below meth c 6 nW dC dI k g A (MQ below (q_post (dC, dI) k g nW Q A) args s 0 0 A) d (x_cut (is_X12_leastFrom d) (J d))) : q_Sd p l e R s m args below meth c 6 nW dC dI k g A (MQ below (q_post (dC, dI) k g nW Q A) args s 0 0 A) 18 (b_X12_leastFrom_18 J Q) := by
  unfold b_X12_leastFrom_18
  refine s_iload X dX12_leastFrom_18 ?_
  refine s_aload_n X rfl dX12_leastFrom_20 ?_
  refine s_get X (T := TX12) (C := RX12) (N := 45) tu_X12 rfl (by decide) tw_1022 dX12_leastFrom_21 ?_
  refine s_icmp_ge X (tgt := 81) dX12_leastFrom_24 (by decide) ?_ ?_
  · exact s_X12_leastFrom_81 X hJ
  · refine s_iload_n X rfl dX12_leastFrom_27 ?_
    refine s_if_le X (tgt := 81) dX12_leastFrom_28 (by decide) ?_ ?_
    · exact s_X12_leastFrom_81 X hJ
    · refine s_iload_n X rfl dX12_leastFrom_31 ?_
      refine s_iload X dX12_leastFrom_32 ?_
      refine s_callSr X (m_X12_has l) tw_1233 tw_1234 tw_134 tw_1235 (by decide +kernel) ⟨by decide, by decide⟩ dX12_leastFrom_34 ?_
      refine s_if_ne X (tgt := 75) dX12_leastFrom_37 (by decide) ?_ ?_
      · exact s_X12_leastFrom_75 X hJ
      · refine s_iload X dX12_leastFrom_40 ?_
        refine s_aload_n X rfl dX12_leastFrom_42 ?_
        refine s_iload X dX12_leastFrom_43 ?_
        refine s_iload_n X rfl dX12_leastFrom_45 ?_
        refine s_callVr X (m_X12_lacks l) tw_1275 tw_1276 tw_1593 tw_134 tw_1277 rfl (by decide +kernel) ⟨by decide, by decide⟩ dX12_leastFrom_46 ?_
        refine s_aload_n X rfl dX12_leastFrom_49 ?_
        refine s_get X (T := TX12) (C := RX12) (N := 45) tu_X12 rfl (by decide) tw_1026 dX12_leastFrom_50 ?_
        refine s_iload_n X rfl dX12_leastFrom_53 ?_
        refine s_iconst X ⟨by decide, by decide⟩ dX12_leastFrom_54 ?_
        refine s_iadd X dX12_leastFrom_55 ?_
        refine s_iload_n X rfl dX12_leastFrom_56 ?_
        refine s_iconst X ⟨by decide, by decide⟩ dX12_leastFrom_57 ?_
        refine s_iload X dX12_leastFrom_58 ?_
        refine s_ishl X dX12_leastFrom_60 ?_
        exact s_X12_leastFrom_61 X hJ
set_option maxRecDepth 100000 in
def b_X12_leastFrom_0 (J : Nat → List qV → List qV → qW → Prop) (Q : qR) : qK := x_aload 0 (x_get 12 29 (x_iload 1 (x_int 1 (x_iadd (x_iload 2 (x_iload 3 (x_callr none 3 spr_X12_cell (x_iald (x_istore 4 (x_int 0 (x_istore 5 (x_cut [0, 1, 2, 3, 4, 5] (J 18)))))))))))))
set_option maxRecDepth 100000 in
theorem s_X12_leastFrom_0 {p : Program} {l : Launch} {e : Env} {R : Room} {s : State} {m : MethodId} {args : Array Value} {below : List Frame} {meth : Method} {c : Code} {nW : Nat} {dC : Nat → ClassId} {dI : Nat → Nat → Nat} {k : Nat → ClassId} {g : Nat → Nat} {A : Nat → Prop} {J : Nat → List qV → List qV → qW → Prop} {Q : qR} (X : q_X p R s m args meth c cX12_leastFrom 6 nW 2 43 RX12 (some .int) dC dI k g A) (hJ : ∀ d : Nat, q_Sd p l e R s m args below meth c 6 nW dC dI k g A (MQ below (q_post (dC, dI) k g nW Q A) args s 0 0 A) d (x_cut (is_X12_leastFrom d) (J d))) : q_Sd p l e R s m args below meth c 6 nW dC dI k g A (MQ below (q_post (dC, dI) k g nW Q A) args s 0 0 A) 0 (b_X12_leastFrom_0 J Q) := by
  unfold b_X12_leastFrom_0
  refine s_aload_n X rfl dX12_leastFrom_0 ?_
  refine s_get X (T := TX12) (C := RX12) (N := 45) tu_X12 rfl (by decide) tw_1026 dX12_leastFrom_1 ?_
  refine s_iload_n X rfl dX12_leastFrom_4 ?_
  refine s_iconst X ⟨by decide, by decide⟩ dX12_leastFrom_5 ?_
  refine s_iadd X dX12_leastFrom_6 ?_
  refine s_iload_n X rfl dX12_leastFrom_7 ?_
  refine s_iload_n X rfl dX12_leastFrom_8 ?_
  refine s_callSr X (m_X12_cell l) tw_1268 tw_1269 tw_134 tw_1270 (by decide +kernel) ⟨by decide, by decide⟩ dX12_leastFrom_9 ?_
  refine s_iald X dX12_leastFrom_12 ?_
  refine s_istore X (by decide) dX12_leastFrom_13 ?_
  refine s_iconst X ⟨by decide, by decide⟩ dX12_leastFrom_15 ?_
  refine s_istore X (by decide) dX12_leastFrom_16 ?_
  exact hJ 18

def spr_X12_leastFrom : List qV → qW → (Option qV → Prop) → Prop := fun av w Q => ∃ (mco : Int) (mre : Int) (mle : Int) (mbe : Int) (mso : Int) (mva : Int) (mwo : Int) (mwr : Int) (mlf : Int) (mlp : Int) (mfp : Int) (mfd : Int) (mgo : Int) (mbo : Int) (mpe : Int) (mye : Int) (mpr : Int) (mld : Int) (msi : Int) (mse : Int) (inn : Nat → Int) (bs : Nat → Int) (a : Int) (b : Int) (cc : Int), av = [q2 0, q1 a, q1 b, q1 cc] ∧ w = [.inr (12, [q1 mco, q2 3, q2 4, q2 5, q2 6, q2 7, q2 2, q2 8, q2 9, q2 10, q1 mre, q1 mle, q1 mbe, q1 mso, q1 mva, q3 mwo, q1 mwr, q1 mlf, q1 mlp, q2 11, q2 12, q1 mfp, q1 mfd, q1 mgo, q1 mbo, q1 mpe, q1 mye, q2 13, q1 mpr, q2 1, q2 14, q2 15, q2 16, q1 mld, q2 17, q1 msi, q2 18, q2 19, q2 20, q2 21, q2 22, q1 mse, q2 23, q2 24, q2 25]), .inl (0, 12544, .inl inn), .inl (0, 600, .inl bs)] ∧ (0 ≤ mbo ∧ mbo ≤ 1) ∧ (0 ≤ mpe ∧ mpe ≤ 8) ∧ (BI bs) ∧ (0 ≤ a ∧ a ≤ 5 ∧ 0 ≤ b ∧ b ≤ 255 ∧ 0 ≤ cc ∧ cc ≤ 6) ∧ (∀ (r : Int) , (cc = 0 → r = inn (7 * (256 * (a + 1) + b)).toNat) → Q (some (q1 r)))
def sp_X12_leastFrom : qS := fun av w Q => spr_X12_leastFrom av w (fun r => Q r w)
def I_X12_leastFrom (mco : Int) (mre : Int) (mle : Int) (mbe : Int) (mso : Int) (mva : Int) (mwo : Int) (mwr : Int) (mlf : Int) (mlp : Int) (mfp : Int) (mfd : Int) (mgo : Int) (mbo : Int) (mpe : Int) (mye : Int) (mpr : Int) (mld : Int) (msi : Int) (mse : Int) (inn : Nat → Int) (bs : Nat → Int) (a : Int) (b : Int) (cc : Int) : Nat → Nat → List qV → List qV → qW → Prop := fun dz mz vz sz wz => if dz = 18 then (∃ (v4 : Int) (v5 : Int), vz = [q2 0, q1 a, q1 b, q1 cc, q1 v4, q1 v5] ∧ sz = [] ∧ wz = [.inr (12, [q1 mco, q2 3, q2 4, q2 5, q2 6, q2 7, q2 2, q2 8, q2 9, q2 10, q1 mre, q1 mle, q1 mbe, q1 mso, q1 mva, q3 mwo, q1 mwr, q1 mlf, q1 mlp, q2 11, q2 12, q1 mfp, q1 mfd, q1 mgo, q1 mbo, q1 mpe, q1 mye, q2 13, q1 mpr, q2 1, q2 14, q2 15, q2 16, q1 mld, q2 17, q1 msi, q2 18, q2 19, q2 20, q2 21, q2 22, q1 mse, q2 23, q2 24, q2 25]), .inl (0, 12544, .inl inn), .inl (0, 600, .inl bs)] ∧ mz = (mpe - v5).toNat ∧ (0 ≤ v5 ∧ v5 ≤ mpe) ∧ (cc = 0 → v4 = inn (7 * (256 * (a + 1) + b)).toNat)) else False
set_option maxHeartbeats 4000000 in
set_option maxRecDepth 100000 in
theorem m_X12_leastFrom (l : Launch) : q_M l yX12_leastFrom cX12_leastFrom 6 (some .int) 2 43 sp_X12_leastFrom := by
  refine q_meth (by decide) (fun av w Q h => by obtain ⟨mco, mre, mle, mbe, mso, mva, mwo, mwr, mlf, mlp, mfp, mfd, mgo, mbo, mpe, mye, mpr, mld, msi, mse, inn, bs, a, b, cc, rfl, rfl, hbo, hpe, hbi, ha, hQ⟩ := h; exact Nat.le_of_ble_eq_true rfl) ?_
  intro p e R s m args below meth c dC dI k g A av w Q hsp oka okw X
  obtain ⟨mco, mre, mle, mbe, mso, mva, mwo, mwr, mlf, mlp, mfp, mfd, mgo, mbo, mpe, mye, mpr, mld, msi, mse, inn, bs, a, b, cc, rfl, rfl, hbo, hpe, hbi, ha, hQ⟩ := hsp
  have o_a : -2147483648 ≤ a ∧ a ≤ 2147483647 := oka _ (List.mem_of_getElem? (i := 1) rfl)
  have o_b : -2147483648 ≤ b ∧ b ≤ 2147483647 := oka _ (List.mem_of_getElem? (i := 2) rfl)
  have o_cc : -2147483648 ≤ cc ∧ cc ≤ 2147483647 := oka _ (List.mem_of_getElem? (i := 3) rfl)
  refine s_mono (s_X12_leastFrom_0 X (J := fun dz vz sz wz => ∃ mz, I_X12_leastFrom mco mre mle mbe mso mva mwo mwr mlf mlp mfp mfd mgo mbo mpe mye mpr mld msi mse inn bs a b cc dz mz vz sz wz) (q_loopn (I_X12_leastFrom mco mre mle mbe mso mva mwo mwr mlf mlp mfp mfd mgo mbo mpe mye mpr mld msi mse inn bs a b cc) (fun dz J => if dz = 18 then b_X12_leastFrom_18 J Q else q_F) ?hs ?hv)) ?_
  case hs =>
    intro d J hJ
    by_cases h18 : d = 18
    · subst h18; exact s_X12_leastFrom_18 X hJ
    simp only [h18, if_false]
    exact s_F
  case hv =>
    intro dz mz vz sz wz hI okv oks okw hlen
    by_cases h18 : dz = 18
    · subst h18
      obtain ⟨v4, v5, rfl, rfl, rfl, hn, hp, hz⟩ := hI
      apply And.intro
      · intro h24
        exact hQ _ hz
      · intro h24
        apply And.intro
        · intro h28
          exact hQ _ hz
        · intro h28
          refine Exists.intro [] (Exists.intro [q1 _, q1 _] (Exists.intro [] (And.intro rfl (And.intro rfl (And.intro rfl (And.intro trivial ?_))))))
          refine Exists.intro _ (Exists.intro _ (And.intro rfl (And.intro rfl (?_))))
          intro z34 h34
          apply And.intro
          · intro h37
            intro z75 h75
            first | replace h75 := e_add h75 (by omega) | replace h75 := e_rng h75
            exact ⟨_, ⟨_, _, rfl, rfl, rfl, rfl, (by first | omega | assumption | exact q_rg_up (by assumption) (by omega) | exact q_rg_up (q_rg_up (by assumption) (by omega)) (by omega) | exact q_rg_cpy (by assumption) (by assumption)), (by intro e9; first | (exfalso; omega) | exact hz e9 | (rw [h12]; congr 2; omega))⟩, by omega⟩
          · intro h37
            refine Exists.intro [0, 2, 3, 4, 5, 6, 7, 8, 9, 10, 11, 12, 13, 1, 14, 15, 16, 17, 18, 19, 20, 21, 22, 23, 24, 25] (Exists.intro [q2 0, q1 _, q1 _] (Exists.intro ([.inr (12, [q1 _, q2 2, q2 3, q2 4, q2 5, q2 6, q2 1, q2 7, q2 8, q2 9, q1 _, q1 _, q1 _, q1 _, q1 _, q3 _, q1 _, q1 _, q1 _, q2 10, q2 11, q1 _, q1 _, q1 _, q1 _, q1 _, q1 _, q2 12, q1 _, q2 13, q2 14, q2 15, q2 16, q1 _, q2 17, q1 _, q2 18, q2 19, q2 20, q2 21, q2 22, q1 _, q2 23, q2 24, q2 25]), .inl (0, 600, .inl _)]) (And.intro rfl (And.intro rfl (And.intro rfl (And.intro ⟨⟨_, rfl⟩, rfl⟩ ?_))))))
            refine Exists.intro _ (Exists.intro _ (Exists.intro _ (Exists.intro _ (Exists.intro _ (Exists.intro _ (Exists.intro _ (Exists.intro _ (Exists.intro _ (Exists.intro _ (Exists.intro _ (Exists.intro _ (Exists.intro _ (Exists.intro _ (Exists.intro _ (Exists.intro _ (Exists.intro _ (Exists.intro _ (Exists.intro _ (Exists.intro _ (Exists.intro _ (Exists.intro _ (Exists.intro _ (And.intro rfl (And.intro rfl (And.intro (by first | omega | assumption | exact q_rg_up (by assumption) (by omega) | exact q_rg_up (q_rg_up (by assumption) (by omega)) (by omega) | exact q_rg_cpy (by assumption) (by assumption)) (And.intro (by first | omega | assumption | exact q_rg_up (by assumption) (by omega) | exact q_rg_up (q_rg_up (by assumption) (by omega)) (by omega) | exact q_rg_cpy (by assumption) (by assumption)) (And.intro (by first | omega | assumption | exact q_rg_up (by assumption) (by omega) | exact q_rg_up (q_rg_up (by assumption) (by omega)) (by omega) | exact q_rg_cpy (by assumption) (by assumption)) (?_))))))))))))))))))))))))))))
            intro z46
            intro z55 h55
            first | replace h55 := e_add h55 (by omega) | replace h55 := e_rng h55
            intro z60 h60
            first | replace h60 := e_shl h60 (by omega) | replace h60 := e_rng h60
            intro z61 h61
            first | replace h61 := e_or8 h61 (by omega) (by omega) | replace h61 := e_or9 h61 (by omega) (by omega) | replace h61 := e_rng h61
            intro z64 h64
            first | replace h64 := e_sub h64 (by omega) | replace h64 := e_rng h64
            refine Exists.intro [] (Exists.intro [q1 _, q1 _, q1 _] (Exists.intro [] (And.intro rfl (And.intro rfl (And.intro rfl (And.intro trivial ?_))))))
            refine Exists.intro _ (Exists.intro _ (Exists.intro _ (And.intro rfl (And.intro rfl (And.intro (by first | omega | assumption | exact q_rg_up (by assumption) (by omega) | exact q_rg_up (q_rg_up (by assumption) (by omega)) (by omega) | exact q_rg_cpy (by assumption) (by assumption)) (?_))))))
            intro z65 h65
            apply And.intro
            · exact ⟨by omega, by omega⟩
            intro z68 h68
            intro z69 h69
            first | replace h69 := e_add h69 (by omega) | replace h69 := e_rng h69
            refine Exists.intro [] (Exists.intro [q1 _, q1 _] (Exists.intro [] (And.intro rfl (And.intro rfl (And.intro rfl (And.intro trivial ?_))))))
            refine Exists.intro _ (Exists.intro _ (And.intro rfl (And.intro rfl (?_))))
            intro z70 h70
            intro z75 h75
            first | replace h75 := e_add h75 (by omega) | replace h75 := e_rng h75
            exact ⟨_, ⟨_, _, rfl, rfl, rfl, rfl, (by first | omega | assumption | exact q_rg_up (by assumption) (by omega) | exact q_rg_up (q_rg_up (by assumption) (by omega)) (by omega) | exact q_rg_cpy (by assumption) (by assumption)), (by intro e9; first | (exfalso; omega) | exact hz e9 | (rw [h12]; congr 2; omega))⟩, by omega⟩
    simp only [I_X12_leastFrom, h18, if_false] at hI
  rintro lv st w' ⟨rfl, rfl, rfl⟩
  intro z6 h6
  first | replace h6 := e_add h6 (by omega) | replace h6 := e_rng h6
  refine Exists.intro [] (Exists.intro [q1 _, q1 _, q1 _] (Exists.intro [] (And.intro rfl (And.intro rfl (And.intro rfl (And.intro trivial ?_))))))
  refine Exists.intro _ (Exists.intro _ (Exists.intro _ (And.intro rfl (And.intro rfl (And.intro (by first | omega | assumption | exact q_rg_up (by assumption) (by omega) | exact q_rg_up (q_rg_up (by assumption) (by omega)) (by omega) | exact q_rg_cpy (by assumption) (by assumption)) (?_))))))
  intro z9 h9
  apply And.intro
  · exact ⟨by omega, by omega⟩
  intro z12 h12
  exact ⟨_, _, _, rfl, rfl, rfl, rfl, (by first | omega | assumption | exact q_rg_up (by assumption) (by omega) | exact q_rg_up (q_rg_up (by assumption) (by omega)) (by omega) | exact q_rg_cpy (by assumption) (by assumption)), (by intro e9; first | (exfalso; omega) | exact hz e9 | (rw [h12]; congr 2; omega))⟩

theorem dX12_findWorks_0 : decode cX12_findWorks 0 = .ok (.aload_n 0, 1) := by decide +kernel
theorem dX12_findWorks_1 : decode cX12_findWorks 1 = .ok (.invokevirtual 373, 3) := by decide +kernel
theorem dX12_findWorks_4 : decode cX12_findWorks 4 = .ok (.istore_n 1, 1) := by decide +kernel
theorem dX12_findWorks_5 : decode cX12_findWorks 5 = .ok (.iload_n 1, 1) := by decide +kernel
theorem dX12_findWorks_6 : decode cX12_findWorks 6 = .ok (.ifCond .lt 81, 3) := by decide +kernel
theorem dX12_findWorks_9 : decode cX12_findWorks 9 = .ok (.iconst 0, 1) := by decide +kernel
theorem dX12_findWorks_10 : decode cX12_findWorks 10 = .ok (.istore_n 2, 1) := by decide +kernel
theorem dX12_findWorks_11 : decode cX12_findWorks 11 = .ok (.iload_n 2, 1) := by decide +kernel
theorem dX12_findWorks_12 : decode cX12_findWorks 12 = .ok (.iconst 1, 1) := by decide +kernel
theorem dX12_findWorks_13 : decode cX12_findWorks 13 = .ok (.aload_n 0, 1) := by decide +kernel
theorem dX12_findWorks_14 : decode cX12_findWorks 14 = .ok (.getfield 303, 3) := by decide +kernel
theorem dX12_findWorks_17 : decode cX12_findWorks 17 = .ok (.ishl, 1) := by decide +kernel
theorem dX12_findWorks_18 : decode cX12_findWorks 18 = .ok (.if_icmp .ge 63, 3) := by decide +kernel
theorem dX12_findWorks_21 : decode cX12_findWorks 21 = .ok (.iconst 0, 1) := by decide +kernel
theorem dX12_findWorks_22 : decode cX12_findWorks 22 = .ok (.istore_n 3, 1) := by decide +kernel
theorem dX12_findWorks_23 : decode cX12_findWorks 23 = .ok (.iload_n 3, 1) := by decide +kernel
theorem dX12_findWorks_24 : decode cX12_findWorks 24 = .ok (.bipush 6, 2) := by decide +kernel
theorem dX12_findWorks_26 : decode cX12_findWorks 26 = .ok (.if_icmp .gt 49, 3) := by decide +kernel
theorem dX12_findWorks_29 : decode cX12_findWorks 29 = .ok (.aload_n 0, 1) := by decide +kernel
theorem dX12_findWorks_30 : decode cX12_findWorks 30 = .ok (.getfield 47, 3) := by decide +kernel
theorem dX12_findWorks_33 : decode cX12_findWorks 33 = .ok (.iload_n 1, 1) := by decide +kernel
theorem dX12_findWorks_34 : decode cX12_findWorks 34 = .ok (.iload_n 2, 1) := by decide +kernel
theorem dX12_findWorks_35 : decode cX12_findWorks 35 = .ok (.iload_n 3, 1) := by decide +kernel
theorem dX12_findWorks_36 : decode cX12_findWorks 36 = .ok (.invokestatic 366, 3) := by decide +kernel
theorem dX12_findWorks_39 : decode cX12_findWorks 39 = .ok (.iload_n 1, 1) := by decide +kernel
theorem dX12_findWorks_40 : decode cX12_findWorks 40 = .ok (.aload_n 0, 1) := by decide +kernel
theorem dX12_findWorks_41 : decode cX12_findWorks 41 = .ok (.invokevirtual 373, 3) := by decide +kernel
theorem dX12_findWorks_44 : decode cX12_findWorks 44 = .ok (.if_icmp .ne 17, 3) := by decide +kernel
theorem dX12_findWorks_47 : decode cX12_findWorks 47 = .ok (.iload_n 3, 1) := by decide +kernel
theorem dX12_findWorks_48 : decode cX12_findWorks 48 = .ok (.ifCond .ne 7, 3) := by decide +kernel
theorem dX12_findWorks_51 : decode cX12_findWorks 51 = .ok (.iconst 0, 1) := by decide +kernel
theorem dX12_findWorks_52 : decode cX12_findWorks 52 = .ok (.goto 16, 3) := by decide +kernel
theorem dX12_findWorks_55 : decode cX12_findWorks 55 = .ok (.ldc_w 376, 3) := by decide +kernel
theorem dX12_findWorks_58 : decode cX12_findWorks 58 = .ok (.goto 10, 3) := by decide +kernel
theorem dX12_findWorks_61 : decode cX12_findWorks 61 = .ok (.aload_n 0, 1) := by decide +kernel
theorem dX12_findWorks_62 : decode cX12_findWorks 62 = .ok (.iload_n 1, 1) := by decide +kernel
theorem dX12_findWorks_63 : decode cX12_findWorks 63 = .ok (.iload_n 2, 1) := by decide +kernel
theorem dX12_findWorks_64 : decode cX12_findWorks 64 = .ok (.iload_n 3, 1) := by decide +kernel
theorem dX12_findWorks_65 : decode cX12_findWorks 65 = .ok (.invokevirtual 377, 3) := by decide +kernel
theorem dX12_findWorks_68 : decode cX12_findWorks 68 = .ok (.iastore, 1) := by decide +kernel
theorem dX12_findWorks_69 : decode cX12_findWorks 69 = .ok (.iinc 3 1, 3) := by decide +kernel
theorem dX12_findWorks_72 : decode cX12_findWorks 72 = .ok (.goto (-49), 3) := by decide +kernel
theorem dX12_findWorks_75 : decode cX12_findWorks 75 = .ok (.iinc 2 1, 3) := by decide +kernel
theorem dX12_findWorks_78 : decode cX12_findWorks 78 = .ok (.goto (-67), 3) := by decide +kernel
theorem dX12_findWorks_81 : decode cX12_findWorks 81 = .ok (.iinc 1 (-1), 3) := by decide +kernel
theorem dX12_findWorks_84 : decode cX12_findWorks 84 = .ok (.goto (-79), 3) := by decide +kernel
theorem dX12_findWorks_87 : decode cX12_findWorks 87 = .ok (.return_, 1) := by decide +kernel
def is_X12_findWorks : Nat → List Nat := fun d => if d = 5 then [0, 1] else if d = 11 then [0, 1, 2] else if d = 23 then [0, 1, 2, 3] else []
set_option maxRecDepth 100000 in
def b_X12_findWorks_68 (J : Nat → List qV → List qV → qW → Prop) (Q : qR) : qK := x_iast (x_nw (x_iinc 3 1 (x_cut [0, 1, 2, 3] (J 23))))
set_option maxRecDepth 100000 in
theorem s_X12_findWorks_68 {p : Program} {l : Launch} {e : Env} {R : Room} {s : State} {m : MethodId} {args : Array Value} {below : List Frame} {meth : Method} {c : Code} {nW : Nat} {dC : Nat → ClassId} {dI : Nat → Nat → Nat} {k : Nat → ClassId} {g : Nat → Nat} {A : Nat → Prop} {J : Nat → List qV → List qV → qW → Prop} {Q : qR} (X : q_X p R s m args meth c cX12_findWorks 4 nW 3 68 RX12 none dC dI k g A) (hJ : ∀ d : Nat, q_Sd p l e R s m args below meth c 4 nW dC dI k g A (MQ below (q_post (dC, dI) k g nW Q A) args s 0 0 A) d (x_cut (is_X12_findWorks d) (J d))) : q_Sd p l e R s m args below meth c 4 nW dC dI k g A (MQ below (q_post (dC, dI) k g nW Q A) args s 0 0 A) 68 (b_X12_findWorks_68 J Q) := by
  unfold b_X12_findWorks_68
  refine s_iast X dX12_findWorks_68 ?_
  refine s_nw ?_
  refine s_iinc X (by decide) dX12_findWorks_69 ?_
  refine s_goto X (tgt := 23) dX12_findWorks_72 (by decide) ?_
  exact hJ 23
set_option maxRecDepth 100000 in
def b_X12_findWorks_23 (J : Nat → List qV → List qV → qW → Prop) (Q : qR) : qK := x_iload 3 (x_int 6 (x_icmp_gt (x_iinc 2 1 (x_cut [0, 1, 2] (J 11))) (x_aload 0 (x_get 12 29 (x_iload 1 (x_iload 2 (x_iload 3 (x_callr none 3 spr_X12_cell (x_iload 1 (x_aload 0 (x_callr (some 12) 1 spr_X12_works (x_icmp_ne (x_aload 0 (x_iload 1 (x_iload 2 (x_iload 3 (x_callr (some 12) 4 spr_X12_leastFrom (b_X12_findWorks_68 J Q)))))) (x_iload 3 (x_if_ne (x_int 1000000 (b_X12_findWorks_68 J Q)) (x_int 0 (b_X12_findWorks_68 J Q))))))))))))))))
set_option maxRecDepth 100000 in
theorem s_X12_findWorks_23 {p : Program} {l : Launch} {e : Env} {R : Room} {s : State} {m : MethodId} {args : Array Value} {below : List Frame} {meth : Method} {c : Code} {nW : Nat} {dC : Nat → ClassId} {dI : Nat → Nat → Nat} {k : Nat → ClassId} {g : Nat → Nat} {A : Nat → Prop} {J : Nat → List qV → List qV → qW → Prop} {Q : qR} (X : q_X p R s m args meth c cX12_findWorks 4 nW 3 68 RX12 none dC dI k g A) (hJ : ∀ d : Nat, q_Sd p l e R s m args below meth c 4 nW dC dI k g A (MQ below (q_post (dC, dI) k g nW Q A) args s 0 0 A) d (x_cut (is_X12_findWorks d) (J d))) : q_Sd p l e R s m args below meth c 4 nW dC dI k g A (MQ below (q_post (dC, dI) k g nW Q A) args s 0 0 A) 23 (b_X12_findWorks_23 J Q) := by
  unfold b_X12_findWorks_23
  refine s_iload_n X rfl dX12_findWorks_23 ?_
  refine s_bipush X ⟨by decide, by decide⟩ (by decide) dX12_findWorks_24 ?_
  refine s_icmp_gt X (tgt := 75) dX12_findWorks_26 (by decide) ?_ ?_
  · refine s_iinc X (by decide) dX12_findWorks_75 ?_
    refine s_goto X (tgt := 11) dX12_findWorks_78 (by decide) ?_
    exact hJ 11
  · refine s_aload_n X rfl dX12_findWorks_29 ?_
    refine s_get X (T := TX12) (C := RX12) (N := 45) tu_X12 rfl (by decide) tw_1026 dX12_findWorks_30 ?_
    refine s_iload_n X rfl dX12_findWorks_33 ?_
    refine s_iload_n X rfl dX12_findWorks_34 ?_
    refine s_iload_n X rfl dX12_findWorks_35 ?_
    refine s_callSr X (m_X12_cell l) tw_1268 tw_1269 tw_134 tw_1270 (by decide +kernel) ⟨by decide, by decide⟩ dX12_findWorks_36 ?_
    refine s_iload_n X rfl dX12_findWorks_39 ?_
    refine s_aload_n X rfl dX12_findWorks_40 ?_
    refine s_callVr X (m_X12_works l) tw_1262 tw_1263 tw_1631 tw_134 tw_1264 rfl (by decide +kernel) ⟨by decide, by decide⟩ dX12_findWorks_41 ?_
    refine s_icmp_ne X (tgt := 61) dX12_findWorks_44 (by decide) ?_ ?_
    · refine s_aload_n X rfl dX12_findWorks_61 ?_
      refine s_iload_n X rfl dX12_findWorks_62 ?_
      refine s_iload_n X rfl dX12_findWorks_63 ?_
      refine s_iload_n X rfl dX12_findWorks_64 ?_
      refine s_callVr X (m_X12_leastFrom l) tw_1272 tw_1273 tw_1597 tw_134 tw_1274 rfl (by decide +kernel) ⟨by decide, by decide⟩ dX12_findWorks_65 ?_
      exact s_X12_findWorks_68 X hJ
    · refine s_iload_n X rfl dX12_findWorks_47 ?_
      refine s_if_ne X (tgt := 55) dX12_findWorks_48 (by decide) ?_ ?_
      · refine s_ldcw X ⟨by decide, by decide⟩ tw_1271 dX12_findWorks_55 ?_
        refine s_goto X (tgt := 68) dX12_findWorks_58 (by decide) ?_
        exact s_X12_findWorks_68 X hJ
      · refine s_iconst X ⟨by decide, by decide⟩ dX12_findWorks_51 ?_
        refine s_goto X (tgt := 68) dX12_findWorks_52 (by decide) ?_
        exact s_X12_findWorks_68 X hJ
set_option maxRecDepth 100000 in
def b_X12_findWorks_11 (J : Nat → List qV → List qV → qW → Prop) (Q : qR) : qK := x_iload 2 (x_int 1 (x_aload 0 (x_get 12 25 (x_ishl (x_icmp_ge (x_iinc 1 (-1) (x_cut [0, 1] (J 5))) (x_int 0 (x_istore 3 (x_cut [0, 1, 2, 3] (J 23)))))))))
set_option maxRecDepth 100000 in
theorem s_X12_findWorks_11 {p : Program} {l : Launch} {e : Env} {R : Room} {s : State} {m : MethodId} {args : Array Value} {below : List Frame} {meth : Method} {c : Code} {nW : Nat} {dC : Nat → ClassId} {dI : Nat → Nat → Nat} {k : Nat → ClassId} {g : Nat → Nat} {A : Nat → Prop} {J : Nat → List qV → List qV → qW → Prop} {Q : qR} (X : q_X p R s m args meth c cX12_findWorks 4 nW 3 68 RX12 none dC dI k g A) (hJ : ∀ d : Nat, q_Sd p l e R s m args below meth c 4 nW dC dI k g A (MQ below (q_post (dC, dI) k g nW Q A) args s 0 0 A) d (x_cut (is_X12_findWorks d) (J d))) : q_Sd p l e R s m args below meth c 4 nW dC dI k g A (MQ below (q_post (dC, dI) k g nW Q A) args s 0 0 A) 11 (b_X12_findWorks_11 J Q) := by
  unfold b_X12_findWorks_11
  refine s_iload_n X rfl dX12_findWorks_11 ?_
  refine s_iconst X ⟨by decide, by decide⟩ dX12_findWorks_12 ?_
  refine s_aload_n X rfl dX12_findWorks_13 ?_
  refine s_get X (T := TX12) (C := RX12) (N := 45) tu_X12 rfl (by decide) tw_1022 dX12_findWorks_14 ?_
  refine s_ishl X dX12_findWorks_17 ?_
  refine s_icmp_ge X (tgt := 81) dX12_findWorks_18 (by decide) ?_ ?_
  · refine s_iinc X (by decide) dX12_findWorks_81 ?_
    refine s_goto X (tgt := 5) dX12_findWorks_84 (by decide) ?_
    exact hJ 5
  · refine s_iconst X ⟨by decide, by decide⟩ dX12_findWorks_21 ?_
    refine s_istore_n X rfl (by decide) dX12_findWorks_22 ?_
    exact hJ 23
set_option maxRecDepth 100000 in
def b_X12_findWorks_5 (J : Nat → List qV → List qV → qW → Prop) (Q : qR) : qK := x_iload 1 (x_if_lt (x_vret Q) (x_int 0 (x_istore 2 (x_cut [0, 1, 2] (J 11)))))
set_option maxRecDepth 100000 in
theorem s_X12_findWorks_5 {p : Program} {l : Launch} {e : Env} {R : Room} {s : State} {m : MethodId} {args : Array Value} {below : List Frame} {meth : Method} {c : Code} {nW : Nat} {dC : Nat → ClassId} {dI : Nat → Nat → Nat} {k : Nat → ClassId} {g : Nat → Nat} {A : Nat → Prop} {J : Nat → List qV → List qV → qW → Prop} {Q : qR} (X : q_X p R s m args meth c cX12_findWorks 4 nW 3 68 RX12 none dC dI k g A) (hJ : ∀ d : Nat, q_Sd p l e R s m args below meth c 4 nW dC dI k g A (MQ below (q_post (dC, dI) k g nW Q A) args s 0 0 A) d (x_cut (is_X12_findWorks d) (J d))) : q_Sd p l e R s m args below meth c 4 nW dC dI k g A (MQ below (q_post (dC, dI) k g nW Q A) args s 0 0 A) 5 (b_X12_findWorks_5 J Q) := by
  unfold b_X12_findWorks_5
  refine s_iload_n X rfl dX12_findWorks_5 ?_
  refine s_if_lt X (tgt := 87) dX12_findWorks_6 (by decide) ?_ ?_
  · exact s_vret X dX12_findWorks_87
  · refine s_iconst X ⟨by decide, by decide⟩ dX12_findWorks_9 ?_
    refine s_istore_n X rfl (by decide) dX12_findWorks_10 ?_
    exact hJ 11
set_option maxRecDepth 100000 in
def b_X12_findWorks_0 (J : Nat → List qV → List qV → qW → Prop) (Q : qR) : qK := x_aload 0 (x_callr (some 12) 1 spr_X12_works (x_istore 1 (x_cut [0, 1] (J 5))))
set_option maxRecDepth 100000 in
theorem s_X12_findWorks_0 {p : Program} {l : Launch} {e : Env} {R : Room} {s : State} {m : MethodId} {args : Array Value} {below : List Frame} {meth : Method} {c : Code} {nW : Nat} {dC : Nat → ClassId} {dI : Nat → Nat → Nat} {k : Nat → ClassId} {g : Nat → Nat} {A : Nat → Prop} {J : Nat → List qV → List qV → qW → Prop} {Q : qR} (X : q_X p R s m args meth c cX12_findWorks 4 nW 3 68 RX12 none dC dI k g A) (hJ : ∀ d : Nat, q_Sd p l e R s m args below meth c 4 nW dC dI k g A (MQ below (q_post (dC, dI) k g nW Q A) args s 0 0 A) d (x_cut (is_X12_findWorks d) (J d))) : q_Sd p l e R s m args below meth c 4 nW dC dI k g A (MQ below (q_post (dC, dI) k g nW Q A) args s 0 0 A) 0 (b_X12_findWorks_0 J Q) := by
  unfold b_X12_findWorks_0
  refine s_aload_n X rfl dX12_findWorks_0 ?_
  refine s_callVr X (m_X12_works l) tw_1262 tw_1263 tw_1631 tw_134 tw_1264 rfl (by decide +kernel) ⟨by decide, by decide⟩ dX12_findWorks_1 ?_
  refine s_istore_n X rfl (by decide) dX12_findWorks_4 ?_
  exact hJ 5

def sp_X12_findWorks : qS := fun av w Q => ∃ (mco : Int) (mre : Int) (mle : Int) (mbe : Int) (mso : Int) (mva : Int) (mwo : Int) (mwr : Int) (mlf : Int) (mlp : Int) (mfp : Int) (mfd : Int) (mgo : Int) (mbo : Int) (mpe : Int) (mye : Int) (mpr : Int) (mld : Int) (msi : Int) (mse : Int) (inn : Nat → Int) (bs : Nat → Int), av = [q2 0] ∧ w = [.inr (12, [q1 mco, q2 3, q2 4, q2 5, q2 6, q2 7, q2 2, q2 8, q2 9, q2 10, q1 mre, q1 mle, q1 mbe, q1 mso, q1 mva, q3 mwo, q1 mwr, q1 mlf, q1 mlp, q2 11, q2 12, q1 mfp, q1 mfd, q1 mgo, q1 mbo, q1 mpe, q1 mye, q2 13, q1 mpr, q2 1, q2 14, q2 15, q2 16, q1 mld, q2 17, q1 msi, q2 18, q2 19, q2 20, q2 21, q2 22, q1 mse, q2 23, q2 24, q2 25]), .inl (0, 12544, .inl inn), .inl (0, 600, .inl bs)] ∧ (0 ≤ mbo ∧ mbo ≤ 1) ∧ (0 ≤ mpe ∧ mpe ≤ 8) ∧ (BI bs) ∧ (∀ (x_inn : Nat → Int), x_inn 0 = 0 → Q none ([.inr (12, [q1 mco, q2 3, q2 4, q2 5, q2 6, q2 7, q2 2, q2 8, q2 9, q2 10, q1 mre, q1 mle, q1 mbe, q1 mso, q1 mva, q3 mwo, q1 mwr, q1 mlf, q1 mlp, q2 11, q2 12, q1 mfp, q1 mfd, q1 mgo, q1 mbo, q1 mpe, q1 mye, q2 13, q1 mpr, q2 1, q2 14, q2 15, q2 16, q1 mld, q2 17, q1 msi, q2 18, q2 19, q2 20, q2 21, q2 22, q1 mse, q2 23, q2 24, q2 25]), .inl (0, 12544, .inl x_inn), .inl (0, 600, .inl bs)]))
def I_X12_findWorks (mco : Int) (mre : Int) (mle : Int) (mbe : Int) (mso : Int) (mva : Int) (mwo : Int) (mwr : Int) (mlf : Int) (mlp : Int) (mfp : Int) (mfd : Int) (mgo : Int) (mbo : Int) (mpe : Int) (mye : Int) (mpr : Int) (mld : Int) (msi : Int) (mse : Int) (inn : Nat → Int) (bs : Nat → Int) : Nat → Nat → List qV → List qV → qW → Prop := fun dz mz vz sz wz => if dz = 5 then (∃ (y_inn : Nat → Int) (v1 : Int), vz = [q2 0, q1 v1] ∧ sz = [] ∧ wz = [.inr (12, [q1 mco, q2 3, q2 4, q2 5, q2 6, q2 7, q2 2, q2 8, q2 9, q2 10, q1 mre, q1 mle, q1 mbe, q1 mso, q1 mva, q3 mwo, q1 mwr, q1 mlf, q1 mlp, q2 11, q2 12, q1 mfp, q1 mfd, q1 mgo, q1 mbo, q1 mpe, q1 mye, q2 13, q1 mpr, q2 1, q2 14, q2 15, q2 16, q1 mld, q2 17, q1 msi, q2 18, q2 19, q2 20, q2 21, q2 22, q1 mse, q2 23, q2 24, q2 25]), .inl (0, 12544, .inl y_inn), .inl (0, 600, .inl bs)] ∧ mz = 1000000 * (v1 + 1).toNat ∧ (-1 ≤ v1 ∧ v1 ≤ ofR bs mbo 4) ∧ (0 ≤ ofR bs mbo 4 ∧ ofR bs mbo 4 ≤ 6) ∧ (1 ≤ p2R mpe ∧ p2R mpe ≤ 256) ∧ (WZ y_inn (p2R mpe) (ofR bs mbo 4) v1 0)) else if dz = 11 then (∃ (y_inn : Nat → Int) (v1 : Int) (v2 : Int), vz = [q2 0, q1 v1, q1 v2] ∧ sz = [] ∧ wz = [.inr (12, [q1 mco, q2 3, q2 4, q2 5, q2 6, q2 7, q2 2, q2 8, q2 9, q2 10, q1 mre, q1 mle, q1 mbe, q1 mso, q1 mva, q3 mwo, q1 mwr, q1 mlf, q1 mlp, q2 11, q2 12, q1 mfp, q1 mfd, q1 mgo, q1 mbo, q1 mpe, q1 mye, q2 13, q1 mpr, q2 1, q2 14, q2 15, q2 16, q1 mld, q2 17, q1 msi, q2 18, q2 19, q2 20, q2 21, q2 22, q1 mse, q2 23, q2 24, q2 25]), .inl (0, 12544, .inl y_inn), .inl (0, 600, .inl bs)] ∧ mz = 1000000 * (v1 + 1).toNat - 500000 + 1000 * (256 - v2).toNat ∧ (0 ≤ v1 ∧ v1 ≤ ofR bs mbo 4 ∧ 0 ≤ v2 ∧ v2 ≤ 256) ∧ (0 ≤ ofR bs mbo 4 ∧ ofR bs mbo 4 ≤ 6) ∧ (1 ≤ p2R mpe ∧ p2R mpe ≤ 256) ∧ (WZ y_inn (p2R mpe) (ofR bs mbo 4) v1 v2)) else if dz = 23 then (∃ (y_inn : Nat → Int) (v1 : Int) (v2 : Int) (v3 : Int), vz = [q2 0, q1 v1, q1 v2, q1 v3] ∧ sz = [] ∧ wz = [.inr (12, [q1 mco, q2 3, q2 4, q2 5, q2 6, q2 7, q2 2, q2 8, q2 9, q2 10, q1 mre, q1 mle, q1 mbe, q1 mso, q1 mva, q3 mwo, q1 mwr, q1 mlf, q1 mlp, q2 11, q2 12, q1 mfp, q1 mfd, q1 mgo, q1 mbo, q1 mpe, q1 mye, q2 13, q1 mpr, q2 1, q2 14, q2 15, q2 16, q1 mld, q2 17, q1 msi, q2 18, q2 19, q2 20, q2 21, q2 22, q1 mse, q2 23, q2 24, q2 25]), .inl (0, 12544, .inl y_inn), .inl (0, 600, .inl bs)] ∧ mz = 1000000 * (v1 + 1).toNat - 500000 + 1000 * (256 - v2).toNat - 500 + (7 - v3).toNat ∧ (0 ≤ v1 ∧ v1 ≤ ofR bs mbo 4 ∧ 0 ≤ v2 ∧ v2 < p2R mpe ∧ 0 ≤ v3 ∧ v3 ≤ 7) ∧ (0 ≤ ofR bs mbo 4 ∧ ofR bs mbo 4 ≤ 6) ∧ (1 ≤ p2R mpe ∧ p2R mpe ≤ 256) ∧ (v3 = 0 → WZ y_inn (p2R mpe) (ofR bs mbo 4) v1 v2) ∧ (0 < v3 → WZ y_inn (p2R mpe) (ofR bs mbo 4) v1 (v2 + 1))) else False
set_option maxHeartbeats 4000000 in
set_option maxRecDepth 100000 in
theorem m_X12_findWorks (l : Launch) : q_M l yX12_findWorks cX12_findWorks 4 none 3 68 sp_X12_findWorks := by
  refine q_meth (by decide) (fun av w Q h => by obtain ⟨mco, mre, mle, mbe, mso, mva, mwo, mwr, mlf, mlp, mfp, mfd, mgo, mbo, mpe, mye, mpr, mld, msi, mse, inn, bs, rfl, rfl, hbo, hpe, hbi, hQ⟩ := h; exact Nat.le_of_ble_eq_true rfl) ?_
  intro p e R s m args below meth c dC dI k g A av w Q hsp oka okw X
  obtain ⟨mco, mre, mle, mbe, mso, mva, mwo, mwr, mlf, mlp, mfp, mfd, mgo, mbo, mpe, mye, mpr, mld, msi, mse, inn, bs, rfl, rfl, hbo, hpe, hbi, hQ⟩ := hsp
  refine s_mono (s_X12_findWorks_0 X (J := fun dz vz sz wz => ∃ mz, I_X12_findWorks mco mre mle mbe mso mva mwo mwr mlf mlp mfp mfd mgo mbo mpe mye mpr mld msi mse inn bs dz mz vz sz wz) (q_loopn (I_X12_findWorks mco mre mle mbe mso mva mwo mwr mlf mlp mfp mfd mgo mbo mpe mye mpr mld msi mse inn bs) (fun dz J => if dz = 5 then b_X12_findWorks_5 J Q else if dz = 11 then b_X12_findWorks_11 J Q else if dz = 23 then b_X12_findWorks_23 J Q else q_F) ?hs ?hv)) ?_
  case hs =>
    intro d J hJ
    by_cases h5 : d = 5
    · subst h5; exact s_X12_findWorks_5 X hJ
    by_cases h11 : d = 11
    · subst h11; exact s_X12_findWorks_11 X hJ
    by_cases h23 : d = 23
    · subst h23; exact s_X12_findWorks_23 X hJ
    simp only [h5, h11, h23, if_false]
    exact s_F
  case hv =>
    intro dz mz vz sz wz hI okv oks okw hlen
    by_cases h5 : dz = 5
    · subst h5
      obtain ⟨y_inn, v1, rfl, rfl, rfl, hn, hp, hW, hP, hw⟩ := hI
      apply And.intro
      · intro h6
        exact hQ _ (by have := hw 0 0 (by omega) (by omega) (by omega) (by omega) (by omega); exact this)
      · intro h6
        exact ⟨_, ⟨_, _, _, rfl, rfl, rfl, rfl, (by first | omega | assumption | exact q_rg_up (by assumption) (by omega) | exact q_rg_up (q_rg_up (by assumption) (by omega)) (by omega) | exact q_rg_cpy (by assumption) (by assumption)), (by first | omega | assumption | exact q_rg_up (by assumption) (by omega) | exact q_rg_up (q_rg_up (by assumption) (by omega)) (by omega) | exact q_rg_cpy (by assumption) (by assumption)), (by first | omega | assumption | exact q_rg_up (by assumption) (by omega) | exact q_rg_up (q_rg_up (by assumption) (by omega)) (by omega) | exact q_rg_cpy (by assumption) (by assumption)), (by first | assumption | (rw [h75]; exact hw1 (by omega)))⟩, by omega⟩
    by_cases h11 : dz = 11
    · subst h11
      obtain ⟨y_inn, v1, v2, rfl, rfl, rfl, hn, hp, hW, hP, hw⟩ := hI
      intro z17 h17
      replace h17 := e_p2 h17 hpe
      apply And.intro
      · intro h18
        intro z81 h81
        first | replace h81 := e_add h81 (by omega) | replace h81 := e_rng h81
        exact ⟨_, ⟨_, _, rfl, rfl, rfl, rfl, (by first | omega | assumption | exact q_rg_up (by assumption) (by omega) | exact q_rg_up (q_rg_up (by assumption) (by omega)) (by omega) | exact q_rg_cpy (by assumption) (by assumption)), (by first | omega | assumption | exact q_rg_up (by assumption) (by omega) | exact q_rg_up (q_rg_up (by assumption) (by omega)) (by omega) | exact q_rg_cpy (by assumption) (by assumption)), (p2R_rg hpe), (by first | exact WZ_dn hw (by omega) (by omega) | (rw [h1.1]; exact WZ_0))⟩, by omega⟩
      · intro h18
        exact ⟨_, ⟨_, _, _, _, rfl, rfl, rfl, rfl, (by first | omega | assumption | exact q_rg_up (by assumption) (by omega) | exact q_rg_up (q_rg_up (by assumption) (by omega)) (by omega) | exact q_rg_cpy (by assumption) (by assumption)), (by first | omega | assumption | exact q_rg_up (by assumption) (by omega) | exact q_rg_up (q_rg_up (by assumption) (by omega)) (by omega) | exact q_rg_cpy (by assumption) (by assumption)), (by first | omega | assumption | exact q_rg_up (by assumption) (by omega) | exact q_rg_up (q_rg_up (by assumption) (by omega)) (by omega) | exact q_rg_cpy (by assumption) (by assumption)), (by intro e9; first | (exfalso; omega) | exact hw), (by intro e8; first | (exfalso; omega) | exact (if e9 : v3 = 0 then WZ_up0 (hw0 e9) (by omega) (by omega) (by omega) else WZ_up (n := v3) (s := v2) (hw1 (by omega)) (by omega) (by omega) (by omega)))⟩, by omega⟩
    by_cases h23 : dz = 23
    · subst h23
      obtain ⟨y_inn, v1, v2, v3, rfl, rfl, rfl, hn, hp, hW, hP, hw0, hw1⟩ := hI
      apply And.intro
      · intro h26
        intro z75 h75
        first | replace h75 := e_add h75 (by omega) | replace h75 := e_rng h75
        exact ⟨_, ⟨_, _, _, rfl, rfl, rfl, rfl, (by first | omega | assumption | exact q_rg_up (by assumption) (by omega) | exact q_rg_up (q_rg_up (by assumption) (by omega)) (by omega) | exact q_rg_cpy (by assumption) (by assumption)), (by first | omega | assumption | exact q_rg_up (by assumption) (by omega) | exact q_rg_up (q_rg_up (by assumption) (by omega)) (by omega) | exact q_rg_cpy (by assumption) (by assumption)), (by first | omega | assumption | exact q_rg_up (by assumption) (by omega) | exact q_rg_up (q_rg_up (by assumption) (by omega)) (by omega) | exact q_rg_cpy (by assumption) (by assumption)), (by first | assumption | (rw [h75]; exact hw1 (by omega)))⟩, by omega⟩
      · intro h26
        refine Exists.intro [] (Exists.intro [q1 _, q1 _, q1 _] (Exists.intro [] (And.intro rfl (And.intro rfl (And.intro rfl (And.intro trivial ?_))))))
        refine Exists.intro _ (Exists.intro _ (Exists.intro _ (And.intro rfl (And.intro rfl (And.intro (by first | omega | assumption | exact q_rg_up (by assumption) (by omega) | exact q_rg_up (q_rg_up (by assumption) (by omega)) (by omega) | exact q_rg_cpy (by assumption) (by assumption)) (?_))))))
        intro z36 h36
        refine Exists.intro [0, 2, 3, 4, 5, 6, 7, 8, 9, 10, 11, 12, 13, 1, 14, 15, 16, 17, 18, 19, 20, 21, 22, 23, 24, 25] (Exists.intro [q2 0] (Exists.intro ([.inr (12, [q1 _, q2 2, q2 3, q2 4, q2 5, q2 6, q2 1, q2 7, q2 8, q2 9, q1 _, q1 _, q1 _, q1 _, q1 _, q3 _, q1 _, q1 _, q1 _, q2 10, q2 11, q1 _, q1 _, q1 _, q1 _, q1 _, q1 _, q2 12, q1 _, q2 13, q2 14, q2 15, q2 16, q1 _, q2 17, q1 _, q2 18, q2 19, q2 20, q2 21, q2 22, q1 _, q2 23, q2 24, q2 25]), .inl (0, 600, .inl _)]) (And.intro rfl (And.intro rfl (And.intro rfl (And.intro ⟨⟨_, rfl⟩, rfl⟩ ?_))))))
        refine Exists.intro _ (Exists.intro _ (Exists.intro _ (Exists.intro _ (Exists.intro _ (Exists.intro _ (Exists.intro _ (Exists.intro _ (Exists.intro _ (Exists.intro _ (Exists.intro _ (Exists.intro _ (Exists.intro _ (Exists.intro _ (Exists.intro _ (Exists.intro _ (Exists.intro _ (Exists.intro _ (Exists.intro _ (Exists.intro _ (Exists.intro _ (And.intro rfl (And.intro rfl (And.intro (by first | omega | assumption | exact q_rg_up (by assumption) (by omega) | exact q_rg_up (q_rg_up (by assumption) (by omega)) (by omega) | exact q_rg_cpy (by assumption) (by assumption)) (And.intro (by first | omega | assumption | exact q_rg_up (by assumption) (by omega) | exact q_rg_up (q_rg_up (by assumption) (by omega)) (by omega) | exact q_rg_cpy (by assumption) (by assumption)) (?_)))))))))))))))))))))))))
        intro z41 h41
        apply And.intro
        · intro h44
          refine Exists.intro [0, 1, 2, 3, 4, 5, 6, 7, 8, 9, 10, 11, 12, 13, 14, 15, 16, 17, 18, 19, 20, 21, 22, 23, 24, 25] (Exists.intro [q2 0, q1 _, q1 _, q1 _] (Exists.intro ([.inr (12, [q1 _, q2 3, q2 4, q2 5, q2 6, q2 7, q2 2, q2 8, q2 9, q2 10, q1 _, q1 _, q1 _, q1 _, q1 _, q3 _, q1 _, q1 _, q1 _, q2 11, q2 12, q1 _, q1 _, q1 _, q1 _, q1 _, q1 _, q2 13, q1 _, q2 1, q2 14, q2 15, q2 16, q1 _, q2 17, q1 _, q2 18, q2 19, q2 20, q2 21, q2 22, q1 _, q2 23, q2 24, q2 25]), .inl (0, 12544, .inl _), .inl (0, 600, .inl _)]) (And.intro rfl (And.intro rfl (And.intro rfl (And.intro ⟨⟨_, rfl⟩, rfl⟩ ?_))))))
          refine Exists.intro _ (Exists.intro _ (Exists.intro _ (Exists.intro _ (Exists.intro _ (Exists.intro _ (Exists.intro _ (Exists.intro _ (Exists.intro _ (Exists.intro _ (Exists.intro _ (Exists.intro _ (Exists.intro _ (Exists.intro _ (Exists.intro _ (Exists.intro _ (Exists.intro _ (Exists.intro _ (Exists.intro _ (Exists.intro _ (Exists.intro _ (Exists.intro _ (Exists.intro _ (Exists.intro _ (Exists.intro _ (And.intro rfl (And.intro rfl (And.intro (by first | omega | assumption | exact q_rg_up (by assumption) (by omega) | exact q_rg_up (q_rg_up (by assumption) (by omega)) (by omega) | exact q_rg_cpy (by assumption) (by assumption)) (And.intro (by first | omega | assumption | exact q_rg_up (by assumption) (by omega) | exact q_rg_up (q_rg_up (by assumption) (by omega)) (by omega) | exact q_rg_cpy (by assumption) (by assumption)) (And.intro (by first | omega | assumption | exact q_rg_up (by assumption) (by omega) | exact q_rg_up (q_rg_up (by assumption) (by omega)) (by omega) | exact q_rg_cpy (by assumption) (by assumption)) (And.intro (by first | omega | assumption | exact q_rg_up (by assumption) (by omega) | exact q_rg_up (q_rg_up (by assumption) (by omega)) (by omega) | exact q_rg_cpy (by assumption) (by assumption)) (?_)))))))))))))))))))))))))))))))
          intro z65 h65
          have l65 : v3 = 0 → z65 = 0 := fun e9 => by
            rw [h65 e9]
            exact hw0 e9 (v1 + 1) v2 (by omega) (by omega) (by omega) (by omega) (by omega)
          apply And.intro
          · exact ⟨by omega, by omega⟩
          intro z69 h69
          first | replace h69 := e_add h69 (by omega) | replace h69 := e_rng h69
          exact ⟨_, ⟨_, _, _, _, rfl, rfl, rfl, rfl, (by first | omega | assumption | exact q_rg_up (by assumption) (by omega) | exact q_rg_up (q_rg_up (by assumption) (by omega)) (by omega) | exact q_rg_cpy (by assumption) (by assumption)), (by first | omega | assumption | exact q_rg_up (by assumption) (by omega) | exact q_rg_up (q_rg_up (by assumption) (by omega)) (by omega) | exact q_rg_cpy (by assumption) (by assumption)), (by first | omega | assumption | exact q_rg_up (by assumption) (by omega) | exact q_rg_up (q_rg_up (by assumption) (by omega)) (by omega) | exact q_rg_cpy (by assumption) (by assumption)), (by intro e9; first | (exfalso; omega) | exact hw), (by intro e8; first | (exfalso; omega) | exact (if e9 : v3 = 0 then WZ_up0 (hw0 e9) (by omega) (by omega) (by omega) else WZ_up (n := v3) (s := v2) (hw1 (by omega)) (by omega) (by omega) (by omega)))⟩, by omega⟩
        · intro h44
          apply And.intro
          · intro h48
            apply And.intro
            · exact ⟨by omega, by omega⟩
            intro z69 h69
            first | replace h69 := e_add h69 (by omega) | replace h69 := e_rng h69
            exact ⟨_, ⟨_, _, _, _, rfl, rfl, rfl, rfl, (by first | omega | assumption | exact q_rg_up (by assumption) (by omega) | exact q_rg_up (q_rg_up (by assumption) (by omega)) (by omega) | exact q_rg_cpy (by assumption) (by assumption)), (by first | omega | assumption | exact q_rg_up (by assumption) (by omega) | exact q_rg_up (q_rg_up (by assumption) (by omega)) (by omega) | exact q_rg_cpy (by assumption) (by assumption)), (by first | omega | assumption | exact q_rg_up (by assumption) (by omega) | exact q_rg_up (q_rg_up (by assumption) (by omega)) (by omega) | exact q_rg_cpy (by assumption) (by assumption)), (by intro e9; first | (exfalso; omega) | exact hw), (by intro e8; first | (exfalso; omega) | exact (if e9 : v3 = 0 then WZ_up0 (hw0 e9) (by omega) (by omega) (by omega) else WZ_up (n := v3) (s := v2) (hw1 (by omega)) (by omega) (by omega) (by omega)))⟩, by omega⟩
          · intro h48
            apply And.intro
            · exact ⟨by omega, by omega⟩
            intro z69 h69
            first | replace h69 := e_add h69 (by omega) | replace h69 := e_rng h69
            exact ⟨_, ⟨_, _, _, _, rfl, rfl, rfl, rfl, (by first | omega | assumption | exact q_rg_up (by assumption) (by omega) | exact q_rg_up (q_rg_up (by assumption) (by omega)) (by omega) | exact q_rg_cpy (by assumption) (by assumption)), (by first | omega | assumption | exact q_rg_up (by assumption) (by omega) | exact q_rg_up (q_rg_up (by assumption) (by omega)) (by omega) | exact q_rg_cpy (by assumption) (by assumption)), (by first | omega | assumption | exact q_rg_up (by assumption) (by omega) | exact q_rg_up (q_rg_up (by assumption) (by omega)) (by omega) | exact q_rg_cpy (by assumption) (by assumption)), (by intro e9; first | (exfalso; omega) | exact hw), (by intro e8; first | (exfalso; omega) | exact (if e9 : v3 = 0 then WZ_up0 (hw0 e9) (by omega) (by omega) (by omega) else WZ_up (n := v3) (s := v2) (hw1 (by omega)) (by omega) (by omega) (by omega)))⟩, by omega⟩
    simp only [I_X12_findWorks, h5, h11, h23, if_false] at hI
  rintro lv st w' ⟨rfl, rfl, rfl⟩
  refine Exists.intro [0, 2, 3, 4, 5, 6, 7, 8, 9, 10, 11, 12, 13, 1, 14, 15, 16, 17, 18, 19, 20, 21, 22, 23, 24, 25] (Exists.intro [q2 0] (Exists.intro ([.inr (12, [q1 _, q2 2, q2 3, q2 4, q2 5, q2 6, q2 1, q2 7, q2 8, q2 9, q1 _, q1 _, q1 _, q1 _, q1 _, q3 _, q1 _, q1 _, q1 _, q2 10, q2 11, q1 _, q1 _, q1 _, q1 _, q1 _, q1 _, q2 12, q1 _, q2 13, q2 14, q2 15, q2 16, q1 _, q2 17, q1 _, q2 18, q2 19, q2 20, q2 21, q2 22, q1 _, q2 23, q2 24, q2 25]), .inl (0, 600, .inl _)]) (And.intro rfl (And.intro rfl (And.intro rfl (And.intro ⟨⟨_, rfl⟩, rfl⟩ ?_))))))
  refine Exists.intro _ (Exists.intro _ (Exists.intro _ (Exists.intro _ (Exists.intro _ (Exists.intro _ (Exists.intro _ (Exists.intro _ (Exists.intro _ (Exists.intro _ (Exists.intro _ (Exists.intro _ (Exists.intro _ (Exists.intro _ (Exists.intro _ (Exists.intro _ (Exists.intro _ (Exists.intro _ (Exists.intro _ (Exists.intro _ (Exists.intro _ (And.intro rfl (And.intro rfl (And.intro (by first | omega | assumption | exact q_rg_up (by assumption) (by omega) | exact q_rg_up (q_rg_up (by assumption) (by omega)) (by omega) | exact q_rg_cpy (by assumption) (by assumption)) (And.intro (by first | omega | assumption | exact q_rg_up (by assumption) (by omega) | exact q_rg_up (q_rg_up (by assumption) (by omega)) (by omega) | exact q_rg_cpy (by assumption) (by assumption)) (?_)))))))))))))))))))))))))
  intro z1 h1
  exact ⟨_, _, _, rfl, rfl, rfl, rfl, (by first | omega | assumption | exact q_rg_up (by assumption) (by omega) | exact q_rg_up (q_rg_up (by assumption) (by omega)) (by omega) | exact q_rg_cpy (by assumption) (by assumption)), (by first | omega | assumption | exact q_rg_up (by assumption) (by omega) | exact q_rg_up (q_rg_up (by assumption) (by omega)) (by omega) | exact q_rg_cpy (by assumption) (by assumption)), (p2R_rg hpe), (by first | exact WZ_dn hw (by omega) (by omega) | (rw [h1.1]; exact WZ_0))⟩

theorem dX12_doerOf_0 : decode cX12_doerOf 0 = .ok (.iconst 0, 1) := by decide +kernel
theorem dX12_doerOf_1 : decode cX12_doerOf 1 = .ok (.istore_n 3, 1) := by decide +kernel
theorem dX12_doerOf_2 : decode cX12_doerOf 2 = .ok (.iload_n 2, 1) := by decide +kernel
theorem dX12_doerOf_3 : decode cX12_doerOf 3 = .ok (.istore 4, 2) := by decide +kernel
theorem dX12_doerOf_5 : decode cX12_doerOf 5 = .ok (.iconst (-1), 1) := by decide +kernel
theorem dX12_doerOf_6 : decode cX12_doerOf 6 = .ok (.istore 5, 2) := by decide +kernel
theorem dX12_doerOf_8 : decode cX12_doerOf 8 = .ok (.iconst 0, 1) := by decide +kernel
theorem dX12_doerOf_9 : decode cX12_doerOf 9 = .ok (.istore 6, 2) := by decide +kernel
theorem dX12_doerOf_11 : decode cX12_doerOf 11 = .ok (.iload 6, 2) := by decide +kernel
theorem dX12_doerOf_13 : decode cX12_doerOf 13 = .ok (.iload_n 1, 1) := by decide +kernel
theorem dX12_doerOf_14 : decode cX12_doerOf 14 = .ok (.if_icmp .gt 153, 3) := by decide +kernel
theorem dX12_doerOf_17 : decode cX12_doerOf 17 = .ok (.aload_n 0, 1) := by decide +kernel
theorem dX12_doerOf_18 : decode cX12_doerOf 18 = .ok (.getfield 47, 3) := by decide +kernel
theorem dX12_doerOf_21 : decode cX12_doerOf 21 = .ok (.iload 6, 2) := by decide +kernel
theorem dX12_doerOf_23 : decode cX12_doerOf 23 = .ok (.iload_n 3, 1) := by decide +kernel
theorem dX12_doerOf_24 : decode cX12_doerOf 24 = .ok (.iload 4, 2) := by decide +kernel
theorem dX12_doerOf_26 : decode cX12_doerOf 26 = .ok (.invokestatic 366, 3) := by decide +kernel
theorem dX12_doerOf_29 : decode cX12_doerOf 29 = .ok (.iaload, 1) := by decide +kernel
theorem dX12_doerOf_30 : decode cX12_doerOf 30 = .ok (.istore 7, 2) := by decide +kernel
theorem dX12_doerOf_32 : decode cX12_doerOf 32 = .ok (.bipush 8, 2) := by decide +kernel
theorem dX12_doerOf_34 : decode cX12_doerOf 34 = .ok (.istore 5, 2) := by decide +kernel
theorem dX12_doerOf_36 : decode cX12_doerOf 36 = .ok (.aload_n 0, 1) := by decide +kernel
theorem dX12_doerOf_37 : decode cX12_doerOf 37 = .ok (.getfield 303, 3) := by decide +kernel
theorem dX12_doerOf_40 : decode cX12_doerOf 40 = .ok (.iconst 1, 1) := by decide +kernel
theorem dX12_doerOf_41 : decode cX12_doerOf 41 = .ok (.isub, 1) := by decide +kernel
theorem dX12_doerOf_42 : decode cX12_doerOf 42 = .ok (.istore 8, 2) := by decide +kernel
theorem dX12_doerOf_44 : decode cX12_doerOf 44 = .ok (.iload 8, 2) := by decide +kernel
theorem dX12_doerOf_46 : decode cX12_doerOf 46 = .ok (.ifCond .lt 80, 3) := by decide +kernel
theorem dX12_doerOf_49 : decode cX12_doerOf 49 = .ok (.iload 4, 2) := by decide +kernel
theorem dX12_doerOf_51 : decode cX12_doerOf 51 = .ok (.ifCond .le 52, 3) := by decide +kernel
theorem dX12_doerOf_54 : decode cX12_doerOf 54 = .ok (.iload_n 3, 1) := by decide +kernel
theorem dX12_doerOf_55 : decode cX12_doerOf 55 = .ok (.iload 8, 2) := by decide +kernel
theorem dX12_doerOf_57 : decode cX12_doerOf 57 = .ok (.invokestatic 92, 3) := by decide +kernel
theorem dX12_doerOf_60 : decode cX12_doerOf 60 = .ok (.ifCond .ne 43, 3) := by decide +kernel
theorem dX12_doerOf_63 : decode cX12_doerOf 63 = .ok (.aload_n 0, 1) := by decide +kernel
theorem dX12_doerOf_64 : decode cX12_doerOf 64 = .ok (.iload 8, 2) := by decide +kernel
theorem dX12_doerOf_66 : decode cX12_doerOf 66 = .ok (.iload 6, 2) := by decide +kernel
theorem dX12_doerOf_68 : decode cX12_doerOf 68 = .ok (.invokevirtual 370, 3) := by decide +kernel
theorem dX12_doerOf_71 : decode cX12_doerOf 71 = .ok (.aload_n 0, 1) := by decide +kernel
theorem dX12_doerOf_72 : decode cX12_doerOf 72 = .ok (.getfield 47, 3) := by decide +kernel
theorem dX12_doerOf_75 : decode cX12_doerOf 75 = .ok (.iload 6, 2) := by decide +kernel
theorem dX12_doerOf_77 : decode cX12_doerOf 77 = .ok (.iconst 1, 1) := by decide +kernel
theorem dX12_doerOf_78 : decode cX12_doerOf 78 = .ok (.iadd, 1) := by decide +kernel
theorem dX12_doerOf_79 : decode cX12_doerOf 79 = .ok (.iload_n 3, 1) := by decide +kernel
theorem dX12_doerOf_80 : decode cX12_doerOf 80 = .ok (.iconst 1, 1) := by decide +kernel
theorem dX12_doerOf_81 : decode cX12_doerOf 81 = .ok (.iload 8, 2) := by decide +kernel
theorem dX12_doerOf_83 : decode cX12_doerOf 83 = .ok (.ishl, 1) := by decide +kernel
theorem dX12_doerOf_84 : decode cX12_doerOf 84 = .ok (.ior, 1) := by decide +kernel
theorem dX12_doerOf_85 : decode cX12_doerOf 85 = .ok (.iload 4, 2) := by decide +kernel
theorem dX12_doerOf_87 : decode cX12_doerOf 87 = .ok (.iconst 1, 1) := by decide +kernel
theorem dX12_doerOf_88 : decode cX12_doerOf 88 = .ok (.isub, 1) := by decide +kernel
theorem dX12_doerOf_89 : decode cX12_doerOf 89 = .ok (.invokestatic 366, 3) := by decide +kernel
theorem dX12_doerOf_92 : decode cX12_doerOf 92 = .ok (.iaload, 1) := by decide +kernel
theorem dX12_doerOf_93 : decode cX12_doerOf 93 = .ok (.iadd, 1) := by decide +kernel
theorem dX12_doerOf_94 : decode cX12_doerOf 94 = .ok (.iload 7, 2) := by decide +kernel
theorem dX12_doerOf_96 : decode cX12_doerOf 96 = .ok (.if_icmp .ne 7, 3) := by decide +kernel
theorem dX12_doerOf_99 : decode cX12_doerOf 99 = .ok (.iconst 1, 1) := by decide +kernel
theorem dX12_doerOf_100 : decode cX12_doerOf 100 = .ok (.goto 4, 3) := by decide +kernel
theorem dX12_doerOf_103 : decode cX12_doerOf 103 = .ok (.iconst 0, 1) := by decide +kernel
theorem dX12_doerOf_104 : decode cX12_doerOf 104 = .ok (.istore 9, 2) := by decide +kernel
theorem dX12_doerOf_106 : decode cX12_doerOf 106 = .ok (.iload 9, 2) := by decide +kernel
theorem dX12_doerOf_108 : decode cX12_doerOf 108 = .ok (.ifCond .eq 8, 3) := by decide +kernel
theorem dX12_doerOf_111 : decode cX12_doerOf 111 = .ok (.iload 8, 2) := by decide +kernel
theorem dX12_doerOf_113 : decode cX12_doerOf 113 = .ok (.goto 5, 3) := by decide +kernel
theorem dX12_doerOf_116 : decode cX12_doerOf 116 = .ok (.iload 5, 2) := by decide +kernel
theorem dX12_doerOf_118 : decode cX12_doerOf 118 = .ok (.istore 5, 2) := by decide +kernel
theorem dX12_doerOf_120 : decode cX12_doerOf 120 = .ok (.iinc 8 (-1), 3) := by decide +kernel
theorem dX12_doerOf_123 : decode cX12_doerOf 123 = .ok (.goto (-79), 3) := by decide +kernel
theorem dX12_doerOf_126 : decode cX12_doerOf 126 = .ok (.iload_n 3, 1) := by decide +kernel
theorem dX12_doerOf_127 : decode cX12_doerOf 127 = .ok (.iload 5, 2) := by decide +kernel
theorem dX12_doerOf_129 : decode cX12_doerOf 129 = .ok (.bipush 8, 2) := by decide +kernel
theorem dX12_doerOf_131 : decode cX12_doerOf 131 = .ok (.if_icmp .ge 10, 3) := by decide +kernel
theorem dX12_doerOf_134 : decode cX12_doerOf 134 = .ok (.iconst 1, 1) := by decide +kernel
theorem dX12_doerOf_135 : decode cX12_doerOf 135 = .ok (.iload 5, 2) := by decide +kernel
theorem dX12_doerOf_137 : decode cX12_doerOf 137 = .ok (.ishl, 1) := by decide +kernel
theorem dX12_doerOf_138 : decode cX12_doerOf 138 = .ok (.goto 4, 3) := by decide +kernel
theorem dX12_doerOf_141 : decode cX12_doerOf 141 = .ok (.iconst 0, 1) := by decide +kernel
theorem dX12_doerOf_142 : decode cX12_doerOf 142 = .ok (.ior, 1) := by decide +kernel
theorem dX12_doerOf_143 : decode cX12_doerOf 143 = .ok (.istore_n 3, 1) := by decide +kernel
theorem dX12_doerOf_144 : decode cX12_doerOf 144 = .ok (.iload 4, 2) := by decide +kernel
theorem dX12_doerOf_146 : decode cX12_doerOf 146 = .ok (.iload 5, 2) := by decide +kernel
theorem dX12_doerOf_148 : decode cX12_doerOf 148 = .ok (.bipush 8, 2) := by decide +kernel
theorem dX12_doerOf_150 : decode cX12_doerOf 150 = .ok (.if_icmp .ge 7, 3) := by decide +kernel
theorem dX12_doerOf_153 : decode cX12_doerOf 153 = .ok (.iconst 1, 1) := by decide +kernel
theorem dX12_doerOf_154 : decode cX12_doerOf 154 = .ok (.goto 4, 3) := by decide +kernel
theorem dX12_doerOf_157 : decode cX12_doerOf 157 = .ok (.iconst 0, 1) := by decide +kernel
theorem dX12_doerOf_158 : decode cX12_doerOf 158 = .ok (.isub, 1) := by decide +kernel
theorem dX12_doerOf_159 : decode cX12_doerOf 159 = .ok (.istore 4, 2) := by decide +kernel
theorem dX12_doerOf_161 : decode cX12_doerOf 161 = .ok (.iinc 6 1, 3) := by decide +kernel
theorem dX12_doerOf_164 : decode cX12_doerOf 164 = .ok (.goto (-153), 3) := by decide +kernel
theorem dX12_doerOf_167 : decode cX12_doerOf 167 = .ok (.iload 5, 2) := by decide +kernel
theorem dX12_doerOf_169 : decode cX12_doerOf 169 = .ok (.ireturn, 1) := by decide +kernel
def is_X12_doerOf : Nat → List Nat := fun d => if d = 11 then [0, 1, 3, 4, 5, 6] else if d = 44 then [0, 1, 3, 4, 5, 6, 7, 8] else []
set_option maxRecDepth 100000 in
def b_X12_doerOf_158 (J : Nat → List qV → List qV → qW → Prop) (Q : qR) : qK := x_isub (x_istore 4 (x_iinc 6 1 (x_cut [0, 1, 3, 4, 5, 6] (J 11))))
set_option maxRecDepth 100000 in
theorem s_X12_doerOf_158 {p : Program} {l : Launch} {e : Env} {R : Room} {s : State} {m : MethodId} {args : Array Value} {below : List Frame} {meth : Method} {c : Code} {nW : Nat} {dC : Nat → ClassId} {dI : Nat → Nat → Nat} {k : Nat → ClassId} {g : Nat → Nat} {A : Nat → Prop} {J : Nat → List qV → List qV → qW → Prop} {Q : qR} (X : q_X p R s m args meth c cX12_doerOf 10 nW 2 43 RX12 (some .int) dC dI k g A) (hJ : ∀ d : Nat, q_Sd p l e R s m args below meth c 10 nW dC dI k g A (MQ below (q_post (dC, dI) k g nW Q A) args s 0 0 A) d (x_cut (is_X12_doerOf d) (J d))) : q_Sd p l e R s m args below meth c 10 nW dC dI k g A (MQ below (q_post (dC, dI) k g nW Q A) args s 0 0 A) 158 (b_X12_doerOf_158 J Q) := by
  unfold b_X12_doerOf_158
  refine s_isub X dX12_doerOf_158 ?_
  refine s_istore X (by decide) dX12_doerOf_159 ?_
  refine s_iinc X (by decide) dX12_doerOf_161 ?_
  refine s_goto X (tgt := 11) dX12_doerOf_164 (by decide) ?_
  exact hJ 11
set_option maxRecDepth 100000 in
def b_X12_doerOf_142 (J : Nat → List qV → List qV → qW → Prop) (Q : qR) : qK := x_ior (x_istore 3 (x_iload 4 (x_iload 5 (x_int 8 (x_icmp_ge (x_int 0 (b_X12_doerOf_158 J Q)) (x_int 1 (b_X12_doerOf_158 J Q)))))))
set_option maxRecDepth 100000 in
theorem s_X12_doerOf_142 {p : Program} {l : Launch} {e : Env} {R : Room} {s : State} {m : MethodId} {args : Array Value} {below : List Frame} {meth : Method} {c : Code} {nW : Nat} {dC : Nat → ClassId} {dI : Nat → Nat → Nat} {k : Nat → ClassId} {g : Nat → Nat} {A : Nat → Prop} {J : Nat → List qV → List qV → qW → Prop} {Q : qR} (X : q_X p R s m args meth c cX12_doerOf 10 nW 2 43 RX12 (some .int) dC dI k g A) (hJ : ∀ d : Nat, q_Sd p l e R s m args below meth c 10 nW dC dI k g A (MQ below (q_post (dC, dI) k g nW Q A) args s 0 0 A) d (x_cut (is_X12_doerOf d) (J d))) : q_Sd p l e R s m args below meth c 10 nW dC dI k g A (MQ below (q_post (dC, dI) k g nW Q A) args s 0 0 A) 142 (b_X12_doerOf_142 J Q) := by
  unfold b_X12_doerOf_142
  refine s_ior X dX12_doerOf_142 ?_
  refine s_istore_n X rfl (by decide) dX12_doerOf_143 ?_
  refine s_iload X dX12_doerOf_144 ?_
  refine s_iload X dX12_doerOf_146 ?_
  refine s_bipush X ⟨by decide, by decide⟩ (by decide) dX12_doerOf_148 ?_
  refine s_icmp_ge X (tgt := 157) dX12_doerOf_150 (by decide) ?_ ?_
  · refine s_iconst X ⟨by decide, by decide⟩ dX12_doerOf_157 ?_
    exact s_X12_doerOf_158 X hJ
  · refine s_iconst X ⟨by decide, by decide⟩ dX12_doerOf_153 ?_
    refine s_goto X (tgt := 158) dX12_doerOf_154 (by decide) ?_
    exact s_X12_doerOf_158 X hJ
set_option maxRecDepth 100000 in
def b_X12_doerOf_118 (J : Nat → List qV → List qV → qW → Prop) (Q : qR) : qK := x_istore 5 (x_iinc 8 (-1) (x_cut [0, 1, 3, 4, 5, 6, 7, 8] (J 44)))
set_option maxRecDepth 100000 in
theorem s_X12_doerOf_118 {p : Program} {l : Launch} {e : Env} {R : Room} {s : State} {m : MethodId} {args : Array Value} {below : List Frame} {meth : Method} {c : Code} {nW : Nat} {dC : Nat → ClassId} {dI : Nat → Nat → Nat} {k : Nat → ClassId} {g : Nat → Nat} {A : Nat → Prop} {J : Nat → List qV → List qV → qW → Prop} {Q : qR} (X : q_X p R s m args meth c cX12_doerOf 10 nW 2 43 RX12 (some .int) dC dI k g A) (hJ : ∀ d : Nat, q_Sd p l e R s m args below meth c 10 nW dC dI k g A (MQ below (q_post (dC, dI) k g nW Q A) args s 0 0 A) d (x_cut (is_X12_doerOf d) (J d))) : q_Sd p l e R s m args below meth c 10 nW dC dI k g A (MQ below (q_post (dC, dI) k g nW Q A) args s 0 0 A) 118 (b_X12_doerOf_118 J Q) := by
  unfold b_X12_doerOf_118
  refine s_istore X (by decide) dX12_doerOf_118 ?_
  refine s_iinc X (by decide) dX12_doerOf_120 ?_
  refine s_goto X (tgt := 44) dX12_doerOf_123 (by decide) ?_
  exact hJ 44
set_option maxRecDepth 100000 in
def b_X12_doerOf_104 (J : Nat → List qV → List qV → qW → Prop) (Q : qR) : qK := x_istore 9 (x_iload 9 (x_if_eq (x_iload 5 (b_X12_doerOf_118 J Q)) (x_iload 8 (b_X12_doerOf_118 J Q))))
set_option maxRecDepth 100000 in
theorem s_X12_doerOf_104 {p : Program} {l : Launch} {e : Env} {R : Room} {s : State} {m : MethodId} {args : Array Value} {below : List Frame} {meth : Method} {c : Code} {nW : Nat} {dC : Nat → ClassId} {dI : Nat → Nat → Nat} {k : Nat → ClassId} {g : Nat → Nat} {A : Nat → Prop} {J : Nat → List qV → List qV → qW → Prop} {Q : qR} (X : q_X p R s m args meth c cX12_doerOf 10 nW 2 43 RX12 (some .int) dC dI k g A) (hJ : ∀ d : Nat, q_Sd p l e R s m args below meth c 10 nW dC dI k g A (MQ below (q_post (dC, dI) k g nW Q A) args s 0 0 A) d (x_cut (is_X12_doerOf d) (J d))) : q_Sd p l e R s m args below meth c 10 nW dC dI k g A (MQ below (q_post (dC, dI) k g nW Q A) args s 0 0 A) 104 (b_X12_doerOf_104 J Q) := by
  unfold b_X12_doerOf_104
  refine s_istore X (by decide) dX12_doerOf_104 ?_
  refine s_iload X dX12_doerOf_106 ?_
  refine s_if_eq X (tgt := 116) dX12_doerOf_108 (by decide) ?_ ?_
  · refine s_iload X dX12_doerOf_116 ?_
    exact s_X12_doerOf_118 X hJ
  · refine s_iload X dX12_doerOf_111 ?_
    refine s_goto X (tgt := 118) dX12_doerOf_113 (by decide) ?_
    exact s_X12_doerOf_118 X hJ
set_option maxRecDepth 100000 in
def b_X12_doerOf_103 (J : Nat → List qV → List qV → qW → Prop) (Q : qR) : qK := x_int 0 (b_X12_doerOf_104 J Q)
set_option maxRecDepth 100000 in
theorem s_X12_doerOf_103 {p : Program} {l : Launch} {e : Env} {R : Room} {s : State} {m : MethodId} {args : Array Value} {below : List Frame} {meth : Method} {c : Code} {nW : Nat} {dC : Nat → ClassId} {dI : Nat → Nat → Nat} {k : Nat → ClassId} {g : Nat → Nat} {A : Nat → Prop} {J : Nat → List qV → List qV → qW → Prop} {Q : qR} (X : q_X p R s m args meth c cX12_doerOf 10 nW 2 43 RX12 (some .int) dC dI k g A) (hJ : ∀ d : Nat, q_Sd p l e R s m args below meth c 10 nW dC dI k g A (MQ below (q_post (dC, dI) k g nW Q A) args s 0 0 A) d (x_cut (is_X12_doerOf d) (J d))) : q_Sd p l e R s m args below meth c 10 nW dC dI k g A (MQ below (q_post (dC, dI) k g nW Q A) args s 0 0 A) 103 (b_X12_doerOf_103 J Q) := by
  unfold b_X12_doerOf_103
  refine s_iconst X ⟨by decide, by decide⟩ dX12_doerOf_103 ?_
  exact s_X12_doerOf_104 X hJ
set_option maxRecDepth 100000 in
def b_X12_doerOf_88 (J : Nat → List qV → List qV → qW → Prop) (Q : qR) : qK := x_isub (x_callr none 3 spr_X12_cell (x_iald (x_iadd (x_iload 7 (x_icmp_ne (b_X12_doerOf_103 J Q) (x_int 1 (b_X12_doerOf_104 J Q)))))))
set_option maxRecDepth 100000 in
theorem s_X12_doerOf_88 {p : Program} {l : Launch} {e : Env} {R : Room} {s : State} {m : MethodId} {args : Array Value} {below : List Frame} {meth : Method} {c : Code} {nW : Nat} {dC : Nat → ClassId} {dI : Nat → Nat → Nat} {k : Nat → ClassId} {g : Nat → Nat} {A : Nat → Prop} {J : Nat → List qV → List qV → qW → Prop} {Q : qR} (X : q_X p R s m args meth c cX12_doerOf 10 nW 2 43 RX12 (some .int) dC dI k g A) (hJ : ∀ d : Nat, q_Sd p l e R s m args below meth c 10 nW dC dI k g A (MQ below (q_post (dC, dI) k g nW Q A) args s 0 0 A) d (x_cut (is_X12_doerOf d) (J d))) : q_Sd p l e R s m args below meth c 10 nW dC dI k g A (MQ below (q_post (dC, dI) k g nW Q A) args s 0 0 A) 88 (b_X12_doerOf_88 J Q) := by
  unfold b_X12_doerOf_88
  refine s_isub X dX12_doerOf_88 ?_
  refine s_callSr X (m_X12_cell l) tw_1268 tw_1269 tw_134 tw_1270 (by decide +kernel) ⟨by decide, by decide⟩ dX12_doerOf_89 ?_
  refine s_iald X dX12_doerOf_92 ?_
  refine s_iadd X dX12_doerOf_93 ?_
  refine s_iload X dX12_doerOf_94 ?_
  refine s_icmp_ne X (tgt := 103) dX12_doerOf_96 (by decide) ?_ ?_
  · exact s_X12_doerOf_103 X hJ
  · refine s_iconst X ⟨by decide, by decide⟩ dX12_doerOf_99 ?_
    refine s_goto X (tgt := 104) dX12_doerOf_100 (by decide) ?_
    exact s_X12_doerOf_104 X hJ
set_option maxRecDepth 100000 in
def b_X12_doerOf_44 (J : Nat → List qV → List qV → qW → Prop) (Q : qR) : qK := x_iload 8 (x_if_lt (x_iload 3 (x_iload 5 (x_int 8 (x_icmp_ge (x_int 0 (b_X12_doerOf_142 J Q)) (x_int 1 (x_iload 5 (x_ishl (b_X12_doerOf_142 J Q)))))))) (x_iload 4 (x_if_le (b_X12_doerOf_103 J Q) (x_iload 3 (x_iload 8 (x_callr none 2 spr_X12_has (x_if_ne (b_X12_doerOf_103 J Q) (x_aload 0 (x_iload 8 (x_iload 6 (x_callr (some 12) 3 spr_X12_lacks (x_aload 0 (x_get 12 29 (x_iload 6 (x_int 1 (x_iadd (x_iload 3 (x_int 1 (x_iload 8 (x_ishl (x_ior (x_iload 4 (x_int 1 (b_X12_doerOf_88 J Q))))))))))))))))))))))))
set_option maxRecDepth 100000 in
theorem s_X12_doerOf_44 {p : Program} {l : Launch} {e : Env} {R : Room} {s : State} {m : MethodId} {args : Array Value} {below : List Frame} {meth : Method} {c : Code} {nW : Nat} {dC : Nat → ClassId} {dI : Nat → Nat → Nat} {k : Nat → ClassId} {g : Nat → Nat} {A : Nat → Prop} {J : Nat → List qV → List qV → qW → Prop} {Q : qR} (X : q_X p R s m args meth c cX12_doerOf 10 nW 2 43 RX12 (some .int) dC dI k g A) (hJ : ∀ d : Nat, q_Sd p l e R s m args below meth c 10 nW dC dI k g A (MQ below (q_post (dC, dI) k g nW Q A) args s 0 0 A) d (x_cut (is_X12_doerOf d) (J d))) : q_Sd p l e R s m args below meth c 10 nW dC dI k g A (MQ below (q_post (dC, dI) k g nW Q A) args s 0 0 A) 44 (b_X12_doerOf_44 J Q) := by
  unfold b_X12_doerOf_44
  refine s_iload X dX12_doerOf_44 ?_
  refine s_if_lt X (tgt := 126) dX12_doerOf_46 (by decide) ?_ ?_
  · refine s_iload_n X rfl dX12_doerOf_126 ?_
    refine s_iload X dX12_doerOf_127 ?_
    refine s_bipush X ⟨by decide, by decide⟩ (by decide) dX12_doerOf_129 ?_
    refine s_icmp_ge X (tgt := 141) dX12_doerOf_131 (by decide) ?_ ?_
    · refine s_iconst X ⟨by decide, by decide⟩ dX12_doerOf_141 ?_
      exact s_X12_doerOf_142 X hJ
    · refine s_iconst X ⟨by decide, by decide⟩ dX12_doerOf_134 ?_
      refine s_iload X dX12_doerOf_135 ?_
      refine s_ishl X dX12_doerOf_137 ?_
      refine s_goto X (tgt := 142) dX12_doerOf_138 (by decide) ?_
      exact s_X12_doerOf_142 X hJ
  · refine s_iload X dX12_doerOf_49 ?_
    refine s_if_le X (tgt := 103) dX12_doerOf_51 (by decide) ?_ ?_
    · exact s_X12_doerOf_103 X hJ
    · refine s_iload_n X rfl dX12_doerOf_54 ?_
      refine s_iload X dX12_doerOf_55 ?_
      refine s_callSr X (m_X12_has l) tw_1233 tw_1234 tw_134 tw_1235 (by decide +kernel) ⟨by decide, by decide⟩ dX12_doerOf_57 ?_
      refine s_if_ne X (tgt := 103) dX12_doerOf_60 (by decide) ?_ ?_
      · exact s_X12_doerOf_103 X hJ
      · refine s_aload_n X rfl dX12_doerOf_63 ?_
        refine s_iload X dX12_doerOf_64 ?_
        refine s_iload X dX12_doerOf_66 ?_
        refine s_callVr X (m_X12_lacks l) tw_1275 tw_1276 tw_1593 tw_134 tw_1277 rfl (by decide +kernel) ⟨by decide, by decide⟩ dX12_doerOf_68 ?_
        refine s_aload_n X rfl dX12_doerOf_71 ?_
        refine s_get X (T := TX12) (C := RX12) (N := 45) tu_X12 rfl (by decide) tw_1026 dX12_doerOf_72 ?_
        refine s_iload X dX12_doerOf_75 ?_
        refine s_iconst X ⟨by decide, by decide⟩ dX12_doerOf_77 ?_
        refine s_iadd X dX12_doerOf_78 ?_
        refine s_iload_n X rfl dX12_doerOf_79 ?_
        refine s_iconst X ⟨by decide, by decide⟩ dX12_doerOf_80 ?_
        refine s_iload X dX12_doerOf_81 ?_
        refine s_ishl X dX12_doerOf_83 ?_
        refine s_ior X dX12_doerOf_84 ?_
        refine s_iload X dX12_doerOf_85 ?_
        refine s_iconst X ⟨by decide, by decide⟩ dX12_doerOf_87 ?_
        exact s_X12_doerOf_88 X hJ
set_option maxRecDepth 100000 in
def b_X12_doerOf_11 (J : Nat → List qV → List qV → qW → Prop) (Q : qR) : qK := x_iload 6 (x_iload 1 (x_icmp_gt (x_iload 5 (x_iret Q)) (x_aload 0 (x_get 12 29 (x_iload 6 (x_iload 3 (x_iload 4 (x_callr none 3 spr_X12_cell (x_iald (x_istore 7 (x_int 8 (x_istore 5 (x_aload 0 (x_get 12 25 (x_int 1 (x_isub (x_istore 8 (x_cut [0, 1, 3, 4, 5, 6, 7, 8] (J 44)))))))))))))))))))
set_option maxRecDepth 100000 in
theorem s_X12_doerOf_11 {p : Program} {l : Launch} {e : Env} {R : Room} {s : State} {m : MethodId} {args : Array Value} {below : List Frame} {meth : Method} {c : Code} {nW : Nat} {dC : Nat → ClassId} {dI : Nat → Nat → Nat} {k : Nat → ClassId} {g : Nat → Nat} {A : Nat → Prop} {J : Nat → List qV → List qV → qW → Prop} {Q : qR} (X : q_X p R s m args meth c cX12_doerOf 10 nW 2 43 RX12 (some .int) dC dI k g A) (hJ : ∀ d : Nat, q_Sd p l e R s m args below meth c 10 nW dC dI k g A (MQ below (q_post (dC, dI) k g nW Q A) args s 0 0 A) d (x_cut (is_X12_doerOf d) (J d))) : q_Sd p l e R s m args below meth c 10 nW dC dI k g A (MQ below (q_post (dC, dI) k g nW Q A) args s 0 0 A) 11 (b_X12_doerOf_11 J Q) := by
  unfold b_X12_doerOf_11
  refine s_iload X dX12_doerOf_11 ?_
  refine s_iload_n X rfl dX12_doerOf_13 ?_
  refine s_icmp_gt X (tgt := 167) dX12_doerOf_14 (by decide) ?_ ?_
  · refine s_iload X dX12_doerOf_167 ?_
    exact s_iret X dX12_doerOf_169
  · refine s_aload_n X rfl dX12_doerOf_17 ?_
    refine s_get X (T := TX12) (C := RX12) (N := 45) tu_X12 rfl (by decide) tw_1026 dX12_doerOf_18 ?_
    refine s_iload X dX12_doerOf_21 ?_
    refine s_iload_n X rfl dX12_doerOf_23 ?_
    refine s_iload X dX12_doerOf_24 ?_
    refine s_callSr X (m_X12_cell l) tw_1268 tw_1269 tw_134 tw_1270 (by decide +kernel) ⟨by decide, by decide⟩ dX12_doerOf_26 ?_
    refine s_iald X dX12_doerOf_29 ?_
    refine s_istore X (by decide) dX12_doerOf_30 ?_
    refine s_bipush X ⟨by decide, by decide⟩ (by decide) dX12_doerOf_32 ?_
    refine s_istore X (by decide) dX12_doerOf_34 ?_
    refine s_aload_n X rfl dX12_doerOf_36 ?_
    refine s_get X (T := TX12) (C := RX12) (N := 45) tu_X12 rfl (by decide) tw_1022 dX12_doerOf_37 ?_
    refine s_iconst X ⟨by decide, by decide⟩ dX12_doerOf_40 ?_
    refine s_isub X dX12_doerOf_41 ?_
    refine s_istore X (by decide) dX12_doerOf_42 ?_
    exact hJ 44
set_option maxRecDepth 100000 in
def b_X12_doerOf_0 (J : Nat → List qV → List qV → qW → Prop) (Q : qR) : qK := x_int 0 (x_istore 3 (x_iload 2 (x_istore 4 (x_int (-1) (x_istore 5 (x_int 0 (x_istore 6 (x_cut [0, 1, 3, 4, 5, 6] (J 11)))))))))
set_option maxRecDepth 100000 in
theorem s_X12_doerOf_0 {p : Program} {l : Launch} {e : Env} {R : Room} {s : State} {m : MethodId} {args : Array Value} {below : List Frame} {meth : Method} {c : Code} {nW : Nat} {dC : Nat → ClassId} {dI : Nat → Nat → Nat} {k : Nat → ClassId} {g : Nat → Nat} {A : Nat → Prop} {J : Nat → List qV → List qV → qW → Prop} {Q : qR} (X : q_X p R s m args meth c cX12_doerOf 10 nW 2 43 RX12 (some .int) dC dI k g A) (hJ : ∀ d : Nat, q_Sd p l e R s m args below meth c 10 nW dC dI k g A (MQ below (q_post (dC, dI) k g nW Q A) args s 0 0 A) d (x_cut (is_X12_doerOf d) (J d))) : q_Sd p l e R s m args below meth c 10 nW dC dI k g A (MQ below (q_post (dC, dI) k g nW Q A) args s 0 0 A) 0 (b_X12_doerOf_0 J Q) := by
  unfold b_X12_doerOf_0
  refine s_iconst X ⟨by decide, by decide⟩ dX12_doerOf_0 ?_
  refine s_istore_n X rfl (by decide) dX12_doerOf_1 ?_
  refine s_iload_n X rfl dX12_doerOf_2 ?_
  refine s_istore X (by decide) dX12_doerOf_3 ?_
  refine s_iconst X ⟨by decide, by decide⟩ dX12_doerOf_5 ?_
  refine s_istore X (by decide) dX12_doerOf_6 ?_
  refine s_iconst X ⟨by decide, by decide⟩ dX12_doerOf_8 ?_
  refine s_istore X (by decide) dX12_doerOf_9 ?_
  exact hJ 11

def spr_X12_doerOf : List qV → qW → (Option qV → Prop) → Prop := fun av w Q => ∃ (mco : Int) (mre : Int) (mle : Int) (mbe : Int) (mso : Int) (mva : Int) (mwo : Int) (mwr : Int) (mlf : Int) (mlp : Int) (mfp : Int) (mfd : Int) (mgo : Int) (mbo : Int) (mpe : Int) (mye : Int) (mpr : Int) (mld : Int) (msi : Int) (mse : Int) (inn : Nat → Int) (bs : Nat → Int) (a : Int) (b : Int), av = [q2 0, q1 a, q1 b] ∧ w = [.inr (12, [q1 mco, q2 3, q2 4, q2 5, q2 6, q2 7, q2 2, q2 8, q2 9, q2 10, q1 mre, q1 mle, q1 mbe, q1 mso, q1 mva, q3 mwo, q1 mwr, q1 mlf, q1 mlp, q2 11, q2 12, q1 mfp, q1 mfd, q1 mgo, q1 mbo, q1 mpe, q1 mye, q2 13, q1 mpr, q2 1, q2 14, q2 15, q2 16, q1 mld, q2 17, q1 msi, q2 18, q2 19, q2 20, q2 21, q2 22, q1 mse, q2 23, q2 24, q2 25]), .inl (0, 12544, .inl inn), .inl (0, 600, .inl bs)] ∧ (0 ≤ mbo ∧ mbo ≤ 1) ∧ (0 ≤ mpe ∧ mpe ≤ 8) ∧ (BI bs) ∧ (0 ≤ a ∧ a ≤ 5 ∧ 0 ≤ b ∧ b ≤ 6) ∧ (∀ (r : Int) , Q (some (q1 r)))
def sp_X12_doerOf : qS := fun av w Q => spr_X12_doerOf av w (fun r => Q r w)
def I_X12_doerOf (mco : Int) (mre : Int) (mle : Int) (mbe : Int) (mso : Int) (mva : Int) (mwo : Int) (mwr : Int) (mlf : Int) (mlp : Int) (mfp : Int) (mfd : Int) (mgo : Int) (mbo : Int) (mpe : Int) (mye : Int) (mpr : Int) (mld : Int) (msi : Int) (mse : Int) (inn : Nat → Int) (bs : Nat → Int) (a : Int) (b : Int) : Nat → Nat → List qV → List qV → qW → Prop := fun dz mz vz sz wz => if dz = 11 then (∃ (v3 : Int) (v4 : Int) (v5 : Int) (v6 : Int), vz = [q2 0, q1 a, q1 v3, q1 v4, q1 v5, q1 v6] ∧ sz = [] ∧ wz = [.inr (12, [q1 mco, q2 3, q2 4, q2 5, q2 6, q2 7, q2 2, q2 8, q2 9, q2 10, q1 mre, q1 mle, q1 mbe, q1 mso, q1 mva, q3 mwo, q1 mwr, q1 mlf, q1 mlp, q2 11, q2 12, q1 mfp, q1 mfd, q1 mgo, q1 mbo, q1 mpe, q1 mye, q2 13, q1 mpr, q2 1, q2 14, q2 15, q2 16, q1 mld, q2 17, q1 msi, q2 18, q2 19, q2 20, q2 21, q2 22, q1 mse, q2 23, q2 24, q2 25]), .inl (0, 12544, .inl inn), .inl (0, 600, .inl bs)] ∧ mz = 100 * (6 - v6).toNat ∧ (0 ≤ v6 ∧ v6 ≤ a + 1 ∧ 0 ≤ v3 ∧ v3 ≤ 255 ∧ 0 ≤ v4 ∧ v4 ≤ 6)) else if dz = 44 then (∃ (v3 : Int) (v4 : Int) (v5 : Int) (v6 : Int) (v7 : Int) (v8 : Int), vz = [q2 0, q1 a, q1 v3, q1 v4, q1 v5, q1 v6, q1 v7, q1 v8] ∧ sz = [] ∧ wz = [.inr (12, [q1 mco, q2 3, q2 4, q2 5, q2 6, q2 7, q2 2, q2 8, q2 9, q2 10, q1 mre, q1 mle, q1 mbe, q1 mso, q1 mva, q3 mwo, q1 mwr, q1 mlf, q1 mlp, q2 11, q2 12, q1 mfp, q1 mfd, q1 mgo, q1 mbo, q1 mpe, q1 mye, q2 13, q1 mpr, q2 1, q2 14, q2 15, q2 16, q1 mld, q2 17, q1 msi, q2 18, q2 19, q2 20, q2 21, q2 22, q1 mse, q2 23, q2 24, q2 25]), .inl (0, 12544, .inl inn), .inl (0, 600, .inl bs)] ∧ mz = 100 * (6 - v6).toNat - 50 + (v8 + 1).toNat ∧ (0 ≤ v6 ∧ v6 ≤ a ∧ 0 ≤ v3 ∧ v3 ≤ 255 ∧ 0 ≤ v4 ∧ v4 ≤ 6 ∧ -1 ≤ v8 ∧ v8 ≤ 7 ∧ 0 ≤ v5 ∧ v5 ≤ 8 ∧ (v5 < 8 → 0 < v4))) else False
set_option maxHeartbeats 4000000 in
set_option maxRecDepth 100000 in
theorem m_X12_doerOf (l : Launch) : q_M l yX12_doerOf cX12_doerOf 10 (some .int) 2 43 sp_X12_doerOf := by
  refine q_meth (by decide) (fun av w Q h => by obtain ⟨mco, mre, mle, mbe, mso, mva, mwo, mwr, mlf, mlp, mfp, mfd, mgo, mbo, mpe, mye, mpr, mld, msi, mse, inn, bs, a, b, rfl, rfl, hbo, hpe, hbi, ha, hQ⟩ := h; exact Nat.le_of_ble_eq_true rfl) ?_
  intro p e R s m args below meth c dC dI k g A av w Q hsp oka okw X
  obtain ⟨mco, mre, mle, mbe, mso, mva, mwo, mwr, mlf, mlp, mfp, mfd, mgo, mbo, mpe, mye, mpr, mld, msi, mse, inn, bs, a, b, rfl, rfl, hbo, hpe, hbi, ha, hQ⟩ := hsp
  have o_a : -2147483648 ≤ a ∧ a ≤ 2147483647 := oka _ (List.mem_of_getElem? (i := 1) rfl)
  have o_b : -2147483648 ≤ b ∧ b ≤ 2147483647 := oka _ (List.mem_of_getElem? (i := 2) rfl)
  refine s_mono (s_X12_doerOf_0 X (J := fun dz vz sz wz => ∃ mz, I_X12_doerOf mco mre mle mbe mso mva mwo mwr mlf mlp mfp mfd mgo mbo mpe mye mpr mld msi mse inn bs a b dz mz vz sz wz) (q_loopn (I_X12_doerOf mco mre mle mbe mso mva mwo mwr mlf mlp mfp mfd mgo mbo mpe mye mpr mld msi mse inn bs a b) (fun dz J => if dz = 11 then b_X12_doerOf_11 J Q else if dz = 44 then b_X12_doerOf_44 J Q else q_F) ?hs ?hv)) ?_
  case hs =>
    intro d J hJ
    by_cases h11 : d = 11
    · subst h11; exact s_X12_doerOf_11 X hJ
    by_cases h44 : d = 44
    · subst h44; exact s_X12_doerOf_44 X hJ
    simp only [h11, h44, if_false]
    exact s_F
  case hv =>
    intro dz mz vz sz wz hI okv oks okw hlen
    by_cases h11 : dz = 11
    · subst h11
      obtain ⟨v3, v4, v5, v6, rfl, rfl, rfl, hn, hp⟩ := hI
      apply And.intro
      · intro h14
        exact hQ _
      · intro h14
        refine Exists.intro [] (Exists.intro [q1 _, q1 _, q1 _] (Exists.intro [] (And.intro rfl (And.intro rfl (And.intro rfl (And.intro trivial ?_))))))
        refine Exists.intro _ (Exists.intro _ (Exists.intro _ (And.intro rfl (And.intro rfl (And.intro (by first | omega | assumption | exact q_rg_up (by assumption) (by omega) | exact q_rg_up (q_rg_up (by assumption) (by omega)) (by omega) | exact q_rg_cpy (by assumption) (by assumption)) (?_))))))
        intro z26 h26
        apply And.intro
        · exact ⟨by omega, by omega⟩
        intro z29 h29
        intro z41 h41
        first | replace h41 := e_sub h41 (by omega) | replace h41 := e_rng h41
        exact ⟨_, ⟨_, _, _, _, _, _, rfl, rfl, rfl, rfl, (by first | omega | assumption | exact q_rg_up (by assumption) (by omega) | exact q_rg_up (q_rg_up (by assumption) (by omega)) (by omega) | exact q_rg_cpy (by assumption) (by assumption))⟩, by omega⟩
    by_cases h44 : dz = 44
    · subst h44
      obtain ⟨v3, v4, v5, v6, v7, v8, rfl, rfl, rfl, hn, hp⟩ := hI
      apply And.intro
      · intro h46
        apply And.intro
        · intro h131
          intro z142 h142
          first | replace h142 := e_or8 h142 (by omega) (by omega) | replace h142 := e_or9 h142 (by omega) (by omega) | replace h142 := e_rng h142
          apply And.intro
          · intro h150
            intro z158 h158
            first | replace h158 := e_sub h158 (by omega) | replace h158 := e_rng h158
            intro z161 h161
            first | replace h161 := e_add h161 (by omega) | replace h161 := e_rng h161
            exact ⟨_, ⟨_, _, _, _, rfl, rfl, rfl, rfl, (by first | omega | assumption | exact q_rg_up (by assumption) (by omega) | exact q_rg_up (q_rg_up (by assumption) (by omega)) (by omega) | exact q_rg_cpy (by assumption) (by assumption))⟩, by omega⟩
          · intro h150
            intro z158 h158
            first | replace h158 := e_sub h158 (by omega) | replace h158 := e_rng h158
            intro z161 h161
            first | replace h161 := e_add h161 (by omega) | replace h161 := e_rng h161
            exact ⟨_, ⟨_, _, _, _, rfl, rfl, rfl, rfl, (by first | omega | assumption | exact q_rg_up (by assumption) (by omega) | exact q_rg_up (q_rg_up (by assumption) (by omega)) (by omega) | exact q_rg_cpy (by assumption) (by assumption))⟩, by omega⟩
        · intro h131
          intro z137 h137
          first | replace h137 := e_shl h137 (by omega) | replace h137 := e_rng h137
          intro z142 h142
          first | replace h142 := e_or8 h142 (by omega) (by omega) | replace h142 := e_or9 h142 (by omega) (by omega) | replace h142 := e_rng h142
          apply And.intro
          · intro h150
            intro z158 h158
            first | replace h158 := e_sub h158 (by omega) | replace h158 := e_rng h158
            intro z161 h161
            first | replace h161 := e_add h161 (by omega) | replace h161 := e_rng h161
            exact ⟨_, ⟨_, _, _, _, rfl, rfl, rfl, rfl, (by first | omega | assumption | exact q_rg_up (by assumption) (by omega) | exact q_rg_up (q_rg_up (by assumption) (by omega)) (by omega) | exact q_rg_cpy (by assumption) (by assumption))⟩, by omega⟩
          · intro h150
            intro z158 h158
            first | replace h158 := e_sub h158 (by omega) | replace h158 := e_rng h158
            intro z161 h161
            first | replace h161 := e_add h161 (by omega) | replace h161 := e_rng h161
            exact ⟨_, ⟨_, _, _, _, rfl, rfl, rfl, rfl, (by first | omega | assumption | exact q_rg_up (by assumption) (by omega) | exact q_rg_up (q_rg_up (by assumption) (by omega)) (by omega) | exact q_rg_cpy (by assumption) (by assumption))⟩, by omega⟩
      · intro h46
        apply And.intro
        · intro h51
          apply And.intro
          · intro h108
            intro z120 h120
            first | replace h120 := e_add h120 (by omega) | replace h120 := e_rng h120
            exact ⟨_, ⟨_, _, _, _, _, _, rfl, rfl, rfl, rfl, (by first | omega | assumption | exact q_rg_up (by assumption) (by omega) | exact q_rg_up (q_rg_up (by assumption) (by omega)) (by omega) | exact q_rg_cpy (by assumption) (by assumption))⟩, by omega⟩
          · intro h108
            intro z120 h120
            first | replace h120 := e_add h120 (by omega) | replace h120 := e_rng h120
            exact ⟨_, ⟨_, _, _, _, _, _, rfl, rfl, rfl, rfl, (by first | omega | assumption | exact q_rg_up (by assumption) (by omega) | exact q_rg_up (q_rg_up (by assumption) (by omega)) (by omega) | exact q_rg_cpy (by assumption) (by assumption))⟩, by omega⟩
        · intro h51
          refine Exists.intro [] (Exists.intro [q1 _, q1 _] (Exists.intro [] (And.intro rfl (And.intro rfl (And.intro rfl (And.intro trivial ?_))))))
          refine Exists.intro _ (Exists.intro _ (And.intro rfl (And.intro rfl (?_))))
          intro z57 h57
          apply And.intro
          · intro h60
            apply And.intro
            · intro h108
              intro z120 h120
              first | replace h120 := e_add h120 (by omega) | replace h120 := e_rng h120
              exact ⟨_, ⟨_, _, _, _, _, _, rfl, rfl, rfl, rfl, (by first | omega | assumption | exact q_rg_up (by assumption) (by omega) | exact q_rg_up (q_rg_up (by assumption) (by omega)) (by omega) | exact q_rg_cpy (by assumption) (by assumption))⟩, by omega⟩
            · intro h108
              intro z120 h120
              first | replace h120 := e_add h120 (by omega) | replace h120 := e_rng h120
              exact ⟨_, ⟨_, _, _, _, _, _, rfl, rfl, rfl, rfl, (by first | omega | assumption | exact q_rg_up (by assumption) (by omega) | exact q_rg_up (q_rg_up (by assumption) (by omega)) (by omega) | exact q_rg_cpy (by assumption) (by assumption))⟩, by omega⟩
          · intro h60
            refine Exists.intro [0, 2, 3, 4, 5, 6, 7, 8, 9, 10, 11, 12, 13, 1, 14, 15, 16, 17, 18, 19, 20, 21, 22, 23, 24, 25] (Exists.intro [q2 0, q1 _, q1 _] (Exists.intro ([.inr (12, [q1 _, q2 2, q2 3, q2 4, q2 5, q2 6, q2 1, q2 7, q2 8, q2 9, q1 _, q1 _, q1 _, q1 _, q1 _, q3 _, q1 _, q1 _, q1 _, q2 10, q2 11, q1 _, q1 _, q1 _, q1 _, q1 _, q1 _, q2 12, q1 _, q2 13, q2 14, q2 15, q2 16, q1 _, q2 17, q1 _, q2 18, q2 19, q2 20, q2 21, q2 22, q1 _, q2 23, q2 24, q2 25]), .inl (0, 600, .inl _)]) (And.intro rfl (And.intro rfl (And.intro rfl (And.intro ⟨⟨_, rfl⟩, rfl⟩ ?_))))))
            refine Exists.intro _ (Exists.intro _ (Exists.intro _ (Exists.intro _ (Exists.intro _ (Exists.intro _ (Exists.intro _ (Exists.intro _ (Exists.intro _ (Exists.intro _ (Exists.intro _ (Exists.intro _ (Exists.intro _ (Exists.intro _ (Exists.intro _ (Exists.intro _ (Exists.intro _ (Exists.intro _ (Exists.intro _ (Exists.intro _ (Exists.intro _ (Exists.intro _ (Exists.intro _ (And.intro rfl (And.intro rfl (And.intro (by first | omega | assumption | exact q_rg_up (by assumption) (by omega) | exact q_rg_up (q_rg_up (by assumption) (by omega)) (by omega) | exact q_rg_cpy (by assumption) (by assumption)) (And.intro (by first | omega | assumption | exact q_rg_up (by assumption) (by omega) | exact q_rg_up (q_rg_up (by assumption) (by omega)) (by omega) | exact q_rg_cpy (by assumption) (by assumption)) (And.intro (by first | omega | assumption | exact q_rg_up (by assumption) (by omega) | exact q_rg_up (q_rg_up (by assumption) (by omega)) (by omega) | exact q_rg_cpy (by assumption) (by assumption)) (?_))))))))))))))))))))))))))))
            intro z68
            intro z78 h78
            first | replace h78 := e_add h78 (by omega) | replace h78 := e_rng h78
            intro z83 h83
            first | replace h83 := e_shl h83 (by omega) | replace h83 := e_rng h83
            intro z84 h84
            first | replace h84 := e_or8 h84 (by omega) (by omega) | replace h84 := e_or9 h84 (by omega) (by omega) | replace h84 := e_rng h84
            intro z88 h88
            first | replace h88 := e_sub h88 (by omega) | replace h88 := e_rng h88
            refine Exists.intro [] (Exists.intro [q1 _, q1 _, q1 _] (Exists.intro [] (And.intro rfl (And.intro rfl (And.intro rfl (And.intro trivial ?_))))))
            refine Exists.intro _ (Exists.intro _ (Exists.intro _ (And.intro rfl (And.intro rfl (And.intro (by first | omega | assumption | exact q_rg_up (by assumption) (by omega) | exact q_rg_up (q_rg_up (by assumption) (by omega)) (by omega) | exact q_rg_cpy (by assumption) (by assumption)) (?_))))))
            intro z89 h89
            apply And.intro
            · exact ⟨by omega, by omega⟩
            intro z92 h92
            intro z93 h93
            first | replace h93 := e_add h93 (by omega) | replace h93 := e_rng h93
            apply And.intro
            · intro h96
              apply And.intro
              · intro h108
                intro z120 h120
                first | replace h120 := e_add h120 (by omega) | replace h120 := e_rng h120
                exact ⟨_, ⟨_, _, _, _, _, _, rfl, rfl, rfl, rfl, (by first | omega | assumption | exact q_rg_up (by assumption) (by omega) | exact q_rg_up (q_rg_up (by assumption) (by omega)) (by omega) | exact q_rg_cpy (by assumption) (by assumption))⟩, by omega⟩
              · intro h108
                intro z120 h120
                first | replace h120 := e_add h120 (by omega) | replace h120 := e_rng h120
                exact ⟨_, ⟨_, _, _, _, _, _, rfl, rfl, rfl, rfl, (by first | omega | assumption | exact q_rg_up (by assumption) (by omega) | exact q_rg_up (q_rg_up (by assumption) (by omega)) (by omega) | exact q_rg_cpy (by assumption) (by assumption))⟩, by omega⟩
            · intro h96
              apply And.intro
              · intro h108
                intro z120 h120
                first | replace h120 := e_add h120 (by omega) | replace h120 := e_rng h120
                exact ⟨_, ⟨_, _, _, _, _, _, rfl, rfl, rfl, rfl, (by first | omega | assumption | exact q_rg_up (by assumption) (by omega) | exact q_rg_up (q_rg_up (by assumption) (by omega)) (by omega) | exact q_rg_cpy (by assumption) (by assumption))⟩, by omega⟩
              · intro h108
                intro z120 h120
                first | replace h120 := e_add h120 (by omega) | replace h120 := e_rng h120
                exact ⟨_, ⟨_, _, _, _, _, _, rfl, rfl, rfl, rfl, (by first | omega | assumption | exact q_rg_up (by assumption) (by omega) | exact q_rg_up (q_rg_up (by assumption) (by omega)) (by omega) | exact q_rg_cpy (by assumption) (by assumption))⟩, by omega⟩
    simp only [I_X12_doerOf, h11, h44, if_false] at hI
  rintro lv st w' ⟨rfl, rfl, rfl⟩
  exact ⟨_, _, _, _, _, rfl, rfl, rfl, rfl, (by first | omega | assumption | exact q_rg_up (by assumption) (by omega) | exact q_rg_up (q_rg_up (by assumption) (by omega)) (by omega) | exact q_rg_cpy (by assumption) (by assumption))⟩

theorem dX12_reached_0 : decode cX12_reached 0 = .ok (.aload_n 0, 1) := by decide +kernel
theorem dX12_reached_1 : decode cX12_reached 1 = .ok (.iconst 0, 1) := by decide +kernel
theorem dX12_reached_2 : decode cX12_reached 2 = .ok (.putfield 88, 3) := by decide +kernel
theorem dX12_reached_5 : decode cX12_reached 5 = .ok (.iload_n 2, 1) := by decide +kernel
theorem dX12_reached_6 : decode cX12_reached 6 = .ok (.iconst 0, 1) := by decide +kernel
theorem dX12_reached_7 : decode cX12_reached 7 = .ok (.bipush 99, 2) := by decide +kernel
theorem dX12_reached_9 : decode cX12_reached 9 = .ok (.invokestatic 100, 3) := by decide +kernel
theorem dX12_reached_12 : decode cX12_reached 12 = .ok (.ifCond .eq 36, 3) := by decide +kernel
theorem dX12_reached_15 : decode cX12_reached 15 = .ok (.aload_n 0, 1) := by decide +kernel
theorem dX12_reached_16 : decode cX12_reached 16 = .ok (.iload_n 1, 1) := by decide +kernel
theorem dX12_reached_17 : decode cX12_reached 17 = .ok (.invokevirtual 306, 3) := by decide +kernel
theorem dX12_reached_20 : decode cX12_reached 20 = .ok (.ifCond .eq 28, 3) := by decide +kernel
theorem dX12_reached_23 : decode cX12_reached 23 = .ok (.iload_n 3, 1) := by decide +kernel
theorem dX12_reached_24 : decode cX12_reached 24 = .ok (.iconst 0, 1) := by decide +kernel
theorem dX12_reached_25 : decode cX12_reached 25 = .ok (.iconst 1, 1) := by decide +kernel
theorem dX12_reached_26 : decode cX12_reached 26 = .ok (.invokestatic 100, 3) := by decide +kernel
theorem dX12_reached_29 : decode cX12_reached 29 = .ok (.ifCond .ne 21, 3) := by decide +kernel
theorem dX12_reached_32 : decode cX12_reached 32 = .ok (.iload_n 3, 1) := by decide +kernel
theorem dX12_reached_33 : decode cX12_reached 33 = .ok (.bipush 10, 2) := by decide +kernel
theorem dX12_reached_35 : decode cX12_reached 35 = .ok (.bipush 9, 2) := by decide +kernel
theorem dX12_reached_37 : decode cX12_reached 37 = .ok (.aload_n 0, 1) := by decide +kernel
theorem dX12_reached_38 : decode cX12_reached 38 = .ok (.invokevirtual 373, 3) := by decide +kernel
theorem dX12_reached_41 : decode cX12_reached 41 = .ok (.iadd, 1) := by decide +kernel
theorem dX12_reached_42 : decode cX12_reached 42 = .ok (.invokestatic 100, 3) := by decide +kernel
theorem dX12_reached_45 : decode cX12_reached 45 = .ok (.ifCond .ne 5, 3) := by decide +kernel
theorem dX12_reached_48 : decode cX12_reached 48 = .ok (.iconst (-1), 1) := by decide +kernel
theorem dX12_reached_49 : decode cX12_reached 49 = .ok (.ireturn, 1) := by decide +kernel
theorem dX12_reached_50 : decode cX12_reached 50 = .ok (.aload_n 0, 1) := by decide +kernel
theorem dX12_reached_51 : decode cX12_reached 51 = .ok (.invokevirtual 380, 3) := by decide +kernel
theorem dX12_reached_54 : decode cX12_reached 54 = .ok (.bipush 6, 2) := by decide +kernel
theorem dX12_reached_56 : decode cX12_reached 56 = .ok (.istore 4, 2) := by decide +kernel
theorem dX12_reached_58 : decode cX12_reached 58 = .ok (.aload_n 0, 1) := by decide +kernel
theorem dX12_reached_59 : decode cX12_reached 59 = .ok (.getfield 47, 3) := by decide +kernel
theorem dX12_reached_62 : decode cX12_reached 62 = .ok (.iconst 0, 1) := by decide +kernel
theorem dX12_reached_63 : decode cX12_reached 63 = .ok (.iconst 0, 1) := by decide +kernel
theorem dX12_reached_64 : decode cX12_reached 64 = .ok (.iload 4, 2) := by decide +kernel
theorem dX12_reached_66 : decode cX12_reached 66 = .ok (.invokestatic 366, 3) := by decide +kernel
theorem dX12_reached_69 : decode cX12_reached 69 = .ok (.iaload, 1) := by decide +kernel
theorem dX12_reached_70 : decode cX12_reached 70 = .ok (.iload_n 2, 1) := by decide +kernel
theorem dX12_reached_71 : decode cX12_reached 71 = .ok (.if_icmp .le 9, 3) := by decide +kernel
theorem dX12_reached_74 : decode cX12_reached 74 = .ok (.iinc 4 (-1), 3) := by decide +kernel
theorem dX12_reached_77 : decode cX12_reached 77 = .ok (.goto (-19), 3) := by decide +kernel
theorem dX12_reached_80 : decode cX12_reached 80 = .ok (.iload_n 3, 1) := by decide +kernel
theorem dX12_reached_81 : decode cX12_reached 81 = .ok (.ifCond .ne 8, 3) := by decide +kernel
theorem dX12_reached_84 : decode cX12_reached 84 = .ok (.iload 4, 2) := by decide +kernel
theorem dX12_reached_86 : decode cX12_reached 86 = .ok (.goto 33, 3) := by decide +kernel
theorem dX12_reached_89 : decode cX12_reached 89 = .ok (.iload_n 3, 1) := by decide +kernel
theorem dX12_reached_90 : decode cX12_reached 90 = .ok (.iconst 1, 1) := by decide +kernel
theorem dX12_reached_91 : decode cX12_reached 91 = .ok (.if_icmp .ne 18, 3) := by decide +kernel
theorem dX12_reached_94 : decode cX12_reached 94 = .ok (.aload_n 0, 1) := by decide +kernel
theorem dX12_reached_95 : decode cX12_reached 95 = .ok (.getfield 47, 3) := by decide +kernel
theorem dX12_reached_98 : decode cX12_reached 98 = .ok (.iconst 0, 1) := by decide +kernel
theorem dX12_reached_99 : decode cX12_reached 99 = .ok (.iconst 0, 1) := by decide +kernel
theorem dX12_reached_100 : decode cX12_reached 100 = .ok (.iload 4, 2) := by decide +kernel
theorem dX12_reached_102 : decode cX12_reached 102 = .ok (.invokestatic 366, 3) := by decide +kernel
theorem dX12_reached_105 : decode cX12_reached 105 = .ok (.iaload, 1) := by decide +kernel
theorem dX12_reached_106 : decode cX12_reached 106 = .ok (.goto 13, 3) := by decide +kernel
theorem dX12_reached_109 : decode cX12_reached 109 = .ok (.aload_n 0, 1) := by decide +kernel
theorem dX12_reached_110 : decode cX12_reached 110 = .ok (.iload_n 3, 1) := by decide +kernel
theorem dX12_reached_111 : decode cX12_reached 111 = .ok (.bipush 10, 2) := by decide +kernel
theorem dX12_reached_113 : decode cX12_reached 113 = .ok (.isub, 1) := by decide +kernel
theorem dX12_reached_114 : decode cX12_reached 114 = .ok (.iload 4, 2) := by decide +kernel
theorem dX12_reached_116 : decode cX12_reached 116 = .ok (.invokevirtual 383, 3) := by decide +kernel
theorem dX12_reached_119 : decode cX12_reached 119 = .ok (.ireturn, 1) := by decide +kernel
def is_X12_reached : Nat → List Nat := fun d => if d = 58 then [0, 2, 3, 4] else []
set_option maxRecDepth 100000 in
def b_X12_reached_119 (J : Nat → List qV → List qV → qW → Prop) (Q : qR) : qK := x_iret Q
set_option maxRecDepth 100000 in
theorem s_X12_reached_119 {p : Program} {l : Launch} {e : Env} {R : Room} {s : State} {m : MethodId} {args : Array Value} {below : List Frame} {meth : Method} {c : Code} {nW : Nat} {dC : Nat → ClassId} {dI : Nat → Nat → Nat} {k : Nat → ClassId} {g : Nat → Nat} {A : Nat → Prop} {J : Nat → List qV → List qV → qW → Prop} {Q : qR} (X : q_X p R s m args meth c cX12_reached 5 nW 4 91 RX12 (some .int) dC dI k g A) (hJ : ∀ d : Nat, q_Sd p l e R s m args below meth c 5 nW dC dI k g A (MQ below (q_post (dC, dI) k g nW Q A) args s 0 0 A) d (x_cut (is_X12_reached d) (J d))) : q_Sd p l e R s m args below meth c 5 nW dC dI k g A (MQ below (q_post (dC, dI) k g nW Q A) args s 0 0 A) 119 (b_X12_reached_119 J Q) := by
  unfold b_X12_reached_119
  exact s_iret X dX12_reached_119
set_option maxRecDepth 100000 in
def b_X12_reached_105 (J : Nat → List qV → List qV → qW → Prop) (Q : qR) : qK := x_iald (b_X12_reached_119 J Q)
set_option maxRecDepth 100000 in
theorem s_X12_reached_105 {p : Program} {l : Launch} {e : Env} {R : Room} {s : State} {m : MethodId} {args : Array Value} {below : List Frame} {meth : Method} {c : Code} {nW : Nat} {dC : Nat → ClassId} {dI : Nat → Nat → Nat} {k : Nat → ClassId} {g : Nat → Nat} {A : Nat → Prop} {J : Nat → List qV → List qV → qW → Prop} {Q : qR} (X : q_X p R s m args meth c cX12_reached 5 nW 4 91 RX12 (some .int) dC dI k g A) (hJ : ∀ d : Nat, q_Sd p l e R s m args below meth c 5 nW dC dI k g A (MQ below (q_post (dC, dI) k g nW Q A) args s 0 0 A) d (x_cut (is_X12_reached d) (J d))) : q_Sd p l e R s m args below meth c 5 nW dC dI k g A (MQ below (q_post (dC, dI) k g nW Q A) args s 0 0 A) 105 (b_X12_reached_105 J Q) := by
  unfold b_X12_reached_105
  refine s_iald X dX12_reached_105 ?_
  refine s_goto X (tgt := 119) dX12_reached_106 (by decide) ?_
  exact s_X12_reached_119 X hJ
set_option maxRecDepth 100000 in
def b_X12_reached_58 (J : Nat → List qV → List qV → qW → Prop) (Q : qR) : qK := x_aload 0 (x_get 12 29 (x_int 0 (x_int 0 (x_iload 4 (x_callr none 3 spr_X12_cell (x_iald (x_iload 2 (x_icmp_le (x_iload 3 (x_if_ne (x_iload 3 (x_int 1 (x_icmp_ne (x_aload 0 (x_iload 3 (x_int 10 (x_isub (x_iload 4 (x_callr (some 12) 3 spr_X12_doerOf (b_X12_reached_119 J Q))))))) (x_aload 0 (x_get 12 29 (x_int 0 (x_int 0 (x_iload 4 (x_callr none 3 spr_X12_cell (b_X12_reached_105 J Q)))))))))) (x_iload 4 (b_X12_reached_119 J Q)))) (x_iinc 4 (-1) (x_cut [0, 2, 3, 4] (J 58)))))))))))
set_option maxRecDepth 100000 in
theorem s_X12_reached_58 {p : Program} {l : Launch} {e : Env} {R : Room} {s : State} {m : MethodId} {args : Array Value} {below : List Frame} {meth : Method} {c : Code} {nW : Nat} {dC : Nat → ClassId} {dI : Nat → Nat → Nat} {k : Nat → ClassId} {g : Nat → Nat} {A : Nat → Prop} {J : Nat → List qV → List qV → qW → Prop} {Q : qR} (X : q_X p R s m args meth c cX12_reached 5 nW 4 91 RX12 (some .int) dC dI k g A) (hJ : ∀ d : Nat, q_Sd p l e R s m args below meth c 5 nW dC dI k g A (MQ below (q_post (dC, dI) k g nW Q A) args s 0 0 A) d (x_cut (is_X12_reached d) (J d))) : q_Sd p l e R s m args below meth c 5 nW dC dI k g A (MQ below (q_post (dC, dI) k g nW Q A) args s 0 0 A) 58 (b_X12_reached_58 J Q) := by
  unfold b_X12_reached_58
  refine s_aload_n X rfl dX12_reached_58 ?_
  refine s_get X (T := TX12) (C := RX12) (N := 45) tu_X12 rfl (by decide) tw_1026 dX12_reached_59 ?_
  refine s_iconst X ⟨by decide, by decide⟩ dX12_reached_62 ?_
  refine s_iconst X ⟨by decide, by decide⟩ dX12_reached_63 ?_
  refine s_iload X dX12_reached_64 ?_
  refine s_callSr X (m_X12_cell l) tw_1268 tw_1269 tw_134 tw_1270 (by decide +kernel) ⟨by decide, by decide⟩ dX12_reached_66 ?_
  refine s_iald X dX12_reached_69 ?_
  refine s_iload_n X rfl dX12_reached_70 ?_
  refine s_icmp_le X (tgt := 80) dX12_reached_71 (by decide) ?_ ?_
  · refine s_iload_n X rfl dX12_reached_80 ?_
    refine s_if_ne X (tgt := 89) dX12_reached_81 (by decide) ?_ ?_
    · refine s_iload_n X rfl dX12_reached_89 ?_
      refine s_iconst X ⟨by decide, by decide⟩ dX12_reached_90 ?_
      refine s_icmp_ne X (tgt := 109) dX12_reached_91 (by decide) ?_ ?_
      · refine s_aload_n X rfl dX12_reached_109 ?_
        refine s_iload_n X rfl dX12_reached_110 ?_
        refine s_bipush X ⟨by decide, by decide⟩ (by decide) dX12_reached_111 ?_
        refine s_isub X dX12_reached_113 ?_
        refine s_iload X dX12_reached_114 ?_
        refine s_callVr X (m_X12_doerOf l) tw_1278 tw_1279 tw_1560 tw_134 tw_1280 rfl (by decide +kernel) ⟨by decide, by decide⟩ dX12_reached_116 ?_
        exact s_X12_reached_119 X hJ
      · refine s_aload_n X rfl dX12_reached_94 ?_
        refine s_get X (T := TX12) (C := RX12) (N := 45) tu_X12 rfl (by decide) tw_1026 dX12_reached_95 ?_
        refine s_iconst X ⟨by decide, by decide⟩ dX12_reached_98 ?_
        refine s_iconst X ⟨by decide, by decide⟩ dX12_reached_99 ?_
        refine s_iload X dX12_reached_100 ?_
        refine s_callSr X (m_X12_cell l) tw_1268 tw_1269 tw_134 tw_1270 (by decide +kernel) ⟨by decide, by decide⟩ dX12_reached_102 ?_
        exact s_X12_reached_105 X hJ
    · refine s_iload X dX12_reached_84 ?_
      refine s_goto X (tgt := 119) dX12_reached_86 (by decide) ?_
      exact s_X12_reached_119 X hJ
  · refine s_iinc X (by decide) dX12_reached_74 ?_
    refine s_goto X (tgt := 58) dX12_reached_77 (by decide) ?_
    exact hJ 58
set_option maxRecDepth 100000 in
def b_X12_reached_50 (J : Nat → List qV → List qV → qW → Prop) (Q : qR) : qK := x_aload 0 (x_call (some 12) 1 sp_X12_findWorks (x_nw (x_int 6 (x_istore 4 (x_cut [0, 2, 3, 4] (J 58))))))
set_option maxRecDepth 100000 in
theorem s_X12_reached_50 {p : Program} {l : Launch} {e : Env} {R : Room} {s : State} {m : MethodId} {args : Array Value} {below : List Frame} {meth : Method} {c : Code} {nW : Nat} {dC : Nat → ClassId} {dI : Nat → Nat → Nat} {k : Nat → ClassId} {g : Nat → Nat} {A : Nat → Prop} {J : Nat → List qV → List qV → qW → Prop} {Q : qR} (X : q_X p R s m args meth c cX12_reached 5 nW 4 91 RX12 (some .int) dC dI k g A) (hJ : ∀ d : Nat, q_Sd p l e R s m args below meth c 5 nW dC dI k g A (MQ below (q_post (dC, dI) k g nW Q A) args s 0 0 A) d (x_cut (is_X12_reached d) (J d))) : q_Sd p l e R s m args below meth c 5 nW dC dI k g A (MQ below (q_post (dC, dI) k g nW Q A) args s 0 0 A) 50 (b_X12_reached_50 J Q) := by
  unfold b_X12_reached_50
  refine s_aload_n X rfl dX12_reached_50 ?_
  refine s_callV X (m_X12_findWorks l) tw_1265 tw_1266 tw_1575 tw_134 tw_1267 rfl (by decide +kernel) ⟨by decide, by decide⟩ dX12_reached_51 ?_
  refine s_nw ?_
  refine s_bipush X ⟨by decide, by decide⟩ (by decide) dX12_reached_54 ?_
  refine s_istore X (by decide) dX12_reached_56 ?_
  exact hJ 58
set_option maxRecDepth 100000 in
def b_X12_reached_48 (J : Nat → List qV → List qV → qW → Prop) (Q : qR) : qK := x_int (-1) (x_iret Q)
set_option maxRecDepth 100000 in
theorem s_X12_reached_48 {p : Program} {l : Launch} {e : Env} {R : Room} {s : State} {m : MethodId} {args : Array Value} {below : List Frame} {meth : Method} {c : Code} {nW : Nat} {dC : Nat → ClassId} {dI : Nat → Nat → Nat} {k : Nat → ClassId} {g : Nat → Nat} {A : Nat → Prop} {J : Nat → List qV → List qV → qW → Prop} {Q : qR} (X : q_X p R s m args meth c cX12_reached 5 nW 4 91 RX12 (some .int) dC dI k g A) (hJ : ∀ d : Nat, q_Sd p l e R s m args below meth c 5 nW dC dI k g A (MQ below (q_post (dC, dI) k g nW Q A) args s 0 0 A) d (x_cut (is_X12_reached d) (J d))) : q_Sd p l e R s m args below meth c 5 nW dC dI k g A (MQ below (q_post (dC, dI) k g nW Q A) args s 0 0 A) 48 (b_X12_reached_48 J Q) := by
  unfold b_X12_reached_48
  refine s_iconst X ⟨by decide, by decide⟩ dX12_reached_48 ?_
  exact s_iret X dX12_reached_49
set_option maxRecDepth 100000 in
def b_X12_reached_45 (J : Nat → List qV → List qV → qW → Prop) (Q : qR) : qK := x_if_ne (b_X12_reached_50 J Q) (b_X12_reached_48 J Q)
set_option maxRecDepth 100000 in
theorem s_X12_reached_45 {p : Program} {l : Launch} {e : Env} {R : Room} {s : State} {m : MethodId} {args : Array Value} {below : List Frame} {meth : Method} {c : Code} {nW : Nat} {dC : Nat → ClassId} {dI : Nat → Nat → Nat} {k : Nat → ClassId} {g : Nat → Nat} {A : Nat → Prop} {J : Nat → List qV → List qV → qW → Prop} {Q : qR} (X : q_X p R s m args meth c cX12_reached 5 nW 4 91 RX12 (some .int) dC dI k g A) (hJ : ∀ d : Nat, q_Sd p l e R s m args below meth c 5 nW dC dI k g A (MQ below (q_post (dC, dI) k g nW Q A) args s 0 0 A) d (x_cut (is_X12_reached d) (J d))) : q_Sd p l e R s m args below meth c 5 nW dC dI k g A (MQ below (q_post (dC, dI) k g nW Q A) args s 0 0 A) 45 (b_X12_reached_45 J Q) := by
  unfold b_X12_reached_45
  refine s_if_ne X (tgt := 50) dX12_reached_45 (by decide) ?_ ?_
  · exact s_X12_reached_50 X hJ
  · exact s_X12_reached_48 X hJ
set_option maxRecDepth 100000 in
def b_X12_reached_0 (J : Nat → List qV → List qV → qW → Prop) (Q : qR) : qK := x_aload 0 (x_int 0 (x_put 12 0 q_oki (x_nw (x_iload 2 (x_int 0 (x_int 99 (x_callr none 3 spr_X12_in (x_if_eq (b_X12_reached_48 J Q) (x_aload 0 (x_iload 1 (x_call (some 12) 2 sp_X12_hand (x_nw (x_if_eq (b_X12_reached_48 J Q) (x_iload 3 (x_int 0 (x_int 1 (x_callr none 3 spr_X12_in (x_if_ne (b_X12_reached_50 J Q) (x_iload 3 (x_int 10 (x_int 9 (x_aload 0 (x_callr (some 12) 1 spr_X12_works (x_iadd (x_callr none 3 spr_X12_in (b_X12_reached_45 J Q))))))))))))))))))))))))))
set_option maxRecDepth 100000 in
theorem s_X12_reached_0 {p : Program} {l : Launch} {e : Env} {R : Room} {s : State} {m : MethodId} {args : Array Value} {below : List Frame} {meth : Method} {c : Code} {nW : Nat} {dC : Nat → ClassId} {dI : Nat → Nat → Nat} {k : Nat → ClassId} {g : Nat → Nat} {A : Nat → Prop} {J : Nat → List qV → List qV → qW → Prop} {Q : qR} (X : q_X p R s m args meth c cX12_reached 5 nW 4 91 RX12 (some .int) dC dI k g A) (hJ : ∀ d : Nat, q_Sd p l e R s m args below meth c 5 nW dC dI k g A (MQ below (q_post (dC, dI) k g nW Q A) args s 0 0 A) d (x_cut (is_X12_reached d) (J d))) : q_Sd p l e R s m args below meth c 5 nW dC dI k g A (MQ below (q_post (dC, dI) k g nW Q A) args s 0 0 A) 0 (b_X12_reached_0 J Q) := by
  unfold b_X12_reached_0
  refine s_aload_n X rfl dX12_reached_0 ?_
  refine s_iconst X ⟨by decide, by decide⟩ dX12_reached_1 ?_
  refine s_put X (T := TX12) (C := RX12) (N := 45) tu_X12 tyX12_ok nmX12 rfl (by decide) tw_997 rfl (by decide +kernel) q_oki_t dX12_reached_2 ?_
  refine s_nw ?_
  refine s_iload_n X rfl dX12_reached_5 ?_
  refine s_iconst X ⟨by decide, by decide⟩ dX12_reached_6 ?_
  refine s_bipush X ⟨by decide, by decide⟩ (by decide) dX12_reached_7 ?_
  refine s_callSr X (m_X12_in l) tw_1054 tw_1055 tw_134 tw_1056 (by decide +kernel) ⟨by decide, by decide⟩ dX12_reached_9 ?_
  refine s_if_eq X (tgt := 48) dX12_reached_12 (by decide) ?_ ?_
  · exact s_X12_reached_48 X hJ
  · refine s_aload_n X rfl dX12_reached_15 ?_
    refine s_iload_n X rfl dX12_reached_16 ?_
    refine s_callV X (m_X12_hand l) tw_1186 tw_1187 tw_1585 tw_134 tw_1188 rfl (by decide +kernel) ⟨by decide, by decide⟩ dX12_reached_17 ?_
    refine s_nw ?_
    refine s_if_eq X (tgt := 48) dX12_reached_20 (by decide) ?_ ?_
    · exact s_X12_reached_48 X hJ
    · refine s_iload_n X rfl dX12_reached_23 ?_
      refine s_iconst X ⟨by decide, by decide⟩ dX12_reached_24 ?_
      refine s_iconst X ⟨by decide, by decide⟩ dX12_reached_25 ?_
      refine s_callSr X (m_X12_in l) tw_1054 tw_1055 tw_134 tw_1056 (by decide +kernel) ⟨by decide, by decide⟩ dX12_reached_26 ?_
      refine s_if_ne X (tgt := 50) dX12_reached_29 (by decide) ?_ ?_
      · exact s_X12_reached_50 X hJ
      · refine s_iload_n X rfl dX12_reached_32 ?_
        refine s_bipush X ⟨by decide, by decide⟩ (by decide) dX12_reached_33 ?_
        refine s_bipush X ⟨by decide, by decide⟩ (by decide) dX12_reached_35 ?_
        refine s_aload_n X rfl dX12_reached_37 ?_
        refine s_callVr X (m_X12_works l) tw_1262 tw_1263 tw_1631 tw_134 tw_1264 rfl (by decide +kernel) ⟨by decide, by decide⟩ dX12_reached_38 ?_
        refine s_iadd X dX12_reached_41 ?_
        refine s_callSr X (m_X12_in l) tw_1054 tw_1055 tw_134 tw_1056 (by decide +kernel) ⟨by decide, by decide⟩ dX12_reached_42 ?_
        exact s_X12_reached_45 X hJ

def sp_X12_reached : qS := fun av w Q => ∃ (mco : Int) (mre : Int) (mle : Int) (mbe : Int) (mso : Int) (mva : Int) (mwo : Int) (mwr : Int) (mlf : Int) (mlp : Int) (mfp : Int) (mfd : Int) (mgo : Int) (mbo : Int) (mpe : Int) (mye : Int) (mpr : Int) (mld : Int) (msi : Int) (mse : Int) (mn : Nat → Int) (bs : Nat → Int) (inn : Nat → Int) (a : Int) (b : Int) (cc : Int), av = [q2 0, q1 a, q1 b, q1 cc] ∧ w = [.inr (12, [q1 mco, q2 4, q2 5, q2 6, q2 7, q2 1, q2 2, q2 8, q2 9, q2 10, q1 mre, q1 mle, q1 mbe, q1 mso, q1 mva, q3 mwo, q1 mwr, q1 mlf, q1 mlp, q2 11, q2 12, q1 mfp, q1 mfd, q1 mgo, q1 mbo, q1 mpe, q1 mye, q2 13, q1 mpr, q2 3, q2 14, q2 15, q2 16, q1 mld, q2 17, q1 msi, q2 18, q2 19, q2 20, q2 21, q2 22, q1 mse, q2 23, q2 24, q2 25]), .inl (0, 16, .inl mn), .inl (0, 600, .inl bs), .inl (0, 12544, .inl inn)] ∧ (q_rg 0 2 mn) ∧ (BI bs) ∧ (∀ (r : Int) (x_mco : Int) (x_mbo : Int) (x_mpe : Int) (x_inn : Nat → Int), Q (some (q1 r)) ([.inr (12, [q1 x_mco, q2 4, q2 5, q2 6, q2 7, q2 1, q2 2, q2 8, q2 9, q2 10, q1 mre, q1 mle, q1 mbe, q1 mso, q1 mva, q3 mwo, q1 mwr, q1 mlf, q1 mlp, q2 11, q2 12, q1 mfp, q1 mfd, q1 mgo, q1 x_mbo, q1 x_mpe, q1 mye, q2 13, q1 mpr, q2 3, q2 14, q2 15, q2 16, q1 mld, q2 17, q1 msi, q2 18, q2 19, q2 20, q2 21, q2 22, q1 mse, q2 23, q2 24, q2 25]), .inl (0, 16, .inl mn), .inl (0, 600, .inl bs), .inl (0, 12544, .inl x_inn)]))
def I_X12_reached (mco : Int) (mre : Int) (mle : Int) (mbe : Int) (mso : Int) (mva : Int) (mwo : Int) (mwr : Int) (mlf : Int) (mlp : Int) (mfp : Int) (mfd : Int) (mgo : Int) (mbo : Int) (mpe : Int) (mye : Int) (mpr : Int) (mld : Int) (msi : Int) (mse : Int) (mn : Nat → Int) (bs : Nat → Int) (inn : Nat → Int) (a : Int) (b : Int) (cc : Int) : Nat → Nat → List qV → List qV → qW → Prop := fun dz mz vz sz wz => if dz = 58 then (∃ (y_mco : Int) (y_mbo : Int) (y_mpe : Int) (y_inn : Nat → Int) (v4 : Int), vz = [q2 0, q1 b, q1 cc, q1 v4] ∧ sz = [] ∧ wz = [.inr (12, [q1 y_mco, q2 4, q2 5, q2 6, q2 7, q2 1, q2 2, q2 8, q2 9, q2 10, q1 mre, q1 mle, q1 mbe, q1 mso, q1 mva, q3 mwo, q1 mwr, q1 mlf, q1 mlp, q2 11, q2 12, q1 mfp, q1 mfd, q1 mgo, q1 y_mbo, q1 y_mpe, q1 mye, q2 13, q1 mpr, q2 3, q2 14, q2 15, q2 16, q1 mld, q2 17, q1 msi, q2 18, q2 19, q2 20, q2 21, q2 22, q1 mse, q2 23, q2 24, q2 25]), .inl (0, 16, .inl mn), .inl (0, 600, .inl bs), .inl (0, 12544, .inl y_inn)] ∧ mz = v4.toNat ∧ (0 ≤ y_mbo ∧ y_mbo ≤ 1 ∧ 0 ≤ y_mpe ∧ y_mpe ≤ 8) ∧ (y_inn 0 = 0) ∧ (0 ≤ v4 ∧ v4 ≤ 6 ∧ 0 ≤ b ∧ b ≤ 99 ∧ (cc = 0 ∨ cc = 1 ∨ 10 ≤ cc ∧ cc ≤ 15))) else False
set_option maxHeartbeats 4000000 in
set_option maxRecDepth 100000 in
theorem m_X12_reached (l : Launch) : q_M l yX12_reached cX12_reached 5 (some .int) 4 91 sp_X12_reached := by
  refine q_meth (by decide) (fun av w Q h => by obtain ⟨mco, mre, mle, mbe, mso, mva, mwo, mwr, mlf, mlp, mfp, mfd, mgo, mbo, mpe, mye, mpr, mld, msi, mse, mn, bs, inn, a, b, cc, rfl, rfl, hmn, hbi, hQ⟩ := h; exact Nat.le_of_ble_eq_true rfl) ?_
  intro p e R s m args below meth c dC dI k g A av w Q hsp oka okw X
  obtain ⟨mco, mre, mle, mbe, mso, mva, mwo, mwr, mlf, mlp, mfp, mfd, mgo, mbo, mpe, mye, mpr, mld, msi, mse, mn, bs, inn, a, b, cc, rfl, rfl, hmn, hbi, hQ⟩ := hsp
  have o_a : -2147483648 ≤ a ∧ a ≤ 2147483647 := oka _ (List.mem_of_getElem? (i := 1) rfl)
  have o_b : -2147483648 ≤ b ∧ b ≤ 2147483647 := oka _ (List.mem_of_getElem? (i := 2) rfl)
  have o_cc : -2147483648 ≤ cc ∧ cc ≤ 2147483647 := oka _ (List.mem_of_getElem? (i := 3) rfl)
  refine s_mono (s_X12_reached_0 X (J := fun dz vz sz wz => ∃ mz, I_X12_reached mco mre mle mbe mso mva mwo mwr mlf mlp mfp mfd mgo mbo mpe mye mpr mld msi mse mn bs inn a b cc dz mz vz sz wz) (q_loopn (I_X12_reached mco mre mle mbe mso mva mwo mwr mlf mlp mfp mfd mgo mbo mpe mye mpr mld msi mse mn bs inn a b cc) (fun dz J => if dz = 58 then b_X12_reached_58 J Q else q_F) ?hs ?hv)) ?_
  case hs =>
    intro d J hJ
    by_cases h58 : d = 58
    · subst h58; exact s_X12_reached_58 X hJ
    simp only [h58, if_false]
    exact s_F
  case hv =>
    intro dz mz vz sz wz hI okv oks okw hlen
    by_cases h58 : dz = 58
    · subst h58
      obtain ⟨y_mco, y_mbo, y_mpe, y_inn, v4, rfl, rfl, rfl, hn, hyb, hi0, hp⟩ := hI
      refine Exists.intro [] (Exists.intro [q1 _, q1 _, q1 _] (Exists.intro [] (And.intro rfl (And.intro rfl (And.intro rfl (And.intro trivial ?_))))))
      refine Exists.intro _ (Exists.intro _ (Exists.intro _ (And.intro rfl (And.intro rfl (And.intro (by first | omega | assumption | exact q_rg_up (by assumption) (by omega) | exact q_rg_up (q_rg_up (by assumption) (by omega)) (by omega) | exact q_rg_cpy (by assumption) (by assumption)) (?_))))))
      intro z66 h66
      apply And.intro
      · exact ⟨by omega, by omega⟩
      intro z69 h69
      have c69 : v4 = 0 → z69 = 0 := fun e9 => by rw [h69, show z66.toNat = 0 by omega]; exact hi0
      apply And.intro
      · intro h71
        apply And.intro
        · intro h81
          apply And.intro
          · intro h91
            intro z113 h113
            first | replace h113 := e_sub h113 (by omega) | replace h113 := e_rng h113
            refine Exists.intro [0, 3, 2, 4, 5, 6, 7, 1, 8, 9, 10, 11, 12, 13, 14, 15, 16, 17, 18, 19, 20, 21, 22, 23, 24, 25] (Exists.intro [q2 0, q1 _, q1 _] (Exists.intro ([.inr (12, [q1 _, q2 3, q2 4, q2 5, q2 6, q2 7, q2 2, q2 8, q2 9, q2 10, q1 _, q1 _, q1 _, q1 _, q1 _, q3 _, q1 _, q1 _, q1 _, q2 11, q2 12, q1 _, q1 _, q1 _, q1 _, q1 _, q1 _, q2 13, q1 _, q2 1, q2 14, q2 15, q2 16, q1 _, q2 17, q1 _, q2 18, q2 19, q2 20, q2 21, q2 22, q1 _, q2 23, q2 24, q2 25]), .inl (0, 12544, .inl _), .inl (0, 600, .inl _)]) (And.intro rfl (And.intro rfl (And.intro rfl (And.intro ⟨⟨_, rfl⟩, rfl⟩ ?_))))))
            refine Exists.intro _ (Exists.intro _ (Exists.intro _ (Exists.intro _ (Exists.intro _ (Exists.intro _ (Exists.intro _ (Exists.intro _ (Exists.intro _ (Exists.intro _ (Exists.intro _ (Exists.intro _ (Exists.intro _ (Exists.intro _ (Exists.intro _ (Exists.intro _ (Exists.intro _ (Exists.intro _ (Exists.intro _ (Exists.intro _ (Exists.intro _ (Exists.intro _ (Exists.intro _ (Exists.intro _ (And.intro rfl (And.intro rfl (And.intro (by first | omega | assumption | exact q_rg_up (by assumption) (by omega) | exact q_rg_up (q_rg_up (by assumption) (by omega)) (by omega) | exact q_rg_cpy (by assumption) (by assumption)) (And.intro (by first | omega | assumption | exact q_rg_up (by assumption) (by omega) | exact q_rg_up (q_rg_up (by assumption) (by omega)) (by omega) | exact q_rg_cpy (by assumption) (by assumption)) (And.intro (by first | omega | assumption | exact q_rg_up (by assumption) (by omega) | exact q_rg_up (q_rg_up (by assumption) (by omega)) (by omega) | exact q_rg_cpy (by assumption) (by assumption)) (And.intro (by first | omega | assumption | exact q_rg_up (by assumption) (by omega) | exact q_rg_up (q_rg_up (by assumption) (by omega)) (by omega) | exact q_rg_cpy (by assumption) (by assumption)) (?_))))))))))))))))))))))))))))))
            intro z116
            exact hQ _ _ _ _ _
          · intro h91
            refine Exists.intro [] (Exists.intro [q1 _, q1 _, q1 _] (Exists.intro [] (And.intro rfl (And.intro rfl (And.intro rfl (And.intro trivial ?_))))))
            refine Exists.intro _ (Exists.intro _ (Exists.intro _ (And.intro rfl (And.intro rfl (And.intro (by first | omega | assumption | exact q_rg_up (by assumption) (by omega) | exact q_rg_up (q_rg_up (by assumption) (by omega)) (by omega) | exact q_rg_cpy (by assumption) (by assumption)) (?_))))))
            intro z102 h102
            apply And.intro
            · exact ⟨by omega, by omega⟩
            intro z105 h105
            exact hQ _ _ _ _ _
        · intro h81
          exact hQ _ _ _ _ _
      · intro h71
        intro z74 h74
        first | replace h74 := e_add h74 (by omega) | replace h74 := e_rng h74
        exact ⟨_, ⟨_, _, _, _, _, rfl, rfl, rfl, rfl, (by first | omega | assumption | exact q_rg_up (by assumption) (by omega) | exact q_rg_up (q_rg_up (by assumption) (by omega)) (by omega) | exact q_rg_cpy (by assumption) (by assumption)), (by first | omega | assumption | exact q_rg_up (by assumption) (by omega) | exact q_rg_up (q_rg_up (by assumption) (by omega)) (by omega) | exact q_rg_cpy (by assumption) (by assumption)), (by first | omega | assumption | exact q_rg_up (by assumption) (by omega) | exact q_rg_up (q_rg_up (by assumption) (by omega)) (by omega) | exact q_rg_cpy (by assumption) (by assumption))⟩, by omega⟩
    simp only [I_X12_reached, h58, if_false] at hI
  rintro lv st w' ⟨rfl, rfl, rfl⟩
  apply And.intro
  · exact trivial
  refine Exists.intro [] (Exists.intro [q1 _, q1 _, q1 _] (Exists.intro [] (And.intro rfl (And.intro rfl (And.intro rfl (And.intro trivial ?_))))))
  refine Exists.intro _ (Exists.intro _ (Exists.intro _ (And.intro rfl (And.intro rfl (?_)))))
  intro z9 h9
  apply And.intro
  · intro h12
    first | replace h9 := dj1 h9 h12 | replace h9 := dj0 h9 h12
    exact hQ _ _ _ _ _
  · intro h12
    first | replace h9 := dj1 h9 h12 | replace h9 := dj0 h9 h12
    refine Exists.intro [0, 1, 2, 4, 5, 6, 7, 8, 9, 10, 11, 12, 13, 3, 14, 15, 16, 17, 18, 19, 20, 21, 22, 23, 24, 25] (Exists.intro [q2 0, q1 _] (Exists.intro ([.inr (12, [q1 _, q2 3, q2 4, q2 5, q2 6, q2 1, q2 2, q2 7, q2 8, q2 9, q1 _, q1 _, q1 _, q1 _, q1 _, q3 _, q1 _, q1 _, q1 _, q2 10, q2 11, q1 _, q1 _, q1 _, q1 _, q1 _, q1 _, q2 12, q1 _, q2 13, q2 14, q2 15, q2 16, q1 _, q2 17, q1 _, q2 18, q2 19, q2 20, q2 21, q2 22, q1 _, q2 23, q2 24, q2 25]), .inl (0, 16, .inl _), .inl (0, 600, .inl _)]) (And.intro rfl (And.intro rfl (And.intro rfl (And.intro ⟨⟨_, rfl⟩, rfl⟩ ?_))))))
    refine Exists.intro _ (Exists.intro _ (Exists.intro _ (Exists.intro _ (Exists.intro _ (Exists.intro _ (Exists.intro _ (Exists.intro _ (Exists.intro _ (Exists.intro _ (Exists.intro _ (Exists.intro _ (Exists.intro _ (Exists.intro _ (Exists.intro _ (Exists.intro _ (Exists.intro _ (Exists.intro _ (Exists.intro _ (Exists.intro _ (Exists.intro _ (Exists.intro _ (Exists.intro _ (And.intro rfl (And.intro rfl (And.intro (by first | omega | assumption | exact q_rg_up (by assumption) (by omega) | exact q_rg_up (q_rg_up (by assumption) (by omega)) (by omega) | exact q_rg_cpy (by assumption) (by assumption)) (And.intro (by first | omega | assumption | exact q_rg_up (by assumption) (by omega) | exact q_rg_up (q_rg_up (by assumption) (by omega)) (by omega) | exact q_rg_cpy (by assumption) (by assumption)) (?_)))))))))))))))))))))))))))
    intro z17 x_mbo_17 x_mpe_17 h17
    apply And.intro
    · intro h20
      first | replace h17 := dj1 h17 h20 | replace h17 := dj0 h17 h20
      exact hQ _ _ _ _ _
    · intro h20
      first | replace h17 := dj1 h17 h20 | replace h17 := dj0 h17 h20
      refine Exists.intro [] (Exists.intro [q1 _, q1 _, q1 _] (Exists.intro [] (And.intro rfl (And.intro rfl (And.intro rfl (And.intro trivial ?_))))))
      refine Exists.intro _ (Exists.intro _ (Exists.intro _ (And.intro rfl (And.intro rfl (?_)))))
      intro z26 h26
      apply And.intro
      · intro h29
        first | replace h26 := dj1 h26 h29 | replace h26 := dj0 h26 h29
        refine Exists.intro [0, 3, 2, 4, 5, 6, 7, 1, 8, 9, 10, 11, 12, 13, 14, 15, 16, 17, 18, 19, 20, 21, 22, 23, 24, 25] (Exists.intro [q2 0] (Exists.intro ([.inr (12, [q1 _, q2 3, q2 4, q2 5, q2 6, q2 7, q2 2, q2 8, q2 9, q2 10, q1 _, q1 _, q1 _, q1 _, q1 _, q3 _, q1 _, q1 _, q1 _, q2 11, q2 12, q1 _, q1 _, q1 _, q1 _, q1 _, q1 _, q2 13, q1 _, q2 1, q2 14, q2 15, q2 16, q1 _, q2 17, q1 _, q2 18, q2 19, q2 20, q2 21, q2 22, q1 _, q2 23, q2 24, q2 25]), .inl (0, 12544, .inl _), .inl (0, 600, .inl _)]) (And.intro rfl (And.intro rfl (And.intro rfl (And.intro ⟨⟨_, rfl⟩, rfl⟩ ?_))))))
        refine Exists.intro _ (Exists.intro _ (Exists.intro _ (Exists.intro _ (Exists.intro _ (Exists.intro _ (Exists.intro _ (Exists.intro _ (Exists.intro _ (Exists.intro _ (Exists.intro _ (Exists.intro _ (Exists.intro _ (Exists.intro _ (Exists.intro _ (Exists.intro _ (Exists.intro _ (Exists.intro _ (Exists.intro _ (Exists.intro _ (Exists.intro _ (Exists.intro _ (And.intro rfl (And.intro rfl (And.intro (by first | omega | assumption | exact q_rg_up (by assumption) (by omega) | exact q_rg_up (q_rg_up (by assumption) (by omega)) (by omega) | exact q_rg_cpy (by assumption) (by assumption)) (And.intro (by first | omega | assumption | exact q_rg_up (by assumption) (by omega) | exact q_rg_up (q_rg_up (by assumption) (by omega)) (by omega) | exact q_rg_cpy (by assumption) (by assumption)) (And.intro (by first | omega | assumption | exact q_rg_up (by assumption) (by omega) | exact q_rg_up (q_rg_up (by assumption) (by omega)) (by omega) | exact q_rg_cpy (by assumption) (by assumption)) (?_)))))))))))))))))))))))))))
        intro x_inn_51 h51
        exact ⟨_, _, _, _, _, _, rfl, rfl, rfl, rfl, (by first | omega | assumption | exact q_rg_up (by assumption) (by omega) | exact q_rg_up (q_rg_up (by assumption) (by omega)) (by omega) | exact q_rg_cpy (by assumption) (by assumption)), (by first | omega | assumption | exact q_rg_up (by assumption) (by omega) | exact q_rg_up (q_rg_up (by assumption) (by omega)) (by omega) | exact q_rg_cpy (by assumption) (by assumption)), (by first | omega | assumption | exact q_rg_up (by assumption) (by omega) | exact q_rg_up (q_rg_up (by assumption) (by omega)) (by omega) | exact q_rg_cpy (by assumption) (by assumption))⟩
      · intro h29
        first | replace h26 := dj1 h26 h29 | replace h26 := dj0 h26 h29
        refine Exists.intro [0, 2, 4, 5, 6, 7, 1, 8, 9, 10, 11, 12, 13, 3, 14, 15, 16, 17, 18, 19, 20, 21, 22, 23, 24, 25] (Exists.intro [q2 0] (Exists.intro ([.inr (12, [q1 _, q2 2, q2 3, q2 4, q2 5, q2 6, q2 1, q2 7, q2 8, q2 9, q1 _, q1 _, q1 _, q1 _, q1 _, q3 _, q1 _, q1 _, q1 _, q2 10, q2 11, q1 _, q1 _, q1 _, q1 _, q1 _, q1 _, q2 12, q1 _, q2 13, q2 14, q2 15, q2 16, q1 _, q2 17, q1 _, q2 18, q2 19, q2 20, q2 21, q2 22, q1 _, q2 23, q2 24, q2 25]), .inl (0, 600, .inl _)]) (And.intro rfl (And.intro rfl (And.intro rfl (And.intro ⟨⟨_, rfl⟩, rfl⟩ ?_))))))
        refine Exists.intro _ (Exists.intro _ (Exists.intro _ (Exists.intro _ (Exists.intro _ (Exists.intro _ (Exists.intro _ (Exists.intro _ (Exists.intro _ (Exists.intro _ (Exists.intro _ (Exists.intro _ (Exists.intro _ (Exists.intro _ (Exists.intro _ (Exists.intro _ (Exists.intro _ (Exists.intro _ (Exists.intro _ (Exists.intro _ (Exists.intro _ (And.intro rfl (And.intro rfl (And.intro (by first | omega | assumption | exact q_rg_up (by assumption) (by omega) | exact q_rg_up (q_rg_up (by assumption) (by omega)) (by omega) | exact q_rg_cpy (by assumption) (by assumption)) (And.intro (by first | omega | assumption | exact q_rg_up (by assumption) (by omega) | exact q_rg_up (q_rg_up (by assumption) (by omega)) (by omega) | exact q_rg_cpy (by assumption) (by assumption)) (?_)))))))))))))))))))))))))
        intro z38 h38
        intro z41 h41
        first | replace h41 := e_add h41 (by omega) | replace h41 := e_rng h41
        refine Exists.intro [] (Exists.intro [q1 _, q1 _, q1 _] (Exists.intro [] (And.intro rfl (And.intro rfl (And.intro rfl (And.intro trivial ?_))))))
        refine Exists.intro _ (Exists.intro _ (Exists.intro _ (And.intro rfl (And.intro rfl (?_)))))
        intro z42 h42
        apply And.intro
        · intro h45
          first | replace h42 := dj1 h42 h45 | replace h42 := dj0 h42 h45
          refine Exists.intro [0, 3, 2, 4, 5, 6, 7, 1, 8, 9, 10, 11, 12, 13, 14, 15, 16, 17, 18, 19, 20, 21, 22, 23, 24, 25] (Exists.intro [q2 0] (Exists.intro ([.inr (12, [q1 _, q2 3, q2 4, q2 5, q2 6, q2 7, q2 2, q2 8, q2 9, q2 10, q1 _, q1 _, q1 _, q1 _, q1 _, q3 _, q1 _, q1 _, q1 _, q2 11, q2 12, q1 _, q1 _, q1 _, q1 _, q1 _, q1 _, q2 13, q1 _, q2 1, q2 14, q2 15, q2 16, q1 _, q2 17, q1 _, q2 18, q2 19, q2 20, q2 21, q2 22, q1 _, q2 23, q2 24, q2 25]), .inl (0, 12544, .inl _), .inl (0, 600, .inl _)]) (And.intro rfl (And.intro rfl (And.intro rfl (And.intro ⟨⟨_, rfl⟩, rfl⟩ ?_))))))
          refine Exists.intro _ (Exists.intro _ (Exists.intro _ (Exists.intro _ (Exists.intro _ (Exists.intro _ (Exists.intro _ (Exists.intro _ (Exists.intro _ (Exists.intro _ (Exists.intro _ (Exists.intro _ (Exists.intro _ (Exists.intro _ (Exists.intro _ (Exists.intro _ (Exists.intro _ (Exists.intro _ (Exists.intro _ (Exists.intro _ (Exists.intro _ (Exists.intro _ (And.intro rfl (And.intro rfl (And.intro (by first | omega | assumption | exact q_rg_up (by assumption) (by omega) | exact q_rg_up (q_rg_up (by assumption) (by omega)) (by omega) | exact q_rg_cpy (by assumption) (by assumption)) (And.intro (by first | omega | assumption | exact q_rg_up (by assumption) (by omega) | exact q_rg_up (q_rg_up (by assumption) (by omega)) (by omega) | exact q_rg_cpy (by assumption) (by assumption)) (And.intro (by first | omega | assumption | exact q_rg_up (by assumption) (by omega) | exact q_rg_up (q_rg_up (by assumption) (by omega)) (by omega) | exact q_rg_cpy (by assumption) (by assumption)) (?_)))))))))))))))))))))))))))
          intro x_inn_51 h51
          exact ⟨_, _, _, _, _, _, rfl, rfl, rfl, rfl, (by first | omega | assumption | exact q_rg_up (by assumption) (by omega) | exact q_rg_up (q_rg_up (by assumption) (by omega)) (by omega) | exact q_rg_cpy (by assumption) (by assumption)), (by first | omega | assumption | exact q_rg_up (by assumption) (by omega) | exact q_rg_up (q_rg_up (by assumption) (by omega)) (by omega) | exact q_rg_cpy (by assumption) (by assumption)), (by first | omega | assumption | exact q_rg_up (by assumption) (by omega) | exact q_rg_up (q_rg_up (by assumption) (by omega)) (by omega) | exact q_rg_cpy (by assumption) (by assumption))⟩
        · intro h45
          first | replace h42 := dj1 h42 h45 | replace h42 := dj0 h42 h45
          exact hQ _ _ _ _ _
