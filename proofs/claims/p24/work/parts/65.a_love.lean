theorem dX12_apart_0 : decode cX12_apart 0 = .ok (.aload_n 0, 1) := by decide +kernel
theorem dX12_apart_1 : decode cX12_apart 1 = .ok (.iconst 5, 1) := by decide +kernel
theorem dX12_apart_2 : decode cX12_apart 2 = .ok (.iload_n 1, 1) := by decide +kernel
theorem dX12_apart_3 : decode cX12_apart 3 = .ok (.iadd, 1) := by decide +kernel
theorem dX12_apart_4 : decode cX12_apart 4 = .ok (.invokevirtual 299, 3) := by decide +kernel
theorem dX12_apart_7 : decode cX12_apart 7 = .ok (.aload_n 0, 1) := by decide +kernel
theorem dX12_apart_8 : decode cX12_apart 8 = .ok (.iconst 5, 1) := by decide +kernel
theorem dX12_apart_9 : decode cX12_apart 9 = .ok (.iload_n 2, 1) := by decide +kernel
theorem dX12_apart_10 : decode cX12_apart 10 = .ok (.iadd, 1) := by decide +kernel
theorem dX12_apart_11 : decode cX12_apart 11 = .ok (.invokevirtual 299, 3) := by decide +kernel
theorem dX12_apart_14 : decode cX12_apart 14 = .ok (.isub, 1) := by decide +kernel
theorem dX12_apart_15 : decode cX12_apart 15 = .ok (.istore_n 3, 1) := by decide +kernel
theorem dX12_apart_16 : decode cX12_apart 16 = .ok (.iload_n 3, 1) := by decide +kernel
theorem dX12_apart_17 : decode cX12_apart 17 = .ok (.ifCond .ge 8, 3) := by decide +kernel
theorem dX12_apart_20 : decode cX12_apart 20 = .ok (.iload_n 3, 1) := by decide +kernel
theorem dX12_apart_21 : decode cX12_apart 21 = .ok (.ineg, 1) := by decide +kernel
theorem dX12_apart_22 : decode cX12_apart 22 = .ok (.goto 4, 3) := by decide +kernel
theorem dX12_apart_25 : decode cX12_apart 25 = .ok (.iload_n 3, 1) := by decide +kernel
theorem dX12_apart_26 : decode cX12_apart 26 = .ok (.ireturn, 1) := by decide +kernel
def is_X12_apart : Nat → List Nat := fun d => []
set_option maxRecDepth 100000 in
def b_X12_apart_26 (J : Nat → List qV → List qV → qW → Prop) (Q : qR) : qK := x_iret Q
set_option maxRecDepth 100000 in
theorem s_X12_apart_26 {p : Program} {l : Launch} {e : Env} {R : Room} {s : State} {m : MethodId} {args : Array Value} {below : List Frame} {meth : Method} {c : Code} {nW : Nat} {dC : Nat → ClassId} {dI : Nat → Nat → Nat} {k : Nat → ClassId} {g : Nat → Nat} {A : Nat → Prop} {J : Nat → List qV → List qV → qW → Prop} {Q : qR} (X : q_X p R s m args meth c cX12_apart 4 nW 1 21 RX12 (some .int) dC dI k g A) (hJ : ∀ d : Nat, q_Sd p l e R s m args below meth c 4 nW dC dI k g A (MQ below (q_post (dC, dI) k g nW Q A) args s 0 0 A) d (x_cut (is_X12_apart d) (J d))) : q_Sd p l e R s m args below meth c 4 nW dC dI k g A (MQ below (q_post (dC, dI) k g nW Q A) args s 0 0 A) 26 (b_X12_apart_26 J Q) := by
  unfold b_X12_apart_26
  exact s_iret X dX12_apart_26
set_option maxRecDepth 100000 in
def b_X12_apart_0 (J : Nat → List qV → List qV → qW → Prop) (Q : qR) : qK := x_aload 0 (x_int 5 (x_iload 1 (x_iadd (x_callr (some 12) 2 spr_X12_of (x_aload 0 (x_int 5 (x_iload 2 (x_iadd (x_callr (some 12) 2 spr_X12_of (x_isub (x_istore 3 (x_iload 3 (x_if_ge (x_iload 3 (b_X12_apart_26 J Q)) (x_iload 3 (x_ineg (b_X12_apart_26 J Q))))))))))))))))
set_option maxRecDepth 100000 in
theorem s_X12_apart_0 {p : Program} {l : Launch} {e : Env} {R : Room} {s : State} {m : MethodId} {args : Array Value} {below : List Frame} {meth : Method} {c : Code} {nW : Nat} {dC : Nat → ClassId} {dI : Nat → Nat → Nat} {k : Nat → ClassId} {g : Nat → Nat} {A : Nat → Prop} {J : Nat → List qV → List qV → qW → Prop} {Q : qR} (X : q_X p R s m args meth c cX12_apart 4 nW 1 21 RX12 (some .int) dC dI k g A) (hJ : ∀ d : Nat, q_Sd p l e R s m args below meth c 4 nW dC dI k g A (MQ below (q_post (dC, dI) k g nW Q A) args s 0 0 A) d (x_cut (is_X12_apart d) (J d))) : q_Sd p l e R s m args below meth c 4 nW dC dI k g A (MQ below (q_post (dC, dI) k g nW Q A) args s 0 0 A) 0 (b_X12_apart_0 J Q) := by
  unfold b_X12_apart_0
  refine s_aload_n X rfl dX12_apart_0 ?_
  refine s_iconst X ⟨by decide, by decide⟩ dX12_apart_1 ?_
  refine s_iload_n X rfl dX12_apart_2 ?_
  refine s_iadd X dX12_apart_3 ?_
  refine s_callVr X (m_X12_of l) tw_1189 tw_1190 tw_1603 tw_134 tw_1191 rfl (by decide +kernel) ⟨by decide, by decide⟩ dX12_apart_4 ?_
  refine s_aload_n X rfl dX12_apart_7 ?_
  refine s_iconst X ⟨by decide, by decide⟩ dX12_apart_8 ?_
  refine s_iload_n X rfl dX12_apart_9 ?_
  refine s_iadd X dX12_apart_10 ?_
  refine s_callVr X (m_X12_of l) tw_1189 tw_1190 tw_1603 tw_134 tw_1191 rfl (by decide +kernel) ⟨by decide, by decide⟩ dX12_apart_11 ?_
  refine s_isub X dX12_apart_14 ?_
  refine s_istore_n X rfl (by decide) dX12_apart_15 ?_
  refine s_iload_n X rfl dX12_apart_16 ?_
  refine s_if_ge X (tgt := 25) dX12_apart_17 (by decide) ?_ ?_
  · refine s_iload_n X rfl dX12_apart_25 ?_
    exact s_X12_apart_26 X hJ
  · refine s_iload_n X rfl dX12_apart_20 ?_
    refine s_ineg X dX12_apart_21 ?_
    refine s_goto X (tgt := 26) dX12_apart_22 (by decide) ?_
    exact s_X12_apart_26 X hJ

def spr_X12_apart : List qV → qW → (Option qV → Prop) → Prop := fun av w Q => ∃ (mco : Int) (mre : Int) (mle : Int) (mbe : Int) (mso : Int) (mva : Int) (mwo : Int) (mwr : Int) (mlf : Int) (mlp : Int) (mfp : Int) (mfd : Int) (mgo : Int) (mbo : Int) (mpe : Int) (mye : Int) (mpr : Int) (mld : Int) (msi : Int) (mse : Int) (bs : Nat → Int) (a : Int) (b : Int), av = [q2 0, q1 a, q1 b] ∧ w = [.inr (12, [q1 mco, q2 2, q2 3, q2 4, q2 5, q2 6, q2 1, q2 7, q2 8, q2 9, q1 mre, q1 mle, q1 mbe, q1 mso, q1 mva, q3 mwo, q1 mwr, q1 mlf, q1 mlp, q2 10, q2 11, q1 mfp, q1 mfd, q1 mgo, q1 mbo, q1 mpe, q1 mye, q2 12, q1 mpr, q2 13, q2 14, q2 15, q2 16, q1 mld, q2 17, q1 msi, q2 18, q2 19, q2 20, q2 21, q2 22, q1 mse, q2 23, q2 24, q2 25]), .inl (0, 600, .inl bs)] ∧ (0 ≤ mbo ∧ mbo ≤ 1) ∧ (BI bs) ∧ (0 ≤ a ∧ a ≤ 7 ∧ 0 ≤ b ∧ b ≤ 7) ∧ (∀ (r : Int) , Q (some (q1 r)))
def sp_X12_apart : qS := fun av w Q => spr_X12_apart av w (fun r => Q r w)
set_option maxHeartbeats 4000000 in
set_option maxRecDepth 100000 in
theorem m_X12_apart (l : Launch) : q_M l yX12_apart cX12_apart 4 (some .int) 1 21 sp_X12_apart := by
  refine q_meth (by decide) (fun av w Q h => by obtain ⟨mco, mre, mle, mbe, mso, mva, mwo, mwr, mlf, mlp, mfp, mfd, mgo, mbo, mpe, mye, mpr, mld, msi, mse, bs, a, b, rfl, rfl, hbo, hbi, ha, hQ⟩ := h; exact Nat.le_of_ble_eq_true rfl) ?_
  intro p e R s m args below meth c dC dI k g A av w Q hsp oka okw X
  obtain ⟨mco, mre, mle, mbe, mso, mva, mwo, mwr, mlf, mlp, mfp, mfd, mgo, mbo, mpe, mye, mpr, mld, msi, mse, bs, a, b, rfl, rfl, hbo, hbi, ha, hQ⟩ := hsp
  have o_a : -2147483648 ≤ a ∧ a ≤ 2147483647 := oka _ (List.mem_of_getElem? (i := 1) rfl)
  have o_b : -2147483648 ≤ b ∧ b ≤ 2147483647 := oka _ (List.mem_of_getElem? (i := 2) rfl)
  refine s_mono (s_X12_apart_0 X (J := fun _ _ _ _ => False) (fun d => s_cutF)) ?_
  rintro lv st w' ⟨rfl, rfl, rfl⟩
  intro z3 h3
  first | replace h3 := e_add h3 (by omega) | replace h3 := e_rng h3
  refine Exists.intro [0, 1, 2, 3, 4, 5, 6, 7, 8, 9, 10, 11, 12, 13, 14, 15, 16, 17, 18, 19, 20, 21, 22, 23, 24, 25] (Exists.intro [q2 0, q1 _] (Exists.intro ([.inr (12, [q1 _, q2 2, q2 3, q2 4, q2 5, q2 6, q2 1, q2 7, q2 8, q2 9, q1 _, q1 _, q1 _, q1 _, q1 _, q3 _, q1 _, q1 _, q1 _, q2 10, q2 11, q1 _, q1 _, q1 _, q1 _, q1 _, q1 _, q2 12, q1 _, q2 13, q2 14, q2 15, q2 16, q1 _, q2 17, q1 _, q2 18, q2 19, q2 20, q2 21, q2 22, q1 _, q2 23, q2 24, q2 25]), .inl (0, 600, .inl _)]) (And.intro rfl (And.intro rfl (And.intro rfl (And.intro ⟨⟨_, rfl⟩, rfl⟩ ?_))))))
  refine Exists.intro _ (Exists.intro _ (Exists.intro _ (Exists.intro _ (Exists.intro _ (Exists.intro _ (Exists.intro _ (Exists.intro _ (Exists.intro _ (Exists.intro _ (Exists.intro _ (Exists.intro _ (Exists.intro _ (Exists.intro _ (Exists.intro _ (Exists.intro _ (Exists.intro _ (Exists.intro _ (Exists.intro _ (Exists.intro _ (Exists.intro _ (Exists.intro _ (And.intro rfl (And.intro rfl (And.intro (by first | omega | assumption | exact q_rg_up (by assumption) (by omega) | exact q_rg_up (q_rg_up (by assumption) (by omega)) (by omega) | exact q_rg_cpy (by assumption) (by assumption)) (And.intro (by first | omega | assumption | exact q_rg_up (by assumption) (by omega) | exact q_rg_up (q_rg_up (by assumption) (by omega)) (by omega) | exact q_rg_cpy (by assumption) (by assumption)) (And.intro (by first | omega | assumption | exact q_rg_up (by assumption) (by omega) | exact q_rg_up (q_rg_up (by assumption) (by omega)) (by omega) | exact q_rg_cpy (by assumption) (by assumption)) (?_)))))))))))))))))))))))))))
  intro z4 h4
  obtain ⟨h4, k4⟩ := h4
  first | replace k4 := OFQ_13 k4 (by omega) | replace k4 := OFQ_21 k4 (by omega) | clear k4
  intro z10 h10
  first | replace h10 := e_add h10 (by omega) | replace h10 := e_rng h10
  refine Exists.intro [0, 1, 2, 3, 4, 5, 6, 7, 8, 9, 10, 11, 12, 13, 14, 15, 16, 17, 18, 19, 20, 21, 22, 23, 24, 25] (Exists.intro [q2 0, q1 _] (Exists.intro ([.inr (12, [q1 _, q2 2, q2 3, q2 4, q2 5, q2 6, q2 1, q2 7, q2 8, q2 9, q1 _, q1 _, q1 _, q1 _, q1 _, q3 _, q1 _, q1 _, q1 _, q2 10, q2 11, q1 _, q1 _, q1 _, q1 _, q1 _, q1 _, q2 12, q1 _, q2 13, q2 14, q2 15, q2 16, q1 _, q2 17, q1 _, q2 18, q2 19, q2 20, q2 21, q2 22, q1 _, q2 23, q2 24, q2 25]), .inl (0, 600, .inl _)]) (And.intro rfl (And.intro rfl (And.intro rfl (And.intro ⟨⟨_, rfl⟩, rfl⟩ ?_))))))
  refine Exists.intro _ (Exists.intro _ (Exists.intro _ (Exists.intro _ (Exists.intro _ (Exists.intro _ (Exists.intro _ (Exists.intro _ (Exists.intro _ (Exists.intro _ (Exists.intro _ (Exists.intro _ (Exists.intro _ (Exists.intro _ (Exists.intro _ (Exists.intro _ (Exists.intro _ (Exists.intro _ (Exists.intro _ (Exists.intro _ (Exists.intro _ (Exists.intro _ (And.intro rfl (And.intro rfl (And.intro (by first | omega | assumption | exact q_rg_up (by assumption) (by omega) | exact q_rg_up (q_rg_up (by assumption) (by omega)) (by omega) | exact q_rg_cpy (by assumption) (by assumption)) (And.intro (by first | omega | assumption | exact q_rg_up (by assumption) (by omega) | exact q_rg_up (q_rg_up (by assumption) (by omega)) (by omega) | exact q_rg_cpy (by assumption) (by assumption)) (And.intro (by first | omega | assumption | exact q_rg_up (by assumption) (by omega) | exact q_rg_up (q_rg_up (by assumption) (by omega)) (by omega) | exact q_rg_cpy (by assumption) (by assumption)) (?_)))))))))))))))))))))))))))
  intro z11 h11
  obtain ⟨h11, k11⟩ := h11
  first | replace k11 := OFQ_13 k11 (by omega) | replace k11 := OFQ_21 k11 (by omega) | clear k11
  intro z14 h14
  first | replace h14 := e_sub h14 (by omega) | replace h14 := e_rng h14
  apply And.intro
  · intro h17
    exact hQ _
  · intro h17
    intro z21 h21
    first | replace h21 := e_neg h21 (by omega) | replace h21 := e_rng h21
    exact hQ _

theorem dX12_couples_0 : decode cX12_couples 0 = .ok (.aload_n 0, 1) := by decide +kernel
theorem dX12_couples_1 : decode cX12_couples 1 = .ok (.getfield 53, 3) := by decide +kernel
theorem dX12_couples_4 : decode cX12_couples 4 = .ok (.iconst 0, 1) := by decide +kernel
theorem dX12_couples_5 : decode cX12_couples 5 = .ok (.iconst 0, 1) := by decide +kernel
theorem dX12_couples_6 : decode cX12_couples 6 = .ok (.iastore, 1) := by decide +kernel
theorem dX12_couples_7 : decode cX12_couples 7 = .ok (.iconst 1, 1) := by decide +kernel
theorem dX12_couples_8 : decode cX12_couples 8 = .ok (.istore_n 2, 1) := by decide +kernel
theorem dX12_couples_9 : decode cX12_couples 9 = .ok (.iload_n 2, 1) := by decide +kernel
theorem dX12_couples_10 : decode cX12_couples 10 = .ok (.iconst 1, 1) := by decide +kernel
theorem dX12_couples_11 : decode cX12_couples 11 = .ok (.aload_n 0, 1) := by decide +kernel
theorem dX12_couples_12 : decode cX12_couples 12 = .ok (.getfield 303, 3) := by decide +kernel
theorem dX12_couples_15 : decode cX12_couples 15 = .ok (.ishl, 1) := by decide +kernel
theorem dX12_couples_16 : decode cX12_couples 16 = .ok (.if_icmp .ge 108, 3) := by decide +kernel
theorem dX12_couples_19 : decode cX12_couples 19 = .ok (.iload_n 2, 1) := by decide +kernel
theorem dX12_couples_20 : decode cX12_couples 20 = .ok (.invokestatic 395, 3) := by decide +kernel
theorem dX12_couples_23 : decode cX12_couples 23 = .ok (.istore_n 3, 1) := by decide +kernel
theorem dX12_couples_24 : decode cX12_couples 24 = .ok (.iload_n 2, 1) := by decide +kernel
theorem dX12_couples_25 : decode cX12_couples 25 = .ok (.iconst 1, 1) := by decide +kernel
theorem dX12_couples_26 : decode cX12_couples 26 = .ok (.iload_n 3, 1) := by decide +kernel
theorem dX12_couples_27 : decode cX12_couples 27 = .ok (.ishl, 1) := by decide +kernel
theorem dX12_couples_28 : decode cX12_couples 28 = .ok (.iconst (-1), 1) := by decide +kernel
theorem dX12_couples_29 : decode cX12_couples 29 = .ok (.ixor, 1) := by decide +kernel
theorem dX12_couples_30 : decode cX12_couples 30 = .ok (.iand, 1) := by decide +kernel
theorem dX12_couples_31 : decode cX12_couples 31 = .ok (.istore 4, 2) := by decide +kernel
theorem dX12_couples_33 : decode cX12_couples 33 = .ok (.aload_n 0, 1) := by decide +kernel
theorem dX12_couples_34 : decode cX12_couples 34 = .ok (.getfield 53, 3) := by decide +kernel
theorem dX12_couples_37 : decode cX12_couples 37 = .ok (.iload_n 2, 1) := by decide +kernel
theorem dX12_couples_38 : decode cX12_couples 38 = .ok (.aload_n 0, 1) := by decide +kernel
theorem dX12_couples_39 : decode cX12_couples 39 = .ok (.getfield 53, 3) := by decide +kernel
theorem dX12_couples_42 : decode cX12_couples 42 = .ok (.iload 4, 2) := by decide +kernel
theorem dX12_couples_44 : decode cX12_couples 44 = .ok (.iaload, 1) := by decide +kernel
theorem dX12_couples_45 : decode cX12_couples 45 = .ok (.iastore, 1) := by decide +kernel
theorem dX12_couples_46 : decode cX12_couples 46 = .ok (.iload_n 3, 1) := by decide +kernel
theorem dX12_couples_47 : decode cX12_couples 47 = .ok (.iconst 1, 1) := by decide +kernel
theorem dX12_couples_48 : decode cX12_couples 48 = .ok (.iadd, 1) := by decide +kernel
theorem dX12_couples_49 : decode cX12_couples 49 = .ok (.istore 5, 2) := by decide +kernel
theorem dX12_couples_51 : decode cX12_couples 51 = .ok (.iload 5, 2) := by decide +kernel
theorem dX12_couples_53 : decode cX12_couples 53 = .ok (.aload_n 0, 1) := by decide +kernel
theorem dX12_couples_54 : decode cX12_couples 54 = .ok (.getfield 303, 3) := by decide +kernel
theorem dX12_couples_57 : decode cX12_couples 57 = .ok (.if_icmp .ge 61, 3) := by decide +kernel
theorem dX12_couples_60 : decode cX12_couples 60 = .ok (.iload 4, 2) := by decide +kernel
theorem dX12_couples_62 : decode cX12_couples 62 = .ok (.iload 5, 2) := by decide +kernel
theorem dX12_couples_64 : decode cX12_couples 64 = .ok (.invokestatic 92, 3) := by decide +kernel
theorem dX12_couples_67 : decode cX12_couples 67 = .ok (.ifCond .eq 45, 3) := by decide +kernel
theorem dX12_couples_70 : decode cX12_couples 70 = .ok (.aload_n 0, 1) := by decide +kernel
theorem dX12_couples_71 : decode cX12_couples 71 = .ok (.iload_n 3, 1) := by decide +kernel
theorem dX12_couples_72 : decode cX12_couples 72 = .ok (.iload 5, 2) := by decide +kernel
theorem dX12_couples_74 : decode cX12_couples 74 = .ok (.invokevirtual 398, 3) := by decide +kernel
theorem dX12_couples_77 : decode cX12_couples 77 = .ok (.iload_n 1, 1) := by decide +kernel
theorem dX12_couples_78 : decode cX12_couples 78 = .ok (.if_icmp .gt 34, 3) := by decide +kernel
theorem dX12_couples_81 : decode cX12_couples 81 = .ok (.aload_n 0, 1) := by decide +kernel
theorem dX12_couples_82 : decode cX12_couples 82 = .ok (.getfield 53, 3) := by decide +kernel
theorem dX12_couples_85 : decode cX12_couples 85 = .ok (.iload_n 2, 1) := by decide +kernel
theorem dX12_couples_86 : decode cX12_couples 86 = .ok (.aload_n 0, 1) := by decide +kernel
theorem dX12_couples_87 : decode cX12_couples 87 = .ok (.getfield 53, 3) := by decide +kernel
theorem dX12_couples_90 : decode cX12_couples 90 = .ok (.iload_n 2, 1) := by decide +kernel
theorem dX12_couples_91 : decode cX12_couples 91 = .ok (.iaload, 1) := by decide +kernel
theorem dX12_couples_92 : decode cX12_couples 92 = .ok (.iconst 1, 1) := by decide +kernel
theorem dX12_couples_93 : decode cX12_couples 93 = .ok (.aload_n 0, 1) := by decide +kernel
theorem dX12_couples_94 : decode cX12_couples 94 = .ok (.getfield 53, 3) := by decide +kernel
theorem dX12_couples_97 : decode cX12_couples 97 = .ok (.iload 4, 2) := by decide +kernel
theorem dX12_couples_99 : decode cX12_couples 99 = .ok (.iconst 1, 1) := by decide +kernel
theorem dX12_couples_100 : decode cX12_couples 100 = .ok (.iload 5, 2) := by decide +kernel
theorem dX12_couples_102 : decode cX12_couples 102 = .ok (.ishl, 1) := by decide +kernel
theorem dX12_couples_103 : decode cX12_couples 103 = .ok (.iconst (-1), 1) := by decide +kernel
theorem dX12_couples_104 : decode cX12_couples 104 = .ok (.ixor, 1) := by decide +kernel
theorem dX12_couples_105 : decode cX12_couples 105 = .ok (.iand, 1) := by decide +kernel
theorem dX12_couples_106 : decode cX12_couples 106 = .ok (.iaload, 1) := by decide +kernel
theorem dX12_couples_107 : decode cX12_couples 107 = .ok (.iadd, 1) := by decide +kernel
theorem dX12_couples_108 : decode cX12_couples 108 = .ok (.invokestatic 162, 3) := by decide +kernel
theorem dX12_couples_111 : decode cX12_couples 111 = .ok (.iastore, 1) := by decide +kernel
theorem dX12_couples_112 : decode cX12_couples 112 = .ok (.iinc 5 1, 3) := by decide +kernel
theorem dX12_couples_115 : decode cX12_couples 115 = .ok (.goto (-64), 3) := by decide +kernel
theorem dX12_couples_118 : decode cX12_couples 118 = .ok (.iinc 2 1, 3) := by decide +kernel
theorem dX12_couples_121 : decode cX12_couples 121 = .ok (.goto (-112), 3) := by decide +kernel
theorem dX12_couples_124 : decode cX12_couples 124 = .ok (.aload_n 0, 1) := by decide +kernel
theorem dX12_couples_125 : decode cX12_couples 125 = .ok (.getfield 53, 3) := by decide +kernel
theorem dX12_couples_128 : decode cX12_couples 128 = .ok (.iconst 1, 1) := by decide +kernel
theorem dX12_couples_129 : decode cX12_couples 129 = .ok (.aload_n 0, 1) := by decide +kernel
theorem dX12_couples_130 : decode cX12_couples 130 = .ok (.getfield 303, 3) := by decide +kernel
theorem dX12_couples_133 : decode cX12_couples 133 = .ok (.ishl, 1) := by decide +kernel
theorem dX12_couples_134 : decode cX12_couples 134 = .ok (.iconst 1, 1) := by decide +kernel
theorem dX12_couples_135 : decode cX12_couples 135 = .ok (.isub, 1) := by decide +kernel
theorem dX12_couples_136 : decode cX12_couples 136 = .ok (.iaload, 1) := by decide +kernel
theorem dX12_couples_137 : decode cX12_couples 137 = .ok (.ireturn, 1) := by decide +kernel
def is_X12_couples : Nat → List Nat := fun d => if d = 9 then [0, 1, 2] else if d = 51 then [0, 1, 2, 3, 4, 5] else []
set_option maxRecDepth 100000 in
def b_X12_couples_112 (J : Nat → List qV → List qV → qW → Prop) (Q : qR) : qK := x_iinc 5 1 (x_cut [0, 1, 2, 3, 4, 5] (J 51))
set_option maxRecDepth 100000 in
theorem s_X12_couples_112 {p : Program} {l : Launch} {e : Env} {R : Room} {s : State} {m : MethodId} {args : Array Value} {below : List Frame} {meth : Method} {c : Code} {nW : Nat} {dC : Nat → ClassId} {dI : Nat → Nat → Nat} {k : Nat → ClassId} {g : Nat → Nat} {A : Nat → Prop} {J : Nat → List qV → List qV → qW → Prop} {Q : qR} (X : q_X p R s m args meth c cX12_couples 6 nW 2 44 RX12 (some .int) dC dI k g A) (hJ : ∀ d : Nat, q_Sd p l e R s m args below meth c 6 nW dC dI k g A (MQ below (q_post (dC, dI) k g nW Q A) args s 0 0 A) d (x_cut (is_X12_couples d) (J d))) : q_Sd p l e R s m args below meth c 6 nW dC dI k g A (MQ below (q_post (dC, dI) k g nW Q A) args s 0 0 A) 112 (b_X12_couples_112 J Q) := by
  unfold b_X12_couples_112
  refine s_iinc X (by decide) dX12_couples_112 ?_
  refine s_goto X (tgt := 51) dX12_couples_115 (by decide) ?_
  exact hJ 51
set_option maxRecDepth 100000 in
def b_X12_couples_97 (J : Nat → List qV → List qV → qW → Prop) (Q : qR) : qK := x_iload 4 (x_int 1 (x_iload 5 (x_ishl (x_int (-1) (x_ixor (x_iand (x_iald (x_iadd (x_callr none 2 spr_X12_greater (x_iast (x_nw (b_X12_couples_112 J Q))))))))))))
set_option maxRecDepth 100000 in
theorem s_X12_couples_97 {p : Program} {l : Launch} {e : Env} {R : Room} {s : State} {m : MethodId} {args : Array Value} {below : List Frame} {meth : Method} {c : Code} {nW : Nat} {dC : Nat → ClassId} {dI : Nat → Nat → Nat} {k : Nat → ClassId} {g : Nat → Nat} {A : Nat → Prop} {J : Nat → List qV → List qV → qW → Prop} {Q : qR} (X : q_X p R s m args meth c cX12_couples 6 nW 2 44 RX12 (some .int) dC dI k g A) (hJ : ∀ d : Nat, q_Sd p l e R s m args below meth c 6 nW dC dI k g A (MQ below (q_post (dC, dI) k g nW Q A) args s 0 0 A) d (x_cut (is_X12_couples d) (J d))) : q_Sd p l e R s m args below meth c 6 nW dC dI k g A (MQ below (q_post (dC, dI) k g nW Q A) args s 0 0 A) 97 (b_X12_couples_97 J Q) := by
  unfold b_X12_couples_97
  refine s_iload X dX12_couples_97 ?_
  refine s_iconst X ⟨by decide, by decide⟩ dX12_couples_99 ?_
  refine s_iload X dX12_couples_100 ?_
  refine s_ishl X dX12_couples_102 ?_
  refine s_iconst X ⟨by decide, by decide⟩ dX12_couples_103 ?_
  refine s_ixor X dX12_couples_104 ?_
  refine s_iand X dX12_couples_105 ?_
  refine s_iald X dX12_couples_106 ?_
  refine s_iadd X dX12_couples_107 ?_
  refine s_callSr X (m_X12_greater l) tw_1118 tw_1119 tw_134 tw_1120 (by decide +kernel) ⟨by decide, by decide⟩ dX12_couples_108 ?_
  refine s_iast X dX12_couples_111 ?_
  refine s_nw ?_
  exact s_X12_couples_112 X hJ
set_option maxRecDepth 100000 in
def b_X12_couples_51 (J : Nat → List qV → List qV → qW → Prop) (Q : qR) : qK := x_iload 5 (x_aload 0 (x_get 12 25 (x_icmp_ge (x_iinc 2 1 (x_cut [0, 1, 2] (J 9))) (x_iload 4 (x_iload 5 (x_callr none 2 spr_X12_has (x_if_eq (b_X12_couples_112 J Q) (x_aload 0 (x_iload 3 (x_iload 5 (x_callr (some 12) 3 spr_X12_apart (x_iload 1 (x_icmp_gt (b_X12_couples_112 J Q) (x_aload 0 (x_get 12 31 (x_iload 2 (x_aload 0 (x_get 12 31 (x_iload 2 (x_iald (x_int 1 (x_aload 0 (x_get 12 31 (b_X12_couples_97 J Q))))))))))))))))))))))))
set_option maxRecDepth 100000 in
theorem s_X12_couples_51 {p : Program} {l : Launch} {e : Env} {R : Room} {s : State} {m : MethodId} {args : Array Value} {below : List Frame} {meth : Method} {c : Code} {nW : Nat} {dC : Nat → ClassId} {dI : Nat → Nat → Nat} {k : Nat → ClassId} {g : Nat → Nat} {A : Nat → Prop} {J : Nat → List qV → List qV → qW → Prop} {Q : qR} (X : q_X p R s m args meth c cX12_couples 6 nW 2 44 RX12 (some .int) dC dI k g A) (hJ : ∀ d : Nat, q_Sd p l e R s m args below meth c 6 nW dC dI k g A (MQ below (q_post (dC, dI) k g nW Q A) args s 0 0 A) d (x_cut (is_X12_couples d) (J d))) : q_Sd p l e R s m args below meth c 6 nW dC dI k g A (MQ below (q_post (dC, dI) k g nW Q A) args s 0 0 A) 51 (b_X12_couples_51 J Q) := by
  unfold b_X12_couples_51
  refine s_iload X dX12_couples_51 ?_
  refine s_aload_n X rfl dX12_couples_53 ?_
  refine s_get X (T := TX12) (C := RX12) (N := 45) tu_X12 rfl (by decide) tw_1022 dX12_couples_54 ?_
  refine s_icmp_ge X (tgt := 118) dX12_couples_57 (by decide) ?_ ?_
  · refine s_iinc X (by decide) dX12_couples_118 ?_
    refine s_goto X (tgt := 9) dX12_couples_121 (by decide) ?_
    exact hJ 9
  · refine s_iload X dX12_couples_60 ?_
    refine s_iload X dX12_couples_62 ?_
    refine s_callSr X (m_X12_has l) tw_1233 tw_1234 tw_134 tw_1235 (by decide +kernel) ⟨by decide, by decide⟩ dX12_couples_64 ?_
    refine s_if_eq X (tgt := 112) dX12_couples_67 (by decide) ?_ ?_
    · exact s_X12_couples_112 X hJ
    · refine s_aload_n X rfl dX12_couples_70 ?_
      refine s_iload_n X rfl dX12_couples_71 ?_
      refine s_iload X dX12_couples_72 ?_
      refine s_callVr X (m_X12_apart l) tw_1310 tw_1311 tw_1544 tw_134 tw_1312 rfl (by decide +kernel) ⟨by decide, by decide⟩ dX12_couples_74 ?_
      refine s_iload_n X rfl dX12_couples_77 ?_
      refine s_icmp_gt X (tgt := 112) dX12_couples_78 (by decide) ?_ ?_
      · exact s_X12_couples_112 X hJ
      · refine s_aload_n X rfl dX12_couples_81 ?_
        refine s_get X (T := TX12) (C := RX12) (N := 45) tu_X12 rfl (by decide) tw_1028 dX12_couples_82 ?_
        refine s_iload_n X rfl dX12_couples_85 ?_
        refine s_aload_n X rfl dX12_couples_86 ?_
        refine s_get X (T := TX12) (C := RX12) (N := 45) tu_X12 rfl (by decide) tw_1028 dX12_couples_87 ?_
        refine s_iload_n X rfl dX12_couples_90 ?_
        refine s_iald X dX12_couples_91 ?_
        refine s_iconst X ⟨by decide, by decide⟩ dX12_couples_92 ?_
        refine s_aload_n X rfl dX12_couples_93 ?_
        refine s_get X (T := TX12) (C := RX12) (N := 45) tu_X12 rfl (by decide) tw_1028 dX12_couples_94 ?_
        exact s_X12_couples_97 X hJ
set_option maxRecDepth 100000 in
def b_X12_couples_45 (J : Nat → List qV → List qV → qW → Prop) (Q : qR) : qK := x_iast (x_nw (x_iload 3 (x_int 1 (x_iadd (x_istore 5 (x_cut [0, 1, 2, 3, 4, 5] (J 51)))))))
set_option maxRecDepth 100000 in
theorem s_X12_couples_45 {p : Program} {l : Launch} {e : Env} {R : Room} {s : State} {m : MethodId} {args : Array Value} {below : List Frame} {meth : Method} {c : Code} {nW : Nat} {dC : Nat → ClassId} {dI : Nat → Nat → Nat} {k : Nat → ClassId} {g : Nat → Nat} {A : Nat → Prop} {J : Nat → List qV → List qV → qW → Prop} {Q : qR} (X : q_X p R s m args meth c cX12_couples 6 nW 2 44 RX12 (some .int) dC dI k g A) (hJ : ∀ d : Nat, q_Sd p l e R s m args below meth c 6 nW dC dI k g A (MQ below (q_post (dC, dI) k g nW Q A) args s 0 0 A) d (x_cut (is_X12_couples d) (J d))) : q_Sd p l e R s m args below meth c 6 nW dC dI k g A (MQ below (q_post (dC, dI) k g nW Q A) args s 0 0 A) 45 (b_X12_couples_45 J Q) := by
  unfold b_X12_couples_45
  refine s_iast X dX12_couples_45 ?_
  refine s_nw ?_
  refine s_iload_n X rfl dX12_couples_46 ?_
  refine s_iconst X ⟨by decide, by decide⟩ dX12_couples_47 ?_
  refine s_iadd X dX12_couples_48 ?_
  refine s_istore X (by decide) dX12_couples_49 ?_
  exact hJ 51
set_option maxRecDepth 100000 in
def b_X12_couples_9 (J : Nat → List qV → List qV → qW → Prop) (Q : qR) : qK := x_iload 2 (x_int 1 (x_aload 0 (x_get 12 25 (x_ishl (x_icmp_ge (x_aload 0 (x_get 12 31 (x_int 1 (x_aload 0 (x_get 12 25 (x_ishl (x_int 1 (x_isub (x_iald (x_iret Q)))))))))) (x_iload 2 (x_callr none 1 spr_X12_leastOf (x_istore 3 (x_iload 2 (x_int 1 (x_iload 3 (x_ishl (x_int (-1) (x_ixor (x_iand (x_istore 4 (x_aload 0 (x_get 12 31 (x_iload 2 (x_aload 0 (x_get 12 31 (x_iload 4 (x_iald (b_X12_couples_45 J Q))))))))))))))))))))))))
set_option maxRecDepth 100000 in
theorem s_X12_couples_9 {p : Program} {l : Launch} {e : Env} {R : Room} {s : State} {m : MethodId} {args : Array Value} {below : List Frame} {meth : Method} {c : Code} {nW : Nat} {dC : Nat → ClassId} {dI : Nat → Nat → Nat} {k : Nat → ClassId} {g : Nat → Nat} {A : Nat → Prop} {J : Nat → List qV → List qV → qW → Prop} {Q : qR} (X : q_X p R s m args meth c cX12_couples 6 nW 2 44 RX12 (some .int) dC dI k g A) (hJ : ∀ d : Nat, q_Sd p l e R s m args below meth c 6 nW dC dI k g A (MQ below (q_post (dC, dI) k g nW Q A) args s 0 0 A) d (x_cut (is_X12_couples d) (J d))) : q_Sd p l e R s m args below meth c 6 nW dC dI k g A (MQ below (q_post (dC, dI) k g nW Q A) args s 0 0 A) 9 (b_X12_couples_9 J Q) := by
  unfold b_X12_couples_9
  refine s_iload_n X rfl dX12_couples_9 ?_
  refine s_iconst X ⟨by decide, by decide⟩ dX12_couples_10 ?_
  refine s_aload_n X rfl dX12_couples_11 ?_
  refine s_get X (T := TX12) (C := RX12) (N := 45) tu_X12 rfl (by decide) tw_1022 dX12_couples_12 ?_
  refine s_ishl X dX12_couples_15 ?_
  refine s_icmp_ge X (tgt := 124) dX12_couples_16 (by decide) ?_ ?_
  · refine s_aload_n X rfl dX12_couples_124 ?_
    refine s_get X (T := TX12) (C := RX12) (N := 45) tu_X12 rfl (by decide) tw_1028 dX12_couples_125 ?_
    refine s_iconst X ⟨by decide, by decide⟩ dX12_couples_128 ?_
    refine s_aload_n X rfl dX12_couples_129 ?_
    refine s_get X (T := TX12) (C := RX12) (N := 45) tu_X12 rfl (by decide) tw_1022 dX12_couples_130 ?_
    refine s_ishl X dX12_couples_133 ?_
    refine s_iconst X ⟨by decide, by decide⟩ dX12_couples_134 ?_
    refine s_isub X dX12_couples_135 ?_
    refine s_iald X dX12_couples_136 ?_
    exact s_iret X dX12_couples_137
  · refine s_iload_n X rfl dX12_couples_19 ?_
    refine s_callSr X (m_X12_leastOf l) tw_1307 tw_1308 tw_134 tw_1309 (by decide +kernel) ⟨by decide, by decide⟩ dX12_couples_20 ?_
    refine s_istore_n X rfl (by decide) dX12_couples_23 ?_
    refine s_iload_n X rfl dX12_couples_24 ?_
    refine s_iconst X ⟨by decide, by decide⟩ dX12_couples_25 ?_
    refine s_iload_n X rfl dX12_couples_26 ?_
    refine s_ishl X dX12_couples_27 ?_
    refine s_iconst X ⟨by decide, by decide⟩ dX12_couples_28 ?_
    refine s_ixor X dX12_couples_29 ?_
    refine s_iand X dX12_couples_30 ?_
    refine s_istore X (by decide) dX12_couples_31 ?_
    refine s_aload_n X rfl dX12_couples_33 ?_
    refine s_get X (T := TX12) (C := RX12) (N := 45) tu_X12 rfl (by decide) tw_1028 dX12_couples_34 ?_
    refine s_iload_n X rfl dX12_couples_37 ?_
    refine s_aload_n X rfl dX12_couples_38 ?_
    refine s_get X (T := TX12) (C := RX12) (N := 45) tu_X12 rfl (by decide) tw_1028 dX12_couples_39 ?_
    refine s_iload X dX12_couples_42 ?_
    refine s_iald X dX12_couples_44 ?_
    exact s_X12_couples_45 X hJ
set_option maxRecDepth 100000 in
def b_X12_couples_0 (J : Nat → List qV → List qV → qW → Prop) (Q : qR) : qK := x_aload 0 (x_get 12 31 (x_int 0 (x_int 0 (x_iast (x_nw (x_int 1 (x_istore 2 (x_cut [0, 1, 2] (J 9)))))))))
set_option maxRecDepth 100000 in
theorem s_X12_couples_0 {p : Program} {l : Launch} {e : Env} {R : Room} {s : State} {m : MethodId} {args : Array Value} {below : List Frame} {meth : Method} {c : Code} {nW : Nat} {dC : Nat → ClassId} {dI : Nat → Nat → Nat} {k : Nat → ClassId} {g : Nat → Nat} {A : Nat → Prop} {J : Nat → List qV → List qV → qW → Prop} {Q : qR} (X : q_X p R s m args meth c cX12_couples 6 nW 2 44 RX12 (some .int) dC dI k g A) (hJ : ∀ d : Nat, q_Sd p l e R s m args below meth c 6 nW dC dI k g A (MQ below (q_post (dC, dI) k g nW Q A) args s 0 0 A) d (x_cut (is_X12_couples d) (J d))) : q_Sd p l e R s m args below meth c 6 nW dC dI k g A (MQ below (q_post (dC, dI) k g nW Q A) args s 0 0 A) 0 (b_X12_couples_0 J Q) := by
  unfold b_X12_couples_0
  refine s_aload_n X rfl dX12_couples_0 ?_
  refine s_get X (T := TX12) (C := RX12) (N := 45) tu_X12 rfl (by decide) tw_1028 dX12_couples_1 ?_
  refine s_iconst X ⟨by decide, by decide⟩ dX12_couples_4 ?_
  refine s_iconst X ⟨by decide, by decide⟩ dX12_couples_5 ?_
  refine s_iast X dX12_couples_6 ?_
  refine s_nw ?_
  refine s_iconst X ⟨by decide, by decide⟩ dX12_couples_7 ?_
  refine s_istore_n X rfl (by decide) dX12_couples_8 ?_
  exact hJ 9

def sp_X12_couples : qS := fun av w Q => ∃ (mco : Int) (mre : Int) (mle : Int) (mbe : Int) (mso : Int) (mva : Int) (mwo : Int) (mwr : Int) (mlf : Int) (mlp : Int) (mfp : Int) (mfd : Int) (mgo : Int) (mbo : Int) (mpe : Int) (mye : Int) (mpr : Int) (mld : Int) (msi : Int) (mse : Int) (cp : Nat → Int) (bs : Nat → Int) (a : Int), av = [q2 0, q1 a] ∧ w = [.inr (12, [q1 mco, q2 3, q2 4, q2 5, q2 6, q2 7, q2 2, q2 8, q2 9, q2 10, q1 mre, q1 mle, q1 mbe, q1 mso, q1 mva, q3 mwo, q1 mwr, q1 mlf, q1 mlp, q2 11, q2 12, q1 mfp, q1 mfd, q1 mgo, q1 mbo, q1 mpe, q1 mye, q2 13, q1 mpr, q2 14, q2 15, q2 1, q2 16, q1 mld, q2 17, q1 msi, q2 18, q2 19, q2 20, q2 21, q2 22, q1 mse, q2 23, q2 24, q2 25]), .inl (0, 256, .inl cp), .inl (0, 600, .inl bs)] ∧ (0 ≤ mbo ∧ mbo ≤ 1) ∧ (0 ≤ mpe ∧ mpe ≤ 8) ∧ (BI bs) ∧ (∀ (r : Int) (x_cp : Nat → Int), Q (some (q1 r)) ([.inr (12, [q1 mco, q2 3, q2 4, q2 5, q2 6, q2 7, q2 2, q2 8, q2 9, q2 10, q1 mre, q1 mle, q1 mbe, q1 mso, q1 mva, q3 mwo, q1 mwr, q1 mlf, q1 mlp, q2 11, q2 12, q1 mfp, q1 mfd, q1 mgo, q1 mbo, q1 mpe, q1 mye, q2 13, q1 mpr, q2 14, q2 15, q2 1, q2 16, q1 mld, q2 17, q1 msi, q2 18, q2 19, q2 20, q2 21, q2 22, q1 mse, q2 23, q2 24, q2 25]), .inl (0, 256, .inl x_cp), .inl (0, 600, .inl bs)]))
def I_X12_couples (mco : Int) (mre : Int) (mle : Int) (mbe : Int) (mso : Int) (mva : Int) (mwo : Int) (mwr : Int) (mlf : Int) (mlp : Int) (mfp : Int) (mfd : Int) (mgo : Int) (mbo : Int) (mpe : Int) (mye : Int) (mpr : Int) (mld : Int) (msi : Int) (mse : Int) (cp : Nat → Int) (bs : Nat → Int) (a : Int) : Nat → Nat → List qV → List qV → qW → Prop := fun dz mz vz sz wz => if dz = 9 then (∃ (y_cp : Nat → Int) (v2 : Int), vz = [q2 0, q1 a, q1 v2] ∧ sz = [] ∧ wz = [.inr (12, [q1 mco, q2 3, q2 4, q2 5, q2 6, q2 7, q2 2, q2 8, q2 9, q2 10, q1 mre, q1 mle, q1 mbe, q1 mso, q1 mva, q3 mwo, q1 mwr, q1 mlf, q1 mlp, q2 11, q2 12, q1 mfp, q1 mfd, q1 mgo, q1 mbo, q1 mpe, q1 mye, q2 13, q1 mpr, q2 14, q2 15, q2 1, q2 16, q1 mld, q2 17, q1 msi, q2 18, q2 19, q2 20, q2 21, q2 22, q1 mse, q2 23, q2 24, q2 25]), .inl (0, 256, .inl y_cp), .inl (0, 600, .inl bs)] ∧ mz = 1000 * (256 - v2).toNat ∧ (1 ≤ v2 ∧ v2 ≤ 256)) else if dz = 51 then (∃ (y_cp : Nat → Int) (v2 : Int) (v3 : Int) (v4 : Int) (v5 : Int), vz = [q2 0, q1 a, q1 v2, q1 v3, q1 v4, q1 v5] ∧ sz = [] ∧ wz = [.inr (12, [q1 mco, q2 3, q2 4, q2 5, q2 6, q2 7, q2 2, q2 8, q2 9, q2 10, q1 mre, q1 mle, q1 mbe, q1 mso, q1 mva, q3 mwo, q1 mwr, q1 mlf, q1 mlp, q2 11, q2 12, q1 mfp, q1 mfd, q1 mgo, q1 mbo, q1 mpe, q1 mye, q2 13, q1 mpr, q2 14, q2 15, q2 1, q2 16, q1 mld, q2 17, q1 msi, q2 18, q2 19, q2 20, q2 21, q2 22, q1 mse, q2 23, q2 24, q2 25]), .inl (0, 256, .inl y_cp), .inl (0, 600, .inl bs)] ∧ mz = 1000 * (256 - v2).toNat - 500 + (9 - v5).toNat ∧ (1 ≤ v2 ∧ v2 ≤ 255 ∧ 0 ≤ v3 ∧ v3 ≤ 7 ∧ 0 ≤ v4 ∧ v4 ≤ 255 ∧ 1 ≤ v5 ∧ v5 ≤ 8)) else False
set_option maxHeartbeats 4000000 in
set_option maxRecDepth 100000 in
theorem m_X12_couples (l : Launch) : q_M l yX12_couples cX12_couples 6 (some .int) 2 44 sp_X12_couples := by
  refine q_meth (by decide) (fun av w Q h => by obtain ⟨mco, mre, mle, mbe, mso, mva, mwo, mwr, mlf, mlp, mfp, mfd, mgo, mbo, mpe, mye, mpr, mld, msi, mse, cp, bs, a, rfl, rfl, hbo, hpe, hbi, hQ⟩ := h; exact Nat.le_of_ble_eq_true rfl) ?_
  intro p e R s m args below meth c dC dI k g A av w Q hsp oka okw X
  obtain ⟨mco, mre, mle, mbe, mso, mva, mwo, mwr, mlf, mlp, mfp, mfd, mgo, mbo, mpe, mye, mpr, mld, msi, mse, cp, bs, a, rfl, rfl, hbo, hpe, hbi, hQ⟩ := hsp
  have o_a : -2147483648 ≤ a ∧ a ≤ 2147483647 := oka _ (List.mem_of_getElem? (i := 1) rfl)
  refine s_mono (s_X12_couples_0 X (J := fun dz vz sz wz => ∃ mz, I_X12_couples mco mre mle mbe mso mva mwo mwr mlf mlp mfp mfd mgo mbo mpe mye mpr mld msi mse cp bs a dz mz vz sz wz) (q_loopn (I_X12_couples mco mre mle mbe mso mva mwo mwr mlf mlp mfp mfd mgo mbo mpe mye mpr mld msi mse cp bs a) (fun dz J => if dz = 9 then b_X12_couples_9 J Q else if dz = 51 then b_X12_couples_51 J Q else q_F) ?hs ?hv)) ?_
  case hs =>
    intro d J hJ
    by_cases h9 : d = 9
    · subst h9; exact s_X12_couples_9 X hJ
    by_cases h51 : d = 51
    · subst h51; exact s_X12_couples_51 X hJ
    simp only [h9, h51, if_false]
    exact s_F
  case hv =>
    intro dz mz vz sz wz hI okv oks okw hlen
    by_cases h9 : dz = 9
    · subst h9
      obtain ⟨y_cp, v2, rfl, rfl, rfl, hn, hp⟩ := hI
      intro z15 h15
      first | replace h15 := e_shl h15 (by omega) | replace h15 := e_rng h15
      apply And.intro
      · intro h16
        intro z133 h133
        first | replace h133 := e_shl h133 (by omega) | replace h133 := e_rng h133
        intro z135 h135
        first | replace h135 := e_sub h135 (by omega) | replace h135 := e_rng h135
        apply And.intro
        · exact ⟨by omega, by omega⟩
        intro z136 h136
        exact hQ _ _
      · intro h16
        refine Exists.intro [] (Exists.intro [q1 _] (Exists.intro [] (And.intro rfl (And.intro rfl (And.intro rfl (And.intro trivial ?_))))))
        refine Exists.intro _ (And.intro rfl (And.intro rfl (And.intro (by first | omega | assumption | exact q_rg_up (by assumption) (by omega) | exact q_rg_up (q_rg_up (by assumption) (by omega)) (by omega) | exact q_rg_cpy (by assumption) (by assumption)) (?_))))
        intro z20 h20
        intro z27 h27
        first | replace h27 := e_shl h27 (by omega) | replace h27 := e_rng h27
        intro z29 h29
        first | replace h29 := e_xor8 h29 (by omega) (by omega) | replace h29 := e_xor9 h29 (by omega) (by omega) | replace h29 := e_rng h29
        intro z30 h30
        replace h30 := e_and0 h30 (by omega)
        apply And.intro
        · exact ⟨by omega, by omega⟩
        intro z44 h44
        apply And.intro
        · exact ⟨by omega, by omega⟩
        intro z48 h48
        first | replace h48 := e_add h48 (by omega) | replace h48 := e_rng h48
        exact ⟨_, ⟨_, _, _, _, _, rfl, rfl, rfl, rfl, (by first | omega | assumption | exact q_rg_up (by assumption) (by omega) | exact q_rg_up (q_rg_up (by assumption) (by omega)) (by omega) | exact q_rg_cpy (by assumption) (by assumption))⟩, by omega⟩
    by_cases h51 : dz = 51
    · subst h51
      obtain ⟨y_cp, v2, v3, v4, v5, rfl, rfl, rfl, hn, hp⟩ := hI
      apply And.intro
      · intro h57
        intro z118 h118
        first | replace h118 := e_add h118 (by omega) | replace h118 := e_rng h118
        exact ⟨_, ⟨_, _, rfl, rfl, rfl, rfl, (by first | omega | assumption | exact q_rg_up (by assumption) (by omega) | exact q_rg_up (q_rg_up (by assumption) (by omega)) (by omega) | exact q_rg_cpy (by assumption) (by assumption))⟩, by omega⟩
      · intro h57
        refine Exists.intro [] (Exists.intro [q1 _, q1 _] (Exists.intro [] (And.intro rfl (And.intro rfl (And.intro rfl (And.intro trivial ?_))))))
        refine Exists.intro _ (Exists.intro _ (And.intro rfl (And.intro rfl (?_))))
        intro z64 h64
        apply And.intro
        · intro h67
          intro z112 h112
          first | replace h112 := e_add h112 (by omega) | replace h112 := e_rng h112
          exact ⟨_, ⟨_, _, _, _, _, rfl, rfl, rfl, rfl, (by first | omega | assumption | exact q_rg_up (by assumption) (by omega) | exact q_rg_up (q_rg_up (by assumption) (by omega)) (by omega) | exact q_rg_cpy (by assumption) (by assumption))⟩, by omega⟩
        · intro h67
          refine Exists.intro [0, 2, 3, 4, 5, 6, 7, 8, 9, 10, 11, 12, 13, 14, 15, 1, 16, 17, 18, 19, 20, 21, 22, 23, 24, 25] (Exists.intro [q2 0, q1 _, q1 _] (Exists.intro ([.inr (12, [q1 _, q2 2, q2 3, q2 4, q2 5, q2 6, q2 1, q2 7, q2 8, q2 9, q1 _, q1 _, q1 _, q1 _, q1 _, q3 _, q1 _, q1 _, q1 _, q2 10, q2 11, q1 _, q1 _, q1 _, q1 _, q1 _, q1 _, q2 12, q1 _, q2 13, q2 14, q2 15, q2 16, q1 _, q2 17, q1 _, q2 18, q2 19, q2 20, q2 21, q2 22, q1 _, q2 23, q2 24, q2 25]), .inl (0, 600, .inl _)]) (And.intro rfl (And.intro rfl (And.intro rfl (And.intro ⟨⟨_, rfl⟩, rfl⟩ ?_))))))
          refine Exists.intro _ (Exists.intro _ (Exists.intro _ (Exists.intro _ (Exists.intro _ (Exists.intro _ (Exists.intro _ (Exists.intro _ (Exists.intro _ (Exists.intro _ (Exists.intro _ (Exists.intro _ (Exists.intro _ (Exists.intro _ (Exists.intro _ (Exists.intro _ (Exists.intro _ (Exists.intro _ (Exists.intro _ (Exists.intro _ (Exists.intro _ (Exists.intro _ (Exists.intro _ (And.intro rfl (And.intro rfl (And.intro (by first | omega | assumption | exact q_rg_up (by assumption) (by omega) | exact q_rg_up (q_rg_up (by assumption) (by omega)) (by omega) | exact q_rg_cpy (by assumption) (by assumption)) (And.intro (by first | omega | assumption | exact q_rg_up (by assumption) (by omega) | exact q_rg_up (q_rg_up (by assumption) (by omega)) (by omega) | exact q_rg_cpy (by assumption) (by assumption)) (And.intro (by first | omega | assumption | exact q_rg_up (by assumption) (by omega) | exact q_rg_up (q_rg_up (by assumption) (by omega)) (by omega) | exact q_rg_cpy (by assumption) (by assumption)) (?_))))))))))))))))))))))))))))
          intro z74
          apply And.intro
          · intro h78
            intro z112 h112
            first | replace h112 := e_add h112 (by omega) | replace h112 := e_rng h112
            exact ⟨_, ⟨_, _, _, _, _, rfl, rfl, rfl, rfl, (by first | omega | assumption | exact q_rg_up (by assumption) (by omega) | exact q_rg_up (q_rg_up (by assumption) (by omega)) (by omega) | exact q_rg_cpy (by assumption) (by assumption))⟩, by omega⟩
          · intro h78
            apply And.intro
            · exact ⟨by omega, by omega⟩
            intro z91 h91
            intro z102 h102
            first | replace h102 := e_shl h102 (by omega) | replace h102 := e_rng h102
            intro z104 h104
            first | replace h104 := e_xor8 h104 (by omega) (by omega) | replace h104 := e_xor9 h104 (by omega) (by omega) | replace h104 := e_rng h104
            intro z105 h105
            replace h105 := e_and0 h105 (by omega)
            apply And.intro
            · exact ⟨by omega, by omega⟩
            intro z106 h106
            intro z107 h107
            first | replace h107 := e_add h107 (by omega) | replace h107 := e_rng h107
            refine Exists.intro [] (Exists.intro [q1 _, q1 _] (Exists.intro [] (And.intro rfl (And.intro rfl (And.intro rfl (And.intro trivial ?_))))))
            refine Exists.intro _ (Exists.intro _ (And.intro rfl (And.intro rfl (?_))))
            intro z108 h108
            apply And.intro
            · exact ⟨by omega, by omega⟩
            intro z112 h112
            first | replace h112 := e_add h112 (by omega) | replace h112 := e_rng h112
            exact ⟨_, ⟨_, _, _, _, _, rfl, rfl, rfl, rfl, (by first | omega | assumption | exact q_rg_up (by assumption) (by omega) | exact q_rg_up (q_rg_up (by assumption) (by omega)) (by omega) | exact q_rg_cpy (by assumption) (by assumption))⟩, by omega⟩
    simp only [I_X12_couples, h9, h51, if_false] at hI
  rintro lv st w' ⟨rfl, rfl, rfl⟩
  apply And.intro
  · exact ⟨by omega, by omega⟩
  exact ⟨_, _, _, rfl, rfl, rfl, rfl, (by first | omega | assumption | exact q_rg_up (by assumption) (by omega) | exact q_rg_up (q_rg_up (by assumption) (by omega)) (by omega) | exact q_rg_cpy (by assumption) (by assumption))⟩

theorem dX12_sumOf_0 : decode cX12_sumOf 0 = .ok (.iconst 0, 1) := by decide +kernel
theorem dX12_sumOf_1 : decode cX12_sumOf 1 = .ok (.istore_n 2, 1) := by decide +kernel
theorem dX12_sumOf_2 : decode cX12_sumOf 2 = .ok (.iconst 0, 1) := by decide +kernel
theorem dX12_sumOf_3 : decode cX12_sumOf 3 = .ok (.istore_n 3, 1) := by decide +kernel
theorem dX12_sumOf_4 : decode cX12_sumOf 4 = .ok (.iload_n 3, 1) := by decide +kernel
theorem dX12_sumOf_5 : decode cX12_sumOf 5 = .ok (.aload_n 0, 1) := by decide +kernel
theorem dX12_sumOf_6 : decode cX12_sumOf 6 = .ok (.getfield 303, 3) := by decide +kernel
theorem dX12_sumOf_9 : decode cX12_sumOf 9 = .ok (.if_icmp .ge 31, 3) := by decide +kernel
theorem dX12_sumOf_12 : decode cX12_sumOf 12 = .ok (.iload_n 2, 1) := by decide +kernel
theorem dX12_sumOf_13 : decode cX12_sumOf 13 = .ok (.iload_n 1, 1) := by decide +kernel
theorem dX12_sumOf_14 : decode cX12_sumOf 14 = .ok (.iload_n 3, 1) := by decide +kernel
theorem dX12_sumOf_15 : decode cX12_sumOf 15 = .ok (.invokestatic 92, 3) := by decide +kernel
theorem dX12_sumOf_18 : decode cX12_sumOf 18 = .ok (.ifCond .eq 13, 3) := by decide +kernel
theorem dX12_sumOf_21 : decode cX12_sumOf 21 = .ok (.aload_n 0, 1) := by decide +kernel
theorem dX12_sumOf_22 : decode cX12_sumOf 22 = .ok (.iconst 5, 1) := by decide +kernel
theorem dX12_sumOf_23 : decode cX12_sumOf 23 = .ok (.iload_n 3, 1) := by decide +kernel
theorem dX12_sumOf_24 : decode cX12_sumOf 24 = .ok (.iadd, 1) := by decide +kernel
theorem dX12_sumOf_25 : decode cX12_sumOf 25 = .ok (.invokevirtual 299, 3) := by decide +kernel
theorem dX12_sumOf_28 : decode cX12_sumOf 28 = .ok (.goto 4, 3) := by decide +kernel
theorem dX12_sumOf_31 : decode cX12_sumOf 31 = .ok (.iconst 0, 1) := by decide +kernel
theorem dX12_sumOf_32 : decode cX12_sumOf 32 = .ok (.iadd, 1) := by decide +kernel
theorem dX12_sumOf_33 : decode cX12_sumOf 33 = .ok (.istore_n 2, 1) := by decide +kernel
theorem dX12_sumOf_34 : decode cX12_sumOf 34 = .ok (.iinc 3 1, 3) := by decide +kernel
theorem dX12_sumOf_37 : decode cX12_sumOf 37 = .ok (.goto (-33), 3) := by decide +kernel
theorem dX12_sumOf_40 : decode cX12_sumOf 40 = .ok (.iload_n 2, 1) := by decide +kernel
theorem dX12_sumOf_41 : decode cX12_sumOf 41 = .ok (.ireturn, 1) := by decide +kernel
def is_X12_sumOf : Nat → List Nat := fun d => if d = 4 then [0, 1, 2, 3] else []
set_option maxRecDepth 100000 in
def b_X12_sumOf_32 (J : Nat → List qV → List qV → qW → Prop) (Q : qR) : qK := x_iadd (x_istore 2 (x_iinc 3 1 (x_cut [0, 1, 2, 3] (J 4))))
set_option maxRecDepth 100000 in
theorem s_X12_sumOf_32 {p : Program} {l : Launch} {e : Env} {R : Room} {s : State} {m : MethodId} {args : Array Value} {below : List Frame} {meth : Method} {c : Code} {nW : Nat} {dC : Nat → ClassId} {dI : Nat → Nat → Nat} {k : Nat → ClassId} {g : Nat → Nat} {A : Nat → Prop} {J : Nat → List qV → List qV → qW → Prop} {Q : qR} (X : q_X p R s m args meth c cX12_sumOf 4 nW 1 21 RX12 (some .int) dC dI k g A) (hJ : ∀ d : Nat, q_Sd p l e R s m args below meth c 4 nW dC dI k g A (MQ below (q_post (dC, dI) k g nW Q A) args s 0 0 A) d (x_cut (is_X12_sumOf d) (J d))) : q_Sd p l e R s m args below meth c 4 nW dC dI k g A (MQ below (q_post (dC, dI) k g nW Q A) args s 0 0 A) 32 (b_X12_sumOf_32 J Q) := by
  unfold b_X12_sumOf_32
  refine s_iadd X dX12_sumOf_32 ?_
  refine s_istore_n X rfl (by decide) dX12_sumOf_33 ?_
  refine s_iinc X (by decide) dX12_sumOf_34 ?_
  refine s_goto X (tgt := 4) dX12_sumOf_37 (by decide) ?_
  exact hJ 4
set_option maxRecDepth 100000 in
def b_X12_sumOf_4 (J : Nat → List qV → List qV → qW → Prop) (Q : qR) : qK := x_iload 3 (x_aload 0 (x_get 12 25 (x_icmp_ge (x_iload 2 (x_iret Q)) (x_iload 2 (x_iload 1 (x_iload 3 (x_callr none 2 spr_X12_has (x_if_eq (x_int 0 (b_X12_sumOf_32 J Q)) (x_aload 0 (x_int 5 (x_iload 3 (x_iadd (x_callr (some 12) 2 spr_X12_of (b_X12_sumOf_32 J Q))))))))))))))
set_option maxRecDepth 100000 in
theorem s_X12_sumOf_4 {p : Program} {l : Launch} {e : Env} {R : Room} {s : State} {m : MethodId} {args : Array Value} {below : List Frame} {meth : Method} {c : Code} {nW : Nat} {dC : Nat → ClassId} {dI : Nat → Nat → Nat} {k : Nat → ClassId} {g : Nat → Nat} {A : Nat → Prop} {J : Nat → List qV → List qV → qW → Prop} {Q : qR} (X : q_X p R s m args meth c cX12_sumOf 4 nW 1 21 RX12 (some .int) dC dI k g A) (hJ : ∀ d : Nat, q_Sd p l e R s m args below meth c 4 nW dC dI k g A (MQ below (q_post (dC, dI) k g nW Q A) args s 0 0 A) d (x_cut (is_X12_sumOf d) (J d))) : q_Sd p l e R s m args below meth c 4 nW dC dI k g A (MQ below (q_post (dC, dI) k g nW Q A) args s 0 0 A) 4 (b_X12_sumOf_4 J Q) := by
  unfold b_X12_sumOf_4
  refine s_iload_n X rfl dX12_sumOf_4 ?_
  refine s_aload_n X rfl dX12_sumOf_5 ?_
  refine s_get X (T := TX12) (C := RX12) (N := 45) tu_X12 rfl (by decide) tw_1022 dX12_sumOf_6 ?_
  refine s_icmp_ge X (tgt := 40) dX12_sumOf_9 (by decide) ?_ ?_
  · refine s_iload_n X rfl dX12_sumOf_40 ?_
    exact s_iret X dX12_sumOf_41
  · refine s_iload_n X rfl dX12_sumOf_12 ?_
    refine s_iload_n X rfl dX12_sumOf_13 ?_
    refine s_iload_n X rfl dX12_sumOf_14 ?_
    refine s_callSr X (m_X12_has l) tw_1233 tw_1234 tw_134 tw_1235 (by decide +kernel) ⟨by decide, by decide⟩ dX12_sumOf_15 ?_
    refine s_if_eq X (tgt := 31) dX12_sumOf_18 (by decide) ?_ ?_
    · refine s_iconst X ⟨by decide, by decide⟩ dX12_sumOf_31 ?_
      exact s_X12_sumOf_32 X hJ
    · refine s_aload_n X rfl dX12_sumOf_21 ?_
      refine s_iconst X ⟨by decide, by decide⟩ dX12_sumOf_22 ?_
      refine s_iload_n X rfl dX12_sumOf_23 ?_
      refine s_iadd X dX12_sumOf_24 ?_
      refine s_callVr X (m_X12_of l) tw_1189 tw_1190 tw_1603 tw_134 tw_1191 rfl (by decide +kernel) ⟨by decide, by decide⟩ dX12_sumOf_25 ?_
      refine s_goto X (tgt := 32) dX12_sumOf_28 (by decide) ?_
      exact s_X12_sumOf_32 X hJ
set_option maxRecDepth 100000 in
def b_X12_sumOf_0 (J : Nat → List qV → List qV → qW → Prop) (Q : qR) : qK := x_int 0 (x_istore 2 (x_int 0 (x_istore 3 (x_cut [0, 1, 2, 3] (J 4)))))
set_option maxRecDepth 100000 in
theorem s_X12_sumOf_0 {p : Program} {l : Launch} {e : Env} {R : Room} {s : State} {m : MethodId} {args : Array Value} {below : List Frame} {meth : Method} {c : Code} {nW : Nat} {dC : Nat → ClassId} {dI : Nat → Nat → Nat} {k : Nat → ClassId} {g : Nat → Nat} {A : Nat → Prop} {J : Nat → List qV → List qV → qW → Prop} {Q : qR} (X : q_X p R s m args meth c cX12_sumOf 4 nW 1 21 RX12 (some .int) dC dI k g A) (hJ : ∀ d : Nat, q_Sd p l e R s m args below meth c 4 nW dC dI k g A (MQ below (q_post (dC, dI) k g nW Q A) args s 0 0 A) d (x_cut (is_X12_sumOf d) (J d))) : q_Sd p l e R s m args below meth c 4 nW dC dI k g A (MQ below (q_post (dC, dI) k g nW Q A) args s 0 0 A) 0 (b_X12_sumOf_0 J Q) := by
  unfold b_X12_sumOf_0
  refine s_iconst X ⟨by decide, by decide⟩ dX12_sumOf_0 ?_
  refine s_istore_n X rfl (by decide) dX12_sumOf_1 ?_
  refine s_iconst X ⟨by decide, by decide⟩ dX12_sumOf_2 ?_
  refine s_istore_n X rfl (by decide) dX12_sumOf_3 ?_
  exact hJ 4

def spr_X12_sumOf : List qV → qW → (Option qV → Prop) → Prop := fun av w Q => ∃ (mco : Int) (mre : Int) (mle : Int) (mbe : Int) (mso : Int) (mva : Int) (mwo : Int) (mwr : Int) (mlf : Int) (mlp : Int) (mfp : Int) (mfd : Int) (mgo : Int) (mbo : Int) (mpe : Int) (mye : Int) (mpr : Int) (mld : Int) (msi : Int) (mse : Int) (bs : Nat → Int) (a : Int), av = [q2 0, q1 a] ∧ w = [.inr (12, [q1 mco, q2 2, q2 3, q2 4, q2 5, q2 6, q2 1, q2 7, q2 8, q2 9, q1 mre, q1 mle, q1 mbe, q1 mso, q1 mva, q3 mwo, q1 mwr, q1 mlf, q1 mlp, q2 10, q2 11, q1 mfp, q1 mfd, q1 mgo, q1 mbo, q1 mpe, q1 mye, q2 12, q1 mpr, q2 13, q2 14, q2 15, q2 16, q1 mld, q2 17, q1 msi, q2 18, q2 19, q2 20, q2 21, q2 22, q1 mse, q2 23, q2 24, q2 25]), .inl (0, 600, .inl bs)] ∧ (0 ≤ mbo ∧ mbo ≤ 1) ∧ (0 ≤ mpe ∧ mpe ≤ 8) ∧ (BI bs) ∧ (∀ (r : Int) , Q (some (q1 r)))
def sp_X12_sumOf : qS := fun av w Q => spr_X12_sumOf av w (fun r => Q r w)
def I_X12_sumOf (mco : Int) (mre : Int) (mle : Int) (mbe : Int) (mso : Int) (mva : Int) (mwo : Int) (mwr : Int) (mlf : Int) (mlp : Int) (mfp : Int) (mfd : Int) (mgo : Int) (mbo : Int) (mpe : Int) (mye : Int) (mpr : Int) (mld : Int) (msi : Int) (mse : Int) (bs : Nat → Int) (a : Int) : Nat → Nat → List qV → List qV → qW → Prop := fun dz mz vz sz wz => if dz = 4 then (∃ (v2 : Int) (v3 : Int), vz = [q2 0, q1 a, q1 v2, q1 v3] ∧ sz = [] ∧ wz = [.inr (12, [q1 mco, q2 2, q2 3, q2 4, q2 5, q2 6, q2 1, q2 7, q2 8, q2 9, q1 mre, q1 mle, q1 mbe, q1 mso, q1 mva, q3 mwo, q1 mwr, q1 mlf, q1 mlp, q2 10, q2 11, q1 mfp, q1 mfd, q1 mgo, q1 mbo, q1 mpe, q1 mye, q2 12, q1 mpr, q2 13, q2 14, q2 15, q2 16, q1 mld, q2 17, q1 msi, q2 18, q2 19, q2 20, q2 21, q2 22, q1 mse, q2 23, q2 24, q2 25]), .inl (0, 600, .inl bs)] ∧ mz = (mpe - v3).toNat ∧ (0 ≤ v3 ∧ v3 ≤ mpe)) else False
set_option maxHeartbeats 4000000 in
set_option maxRecDepth 100000 in
theorem m_X12_sumOf (l : Launch) : q_M l yX12_sumOf cX12_sumOf 4 (some .int) 1 21 sp_X12_sumOf := by
  refine q_meth (by decide) (fun av w Q h => by obtain ⟨mco, mre, mle, mbe, mso, mva, mwo, mwr, mlf, mlp, mfp, mfd, mgo, mbo, mpe, mye, mpr, mld, msi, mse, bs, a, rfl, rfl, hbo, hpe, hbi, hQ⟩ := h; exact Nat.le_of_ble_eq_true rfl) ?_
  intro p e R s m args below meth c dC dI k g A av w Q hsp oka okw X
  obtain ⟨mco, mre, mle, mbe, mso, mva, mwo, mwr, mlf, mlp, mfp, mfd, mgo, mbo, mpe, mye, mpr, mld, msi, mse, bs, a, rfl, rfl, hbo, hpe, hbi, hQ⟩ := hsp
  have o_a : -2147483648 ≤ a ∧ a ≤ 2147483647 := oka _ (List.mem_of_getElem? (i := 1) rfl)
  refine s_mono (s_X12_sumOf_0 X (J := fun dz vz sz wz => ∃ mz, I_X12_sumOf mco mre mle mbe mso mva mwo mwr mlf mlp mfp mfd mgo mbo mpe mye mpr mld msi mse bs a dz mz vz sz wz) (q_loopn (I_X12_sumOf mco mre mle mbe mso mva mwo mwr mlf mlp mfp mfd mgo mbo mpe mye mpr mld msi mse bs a) (fun dz J => if dz = 4 then b_X12_sumOf_4 J Q else q_F) ?hs ?hv)) ?_
  case hs =>
    intro d J hJ
    by_cases h4 : d = 4
    · subst h4; exact s_X12_sumOf_4 X hJ
    simp only [h4, if_false]
    exact s_F
  case hv =>
    intro dz mz vz sz wz hI okv oks okw hlen
    by_cases h4 : dz = 4
    · subst h4
      obtain ⟨v2, v3, rfl, rfl, rfl, hn, hp⟩ := hI
      apply And.intro
      · intro h9
        exact hQ _
      · intro h9
        refine Exists.intro [] (Exists.intro [q1 _, q1 _] (Exists.intro [] (And.intro rfl (And.intro rfl (And.intro rfl (And.intro trivial ?_))))))
        refine Exists.intro _ (Exists.intro _ (And.intro rfl (And.intro rfl (?_))))
        intro z15 h15
        apply And.intro
        · intro h18
          intro z32 h32
          first | replace h32 := e_add h32 (by omega) | replace h32 := e_rng h32
          intro z34 h34
          first | replace h34 := e_add h34 (by omega) | replace h34 := e_rng h34
          exact ⟨_, ⟨_, _, rfl, rfl, rfl, rfl, (by first | omega | assumption | exact q_rg_up (by assumption) (by omega) | exact q_rg_up (q_rg_up (by assumption) (by omega)) (by omega) | exact q_rg_cpy (by assumption) (by assumption))⟩, by omega⟩
        · intro h18
          intro z24 h24
          first | replace h24 := e_add h24 (by omega) | replace h24 := e_rng h24
          refine Exists.intro [0, 1, 2, 3, 4, 5, 6, 7, 8, 9, 10, 11, 12, 13, 14, 15, 16, 17, 18, 19, 20, 21, 22, 23, 24, 25] (Exists.intro [q2 0, q1 _] (Exists.intro ([.inr (12, [q1 _, q2 2, q2 3, q2 4, q2 5, q2 6, q2 1, q2 7, q2 8, q2 9, q1 _, q1 _, q1 _, q1 _, q1 _, q3 _, q1 _, q1 _, q1 _, q2 10, q2 11, q1 _, q1 _, q1 _, q1 _, q1 _, q1 _, q2 12, q1 _, q2 13, q2 14, q2 15, q2 16, q1 _, q2 17, q1 _, q2 18, q2 19, q2 20, q2 21, q2 22, q1 _, q2 23, q2 24, q2 25]), .inl (0, 600, .inl _)]) (And.intro rfl (And.intro rfl (And.intro rfl (And.intro ⟨⟨_, rfl⟩, rfl⟩ ?_))))))
          refine Exists.intro _ (Exists.intro _ (Exists.intro _ (Exists.intro _ (Exists.intro _ (Exists.intro _ (Exists.intro _ (Exists.intro _ (Exists.intro _ (Exists.intro _ (Exists.intro _ (Exists.intro _ (Exists.intro _ (Exists.intro _ (Exists.intro _ (Exists.intro _ (Exists.intro _ (Exists.intro _ (Exists.intro _ (Exists.intro _ (Exists.intro _ (Exists.intro _ (And.intro rfl (And.intro rfl (And.intro (by first | omega | assumption | exact q_rg_up (by assumption) (by omega) | exact q_rg_up (q_rg_up (by assumption) (by omega)) (by omega) | exact q_rg_cpy (by assumption) (by assumption)) (And.intro (by first | omega | assumption | exact q_rg_up (by assumption) (by omega) | exact q_rg_up (q_rg_up (by assumption) (by omega)) (by omega) | exact q_rg_cpy (by assumption) (by assumption)) (And.intro (by first | omega | assumption | exact q_rg_up (by assumption) (by omega) | exact q_rg_up (q_rg_up (by assumption) (by omega)) (by omega) | exact q_rg_cpy (by assumption) (by assumption)) (?_)))))))))))))))))))))))))))
          intro z25 h25
          obtain ⟨h25, k25⟩ := h25
          first | replace k25 := OFQ_13 k25 (by omega) | replace k25 := OFQ_21 k25 (by omega) | clear k25
          intro z32 h32
          first | replace h32 := e_add h32 (by omega) | replace h32 := e_rng h32
          intro z34 h34
          first | replace h34 := e_add h34 (by omega) | replace h34 := e_rng h34
          exact ⟨_, ⟨_, _, rfl, rfl, rfl, rfl, (by first | omega | assumption | exact q_rg_up (by assumption) (by omega) | exact q_rg_up (q_rg_up (by assumption) (by omega)) (by omega) | exact q_rg_cpy (by assumption) (by assumption))⟩, by omega⟩
    simp only [I_X12_sumOf, h4, if_false] at hI
  rintro lv st w' ⟨rfl, rfl, rfl⟩
  exact ⟨_, _, _, rfl, rfl, rfl, rfl, (by first | omega | assumption | exact q_rg_up (by assumption) (by omega) | exact q_rg_up (q_rg_up (by assumption) (by omega)) (by omega) | exact q_rg_cpy (by assumption) (by assumption))⟩

theorem dX12_even_0 : decode cX12_even 0 = .ok (.aload_n 0, 1) := by decide +kernel
theorem dX12_even_1 : decode cX12_even 1 = .ok (.iconst 1, 1) := by decide +kernel
theorem dX12_even_2 : decode cX12_even 2 = .ok (.aload_n 0, 1) := by decide +kernel
theorem dX12_even_3 : decode cX12_even 3 = .ok (.getfield 303, 3) := by decide +kernel
theorem dX12_even_6 : decode cX12_even 6 = .ok (.ishl, 1) := by decide +kernel
theorem dX12_even_7 : decode cX12_even 7 = .ok (.iconst 1, 1) := by decide +kernel
theorem dX12_even_8 : decode cX12_even 8 = .ok (.isub, 1) := by decide +kernel
theorem dX12_even_9 : decode cX12_even 9 = .ok (.invokevirtual 401, 3) := by decide +kernel
theorem dX12_even_12 : decode cX12_even 12 = .ok (.istore_n 2, 1) := by decide +kernel
theorem dX12_even_13 : decode cX12_even 13 = .ok (.aload_n 0, 1) := by decide +kernel
theorem dX12_even_14 : decode cX12_even 14 = .ok (.getfield 303, 3) := by decide +kernel
theorem dX12_even_17 : decode cX12_even 17 = .ok (.ifCond .ne 7, 3) := by decide +kernel
theorem dX12_even_20 : decode cX12_even 20 = .ok (.iconst 0, 1) := by decide +kernel
theorem dX12_even_21 : decode cX12_even 21 = .ok (.goto 6, 3) := by decide +kernel
theorem dX12_even_24 : decode cX12_even 24 = .ok (.ldc_w 376, 3) := by decide +kernel
theorem dX12_even_27 : decode cX12_even 27 = .ok (.istore_n 3, 1) := by decide +kernel
theorem dX12_even_28 : decode cX12_even 28 = .ok (.iconst 1, 1) := by decide +kernel
theorem dX12_even_29 : decode cX12_even 29 = .ok (.istore 4, 2) := by decide +kernel
theorem dX12_even_31 : decode cX12_even 31 = .ok (.iload 4, 2) := by decide +kernel
theorem dX12_even_33 : decode cX12_even 33 = .ok (.bipush 99, 2) := by decide +kernel
theorem dX12_even_35 : decode cX12_even 35 = .ok (.if_icmp .gt 141, 3) := by decide +kernel
theorem dX12_even_38 : decode cX12_even 38 = .ok (.aload_n 0, 1) := by decide +kernel
theorem dX12_even_39 : decode cX12_even 39 = .ok (.getfield 303, 3) := by decide +kernel
theorem dX12_even_42 : decode cX12_even 42 = .ok (.ifCond .le 134, 3) := by decide +kernel
theorem dX12_even_45 : decode cX12_even 45 = .ok (.bipush 99, 2) := by decide +kernel
theorem dX12_even_47 : decode cX12_even 47 = .ok (.iload 4, 2) := by decide +kernel
theorem dX12_even_49 : decode cX12_even 49 = .ok (.iload_n 1, 1) := by decide +kernel
theorem dX12_even_50 : decode cX12_even 50 = .ok (.iadd, 1) := by decide +kernel
theorem dX12_even_51 : decode cX12_even 51 = .ok (.invokestatic 327, 3) := by decide +kernel
theorem dX12_even_54 : decode cX12_even 54 = .ok (.istore 5, 2) := by decide +kernel
theorem dX12_even_56 : decode cX12_even 56 = .ok (.iconst 0, 1) := by decide +kernel
theorem dX12_even_57 : decode cX12_even 57 = .ok (.istore 6, 2) := by decide +kernel
theorem dX12_even_59 : decode cX12_even 59 = .ok (.iconst 0, 1) := by decide +kernel
theorem dX12_even_60 : decode cX12_even 60 = .ok (.istore 7, 2) := by decide +kernel
theorem dX12_even_62 : decode cX12_even 62 = .ok (.iconst 0, 1) := by decide +kernel
theorem dX12_even_63 : decode cX12_even 63 = .ok (.istore 8, 2) := by decide +kernel
theorem dX12_even_65 : decode cX12_even 65 = .ok (.iload 8, 2) := by decide +kernel
theorem dX12_even_67 : decode cX12_even 67 = .ok (.aload_n 0, 1) := by decide +kernel
theorem dX12_even_68 : decode cX12_even 68 = .ok (.getfield 303, 3) := by decide +kernel
theorem dX12_even_71 : decode cX12_even 71 = .ok (.if_icmp .ge 49, 3) := by decide +kernel
theorem dX12_even_74 : decode cX12_even 74 = .ok (.iload 6, 2) := by decide +kernel
theorem dX12_even_76 : decode cX12_even 76 = .ok (.iconst 0, 1) := by decide +kernel
theorem dX12_even_77 : decode cX12_even 77 = .ok (.iload 4, 2) := by decide +kernel
theorem dX12_even_79 : decode cX12_even 79 = .ok (.aload_n 0, 1) := by decide +kernel
theorem dX12_even_80 : decode cX12_even 80 = .ok (.iconst 5, 1) := by decide +kernel
theorem dX12_even_81 : decode cX12_even 81 = .ok (.iload 8, 2) := by decide +kernel
theorem dX12_even_83 : decode cX12_even 83 = .ok (.iadd, 1) := by decide +kernel
theorem dX12_even_84 : decode cX12_even 84 = .ok (.invokevirtual 299, 3) := by decide +kernel
theorem dX12_even_87 : decode cX12_even 87 = .ok (.isub, 1) := by decide +kernel
theorem dX12_even_88 : decode cX12_even 88 = .ok (.invokestatic 162, 3) := by decide +kernel
theorem dX12_even_91 : decode cX12_even 91 = .ok (.iadd, 1) := by decide +kernel
theorem dX12_even_92 : decode cX12_even 92 = .ok (.istore 6, 2) := by decide +kernel
theorem dX12_even_94 : decode cX12_even 94 = .ok (.iload 7, 2) := by decide +kernel
theorem dX12_even_96 : decode cX12_even 96 = .ok (.iconst 0, 1) := by decide +kernel
theorem dX12_even_97 : decode cX12_even 97 = .ok (.aload_n 0, 1) := by decide +kernel
theorem dX12_even_98 : decode cX12_even 98 = .ok (.iconst 5, 1) := by decide +kernel
theorem dX12_even_99 : decode cX12_even 99 = .ok (.iload 8, 2) := by decide +kernel
theorem dX12_even_101 : decode cX12_even 101 = .ok (.iadd, 1) := by decide +kernel
theorem dX12_even_102 : decode cX12_even 102 = .ok (.invokevirtual 299, 3) := by decide +kernel
theorem dX12_even_105 : decode cX12_even 105 = .ok (.iload 5, 2) := by decide +kernel
theorem dX12_even_107 : decode cX12_even 107 = .ok (.isub, 1) := by decide +kernel
theorem dX12_even_108 : decode cX12_even 108 = .ok (.invokestatic 162, 3) := by decide +kernel
theorem dX12_even_111 : decode cX12_even 111 = .ok (.iadd, 1) := by decide +kernel
theorem dX12_even_112 : decode cX12_even 112 = .ok (.istore 7, 2) := by decide +kernel
theorem dX12_even_114 : decode cX12_even 114 = .ok (.iinc 8 1, 3) := by decide +kernel
theorem dX12_even_117 : decode cX12_even 117 = .ok (.goto (-52), 3) := by decide +kernel
theorem dX12_even_120 : decode cX12_even 120 = .ok (.iload_n 2, 1) := by decide +kernel
theorem dX12_even_121 : decode cX12_even 121 = .ok (.aload_n 0, 1) := by decide +kernel
theorem dX12_even_122 : decode cX12_even 122 = .ok (.getfield 303, 3) := by decide +kernel
theorem dX12_even_125 : decode cX12_even 125 = .ok (.iload 4, 2) := by decide +kernel
theorem dX12_even_127 : decode cX12_even 127 = .ok (.imul, 1) := by decide +kernel
theorem dX12_even_128 : decode cX12_even 128 = .ok (.if_icmp .lt 18, 3) := by decide +kernel
theorem dX12_even_131 : decode cX12_even 131 = .ok (.iload_n 2, 1) := by decide +kernel
theorem dX12_even_132 : decode cX12_even 132 = .ok (.aload_n 0, 1) := by decide +kernel
theorem dX12_even_133 : decode cX12_even 133 = .ok (.getfield 303, 3) := by decide +kernel
theorem dX12_even_136 : decode cX12_even 136 = .ok (.iload 5, 2) := by decide +kernel
theorem dX12_even_138 : decode cX12_even 138 = .ok (.imul, 1) := by decide +kernel
theorem dX12_even_139 : decode cX12_even 139 = .ok (.if_icmp .gt 7, 3) := by decide +kernel
theorem dX12_even_142 : decode cX12_even 142 = .ok (.iconst 1, 1) := by decide +kernel
theorem dX12_even_143 : decode cX12_even 143 = .ok (.goto 4, 3) := by decide +kernel
theorem dX12_even_146 : decode cX12_even 146 = .ok (.iconst 0, 1) := by decide +kernel
theorem dX12_even_147 : decode cX12_even 147 = .ok (.istore 8, 2) := by decide +kernel
theorem dX12_even_149 : decode cX12_even 149 = .ok (.iload 8, 2) := by decide +kernel
theorem dX12_even_151 : decode cX12_even 151 = .ok (.ifCond .eq 17, 3) := by decide +kernel
theorem dX12_even_154 : decode cX12_even 154 = .ok (.iload_n 3, 1) := by decide +kernel
theorem dX12_even_155 : decode cX12_even 155 = .ok (.iload 6, 2) := by decide +kernel
theorem dX12_even_157 : decode cX12_even 157 = .ok (.iload 7, 2) := by decide +kernel
theorem dX12_even_159 : decode cX12_even 159 = .ok (.invokestatic 162, 3) := by decide +kernel
theorem dX12_even_162 : decode cX12_even 162 = .ok (.invokestatic 327, 3) := by decide +kernel
theorem dX12_even_165 : decode cX12_even 165 = .ok (.goto 4, 3) := by decide +kernel
theorem dX12_even_168 : decode cX12_even 168 = .ok (.iload_n 3, 1) := by decide +kernel
theorem dX12_even_169 : decode cX12_even 169 = .ok (.istore_n 3, 1) := by decide +kernel
theorem dX12_even_170 : decode cX12_even 170 = .ok (.iinc 4 1, 3) := by decide +kernel
theorem dX12_even_173 : decode cX12_even 173 = .ok (.goto (-142), 3) := by decide +kernel
theorem dX12_even_176 : decode cX12_even 176 = .ok (.iload_n 3, 1) := by decide +kernel
theorem dX12_even_177 : decode cX12_even 177 = .ok (.ldc_w 376, 3) := by decide +kernel
theorem dX12_even_180 : decode cX12_even 180 = .ok (.if_icmp .lt 7, 3) := by decide +kernel
theorem dX12_even_183 : decode cX12_even 183 = .ok (.iconst (-1), 1) := by decide +kernel
theorem dX12_even_184 : decode cX12_even 184 = .ok (.goto 4, 3) := by decide +kernel
theorem dX12_even_187 : decode cX12_even 187 = .ok (.iload_n 3, 1) := by decide +kernel
theorem dX12_even_188 : decode cX12_even 188 = .ok (.ireturn, 1) := by decide +kernel
def is_X12_even : Nat → List Nat := fun d => if d = 31 then [0, 1, 2, 3, 4] else if d = 65 then [0, 1, 2, 3, 4, 5, 6, 7, 8] else []
set_option maxRecDepth 100000 in
def b_X12_even_188 (J : Nat → List qV → List qV → qW → Prop) (Q : qR) : qK := x_iret Q
set_option maxRecDepth 100000 in
theorem s_X12_even_188 {p : Program} {l : Launch} {e : Env} {R : Room} {s : State} {m : MethodId} {args : Array Value} {below : List Frame} {meth : Method} {c : Code} {nW : Nat} {dC : Nat → ClassId} {dI : Nat → Nat → Nat} {k : Nat → ClassId} {g : Nat → Nat} {A : Nat → Prop} {J : Nat → List qV → List qV → qW → Prop} {Q : qR} (X : q_X p R s m args meth c cX12_even 9 nW 2 44 RX12 (some .int) dC dI k g A) (hJ : ∀ d : Nat, q_Sd p l e R s m args below meth c 9 nW dC dI k g A (MQ below (q_post (dC, dI) k g nW Q A) args s 0 0 A) d (x_cut (is_X12_even d) (J d))) : q_Sd p l e R s m args below meth c 9 nW dC dI k g A (MQ below (q_post (dC, dI) k g nW Q A) args s 0 0 A) 188 (b_X12_even_188 J Q) := by
  unfold b_X12_even_188
  exact s_iret X dX12_even_188
set_option maxRecDepth 100000 in
def b_X12_even_176 (J : Nat → List qV → List qV → qW → Prop) (Q : qR) : qK := x_iload 3 (x_int 1000000 (x_icmp_lt (x_iload 3 (b_X12_even_188 J Q)) (x_int (-1) (b_X12_even_188 J Q))))
set_option maxRecDepth 100000 in
theorem s_X12_even_176 {p : Program} {l : Launch} {e : Env} {R : Room} {s : State} {m : MethodId} {args : Array Value} {below : List Frame} {meth : Method} {c : Code} {nW : Nat} {dC : Nat → ClassId} {dI : Nat → Nat → Nat} {k : Nat → ClassId} {g : Nat → Nat} {A : Nat → Prop} {J : Nat → List qV → List qV → qW → Prop} {Q : qR} (X : q_X p R s m args meth c cX12_even 9 nW 2 44 RX12 (some .int) dC dI k g A) (hJ : ∀ d : Nat, q_Sd p l e R s m args below meth c 9 nW dC dI k g A (MQ below (q_post (dC, dI) k g nW Q A) args s 0 0 A) d (x_cut (is_X12_even d) (J d))) : q_Sd p l e R s m args below meth c 9 nW dC dI k g A (MQ below (q_post (dC, dI) k g nW Q A) args s 0 0 A) 176 (b_X12_even_176 J Q) := by
  unfold b_X12_even_176
  refine s_iload_n X rfl dX12_even_176 ?_
  refine s_ldcw X ⟨by decide, by decide⟩ tw_1271 dX12_even_177 ?_
  refine s_icmp_lt X (tgt := 187) dX12_even_180 (by decide) ?_ ?_
  · refine s_iload_n X rfl dX12_even_187 ?_
    exact s_X12_even_188 X hJ
  · refine s_iconst X ⟨by decide, by decide⟩ dX12_even_183 ?_
    refine s_goto X (tgt := 188) dX12_even_184 (by decide) ?_
    exact s_X12_even_188 X hJ
set_option maxRecDepth 100000 in
def b_X12_even_169 (J : Nat → List qV → List qV → qW → Prop) (Q : qR) : qK := x_istore 3 (x_iinc 4 1 (x_cut [0, 1, 2, 3, 4] (J 31)))
set_option maxRecDepth 100000 in
theorem s_X12_even_169 {p : Program} {l : Launch} {e : Env} {R : Room} {s : State} {m : MethodId} {args : Array Value} {below : List Frame} {meth : Method} {c : Code} {nW : Nat} {dC : Nat → ClassId} {dI : Nat → Nat → Nat} {k : Nat → ClassId} {g : Nat → Nat} {A : Nat → Prop} {J : Nat → List qV → List qV → qW → Prop} {Q : qR} (X : q_X p R s m args meth c cX12_even 9 nW 2 44 RX12 (some .int) dC dI k g A) (hJ : ∀ d : Nat, q_Sd p l e R s m args below meth c 9 nW dC dI k g A (MQ below (q_post (dC, dI) k g nW Q A) args s 0 0 A) d (x_cut (is_X12_even d) (J d))) : q_Sd p l e R s m args below meth c 9 nW dC dI k g A (MQ below (q_post (dC, dI) k g nW Q A) args s 0 0 A) 169 (b_X12_even_169 J Q) := by
  unfold b_X12_even_169
  refine s_istore_n X rfl (by decide) dX12_even_169 ?_
  refine s_iinc X (by decide) dX12_even_170 ?_
  refine s_goto X (tgt := 31) dX12_even_173 (by decide) ?_
  exact hJ 31
set_option maxRecDepth 100000 in
def b_X12_even_147 (J : Nat → List qV → List qV → qW → Prop) (Q : qR) : qK := x_istore 8 (x_iload 8 (x_if_eq (x_iload 3 (b_X12_even_169 J Q)) (x_iload 3 (x_iload 6 (x_iload 7 (x_callr none 2 spr_X12_greater (x_callr none 2 spr_X12_lesser (b_X12_even_169 J Q))))))))
set_option maxRecDepth 100000 in
theorem s_X12_even_147 {p : Program} {l : Launch} {e : Env} {R : Room} {s : State} {m : MethodId} {args : Array Value} {below : List Frame} {meth : Method} {c : Code} {nW : Nat} {dC : Nat → ClassId} {dI : Nat → Nat → Nat} {k : Nat → ClassId} {g : Nat → Nat} {A : Nat → Prop} {J : Nat → List qV → List qV → qW → Prop} {Q : qR} (X : q_X p R s m args meth c cX12_even 9 nW 2 44 RX12 (some .int) dC dI k g A) (hJ : ∀ d : Nat, q_Sd p l e R s m args below meth c 9 nW dC dI k g A (MQ below (q_post (dC, dI) k g nW Q A) args s 0 0 A) d (x_cut (is_X12_even d) (J d))) : q_Sd p l e R s m args below meth c 9 nW dC dI k g A (MQ below (q_post (dC, dI) k g nW Q A) args s 0 0 A) 147 (b_X12_even_147 J Q) := by
  unfold b_X12_even_147
  refine s_istore X (by decide) dX12_even_147 ?_
  refine s_iload X dX12_even_149 ?_
  refine s_if_eq X (tgt := 168) dX12_even_151 (by decide) ?_ ?_
  · refine s_iload_n X rfl dX12_even_168 ?_
    exact s_X12_even_169 X hJ
  · refine s_iload_n X rfl dX12_even_154 ?_
    refine s_iload X dX12_even_155 ?_
    refine s_iload X dX12_even_157 ?_
    refine s_callSr X (m_X12_greater l) tw_1118 tw_1119 tw_134 tw_1120 (by decide +kernel) ⟨by decide, by decide⟩ dX12_even_159 ?_
    refine s_callSr X (m_X12_lesser l) tw_1239 tw_1240 tw_134 tw_1241 (by decide +kernel) ⟨by decide, by decide⟩ dX12_even_162 ?_
    refine s_goto X (tgt := 169) dX12_even_165 (by decide) ?_
    exact s_X12_even_169 X hJ
set_option maxRecDepth 100000 in
def b_X12_even_146 (J : Nat → List qV → List qV → qW → Prop) (Q : qR) : qK := x_int 0 (b_X12_even_147 J Q)
set_option maxRecDepth 100000 in
theorem s_X12_even_146 {p : Program} {l : Launch} {e : Env} {R : Room} {s : State} {m : MethodId} {args : Array Value} {below : List Frame} {meth : Method} {c : Code} {nW : Nat} {dC : Nat → ClassId} {dI : Nat → Nat → Nat} {k : Nat → ClassId} {g : Nat → Nat} {A : Nat → Prop} {J : Nat → List qV → List qV → qW → Prop} {Q : qR} (X : q_X p R s m args meth c cX12_even 9 nW 2 44 RX12 (some .int) dC dI k g A) (hJ : ∀ d : Nat, q_Sd p l e R s m args below meth c 9 nW dC dI k g A (MQ below (q_post (dC, dI) k g nW Q A) args s 0 0 A) d (x_cut (is_X12_even d) (J d))) : q_Sd p l e R s m args below meth c 9 nW dC dI k g A (MQ below (q_post (dC, dI) k g nW Q A) args s 0 0 A) 146 (b_X12_even_146 J Q) := by
  unfold b_X12_even_146
  refine s_iconst X ⟨by decide, by decide⟩ dX12_even_146 ?_
  exact s_X12_even_147 X hJ
set_option maxRecDepth 100000 in
def b_X12_even_107 (J : Nat → List qV → List qV → qW → Prop) (Q : qR) : qK := x_isub (x_callr none 2 spr_X12_greater (x_iadd (x_istore 7 (x_iinc 8 1 (x_cut [0, 1, 2, 3, 4, 5, 6, 7, 8] (J 65))))))
set_option maxRecDepth 100000 in
theorem s_X12_even_107 {p : Program} {l : Launch} {e : Env} {R : Room} {s : State} {m : MethodId} {args : Array Value} {below : List Frame} {meth : Method} {c : Code} {nW : Nat} {dC : Nat → ClassId} {dI : Nat → Nat → Nat} {k : Nat → ClassId} {g : Nat → Nat} {A : Nat → Prop} {J : Nat → List qV → List qV → qW → Prop} {Q : qR} (X : q_X p R s m args meth c cX12_even 9 nW 2 44 RX12 (some .int) dC dI k g A) (hJ : ∀ d : Nat, q_Sd p l e R s m args below meth c 9 nW dC dI k g A (MQ below (q_post (dC, dI) k g nW Q A) args s 0 0 A) d (x_cut (is_X12_even d) (J d))) : q_Sd p l e R s m args below meth c 9 nW dC dI k g A (MQ below (q_post (dC, dI) k g nW Q A) args s 0 0 A) 107 (b_X12_even_107 J Q) := by
  unfold b_X12_even_107
  refine s_isub X dX12_even_107 ?_
  refine s_callSr X (m_X12_greater l) tw_1118 tw_1119 tw_134 tw_1120 (by decide +kernel) ⟨by decide, by decide⟩ dX12_even_108 ?_
  refine s_iadd X dX12_even_111 ?_
  refine s_istore X (by decide) dX12_even_112 ?_
  refine s_iinc X (by decide) dX12_even_114 ?_
  refine s_goto X (tgt := 65) dX12_even_117 (by decide) ?_
  exact hJ 65
set_option maxRecDepth 100000 in
def b_X12_even_65 (J : Nat → List qV → List qV → qW → Prop) (Q : qR) : qK := x_iload 8 (x_aload 0 (x_get 12 25 (x_icmp_ge (x_iload 2 (x_aload 0 (x_get 12 25 (x_iload 4 (x_imul (x_icmp_lt (b_X12_even_146 J Q) (x_iload 2 (x_aload 0 (x_get 12 25 (x_iload 5 (x_imul (x_icmp_gt (b_X12_even_146 J Q) (x_int 1 (b_X12_even_147 J Q)))))))))))))) (x_iload 6 (x_int 0 (x_iload 4 (x_aload 0 (x_int 5 (x_iload 8 (x_iadd (x_callr (some 12) 2 spr_X12_of (x_isub (x_callr none 2 spr_X12_greater (x_iadd (x_istore 6 (x_iload 7 (x_int 0 (x_aload 0 (x_int 5 (x_iload 8 (x_iadd (x_callr (some 12) 2 spr_X12_of (x_iload 5 (b_X12_even_107 J Q))))))))))))))))))))))))
set_option maxRecDepth 100000 in
theorem s_X12_even_65 {p : Program} {l : Launch} {e : Env} {R : Room} {s : State} {m : MethodId} {args : Array Value} {below : List Frame} {meth : Method} {c : Code} {nW : Nat} {dC : Nat → ClassId} {dI : Nat → Nat → Nat} {k : Nat → ClassId} {g : Nat → Nat} {A : Nat → Prop} {J : Nat → List qV → List qV → qW → Prop} {Q : qR} (X : q_X p R s m args meth c cX12_even 9 nW 2 44 RX12 (some .int) dC dI k g A) (hJ : ∀ d : Nat, q_Sd p l e R s m args below meth c 9 nW dC dI k g A (MQ below (q_post (dC, dI) k g nW Q A) args s 0 0 A) d (x_cut (is_X12_even d) (J d))) : q_Sd p l e R s m args below meth c 9 nW dC dI k g A (MQ below (q_post (dC, dI) k g nW Q A) args s 0 0 A) 65 (b_X12_even_65 J Q) := by
  unfold b_X12_even_65
  refine s_iload X dX12_even_65 ?_
  refine s_aload_n X rfl dX12_even_67 ?_
  refine s_get X (T := TX12) (C := RX12) (N := 45) tu_X12 rfl (by decide) tw_1022 dX12_even_68 ?_
  refine s_icmp_ge X (tgt := 120) dX12_even_71 (by decide) ?_ ?_
  · refine s_iload_n X rfl dX12_even_120 ?_
    refine s_aload_n X rfl dX12_even_121 ?_
    refine s_get X (T := TX12) (C := RX12) (N := 45) tu_X12 rfl (by decide) tw_1022 dX12_even_122 ?_
    refine s_iload X dX12_even_125 ?_
    refine s_imul X dX12_even_127 ?_
    refine s_icmp_lt X (tgt := 146) dX12_even_128 (by decide) ?_ ?_
    · exact s_X12_even_146 X hJ
    · refine s_iload_n X rfl dX12_even_131 ?_
      refine s_aload_n X rfl dX12_even_132 ?_
      refine s_get X (T := TX12) (C := RX12) (N := 45) tu_X12 rfl (by decide) tw_1022 dX12_even_133 ?_
      refine s_iload X dX12_even_136 ?_
      refine s_imul X dX12_even_138 ?_
      refine s_icmp_gt X (tgt := 146) dX12_even_139 (by decide) ?_ ?_
      · exact s_X12_even_146 X hJ
      · refine s_iconst X ⟨by decide, by decide⟩ dX12_even_142 ?_
        refine s_goto X (tgt := 147) dX12_even_143 (by decide) ?_
        exact s_X12_even_147 X hJ
  · refine s_iload X dX12_even_74 ?_
    refine s_iconst X ⟨by decide, by decide⟩ dX12_even_76 ?_
    refine s_iload X dX12_even_77 ?_
    refine s_aload_n X rfl dX12_even_79 ?_
    refine s_iconst X ⟨by decide, by decide⟩ dX12_even_80 ?_
    refine s_iload X dX12_even_81 ?_
    refine s_iadd X dX12_even_83 ?_
    refine s_callVr X (m_X12_of l) tw_1189 tw_1190 tw_1603 tw_134 tw_1191 rfl (by decide +kernel) ⟨by decide, by decide⟩ dX12_even_84 ?_
    refine s_isub X dX12_even_87 ?_
    refine s_callSr X (m_X12_greater l) tw_1118 tw_1119 tw_134 tw_1120 (by decide +kernel) ⟨by decide, by decide⟩ dX12_even_88 ?_
    refine s_iadd X dX12_even_91 ?_
    refine s_istore X (by decide) dX12_even_92 ?_
    refine s_iload X dX12_even_94 ?_
    refine s_iconst X ⟨by decide, by decide⟩ dX12_even_96 ?_
    refine s_aload_n X rfl dX12_even_97 ?_
    refine s_iconst X ⟨by decide, by decide⟩ dX12_even_98 ?_
    refine s_iload X dX12_even_99 ?_
    refine s_iadd X dX12_even_101 ?_
    refine s_callVr X (m_X12_of l) tw_1189 tw_1190 tw_1603 tw_134 tw_1191 rfl (by decide +kernel) ⟨by decide, by decide⟩ dX12_even_102 ?_
    refine s_iload X dX12_even_105 ?_
    exact s_X12_even_107 X hJ
set_option maxRecDepth 100000 in
def b_X12_even_31 (J : Nat → List qV → List qV → qW → Prop) (Q : qR) : qK := x_iload 4 (x_int 99 (x_icmp_gt (b_X12_even_176 J Q) (x_aload 0 (x_get 12 25 (x_if_le (b_X12_even_176 J Q) (x_int 99 (x_iload 4 (x_iload 1 (x_iadd (x_callr none 2 spr_X12_lesser (x_istore 5 (x_int 0 (x_istore 6 (x_int 0 (x_istore 7 (x_int 0 (x_istore 8 (x_cut [0, 1, 2, 3, 4, 5, 6, 7, 8] (J 65)))))))))))))))))))
set_option maxRecDepth 100000 in
theorem s_X12_even_31 {p : Program} {l : Launch} {e : Env} {R : Room} {s : State} {m : MethodId} {args : Array Value} {below : List Frame} {meth : Method} {c : Code} {nW : Nat} {dC : Nat → ClassId} {dI : Nat → Nat → Nat} {k : Nat → ClassId} {g : Nat → Nat} {A : Nat → Prop} {J : Nat → List qV → List qV → qW → Prop} {Q : qR} (X : q_X p R s m args meth c cX12_even 9 nW 2 44 RX12 (some .int) dC dI k g A) (hJ : ∀ d : Nat, q_Sd p l e R s m args below meth c 9 nW dC dI k g A (MQ below (q_post (dC, dI) k g nW Q A) args s 0 0 A) d (x_cut (is_X12_even d) (J d))) : q_Sd p l e R s m args below meth c 9 nW dC dI k g A (MQ below (q_post (dC, dI) k g nW Q A) args s 0 0 A) 31 (b_X12_even_31 J Q) := by
  unfold b_X12_even_31
  refine s_iload X dX12_even_31 ?_
  refine s_bipush X ⟨by decide, by decide⟩ (by decide) dX12_even_33 ?_
  refine s_icmp_gt X (tgt := 176) dX12_even_35 (by decide) ?_ ?_
  · exact s_X12_even_176 X hJ
  · refine s_aload_n X rfl dX12_even_38 ?_
    refine s_get X (T := TX12) (C := RX12) (N := 45) tu_X12 rfl (by decide) tw_1022 dX12_even_39 ?_
    refine s_if_le X (tgt := 176) dX12_even_42 (by decide) ?_ ?_
    · exact s_X12_even_176 X hJ
    · refine s_bipush X ⟨by decide, by decide⟩ (by decide) dX12_even_45 ?_
      refine s_iload X dX12_even_47 ?_
      refine s_iload_n X rfl dX12_even_49 ?_
      refine s_iadd X dX12_even_50 ?_
      refine s_callSr X (m_X12_lesser l) tw_1239 tw_1240 tw_134 tw_1241 (by decide +kernel) ⟨by decide, by decide⟩ dX12_even_51 ?_
      refine s_istore X (by decide) dX12_even_54 ?_
      refine s_iconst X ⟨by decide, by decide⟩ dX12_even_56 ?_
      refine s_istore X (by decide) dX12_even_57 ?_
      refine s_iconst X ⟨by decide, by decide⟩ dX12_even_59 ?_
      refine s_istore X (by decide) dX12_even_60 ?_
      refine s_iconst X ⟨by decide, by decide⟩ dX12_even_62 ?_
      refine s_istore X (by decide) dX12_even_63 ?_
      exact hJ 65
set_option maxRecDepth 100000 in
def b_X12_even_27 (J : Nat → List qV → List qV → qW → Prop) (Q : qR) : qK := x_istore 3 (x_int 1 (x_istore 4 (x_cut [0, 1, 2, 3, 4] (J 31))))
set_option maxRecDepth 100000 in
theorem s_X12_even_27 {p : Program} {l : Launch} {e : Env} {R : Room} {s : State} {m : MethodId} {args : Array Value} {below : List Frame} {meth : Method} {c : Code} {nW : Nat} {dC : Nat → ClassId} {dI : Nat → Nat → Nat} {k : Nat → ClassId} {g : Nat → Nat} {A : Nat → Prop} {J : Nat → List qV → List qV → qW → Prop} {Q : qR} (X : q_X p R s m args meth c cX12_even 9 nW 2 44 RX12 (some .int) dC dI k g A) (hJ : ∀ d : Nat, q_Sd p l e R s m args below meth c 9 nW dC dI k g A (MQ below (q_post (dC, dI) k g nW Q A) args s 0 0 A) d (x_cut (is_X12_even d) (J d))) : q_Sd p l e R s m args below meth c 9 nW dC dI k g A (MQ below (q_post (dC, dI) k g nW Q A) args s 0 0 A) 27 (b_X12_even_27 J Q) := by
  unfold b_X12_even_27
  refine s_istore_n X rfl (by decide) dX12_even_27 ?_
  refine s_iconst X ⟨by decide, by decide⟩ dX12_even_28 ?_
  refine s_istore X (by decide) dX12_even_29 ?_
  exact hJ 31
set_option maxRecDepth 100000 in
def b_X12_even_0 (J : Nat → List qV → List qV → qW → Prop) (Q : qR) : qK := x_aload 0 (x_int 1 (x_aload 0 (x_get 12 25 (x_ishl (x_int 1 (x_isub (x_callr (some 12) 2 spr_X12_sumOf (x_istore 2 (x_aload 0 (x_get 12 25 (x_if_ne (x_int 1000000 (b_X12_even_27 J Q)) (x_int 0 (b_X12_even_27 J Q)))))))))))))
set_option maxRecDepth 100000 in
theorem s_X12_even_0 {p : Program} {l : Launch} {e : Env} {R : Room} {s : State} {m : MethodId} {args : Array Value} {below : List Frame} {meth : Method} {c : Code} {nW : Nat} {dC : Nat → ClassId} {dI : Nat → Nat → Nat} {k : Nat → ClassId} {g : Nat → Nat} {A : Nat → Prop} {J : Nat → List qV → List qV → qW → Prop} {Q : qR} (X : q_X p R s m args meth c cX12_even 9 nW 2 44 RX12 (some .int) dC dI k g A) (hJ : ∀ d : Nat, q_Sd p l e R s m args below meth c 9 nW dC dI k g A (MQ below (q_post (dC, dI) k g nW Q A) args s 0 0 A) d (x_cut (is_X12_even d) (J d))) : q_Sd p l e R s m args below meth c 9 nW dC dI k g A (MQ below (q_post (dC, dI) k g nW Q A) args s 0 0 A) 0 (b_X12_even_0 J Q) := by
  unfold b_X12_even_0
  refine s_aload_n X rfl dX12_even_0 ?_
  refine s_iconst X ⟨by decide, by decide⟩ dX12_even_1 ?_
  refine s_aload_n X rfl dX12_even_2 ?_
  refine s_get X (T := TX12) (C := RX12) (N := 45) tu_X12 rfl (by decide) tw_1022 dX12_even_3 ?_
  refine s_ishl X dX12_even_6 ?_
  refine s_iconst X ⟨by decide, by decide⟩ dX12_even_7 ?_
  refine s_isub X dX12_even_8 ?_
  refine s_callVr X (m_X12_sumOf l) tw_1301 tw_1302 tw_1620 tw_134 tw_1303 rfl (by decide +kernel) ⟨by decide, by decide⟩ dX12_even_9 ?_
  refine s_istore_n X rfl (by decide) dX12_even_12 ?_
  refine s_aload_n X rfl dX12_even_13 ?_
  refine s_get X (T := TX12) (C := RX12) (N := 45) tu_X12 rfl (by decide) tw_1022 dX12_even_14 ?_
  refine s_if_ne X (tgt := 24) dX12_even_17 (by decide) ?_ ?_
  · refine s_ldcw X ⟨by decide, by decide⟩ tw_1271 dX12_even_24 ?_
    exact s_X12_even_27 X hJ
  · refine s_iconst X ⟨by decide, by decide⟩ dX12_even_20 ?_
    refine s_goto X (tgt := 27) dX12_even_21 (by decide) ?_
    exact s_X12_even_27 X hJ

def spr_X12_even : List qV → qW → (Option qV → Prop) → Prop := fun av w Q => ∃ (mco : Int) (mre : Int) (mle : Int) (mbe : Int) (mso : Int) (mva : Int) (mwo : Int) (mwr : Int) (mlf : Int) (mlp : Int) (mfp : Int) (mfd : Int) (mgo : Int) (mbo : Int) (mpe : Int) (mye : Int) (mpr : Int) (mld : Int) (msi : Int) (mse : Int) (bs : Nat → Int) (a : Int), av = [q2 0, q1 a] ∧ w = [.inr (12, [q1 mco, q2 2, q2 3, q2 4, q2 5, q2 6, q2 1, q2 7, q2 8, q2 9, q1 mre, q1 mle, q1 mbe, q1 mso, q1 mva, q3 mwo, q1 mwr, q1 mlf, q1 mlp, q2 10, q2 11, q1 mfp, q1 mfd, q1 mgo, q1 mbo, q1 mpe, q1 mye, q2 12, q1 mpr, q2 13, q2 14, q2 15, q2 16, q1 mld, q2 17, q1 msi, q2 18, q2 19, q2 20, q2 21, q2 22, q1 mse, q2 23, q2 24, q2 25]), .inl (0, 600, .inl bs)] ∧ (0 ≤ mbo ∧ mbo ≤ 1) ∧ (0 ≤ mpe ∧ mpe ≤ 8) ∧ (BI bs) ∧ (0 ≤ a ∧ a ≤ 99) ∧ (∀ (r : Int) , Q (some (q1 r)))
def sp_X12_even : qS := fun av w Q => spr_X12_even av w (fun r => Q r w)
def I_X12_even (mco : Int) (mre : Int) (mle : Int) (mbe : Int) (mso : Int) (mva : Int) (mwo : Int) (mwr : Int) (mlf : Int) (mlp : Int) (mfp : Int) (mfd : Int) (mgo : Int) (mbo : Int) (mpe : Int) (mye : Int) (mpr : Int) (mld : Int) (msi : Int) (mse : Int) (bs : Nat → Int) (a : Int) : Nat → Nat → List qV → List qV → qW → Prop := fun dz mz vz sz wz => if dz = 31 then (∃ (v2 : Int) (v3 : Int) (v4 : Int), vz = [q2 0, q1 a, q1 v2, q1 v3, q1 v4] ∧ sz = [] ∧ wz = [.inr (12, [q1 mco, q2 2, q2 3, q2 4, q2 5, q2 6, q2 1, q2 7, q2 8, q2 9, q1 mre, q1 mle, q1 mbe, q1 mso, q1 mva, q3 mwo, q1 mwr, q1 mlf, q1 mlp, q2 10, q2 11, q1 mfp, q1 mfd, q1 mgo, q1 mbo, q1 mpe, q1 mye, q2 12, q1 mpr, q2 13, q2 14, q2 15, q2 16, q1 mld, q2 17, q1 msi, q2 18, q2 19, q2 20, q2 21, q2 22, q1 mse, q2 23, q2 24, q2 25]), .inl (0, 600, .inl bs)] ∧ mz = 1000 * (100 - v4).toNat ∧ (1 ≤ v4 ∧ v4 ≤ 100)) else if dz = 65 then (∃ (v2 : Int) (v3 : Int) (v4 : Int) (v5 : Int) (v6 : Int) (v7 : Int) (v8 : Int), vz = [q2 0, q1 a, q1 v2, q1 v3, q1 v4, q1 v5, q1 v6, q1 v7, q1 v8] ∧ sz = [] ∧ wz = [.inr (12, [q1 mco, q2 2, q2 3, q2 4, q2 5, q2 6, q2 1, q2 7, q2 8, q2 9, q1 mre, q1 mle, q1 mbe, q1 mso, q1 mva, q3 mwo, q1 mwr, q1 mlf, q1 mlp, q2 10, q2 11, q1 mfp, q1 mfd, q1 mgo, q1 mbo, q1 mpe, q1 mye, q2 12, q1 mpr, q2 13, q2 14, q2 15, q2 16, q1 mld, q2 17, q1 msi, q2 18, q2 19, q2 20, q2 21, q2 22, q1 mse, q2 23, q2 24, q2 25]), .inl (0, 600, .inl bs)] ∧ mz = 1000 * (100 - v4).toNat - 500 + (mpe - v8).toNat ∧ (1 ≤ v4 ∧ v4 ≤ 99 ∧ 0 ≤ v8 ∧ v8 ≤ mpe)) else False
set_option maxHeartbeats 4000000 in
set_option maxRecDepth 100000 in
theorem m_X12_even (l : Launch) : q_M l yX12_even cX12_even 9 (some .int) 2 44 sp_X12_even := by
  refine q_meth (by decide) (fun av w Q h => by obtain ⟨mco, mre, mle, mbe, mso, mva, mwo, mwr, mlf, mlp, mfp, mfd, mgo, mbo, mpe, mye, mpr, mld, msi, mse, bs, a, rfl, rfl, hbo, hpe, hbi, ha, hQ⟩ := h; exact Nat.le_of_ble_eq_true rfl) ?_
  intro p e R s m args below meth c dC dI k g A av w Q hsp oka okw X
  obtain ⟨mco, mre, mle, mbe, mso, mva, mwo, mwr, mlf, mlp, mfp, mfd, mgo, mbo, mpe, mye, mpr, mld, msi, mse, bs, a, rfl, rfl, hbo, hpe, hbi, ha, hQ⟩ := hsp
  have o_a : -2147483648 ≤ a ∧ a ≤ 2147483647 := oka _ (List.mem_of_getElem? (i := 1) rfl)
  refine s_mono (s_X12_even_0 X (J := fun dz vz sz wz => ∃ mz, I_X12_even mco mre mle mbe mso mva mwo mwr mlf mlp mfp mfd mgo mbo mpe mye mpr mld msi mse bs a dz mz vz sz wz) (q_loopn (I_X12_even mco mre mle mbe mso mva mwo mwr mlf mlp mfp mfd mgo mbo mpe mye mpr mld msi mse bs a) (fun dz J => if dz = 31 then b_X12_even_31 J Q else if dz = 65 then b_X12_even_65 J Q else q_F) ?hs ?hv)) ?_
  case hs =>
    intro d J hJ
    by_cases h31 : d = 31
    · subst h31; exact s_X12_even_31 X hJ
    by_cases h65 : d = 65
    · subst h65; exact s_X12_even_65 X hJ
    simp only [h31, h65, if_false]
    exact s_F
  case hv =>
    intro dz mz vz sz wz hI okv oks okw hlen
    by_cases h31 : dz = 31
    · subst h31
      obtain ⟨v2, v3, v4, rfl, rfl, rfl, hn, hp⟩ := hI
      apply And.intro
      · intro h35
        apply And.intro
        · intro h180
          exact hQ _
        · intro h180
          exact hQ _
      · intro h35
        apply And.intro
        · intro h42
          apply And.intro
          · intro h180
            exact hQ _
          · intro h180
            exact hQ _
        · intro h42
          intro z50 h50
          first | replace h50 := e_add h50 (by omega) | replace h50 := e_rng h50
          refine Exists.intro [] (Exists.intro [q1 _, q1 _] (Exists.intro [] (And.intro rfl (And.intro rfl (And.intro rfl (And.intro trivial ?_))))))
          refine Exists.intro _ (Exists.intro _ (And.intro rfl (And.intro rfl (?_))))
          intro z51 h51
          exact ⟨_, ⟨_, _, _, _, _, _, _, rfl, rfl, rfl, rfl, (by first | omega | assumption | exact q_rg_up (by assumption) (by omega) | exact q_rg_up (q_rg_up (by assumption) (by omega)) (by omega) | exact q_rg_cpy (by assumption) (by assumption))⟩, by omega⟩
    by_cases h65 : dz = 65
    · subst h65
      obtain ⟨v2, v3, v4, v5, v6, v7, v8, rfl, rfl, rfl, hn, hp⟩ := hI
      apply And.intro
      · intro h71
        intro z127 h127
        first | replace h127 := e_mul h127 (by omega) | replace h127 := e_rng h127
        apply And.intro
        · intro h128
          apply And.intro
          · intro h151
            intro z170 h170
            first | replace h170 := e_add h170 (by omega) | replace h170 := e_rng h170
            exact ⟨_, ⟨_, _, _, rfl, rfl, rfl, rfl, (by first | omega | assumption | exact q_rg_up (by assumption) (by omega) | exact q_rg_up (q_rg_up (by assumption) (by omega)) (by omega) | exact q_rg_cpy (by assumption) (by assumption))⟩, by omega⟩
          · intro h151
            refine Exists.intro [] (Exists.intro [q1 _, q1 _] (Exists.intro [] (And.intro rfl (And.intro rfl (And.intro rfl (And.intro trivial ?_))))))
            refine Exists.intro _ (Exists.intro _ (And.intro rfl (And.intro rfl (?_))))
            intro z159 h159
            refine Exists.intro [] (Exists.intro [q1 _, q1 _] (Exists.intro [] (And.intro rfl (And.intro rfl (And.intro rfl (And.intro trivial ?_))))))
            refine Exists.intro _ (Exists.intro _ (And.intro rfl (And.intro rfl (?_))))
            intro z162 h162
            intro z170 h170
            first | replace h170 := e_add h170 (by omega) | replace h170 := e_rng h170
            exact ⟨_, ⟨_, _, _, rfl, rfl, rfl, rfl, (by first | omega | assumption | exact q_rg_up (by assumption) (by omega) | exact q_rg_up (q_rg_up (by assumption) (by omega)) (by omega) | exact q_rg_cpy (by assumption) (by assumption))⟩, by omega⟩
        · intro h128
          intro z138 h138
          first | replace h138 := e_mul h138 (by omega) | replace h138 := e_rng h138
          apply And.intro
          · intro h139
            apply And.intro
            · intro h151
              intro z170 h170
              first | replace h170 := e_add h170 (by omega) | replace h170 := e_rng h170
              exact ⟨_, ⟨_, _, _, rfl, rfl, rfl, rfl, (by first | omega | assumption | exact q_rg_up (by assumption) (by omega) | exact q_rg_up (q_rg_up (by assumption) (by omega)) (by omega) | exact q_rg_cpy (by assumption) (by assumption))⟩, by omega⟩
            · intro h151
              refine Exists.intro [] (Exists.intro [q1 _, q1 _] (Exists.intro [] (And.intro rfl (And.intro rfl (And.intro rfl (And.intro trivial ?_))))))
              refine Exists.intro _ (Exists.intro _ (And.intro rfl (And.intro rfl (?_))))
              intro z159 h159
              refine Exists.intro [] (Exists.intro [q1 _, q1 _] (Exists.intro [] (And.intro rfl (And.intro rfl (And.intro rfl (And.intro trivial ?_))))))
              refine Exists.intro _ (Exists.intro _ (And.intro rfl (And.intro rfl (?_))))
              intro z162 h162
              intro z170 h170
              first | replace h170 := e_add h170 (by omega) | replace h170 := e_rng h170
              exact ⟨_, ⟨_, _, _, rfl, rfl, rfl, rfl, (by first | omega | assumption | exact q_rg_up (by assumption) (by omega) | exact q_rg_up (q_rg_up (by assumption) (by omega)) (by omega) | exact q_rg_cpy (by assumption) (by assumption))⟩, by omega⟩
          · intro h139
            apply And.intro
            · intro h151
              intro z170 h170
              first | replace h170 := e_add h170 (by omega) | replace h170 := e_rng h170
              exact ⟨_, ⟨_, _, _, rfl, rfl, rfl, rfl, (by first | omega | assumption | exact q_rg_up (by assumption) (by omega) | exact q_rg_up (q_rg_up (by assumption) (by omega)) (by omega) | exact q_rg_cpy (by assumption) (by assumption))⟩, by omega⟩
            · intro h151
              refine Exists.intro [] (Exists.intro [q1 _, q1 _] (Exists.intro [] (And.intro rfl (And.intro rfl (And.intro rfl (And.intro trivial ?_))))))
              refine Exists.intro _ (Exists.intro _ (And.intro rfl (And.intro rfl (?_))))
              intro z159 h159
              refine Exists.intro [] (Exists.intro [q1 _, q1 _] (Exists.intro [] (And.intro rfl (And.intro rfl (And.intro rfl (And.intro trivial ?_))))))
              refine Exists.intro _ (Exists.intro _ (And.intro rfl (And.intro rfl (?_))))
              intro z162 h162
              intro z170 h170
              first | replace h170 := e_add h170 (by omega) | replace h170 := e_rng h170
              exact ⟨_, ⟨_, _, _, rfl, rfl, rfl, rfl, (by first | omega | assumption | exact q_rg_up (by assumption) (by omega) | exact q_rg_up (q_rg_up (by assumption) (by omega)) (by omega) | exact q_rg_cpy (by assumption) (by assumption))⟩, by omega⟩
      · intro h71
        intro z83 h83
        first | replace h83 := e_add h83 (by omega) | replace h83 := e_rng h83
        refine Exists.intro [0, 1, 2, 3, 4, 5, 6, 7, 8, 9, 10, 11, 12, 13, 14, 15, 16, 17, 18, 19, 20, 21, 22, 23, 24, 25] (Exists.intro [q2 0, q1 _] (Exists.intro ([.inr (12, [q1 _, q2 2, q2 3, q2 4, q2 5, q2 6, q2 1, q2 7, q2 8, q2 9, q1 _, q1 _, q1 _, q1 _, q1 _, q3 _, q1 _, q1 _, q1 _, q2 10, q2 11, q1 _, q1 _, q1 _, q1 _, q1 _, q1 _, q2 12, q1 _, q2 13, q2 14, q2 15, q2 16, q1 _, q2 17, q1 _, q2 18, q2 19, q2 20, q2 21, q2 22, q1 _, q2 23, q2 24, q2 25]), .inl (0, 600, .inl _)]) (And.intro rfl (And.intro rfl (And.intro rfl (And.intro ⟨⟨_, rfl⟩, rfl⟩ ?_))))))
        refine Exists.intro _ (Exists.intro _ (Exists.intro _ (Exists.intro _ (Exists.intro _ (Exists.intro _ (Exists.intro _ (Exists.intro _ (Exists.intro _ (Exists.intro _ (Exists.intro _ (Exists.intro _ (Exists.intro _ (Exists.intro _ (Exists.intro _ (Exists.intro _ (Exists.intro _ (Exists.intro _ (Exists.intro _ (Exists.intro _ (Exists.intro _ (Exists.intro _ (And.intro rfl (And.intro rfl (And.intro (by first | omega | assumption | exact q_rg_up (by assumption) (by omega) | exact q_rg_up (q_rg_up (by assumption) (by omega)) (by omega) | exact q_rg_cpy (by assumption) (by assumption)) (And.intro (by first | omega | assumption | exact q_rg_up (by assumption) (by omega) | exact q_rg_up (q_rg_up (by assumption) (by omega)) (by omega) | exact q_rg_cpy (by assumption) (by assumption)) (And.intro (by first | omega | assumption | exact q_rg_up (by assumption) (by omega) | exact q_rg_up (q_rg_up (by assumption) (by omega)) (by omega) | exact q_rg_cpy (by assumption) (by assumption)) (?_)))))))))))))))))))))))))))
        intro z84 h84
        obtain ⟨h84, k84⟩ := h84
        first | replace k84 := OFQ_13 k84 (by omega) | replace k84 := OFQ_21 k84 (by omega) | clear k84
        intro z87 h87
        first | replace h87 := e_sub h87 (by omega) | replace h87 := e_rng h87
        refine Exists.intro [] (Exists.intro [q1 _, q1 _] (Exists.intro [] (And.intro rfl (And.intro rfl (And.intro rfl (And.intro trivial ?_))))))
        refine Exists.intro _ (Exists.intro _ (And.intro rfl (And.intro rfl (?_))))
        intro z88 h88
        intro z91 h91
        first | replace h91 := e_add h91 (by omega) | replace h91 := e_rng h91
        intro z101 h101
        first | replace h101 := e_add h101 (by omega) | replace h101 := e_rng h101
        refine Exists.intro [0, 1, 2, 3, 4, 5, 6, 7, 8, 9, 10, 11, 12, 13, 14, 15, 16, 17, 18, 19, 20, 21, 22, 23, 24, 25] (Exists.intro [q2 0, q1 _] (Exists.intro ([.inr (12, [q1 _, q2 2, q2 3, q2 4, q2 5, q2 6, q2 1, q2 7, q2 8, q2 9, q1 _, q1 _, q1 _, q1 _, q1 _, q3 _, q1 _, q1 _, q1 _, q2 10, q2 11, q1 _, q1 _, q1 _, q1 _, q1 _, q1 _, q2 12, q1 _, q2 13, q2 14, q2 15, q2 16, q1 _, q2 17, q1 _, q2 18, q2 19, q2 20, q2 21, q2 22, q1 _, q2 23, q2 24, q2 25]), .inl (0, 600, .inl _)]) (And.intro rfl (And.intro rfl (And.intro rfl (And.intro ⟨⟨_, rfl⟩, rfl⟩ ?_))))))
        refine Exists.intro _ (Exists.intro _ (Exists.intro _ (Exists.intro _ (Exists.intro _ (Exists.intro _ (Exists.intro _ (Exists.intro _ (Exists.intro _ (Exists.intro _ (Exists.intro _ (Exists.intro _ (Exists.intro _ (Exists.intro _ (Exists.intro _ (Exists.intro _ (Exists.intro _ (Exists.intro _ (Exists.intro _ (Exists.intro _ (Exists.intro _ (Exists.intro _ (And.intro rfl (And.intro rfl (And.intro (by first | omega | assumption | exact q_rg_up (by assumption) (by omega) | exact q_rg_up (q_rg_up (by assumption) (by omega)) (by omega) | exact q_rg_cpy (by assumption) (by assumption)) (And.intro (by first | omega | assumption | exact q_rg_up (by assumption) (by omega) | exact q_rg_up (q_rg_up (by assumption) (by omega)) (by omega) | exact q_rg_cpy (by assumption) (by assumption)) (And.intro (by first | omega | assumption | exact q_rg_up (by assumption) (by omega) | exact q_rg_up (q_rg_up (by assumption) (by omega)) (by omega) | exact q_rg_cpy (by assumption) (by assumption)) (?_)))))))))))))))))))))))))))
        intro z102 h102
        obtain ⟨h102, k102⟩ := h102
        first | replace k102 := OFQ_13 k102 (by omega) | replace k102 := OFQ_21 k102 (by omega) | clear k102
        intro z107 h107
        first | replace h107 := e_sub h107 (by omega) | replace h107 := e_rng h107
        refine Exists.intro [] (Exists.intro [q1 _, q1 _] (Exists.intro [] (And.intro rfl (And.intro rfl (And.intro rfl (And.intro trivial ?_))))))
        refine Exists.intro _ (Exists.intro _ (And.intro rfl (And.intro rfl (?_))))
        intro z108 h108
        intro z111 h111
        first | replace h111 := e_add h111 (by omega) | replace h111 := e_rng h111
        intro z114 h114
        first | replace h114 := e_add h114 (by omega) | replace h114 := e_rng h114
        exact ⟨_, ⟨_, _, _, _, _, _, _, rfl, rfl, rfl, rfl, (by first | omega | assumption | exact q_rg_up (by assumption) (by omega) | exact q_rg_up (q_rg_up (by assumption) (by omega)) (by omega) | exact q_rg_cpy (by assumption) (by assumption))⟩, by omega⟩
    simp only [I_X12_even, h31, h65, if_false] at hI
  rintro lv st w' ⟨rfl, rfl, rfl⟩
  intro z6 h6
  first | replace h6 := e_shl h6 (by omega) | replace h6 := e_rng h6
  intro z8 h8
  first | replace h8 := e_sub h8 (by omega) | replace h8 := e_rng h8
  refine Exists.intro [0, 1, 2, 3, 4, 5, 6, 7, 8, 9, 10, 11, 12, 13, 14, 15, 16, 17, 18, 19, 20, 21, 22, 23, 24, 25] (Exists.intro [q2 0, q1 _] (Exists.intro ([.inr (12, [q1 _, q2 2, q2 3, q2 4, q2 5, q2 6, q2 1, q2 7, q2 8, q2 9, q1 _, q1 _, q1 _, q1 _, q1 _, q3 _, q1 _, q1 _, q1 _, q2 10, q2 11, q1 _, q1 _, q1 _, q1 _, q1 _, q1 _, q2 12, q1 _, q2 13, q2 14, q2 15, q2 16, q1 _, q2 17, q1 _, q2 18, q2 19, q2 20, q2 21, q2 22, q1 _, q2 23, q2 24, q2 25]), .inl (0, 600, .inl _)]) (And.intro rfl (And.intro rfl (And.intro rfl (And.intro ⟨⟨_, rfl⟩, rfl⟩ ?_))))))
  refine Exists.intro _ (Exists.intro _ (Exists.intro _ (Exists.intro _ (Exists.intro _ (Exists.intro _ (Exists.intro _ (Exists.intro _ (Exists.intro _ (Exists.intro _ (Exists.intro _ (Exists.intro _ (Exists.intro _ (Exists.intro _ (Exists.intro _ (Exists.intro _ (Exists.intro _ (Exists.intro _ (Exists.intro _ (Exists.intro _ (Exists.intro _ (Exists.intro _ (And.intro rfl (And.intro rfl (And.intro (by first | omega | assumption | exact q_rg_up (by assumption) (by omega) | exact q_rg_up (q_rg_up (by assumption) (by omega)) (by omega) | exact q_rg_cpy (by assumption) (by assumption)) (And.intro (by first | omega | assumption | exact q_rg_up (by assumption) (by omega) | exact q_rg_up (q_rg_up (by assumption) (by omega)) (by omega) | exact q_rg_cpy (by assumption) (by assumption)) (And.intro (by first | omega | assumption | exact q_rg_up (by assumption) (by omega) | exact q_rg_up (q_rg_up (by assumption) (by omega)) (by omega) | exact q_rg_cpy (by assumption) (by assumption)) (?_)))))))))))))))))))))))))))
  intro z9
  apply And.intro
  · intro h17
    exact ⟨_, _, _, _, rfl, rfl, rfl, rfl, (by first | omega | assumption | exact q_rg_up (by assumption) (by omega) | exact q_rg_up (q_rg_up (by assumption) (by omega)) (by omega) | exact q_rg_cpy (by assumption) (by assumption))⟩
  · intro h17
    exact ⟨_, _, _, _, rfl, rfl, rfl, rfl, (by first | omega | assumption | exact q_rg_up (by assumption) (by omega) | exact q_rg_up (q_rg_up (by assumption) (by omega)) (by omega) | exact q_rg_cpy (by assumption) (by assumption))⟩

theorem dX12_love_0 : decode cX12_love 0 = .ok (.aload_n 0, 1) := by decide +kernel
theorem dX12_love_1 : decode cX12_love 1 = .ok (.iconst 0, 1) := by decide +kernel
theorem dX12_love_2 : decode cX12_love 2 = .ok (.putfield 88, 3) := by decide +kernel
theorem dX12_love_5 : decode cX12_love 5 = .ok (.iload_n 2, 1) := by decide +kernel
theorem dX12_love_6 : decode cX12_love 6 = .ok (.iconst 0, 1) := by decide +kernel
theorem dX12_love_7 : decode cX12_love 7 = .ok (.bipush 99, 2) := by decide +kernel
theorem dX12_love_9 : decode cX12_love 9 = .ok (.invokestatic 100, 3) := by decide +kernel
theorem dX12_love_12 : decode cX12_love 12 = .ok (.ifCond .eq 11, 3) := by decide +kernel
theorem dX12_love_15 : decode cX12_love 15 = .ok (.aload_n 0, 1) := by decide +kernel
theorem dX12_love_16 : decode cX12_love 16 = .ok (.iload_n 1, 1) := by decide +kernel
theorem dX12_love_17 : decode cX12_love 17 = .ok (.invokevirtual 306, 3) := by decide +kernel
theorem dX12_love_20 : decode cX12_love 20 = .ok (.ifCond .ne 5, 3) := by decide +kernel
theorem dX12_love_23 : decode cX12_love 23 = .ok (.iconst (-1), 1) := by decide +kernel
theorem dX12_love_24 : decode cX12_love 24 = .ok (.ireturn, 1) := by decide +kernel
theorem dX12_love_25 : decode cX12_love 25 = .ok (.iload_n 3, 1) := by decide +kernel
theorem dX12_love_26 : decode cX12_love 26 = .ok (.ifCond .eq 11, 3) := by decide +kernel
theorem dX12_love_29 : decode cX12_love 29 = .ok (.aload_n 0, 1) := by decide +kernel
theorem dX12_love_30 : decode cX12_love 30 = .ok (.iload_n 2, 1) := by decide +kernel
theorem dX12_love_31 : decode cX12_love 31 = .ok (.invokevirtual 404, 3) := by decide +kernel
theorem dX12_love_34 : decode cX12_love 34 = .ok (.goto 8, 3) := by decide +kernel
theorem dX12_love_37 : decode cX12_love 37 = .ok (.aload_n 0, 1) := by decide +kernel
theorem dX12_love_38 : decode cX12_love 38 = .ok (.iload_n 2, 1) := by decide +kernel
theorem dX12_love_39 : decode cX12_love 39 = .ok (.invokevirtual 407, 3) := by decide +kernel
theorem dX12_love_42 : decode cX12_love 42 = .ok (.ireturn, 1) := by decide +kernel
def is_X12_love : Nat → List Nat := fun d => []
set_option maxRecDepth 100000 in
def b_X12_love_42 (J : Nat → List qV → List qV → qW → Prop) (Q : qR) : qK := x_iret Q
set_option maxRecDepth 100000 in
theorem s_X12_love_42 {p : Program} {l : Launch} {e : Env} {R : Room} {s : State} {m : MethodId} {args : Array Value} {below : List Frame} {meth : Method} {c : Code} {nW : Nat} {dC : Nat → ClassId} {dI : Nat → Nat → Nat} {k : Nat → ClassId} {g : Nat → Nat} {A : Nat → Prop} {J : Nat → List qV → List qV → qW → Prop} {Q : qR} (X : q_X p R s m args meth c cX12_love 4 nW 3 72 RX12 (some .int) dC dI k g A) (hJ : ∀ d : Nat, q_Sd p l e R s m args below meth c 4 nW dC dI k g A (MQ below (q_post (dC, dI) k g nW Q A) args s 0 0 A) d (x_cut (is_X12_love d) (J d))) : q_Sd p l e R s m args below meth c 4 nW dC dI k g A (MQ below (q_post (dC, dI) k g nW Q A) args s 0 0 A) 42 (b_X12_love_42 J Q) := by
  unfold b_X12_love_42
  exact s_iret X dX12_love_42
set_option maxRecDepth 100000 in
def b_X12_love_23 (J : Nat → List qV → List qV → qW → Prop) (Q : qR) : qK := x_int (-1) (x_iret Q)
set_option maxRecDepth 100000 in
theorem s_X12_love_23 {p : Program} {l : Launch} {e : Env} {R : Room} {s : State} {m : MethodId} {args : Array Value} {below : List Frame} {meth : Method} {c : Code} {nW : Nat} {dC : Nat → ClassId} {dI : Nat → Nat → Nat} {k : Nat → ClassId} {g : Nat → Nat} {A : Nat → Prop} {J : Nat → List qV → List qV → qW → Prop} {Q : qR} (X : q_X p R s m args meth c cX12_love 4 nW 3 72 RX12 (some .int) dC dI k g A) (hJ : ∀ d : Nat, q_Sd p l e R s m args below meth c 4 nW dC dI k g A (MQ below (q_post (dC, dI) k g nW Q A) args s 0 0 A) d (x_cut (is_X12_love d) (J d))) : q_Sd p l e R s m args below meth c 4 nW dC dI k g A (MQ below (q_post (dC, dI) k g nW Q A) args s 0 0 A) 23 (b_X12_love_23 J Q) := by
  unfold b_X12_love_23
  refine s_iconst X ⟨by decide, by decide⟩ dX12_love_23 ?_
  exact s_iret X dX12_love_24
set_option maxRecDepth 100000 in
def b_X12_love_0 (J : Nat → List qV → List qV → qW → Prop) (Q : qR) : qK := x_aload 0 (x_int 0 (x_put 12 0 q_oki (x_nw (x_iload 2 (x_int 0 (x_int 99 (x_callr none 3 spr_X12_in (x_if_eq (b_X12_love_23 J Q) (x_aload 0 (x_iload 1 (x_call (some 12) 2 sp_X12_hand (x_nw (x_if_ne (x_iload 3 (x_if_eq (x_aload 0 (x_iload 2 (x_call (some 12) 2 sp_X12_couples (x_nw (b_X12_love_42 J Q))))) (x_aload 0 (x_iload 2 (x_callr (some 12) 2 spr_X12_even (b_X12_love_42 J Q)))))) (b_X12_love_23 J Q))))))))))))))
set_option maxRecDepth 100000 in
theorem s_X12_love_0 {p : Program} {l : Launch} {e : Env} {R : Room} {s : State} {m : MethodId} {args : Array Value} {below : List Frame} {meth : Method} {c : Code} {nW : Nat} {dC : Nat → ClassId} {dI : Nat → Nat → Nat} {k : Nat → ClassId} {g : Nat → Nat} {A : Nat → Prop} {J : Nat → List qV → List qV → qW → Prop} {Q : qR} (X : q_X p R s m args meth c cX12_love 4 nW 3 72 RX12 (some .int) dC dI k g A) (hJ : ∀ d : Nat, q_Sd p l e R s m args below meth c 4 nW dC dI k g A (MQ below (q_post (dC, dI) k g nW Q A) args s 0 0 A) d (x_cut (is_X12_love d) (J d))) : q_Sd p l e R s m args below meth c 4 nW dC dI k g A (MQ below (q_post (dC, dI) k g nW Q A) args s 0 0 A) 0 (b_X12_love_0 J Q) := by
  unfold b_X12_love_0
  refine s_aload_n X rfl dX12_love_0 ?_
  refine s_iconst X ⟨by decide, by decide⟩ dX12_love_1 ?_
  refine s_put X (T := TX12) (C := RX12) (N := 45) tu_X12 tyX12_ok nmX12 rfl (by decide) tw_997 rfl (by decide +kernel) q_oki_t dX12_love_2 ?_
  refine s_nw ?_
  refine s_iload_n X rfl dX12_love_5 ?_
  refine s_iconst X ⟨by decide, by decide⟩ dX12_love_6 ?_
  refine s_bipush X ⟨by decide, by decide⟩ (by decide) dX12_love_7 ?_
  refine s_callSr X (m_X12_in l) tw_1054 tw_1055 tw_134 tw_1056 (by decide +kernel) ⟨by decide, by decide⟩ dX12_love_9 ?_
  refine s_if_eq X (tgt := 23) dX12_love_12 (by decide) ?_ ?_
  · exact s_X12_love_23 X hJ
  · refine s_aload_n X rfl dX12_love_15 ?_
    refine s_iload_n X rfl dX12_love_16 ?_
    refine s_callV X (m_X12_hand l) tw_1186 tw_1187 tw_1585 tw_134 tw_1188 rfl (by decide +kernel) ⟨by decide, by decide⟩ dX12_love_17 ?_
    refine s_nw ?_
    refine s_if_ne X (tgt := 25) dX12_love_20 (by decide) ?_ ?_
    · refine s_iload_n X rfl dX12_love_25 ?_
      refine s_if_eq X (tgt := 37) dX12_love_26 (by decide) ?_ ?_
      · refine s_aload_n X rfl dX12_love_37 ?_
        refine s_iload_n X rfl dX12_love_38 ?_
        refine s_callV X (m_X12_couples l) tw_1304 tw_1305 tw_1556 tw_134 tw_1306 rfl (by decide +kernel) ⟨by decide, by decide⟩ dX12_love_39 ?_
        refine s_nw ?_
        exact s_X12_love_42 X hJ
      · refine s_aload_n X rfl dX12_love_29 ?_
        refine s_iload_n X rfl dX12_love_30 ?_
        refine s_callVr X (m_X12_even l) tw_1298 tw_1299 tw_1564 tw_134 tw_1300 rfl (by decide +kernel) ⟨by decide, by decide⟩ dX12_love_31 ?_
        refine s_goto X (tgt := 42) dX12_love_34 (by decide) ?_
        exact s_X12_love_42 X hJ
    · exact s_X12_love_23 X hJ

def sp_X12_love : qS := fun av w Q => ∃ (mco : Int) (mre : Int) (mle : Int) (mbe : Int) (mso : Int) (mva : Int) (mwo : Int) (mwr : Int) (mlf : Int) (mlp : Int) (mfp : Int) (mfd : Int) (mgo : Int) (mbo : Int) (mpe : Int) (mye : Int) (mpr : Int) (mld : Int) (msi : Int) (mse : Int) (mn : Nat → Int) (bs : Nat → Int) (cp : Nat → Int) (a : Int) (b : Int) (cc : Int), av = [q2 0, q1 a, q1 b, q1 cc] ∧ w = [.inr (12, [q1 mco, q2 4, q2 5, q2 6, q2 7, q2 1, q2 2, q2 8, q2 9, q2 10, q1 mre, q1 mle, q1 mbe, q1 mso, q1 mva, q3 mwo, q1 mwr, q1 mlf, q1 mlp, q2 11, q2 12, q1 mfp, q1 mfd, q1 mgo, q1 mbo, q1 mpe, q1 mye, q2 13, q1 mpr, q2 14, q2 15, q2 3, q2 16, q1 mld, q2 17, q1 msi, q2 18, q2 19, q2 20, q2 21, q2 22, q1 mse, q2 23, q2 24, q2 25]), .inl (0, 16, .inl mn), .inl (0, 600, .inl bs), .inl (0, 256, .inl cp)] ∧ (q_rg 0 2 mn) ∧ (BI bs) ∧ (∀ (r : Int) (x_mco : Int) (x_mbo : Int) (x_mpe : Int) (x_cp : Nat → Int), Q (some (q1 r)) ([.inr (12, [q1 x_mco, q2 4, q2 5, q2 6, q2 7, q2 1, q2 2, q2 8, q2 9, q2 10, q1 mre, q1 mle, q1 mbe, q1 mso, q1 mva, q3 mwo, q1 mwr, q1 mlf, q1 mlp, q2 11, q2 12, q1 mfp, q1 mfd, q1 mgo, q1 x_mbo, q1 x_mpe, q1 mye, q2 13, q1 mpr, q2 14, q2 15, q2 3, q2 16, q1 mld, q2 17, q1 msi, q2 18, q2 19, q2 20, q2 21, q2 22, q1 mse, q2 23, q2 24, q2 25]), .inl (0, 16, .inl mn), .inl (0, 600, .inl bs), .inl (0, 256, .inl x_cp)]))
set_option maxHeartbeats 4000000 in
set_option maxRecDepth 100000 in
theorem m_X12_love (l : Launch) : q_M l yX12_love cX12_love 4 (some .int) 3 72 sp_X12_love := by
  refine q_meth (by decide) (fun av w Q h => by obtain ⟨mco, mre, mle, mbe, mso, mva, mwo, mwr, mlf, mlp, mfp, mfd, mgo, mbo, mpe, mye, mpr, mld, msi, mse, mn, bs, cp, a, b, cc, rfl, rfl, hmn, hbi, hQ⟩ := h; exact Nat.le_of_ble_eq_true rfl) ?_
  intro p e R s m args below meth c dC dI k g A av w Q hsp oka okw X
  obtain ⟨mco, mre, mle, mbe, mso, mva, mwo, mwr, mlf, mlp, mfp, mfd, mgo, mbo, mpe, mye, mpr, mld, msi, mse, mn, bs, cp, a, b, cc, rfl, rfl, hmn, hbi, hQ⟩ := hsp
  have o_a : -2147483648 ≤ a ∧ a ≤ 2147483647 := oka _ (List.mem_of_getElem? (i := 1) rfl)
  have o_b : -2147483648 ≤ b ∧ b ≤ 2147483647 := oka _ (List.mem_of_getElem? (i := 2) rfl)
  have o_cc : -2147483648 ≤ cc ∧ cc ≤ 2147483647 := oka _ (List.mem_of_getElem? (i := 3) rfl)
  refine s_mono (s_X12_love_0 X (J := fun _ _ _ _ => False) (fun d => s_cutF)) ?_
  rintro lv st w' ⟨rfl, rfl, rfl⟩
  apply And.intro
  · exact trivial
  refine Exists.intro [] (Exists.intro [q1 _, q1 _, q1 _] (Exists.intro [] (And.intro rfl (And.intro rfl (And.intro rfl (And.intro trivial ?_))))))
  refine Exists.intro _ (Exists.intro _ (Exists.intro _ (And.intro rfl (And.intro rfl (?_)))))
  intro z9 h9
  apply And.intro
  · intro h12
    first | replace h9 := dj1 h9 h12 | replace h9 := dj0 h9 h12
    exact hQ _ _ _ _ _
  · intro h12
    first | replace h9 := dj1 h9 h12 | replace h9 := dj0 h9 h12
    refine Exists.intro [0, 1, 2, 4, 5, 6, 7, 8, 9, 10, 11, 12, 13, 14, 15, 3, 16, 17, 18, 19, 20, 21, 22, 23, 24, 25] (Exists.intro [q2 0, q1 _] (Exists.intro ([.inr (12, [q1 _, q2 3, q2 4, q2 5, q2 6, q2 1, q2 2, q2 7, q2 8, q2 9, q1 _, q1 _, q1 _, q1 _, q1 _, q3 _, q1 _, q1 _, q1 _, q2 10, q2 11, q1 _, q1 _, q1 _, q1 _, q1 _, q1 _, q2 12, q1 _, q2 13, q2 14, q2 15, q2 16, q1 _, q2 17, q1 _, q2 18, q2 19, q2 20, q2 21, q2 22, q1 _, q2 23, q2 24, q2 25]), .inl (0, 16, .inl _), .inl (0, 600, .inl _)]) (And.intro rfl (And.intro rfl (And.intro rfl (And.intro ⟨⟨_, rfl⟩, rfl⟩ ?_))))))
    refine Exists.intro _ (Exists.intro _ (Exists.intro _ (Exists.intro _ (Exists.intro _ (Exists.intro _ (Exists.intro _ (Exists.intro _ (Exists.intro _ (Exists.intro _ (Exists.intro _ (Exists.intro _ (Exists.intro _ (Exists.intro _ (Exists.intro _ (Exists.intro _ (Exists.intro _ (Exists.intro _ (Exists.intro _ (Exists.intro _ (Exists.intro _ (Exists.intro _ (Exists.intro _ (And.intro rfl (And.intro rfl (And.intro (by first | omega | assumption | exact q_rg_up (by assumption) (by omega) | exact q_rg_up (q_rg_up (by assumption) (by omega)) (by omega) | exact q_rg_cpy (by assumption) (by assumption)) (And.intro (by first | omega | assumption | exact q_rg_up (by assumption) (by omega) | exact q_rg_up (q_rg_up (by assumption) (by omega)) (by omega) | exact q_rg_cpy (by assumption) (by assumption)) (?_)))))))))))))))))))))))))))
    intro z17 x_mbo_17 x_mpe_17 h17
    apply And.intro
    · intro h20
      first | replace h17 := dj1 h17 h20 | replace h17 := dj0 h17 h20
      apply And.intro
      · intro h26
        refine Exists.intro [0, 3, 2, 4, 5, 6, 7, 1, 8, 9, 10, 11, 12, 13, 14, 15, 16, 17, 18, 19, 20, 21, 22, 23, 24, 25] (Exists.intro [q2 0, q1 _] (Exists.intro ([.inr (12, [q1 _, q2 3, q2 4, q2 5, q2 6, q2 7, q2 2, q2 8, q2 9, q2 10, q1 _, q1 _, q1 _, q1 _, q1 _, q3 _, q1 _, q1 _, q1 _, q2 11, q2 12, q1 _, q1 _, q1 _, q1 _, q1 _, q1 _, q2 13, q1 _, q2 14, q2 15, q2 1, q2 16, q1 _, q2 17, q1 _, q2 18, q2 19, q2 20, q2 21, q2 22, q1 _, q2 23, q2 24, q2 25]), .inl (0, 256, .inl _), .inl (0, 600, .inl _)]) (And.intro rfl (And.intro rfl (And.intro rfl (And.intro ⟨⟨_, rfl⟩, rfl⟩ ?_))))))
        refine Exists.intro _ (Exists.intro _ (Exists.intro _ (Exists.intro _ (Exists.intro _ (Exists.intro _ (Exists.intro _ (Exists.intro _ (Exists.intro _ (Exists.intro _ (Exists.intro _ (Exists.intro _ (Exists.intro _ (Exists.intro _ (Exists.intro _ (Exists.intro _ (Exists.intro _ (Exists.intro _ (Exists.intro _ (Exists.intro _ (Exists.intro _ (Exists.intro _ (Exists.intro _ (And.intro rfl (And.intro rfl (And.intro (by first | omega | assumption | exact q_rg_up (by assumption) (by omega) | exact q_rg_up (q_rg_up (by assumption) (by omega)) (by omega) | exact q_rg_cpy (by assumption) (by assumption)) (And.intro (by first | omega | assumption | exact q_rg_up (by assumption) (by omega) | exact q_rg_up (q_rg_up (by assumption) (by omega)) (by omega) | exact q_rg_cpy (by assumption) (by assumption)) (And.intro (by first | omega | assumption | exact q_rg_up (by assumption) (by omega) | exact q_rg_up (q_rg_up (by assumption) (by omega)) (by omega) | exact q_rg_cpy (by assumption) (by assumption)) (?_))))))))))))))))))))))))))))
        intro z39 x_cp_39
        exact hQ _ _ _ _ _
      · intro h26
        refine Exists.intro [0, 2, 4, 5, 6, 7, 1, 8, 9, 10, 11, 12, 13, 14, 15, 3, 16, 17, 18, 19, 20, 21, 22, 23, 24, 25] (Exists.intro [q2 0, q1 _] (Exists.intro ([.inr (12, [q1 _, q2 2, q2 3, q2 4, q2 5, q2 6, q2 1, q2 7, q2 8, q2 9, q1 _, q1 _, q1 _, q1 _, q1 _, q3 _, q1 _, q1 _, q1 _, q2 10, q2 11, q1 _, q1 _, q1 _, q1 _, q1 _, q1 _, q2 12, q1 _, q2 13, q2 14, q2 15, q2 16, q1 _, q2 17, q1 _, q2 18, q2 19, q2 20, q2 21, q2 22, q1 _, q2 23, q2 24, q2 25]), .inl (0, 600, .inl _)]) (And.intro rfl (And.intro rfl (And.intro rfl (And.intro ⟨⟨_, rfl⟩, rfl⟩ ?_))))))
        refine Exists.intro _ (Exists.intro _ (Exists.intro _ (Exists.intro _ (Exists.intro _ (Exists.intro _ (Exists.intro _ (Exists.intro _ (Exists.intro _ (Exists.intro _ (Exists.intro _ (Exists.intro _ (Exists.intro _ (Exists.intro _ (Exists.intro _ (Exists.intro _ (Exists.intro _ (Exists.intro _ (Exists.intro _ (Exists.intro _ (Exists.intro _ (Exists.intro _ (And.intro rfl (And.intro rfl (And.intro (by first | omega | assumption | exact q_rg_up (by assumption) (by omega) | exact q_rg_up (q_rg_up (by assumption) (by omega)) (by omega) | exact q_rg_cpy (by assumption) (by assumption)) (And.intro (by first | omega | assumption | exact q_rg_up (by assumption) (by omega) | exact q_rg_up (q_rg_up (by assumption) (by omega)) (by omega) | exact q_rg_cpy (by assumption) (by assumption)) (And.intro (by first | omega | assumption | exact q_rg_up (by assumption) (by omega) | exact q_rg_up (q_rg_up (by assumption) (by omega)) (by omega) | exact q_rg_cpy (by assumption) (by assumption)) (And.intro (by first | omega | assumption | exact q_rg_up (by assumption) (by omega) | exact q_rg_up (q_rg_up (by assumption) (by omega)) (by omega) | exact q_rg_cpy (by assumption) (by assumption)) (?_))))))))))))))))))))))))))))
        intro z31
        exact hQ _ _ _ _ _
    · intro h20
      first | replace h17 := dj1 h17 h20 | replace h17 := dj0 h17 h20
      exact hQ _ _ _ _ _
