theorem dX0_taken_0 : decode cX0_taken 0 = .ok (.iload_n 2, 1) := by decide +kernel
theorem dX0_taken_1 : decode cX0_taken 1 = .ok (.aload_n 0, 1) := by decide +kernel
theorem dX0_taken_2 : decode cX0_taken 2 = .ok (.getfield 58, 3) := by decide +kernel
theorem dX0_taken_5 : decode cX0_taken 5 = .ok (.imul, 1) := by decide +kernel
theorem dX0_taken_6 : decode cX0_taken 6 = .ok (.aload_n 0, 1) := by decide +kernel
theorem dX0_taken_7 : decode cX0_taken 7 = .ok (.iload_n 1, 1) := by decide +kernel
theorem dX0_taken_8 : decode cX0_taken 8 = .ok (.iload_n 2, 1) := by decide +kernel
theorem dX0_taken_9 : decode cX0_taken 9 = .ok (.invokevirtual 79, 3) := by decide +kernel
theorem dX0_taken_12 : decode cX0_taken 12 = .ok (.invokestatic 83, 3) := by decide +kernel
theorem dX0_taken_15 : decode cX0_taken 15 = .ok (.imul, 1) := by decide +kernel
theorem dX0_taken_16 : decode cX0_taken 16 = .ok (.ireturn, 1) := by decide +kernel
def is_X0_taken : Nat → List Nat := fun d => []
set_option maxRecDepth 100000 in
def b_X0_taken_0 (J : Nat → List qV → List qV → qW → Prop) (Q : qR) : qK := x_iload 2 (x_aload 0 (x_get 0 9 (x_imul (x_aload 0 (x_iload 1 (x_iload 2 (x_callr (some 0) 3 spr_X0_daring (x_callr none 1 spr_J6_bitCount_0f7a4 (x_imul (x_iret Q))))))))))
set_option maxRecDepth 100000 in
theorem s_X0_taken_0 {p : Program} {l : Launch} {e : Env} {R : Room} {s : State} {m : MethodId} {args : Array Value} {below : List Frame} {meth : Method} {c : Code} {nW : Nat} {dC : Nat → ClassId} {dI : Nat → Nat → Nat} {k : Nat → ClassId} {g : Nat → Nat} {A : Nat → Prop} {J : Nat → List qV → List qV → qW → Prop} {Q : qR} (X : q_X p R s m args meth c cX0_taken 3 nW 1 24 RX0 (some .int) dC dI k g A) (hJ : ∀ d : Nat, q_Sd p l e R s m args below meth c 3 nW dC dI k g A (MQ below (q_post (dC, dI) k g nW Q A) args s 0 0 A) d (x_cut (is_X0_taken d) (J d))) : q_Sd p l e R s m args below meth c 3 nW dC dI k g A (MQ below (q_post (dC, dI) k g nW Q A) args s 0 0 A) 0 (b_X0_taken_0 J Q) := by
  unfold b_X0_taken_0
  refine s_iload_n X rfl dX0_taken_0 ?_
  refine s_aload_n X rfl dX0_taken_1 ?_
  refine s_get X (T := TX0) (C := RX0) (N := 12) tu_X0 rfl (by decide) tw_200 dX0_taken_2 ?_
  refine s_imul X dX0_taken_5 ?_
  refine s_aload_n X rfl dX0_taken_6 ?_
  refine s_iload_n X rfl dX0_taken_7 ?_
  refine s_iload_n X rfl dX0_taken_8 ?_
  refine s_callVr X (m_X0_daring l) tw_719 tw_720 tw_721 tw_122 tw_722 rfl (by decide +kernel) ⟨by decide, by decide⟩ dX0_taken_9 ?_
  refine s_callSr X (m_J6_bitCount_0f7a4 l) tw_731 tw_646 tw_140 tw_647 (by decide +kernel) ⟨by decide, by decide⟩ dX0_taken_12 ?_
  refine s_imul X dX0_taken_15 ?_
  exact s_iret X dX0_taken_16

def spr_X0_taken : List qV → qW → (Option qV → Prop) → Prop := fun av w Q => ∃ (f1 : Nat → Int) (f2 : Nat → Int) (f3 : Nat → Int) (f4 : Nat → Int) (f5 : Nat → Int) (f6 : Nat → Int) (f7 : Nat → Int) (u0 : Int) (u1 : Int) (u2 : Int) (u3 : Int) (u4 : Int) (a : Int) (b : Int), av = [q2 0, q1 a, q1 b] ∧ w = wB f1 f2 f3 f4 f5 f6 f7 u0 u1 u2 u3 u4 ∧ (0 ≤ u0 ∧ u0 ≤ 8) ∧ (0 ≤ a ∧ a ≤ 3) ∧ (∀ (r : Int) , Q (some (q1 r)))
def sp_X0_taken : qS := fun av w Q => spr_X0_taken av w (fun r => Q r w)
set_option maxHeartbeats 4000000 in
set_option maxRecDepth 100000 in
theorem m_X0_taken (l : Launch) : q_M l yX0_taken cX0_taken 3 (some .int) 1 24 sp_X0_taken := by
  refine q_meth (by decide) (fun av w Q h => by obtain ⟨f1, f2, f3, f4, f5, f6, f7, u0, u1, u2, u3, u4, a, b, rfl, rfl, hu0, ha, hQ⟩ := h; exact Nat.le_of_ble_eq_true rfl) ?_
  intro p e R s m args below meth c dC dI k g A av w Q hsp oka okw X
  obtain ⟨f1, f2, f3, f4, f5, f6, f7, u0, u1, u2, u3, u4, a, b, rfl, rfl, hu0, ha, hQ⟩ := hsp
  have o_a : -2147483648 ≤ a ∧ a ≤ 2147483647 := oka _ (List.mem_of_getElem? (i := 1) rfl)
  have o_b : -2147483648 ≤ b ∧ b ≤ 2147483647 := oka _ (List.mem_of_getElem? (i := 2) rfl)
  refine s_mono (s_X0_taken_0 X (J := fun _ _ _ _ => False) (fun d => s_cutF)) ?_
  rintro lv st w' ⟨rfl, rfl, rfl⟩
  intro z5 h5
  first | replace h5 := e_mul h5 (by omega) | replace h5 := e_rng h5
  refine Exists.intro [0, 1, 2, 3, 4, 5, 6, 7] (Exists.intro [q2 0, q1 _, q1 _] (Exists.intro (wB _ _ _ _ _ _ _ _ _ _ _ _) (And.intro rfl (And.intro rfl (And.intro rfl (And.intro ⟨⟨_, rfl⟩, rfl⟩ ?_))))))
  refine Exists.intro _ (Exists.intro _ (Exists.intro _ (Exists.intro _ (Exists.intro _ (Exists.intro _ (Exists.intro _ (Exists.intro _ (Exists.intro _ (Exists.intro _ (Exists.intro _ (Exists.intro _ (Exists.intro _ (Exists.intro _ (And.intro rfl (And.intro rfl (And.intro (by first | omega | assumption | exact q_rg_up (by assumption) (by omega) | exact q_rg_up (q_rg_up (by assumption) (by omega)) (by omega) | exact q_rg_cpy (by assumption) (by assumption)) (And.intro (by first | omega | assumption | exact q_rg_up (by assumption) (by omega) | exact q_rg_up (q_rg_up (by assumption) (by omega)) (by omega) | exact q_rg_cpy (by assumption) (by assumption)) (?_))))))))))))))))))
  intro z9
  refine Exists.intro [] (Exists.intro [q1 _] (Exists.intro [] (And.intro rfl (And.intro rfl (And.intro rfl (And.intro trivial ?_))))))
  refine Exists.intro _ (And.intro rfl (And.intro rfl (?_)))
  intro z12 h12
  intro z15 h15
  first | replace h15 := e_mul h15 (by omega) | replace h15 := e_rng h15
  exact hQ _

theorem dX0_bestFine_0 : decode cX0_bestFine 0 = .ok (.iconst 1, 1) := by decide +kernel
theorem dX0_bestFine_1 : decode cX0_bestFine 1 = .ok (.istore_n 2, 1) := by decide +kernel
theorem dX0_bestFine_2 : decode cX0_bestFine 2 = .ok (.iconst 2, 1) := by decide +kernel
theorem dX0_bestFine_3 : decode cX0_bestFine 3 = .ok (.istore_n 3, 1) := by decide +kernel
theorem dX0_bestFine_4 : decode cX0_bestFine 4 = .ok (.iload_n 3, 1) := by decide +kernel
theorem dX0_bestFine_5 : decode cX0_bestFine 5 = .ok (.bipush 9, 2) := by decide +kernel
theorem dX0_bestFine_7 : decode cX0_bestFine 7 = .ok (.if_icmp .gt 26, 3) := by decide +kernel
theorem dX0_bestFine_10 : decode cX0_bestFine 10 = .ok (.aload_n 0, 1) := by decide +kernel
theorem dX0_bestFine_11 : decode cX0_bestFine 11 = .ok (.iload_n 1, 1) := by decide +kernel
theorem dX0_bestFine_12 : decode cX0_bestFine 12 = .ok (.iload_n 3, 1) := by decide +kernel
theorem dX0_bestFine_13 : decode cX0_bestFine 13 = .ok (.invokevirtual 88, 3) := by decide +kernel
theorem dX0_bestFine_16 : decode cX0_bestFine 16 = .ok (.aload_n 0, 1) := by decide +kernel
theorem dX0_bestFine_17 : decode cX0_bestFine 17 = .ok (.iload_n 1, 1) := by decide +kernel
theorem dX0_bestFine_18 : decode cX0_bestFine 18 = .ok (.iload_n 2, 1) := by decide +kernel
theorem dX0_bestFine_19 : decode cX0_bestFine 19 = .ok (.invokevirtual 88, 3) := by decide +kernel
theorem dX0_bestFine_22 : decode cX0_bestFine 22 = .ok (.if_icmp .le 5, 3) := by decide +kernel
theorem dX0_bestFine_25 : decode cX0_bestFine 25 = .ok (.iload_n 3, 1) := by decide +kernel
theorem dX0_bestFine_26 : decode cX0_bestFine 26 = .ok (.istore_n 2, 1) := by decide +kernel
theorem dX0_bestFine_27 : decode cX0_bestFine 27 = .ok (.iinc 3 1, 3) := by decide +kernel
theorem dX0_bestFine_30 : decode cX0_bestFine 30 = .ok (.goto (-26), 3) := by decide +kernel
theorem dX0_bestFine_33 : decode cX0_bestFine 33 = .ok (.iload_n 2, 1) := by decide +kernel
theorem dX0_bestFine_34 : decode cX0_bestFine 34 = .ok (.ireturn, 1) := by decide +kernel
def is_X0_bestFine : Nat → List Nat := fun d => if d = 4 then [0, 1, 2, 3] else []
set_option maxRecDepth 100000 in
def b_X0_bestFine_27 (J : Nat → List qV → List qV → qW → Prop) (Q : qR) : qK := x_iinc 3 1 (x_cut [0, 1, 2, 3] (J 4))
set_option maxRecDepth 100000 in
theorem s_X0_bestFine_27 {p : Program} {l : Launch} {e : Env} {R : Room} {s : State} {m : MethodId} {args : Array Value} {below : List Frame} {meth : Method} {c : Code} {nW : Nat} {dC : Nat → ClassId} {dI : Nat → Nat → Nat} {k : Nat → ClassId} {g : Nat → Nat} {A : Nat → Prop} {J : Nat → List qV → List qV → qW → Prop} {Q : qR} (X : q_X p R s m args meth c cX0_bestFine 4 nW 2 46 RX0 (some .int) dC dI k g A) (hJ : ∀ d : Nat, q_Sd p l e R s m args below meth c 4 nW dC dI k g A (MQ below (q_post (dC, dI) k g nW Q A) args s 0 0 A) d (x_cut (is_X0_bestFine d) (J d))) : q_Sd p l e R s m args below meth c 4 nW dC dI k g A (MQ below (q_post (dC, dI) k g nW Q A) args s 0 0 A) 27 (b_X0_bestFine_27 J Q) := by
  unfold b_X0_bestFine_27
  refine s_iinc X (by decide) dX0_bestFine_27 ?_
  refine s_goto X (tgt := 4) dX0_bestFine_30 (by decide) ?_
  exact hJ 4
set_option maxRecDepth 100000 in
def b_X0_bestFine_4 (J : Nat → List qV → List qV → qW → Prop) (Q : qR) : qK := x_iload 3 (x_int 9 (x_icmp_gt (x_iload 2 (x_iret Q)) (x_aload 0 (x_iload 1 (x_iload 3 (x_callr (some 0) 3 spr_X0_taken (x_aload 0 (x_iload 1 (x_iload 2 (x_callr (some 0) 3 spr_X0_taken (x_icmp_le (b_X0_bestFine_27 J Q) (x_iload 3 (x_istore 2 (b_X0_bestFine_27 J Q))))))))))))))
set_option maxRecDepth 100000 in
theorem s_X0_bestFine_4 {p : Program} {l : Launch} {e : Env} {R : Room} {s : State} {m : MethodId} {args : Array Value} {below : List Frame} {meth : Method} {c : Code} {nW : Nat} {dC : Nat → ClassId} {dI : Nat → Nat → Nat} {k : Nat → ClassId} {g : Nat → Nat} {A : Nat → Prop} {J : Nat → List qV → List qV → qW → Prop} {Q : qR} (X : q_X p R s m args meth c cX0_bestFine 4 nW 2 46 RX0 (some .int) dC dI k g A) (hJ : ∀ d : Nat, q_Sd p l e R s m args below meth c 4 nW dC dI k g A (MQ below (q_post (dC, dI) k g nW Q A) args s 0 0 A) d (x_cut (is_X0_bestFine d) (J d))) : q_Sd p l e R s m args below meth c 4 nW dC dI k g A (MQ below (q_post (dC, dI) k g nW Q A) args s 0 0 A) 4 (b_X0_bestFine_4 J Q) := by
  unfold b_X0_bestFine_4
  refine s_iload_n X rfl dX0_bestFine_4 ?_
  refine s_bipush X ⟨by decide, by decide⟩ (by decide) dX0_bestFine_5 ?_
  refine s_icmp_gt X (tgt := 33) dX0_bestFine_7 (by decide) ?_ ?_
  · refine s_iload_n X rfl dX0_bestFine_33 ?_
    exact s_iret X dX0_bestFine_34
  · refine s_aload_n X rfl dX0_bestFine_10 ?_
    refine s_iload_n X rfl dX0_bestFine_11 ?_
    refine s_iload_n X rfl dX0_bestFine_12 ?_
    refine s_callVr X (m_X0_taken l) tw_727 tw_728 tw_729 tw_122 tw_730 rfl (by decide +kernel) ⟨by decide, by decide⟩ dX0_bestFine_13 ?_
    refine s_aload_n X rfl dX0_bestFine_16 ?_
    refine s_iload_n X rfl dX0_bestFine_17 ?_
    refine s_iload_n X rfl dX0_bestFine_18 ?_
    refine s_callVr X (m_X0_taken l) tw_727 tw_728 tw_729 tw_122 tw_730 rfl (by decide +kernel) ⟨by decide, by decide⟩ dX0_bestFine_19 ?_
    refine s_icmp_le X (tgt := 27) dX0_bestFine_22 (by decide) ?_ ?_
    · exact s_X0_bestFine_27 X hJ
    · refine s_iload_n X rfl dX0_bestFine_25 ?_
      refine s_istore_n X rfl (by decide) dX0_bestFine_26 ?_
      exact s_X0_bestFine_27 X hJ
set_option maxRecDepth 100000 in
def b_X0_bestFine_0 (J : Nat → List qV → List qV → qW → Prop) (Q : qR) : qK := x_int 1 (x_istore 2 (x_int 2 (x_istore 3 (x_cut [0, 1, 2, 3] (J 4)))))
set_option maxRecDepth 100000 in
theorem s_X0_bestFine_0 {p : Program} {l : Launch} {e : Env} {R : Room} {s : State} {m : MethodId} {args : Array Value} {below : List Frame} {meth : Method} {c : Code} {nW : Nat} {dC : Nat → ClassId} {dI : Nat → Nat → Nat} {k : Nat → ClassId} {g : Nat → Nat} {A : Nat → Prop} {J : Nat → List qV → List qV → qW → Prop} {Q : qR} (X : q_X p R s m args meth c cX0_bestFine 4 nW 2 46 RX0 (some .int) dC dI k g A) (hJ : ∀ d : Nat, q_Sd p l e R s m args below meth c 4 nW dC dI k g A (MQ below (q_post (dC, dI) k g nW Q A) args s 0 0 A) d (x_cut (is_X0_bestFine d) (J d))) : q_Sd p l e R s m args below meth c 4 nW dC dI k g A (MQ below (q_post (dC, dI) k g nW Q A) args s 0 0 A) 0 (b_X0_bestFine_0 J Q) := by
  unfold b_X0_bestFine_0
  refine s_iconst X ⟨by decide, by decide⟩ dX0_bestFine_0 ?_
  refine s_istore_n X rfl (by decide) dX0_bestFine_1 ?_
  refine s_iconst X ⟨by decide, by decide⟩ dX0_bestFine_2 ?_
  refine s_istore_n X rfl (by decide) dX0_bestFine_3 ?_
  exact hJ 4

def spr_X0_bestFine : List qV → qW → (Option qV → Prop) → Prop := fun av w Q => ∃ (f1 : Nat → Int) (f2 : Nat → Int) (f3 : Nat → Int) (f4 : Nat → Int) (f5 : Nat → Int) (f6 : Nat → Int) (f7 : Nat → Int) (u0 : Int) (u1 : Int) (u2 : Int) (u3 : Int) (u4 : Int) (a : Int), av = [q2 0, q1 a] ∧ w = wB f1 f2 f3 f4 f5 f6 f7 u0 u1 u2 u3 u4 ∧ (0 ≤ u0 ∧ u0 ≤ 8) ∧ (0 ≤ a ∧ a ≤ 3) ∧ (∀ (r : Int) , Q (some (q1 r)))
def sp_X0_bestFine : qS := fun av w Q => spr_X0_bestFine av w (fun r => Q r w)
def I_X0_bestFine (f1 : Nat → Int) (f2 : Nat → Int) (f3 : Nat → Int) (f4 : Nat → Int) (f5 : Nat → Int) (f6 : Nat → Int) (f7 : Nat → Int) (u0 : Int) (u1 : Int) (u2 : Int) (u3 : Int) (u4 : Int) (a : Int) : Nat → Nat → List qV → List qV → qW → Prop := fun dz mz vz sz wz => if dz = 4 then (∃ (v2 : Int) (v3 : Int), vz = [q2 0, q1 a, q1 v2, q1 v3] ∧ sz = [] ∧ wz = wB f1 f2 f3 f4 f5 f6 f7 u0 u1 u2 u3 u4 ∧ mz = (10 - v3).toNat ∧ (2 ≤ v3 ∧ v3 ≤ 10)) else False
set_option maxHeartbeats 4000000 in
set_option maxRecDepth 100000 in
theorem m_X0_bestFine (l : Launch) : q_M l yX0_bestFine cX0_bestFine 4 (some .int) 2 46 sp_X0_bestFine := by
  refine q_meth (by decide) (fun av w Q h => by obtain ⟨f1, f2, f3, f4, f5, f6, f7, u0, u1, u2, u3, u4, a, rfl, rfl, hu0, ha, hQ⟩ := h; exact Nat.le_of_ble_eq_true rfl) ?_
  intro p e R s m args below meth c dC dI k g A av w Q hsp oka okw X
  obtain ⟨f1, f2, f3, f4, f5, f6, f7, u0, u1, u2, u3, u4, a, rfl, rfl, hu0, ha, hQ⟩ := hsp
  have o_a : -2147483648 ≤ a ∧ a ≤ 2147483647 := oka _ (List.mem_of_getElem? (i := 1) rfl)
  refine s_mono (s_X0_bestFine_0 X (J := fun dz vz sz wz => ∃ mz, I_X0_bestFine f1 f2 f3 f4 f5 f6 f7 u0 u1 u2 u3 u4 a dz mz vz sz wz) (q_loopn (I_X0_bestFine f1 f2 f3 f4 f5 f6 f7 u0 u1 u2 u3 u4 a) (fun dz J => if dz = 4 then b_X0_bestFine_4 J Q else q_F) ?hs ?hv)) ?_
  case hs =>
    intro d J hJ
    by_cases h4 : d = 4
    · subst h4; exact s_X0_bestFine_4 X hJ
    simp only [h4, if_false]
    exact s_F
  case hv =>
    intro dz mz vz sz wz hI okv oks okw hlen
    by_cases h4 : dz = 4
    · subst h4
      obtain ⟨v2, v3, rfl, rfl, rfl, hn, hp⟩ := hI
      apply And.intro
      · intro h7
        exact hQ _
      · intro h7
        refine Exists.intro [0, 1, 2, 3, 4, 5, 6, 7] (Exists.intro [q2 0, q1 _, q1 _] (Exists.intro (wB _ _ _ _ _ _ _ _ _ _ _ _) (And.intro rfl (And.intro rfl (And.intro rfl (And.intro ⟨⟨_, rfl⟩, rfl⟩ ?_))))))
        refine Exists.intro _ (Exists.intro _ (Exists.intro _ (Exists.intro _ (Exists.intro _ (Exists.intro _ (Exists.intro _ (Exists.intro _ (Exists.intro _ (Exists.intro _ (Exists.intro _ (Exists.intro _ (Exists.intro _ (Exists.intro _ (And.intro rfl (And.intro rfl (And.intro (by first | omega | assumption | exact q_rg_up (by assumption) (by omega) | exact q_rg_up (q_rg_up (by assumption) (by omega)) (by omega) | exact q_rg_cpy (by assumption) (by assumption)) (And.intro (by first | omega | assumption | exact q_rg_up (by assumption) (by omega) | exact q_rg_up (q_rg_up (by assumption) (by omega)) (by omega) | exact q_rg_cpy (by assumption) (by assumption)) (?_))))))))))))))))))
        intro z13
        refine Exists.intro [0, 1, 2, 3, 4, 5, 6, 7] (Exists.intro [q2 0, q1 _, q1 _] (Exists.intro (wB _ _ _ _ _ _ _ _ _ _ _ _) (And.intro rfl (And.intro rfl (And.intro rfl (And.intro ⟨⟨_, rfl⟩, rfl⟩ ?_))))))
        refine Exists.intro _ (Exists.intro _ (Exists.intro _ (Exists.intro _ (Exists.intro _ (Exists.intro _ (Exists.intro _ (Exists.intro _ (Exists.intro _ (Exists.intro _ (Exists.intro _ (Exists.intro _ (Exists.intro _ (Exists.intro _ (And.intro rfl (And.intro rfl (And.intro (by first | omega | assumption | exact q_rg_up (by assumption) (by omega) | exact q_rg_up (q_rg_up (by assumption) (by omega)) (by omega) | exact q_rg_cpy (by assumption) (by assumption)) (And.intro (by first | omega | assumption | exact q_rg_up (by assumption) (by omega) | exact q_rg_up (q_rg_up (by assumption) (by omega)) (by omega) | exact q_rg_cpy (by assumption) (by assumption)) (?_))))))))))))))))))
        intro z19
        apply And.intro
        · intro h22
          intro z27 h27
          first | replace h27 := e_add h27 (by omega) | replace h27 := e_rng h27
          exact ⟨_, ⟨_, _, rfl, rfl, rfl, rfl, (by first | omega | assumption | exact q_rg_up (by assumption) (by omega) | exact q_rg_up (q_rg_up (by assumption) (by omega)) (by omega) | exact q_rg_cpy (by assumption) (by assumption))⟩, by omega⟩
        · intro h22
          intro z27 h27
          first | replace h27 := e_add h27 (by omega) | replace h27 := e_rng h27
          exact ⟨_, ⟨_, _, rfl, rfl, rfl, rfl, (by first | omega | assumption | exact q_rg_up (by assumption) (by omega) | exact q_rg_up (q_rg_up (by assumption) (by omega)) (by omega) | exact q_rg_cpy (by assumption) (by assumption))⟩, by omega⟩
    simp only [I_X0_bestFine, h4, if_false] at hI
  rintro lv st w' ⟨rfl, rfl, rfl⟩
  exact ⟨_, _, _, rfl, rfl, rfl, rfl, (by first | omega | assumption | exact q_rg_up (by assumption) (by omega) | exact q_rg_up (q_rg_up (by assumption) (by omega)) (by omega) | exact q_rg_cpy (by assumption) (by assumption))⟩

theorem dX0_look_0 : decode cX0_look 0 = .ok (.iload_n 1, 1) := by decide +kernel
theorem dX0_look_1 : decode cX0_look 1 = .ok (.bipush 10, 2) := by decide +kernel
theorem dX0_look_3 : decode cX0_look 3 = .ok (.if_icmp .ge 9, 3) := by decide +kernel
theorem dX0_look_6 : decode cX0_look 6 = .ok (.aload_n 0, 1) := by decide +kernel
theorem dX0_look_7 : decode cX0_look 7 = .ok (.iload_n 1, 1) := by decide +kernel
theorem dX0_look_8 : decode cX0_look 8 = .ok (.invokevirtual 67, 3) := by decide +kernel
theorem dX0_look_11 : decode cX0_look 11 = .ok (.ireturn, 1) := by decide +kernel
theorem dX0_look_12 : decode cX0_look 12 = .ok (.iload_n 1, 1) := by decide +kernel
theorem dX0_look_13 : decode cX0_look 13 = .ok (.bipush 20, 2) := by decide +kernel
theorem dX0_look_15 : decode cX0_look 15 = .ok (.if_icmp .ge 19, 3) := by decide +kernel
theorem dX0_look_18 : decode cX0_look 18 = .ok (.aload_n 0, 1) := by decide +kernel
theorem dX0_look_19 : decode cX0_look 19 = .ok (.getfield 9, 3) := by decide +kernel
theorem dX0_look_22 : decode cX0_look 22 = .ok (.aload_n 0, 1) := by decide +kernel
theorem dX0_look_23 : decode cX0_look 23 = .ok (.getfield 51, 3) := by decide +kernel
theorem dX0_look_26 : decode cX0_look 26 = .ok (.iload_n 1, 1) := by decide +kernel
theorem dX0_look_27 : decode cX0_look 27 = .ok (.bipush 10, 2) := by decide +kernel
theorem dX0_look_29 : decode cX0_look 29 = .ok (.isub, 1) := by decide +kernel
theorem dX0_look_30 : decode cX0_look 30 = .ok (.invokestatic 71, 3) := by decide +kernel
theorem dX0_look_33 : decode cX0_look 33 = .ok (.ireturn, 1) := by decide +kernel
theorem dX0_look_34 : decode cX0_look 34 = .ok (.iload_n 1, 1) := by decide +kernel
theorem dX0_look_35 : decode cX0_look 35 = .ok (.bipush 30, 2) := by decide +kernel
theorem dX0_look_37 : decode cX0_look 37 = .ok (.if_icmp .ge 19, 3) := by decide +kernel
theorem dX0_look_40 : decode cX0_look 40 = .ok (.aload_n 0, 1) := by decide +kernel
theorem dX0_look_41 : decode cX0_look 41 = .ok (.getfield 15, 3) := by decide +kernel
theorem dX0_look_44 : decode cX0_look 44 = .ok (.aload_n 0, 1) := by decide +kernel
theorem dX0_look_45 : decode cX0_look 45 = .ok (.getfield 51, 3) := by decide +kernel
theorem dX0_look_48 : decode cX0_look 48 = .ok (.iload_n 1, 1) := by decide +kernel
theorem dX0_look_49 : decode cX0_look 49 = .ok (.bipush 20, 2) := by decide +kernel
theorem dX0_look_51 : decode cX0_look 51 = .ok (.isub, 1) := by decide +kernel
theorem dX0_look_52 : decode cX0_look 52 = .ok (.invokestatic 71, 3) := by decide +kernel
theorem dX0_look_55 : decode cX0_look 55 = .ok (.ireturn, 1) := by decide +kernel
theorem dX0_look_56 : decode cX0_look 56 = .ok (.iload_n 1, 1) := by decide +kernel
theorem dX0_look_57 : decode cX0_look 57 = .ok (.bipush 40, 2) := by decide +kernel
theorem dX0_look_59 : decode cX0_look 59 = .ok (.if_icmp .ge 16, 3) := by decide +kernel
theorem dX0_look_62 : decode cX0_look 62 = .ok (.aload_n 0, 1) := by decide +kernel
theorem dX0_look_63 : decode cX0_look 63 = .ok (.getfield 18, 3) := by decide +kernel
theorem dX0_look_66 : decode cX0_look 66 = .ok (.iconst 4, 1) := by decide +kernel
theorem dX0_look_67 : decode cX0_look 67 = .ok (.iload_n 1, 1) := by decide +kernel
theorem dX0_look_68 : decode cX0_look 68 = .ok (.bipush 30, 2) := by decide +kernel
theorem dX0_look_70 : decode cX0_look 70 = .ok (.isub, 1) := by decide +kernel
theorem dX0_look_71 : decode cX0_look 71 = .ok (.invokestatic 71, 3) := by decide +kernel
theorem dX0_look_74 : decode cX0_look 74 = .ok (.ireturn, 1) := by decide +kernel
theorem dX0_look_75 : decode cX0_look 75 = .ok (.iload_n 1, 1) := by decide +kernel
theorem dX0_look_76 : decode cX0_look 76 = .ok (.bipush 50, 2) := by decide +kernel
theorem dX0_look_78 : decode cX0_look 78 = .ok (.if_icmp .ge 19, 3) := by decide +kernel
theorem dX0_look_81 : decode cX0_look 81 = .ok (.aload_n 0, 1) := by decide +kernel
theorem dX0_look_82 : decode cX0_look 82 = .ok (.getfield 24, 3) := by decide +kernel
theorem dX0_look_85 : decode cX0_look 85 = .ok (.aload_n 0, 1) := by decide +kernel
theorem dX0_look_86 : decode cX0_look 86 = .ok (.getfield 61, 3) := by decide +kernel
theorem dX0_look_89 : decode cX0_look 89 = .ok (.iload_n 1, 1) := by decide +kernel
theorem dX0_look_90 : decode cX0_look 90 = .ok (.bipush 40, 2) := by decide +kernel
theorem dX0_look_92 : decode cX0_look 92 = .ok (.isub, 1) := by decide +kernel
theorem dX0_look_93 : decode cX0_look 93 = .ok (.invokestatic 71, 3) := by decide +kernel
theorem dX0_look_96 : decode cX0_look 96 = .ok (.ireturn, 1) := by decide +kernel
theorem dX0_look_97 : decode cX0_look 97 = .ok (.iload_n 1, 1) := by decide +kernel
theorem dX0_look_98 : decode cX0_look 98 = .ok (.bipush 60, 2) := by decide +kernel
theorem dX0_look_100 : decode cX0_look 100 = .ok (.if_icmp .ge 19, 3) := by decide +kernel
theorem dX0_look_103 : decode cX0_look 103 = .ok (.aload_n 0, 1) := by decide +kernel
theorem dX0_look_104 : decode cX0_look 104 = .ok (.getfield 27, 3) := by decide +kernel
theorem dX0_look_107 : decode cX0_look 107 = .ok (.aload_n 0, 1) := by decide +kernel
theorem dX0_look_108 : decode cX0_look 108 = .ok (.getfield 61, 3) := by decide +kernel
theorem dX0_look_111 : decode cX0_look 111 = .ok (.iload_n 1, 1) := by decide +kernel
theorem dX0_look_112 : decode cX0_look 112 = .ok (.bipush 50, 2) := by decide +kernel
theorem dX0_look_114 : decode cX0_look 114 = .ok (.isub, 1) := by decide +kernel
theorem dX0_look_115 : decode cX0_look 115 = .ok (.invokestatic 71, 3) := by decide +kernel
theorem dX0_look_118 : decode cX0_look 118 = .ok (.ireturn, 1) := by decide +kernel
theorem dX0_look_119 : decode cX0_look 119 = .ok (.iload_n 1, 1) := by decide +kernel
theorem dX0_look_120 : decode cX0_look 120 = .ok (.bipush 70, 2) := by decide +kernel
theorem dX0_look_122 : decode cX0_look 122 = .ok (.if_icmp .ge 19, 3) := by decide +kernel
theorem dX0_look_125 : decode cX0_look 125 = .ok (.aload_n 0, 1) := by decide +kernel
theorem dX0_look_126 : decode cX0_look 126 = .ok (.getfield 30, 3) := by decide +kernel
theorem dX0_look_129 : decode cX0_look 129 = .ok (.aload_n 0, 1) := by decide +kernel
theorem dX0_look_130 : decode cX0_look 130 = .ok (.getfield 64, 3) := by decide +kernel
theorem dX0_look_133 : decode cX0_look 133 = .ok (.iload_n 1, 1) := by decide +kernel
theorem dX0_look_134 : decode cX0_look 134 = .ok (.bipush 60, 2) := by decide +kernel
theorem dX0_look_136 : decode cX0_look 136 = .ok (.isub, 1) := by decide +kernel
theorem dX0_look_137 : decode cX0_look 137 = .ok (.invokestatic 71, 3) := by decide +kernel
theorem dX0_look_140 : decode cX0_look 140 = .ok (.ireturn, 1) := by decide +kernel
theorem dX0_look_141 : decode cX0_look 141 = .ok (.aload_n 0, 1) := by decide +kernel
theorem dX0_look_142 : decode cX0_look 142 = .ok (.getfield 21, 3) := by decide +kernel
theorem dX0_look_145 : decode cX0_look 145 = .ok (.iconst 4, 1) := by decide +kernel
theorem dX0_look_146 : decode cX0_look 146 = .ok (.aload_n 0, 1) := by decide +kernel
theorem dX0_look_147 : decode cX0_look 147 = .ok (.getfield 51, 3) := by decide +kernel
theorem dX0_look_150 : decode cX0_look 150 = .ok (.imul, 1) := by decide +kernel
theorem dX0_look_151 : decode cX0_look 151 = .ok (.iload_n 1, 1) := by decide +kernel
theorem dX0_look_152 : decode cX0_look 152 = .ok (.bipush 70, 2) := by decide +kernel
theorem dX0_look_154 : decode cX0_look 154 = .ok (.isub, 1) := by decide +kernel
theorem dX0_look_155 : decode cX0_look 155 = .ok (.invokestatic 71, 3) := by decide +kernel
theorem dX0_look_158 : decode cX0_look 158 = .ok (.ireturn, 1) := by decide +kernel
def is_X0_look : Nat → List Nat := fun d => []
set_option maxRecDepth 100000 in
def b_X0_look_130 (J : Nat → List qV → List qV → qW → Prop) (Q : qR) : qK := x_get 0 11 (x_iload 1 (x_int 60 (x_isub (x_callr none 3 spr_X0_entry (x_iret Q)))))
set_option maxRecDepth 100000 in
theorem s_X0_look_130 {p : Program} {l : Launch} {e : Env} {R : Room} {s : State} {m : MethodId} {args : Array Value} {below : List Frame} {meth : Method} {c : Code} {nW : Nat} {dC : Nat → ClassId} {dI : Nat → Nat → Nat} {k : Nat → ClassId} {g : Nat → Nat} {A : Nat → Prop} {J : Nat → List qV → List qV → qW → Prop} {Q : qR} (X : q_X p R s m args meth c cX0_look 2 nW 1 22 RX0 (some .int) dC dI k g A) (hJ : ∀ d : Nat, q_Sd p l e R s m args below meth c 2 nW dC dI k g A (MQ below (q_post (dC, dI) k g nW Q A) args s 0 0 A) d (x_cut (is_X0_look d) (J d))) : q_Sd p l e R s m args below meth c 2 nW dC dI k g A (MQ below (q_post (dC, dI) k g nW Q A) args s 0 0 A) 130 (b_X0_look_130 J Q) := by
  unfold b_X0_look_130
  refine s_get X (T := TX0) (C := RX0) (N := 12) tu_X0 rfl (by decide) tw_207 dX0_look_130 ?_
  refine s_iload_n X rfl dX0_look_133 ?_
  refine s_bipush X ⟨by decide, by decide⟩ (by decide) dX0_look_134 ?_
  refine s_isub X dX0_look_136 ?_
  refine s_callSr X (m_X0_entry l) tw_552 tw_553 tw_122 tw_554 (by decide +kernel) ⟨by decide, by decide⟩ dX0_look_137 ?_
  exact s_iret X dX0_look_140
set_option maxRecDepth 100000 in
def b_X0_look_86 (J : Nat → List qV → List qV → qW → Prop) (Q : qR) : qK := x_get 0 10 (x_iload 1 (x_int 40 (x_isub (x_callr none 3 spr_X0_entry (x_iret Q)))))
set_option maxRecDepth 100000 in
theorem s_X0_look_86 {p : Program} {l : Launch} {e : Env} {R : Room} {s : State} {m : MethodId} {args : Array Value} {below : List Frame} {meth : Method} {c : Code} {nW : Nat} {dC : Nat → ClassId} {dI : Nat → Nat → Nat} {k : Nat → ClassId} {g : Nat → Nat} {A : Nat → Prop} {J : Nat → List qV → List qV → qW → Prop} {Q : qR} (X : q_X p R s m args meth c cX0_look 2 nW 1 22 RX0 (some .int) dC dI k g A) (hJ : ∀ d : Nat, q_Sd p l e R s m args below meth c 2 nW dC dI k g A (MQ below (q_post (dC, dI) k g nW Q A) args s 0 0 A) d (x_cut (is_X0_look d) (J d))) : q_Sd p l e R s m args below meth c 2 nW dC dI k g A (MQ below (q_post (dC, dI) k g nW Q A) args s 0 0 A) 86 (b_X0_look_86 J Q) := by
  unfold b_X0_look_86
  refine s_get X (T := TX0) (C := RX0) (N := 12) tu_X0 rfl (by decide) tw_203 dX0_look_86 ?_
  refine s_iload_n X rfl dX0_look_89 ?_
  refine s_bipush X ⟨by decide, by decide⟩ (by decide) dX0_look_90 ?_
  refine s_isub X dX0_look_92 ?_
  refine s_callSr X (m_X0_entry l) tw_552 tw_553 tw_122 tw_554 (by decide +kernel) ⟨by decide, by decide⟩ dX0_look_93 ?_
  exact s_iret X dX0_look_96
set_option maxRecDepth 100000 in
def b_X0_look_44 (J : Nat → List qV → List qV → qW → Prop) (Q : qR) : qK := x_aload 0 (x_get 0 7 (x_iload 1 (x_int 20 (x_isub (x_callr none 3 spr_X0_entry (x_iret Q))))))
set_option maxRecDepth 100000 in
theorem s_X0_look_44 {p : Program} {l : Launch} {e : Env} {R : Room} {s : State} {m : MethodId} {args : Array Value} {below : List Frame} {meth : Method} {c : Code} {nW : Nat} {dC : Nat → ClassId} {dI : Nat → Nat → Nat} {k : Nat → ClassId} {g : Nat → Nat} {A : Nat → Prop} {J : Nat → List qV → List qV → qW → Prop} {Q : qR} (X : q_X p R s m args meth c cX0_look 2 nW 1 22 RX0 (some .int) dC dI k g A) (hJ : ∀ d : Nat, q_Sd p l e R s m args below meth c 2 nW dC dI k g A (MQ below (q_post (dC, dI) k g nW Q A) args s 0 0 A) d (x_cut (is_X0_look d) (J d))) : q_Sd p l e R s m args below meth c 2 nW dC dI k g A (MQ below (q_post (dC, dI) k g nW Q A) args s 0 0 A) 44 (b_X0_look_44 J Q) := by
  unfold b_X0_look_44
  refine s_aload_n X rfl dX0_look_44 ?_
  refine s_get X (T := TX0) (C := RX0) (N := 12) tu_X0 rfl (by decide) tw_193 dX0_look_45 ?_
  refine s_iload_n X rfl dX0_look_48 ?_
  refine s_bipush X ⟨by decide, by decide⟩ (by decide) dX0_look_49 ?_
  refine s_isub X dX0_look_51 ?_
  refine s_callSr X (m_X0_entry l) tw_552 tw_553 tw_122 tw_554 (by decide +kernel) ⟨by decide, by decide⟩ dX0_look_52 ?_
  exact s_iret X dX0_look_55
set_option maxRecDepth 100000 in
def b_X0_look_0 (J : Nat → List qV → List qV → qW → Prop) (Q : qR) : qK := x_iload 1 (x_int 10 (x_icmp_ge (x_iload 1 (x_int 20 (x_icmp_ge (x_iload 1 (x_int 30 (x_icmp_ge (x_iload 1 (x_int 40 (x_icmp_ge (x_iload 1 (x_int 50 (x_icmp_ge (x_iload 1 (x_int 60 (x_icmp_ge (x_iload 1 (x_int 70 (x_icmp_ge (x_aload 0 (x_get 0 3 (x_int 4 (x_aload 0 (x_get 0 7 (x_imul (x_iload 1 (x_int 70 (x_isub (x_callr none 3 spr_X0_entry (x_iret Q))))))))))) (x_aload 0 (x_get 0 6 (x_aload 0 (b_X0_look_130 J Q))))))) (x_aload 0 (x_get 0 5 (x_aload 0 (x_get 0 10 (x_iload 1 (x_int 50 (x_isub (x_callr none 3 spr_X0_entry (x_iret Q)))))))))))) (x_aload 0 (x_get 0 4 (x_aload 0 (b_X0_look_86 J Q))))))) (x_aload 0 (x_get 0 2 (x_int 4 (x_iload 1 (x_int 30 (x_isub (x_callr none 3 spr_X0_entry (x_iret Q))))))))))) (x_aload 0 (x_get 0 1 (b_X0_look_44 J Q)))))) (x_aload 0 (x_get 0 0 (x_aload 0 (x_get 0 7 (x_iload 1 (x_int 10 (x_isub (x_callr none 3 spr_X0_entry (x_iret Q)))))))))))) (x_aload 0 (x_iload 1 (x_callr (some 0) 2 spr_X0_total (x_iret Q))))))
set_option maxRecDepth 100000 in
theorem s_X0_look_0 {p : Program} {l : Launch} {e : Env} {R : Room} {s : State} {m : MethodId} {args : Array Value} {below : List Frame} {meth : Method} {c : Code} {nW : Nat} {dC : Nat → ClassId} {dI : Nat → Nat → Nat} {k : Nat → ClassId} {g : Nat → Nat} {A : Nat → Prop} {J : Nat → List qV → List qV → qW → Prop} {Q : qR} (X : q_X p R s m args meth c cX0_look 2 nW 1 22 RX0 (some .int) dC dI k g A) (hJ : ∀ d : Nat, q_Sd p l e R s m args below meth c 2 nW dC dI k g A (MQ below (q_post (dC, dI) k g nW Q A) args s 0 0 A) d (x_cut (is_X0_look d) (J d))) : q_Sd p l e R s m args below meth c 2 nW dC dI k g A (MQ below (q_post (dC, dI) k g nW Q A) args s 0 0 A) 0 (b_X0_look_0 J Q) := by
  unfold b_X0_look_0
  refine s_iload_n X rfl dX0_look_0 ?_
  refine s_bipush X ⟨by decide, by decide⟩ (by decide) dX0_look_1 ?_
  refine s_icmp_ge X (tgt := 12) dX0_look_3 (by decide) ?_ ?_
  · refine s_iload_n X rfl dX0_look_12 ?_
    refine s_bipush X ⟨by decide, by decide⟩ (by decide) dX0_look_13 ?_
    refine s_icmp_ge X (tgt := 34) dX0_look_15 (by decide) ?_ ?_
    · refine s_iload_n X rfl dX0_look_34 ?_
      refine s_bipush X ⟨by decide, by decide⟩ (by decide) dX0_look_35 ?_
      refine s_icmp_ge X (tgt := 56) dX0_look_37 (by decide) ?_ ?_
      · refine s_iload_n X rfl dX0_look_56 ?_
        refine s_bipush X ⟨by decide, by decide⟩ (by decide) dX0_look_57 ?_
        refine s_icmp_ge X (tgt := 75) dX0_look_59 (by decide) ?_ ?_
        · refine s_iload_n X rfl dX0_look_75 ?_
          refine s_bipush X ⟨by decide, by decide⟩ (by decide) dX0_look_76 ?_
          refine s_icmp_ge X (tgt := 97) dX0_look_78 (by decide) ?_ ?_
          · refine s_iload_n X rfl dX0_look_97 ?_
            refine s_bipush X ⟨by decide, by decide⟩ (by decide) dX0_look_98 ?_
            refine s_icmp_ge X (tgt := 119) dX0_look_100 (by decide) ?_ ?_
            · refine s_iload_n X rfl dX0_look_119 ?_
              refine s_bipush X ⟨by decide, by decide⟩ (by decide) dX0_look_120 ?_
              refine s_icmp_ge X (tgt := 141) dX0_look_122 (by decide) ?_ ?_
              · refine s_aload_n X rfl dX0_look_141 ?_
                refine s_get X (T := TX0) (C := RX0) (N := 12) tu_X0 rfl (by decide) tw_179 dX0_look_142 ?_
                refine s_iconst X ⟨by decide, by decide⟩ dX0_look_145 ?_
                refine s_aload_n X rfl dX0_look_146 ?_
                refine s_get X (T := TX0) (C := RX0) (N := 12) tu_X0 rfl (by decide) tw_193 dX0_look_147 ?_
                refine s_imul X dX0_look_150 ?_
                refine s_iload_n X rfl dX0_look_151 ?_
                refine s_bipush X ⟨by decide, by decide⟩ (by decide) dX0_look_152 ?_
                refine s_isub X dX0_look_154 ?_
                refine s_callSr X (m_X0_entry l) tw_552 tw_553 tw_122 tw_554 (by decide +kernel) ⟨by decide, by decide⟩ dX0_look_155 ?_
                exact s_iret X dX0_look_158
              · refine s_aload_n X rfl dX0_look_125 ?_
                refine s_get X (T := TX0) (C := RX0) (N := 12) tu_X0 rfl (by decide) tw_187 dX0_look_126 ?_
                refine s_aload_n X rfl dX0_look_129 ?_
                exact s_X0_look_130 X hJ
            · refine s_aload_n X rfl dX0_look_103 ?_
              refine s_get X (T := TX0) (C := RX0) (N := 12) tu_X0 rfl (by decide) tw_184 dX0_look_104 ?_
              refine s_aload_n X rfl dX0_look_107 ?_
              refine s_get X (T := TX0) (C := RX0) (N := 12) tu_X0 rfl (by decide) tw_203 dX0_look_108 ?_
              refine s_iload_n X rfl dX0_look_111 ?_
              refine s_bipush X ⟨by decide, by decide⟩ (by decide) dX0_look_112 ?_
              refine s_isub X dX0_look_114 ?_
              refine s_callSr X (m_X0_entry l) tw_552 tw_553 tw_122 tw_554 (by decide +kernel) ⟨by decide, by decide⟩ dX0_look_115 ?_
              exact s_iret X dX0_look_118
          · refine s_aload_n X rfl dX0_look_81 ?_
            refine s_get X (T := TX0) (C := RX0) (N := 12) tu_X0 rfl (by decide) tw_181 dX0_look_82 ?_
            refine s_aload_n X rfl dX0_look_85 ?_
            exact s_X0_look_86 X hJ
        · refine s_aload_n X rfl dX0_look_62 ?_
          refine s_get X (T := TX0) (C := RX0) (N := 12) tu_X0 rfl (by decide) tw_175 dX0_look_63 ?_
          refine s_iconst X ⟨by decide, by decide⟩ dX0_look_66 ?_
          refine s_iload_n X rfl dX0_look_67 ?_
          refine s_bipush X ⟨by decide, by decide⟩ (by decide) dX0_look_68 ?_
          refine s_isub X dX0_look_70 ?_
          refine s_callSr X (m_X0_entry l) tw_552 tw_553 tw_122 tw_554 (by decide +kernel) ⟨by decide, by decide⟩ dX0_look_71 ?_
          exact s_iret X dX0_look_74
      · refine s_aload_n X rfl dX0_look_40 ?_
        refine s_get X (T := TX0) (C := RX0) (N := 12) tu_X0 rfl (by decide) tw_172 dX0_look_41 ?_
        exact s_X0_look_44 X hJ
    · refine s_aload_n X rfl dX0_look_18 ?_
      refine s_get X (T := TX0) (C := RX0) (N := 12) tu_X0 rfl (by decide) tw_164 dX0_look_19 ?_
      refine s_aload_n X rfl dX0_look_22 ?_
      refine s_get X (T := TX0) (C := RX0) (N := 12) tu_X0 rfl (by decide) tw_193 dX0_look_23 ?_
      refine s_iload_n X rfl dX0_look_26 ?_
      refine s_bipush X ⟨by decide, by decide⟩ (by decide) dX0_look_27 ?_
      refine s_isub X dX0_look_29 ?_
      refine s_callSr X (m_X0_entry l) tw_552 tw_553 tw_122 tw_554 (by decide +kernel) ⟨by decide, by decide⟩ dX0_look_30 ?_
      exact s_iret X dX0_look_33
  · refine s_aload_n X rfl dX0_look_6 ?_
    refine s_iload_n X rfl dX0_look_7 ?_
    refine s_callVr X (m_X0_total l) tw_549 tw_550 tw_1488 tw_122 tw_551 rfl (by decide +kernel) ⟨by decide, by decide⟩ dX0_look_8 ?_
    exact s_iret X dX0_look_11

def spr_X0_look : List qV → qW → (Option qV → Prop) → Prop := fun av w Q => ∃ (f1 : Nat → Int) (f2 : Nat → Int) (f3 : Nat → Int) (f4 : Nat → Int) (f5 : Nat → Int) (f6 : Nat → Int) (f7 : Nat → Int) (u0 : Int) (u1 : Int) (u2 : Int) (u3 : Int) (u4 : Int) (a : Int), av = [q2 0, q1 a] ∧ w = wB f1 f2 f3 f4 f5 f6 f7 u0 u1 u2 u3 u4 ∧ (0 ≤ u0 ∧ u0 ≤ 8) ∧ (∀ (r : Int) , Q (some (q1 r)))
def sp_X0_look : qS := fun av w Q => spr_X0_look av w (fun r => Q r w)
set_option maxHeartbeats 4000000 in
set_option maxRecDepth 100000 in
theorem m_X0_look (l : Launch) : q_M l yX0_look cX0_look 2 (some .int) 1 22 sp_X0_look := by
  refine q_meth (by decide) (fun av w Q h => by obtain ⟨f1, f2, f3, f4, f5, f6, f7, u0, u1, u2, u3, u4, a, rfl, rfl, hu0, hQ⟩ := h; exact Nat.le_of_ble_eq_true rfl) ?_
  intro p e R s m args below meth c dC dI k g A av w Q hsp oka okw X
  obtain ⟨f1, f2, f3, f4, f5, f6, f7, u0, u1, u2, u3, u4, a, rfl, rfl, hu0, hQ⟩ := hsp
  have o_a : -2147483648 ≤ a ∧ a ≤ 2147483647 := oka _ (List.mem_of_getElem? (i := 1) rfl)
  refine s_mono (s_X0_look_0 X (J := fun _ _ _ _ => False) (fun d => s_cutF)) ?_
  rintro lv st w' ⟨rfl, rfl, rfl⟩
  apply And.intro
  · intro h3
    apply And.intro
    · intro h15
      apply And.intro
      · intro h37
        apply And.intro
        · intro h59
          apply And.intro
          · intro h78
            apply And.intro
            · intro h100
              apply And.intro
              · intro h122
                intro z150 h150
                first | replace h150 := e_mul h150 (by omega) | replace h150 := e_rng h150
                intro z154 h154
                first | replace h154 := e_sub h154 (by omega) | replace h154 := e_rng h154
                refine Exists.intro [4] (Exists.intro [q2 0, q1 _, q1 _] (Exists.intro ([.inl (0, _, .inl _)]) (And.intro rfl (And.intro rfl (And.intro rfl (And.intro trivial ?_))))))
                refine Exists.intro _ (Exists.intro _ (Exists.intro _ (Exists.intro _ (And.intro rfl (And.intro rfl (And.intro (by first | omega | assumption | exact q_rg_up (by assumption) (by omega) | exact q_rg_up (q_rg_up (by assumption) (by omega)) (by omega) | exact q_rg_cpy (by assumption) (by assumption)) (?_)))))))
                intro z155
                exact hQ _
              · intro h122
                intro z136 h136
                first | replace h136 := e_sub h136 (by omega) | replace h136 := e_rng h136
                refine Exists.intro [7] (Exists.intro [q2 0, q1 _, q1 _] (Exists.intro ([.inl (0, _, .inl _)]) (And.intro rfl (And.intro rfl (And.intro rfl (And.intro trivial ?_))))))
                refine Exists.intro _ (Exists.intro _ (Exists.intro _ (Exists.intro _ (And.intro rfl (And.intro rfl (And.intro (by first | omega | assumption | exact q_rg_up (by assumption) (by omega) | exact q_rg_up (q_rg_up (by assumption) (by omega)) (by omega) | exact q_rg_cpy (by assumption) (by assumption)) (?_)))))))
                intro z137
                exact hQ _
            · intro h100
              intro z114 h114
              first | replace h114 := e_sub h114 (by omega) | replace h114 := e_rng h114
              refine Exists.intro [6] (Exists.intro [q2 0, q1 _, q1 _] (Exists.intro ([.inl (0, _, .inl _)]) (And.intro rfl (And.intro rfl (And.intro rfl (And.intro trivial ?_))))))
              refine Exists.intro _ (Exists.intro _ (Exists.intro _ (Exists.intro _ (And.intro rfl (And.intro rfl (And.intro (by first | omega | assumption | exact q_rg_up (by assumption) (by omega) | exact q_rg_up (q_rg_up (by assumption) (by omega)) (by omega) | exact q_rg_cpy (by assumption) (by assumption)) (?_)))))))
              intro z115
              exact hQ _
          · intro h78
            intro z92 h92
            first | replace h92 := e_sub h92 (by omega) | replace h92 := e_rng h92
            refine Exists.intro [5] (Exists.intro [q2 0, q1 _, q1 _] (Exists.intro ([.inl (0, _, .inl _)]) (And.intro rfl (And.intro rfl (And.intro rfl (And.intro trivial ?_))))))
            refine Exists.intro _ (Exists.intro _ (Exists.intro _ (Exists.intro _ (And.intro rfl (And.intro rfl (And.intro (by first | omega | assumption | exact q_rg_up (by assumption) (by omega) | exact q_rg_up (q_rg_up (by assumption) (by omega)) (by omega) | exact q_rg_cpy (by assumption) (by assumption)) (?_)))))))
            intro z93
            exact hQ _
        · intro h59
          intro z70 h70
          first | replace h70 := e_sub h70 (by omega) | replace h70 := e_rng h70
          refine Exists.intro [3] (Exists.intro [q2 0, q1 _, q1 _] (Exists.intro ([.inl (0, _, .inl _)]) (And.intro rfl (And.intro rfl (And.intro rfl (And.intro trivial ?_))))))
          refine Exists.intro _ (Exists.intro _ (Exists.intro _ (Exists.intro _ (And.intro rfl (And.intro rfl (And.intro (by first | omega | assumption | exact q_rg_up (by assumption) (by omega) | exact q_rg_up (q_rg_up (by assumption) (by omega)) (by omega) | exact q_rg_cpy (by assumption) (by assumption)) (?_)))))))
          intro z71
          exact hQ _
      · intro h37
        intro z51 h51
        first | replace h51 := e_sub h51 (by omega) | replace h51 := e_rng h51
        refine Exists.intro [2] (Exists.intro [q2 0, q1 _, q1 _] (Exists.intro ([.inl (0, _, .inl _)]) (And.intro rfl (And.intro rfl (And.intro rfl (And.intro trivial ?_))))))
        refine Exists.intro _ (Exists.intro _ (Exists.intro _ (Exists.intro _ (And.intro rfl (And.intro rfl (And.intro (by first | omega | assumption | exact q_rg_up (by assumption) (by omega) | exact q_rg_up (q_rg_up (by assumption) (by omega)) (by omega) | exact q_rg_cpy (by assumption) (by assumption)) (?_)))))))
        intro z52
        exact hQ _
    · intro h15
      intro z29 h29
      first | replace h29 := e_sub h29 (by omega) | replace h29 := e_rng h29
      refine Exists.intro [1] (Exists.intro [q2 0, q1 _, q1 _] (Exists.intro ([.inl (0, _, .inl _)]) (And.intro rfl (And.intro rfl (And.intro rfl (And.intro trivial ?_))))))
      refine Exists.intro _ (Exists.intro _ (Exists.intro _ (Exists.intro _ (And.intro rfl (And.intro rfl (And.intro (by first | omega | assumption | exact q_rg_up (by assumption) (by omega) | exact q_rg_up (q_rg_up (by assumption) (by omega)) (by omega) | exact q_rg_cpy (by assumption) (by assumption)) (?_)))))))
      intro z30
      exact hQ _
  · intro h3
    refine Exists.intro [0, 1, 2, 3, 4, 5, 6, 7] (Exists.intro [q2 0, q1 _] (Exists.intro (wB _ _ _ _ _ _ _ _ _ _ _ _) (And.intro rfl (And.intro rfl (And.intro rfl (And.intro ⟨⟨_, rfl⟩, rfl⟩ ?_))))))
    refine Exists.intro _ (Exists.intro _ (Exists.intro _ (Exists.intro _ (Exists.intro _ (Exists.intro _ (Exists.intro _ (Exists.intro _ (Exists.intro _ (Exists.intro _ (Exists.intro _ (Exists.intro _ (Exists.intro _ (And.intro rfl (And.intro rfl (?_)))))))))))))))
    intro z8
    exact hQ _
