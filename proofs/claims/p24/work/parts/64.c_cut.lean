theorem dX12_passes_0 : decode cX12_passes 0 = .ok (.iconst 0, 1) := by decide +kernel
theorem dX12_passes_1 : decode cX12_passes 1 = .ok (.istore_n 3, 1) := by decide +kernel
theorem dX12_passes_2 : decode cX12_passes 2 = .ok (.iconst 0, 1) := by decide +kernel
theorem dX12_passes_3 : decode cX12_passes 3 = .ok (.istore 4, 2) := by decide +kernel
theorem dX12_passes_5 : decode cX12_passes 5 = .ok (.iload 4, 2) := by decide +kernel
theorem dX12_passes_7 : decode cX12_passes 7 = .ok (.aload_n 0, 1) := by decide +kernel
theorem dX12_passes_8 : decode cX12_passes 8 = .ok (.getfield 303, 3) := by decide +kernel
theorem dX12_passes_11 : decode cX12_passes 11 = .ok (.if_icmp .ge 54, 3) := by decide +kernel
theorem dX12_passes_14 : decode cX12_passes 14 = .ok (.iload_n 3, 1) := by decide +kernel
theorem dX12_passes_15 : decode cX12_passes 15 = .ok (.aload_n 0, 1) := by decide +kernel
theorem dX12_passes_16 : decode cX12_passes 16 = .ok (.bipush 31, 2) := by decide +kernel
theorem dX12_passes_18 : decode cX12_passes 18 = .ok (.iload_n 1, 1) := by decide +kernel
theorem dX12_passes_19 : decode cX12_passes 19 = .ok (.iadd, 1) := by decide +kernel
theorem dX12_passes_20 : decode cX12_passes 20 = .ok (.invokevirtual 299, 3) := by decide +kernel
theorem dX12_passes_23 : decode cX12_passes 23 = .ok (.iload 4, 2) := by decide +kernel
theorem dX12_passes_25 : decode cX12_passes 25 = .ok (.invokestatic 92, 3) := by decide +kernel
theorem dX12_passes_28 : decode cX12_passes 28 = .ok (.ifCond .eq 28, 3) := by decide +kernel
theorem dX12_passes_31 : decode cX12_passes 31 = .ok (.aload_n 0, 1) := by decide +kernel
theorem dX12_passes_32 : decode cX12_passes 32 = .ok (.iconst 5, 1) := by decide +kernel
theorem dX12_passes_33 : decode cX12_passes 33 = .ok (.iload 4, 2) := by decide +kernel
theorem dX12_passes_35 : decode cX12_passes 35 = .ok (.iadd, 1) := by decide +kernel
theorem dX12_passes_36 : decode cX12_passes 36 = .ok (.invokevirtual 299, 3) := by decide +kernel
theorem dX12_passes_39 : decode cX12_passes 39 = .ok (.aload_n 0, 1) := by decide +kernel
theorem dX12_passes_40 : decode cX12_passes 40 = .ok (.bipush 25, 2) := by decide +kernel
theorem dX12_passes_42 : decode cX12_passes 42 = .ok (.iload_n 1, 1) := by decide +kernel
theorem dX12_passes_43 : decode cX12_passes 43 = .ok (.iadd, 1) := by decide +kernel
theorem dX12_passes_44 : decode cX12_passes 44 = .ok (.invokevirtual 299, 3) := by decide +kernel
theorem dX12_passes_47 : decode cX12_passes 47 = .ok (.iload_n 2, 1) := by decide +kernel
theorem dX12_passes_48 : decode cX12_passes 48 = .ok (.iadd, 1) := by decide +kernel
theorem dX12_passes_49 : decode cX12_passes 49 = .ok (.if_icmp .gt 7, 3) := by decide +kernel
theorem dX12_passes_52 : decode cX12_passes 52 = .ok (.iconst 1, 1) := by decide +kernel
theorem dX12_passes_53 : decode cX12_passes 53 = .ok (.goto 4, 3) := by decide +kernel
theorem dX12_passes_56 : decode cX12_passes 56 = .ok (.iconst 0, 1) := by decide +kernel
theorem dX12_passes_57 : decode cX12_passes 57 = .ok (.iadd, 1) := by decide +kernel
theorem dX12_passes_58 : decode cX12_passes 58 = .ok (.istore_n 3, 1) := by decide +kernel
theorem dX12_passes_59 : decode cX12_passes 59 = .ok (.iinc 4 1, 3) := by decide +kernel
theorem dX12_passes_62 : decode cX12_passes 62 = .ok (.goto (-57), 3) := by decide +kernel
theorem dX12_passes_65 : decode cX12_passes 65 = .ok (.iload_n 3, 1) := by decide +kernel
theorem dX12_passes_66 : decode cX12_passes 66 = .ok (.ireturn, 1) := by decide +kernel
def is_X12_passes : Nat → List Nat := fun d => if d = 5 then [0, 1, 2, 3, 4] else []
set_option maxRecDepth 100000 in
def b_X12_passes_57 (J : Nat → List qV → List qV → qW → Prop) (Q : qR) : qK := x_iadd (x_istore 3 (x_iinc 4 1 (x_cut [0, 1, 2, 3, 4] (J 5))))
set_option maxRecDepth 100000 in
theorem s_X12_passes_57 {p : Program} {l : Launch} {e : Env} {R : Room} {s : State} {m : MethodId} {args : Array Value} {below : List Frame} {meth : Method} {c : Code} {nW : Nat} {dC : Nat → ClassId} {dI : Nat → Nat → Nat} {k : Nat → ClassId} {g : Nat → Nat} {A : Nat → Prop} {J : Nat → List qV → List qV → qW → Prop} {Q : qR} (X : q_X p R s m args meth c cX12_passes 5 nW 1 21 RX12 (some .int) dC dI k g A) (hJ : ∀ d : Nat, q_Sd p l e R s m args below meth c 5 nW dC dI k g A (MQ below (q_post (dC, dI) k g nW Q A) args s 0 0 A) d (x_cut (is_X12_passes d) (J d))) : q_Sd p l e R s m args below meth c 5 nW dC dI k g A (MQ below (q_post (dC, dI) k g nW Q A) args s 0 0 A) 57 (b_X12_passes_57 J Q) := by
  unfold b_X12_passes_57
  refine s_iadd X dX12_passes_57 ?_
  refine s_istore_n X rfl (by decide) dX12_passes_58 ?_
  refine s_iinc X (by decide) dX12_passes_59 ?_
  refine s_goto X (tgt := 5) dX12_passes_62 (by decide) ?_
  exact hJ 5
set_option maxRecDepth 100000 in
def b_X12_passes_56 (J : Nat → List qV → List qV → qW → Prop) (Q : qR) : qK := x_int 0 (b_X12_passes_57 J Q)
set_option maxRecDepth 100000 in
theorem s_X12_passes_56 {p : Program} {l : Launch} {e : Env} {R : Room} {s : State} {m : MethodId} {args : Array Value} {below : List Frame} {meth : Method} {c : Code} {nW : Nat} {dC : Nat → ClassId} {dI : Nat → Nat → Nat} {k : Nat → ClassId} {g : Nat → Nat} {A : Nat → Prop} {J : Nat → List qV → List qV → qW → Prop} {Q : qR} (X : q_X p R s m args meth c cX12_passes 5 nW 1 21 RX12 (some .int) dC dI k g A) (hJ : ∀ d : Nat, q_Sd p l e R s m args below meth c 5 nW dC dI k g A (MQ below (q_post (dC, dI) k g nW Q A) args s 0 0 A) d (x_cut (is_X12_passes d) (J d))) : q_Sd p l e R s m args below meth c 5 nW dC dI k g A (MQ below (q_post (dC, dI) k g nW Q A) args s 0 0 A) 56 (b_X12_passes_56 J Q) := by
  unfold b_X12_passes_56
  refine s_iconst X ⟨by decide, by decide⟩ dX12_passes_56 ?_
  exact s_X12_passes_57 X hJ
set_option maxRecDepth 100000 in
def b_X12_passes_48 (J : Nat → List qV → List qV → qW → Prop) (Q : qR) : qK := x_iadd (x_icmp_gt (b_X12_passes_56 J Q) (x_int 1 (b_X12_passes_57 J Q)))
set_option maxRecDepth 100000 in
theorem s_X12_passes_48 {p : Program} {l : Launch} {e : Env} {R : Room} {s : State} {m : MethodId} {args : Array Value} {below : List Frame} {meth : Method} {c : Code} {nW : Nat} {dC : Nat → ClassId} {dI : Nat → Nat → Nat} {k : Nat → ClassId} {g : Nat → Nat} {A : Nat → Prop} {J : Nat → List qV → List qV → qW → Prop} {Q : qR} (X : q_X p R s m args meth c cX12_passes 5 nW 1 21 RX12 (some .int) dC dI k g A) (hJ : ∀ d : Nat, q_Sd p l e R s m args below meth c 5 nW dC dI k g A (MQ below (q_post (dC, dI) k g nW Q A) args s 0 0 A) d (x_cut (is_X12_passes d) (J d))) : q_Sd p l e R s m args below meth c 5 nW dC dI k g A (MQ below (q_post (dC, dI) k g nW Q A) args s 0 0 A) 48 (b_X12_passes_48 J Q) := by
  unfold b_X12_passes_48
  refine s_iadd X dX12_passes_48 ?_
  refine s_icmp_gt X (tgt := 56) dX12_passes_49 (by decide) ?_ ?_
  · exact s_X12_passes_56 X hJ
  · refine s_iconst X ⟨by decide, by decide⟩ dX12_passes_52 ?_
    refine s_goto X (tgt := 57) dX12_passes_53 (by decide) ?_
    exact s_X12_passes_57 X hJ
set_option maxRecDepth 100000 in
def b_X12_passes_5 (J : Nat → List qV → List qV → qW → Prop) (Q : qR) : qK := x_iload 4 (x_aload 0 (x_get 12 25 (x_icmp_ge (x_iload 3 (x_iret Q)) (x_iload 3 (x_aload 0 (x_int 31 (x_iload 1 (x_iadd (x_callr (some 12) 2 spr_X12_of (x_iload 4 (x_callr none 2 spr_X12_has (x_if_eq (b_X12_passes_56 J Q) (x_aload 0 (x_int 5 (x_iload 4 (x_iadd (x_callr (some 12) 2 spr_X12_of (x_aload 0 (x_int 25 (x_iload 1 (x_iadd (x_callr (some 12) 2 spr_X12_of (x_iload 2 (b_X12_passes_48 J Q))))))))))))))))))))))))
set_option maxRecDepth 100000 in
theorem s_X12_passes_5 {p : Program} {l : Launch} {e : Env} {R : Room} {s : State} {m : MethodId} {args : Array Value} {below : List Frame} {meth : Method} {c : Code} {nW : Nat} {dC : Nat → ClassId} {dI : Nat → Nat → Nat} {k : Nat → ClassId} {g : Nat → Nat} {A : Nat → Prop} {J : Nat → List qV → List qV → qW → Prop} {Q : qR} (X : q_X p R s m args meth c cX12_passes 5 nW 1 21 RX12 (some .int) dC dI k g A) (hJ : ∀ d : Nat, q_Sd p l e R s m args below meth c 5 nW dC dI k g A (MQ below (q_post (dC, dI) k g nW Q A) args s 0 0 A) d (x_cut (is_X12_passes d) (J d))) : q_Sd p l e R s m args below meth c 5 nW dC dI k g A (MQ below (q_post (dC, dI) k g nW Q A) args s 0 0 A) 5 (b_X12_passes_5 J Q) := by
  unfold b_X12_passes_5
  refine s_iload X dX12_passes_5 ?_
  refine s_aload_n X rfl dX12_passes_7 ?_
  refine s_get X (T := TX12) (C := RX12) (N := 45) tu_X12 rfl (by decide) tw_1022 dX12_passes_8 ?_
  refine s_icmp_ge X (tgt := 65) dX12_passes_11 (by decide) ?_ ?_
  · refine s_iload_n X rfl dX12_passes_65 ?_
    exact s_iret X dX12_passes_66
  · refine s_iload_n X rfl dX12_passes_14 ?_
    refine s_aload_n X rfl dX12_passes_15 ?_
    refine s_bipush X ⟨by decide, by decide⟩ (by decide) dX12_passes_16 ?_
    refine s_iload_n X rfl dX12_passes_18 ?_
    refine s_iadd X dX12_passes_19 ?_
    refine s_callVr X (m_X12_of l) tw_1189 tw_1190 tw_1603 tw_134 tw_1191 rfl (by decide +kernel) ⟨by decide, by decide⟩ dX12_passes_20 ?_
    refine s_iload X dX12_passes_23 ?_
    refine s_callSr X (m_X12_has l) tw_1233 tw_1234 tw_134 tw_1235 (by decide +kernel) ⟨by decide, by decide⟩ dX12_passes_25 ?_
    refine s_if_eq X (tgt := 56) dX12_passes_28 (by decide) ?_ ?_
    · exact s_X12_passes_56 X hJ
    · refine s_aload_n X rfl dX12_passes_31 ?_
      refine s_iconst X ⟨by decide, by decide⟩ dX12_passes_32 ?_
      refine s_iload X dX12_passes_33 ?_
      refine s_iadd X dX12_passes_35 ?_
      refine s_callVr X (m_X12_of l) tw_1189 tw_1190 tw_1603 tw_134 tw_1191 rfl (by decide +kernel) ⟨by decide, by decide⟩ dX12_passes_36 ?_
      refine s_aload_n X rfl dX12_passes_39 ?_
      refine s_bipush X ⟨by decide, by decide⟩ (by decide) dX12_passes_40 ?_
      refine s_iload_n X rfl dX12_passes_42 ?_
      refine s_iadd X dX12_passes_43 ?_
      refine s_callVr X (m_X12_of l) tw_1189 tw_1190 tw_1603 tw_134 tw_1191 rfl (by decide +kernel) ⟨by decide, by decide⟩ dX12_passes_44 ?_
      refine s_iload_n X rfl dX12_passes_47 ?_
      exact s_X12_passes_48 X hJ
set_option maxRecDepth 100000 in
def b_X12_passes_0 (J : Nat → List qV → List qV → qW → Prop) (Q : qR) : qK := x_int 0 (x_istore 3 (x_int 0 (x_istore 4 (x_cut [0, 1, 2, 3, 4] (J 5)))))
set_option maxRecDepth 100000 in
theorem s_X12_passes_0 {p : Program} {l : Launch} {e : Env} {R : Room} {s : State} {m : MethodId} {args : Array Value} {below : List Frame} {meth : Method} {c : Code} {nW : Nat} {dC : Nat → ClassId} {dI : Nat → Nat → Nat} {k : Nat → ClassId} {g : Nat → Nat} {A : Nat → Prop} {J : Nat → List qV → List qV → qW → Prop} {Q : qR} (X : q_X p R s m args meth c cX12_passes 5 nW 1 21 RX12 (some .int) dC dI k g A) (hJ : ∀ d : Nat, q_Sd p l e R s m args below meth c 5 nW dC dI k g A (MQ below (q_post (dC, dI) k g nW Q A) args s 0 0 A) d (x_cut (is_X12_passes d) (J d))) : q_Sd p l e R s m args below meth c 5 nW dC dI k g A (MQ below (q_post (dC, dI) k g nW Q A) args s 0 0 A) 0 (b_X12_passes_0 J Q) := by
  unfold b_X12_passes_0
  refine s_iconst X ⟨by decide, by decide⟩ dX12_passes_0 ?_
  refine s_istore_n X rfl (by decide) dX12_passes_1 ?_
  refine s_iconst X ⟨by decide, by decide⟩ dX12_passes_2 ?_
  refine s_istore X (by decide) dX12_passes_3 ?_
  exact hJ 5

def spr_X12_passes : List qV → qW → (Option qV → Prop) → Prop := fun av w Q => ∃ (mco : Int) (mre : Int) (mle : Int) (mbe : Int) (mso : Int) (mva : Int) (mwo : Int) (mwr : Int) (mlf : Int) (mlp : Int) (mfp : Int) (mfd : Int) (mgo : Int) (mbo : Int) (mpe : Int) (mye : Int) (mpr : Int) (mld : Int) (msi : Int) (mse : Int) (bs : Nat → Int) (a : Int) (b : Int), av = [q2 0, q1 a, q1 b] ∧ w = [.inr (12, [q1 mco, q2 2, q2 3, q2 4, q2 5, q2 6, q2 1, q2 7, q2 8, q2 9, q1 mre, q1 mle, q1 mbe, q1 mso, q1 mva, q3 mwo, q1 mwr, q1 mlf, q1 mlp, q2 10, q2 11, q1 mfp, q1 mfd, q1 mgo, q1 mbo, q1 mpe, q1 mye, q2 12, q1 mpr, q2 13, q2 14, q2 15, q2 16, q1 mld, q2 17, q1 msi, q2 18, q2 19, q2 20, q2 21, q2 22, q1 mse, q2 23, q2 24, q2 25]), .inl (0, 600, .inl bs)] ∧ (0 ≤ mbo ∧ mbo ≤ 1) ∧ (0 ≤ mpe ∧ mpe ≤ 8) ∧ (BI bs) ∧ (0 ≤ a ∧ a ≤ 5) ∧ (∀ (r : Int) , (r = pasR bs mbo a b mpe.toNat ∧ 0 ≤ r ∧ r ≤ 8) → Q (some (q1 r)))
def sp_X12_passes : qS := fun av w Q => spr_X12_passes av w (fun r => Q r w)
def I_X12_passes (mco : Int) (mre : Int) (mle : Int) (mbe : Int) (mso : Int) (mva : Int) (mwo : Int) (mwr : Int) (mlf : Int) (mlp : Int) (mfp : Int) (mfd : Int) (mgo : Int) (mbo : Int) (mpe : Int) (mye : Int) (mpr : Int) (mld : Int) (msi : Int) (mse : Int) (bs : Nat → Int) (a : Int) (b : Int) : Nat → Nat → List qV → List qV → qW → Prop := fun dz mz vz sz wz => if dz = 5 then (∃ (v3 : Int) (v4 : Int), vz = [q2 0, q1 a, q1 b, q1 v3, q1 v4] ∧ sz = [] ∧ wz = [.inr (12, [q1 mco, q2 2, q2 3, q2 4, q2 5, q2 6, q2 1, q2 7, q2 8, q2 9, q1 mre, q1 mle, q1 mbe, q1 mso, q1 mva, q3 mwo, q1 mwr, q1 mlf, q1 mlp, q2 10, q2 11, q1 mfp, q1 mfd, q1 mgo, q1 mbo, q1 mpe, q1 mye, q2 12, q1 mpr, q2 13, q2 14, q2 15, q2 16, q1 mld, q2 17, q1 msi, q2 18, q2 19, q2 20, q2 21, q2 22, q1 mse, q2 23, q2 24, q2 25]), .inl (0, 600, .inl bs)] ∧ mz = (mpe - v4).toNat ∧ (0 ≤ v4 ∧ v4 ≤ mpe) ∧ (v3 = pasR bs mbo a b v4.toNat)) else False
set_option maxHeartbeats 4000000 in
set_option maxRecDepth 100000 in
theorem m_X12_passes (l : Launch) : q_M l yX12_passes cX12_passes 5 (some .int) 1 21 sp_X12_passes := by
  refine q_meth (by decide) (fun av w Q h => by obtain ⟨mco, mre, mle, mbe, mso, mva, mwo, mwr, mlf, mlp, mfp, mfd, mgo, mbo, mpe, mye, mpr, mld, msi, mse, bs, a, b, rfl, rfl, hbo, hpe, hbi, ha, hQ⟩ := h; exact Nat.le_of_ble_eq_true rfl) ?_
  intro p e R s m args below meth c dC dI k g A av w Q hsp oka okw X
  obtain ⟨mco, mre, mle, mbe, mso, mva, mwo, mwr, mlf, mlp, mfp, mfd, mgo, mbo, mpe, mye, mpr, mld, msi, mse, bs, a, b, rfl, rfl, hbo, hpe, hbi, ha, hQ⟩ := hsp
  have o_a : -2147483648 ≤ a ∧ a ≤ 2147483647 := oka _ (List.mem_of_getElem? (i := 1) rfl)
  have o_b : -2147483648 ≤ b ∧ b ≤ 2147483647 := oka _ (List.mem_of_getElem? (i := 2) rfl)
  refine s_mono (s_X12_passes_0 X (J := fun dz vz sz wz => ∃ mz, I_X12_passes mco mre mle mbe mso mva mwo mwr mlf mlp mfp mfd mgo mbo mpe mye mpr mld msi mse bs a b dz mz vz sz wz) (q_loopn (I_X12_passes mco mre mle mbe mso mva mwo mwr mlf mlp mfp mfd mgo mbo mpe mye mpr mld msi mse bs a b) (fun dz J => if dz = 5 then b_X12_passes_5 J Q else q_F) ?hs ?hv)) ?_
  case hs =>
    intro d J hJ
    by_cases h5 : d = 5
    · subst h5; exact s_X12_passes_5 X hJ
    simp only [h5, if_false]
    exact s_F
  case hv =>
    intro dz mz vz sz wz hI okv oks okw hlen
    by_cases h5 : dz = 5
    · subst h5
      obtain ⟨v3, v4, rfl, rfl, rfl, hn, hp, hc⟩ := hI
      have d9 := pasR_rg (f := bs) (bo := mbo) (d := a) (ra := b) v4.toNat
      rw [← hc] at d9
      apply And.intro
      · intro h11
        exact hQ _ ⟨by rw [hc, show v4 = mpe by omega], by omega, by omega⟩
      · intro h11
        intro z19 h19
        first | replace h19 := e_add h19 (by omega) | replace h19 := e_rng h19
        refine Exists.intro [0, 1, 2, 3, 4, 5, 6, 7, 8, 9, 10, 11, 12, 13, 14, 15, 16, 17, 18, 19, 20, 21, 22, 23, 24, 25] (Exists.intro [q2 0, q1 _] (Exists.intro ([.inr (12, [q1 _, q2 2, q2 3, q2 4, q2 5, q2 6, q2 1, q2 7, q2 8, q2 9, q1 _, q1 _, q1 _, q1 _, q1 _, q3 _, q1 _, q1 _, q1 _, q2 10, q2 11, q1 _, q1 _, q1 _, q1 _, q1 _, q1 _, q2 12, q1 _, q2 13, q2 14, q2 15, q2 16, q1 _, q2 17, q1 _, q2 18, q2 19, q2 20, q2 21, q2 22, q1 _, q2 23, q2 24, q2 25]), .inl (0, 600, .inl _)]) (And.intro rfl (And.intro rfl (And.intro rfl (And.intro ⟨⟨_, rfl⟩, rfl⟩ ?_))))))
        refine Exists.intro _ (Exists.intro _ (Exists.intro _ (Exists.intro _ (Exists.intro _ (Exists.intro _ (Exists.intro _ (Exists.intro _ (Exists.intro _ (Exists.intro _ (Exists.intro _ (Exists.intro _ (Exists.intro _ (Exists.intro _ (Exists.intro _ (Exists.intro _ (Exists.intro _ (Exists.intro _ (Exists.intro _ (Exists.intro _ (Exists.intro _ (Exists.intro _ (And.intro rfl (And.intro rfl (And.intro (by first | omega | assumption | exact q_rg_up (by assumption) (by omega) | exact q_rg_up (q_rg_up (by assumption) (by omega)) (by omega) | exact q_rg_cpy (by assumption) (by assumption)) (And.intro (by first | omega | assumption | exact q_rg_up (by assumption) (by omega) | exact q_rg_up (q_rg_up (by assumption) (by omega)) (by omega) | exact q_rg_cpy (by assumption) (by assumption)) (And.intro (by first | omega | assumption | exact q_rg_up (by assumption) (by omega) | exact q_rg_up (q_rg_up (by assumption) (by omega)) (by omega) | exact q_rg_cpy (by assumption) (by assumption)) (?_)))))))))))))))))))))))))))
        intro z20 h20
        obtain ⟨h20, k20⟩ := h20
        first | replace k20 := OFQ_13 k20 (by omega) | replace k20 := OFQ_21 k20 (by omega) | clear k20
        have t20 : z20 = ofR bs mbo (31 + a) := by rw [h20, h19]
        refine Exists.intro [] (Exists.intro [q1 _, q1 _] (Exists.intro [] (And.intro rfl (And.intro rfl (And.intro rfl (And.intro trivial ?_))))))
        refine Exists.intro _ (Exists.intro _ (And.intro rfl (And.intro rfl (?_))))
        intro z25 h25
        rw [t20] at h25
        apply And.intro
        · intro h28
          intro z57 h57
          first | replace h57 := e_add h57 (by omega) | replace h57 := e_rng h57
          intro z59 h59
          first | replace h59 := e_add h59 (by omega) | replace h59 := e_rng h59
          exact ⟨_, ⟨_, _, rfl, rfl, rfl, rfl, (by first | omega | assumption | exact q_rg_up (by assumption) (by omega) | exact q_rg_up (q_rg_up (by assumption) (by omega)) (by omega) | exact q_rg_cpy (by assumption) (by assumption)), (by first | exact ps_s hc (by omega) (by omega) h57 (by rw [if_pos (by omega)]) | exact ps_s hc (by omega) (by omega) h57 (by rw [if_neg (by omega)]) | rfl)⟩, by omega⟩
        · intro h28
          intro z35 h35
          first | replace h35 := e_add h35 (by omega) | replace h35 := e_rng h35
          refine Exists.intro [0, 1, 2, 3, 4, 5, 6, 7, 8, 9, 10, 11, 12, 13, 14, 15, 16, 17, 18, 19, 20, 21, 22, 23, 24, 25] (Exists.intro [q2 0, q1 _] (Exists.intro ([.inr (12, [q1 _, q2 2, q2 3, q2 4, q2 5, q2 6, q2 1, q2 7, q2 8, q2 9, q1 _, q1 _, q1 _, q1 _, q1 _, q3 _, q1 _, q1 _, q1 _, q2 10, q2 11, q1 _, q1 _, q1 _, q1 _, q1 _, q1 _, q2 12, q1 _, q2 13, q2 14, q2 15, q2 16, q1 _, q2 17, q1 _, q2 18, q2 19, q2 20, q2 21, q2 22, q1 _, q2 23, q2 24, q2 25]), .inl (0, 600, .inl _)]) (And.intro rfl (And.intro rfl (And.intro rfl (And.intro ⟨⟨_, rfl⟩, rfl⟩ ?_))))))
          refine Exists.intro _ (Exists.intro _ (Exists.intro _ (Exists.intro _ (Exists.intro _ (Exists.intro _ (Exists.intro _ (Exists.intro _ (Exists.intro _ (Exists.intro _ (Exists.intro _ (Exists.intro _ (Exists.intro _ (Exists.intro _ (Exists.intro _ (Exists.intro _ (Exists.intro _ (Exists.intro _ (Exists.intro _ (Exists.intro _ (Exists.intro _ (Exists.intro _ (And.intro rfl (And.intro rfl (And.intro (by first | omega | assumption | exact q_rg_up (by assumption) (by omega) | exact q_rg_up (q_rg_up (by assumption) (by omega)) (by omega) | exact q_rg_cpy (by assumption) (by assumption)) (And.intro (by first | omega | assumption | exact q_rg_up (by assumption) (by omega) | exact q_rg_up (q_rg_up (by assumption) (by omega)) (by omega) | exact q_rg_cpy (by assumption) (by assumption)) (And.intro (by first | omega | assumption | exact q_rg_up (by assumption) (by omega) | exact q_rg_up (q_rg_up (by assumption) (by omega)) (by omega) | exact q_rg_cpy (by assumption) (by assumption)) (?_)))))))))))))))))))))))))))
          intro z36 h36
          obtain ⟨h36, k36⟩ := h36
          first | replace k36 := OFQ_13 k36 (by omega) | replace k36 := OFQ_21 k36 (by omega) | clear k36
          have t36 : z36 = ofR bs mbo (5 + v4) := by rw [h36, h35]
          intro z43 h43
          first | replace h43 := e_add h43 (by omega) | replace h43 := e_rng h43
          refine Exists.intro [0, 1, 2, 3, 4, 5, 6, 7, 8, 9, 10, 11, 12, 13, 14, 15, 16, 17, 18, 19, 20, 21, 22, 23, 24, 25] (Exists.intro [q2 0, q1 _] (Exists.intro ([.inr (12, [q1 _, q2 2, q2 3, q2 4, q2 5, q2 6, q2 1, q2 7, q2 8, q2 9, q1 _, q1 _, q1 _, q1 _, q1 _, q3 _, q1 _, q1 _, q1 _, q2 10, q2 11, q1 _, q1 _, q1 _, q1 _, q1 _, q1 _, q2 12, q1 _, q2 13, q2 14, q2 15, q2 16, q1 _, q2 17, q1 _, q2 18, q2 19, q2 20, q2 21, q2 22, q1 _, q2 23, q2 24, q2 25]), .inl (0, 600, .inl _)]) (And.intro rfl (And.intro rfl (And.intro rfl (And.intro ⟨⟨_, rfl⟩, rfl⟩ ?_))))))
          refine Exists.intro _ (Exists.intro _ (Exists.intro _ (Exists.intro _ (Exists.intro _ (Exists.intro _ (Exists.intro _ (Exists.intro _ (Exists.intro _ (Exists.intro _ (Exists.intro _ (Exists.intro _ (Exists.intro _ (Exists.intro _ (Exists.intro _ (Exists.intro _ (Exists.intro _ (Exists.intro _ (Exists.intro _ (Exists.intro _ (Exists.intro _ (Exists.intro _ (And.intro rfl (And.intro rfl (And.intro (by first | omega | assumption | exact q_rg_up (by assumption) (by omega) | exact q_rg_up (q_rg_up (by assumption) (by omega)) (by omega) | exact q_rg_cpy (by assumption) (by assumption)) (And.intro (by first | omega | assumption | exact q_rg_up (by assumption) (by omega) | exact q_rg_up (q_rg_up (by assumption) (by omega)) (by omega) | exact q_rg_cpy (by assumption) (by assumption)) (And.intro (by first | omega | assumption | exact q_rg_up (by assumption) (by omega) | exact q_rg_up (q_rg_up (by assumption) (by omega)) (by omega) | exact q_rg_cpy (by assumption) (by assumption)) (?_)))))))))))))))))))))))))))
          intro z44 h44
          obtain ⟨h44, k44⟩ := h44
          first | replace k44 := OFQ_13 k44 (by omega) | replace k44 := OFQ_21 k44 (by omega) | clear k44
          have t44 : z44 = ofR bs mbo (25 + a) := by rw [h44, h43]
          intro z48 h48
          rw [t44] at h48
          apply And.intro
          · intro h49
            intro z57 h57
            first | replace h57 := e_add h57 (by omega) | replace h57 := e_rng h57
            intro z59 h59
            first | replace h59 := e_add h59 (by omega) | replace h59 := e_rng h59
            exact ⟨_, ⟨_, _, rfl, rfl, rfl, rfl, (by first | omega | assumption | exact q_rg_up (by assumption) (by omega) | exact q_rg_up (q_rg_up (by assumption) (by omega)) (by omega) | exact q_rg_cpy (by assumption) (by assumption)), (by first | exact ps_s hc (by omega) (by omega) h57 (by rw [if_pos (by omega)]) | exact ps_s hc (by omega) (by omega) h57 (by rw [if_neg (by omega)]) | rfl)⟩, by omega⟩
          · intro h49
            intro z57 h57
            first | replace h57 := e_add h57 (by omega) | replace h57 := e_rng h57
            intro z59 h59
            first | replace h59 := e_add h59 (by omega) | replace h59 := e_rng h59
            exact ⟨_, ⟨_, _, rfl, rfl, rfl, rfl, (by first | omega | assumption | exact q_rg_up (by assumption) (by omega) | exact q_rg_up (q_rg_up (by assumption) (by omega)) (by omega) | exact q_rg_cpy (by assumption) (by assumption)), (by first | exact ps_s hc (by omega) (by omega) h57 (by rw [if_pos (by omega)]) | exact ps_s hc (by omega) (by omega) h57 (by rw [if_neg (by omega)]) | rfl)⟩, by omega⟩
    simp only [I_X12_passes, h5, if_false] at hI
  rintro lv st w' ⟨rfl, rfl, rfl⟩
  exact ⟨_, _, _, rfl, rfl, rfl, rfl, (by first | omega | assumption | exact q_rg_up (by assumption) (by omega) | exact q_rg_up (q_rg_up (by assumption) (by omega)) (by omega) | exact q_rg_cpy (by assumption) (by assumption)), (by first | exact ps_s hc (by omega) (by omega) h57 (by rw [if_pos (by omega)]) | exact ps_s hc (by omega) (by omega) h57 (by rw [if_neg (by omega)]) | rfl)⟩

theorem dX12_findPassed_0 : decode cX12_findPassed 0 = .ok (.aload_n 0, 1) := by decide +kernel
theorem dX12_findPassed_1 : decode cX12_findPassed 1 = .ok (.iconst 3, 1) := by decide +kernel
theorem dX12_findPassed_2 : decode cX12_findPassed 2 = .ok (.invokevirtual 299, 3) := by decide +kernel
theorem dX12_findPassed_5 : decode cX12_findPassed 5 = .ok (.istore_n 2, 1) := by decide +kernel
theorem dX12_findPassed_6 : decode cX12_findPassed 6 = .ok (.iload_n 2, 1) := by decide +kernel
theorem dX12_findPassed_7 : decode cX12_findPassed 7 = .ok (.ifCond .lt 93, 3) := by decide +kernel
theorem dX12_findPassed_10 : decode cX12_findPassed 10 = .ok (.iconst 0, 1) := by decide +kernel
theorem dX12_findPassed_11 : decode cX12_findPassed 11 = .ok (.istore_n 3, 1) := by decide +kernel
theorem dX12_findPassed_12 : decode cX12_findPassed 12 = .ok (.iload_n 3, 1) := by decide +kernel
theorem dX12_findPassed_13 : decode cX12_findPassed 13 = .ok (.iload_n 1, 1) := by decide +kernel
theorem dX12_findPassed_14 : decode cX12_findPassed 14 = .ok (.if_icmp .gt 80, 3) := by decide +kernel
theorem dX12_findPassed_17 : decode cX12_findPassed 17 = .ok (.iconst 0, 1) := by decide +kernel
theorem dX12_findPassed_18 : decode cX12_findPassed 18 = .ok (.istore 4, 2) := by decide +kernel
theorem dX12_findPassed_20 : decode cX12_findPassed 20 = .ok (.iconst 0, 1) := by decide +kernel
theorem dX12_findPassed_21 : decode cX12_findPassed 21 = .ok (.istore 5, 2) := by decide +kernel
theorem dX12_findPassed_23 : decode cX12_findPassed 23 = .ok (.iload 5, 2) := by decide +kernel
theorem dX12_findPassed_25 : decode cX12_findPassed 25 = .ok (.iload_n 3, 1) := by decide +kernel
theorem dX12_findPassed_26 : decode cX12_findPassed 26 = .ok (.if_icmp .gt 49, 3) := by decide +kernel
theorem dX12_findPassed_29 : decode cX12_findPassed 29 = .ok (.iload_n 2, 1) := by decide +kernel
theorem dX12_findPassed_30 : decode cX12_findPassed 30 = .ok (.aload_n 0, 1) := by decide +kernel
theorem dX12_findPassed_31 : decode cX12_findPassed 31 = .ok (.iconst 3, 1) := by decide +kernel
theorem dX12_findPassed_32 : decode cX12_findPassed 32 = .ok (.invokevirtual 299, 3) := by decide +kernel
theorem dX12_findPassed_35 : decode cX12_findPassed 35 = .ok (.if_icmp .ge 40, 3) := by decide +kernel
theorem dX12_findPassed_38 : decode cX12_findPassed 38 = .ok (.iload 4, 2) := by decide +kernel
theorem dX12_findPassed_40 : decode cX12_findPassed 40 = .ok (.aload_n 0, 1) := by decide +kernel
theorem dX12_findPassed_41 : decode cX12_findPassed 41 = .ok (.iload_n 2, 1) := by decide +kernel
theorem dX12_findPassed_42 : decode cX12_findPassed 42 = .ok (.iload 5, 2) := by decide +kernel
theorem dX12_findPassed_44 : decode cX12_findPassed 44 = .ok (.invokevirtual 386, 3) := by decide +kernel
theorem dX12_findPassed_47 : decode cX12_findPassed 47 = .ok (.aload_n 0, 1) := by decide +kernel
theorem dX12_findPassed_48 : decode cX12_findPassed 48 = .ok (.getfield 50, 3) := by decide +kernel
theorem dX12_findPassed_51 : decode cX12_findPassed 51 = .ok (.bipush 100, 2) := by decide +kernel
theorem dX12_findPassed_53 : decode cX12_findPassed 53 = .ok (.iload_n 2, 1) := by decide +kernel
theorem dX12_findPassed_54 : decode cX12_findPassed 54 = .ok (.iconst 1, 1) := by decide +kernel
theorem dX12_findPassed_55 : decode cX12_findPassed 55 = .ok (.iadd, 1) := by decide +kernel
theorem dX12_findPassed_56 : decode cX12_findPassed 56 = .ok (.imul, 1) := by decide +kernel
theorem dX12_findPassed_57 : decode cX12_findPassed 57 = .ok (.iload_n 3, 1) := by decide +kernel
theorem dX12_findPassed_58 : decode cX12_findPassed 58 = .ok (.iadd, 1) := by decide +kernel
theorem dX12_findPassed_59 : decode cX12_findPassed 59 = .ok (.iload 5, 2) := by decide +kernel
theorem dX12_findPassed_61 : decode cX12_findPassed 61 = .ok (.isub, 1) := by decide +kernel
theorem dX12_findPassed_62 : decode cX12_findPassed 62 = .ok (.iaload, 1) := by decide +kernel
theorem dX12_findPassed_63 : decode cX12_findPassed 63 = .ok (.iadd, 1) := by decide +kernel
theorem dX12_findPassed_64 : decode cX12_findPassed 64 = .ok (.invokestatic 162, 3) := by decide +kernel
theorem dX12_findPassed_67 : decode cX12_findPassed 67 = .ok (.istore 4, 2) := by decide +kernel
theorem dX12_findPassed_69 : decode cX12_findPassed 69 = .ok (.iinc 5 1, 3) := by decide +kernel
theorem dX12_findPassed_72 : decode cX12_findPassed 72 = .ok (.goto (-49), 3) := by decide +kernel
theorem dX12_findPassed_75 : decode cX12_findPassed 75 = .ok (.aload_n 0, 1) := by decide +kernel
theorem dX12_findPassed_76 : decode cX12_findPassed 76 = .ok (.getfield 50, 3) := by decide +kernel
theorem dX12_findPassed_79 : decode cX12_findPassed 79 = .ok (.bipush 100, 2) := by decide +kernel
theorem dX12_findPassed_81 : decode cX12_findPassed 81 = .ok (.iload_n 2, 1) := by decide +kernel
theorem dX12_findPassed_82 : decode cX12_findPassed 82 = .ok (.imul, 1) := by decide +kernel
theorem dX12_findPassed_83 : decode cX12_findPassed 83 = .ok (.iload_n 3, 1) := by decide +kernel
theorem dX12_findPassed_84 : decode cX12_findPassed 84 = .ok (.iadd, 1) := by decide +kernel
theorem dX12_findPassed_85 : decode cX12_findPassed 85 = .ok (.iload 4, 2) := by decide +kernel
theorem dX12_findPassed_87 : decode cX12_findPassed 87 = .ok (.iastore, 1) := by decide +kernel
theorem dX12_findPassed_88 : decode cX12_findPassed 88 = .ok (.iinc 3 1, 3) := by decide +kernel
theorem dX12_findPassed_91 : decode cX12_findPassed 91 = .ok (.goto (-79), 3) := by decide +kernel
theorem dX12_findPassed_94 : decode cX12_findPassed 94 = .ok (.iinc 2 (-1), 3) := by decide +kernel
theorem dX12_findPassed_97 : decode cX12_findPassed 97 = .ok (.goto (-91), 3) := by decide +kernel
theorem dX12_findPassed_100 : decode cX12_findPassed 100 = .ok (.return_, 1) := by decide +kernel
def is_X12_findPassed : Nat → List Nat := fun d => if d = 6 then [0, 1, 2] else if d = 12 then [0, 1, 2, 3] else if d = 23 then [0, 1, 2, 3, 4, 5] else []
set_option maxRecDepth 100000 in
def b_X12_findPassed_75 (J : Nat → List qV → List qV → qW → Prop) (Q : qR) : qK := x_aload 0 (x_get 12 30 (x_int 100 (x_iload 2 (x_imul (x_iload 3 (x_iadd (x_iload 4 (x_iast (x_nw (x_iinc 3 1 (x_cut [0, 1, 2, 3] (J 12))))))))))))
set_option maxRecDepth 100000 in
theorem s_X12_findPassed_75 {p : Program} {l : Launch} {e : Env} {R : Room} {s : State} {m : MethodId} {args : Array Value} {below : List Frame} {meth : Method} {c : Code} {nW : Nat} {dC : Nat → ClassId} {dI : Nat → Nat → Nat} {k : Nat → ClassId} {g : Nat → Nat} {A : Nat → Prop} {J : Nat → List qV → List qV → qW → Prop} {Q : qR} (X : q_X p R s m args meth c cX12_findPassed 6 nW 2 45 RX12 none dC dI k g A) (hJ : ∀ d : Nat, q_Sd p l e R s m args below meth c 6 nW dC dI k g A (MQ below (q_post (dC, dI) k g nW Q A) args s 0 0 A) d (x_cut (is_X12_findPassed d) (J d))) : q_Sd p l e R s m args below meth c 6 nW dC dI k g A (MQ below (q_post (dC, dI) k g nW Q A) args s 0 0 A) 75 (b_X12_findPassed_75 J Q) := by
  unfold b_X12_findPassed_75
  refine s_aload_n X rfl dX12_findPassed_75 ?_
  refine s_get X (T := TX12) (C := RX12) (N := 45) tu_X12 rfl (by decide) tw_1027 dX12_findPassed_76 ?_
  refine s_bipush X ⟨by decide, by decide⟩ (by decide) dX12_findPassed_79 ?_
  refine s_iload_n X rfl dX12_findPassed_81 ?_
  refine s_imul X dX12_findPassed_82 ?_
  refine s_iload_n X rfl dX12_findPassed_83 ?_
  refine s_iadd X dX12_findPassed_84 ?_
  refine s_iload X dX12_findPassed_85 ?_
  refine s_iast X dX12_findPassed_87 ?_
  refine s_nw ?_
  refine s_iinc X (by decide) dX12_findPassed_88 ?_
  refine s_goto X (tgt := 12) dX12_findPassed_91 (by decide) ?_
  exact hJ 12
set_option maxRecDepth 100000 in
def b_X12_findPassed_62 (J : Nat → List qV → List qV → qW → Prop) (Q : qR) : qK := x_iald (x_iadd (x_callr none 2 spr_X12_greater (x_istore 4 (x_iinc 5 1 (x_cut [0, 1, 2, 3, 4, 5] (J 23))))))
set_option maxRecDepth 100000 in
theorem s_X12_findPassed_62 {p : Program} {l : Launch} {e : Env} {R : Room} {s : State} {m : MethodId} {args : Array Value} {below : List Frame} {meth : Method} {c : Code} {nW : Nat} {dC : Nat → ClassId} {dI : Nat → Nat → Nat} {k : Nat → ClassId} {g : Nat → Nat} {A : Nat → Prop} {J : Nat → List qV → List qV → qW → Prop} {Q : qR} (X : q_X p R s m args meth c cX12_findPassed 6 nW 2 45 RX12 none dC dI k g A) (hJ : ∀ d : Nat, q_Sd p l e R s m args below meth c 6 nW dC dI k g A (MQ below (q_post (dC, dI) k g nW Q A) args s 0 0 A) d (x_cut (is_X12_findPassed d) (J d))) : q_Sd p l e R s m args below meth c 6 nW dC dI k g A (MQ below (q_post (dC, dI) k g nW Q A) args s 0 0 A) 62 (b_X12_findPassed_62 J Q) := by
  unfold b_X12_findPassed_62
  refine s_iald X dX12_findPassed_62 ?_
  refine s_iadd X dX12_findPassed_63 ?_
  refine s_callSr X (m_X12_greater l) tw_1118 tw_1119 tw_134 tw_1120 (by decide +kernel) ⟨by decide, by decide⟩ dX12_findPassed_64 ?_
  refine s_istore X (by decide) dX12_findPassed_67 ?_
  refine s_iinc X (by decide) dX12_findPassed_69 ?_
  refine s_goto X (tgt := 23) dX12_findPassed_72 (by decide) ?_
  exact hJ 23
set_option maxRecDepth 100000 in
def b_X12_findPassed_23 (J : Nat → List qV → List qV → qW → Prop) (Q : qR) : qK := x_iload 5 (x_iload 3 (x_icmp_gt (b_X12_findPassed_75 J Q) (x_iload 2 (x_aload 0 (x_int 3 (x_callr (some 12) 2 spr_X12_of (x_icmp_ge (b_X12_findPassed_75 J Q) (x_iload 4 (x_aload 0 (x_iload 2 (x_iload 5 (x_callr (some 12) 3 spr_X12_passes (x_aload 0 (x_get 12 30 (x_int 100 (x_iload 2 (x_int 1 (x_iadd (x_imul (x_iload 3 (x_iadd (x_iload 5 (x_isub (b_X12_findPassed_62 J Q))))))))))))))))))))))))
set_option maxRecDepth 100000 in
theorem s_X12_findPassed_23 {p : Program} {l : Launch} {e : Env} {R : Room} {s : State} {m : MethodId} {args : Array Value} {below : List Frame} {meth : Method} {c : Code} {nW : Nat} {dC : Nat → ClassId} {dI : Nat → Nat → Nat} {k : Nat → ClassId} {g : Nat → Nat} {A : Nat → Prop} {J : Nat → List qV → List qV → qW → Prop} {Q : qR} (X : q_X p R s m args meth c cX12_findPassed 6 nW 2 45 RX12 none dC dI k g A) (hJ : ∀ d : Nat, q_Sd p l e R s m args below meth c 6 nW dC dI k g A (MQ below (q_post (dC, dI) k g nW Q A) args s 0 0 A) d (x_cut (is_X12_findPassed d) (J d))) : q_Sd p l e R s m args below meth c 6 nW dC dI k g A (MQ below (q_post (dC, dI) k g nW Q A) args s 0 0 A) 23 (b_X12_findPassed_23 J Q) := by
  unfold b_X12_findPassed_23
  refine s_iload X dX12_findPassed_23 ?_
  refine s_iload_n X rfl dX12_findPassed_25 ?_
  refine s_icmp_gt X (tgt := 75) dX12_findPassed_26 (by decide) ?_ ?_
  · exact s_X12_findPassed_75 X hJ
  · refine s_iload_n X rfl dX12_findPassed_29 ?_
    refine s_aload_n X rfl dX12_findPassed_30 ?_
    refine s_iconst X ⟨by decide, by decide⟩ dX12_findPassed_31 ?_
    refine s_callVr X (m_X12_of l) tw_1189 tw_1190 tw_1603 tw_134 tw_1191 rfl (by decide +kernel) ⟨by decide, by decide⟩ dX12_findPassed_32 ?_
    refine s_icmp_ge X (tgt := 75) dX12_findPassed_35 (by decide) ?_ ?_
    · exact s_X12_findPassed_75 X hJ
    · refine s_iload X dX12_findPassed_38 ?_
      refine s_aload_n X rfl dX12_findPassed_40 ?_
      refine s_iload_n X rfl dX12_findPassed_41 ?_
      refine s_iload X dX12_findPassed_42 ?_
      refine s_callVr X (m_X12_passes l) tw_1288 tw_1289 tw_1607 tw_134 tw_1290 rfl (by decide +kernel) ⟨by decide, by decide⟩ dX12_findPassed_44 ?_
      refine s_aload_n X rfl dX12_findPassed_47 ?_
      refine s_get X (T := TX12) (C := RX12) (N := 45) tu_X12 rfl (by decide) tw_1027 dX12_findPassed_48 ?_
      refine s_bipush X ⟨by decide, by decide⟩ (by decide) dX12_findPassed_51 ?_
      refine s_iload_n X rfl dX12_findPassed_53 ?_
      refine s_iconst X ⟨by decide, by decide⟩ dX12_findPassed_54 ?_
      refine s_iadd X dX12_findPassed_55 ?_
      refine s_imul X dX12_findPassed_56 ?_
      refine s_iload_n X rfl dX12_findPassed_57 ?_
      refine s_iadd X dX12_findPassed_58 ?_
      refine s_iload X dX12_findPassed_59 ?_
      refine s_isub X dX12_findPassed_61 ?_
      exact s_X12_findPassed_62 X hJ
set_option maxRecDepth 100000 in
def b_X12_findPassed_12 (J : Nat → List qV → List qV → qW → Prop) (Q : qR) : qK := x_iload 3 (x_iload 1 (x_icmp_gt (x_iinc 2 (-1) (x_cut [0, 1, 2] (J 6))) (x_int 0 (x_istore 4 (x_int 0 (x_istore 5 (x_cut [0, 1, 2, 3, 4, 5] (J 23))))))))
set_option maxRecDepth 100000 in
theorem s_X12_findPassed_12 {p : Program} {l : Launch} {e : Env} {R : Room} {s : State} {m : MethodId} {args : Array Value} {below : List Frame} {meth : Method} {c : Code} {nW : Nat} {dC : Nat → ClassId} {dI : Nat → Nat → Nat} {k : Nat → ClassId} {g : Nat → Nat} {A : Nat → Prop} {J : Nat → List qV → List qV → qW → Prop} {Q : qR} (X : q_X p R s m args meth c cX12_findPassed 6 nW 2 45 RX12 none dC dI k g A) (hJ : ∀ d : Nat, q_Sd p l e R s m args below meth c 6 nW dC dI k g A (MQ below (q_post (dC, dI) k g nW Q A) args s 0 0 A) d (x_cut (is_X12_findPassed d) (J d))) : q_Sd p l e R s m args below meth c 6 nW dC dI k g A (MQ below (q_post (dC, dI) k g nW Q A) args s 0 0 A) 12 (b_X12_findPassed_12 J Q) := by
  unfold b_X12_findPassed_12
  refine s_iload_n X rfl dX12_findPassed_12 ?_
  refine s_iload_n X rfl dX12_findPassed_13 ?_
  refine s_icmp_gt X (tgt := 94) dX12_findPassed_14 (by decide) ?_ ?_
  · refine s_iinc X (by decide) dX12_findPassed_94 ?_
    refine s_goto X (tgt := 6) dX12_findPassed_97 (by decide) ?_
    exact hJ 6
  · refine s_iconst X ⟨by decide, by decide⟩ dX12_findPassed_17 ?_
    refine s_istore X (by decide) dX12_findPassed_18 ?_
    refine s_iconst X ⟨by decide, by decide⟩ dX12_findPassed_20 ?_
    refine s_istore X (by decide) dX12_findPassed_21 ?_
    exact hJ 23
set_option maxRecDepth 100000 in
def b_X12_findPassed_6 (J : Nat → List qV → List qV → qW → Prop) (Q : qR) : qK := x_iload 2 (x_if_lt (x_vret Q) (x_int 0 (x_istore 3 (x_cut [0, 1, 2, 3] (J 12)))))
set_option maxRecDepth 100000 in
theorem s_X12_findPassed_6 {p : Program} {l : Launch} {e : Env} {R : Room} {s : State} {m : MethodId} {args : Array Value} {below : List Frame} {meth : Method} {c : Code} {nW : Nat} {dC : Nat → ClassId} {dI : Nat → Nat → Nat} {k : Nat → ClassId} {g : Nat → Nat} {A : Nat → Prop} {J : Nat → List qV → List qV → qW → Prop} {Q : qR} (X : q_X p R s m args meth c cX12_findPassed 6 nW 2 45 RX12 none dC dI k g A) (hJ : ∀ d : Nat, q_Sd p l e R s m args below meth c 6 nW dC dI k g A (MQ below (q_post (dC, dI) k g nW Q A) args s 0 0 A) d (x_cut (is_X12_findPassed d) (J d))) : q_Sd p l e R s m args below meth c 6 nW dC dI k g A (MQ below (q_post (dC, dI) k g nW Q A) args s 0 0 A) 6 (b_X12_findPassed_6 J Q) := by
  unfold b_X12_findPassed_6
  refine s_iload_n X rfl dX12_findPassed_6 ?_
  refine s_if_lt X (tgt := 100) dX12_findPassed_7 (by decide) ?_ ?_
  · exact s_vret X dX12_findPassed_100
  · refine s_iconst X ⟨by decide, by decide⟩ dX12_findPassed_10 ?_
    refine s_istore_n X rfl (by decide) dX12_findPassed_11 ?_
    exact hJ 12
set_option maxRecDepth 100000 in
def b_X12_findPassed_0 (J : Nat → List qV → List qV → qW → Prop) (Q : qR) : qK := x_aload 0 (x_int 3 (x_callr (some 12) 2 spr_X12_of (x_istore 2 (x_cut [0, 1, 2] (J 6)))))
set_option maxRecDepth 100000 in
theorem s_X12_findPassed_0 {p : Program} {l : Launch} {e : Env} {R : Room} {s : State} {m : MethodId} {args : Array Value} {below : List Frame} {meth : Method} {c : Code} {nW : Nat} {dC : Nat → ClassId} {dI : Nat → Nat → Nat} {k : Nat → ClassId} {g : Nat → Nat} {A : Nat → Prop} {J : Nat → List qV → List qV → qW → Prop} {Q : qR} (X : q_X p R s m args meth c cX12_findPassed 6 nW 2 45 RX12 none dC dI k g A) (hJ : ∀ d : Nat, q_Sd p l e R s m args below meth c 6 nW dC dI k g A (MQ below (q_post (dC, dI) k g nW Q A) args s 0 0 A) d (x_cut (is_X12_findPassed d) (J d))) : q_Sd p l e R s m args below meth c 6 nW dC dI k g A (MQ below (q_post (dC, dI) k g nW Q A) args s 0 0 A) 0 (b_X12_findPassed_0 J Q) := by
  unfold b_X12_findPassed_0
  refine s_aload_n X rfl dX12_findPassed_0 ?_
  refine s_iconst X ⟨by decide, by decide⟩ dX12_findPassed_1 ?_
  refine s_callVr X (m_X12_of l) tw_1189 tw_1190 tw_1603 tw_134 tw_1191 rfl (by decide +kernel) ⟨by decide, by decide⟩ dX12_findPassed_2 ?_
  refine s_istore_n X rfl (by decide) dX12_findPassed_5 ?_
  exact hJ 6

def sp_X12_findPassed : qS := fun av w Q => ∃ (mco : Int) (mre : Int) (mle : Int) (mbe : Int) (mso : Int) (mva : Int) (mwo : Int) (mwr : Int) (mlf : Int) (mlp : Int) (mfp : Int) (mfd : Int) (mgo : Int) (mbo : Int) (mpe : Int) (mye : Int) (mpr : Int) (mld : Int) (msi : Int) (mse : Int) (ps : Nat → Int) (bs : Nat → Int) (a : Int), av = [q2 0, q1 a] ∧ w = [.inr (12, [q1 mco, q2 3, q2 4, q2 5, q2 6, q2 7, q2 2, q2 8, q2 9, q2 10, q1 mre, q1 mle, q1 mbe, q1 mso, q1 mva, q3 mwo, q1 mwr, q1 mlf, q1 mlp, q2 11, q2 12, q1 mfp, q1 mfd, q1 mgo, q1 mbo, q1 mpe, q1 mye, q2 13, q1 mpr, q2 14, q2 1, q2 15, q2 16, q1 mld, q2 17, q1 msi, q2 18, q2 19, q2 20, q2 21, q2 22, q1 mse, q2 23, q2 24, q2 25]), .inl (0, 700, .inl ps), .inl (0, 600, .inl bs)] ∧ (0 ≤ mbo ∧ mbo ≤ 1) ∧ (0 ≤ mpe ∧ mpe ≤ 8) ∧ (BI bs) ∧ (0 ≤ a ∧ a ≤ 99) ∧ (∀ (x_ps : Nat → Int), PF bs x_ps mbo mpe.toNat a (ofR bs mbo 3) (-1) 0 → Q none ([.inr (12, [q1 mco, q2 3, q2 4, q2 5, q2 6, q2 7, q2 2, q2 8, q2 9, q2 10, q1 mre, q1 mle, q1 mbe, q1 mso, q1 mva, q3 mwo, q1 mwr, q1 mlf, q1 mlp, q2 11, q2 12, q1 mfp, q1 mfd, q1 mgo, q1 mbo, q1 mpe, q1 mye, q2 13, q1 mpr, q2 14, q2 1, q2 15, q2 16, q1 mld, q2 17, q1 msi, q2 18, q2 19, q2 20, q2 21, q2 22, q1 mse, q2 23, q2 24, q2 25]), .inl (0, 700, .inl x_ps), .inl (0, 600, .inl bs)]))
def I_X12_findPassed (mco : Int) (mre : Int) (mle : Int) (mbe : Int) (mso : Int) (mva : Int) (mwo : Int) (mwr : Int) (mlf : Int) (mlp : Int) (mfp : Int) (mfd : Int) (mgo : Int) (mbo : Int) (mpe : Int) (mye : Int) (mpr : Int) (mld : Int) (msi : Int) (mse : Int) (ps : Nat → Int) (bs : Nat → Int) (a : Int) : Nat → Nat → List qV → List qV → qW → Prop := fun dz mz vz sz wz => if dz = 6 then (∃ (y_ps : Nat → Int) (v2 : Int), vz = [q2 0, q1 a, q1 v2] ∧ sz = [] ∧ wz = [.inr (12, [q1 mco, q2 3, q2 4, q2 5, q2 6, q2 7, q2 2, q2 8, q2 9, q2 10, q1 mre, q1 mle, q1 mbe, q1 mso, q1 mva, q3 mwo, q1 mwr, q1 mlf, q1 mlp, q2 11, q2 12, q1 mfp, q1 mfd, q1 mgo, q1 mbo, q1 mpe, q1 mye, q2 13, q1 mpr, q2 14, q2 1, q2 15, q2 16, q1 mld, q2 17, q1 msi, q2 18, q2 19, q2 20, q2 21, q2 22, q1 mse, q2 23, q2 24, q2 25]), .inl (0, 700, .inl y_ps), .inl (0, 600, .inl bs)] ∧ mz = 100000 * (v2 + 1).toNat ∧ (-1 ≤ v2 ∧ v2 ≤ ofR bs mbo 3) ∧ (0 ≤ ofR bs mbo 3 ∧ ofR bs mbo 3 ≤ 6) ∧ (PF bs y_ps mbo mpe.toNat a (ofR bs mbo 3) v2 0)) else if dz = 12 then (∃ (y_ps : Nat → Int) (v2 : Int) (v3 : Int), vz = [q2 0, q1 a, q1 v2, q1 v3] ∧ sz = [] ∧ wz = [.inr (12, [q1 mco, q2 3, q2 4, q2 5, q2 6, q2 7, q2 2, q2 8, q2 9, q2 10, q1 mre, q1 mle, q1 mbe, q1 mso, q1 mva, q3 mwo, q1 mwr, q1 mlf, q1 mlp, q2 11, q2 12, q1 mfp, q1 mfd, q1 mgo, q1 mbo, q1 mpe, q1 mye, q2 13, q1 mpr, q2 14, q2 1, q2 15, q2 16, q1 mld, q2 17, q1 msi, q2 18, q2 19, q2 20, q2 21, q2 22, q1 mse, q2 23, q2 24, q2 25]), .inl (0, 700, .inl y_ps), .inl (0, 600, .inl bs)] ∧ mz = 100000 * (v2 + 1).toNat - 50000 + 200 * (100 - v3).toNat ∧ (0 ≤ v2 ∧ v2 ≤ ofR bs mbo 3 ∧ 0 ≤ v3 ∧ v3 ≤ a + 1) ∧ (0 ≤ ofR bs mbo 3 ∧ ofR bs mbo 3 ≤ 6) ∧ (PF bs y_ps mbo mpe.toNat a (ofR bs mbo 3) v2 v3)) else if dz = 23 then (∃ (y_ps : Nat → Int) (v2 : Int) (v3 : Int) (v4 : Int) (v5 : Int), vz = [q2 0, q1 a, q1 v2, q1 v3, q1 v4, q1 v5] ∧ sz = [] ∧ wz = [.inr (12, [q1 mco, q2 3, q2 4, q2 5, q2 6, q2 7, q2 2, q2 8, q2 9, q2 10, q1 mre, q1 mle, q1 mbe, q1 mso, q1 mva, q3 mwo, q1 mwr, q1 mlf, q1 mlp, q2 11, q2 12, q1 mfp, q1 mfd, q1 mgo, q1 mbo, q1 mpe, q1 mye, q2 13, q1 mpr, q2 14, q2 1, q2 15, q2 16, q1 mld, q2 17, q1 msi, q2 18, q2 19, q2 20, q2 21, q2 22, q1 mse, q2 23, q2 24, q2 25]), .inl (0, 700, .inl y_ps), .inl (0, 600, .inl bs)] ∧ mz = 100000 * (v2 + 1).toNat - 50000 + 200 * (100 - v3).toNat - 150 + (100 - v5).toNat ∧ (0 ≤ v2 ∧ v2 ≤ ofR bs mbo 3 ∧ 0 ≤ v3 ∧ v3 ≤ a ∧ 0 ≤ v5 ∧ v5 ≤ v3 + 1) ∧ (0 ≤ ofR bs mbo 3 ∧ ofR bs mbo 3 ≤ 6) ∧ (PF bs y_ps mbo mpe.toNat a (ofR bs mbo 3) v2 v3) ∧ (0 ≤ v4 ∧ v4 ≤ 8 * (ofR bs mbo 3 - v2)) ∧ (PX bs y_ps mbo mpe.toNat v2 v3 v5 v4)) else False
set_option maxHeartbeats 4000000 in
set_option maxRecDepth 100000 in
theorem m_X12_findPassed (l : Launch) : q_M l yX12_findPassed cX12_findPassed 6 none 2 45 sp_X12_findPassed := by
  refine q_meth (by decide) (fun av w Q h => by obtain ⟨mco, mre, mle, mbe, mso, mva, mwo, mwr, mlf, mlp, mfp, mfd, mgo, mbo, mpe, mye, mpr, mld, msi, mse, ps, bs, a, rfl, rfl, hbo, hpe, hbi, ha, hQ⟩ := h; exact Nat.le_of_ble_eq_true rfl) ?_
  intro p e R s m args below meth c dC dI k g A av w Q hsp oka okw X
  obtain ⟨mco, mre, mle, mbe, mso, mva, mwo, mwr, mlf, mlp, mfp, mfd, mgo, mbo, mpe, mye, mpr, mld, msi, mse, ps, bs, a, rfl, rfl, hbo, hpe, hbi, ha, hQ⟩ := hsp
  have o_a : -2147483648 ≤ a ∧ a ≤ 2147483647 := oka _ (List.mem_of_getElem? (i := 1) rfl)
  refine s_mono (s_X12_findPassed_0 X (J := fun dz vz sz wz => ∃ mz, I_X12_findPassed mco mre mle mbe mso mva mwo mwr mlf mlp mfp mfd mgo mbo mpe mye mpr mld msi mse ps bs a dz mz vz sz wz) (q_loopn (I_X12_findPassed mco mre mle mbe mso mva mwo mwr mlf mlp mfp mfd mgo mbo mpe mye mpr mld msi mse ps bs a) (fun dz J => if dz = 6 then b_X12_findPassed_6 J Q else if dz = 12 then b_X12_findPassed_12 J Q else if dz = 23 then b_X12_findPassed_23 J Q else q_F) ?hs ?hv)) ?_
  case hs =>
    intro d J hJ
    by_cases h6 : d = 6
    · subst h6; exact s_X12_findPassed_6 X hJ
    by_cases h12 : d = 12
    · subst h12; exact s_X12_findPassed_12 X hJ
    by_cases h23 : d = 23
    · subst h23; exact s_X12_findPassed_23 X hJ
    simp only [h6, h12, h23, if_false]
    exact s_F
  case hv =>
    intro dz mz vz sz wz hI okv oks okw hlen
    by_cases h6 : dz = 6
    · subst h6
      obtain ⟨y_ps, v2, rfl, rfl, rfl, hn, hp, hD, hw⟩ := hI
      apply And.intro
      · intro h7
        exact hQ _ (by rw [show (-1 : Int) = v2 by omega]; exact hw)
      · intro h7
        exact ⟨_, ⟨_, _, _, rfl, rfl, rfl, rfl, (by first | omega | assumption | exact q_rg_up (by assumption) (by omega) | exact q_rg_up (q_rg_up (by assumption) (by omega)) (by omega) | exact q_rg_cpy (by assumption) (by assumption)), (by first | omega | assumption | exact q_rg_up (by assumption) (by omega) | exact q_rg_up (q_rg_up (by assumption) (by omega)) (by omega) | exact q_rg_cpy (by assumption) (by assumption)), (by first | assumption | (rw [show z84 = 100 * v2 + v3 by omega, h88]; exact PF_up hw (by omega) (by omega) hb (fun e9 => PX_e hx (by omega))))⟩, by omega⟩
    by_cases h12 : dz = 12
    · subst h12
      obtain ⟨y_ps, v2, v3, rfl, rfl, rfl, hn, hp, hD, hw⟩ := hI
      apply And.intro
      · intro h14
        intro z94 h94
        first | replace h94 := e_add h94 (by omega) | replace h94 := e_rng h94
        exact ⟨_, ⟨_, _, rfl, rfl, rfl, rfl, (by first | omega | assumption | exact q_rg_up (by assumption) (by omega) | exact q_rg_up (q_rg_up (by assumption) (by omega)) (by omega) | exact q_rg_cpy (by assumption) (by assumption)), (by first | omega | assumption | exact q_rg_up (by assumption) (by omega) | exact q_rg_up (q_rg_up (by assumption) (by omega)) (by omega) | exact q_rg_cpy (by assumption) (by assumption)), (by first | exact PF_dn hw (by omega) (by omega) | (rw [h2]; exact PF_0))⟩, by omega⟩
      · intro h14
        exact ⟨_, ⟨_, _, _, _, _, rfl, rfl, rfl, rfl, (by first | omega | assumption | exact q_rg_up (by assumption) (by omega) | exact q_rg_up (q_rg_up (by assumption) (by omega)) (by omega) | exact q_rg_cpy (by assumption) (by assumption)), (by first | omega | assumption | exact q_rg_up (by assumption) (by omega) | exact q_rg_up (q_rg_up (by assumption) (by omega)) (by omega) | exact q_rg_cpy (by assumption) (by assumption)), (by first | omega | assumption | exact q_rg_up (by assumption) (by omega) | exact q_rg_up (q_rg_up (by assumption) (by omega)) (by omega) | exact q_rg_cpy (by assumption) (by assumption)), (by first | omega | assumption | exact q_rg_up (by assumption) (by omega) | exact q_rg_up (q_rg_up (by assumption) (by omega)) (by omega) | exact q_rg_cpy (by assumption) (by assumption)), (by first | exact PX_s hx (by omega) h44.1 h62 (by omega) h63 (by omega) h64 (by omega) | exact PX_0)⟩, by omega⟩
    by_cases h23 : dz = 23
    · subst h23
      obtain ⟨y_ps, v2, v3, v4, v5, rfl, rfl, rfl, hn, hp, hD, hw, hb, hx⟩ := hI
      apply And.intro
      · intro h26
        intro z82 h82
        first | replace h82 := e_mul h82 (by omega) | replace h82 := e_rng h82
        intro z84 h84
        first | replace h84 := e_add h84 (by omega) | replace h84 := e_rng h84
        apply And.intro
        · exact ⟨by omega, by omega⟩
        intro z88 h88
        first | replace h88 := e_add h88 (by omega) | replace h88 := e_rng h88
        exact ⟨_, ⟨_, _, _, rfl, rfl, rfl, rfl, (by first | omega | assumption | exact q_rg_up (by assumption) (by omega) | exact q_rg_up (q_rg_up (by assumption) (by omega)) (by omega) | exact q_rg_cpy (by assumption) (by assumption)), (by first | omega | assumption | exact q_rg_up (by assumption) (by omega) | exact q_rg_up (q_rg_up (by assumption) (by omega)) (by omega) | exact q_rg_cpy (by assumption) (by assumption)), (by first | assumption | (rw [show z84 = 100 * v2 + v3 by omega, h88]; exact PF_up hw (by omega) (by omega) hb (fun e9 => PX_e hx (by omega))))⟩, by omega⟩
      · intro h26
        refine Exists.intro [0, 2, 3, 4, 5, 6, 7, 8, 9, 10, 11, 12, 13, 14, 1, 15, 16, 17, 18, 19, 20, 21, 22, 23, 24, 25] (Exists.intro [q2 0, q1 _] (Exists.intro ([.inr (12, [q1 _, q2 2, q2 3, q2 4, q2 5, q2 6, q2 1, q2 7, q2 8, q2 9, q1 _, q1 _, q1 _, q1 _, q1 _, q3 _, q1 _, q1 _, q1 _, q2 10, q2 11, q1 _, q1 _, q1 _, q1 _, q1 _, q1 _, q2 12, q1 _, q2 13, q2 14, q2 15, q2 16, q1 _, q2 17, q1 _, q2 18, q2 19, q2 20, q2 21, q2 22, q1 _, q2 23, q2 24, q2 25]), .inl (0, 600, .inl _)]) (And.intro rfl (And.intro rfl (And.intro rfl (And.intro ⟨⟨_, rfl⟩, rfl⟩ ?_))))))
        refine Exists.intro _ (Exists.intro _ (Exists.intro _ (Exists.intro _ (Exists.intro _ (Exists.intro _ (Exists.intro _ (Exists.intro _ (Exists.intro _ (Exists.intro _ (Exists.intro _ (Exists.intro _ (Exists.intro _ (Exists.intro _ (Exists.intro _ (Exists.intro _ (Exists.intro _ (Exists.intro _ (Exists.intro _ (Exists.intro _ (Exists.intro _ (Exists.intro _ (And.intro rfl (And.intro rfl (And.intro (by first | omega | assumption | exact q_rg_up (by assumption) (by omega) | exact q_rg_up (q_rg_up (by assumption) (by omega)) (by omega) | exact q_rg_cpy (by assumption) (by assumption)) (And.intro (by first | omega | assumption | exact q_rg_up (by assumption) (by omega) | exact q_rg_up (q_rg_up (by assumption) (by omega)) (by omega) | exact q_rg_cpy (by assumption) (by assumption)) (And.intro (by first | omega | assumption | exact q_rg_up (by assumption) (by omega) | exact q_rg_up (q_rg_up (by assumption) (by omega)) (by omega) | exact q_rg_cpy (by assumption) (by assumption)) (?_)))))))))))))))))))))))))))
        intro z32 h32
        obtain ⟨h32, k32⟩ := h32
        replace k32 := OFQ_3 k32 (by omega)
        apply And.intro
        · intro h35
          intro z82 h82
          first | replace h82 := e_mul h82 (by omega) | replace h82 := e_rng h82
          intro z84 h84
          first | replace h84 := e_add h84 (by omega) | replace h84 := e_rng h84
          apply And.intro
          · exact ⟨by omega, by omega⟩
          intro z88 h88
          first | replace h88 := e_add h88 (by omega) | replace h88 := e_rng h88
          exact ⟨_, ⟨_, _, _, rfl, rfl, rfl, rfl, (by first | omega | assumption | exact q_rg_up (by assumption) (by omega) | exact q_rg_up (q_rg_up (by assumption) (by omega)) (by omega) | exact q_rg_cpy (by assumption) (by assumption)), (by first | omega | assumption | exact q_rg_up (by assumption) (by omega) | exact q_rg_up (q_rg_up (by assumption) (by omega)) (by omega) | exact q_rg_cpy (by assumption) (by assumption)), (by first | assumption | (rw [show z84 = 100 * v2 + v3 by omega, h88]; exact PF_up hw (by omega) (by omega) hb (fun e9 => PX_e hx (by omega))))⟩, by omega⟩
        · intro h35
          refine Exists.intro [0, 2, 3, 4, 5, 6, 7, 8, 9, 10, 11, 12, 13, 14, 1, 15, 16, 17, 18, 19, 20, 21, 22, 23, 24, 25] (Exists.intro [q2 0, q1 _, q1 _] (Exists.intro ([.inr (12, [q1 _, q2 2, q2 3, q2 4, q2 5, q2 6, q2 1, q2 7, q2 8, q2 9, q1 _, q1 _, q1 _, q1 _, q1 _, q3 _, q1 _, q1 _, q1 _, q2 10, q2 11, q1 _, q1 _, q1 _, q1 _, q1 _, q1 _, q2 12, q1 _, q2 13, q2 14, q2 15, q2 16, q1 _, q2 17, q1 _, q2 18, q2 19, q2 20, q2 21, q2 22, q1 _, q2 23, q2 24, q2 25]), .inl (0, 600, .inl _)]) (And.intro rfl (And.intro rfl (And.intro rfl (And.intro ⟨⟨_, rfl⟩, rfl⟩ ?_))))))
          refine Exists.intro _ (Exists.intro _ (Exists.intro _ (Exists.intro _ (Exists.intro _ (Exists.intro _ (Exists.intro _ (Exists.intro _ (Exists.intro _ (Exists.intro _ (Exists.intro _ (Exists.intro _ (Exists.intro _ (Exists.intro _ (Exists.intro _ (Exists.intro _ (Exists.intro _ (Exists.intro _ (Exists.intro _ (Exists.intro _ (Exists.intro _ (Exists.intro _ (Exists.intro _ (And.intro rfl (And.intro rfl (And.intro (by first | omega | assumption | exact q_rg_up (by assumption) (by omega) | exact q_rg_up (q_rg_up (by assumption) (by omega)) (by omega) | exact q_rg_cpy (by assumption) (by assumption)) (And.intro (by first | omega | assumption | exact q_rg_up (by assumption) (by omega) | exact q_rg_up (q_rg_up (by assumption) (by omega)) (by omega) | exact q_rg_cpy (by assumption) (by assumption)) (And.intro (by first | omega | assumption | exact q_rg_up (by assumption) (by omega) | exact q_rg_up (q_rg_up (by assumption) (by omega)) (by omega) | exact q_rg_cpy (by assumption) (by assumption)) (And.intro (by first | omega | assumption | exact q_rg_up (by assumption) (by omega) | exact q_rg_up (q_rg_up (by assumption) (by omega)) (by omega) | exact q_rg_cpy (by assumption) (by assumption)) (?_)))))))))))))))))))))))))))))
          intro z44 h44
          intro z55 h55
          first | replace h55 := e_add h55 (by omega) | replace h55 := e_rng h55
          intro z56 h56
          first | replace h56 := e_mul h56 (by omega) | replace h56 := e_rng h56
          intro z58 h58
          first | replace h58 := e_add h58 (by omega) | replace h58 := e_rng h58
          intro z61 h61
          first | replace h61 := e_sub h61 (by omega) | replace h61 := e_rng h61
          apply And.intro
          · exact ⟨by omega, by omega⟩
          intro z62 h62
          have p62 := PF_at (d' := v2 + 1) (l' := v3 - v5) hw (by omega) (by omega) h62 (by omega)
          intro z63 h63
          first | replace h63 := e_add h63 (by omega) | replace h63 := e_rng h63
          refine Exists.intro [] (Exists.intro [q1 _, q1 _] (Exists.intro [] (And.intro rfl (And.intro rfl (And.intro rfl (And.intro trivial ?_))))))
          refine Exists.intro _ (Exists.intro _ (And.intro rfl (And.intro rfl (?_))))
          intro z64 h64
          intro z69 h69
          first | replace h69 := e_add h69 (by omega) | replace h69 := e_rng h69
          exact ⟨_, ⟨_, _, _, _, _, rfl, rfl, rfl, rfl, (by first | omega | assumption | exact q_rg_up (by assumption) (by omega) | exact q_rg_up (q_rg_up (by assumption) (by omega)) (by omega) | exact q_rg_cpy (by assumption) (by assumption)), (by first | omega | assumption | exact q_rg_up (by assumption) (by omega) | exact q_rg_up (q_rg_up (by assumption) (by omega)) (by omega) | exact q_rg_cpy (by assumption) (by assumption)), (by first | omega | assumption | exact q_rg_up (by assumption) (by omega) | exact q_rg_up (q_rg_up (by assumption) (by omega)) (by omega) | exact q_rg_cpy (by assumption) (by assumption)), (by first | omega | assumption | exact q_rg_up (by assumption) (by omega) | exact q_rg_up (q_rg_up (by assumption) (by omega)) (by omega) | exact q_rg_cpy (by assumption) (by assumption)), (by first | exact PX_s hx (by omega) h44.1 h62 (by omega) h63 (by omega) h64 (by omega) | exact PX_0)⟩, by omega⟩
    simp only [I_X12_findPassed, h6, h12, h23, if_false] at hI
  rintro lv st w' ⟨rfl, rfl, rfl⟩
  refine Exists.intro [0, 2, 3, 4, 5, 6, 7, 8, 9, 10, 11, 12, 13, 14, 1, 15, 16, 17, 18, 19, 20, 21, 22, 23, 24, 25] (Exists.intro [q2 0, q1 _] (Exists.intro ([.inr (12, [q1 _, q2 2, q2 3, q2 4, q2 5, q2 6, q2 1, q2 7, q2 8, q2 9, q1 _, q1 _, q1 _, q1 _, q1 _, q3 _, q1 _, q1 _, q1 _, q2 10, q2 11, q1 _, q1 _, q1 _, q1 _, q1 _, q1 _, q2 12, q1 _, q2 13, q2 14, q2 15, q2 16, q1 _, q2 17, q1 _, q2 18, q2 19, q2 20, q2 21, q2 22, q1 _, q2 23, q2 24, q2 25]), .inl (0, 600, .inl _)]) (And.intro rfl (And.intro rfl (And.intro rfl (And.intro ⟨⟨_, rfl⟩, rfl⟩ ?_))))))
  refine Exists.intro _ (Exists.intro _ (Exists.intro _ (Exists.intro _ (Exists.intro _ (Exists.intro _ (Exists.intro _ (Exists.intro _ (Exists.intro _ (Exists.intro _ (Exists.intro _ (Exists.intro _ (Exists.intro _ (Exists.intro _ (Exists.intro _ (Exists.intro _ (Exists.intro _ (Exists.intro _ (Exists.intro _ (Exists.intro _ (Exists.intro _ (Exists.intro _ (And.intro rfl (And.intro rfl (And.intro (by first | omega | assumption | exact q_rg_up (by assumption) (by omega) | exact q_rg_up (q_rg_up (by assumption) (by omega)) (by omega) | exact q_rg_cpy (by assumption) (by assumption)) (And.intro (by first | omega | assumption | exact q_rg_up (by assumption) (by omega) | exact q_rg_up (q_rg_up (by assumption) (by omega)) (by omega) | exact q_rg_cpy (by assumption) (by assumption)) (And.intro (by first | omega | assumption | exact q_rg_up (by assumption) (by omega) | exact q_rg_up (q_rg_up (by assumption) (by omega)) (by omega) | exact q_rg_cpy (by assumption) (by assumption)) (?_)))))))))))))))))))))))))))
  intro z2 h2
  obtain ⟨h2, k2⟩ := h2
  replace k2 := OFQ_3 k2 (by omega)
  exact ⟨_, _, _, rfl, rfl, rfl, rfl, (by first | omega | assumption | exact q_rg_up (by assumption) (by omega) | exact q_rg_up (q_rg_up (by assumption) (by omega)) (by omega) | exact q_rg_cpy (by assumption) (by assumption)), (by first | omega | assumption | exact q_rg_up (by assumption) (by omega) | exact q_rg_up (q_rg_up (by assumption) (by omega)) (by omega) | exact q_rg_cpy (by assumption) (by assumption)), (by first | exact PF_dn hw (by omega) (by omega) | (rw [h2]; exact PF_0))⟩

theorem dX12_raiseOf_0 : decode cX12_raiseOf 0 = .ok (.iload_n 2, 1) := by decide +kernel
theorem dX12_raiseOf_1 : decode cX12_raiseOf 1 = .ok (.istore_n 3, 1) := by decide +kernel
theorem dX12_raiseOf_2 : decode cX12_raiseOf 2 = .ok (.iconst 0, 1) := by decide +kernel
theorem dX12_raiseOf_3 : decode cX12_raiseOf 3 = .ok (.istore 4, 2) := by decide +kernel
theorem dX12_raiseOf_5 : decode cX12_raiseOf 5 = .ok (.iconst 0, 1) := by decide +kernel
theorem dX12_raiseOf_6 : decode cX12_raiseOf 6 = .ok (.istore 5, 2) := by decide +kernel
theorem dX12_raiseOf_8 : decode cX12_raiseOf 8 = .ok (.iload 5, 2) := by decide +kernel
theorem dX12_raiseOf_10 : decode cX12_raiseOf 10 = .ok (.iload_n 1, 1) := by decide +kernel
theorem dX12_raiseOf_11 : decode cX12_raiseOf 11 = .ok (.if_icmp .gt 64, 3) := by decide +kernel
theorem dX12_raiseOf_14 : decode cX12_raiseOf 14 = .ok (.iconst 0, 1) := by decide +kernel
theorem dX12_raiseOf_15 : decode cX12_raiseOf 15 = .ok (.istore 4, 2) := by decide +kernel
theorem dX12_raiseOf_17 : decode cX12_raiseOf 17 = .ok (.aload_n 0, 1) := by decide +kernel
theorem dX12_raiseOf_18 : decode cX12_raiseOf 18 = .ok (.iload 5, 2) := by decide +kernel
theorem dX12_raiseOf_20 : decode cX12_raiseOf 20 = .ok (.iload 4, 2) := by decide +kernel
theorem dX12_raiseOf_22 : decode cX12_raiseOf 22 = .ok (.invokevirtual 386, 3) := by decide +kernel
theorem dX12_raiseOf_25 : decode cX12_raiseOf 25 = .ok (.aload_n 0, 1) := by decide +kernel
theorem dX12_raiseOf_26 : decode cX12_raiseOf 26 = .ok (.getfield 50, 3) := by decide +kernel
theorem dX12_raiseOf_29 : decode cX12_raiseOf 29 = .ok (.bipush 100, 2) := by decide +kernel
theorem dX12_raiseOf_31 : decode cX12_raiseOf 31 = .ok (.iload 5, 2) := by decide +kernel
theorem dX12_raiseOf_33 : decode cX12_raiseOf 33 = .ok (.iconst 1, 1) := by decide +kernel
theorem dX12_raiseOf_34 : decode cX12_raiseOf 34 = .ok (.iadd, 1) := by decide +kernel
theorem dX12_raiseOf_35 : decode cX12_raiseOf 35 = .ok (.imul, 1) := by decide +kernel
theorem dX12_raiseOf_36 : decode cX12_raiseOf 36 = .ok (.iload_n 3, 1) := by decide +kernel
theorem dX12_raiseOf_37 : decode cX12_raiseOf 37 = .ok (.iadd, 1) := by decide +kernel
theorem dX12_raiseOf_38 : decode cX12_raiseOf 38 = .ok (.iload 4, 2) := by decide +kernel
theorem dX12_raiseOf_40 : decode cX12_raiseOf 40 = .ok (.isub, 1) := by decide +kernel
theorem dX12_raiseOf_41 : decode cX12_raiseOf 41 = .ok (.iaload, 1) := by decide +kernel
theorem dX12_raiseOf_42 : decode cX12_raiseOf 42 = .ok (.iadd, 1) := by decide +kernel
theorem dX12_raiseOf_43 : decode cX12_raiseOf 43 = .ok (.aload_n 0, 1) := by decide +kernel
theorem dX12_raiseOf_44 : decode cX12_raiseOf 44 = .ok (.getfield 50, 3) := by decide +kernel
theorem dX12_raiseOf_47 : decode cX12_raiseOf 47 = .ok (.bipush 100, 2) := by decide +kernel
theorem dX12_raiseOf_49 : decode cX12_raiseOf 49 = .ok (.iload 5, 2) := by decide +kernel
theorem dX12_raiseOf_51 : decode cX12_raiseOf 51 = .ok (.imul, 1) := by decide +kernel
theorem dX12_raiseOf_52 : decode cX12_raiseOf 52 = .ok (.iload_n 3, 1) := by decide +kernel
theorem dX12_raiseOf_53 : decode cX12_raiseOf 53 = .ok (.iadd, 1) := by decide +kernel
theorem dX12_raiseOf_54 : decode cX12_raiseOf 54 = .ok (.iaload, 1) := by decide +kernel
theorem dX12_raiseOf_55 : decode cX12_raiseOf 55 = .ok (.if_icmp .eq 9, 3) := by decide +kernel
theorem dX12_raiseOf_58 : decode cX12_raiseOf 58 = .ok (.iinc 4 1, 3) := by decide +kernel
theorem dX12_raiseOf_61 : decode cX12_raiseOf 61 = .ok (.goto (-44), 3) := by decide +kernel
theorem dX12_raiseOf_64 : decode cX12_raiseOf 64 = .ok (.iload_n 3, 1) := by decide +kernel
theorem dX12_raiseOf_65 : decode cX12_raiseOf 65 = .ok (.iload 4, 2) := by decide +kernel
theorem dX12_raiseOf_67 : decode cX12_raiseOf 67 = .ok (.isub, 1) := by decide +kernel
theorem dX12_raiseOf_68 : decode cX12_raiseOf 68 = .ok (.istore_n 3, 1) := by decide +kernel
theorem dX12_raiseOf_69 : decode cX12_raiseOf 69 = .ok (.iinc 5 1, 3) := by decide +kernel
theorem dX12_raiseOf_72 : decode cX12_raiseOf 72 = .ok (.goto (-64), 3) := by decide +kernel
theorem dX12_raiseOf_75 : decode cX12_raiseOf 75 = .ok (.iload 4, 2) := by decide +kernel
theorem dX12_raiseOf_77 : decode cX12_raiseOf 77 = .ok (.ireturn, 1) := by decide +kernel
def is_X12_raiseOf : Nat → List Nat := fun d => if d = 8 then [0, 1, 3, 4, 5] else if d = 17 then [0, 1, 3, 4, 5] else []
set_option maxRecDepth 100000 in
def b_X12_raiseOf_54 (J : Nat → List qV → List qV → qW → Prop) (Q : qR) : qK := x_iald (x_icmp_eq (x_iload 3 (x_iload 4 (x_isub (x_istore 3 (x_iinc 5 1 (x_cut [0, 1, 3, 4, 5] (J 8))))))) (x_iinc 4 1 (x_cut [0, 1, 3, 4, 5] (J 17))))
set_option maxRecDepth 100000 in
theorem s_X12_raiseOf_54 {p : Program} {l : Launch} {e : Env} {R : Room} {s : State} {m : MethodId} {args : Array Value} {below : List Frame} {meth : Method} {c : Code} {nW : Nat} {dC : Nat → ClassId} {dI : Nat → Nat → Nat} {k : Nat → ClassId} {g : Nat → Nat} {A : Nat → Prop} {J : Nat → List qV → List qV → qW → Prop} {Q : qR} (X : q_X p R s m args meth c cX12_raiseOf 6 nW 2 45 RX12 (some .int) dC dI k g A) (hJ : ∀ d : Nat, q_Sd p l e R s m args below meth c 6 nW dC dI k g A (MQ below (q_post (dC, dI) k g nW Q A) args s 0 0 A) d (x_cut (is_X12_raiseOf d) (J d))) : q_Sd p l e R s m args below meth c 6 nW dC dI k g A (MQ below (q_post (dC, dI) k g nW Q A) args s 0 0 A) 54 (b_X12_raiseOf_54 J Q) := by
  unfold b_X12_raiseOf_54
  refine s_iald X dX12_raiseOf_54 ?_
  refine s_icmp_eq X (tgt := 64) dX12_raiseOf_55 (by decide) ?_ ?_
  · refine s_iload_n X rfl dX12_raiseOf_64 ?_
    refine s_iload X dX12_raiseOf_65 ?_
    refine s_isub X dX12_raiseOf_67 ?_
    refine s_istore_n X rfl (by decide) dX12_raiseOf_68 ?_
    refine s_iinc X (by decide) dX12_raiseOf_69 ?_
    refine s_goto X (tgt := 8) dX12_raiseOf_72 (by decide) ?_
    exact hJ 8
  · refine s_iinc X (by decide) dX12_raiseOf_58 ?_
    refine s_goto X (tgt := 17) dX12_raiseOf_61 (by decide) ?_
    exact hJ 17
set_option maxRecDepth 100000 in
def b_X12_raiseOf_17 (J : Nat → List qV → List qV → qW → Prop) (Q : qR) : qK := x_aload 0 (x_iload 5 (x_iload 4 (x_callr (some 12) 3 spr_X12_passes (x_aload 0 (x_get 12 30 (x_int 100 (x_iload 5 (x_int 1 (x_iadd (x_imul (x_iload 3 (x_iadd (x_iload 4 (x_isub (x_iald (x_iadd (x_aload 0 (x_get 12 30 (x_int 100 (x_iload 5 (x_imul (x_iload 3 (x_iadd (b_X12_raiseOf_54 J Q))))))))))))))))))))))))
set_option maxRecDepth 100000 in
theorem s_X12_raiseOf_17 {p : Program} {l : Launch} {e : Env} {R : Room} {s : State} {m : MethodId} {args : Array Value} {below : List Frame} {meth : Method} {c : Code} {nW : Nat} {dC : Nat → ClassId} {dI : Nat → Nat → Nat} {k : Nat → ClassId} {g : Nat → Nat} {A : Nat → Prop} {J : Nat → List qV → List qV → qW → Prop} {Q : qR} (X : q_X p R s m args meth c cX12_raiseOf 6 nW 2 45 RX12 (some .int) dC dI k g A) (hJ : ∀ d : Nat, q_Sd p l e R s m args below meth c 6 nW dC dI k g A (MQ below (q_post (dC, dI) k g nW Q A) args s 0 0 A) d (x_cut (is_X12_raiseOf d) (J d))) : q_Sd p l e R s m args below meth c 6 nW dC dI k g A (MQ below (q_post (dC, dI) k g nW Q A) args s 0 0 A) 17 (b_X12_raiseOf_17 J Q) := by
  unfold b_X12_raiseOf_17
  refine s_aload_n X rfl dX12_raiseOf_17 ?_
  refine s_iload X dX12_raiseOf_18 ?_
  refine s_iload X dX12_raiseOf_20 ?_
  refine s_callVr X (m_X12_passes l) tw_1288 tw_1289 tw_1607 tw_134 tw_1290 rfl (by decide +kernel) ⟨by decide, by decide⟩ dX12_raiseOf_22 ?_
  refine s_aload_n X rfl dX12_raiseOf_25 ?_
  refine s_get X (T := TX12) (C := RX12) (N := 45) tu_X12 rfl (by decide) tw_1027 dX12_raiseOf_26 ?_
  refine s_bipush X ⟨by decide, by decide⟩ (by decide) dX12_raiseOf_29 ?_
  refine s_iload X dX12_raiseOf_31 ?_
  refine s_iconst X ⟨by decide, by decide⟩ dX12_raiseOf_33 ?_
  refine s_iadd X dX12_raiseOf_34 ?_
  refine s_imul X dX12_raiseOf_35 ?_
  refine s_iload_n X rfl dX12_raiseOf_36 ?_
  refine s_iadd X dX12_raiseOf_37 ?_
  refine s_iload X dX12_raiseOf_38 ?_
  refine s_isub X dX12_raiseOf_40 ?_
  refine s_iald X dX12_raiseOf_41 ?_
  refine s_iadd X dX12_raiseOf_42 ?_
  refine s_aload_n X rfl dX12_raiseOf_43 ?_
  refine s_get X (T := TX12) (C := RX12) (N := 45) tu_X12 rfl (by decide) tw_1027 dX12_raiseOf_44 ?_
  refine s_bipush X ⟨by decide, by decide⟩ (by decide) dX12_raiseOf_47 ?_
  refine s_iload X dX12_raiseOf_49 ?_
  refine s_imul X dX12_raiseOf_51 ?_
  refine s_iload_n X rfl dX12_raiseOf_52 ?_
  refine s_iadd X dX12_raiseOf_53 ?_
  exact s_X12_raiseOf_54 X hJ
set_option maxRecDepth 100000 in
def b_X12_raiseOf_8 (J : Nat → List qV → List qV → qW → Prop) (Q : qR) : qK := x_iload 5 (x_iload 1 (x_icmp_gt (x_iload 4 (x_iret Q)) (x_int 0 (x_istore 4 (x_cut [0, 1, 3, 4, 5] (J 17))))))
set_option maxRecDepth 100000 in
theorem s_X12_raiseOf_8 {p : Program} {l : Launch} {e : Env} {R : Room} {s : State} {m : MethodId} {args : Array Value} {below : List Frame} {meth : Method} {c : Code} {nW : Nat} {dC : Nat → ClassId} {dI : Nat → Nat → Nat} {k : Nat → ClassId} {g : Nat → Nat} {A : Nat → Prop} {J : Nat → List qV → List qV → qW → Prop} {Q : qR} (X : q_X p R s m args meth c cX12_raiseOf 6 nW 2 45 RX12 (some .int) dC dI k g A) (hJ : ∀ d : Nat, q_Sd p l e R s m args below meth c 6 nW dC dI k g A (MQ below (q_post (dC, dI) k g nW Q A) args s 0 0 A) d (x_cut (is_X12_raiseOf d) (J d))) : q_Sd p l e R s m args below meth c 6 nW dC dI k g A (MQ below (q_post (dC, dI) k g nW Q A) args s 0 0 A) 8 (b_X12_raiseOf_8 J Q) := by
  unfold b_X12_raiseOf_8
  refine s_iload X dX12_raiseOf_8 ?_
  refine s_iload_n X rfl dX12_raiseOf_10 ?_
  refine s_icmp_gt X (tgt := 75) dX12_raiseOf_11 (by decide) ?_ ?_
  · refine s_iload X dX12_raiseOf_75 ?_
    exact s_iret X dX12_raiseOf_77
  · refine s_iconst X ⟨by decide, by decide⟩ dX12_raiseOf_14 ?_
    refine s_istore X (by decide) dX12_raiseOf_15 ?_
    exact hJ 17
set_option maxRecDepth 100000 in
def b_X12_raiseOf_0 (J : Nat → List qV → List qV → qW → Prop) (Q : qR) : qK := x_iload 2 (x_istore 3 (x_int 0 (x_istore 4 (x_int 0 (x_istore 5 (x_cut [0, 1, 3, 4, 5] (J 8)))))))
set_option maxRecDepth 100000 in
theorem s_X12_raiseOf_0 {p : Program} {l : Launch} {e : Env} {R : Room} {s : State} {m : MethodId} {args : Array Value} {below : List Frame} {meth : Method} {c : Code} {nW : Nat} {dC : Nat → ClassId} {dI : Nat → Nat → Nat} {k : Nat → ClassId} {g : Nat → Nat} {A : Nat → Prop} {J : Nat → List qV → List qV → qW → Prop} {Q : qR} (X : q_X p R s m args meth c cX12_raiseOf 6 nW 2 45 RX12 (some .int) dC dI k g A) (hJ : ∀ d : Nat, q_Sd p l e R s m args below meth c 6 nW dC dI k g A (MQ below (q_post (dC, dI) k g nW Q A) args s 0 0 A) d (x_cut (is_X12_raiseOf d) (J d))) : q_Sd p l e R s m args below meth c 6 nW dC dI k g A (MQ below (q_post (dC, dI) k g nW Q A) args s 0 0 A) 0 (b_X12_raiseOf_0 J Q) := by
  unfold b_X12_raiseOf_0
  refine s_iload_n X rfl dX12_raiseOf_0 ?_
  refine s_istore_n X rfl (by decide) dX12_raiseOf_1 ?_
  refine s_iconst X ⟨by decide, by decide⟩ dX12_raiseOf_2 ?_
  refine s_istore X (by decide) dX12_raiseOf_3 ?_
  refine s_iconst X ⟨by decide, by decide⟩ dX12_raiseOf_5 ?_
  refine s_istore X (by decide) dX12_raiseOf_6 ?_
  exact hJ 8

def spr_X12_raiseOf : List qV → qW → (Option qV → Prop) → Prop := fun av w Q => ∃ (mco : Int) (mre : Int) (mle : Int) (mbe : Int) (mso : Int) (mva : Int) (mwo : Int) (mwr : Int) (mlf : Int) (mlp : Int) (mfp : Int) (mfd : Int) (mgo : Int) (mbo : Int) (mpe : Int) (mye : Int) (mpr : Int) (mld : Int) (msi : Int) (mse : Int) (ps : Nat → Int) (bs : Nat → Int) (a : Int) (b : Int), av = [q2 0, q1 a, q1 b] ∧ w = [.inr (12, [q1 mco, q2 3, q2 4, q2 5, q2 6, q2 7, q2 2, q2 8, q2 9, q2 10, q1 mre, q1 mle, q1 mbe, q1 mso, q1 mva, q3 mwo, q1 mwr, q1 mlf, q1 mlp, q2 11, q2 12, q1 mfp, q1 mfd, q1 mgo, q1 mbo, q1 mpe, q1 mye, q2 13, q1 mpr, q2 14, q2 1, q2 15, q2 16, q1 mld, q2 17, q1 msi, q2 18, q2 19, q2 20, q2 21, q2 22, q1 mse, q2 23, q2 24, q2 25]), .inl (0, 700, .inl ps), .inl (0, 600, .inl bs)] ∧ (0 ≤ mbo ∧ mbo ≤ 1) ∧ (0 ≤ mpe ∧ mpe ≤ 8) ∧ (BI bs) ∧ (0 ≤ a ∧ a < ofR bs mbo 3 ∧ ofR bs mbo 3 ≤ 6 ∧ 0 ≤ b ∧ b ≤ 99) ∧ (PF bs ps mbo mpe.toNat b (ofR bs mbo 3) (-1) 0) ∧ (∀ (r : Int) , Q (some (q1 r)))
def sp_X12_raiseOf : qS := fun av w Q => spr_X12_raiseOf av w (fun r => Q r w)
def I_X12_raiseOf (mco : Int) (mre : Int) (mle : Int) (mbe : Int) (mso : Int) (mva : Int) (mwo : Int) (mwr : Int) (mlf : Int) (mlp : Int) (mfp : Int) (mfd : Int) (mgo : Int) (mbo : Int) (mpe : Int) (mye : Int) (mpr : Int) (mld : Int) (msi : Int) (mse : Int) (ps : Nat → Int) (bs : Nat → Int) (a : Int) (b : Int) : Nat → Nat → List qV → List qV → qW → Prop := fun dz mz vz sz wz => if dz = 8 then (∃ (v3 : Int) (v4 : Int) (v5 : Int), vz = [q2 0, q1 a, q1 v3, q1 v4, q1 v5] ∧ sz = [] ∧ wz = [.inr (12, [q1 mco, q2 3, q2 4, q2 5, q2 6, q2 7, q2 2, q2 8, q2 9, q2 10, q1 mre, q1 mle, q1 mbe, q1 mso, q1 mva, q3 mwo, q1 mwr, q1 mlf, q1 mlp, q2 11, q2 12, q1 mfp, q1 mfd, q1 mgo, q1 mbo, q1 mpe, q1 mye, q2 13, q1 mpr, q2 14, q2 1, q2 15, q2 16, q1 mld, q2 17, q1 msi, q2 18, q2 19, q2 20, q2 21, q2 22, q1 mse, q2 23, q2 24, q2 25]), .inl (0, 700, .inl ps), .inl (0, 600, .inl bs)] ∧ mz = 1000 * (7 - v5).toNat ∧ (0 ≤ v5 ∧ v5 ≤ a + 1 ∧ 0 ≤ v3 ∧ v3 ≤ b)) else if dz = 17 then (∃ (v3 : Int) (v4 : Int) (v5 : Int), vz = [q2 0, q1 a, q1 v3, q1 v4, q1 v5] ∧ sz = [] ∧ wz = [.inr (12, [q1 mco, q2 3, q2 4, q2 5, q2 6, q2 7, q2 2, q2 8, q2 9, q2 10, q1 mre, q1 mle, q1 mbe, q1 mso, q1 mva, q3 mwo, q1 mwr, q1 mlf, q1 mlp, q2 11, q2 12, q1 mfp, q1 mfd, q1 mgo, q1 mbo, q1 mpe, q1 mye, q2 13, q1 mpr, q2 14, q2 1, q2 15, q2 16, q1 mld, q2 17, q1 msi, q2 18, q2 19, q2 20, q2 21, q2 22, q1 mse, q2 23, q2 24, q2 25]), .inl (0, 700, .inl ps), .inl (0, 600, .inl bs)] ∧ mz = 1000 * (7 - v5).toNat - 500 + (100 - v4).toNat ∧ (0 ≤ v5 ∧ v5 ≤ a ∧ 0 ≤ v3 ∧ v3 ≤ b ∧ 0 ≤ v4 ∧ v4 ≤ v3) ∧ (PR bs ps mbo mpe.toNat v5 v3 v4)) else False
set_option maxHeartbeats 4000000 in
set_option maxRecDepth 100000 in
theorem m_X12_raiseOf (l : Launch) : q_M l yX12_raiseOf cX12_raiseOf 6 (some .int) 2 45 sp_X12_raiseOf := by
  refine q_meth (by decide) (fun av w Q h => by obtain ⟨mco, mre, mle, mbe, mso, mva, mwo, mwr, mlf, mlp, mfp, mfd, mgo, mbo, mpe, mye, mpr, mld, msi, mse, ps, bs, a, b, rfl, rfl, hbo, hpe, hbi, ha, hpf, hQ⟩ := h; exact Nat.le_of_ble_eq_true rfl) ?_
  intro p e R s m args below meth c dC dI k g A av w Q hsp oka okw X
  obtain ⟨mco, mre, mle, mbe, mso, mva, mwo, mwr, mlf, mlp, mfp, mfd, mgo, mbo, mpe, mye, mpr, mld, msi, mse, ps, bs, a, b, rfl, rfl, hbo, hpe, hbi, ha, hpf, hQ⟩ := hsp
  have o_a : -2147483648 ≤ a ∧ a ≤ 2147483647 := oka _ (List.mem_of_getElem? (i := 1) rfl)
  have o_b : -2147483648 ≤ b ∧ b ≤ 2147483647 := oka _ (List.mem_of_getElem? (i := 2) rfl)
  refine s_mono (s_X12_raiseOf_0 X (J := fun dz vz sz wz => ∃ mz, I_X12_raiseOf mco mre mle mbe mso mva mwo mwr mlf mlp mfp mfd mgo mbo mpe mye mpr mld msi mse ps bs a b dz mz vz sz wz) (q_loopn (I_X12_raiseOf mco mre mle mbe mso mva mwo mwr mlf mlp mfp mfd mgo mbo mpe mye mpr mld msi mse ps bs a b) (fun dz J => if dz = 8 then b_X12_raiseOf_8 J Q else if dz = 17 then b_X12_raiseOf_17 J Q else q_F) ?hs ?hv)) ?_
  case hs =>
    intro d J hJ
    by_cases h8 : d = 8
    · subst h8; exact s_X12_raiseOf_8 X hJ
    by_cases h17 : d = 17
    · subst h17; exact s_X12_raiseOf_17 X hJ
    simp only [h8, h17, if_false]
    exact s_F
  case hv =>
    intro dz mz vz sz wz hI okv oks okw hlen
    by_cases h8 : dz = 8
    · subst h8
      obtain ⟨v3, v4, v5, rfl, rfl, rfl, hn, hp⟩ := hI
      apply And.intro
      · intro h11
        exact hQ _
      · intro h11
        exact ⟨_, ⟨_, _, _, rfl, rfl, rfl, rfl, (by first | omega | assumption | exact q_rg_up (by assumption) (by omega) | exact q_rg_up (q_rg_up (by assumption) (by omega)) (by omega) | exact q_rg_cpy (by assumption) (by assumption)), (by first | (rw [h58]; exact pr) | exact PR_0 hpf (by omega) (by omega))⟩, by omega⟩
    by_cases h17 : dz = 17
    · subst h17
      obtain ⟨v3, v4, v5, rfl, rfl, rfl, hn, hp, hx⟩ := hI
      refine Exists.intro [0, 2, 3, 4, 5, 6, 7, 8, 9, 10, 11, 12, 13, 14, 1, 15, 16, 17, 18, 19, 20, 21, 22, 23, 24, 25] (Exists.intro [q2 0, q1 _, q1 _] (Exists.intro ([.inr (12, [q1 _, q2 2, q2 3, q2 4, q2 5, q2 6, q2 1, q2 7, q2 8, q2 9, q1 _, q1 _, q1 _, q1 _, q1 _, q3 _, q1 _, q1 _, q1 _, q2 10, q2 11, q1 _, q1 _, q1 _, q1 _, q1 _, q1 _, q2 12, q1 _, q2 13, q2 14, q2 15, q2 16, q1 _, q2 17, q1 _, q2 18, q2 19, q2 20, q2 21, q2 22, q1 _, q2 23, q2 24, q2 25]), .inl (0, 600, .inl _)]) (And.intro rfl (And.intro rfl (And.intro rfl (And.intro ⟨⟨_, rfl⟩, rfl⟩ ?_))))))
      refine Exists.intro _ (Exists.intro _ (Exists.intro _ (Exists.intro _ (Exists.intro _ (Exists.intro _ (Exists.intro _ (Exists.intro _ (Exists.intro _ (Exists.intro _ (Exists.intro _ (Exists.intro _ (Exists.intro _ (Exists.intro _ (Exists.intro _ (Exists.intro _ (Exists.intro _ (Exists.intro _ (Exists.intro _ (Exists.intro _ (Exists.intro _ (Exists.intro _ (Exists.intro _ (And.intro rfl (And.intro rfl (And.intro (by first | omega | assumption | exact q_rg_up (by assumption) (by omega) | exact q_rg_up (q_rg_up (by assumption) (by omega)) (by omega) | exact q_rg_cpy (by assumption) (by assumption)) (And.intro (by first | omega | assumption | exact q_rg_up (by assumption) (by omega) | exact q_rg_up (q_rg_up (by assumption) (by omega)) (by omega) | exact q_rg_cpy (by assumption) (by assumption)) (And.intro (by first | omega | assumption | exact q_rg_up (by assumption) (by omega) | exact q_rg_up (q_rg_up (by assumption) (by omega)) (by omega) | exact q_rg_cpy (by assumption) (by assumption)) (And.intro (by first | omega | assumption | exact q_rg_up (by assumption) (by omega) | exact q_rg_up (q_rg_up (by assumption) (by omega)) (by omega) | exact q_rg_cpy (by assumption) (by assumption)) (?_)))))))))))))))))))))))))))))
      intro z22 h22
      intro z34 h34
      first | replace h34 := e_add h34 (by omega) | replace h34 := e_rng h34
      intro z35 h35
      first | replace h35 := e_mul h35 (by omega) | replace h35 := e_rng h35
      intro z37 h37
      first | replace h37 := e_add h37 (by omega) | replace h37 := e_rng h37
      intro z40 h40
      first | replace h40 := e_sub h40 (by omega) | replace h40 := e_rng h40
      apply And.intro
      · exact ⟨by omega, by omega⟩
      intro z41 h41
      have p41 := PF_at (d' := v5 + 1) (l' := v3 - v4) hpf (by omega) (by omega) h41 (by omega)
      intro z42 h42
      first | replace h42 := e_add h42 (by omega) | replace h42 := e_rng h42
      intro z51 h51
      first | replace h51 := e_mul h51 (by omega) | replace h51 := e_rng h51
      intro z53 h53
      first | replace h53 := e_add h53 (by omega) | replace h53 := e_rng h53
      apply And.intro
      · exact ⟨by omega, by omega⟩
      intro z54 h54
      apply And.intro
      · intro h55
        intro z67 h67
        first | replace h67 := e_sub h67 (by omega) | replace h67 := e_rng h67
        intro z69 h69
        first | replace h69 := e_add h69 (by omega) | replace h69 := e_rng h69
        exact ⟨_, ⟨_, _, _, rfl, rfl, rfl, rfl, (by first | omega | assumption | exact q_rg_up (by assumption) (by omega) | exact q_rg_up (q_rg_up (by assumption) (by omega)) (by omega) | exact q_rg_cpy (by assumption) (by assumption))⟩, by omega⟩
      · intro h55
        have pr := PR_s (ra2 := v4 + 1) hx h22.1 h41 (by omega) h42 h54 (by omega) h55 rfl
        have pl := PR_le pr
        intro z58 h58
        first | replace h58 := e_add h58 (by omega) | replace h58 := e_rng h58
        exact ⟨_, ⟨_, _, _, rfl, rfl, rfl, rfl, (by first | omega | assumption | exact q_rg_up (by assumption) (by omega) | exact q_rg_up (q_rg_up (by assumption) (by omega)) (by omega) | exact q_rg_cpy (by assumption) (by assumption)), (by first | (rw [h58]; exact pr) | exact PR_0 hpf (by omega) (by omega))⟩, by omega⟩
    simp only [I_X12_raiseOf, h8, h17, if_false] at hI
  rintro lv st w' ⟨rfl, rfl, rfl⟩
  exact ⟨_, _, _, _, rfl, rfl, rfl, rfl, (by first | omega | assumption | exact q_rg_up (by assumption) (by omega) | exact q_rg_up (q_rg_up (by assumption) (by omega)) (by omega) | exact q_rg_cpy (by assumption) (by assumption))⟩

theorem dX12_cut_0 : decode cX12_cut 0 = .ok (.aload_n 0, 1) := by decide +kernel
theorem dX12_cut_1 : decode cX12_cut 1 = .ok (.iconst 0, 1) := by decide +kernel
theorem dX12_cut_2 : decode cX12_cut 2 = .ok (.putfield 88, 3) := by decide +kernel
theorem dX12_cut_5 : decode cX12_cut 5 = .ok (.iload_n 2, 1) := by decide +kernel
theorem dX12_cut_6 : decode cX12_cut 6 = .ok (.iconst 0, 1) := by decide +kernel
theorem dX12_cut_7 : decode cX12_cut 7 = .ok (.bipush 99, 2) := by decide +kernel
theorem dX12_cut_9 : decode cX12_cut 9 = .ok (.invokestatic 100, 3) := by decide +kernel
theorem dX12_cut_12 : decode cX12_cut 12 = .ok (.ifCond .eq 32, 3) := by decide +kernel
theorem dX12_cut_15 : decode cX12_cut 15 = .ok (.aload_n 0, 1) := by decide +kernel
theorem dX12_cut_16 : decode cX12_cut 16 = .ok (.iload_n 1, 1) := by decide +kernel
theorem dX12_cut_17 : decode cX12_cut 17 = .ok (.invokevirtual 306, 3) := by decide +kernel
theorem dX12_cut_20 : decode cX12_cut 20 = .ok (.ifCond .eq 24, 3) := by decide +kernel
theorem dX12_cut_23 : decode cX12_cut 23 = .ok (.iload_n 3, 1) := by decide +kernel
theorem dX12_cut_24 : decode cX12_cut 24 = .ok (.ifCond .eq 22, 3) := by decide +kernel
theorem dX12_cut_27 : decode cX12_cut 27 = .ok (.iload_n 3, 1) := by decide +kernel
theorem dX12_cut_28 : decode cX12_cut 28 = .ok (.bipush 10, 2) := by decide +kernel
theorem dX12_cut_30 : decode cX12_cut 30 = .ok (.bipush 9, 2) := by decide +kernel
theorem dX12_cut_32 : decode cX12_cut 32 = .ok (.aload_n 0, 1) := by decide +kernel
theorem dX12_cut_33 : decode cX12_cut 33 = .ok (.iconst 3, 1) := by decide +kernel
theorem dX12_cut_34 : decode cX12_cut 34 = .ok (.invokevirtual 299, 3) := by decide +kernel
theorem dX12_cut_37 : decode cX12_cut 37 = .ok (.iadd, 1) := by decide +kernel
theorem dX12_cut_38 : decode cX12_cut 38 = .ok (.invokestatic 100, 3) := by decide +kernel
theorem dX12_cut_41 : decode cX12_cut 41 = .ok (.ifCond .ne 5, 3) := by decide +kernel
theorem dX12_cut_44 : decode cX12_cut 44 = .ok (.iconst (-1), 1) := by decide +kernel
theorem dX12_cut_45 : decode cX12_cut 45 = .ok (.ireturn, 1) := by decide +kernel
theorem dX12_cut_46 : decode cX12_cut 46 = .ok (.aload_n 0, 1) := by decide +kernel
theorem dX12_cut_47 : decode cX12_cut 47 = .ok (.iload_n 2, 1) := by decide +kernel
theorem dX12_cut_48 : decode cX12_cut 48 = .ok (.invokevirtual 389, 3) := by decide +kernel
theorem dX12_cut_51 : decode cX12_cut 51 = .ok (.iload_n 3, 1) := by decide +kernel
theorem dX12_cut_52 : decode cX12_cut 52 = .ok (.ifCond .ne 12, 3) := by decide +kernel
theorem dX12_cut_55 : decode cX12_cut 55 = .ok (.aload_n 0, 1) := by decide +kernel
theorem dX12_cut_56 : decode cX12_cut 56 = .ok (.getfield 50, 3) := by decide +kernel
theorem dX12_cut_59 : decode cX12_cut 59 = .ok (.iload_n 2, 1) := by decide +kernel
theorem dX12_cut_60 : decode cX12_cut 60 = .ok (.iaload, 1) := by decide +kernel
theorem dX12_cut_61 : decode cX12_cut 61 = .ok (.goto 12, 3) := by decide +kernel
theorem dX12_cut_64 : decode cX12_cut 64 = .ok (.aload_n 0, 1) := by decide +kernel
theorem dX12_cut_65 : decode cX12_cut 65 = .ok (.iload_n 3, 1) := by decide +kernel
theorem dX12_cut_66 : decode cX12_cut 66 = .ok (.bipush 10, 2) := by decide +kernel
theorem dX12_cut_68 : decode cX12_cut 68 = .ok (.isub, 1) := by decide +kernel
theorem dX12_cut_69 : decode cX12_cut 69 = .ok (.iload_n 2, 1) := by decide +kernel
theorem dX12_cut_70 : decode cX12_cut 70 = .ok (.invokevirtual 392, 3) := by decide +kernel
theorem dX12_cut_73 : decode cX12_cut 73 = .ok (.ireturn, 1) := by decide +kernel
def is_X12_cut : Nat → List Nat := fun d => []
set_option maxRecDepth 100000 in
def b_X12_cut_73 (J : Nat → List qV → List qV → qW → Prop) (Q : qR) : qK := x_iret Q
set_option maxRecDepth 100000 in
theorem s_X12_cut_73 {p : Program} {l : Launch} {e : Env} {R : Room} {s : State} {m : MethodId} {args : Array Value} {below : List Frame} {meth : Method} {c : Code} {nW : Nat} {dC : Nat → ClassId} {dI : Nat → Nat → Nat} {k : Nat → ClassId} {g : Nat → Nat} {A : Nat → Prop} {J : Nat → List qV → List qV → qW → Prop} {Q : qR} (X : q_X p R s m args meth c cX12_cut 4 nW 3 70 RX12 (some .int) dC dI k g A) (hJ : ∀ d : Nat, q_Sd p l e R s m args below meth c 4 nW dC dI k g A (MQ below (q_post (dC, dI) k g nW Q A) args s 0 0 A) d (x_cut (is_X12_cut d) (J d))) : q_Sd p l e R s m args below meth c 4 nW dC dI k g A (MQ below (q_post (dC, dI) k g nW Q A) args s 0 0 A) 73 (b_X12_cut_73 J Q) := by
  unfold b_X12_cut_73
  exact s_iret X dX12_cut_73
set_option maxRecDepth 100000 in
def b_X12_cut_46 (J : Nat → List qV → List qV → qW → Prop) (Q : qR) : qK := x_aload 0 (x_iload 2 (x_call (some 12) 2 sp_X12_findPassed (x_nw (x_iload 3 (x_if_ne (x_aload 0 (x_iload 3 (x_int 10 (x_isub (x_iload 2 (x_callr (some 12) 3 spr_X12_raiseOf (b_X12_cut_73 J Q))))))) (x_aload 0 (x_get 12 30 (x_iload 2 (x_iald (b_X12_cut_73 J Q))))))))))
set_option maxRecDepth 100000 in
theorem s_X12_cut_46 {p : Program} {l : Launch} {e : Env} {R : Room} {s : State} {m : MethodId} {args : Array Value} {below : List Frame} {meth : Method} {c : Code} {nW : Nat} {dC : Nat → ClassId} {dI : Nat → Nat → Nat} {k : Nat → ClassId} {g : Nat → Nat} {A : Nat → Prop} {J : Nat → List qV → List qV → qW → Prop} {Q : qR} (X : q_X p R s m args meth c cX12_cut 4 nW 3 70 RX12 (some .int) dC dI k g A) (hJ : ∀ d : Nat, q_Sd p l e R s m args below meth c 4 nW dC dI k g A (MQ below (q_post (dC, dI) k g nW Q A) args s 0 0 A) d (x_cut (is_X12_cut d) (J d))) : q_Sd p l e R s m args below meth c 4 nW dC dI k g A (MQ below (q_post (dC, dI) k g nW Q A) args s 0 0 A) 46 (b_X12_cut_46 J Q) := by
  unfold b_X12_cut_46
  refine s_aload_n X rfl dX12_cut_46 ?_
  refine s_iload_n X rfl dX12_cut_47 ?_
  refine s_callV X (m_X12_findPassed l) tw_1285 tw_1286 tw_1573 tw_134 tw_1287 rfl (by decide +kernel) ⟨by decide, by decide⟩ dX12_cut_48 ?_
  refine s_nw ?_
  refine s_iload_n X rfl dX12_cut_51 ?_
  refine s_if_ne X (tgt := 64) dX12_cut_52 (by decide) ?_ ?_
  · refine s_aload_n X rfl dX12_cut_64 ?_
    refine s_iload_n X rfl dX12_cut_65 ?_
    refine s_bipush X ⟨by decide, by decide⟩ (by decide) dX12_cut_66 ?_
    refine s_isub X dX12_cut_68 ?_
    refine s_iload_n X rfl dX12_cut_69 ?_
    refine s_callVr X (m_X12_raiseOf l) tw_1291 tw_1292 tw_1610 tw_134 tw_1293 rfl (by decide +kernel) ⟨by decide, by decide⟩ dX12_cut_70 ?_
    exact s_X12_cut_73 X hJ
  · refine s_aload_n X rfl dX12_cut_55 ?_
    refine s_get X (T := TX12) (C := RX12) (N := 45) tu_X12 rfl (by decide) tw_1027 dX12_cut_56 ?_
    refine s_iload_n X rfl dX12_cut_59 ?_
    refine s_iald X dX12_cut_60 ?_
    refine s_goto X (tgt := 73) dX12_cut_61 (by decide) ?_
    exact s_X12_cut_73 X hJ
set_option maxRecDepth 100000 in
def b_X12_cut_44 (J : Nat → List qV → List qV → qW → Prop) (Q : qR) : qK := x_int (-1) (x_iret Q)
set_option maxRecDepth 100000 in
theorem s_X12_cut_44 {p : Program} {l : Launch} {e : Env} {R : Room} {s : State} {m : MethodId} {args : Array Value} {below : List Frame} {meth : Method} {c : Code} {nW : Nat} {dC : Nat → ClassId} {dI : Nat → Nat → Nat} {k : Nat → ClassId} {g : Nat → Nat} {A : Nat → Prop} {J : Nat → List qV → List qV → qW → Prop} {Q : qR} (X : q_X p R s m args meth c cX12_cut 4 nW 3 70 RX12 (some .int) dC dI k g A) (hJ : ∀ d : Nat, q_Sd p l e R s m args below meth c 4 nW dC dI k g A (MQ below (q_post (dC, dI) k g nW Q A) args s 0 0 A) d (x_cut (is_X12_cut d) (J d))) : q_Sd p l e R s m args below meth c 4 nW dC dI k g A (MQ below (q_post (dC, dI) k g nW Q A) args s 0 0 A) 44 (b_X12_cut_44 J Q) := by
  unfold b_X12_cut_44
  refine s_iconst X ⟨by decide, by decide⟩ dX12_cut_44 ?_
  exact s_iret X dX12_cut_45
set_option maxRecDepth 100000 in
def b_X12_cut_0 (J : Nat → List qV → List qV → qW → Prop) (Q : qR) : qK := x_aload 0 (x_int 0 (x_put 12 0 q_oki (x_nw (x_iload 2 (x_int 0 (x_int 99 (x_callr none 3 spr_X12_in (x_if_eq (b_X12_cut_44 J Q) (x_aload 0 (x_iload 1 (x_call (some 12) 2 sp_X12_hand (x_nw (x_if_eq (b_X12_cut_44 J Q) (x_iload 3 (x_if_eq (b_X12_cut_46 J Q) (x_iload 3 (x_int 10 (x_int 9 (x_aload 0 (x_int 3 (x_callr (some 12) 2 spr_X12_of (x_iadd (x_callr none 3 spr_X12_in (x_if_ne (b_X12_cut_46 J Q) (b_X12_cut_44 J Q)))))))))))))))))))))))))
set_option maxRecDepth 100000 in
theorem s_X12_cut_0 {p : Program} {l : Launch} {e : Env} {R : Room} {s : State} {m : MethodId} {args : Array Value} {below : List Frame} {meth : Method} {c : Code} {nW : Nat} {dC : Nat → ClassId} {dI : Nat → Nat → Nat} {k : Nat → ClassId} {g : Nat → Nat} {A : Nat → Prop} {J : Nat → List qV → List qV → qW → Prop} {Q : qR} (X : q_X p R s m args meth c cX12_cut 4 nW 3 70 RX12 (some .int) dC dI k g A) (hJ : ∀ d : Nat, q_Sd p l e R s m args below meth c 4 nW dC dI k g A (MQ below (q_post (dC, dI) k g nW Q A) args s 0 0 A) d (x_cut (is_X12_cut d) (J d))) : q_Sd p l e R s m args below meth c 4 nW dC dI k g A (MQ below (q_post (dC, dI) k g nW Q A) args s 0 0 A) 0 (b_X12_cut_0 J Q) := by
  unfold b_X12_cut_0
  refine s_aload_n X rfl dX12_cut_0 ?_
  refine s_iconst X ⟨by decide, by decide⟩ dX12_cut_1 ?_
  refine s_put X (T := TX12) (C := RX12) (N := 45) tu_X12 tyX12_ok nmX12 rfl (by decide) tw_997 rfl (by decide +kernel) q_oki_t dX12_cut_2 ?_
  refine s_nw ?_
  refine s_iload_n X rfl dX12_cut_5 ?_
  refine s_iconst X ⟨by decide, by decide⟩ dX12_cut_6 ?_
  refine s_bipush X ⟨by decide, by decide⟩ (by decide) dX12_cut_7 ?_
  refine s_callSr X (m_X12_in l) tw_1054 tw_1055 tw_134 tw_1056 (by decide +kernel) ⟨by decide, by decide⟩ dX12_cut_9 ?_
  refine s_if_eq X (tgt := 44) dX12_cut_12 (by decide) ?_ ?_
  · exact s_X12_cut_44 X hJ
  · refine s_aload_n X rfl dX12_cut_15 ?_
    refine s_iload_n X rfl dX12_cut_16 ?_
    refine s_callV X (m_X12_hand l) tw_1186 tw_1187 tw_1585 tw_134 tw_1188 rfl (by decide +kernel) ⟨by decide, by decide⟩ dX12_cut_17 ?_
    refine s_nw ?_
    refine s_if_eq X (tgt := 44) dX12_cut_20 (by decide) ?_ ?_
    · exact s_X12_cut_44 X hJ
    · refine s_iload_n X rfl dX12_cut_23 ?_
      refine s_if_eq X (tgt := 46) dX12_cut_24 (by decide) ?_ ?_
      · exact s_X12_cut_46 X hJ
      · refine s_iload_n X rfl dX12_cut_27 ?_
        refine s_bipush X ⟨by decide, by decide⟩ (by decide) dX12_cut_28 ?_
        refine s_bipush X ⟨by decide, by decide⟩ (by decide) dX12_cut_30 ?_
        refine s_aload_n X rfl dX12_cut_32 ?_
        refine s_iconst X ⟨by decide, by decide⟩ dX12_cut_33 ?_
        refine s_callVr X (m_X12_of l) tw_1189 tw_1190 tw_1603 tw_134 tw_1191 rfl (by decide +kernel) ⟨by decide, by decide⟩ dX12_cut_34 ?_
        refine s_iadd X dX12_cut_37 ?_
        refine s_callSr X (m_X12_in l) tw_1054 tw_1055 tw_134 tw_1056 (by decide +kernel) ⟨by decide, by decide⟩ dX12_cut_38 ?_
        refine s_if_ne X (tgt := 46) dX12_cut_41 (by decide) ?_ ?_
        · exact s_X12_cut_46 X hJ
        · exact s_X12_cut_44 X hJ

def sp_X12_cut : qS := fun av w Q => ∃ (mco : Int) (mre : Int) (mle : Int) (mbe : Int) (mso : Int) (mva : Int) (mwo : Int) (mwr : Int) (mlf : Int) (mlp : Int) (mfp : Int) (mfd : Int) (mgo : Int) (mbo : Int) (mpe : Int) (mye : Int) (mpr : Int) (mld : Int) (msi : Int) (mse : Int) (mn : Nat → Int) (bs : Nat → Int) (ps : Nat → Int) (a : Int) (b : Int) (cc : Int), av = [q2 0, q1 a, q1 b, q1 cc] ∧ w = [.inr (12, [q1 mco, q2 4, q2 5, q2 6, q2 7, q2 1, q2 2, q2 8, q2 9, q2 10, q1 mre, q1 mle, q1 mbe, q1 mso, q1 mva, q3 mwo, q1 mwr, q1 mlf, q1 mlp, q2 11, q2 12, q1 mfp, q1 mfd, q1 mgo, q1 mbo, q1 mpe, q1 mye, q2 13, q1 mpr, q2 14, q2 3, q2 15, q2 16, q1 mld, q2 17, q1 msi, q2 18, q2 19, q2 20, q2 21, q2 22, q1 mse, q2 23, q2 24, q2 25]), .inl (0, 16, .inl mn), .inl (0, 600, .inl bs), .inl (0, 700, .inl ps)] ∧ (q_rg 0 2 mn) ∧ (BI bs) ∧ (∀ (r : Int) (x_mco : Int) (x_mbo : Int) (x_mpe : Int) (x_ps : Nat → Int), Q (some (q1 r)) ([.inr (12, [q1 x_mco, q2 4, q2 5, q2 6, q2 7, q2 1, q2 2, q2 8, q2 9, q2 10, q1 mre, q1 mle, q1 mbe, q1 mso, q1 mva, q3 mwo, q1 mwr, q1 mlf, q1 mlp, q2 11, q2 12, q1 mfp, q1 mfd, q1 mgo, q1 x_mbo, q1 x_mpe, q1 mye, q2 13, q1 mpr, q2 14, q2 3, q2 15, q2 16, q1 mld, q2 17, q1 msi, q2 18, q2 19, q2 20, q2 21, q2 22, q1 mse, q2 23, q2 24, q2 25]), .inl (0, 16, .inl mn), .inl (0, 600, .inl bs), .inl (0, 700, .inl x_ps)]))
set_option maxHeartbeats 4000000 in
set_option maxRecDepth 100000 in
theorem m_X12_cut (l : Launch) : q_M l yX12_cut cX12_cut 4 (some .int) 3 70 sp_X12_cut := by
  refine q_meth (by decide) (fun av w Q h => by obtain ⟨mco, mre, mle, mbe, mso, mva, mwo, mwr, mlf, mlp, mfp, mfd, mgo, mbo, mpe, mye, mpr, mld, msi, mse, mn, bs, ps, a, b, cc, rfl, rfl, hmn, hbi, hQ⟩ := h; exact Nat.le_of_ble_eq_true rfl) ?_
  intro p e R s m args below meth c dC dI k g A av w Q hsp oka okw X
  obtain ⟨mco, mre, mle, mbe, mso, mva, mwo, mwr, mlf, mlp, mfp, mfd, mgo, mbo, mpe, mye, mpr, mld, msi, mse, mn, bs, ps, a, b, cc, rfl, rfl, hmn, hbi, hQ⟩ := hsp
  have o_a : -2147483648 ≤ a ∧ a ≤ 2147483647 := oka _ (List.mem_of_getElem? (i := 1) rfl)
  have o_b : -2147483648 ≤ b ∧ b ≤ 2147483647 := oka _ (List.mem_of_getElem? (i := 2) rfl)
  have o_cc : -2147483648 ≤ cc ∧ cc ≤ 2147483647 := oka _ (List.mem_of_getElem? (i := 3) rfl)
  refine s_mono (s_X12_cut_0 X (J := fun _ _ _ _ => False) (fun d => s_cutF)) ?_
  rintro lv st w' ⟨rfl, rfl, rfl⟩
  apply And.intro
  · exact trivial
  refine Exists.intro [] (Exists.intro [q1 _, q1 _, q1 _] (Exists.intro [] (And.intro rfl (And.intro rfl (And.intro rfl (And.intro trivial ?_))))))
  refine Exists.intro _ (Exists.intro _ (Exists.intro _ (And.intro rfl (And.intro rfl (?_)))))
  intro z9 h9
  apply And.intro
  · intro h12
    first | replace h9 := dj1 h9 h12 | replace h9 := dj0 h9 h12
    exact hQ _ _ _ _ _
  · intro h12
    first | replace h9 := dj1 h9 h12 | replace h9 := dj0 h9 h12
    refine Exists.intro [0, 1, 2, 4, 5, 6, 7, 8, 9, 10, 11, 12, 13, 14, 3, 15, 16, 17, 18, 19, 20, 21, 22, 23, 24, 25] (Exists.intro [q2 0, q1 _] (Exists.intro ([.inr (12, [q1 _, q2 3, q2 4, q2 5, q2 6, q2 1, q2 2, q2 7, q2 8, q2 9, q1 _, q1 _, q1 _, q1 _, q1 _, q3 _, q1 _, q1 _, q1 _, q2 10, q2 11, q1 _, q1 _, q1 _, q1 _, q1 _, q1 _, q2 12, q1 _, q2 13, q2 14, q2 15, q2 16, q1 _, q2 17, q1 _, q2 18, q2 19, q2 20, q2 21, q2 22, q1 _, q2 23, q2 24, q2 25]), .inl (0, 16, .inl _), .inl (0, 600, .inl _)]) (And.intro rfl (And.intro rfl (And.intro rfl (And.intro ⟨⟨_, rfl⟩, rfl⟩ ?_))))))
    refine Exists.intro _ (Exists.intro _ (Exists.intro _ (Exists.intro _ (Exists.intro _ (Exists.intro _ (Exists.intro _ (Exists.intro _ (Exists.intro _ (Exists.intro _ (Exists.intro _ (Exists.intro _ (Exists.intro _ (Exists.intro _ (Exists.intro _ (Exists.intro _ (Exists.intro _ (Exists.intro _ (Exists.intro _ (Exists.intro _ (Exists.intro _ (Exists.intro _ (Exists.intro _ (And.intro rfl (And.intro rfl (And.intro (by first | omega | assumption | exact q_rg_up (by assumption) (by omega) | exact q_rg_up (q_rg_up (by assumption) (by omega)) (by omega) | exact q_rg_cpy (by assumption) (by assumption)) (And.intro (by first | omega | assumption | exact q_rg_up (by assumption) (by omega) | exact q_rg_up (q_rg_up (by assumption) (by omega)) (by omega) | exact q_rg_cpy (by assumption) (by assumption)) (?_)))))))))))))))))))))))))))
    intro z17 x_mbo_17 x_mpe_17 h17
    apply And.intro
    · intro h20
      first | replace h17 := dj1 h17 h20 | replace h17 := dj0 h17 h20
      exact hQ _ _ _ _ _
    · intro h20
      first | replace h17 := dj1 h17 h20 | replace h17 := dj0 h17 h20
      apply And.intro
      · intro h24
        refine Exists.intro [0, 3, 2, 4, 5, 6, 7, 1, 8, 9, 10, 11, 12, 13, 14, 15, 16, 17, 18, 19, 20, 21, 22, 23, 24, 25] (Exists.intro [q2 0, q1 _] (Exists.intro ([.inr (12, [q1 _, q2 3, q2 4, q2 5, q2 6, q2 7, q2 2, q2 8, q2 9, q2 10, q1 _, q1 _, q1 _, q1 _, q1 _, q3 _, q1 _, q1 _, q1 _, q2 11, q2 12, q1 _, q1 _, q1 _, q1 _, q1 _, q1 _, q2 13, q1 _, q2 14, q2 1, q2 15, q2 16, q1 _, q2 17, q1 _, q2 18, q2 19, q2 20, q2 21, q2 22, q1 _, q2 23, q2 24, q2 25]), .inl (0, 700, .inl _), .inl (0, 600, .inl _)]) (And.intro rfl (And.intro rfl (And.intro rfl (And.intro ⟨⟨_, rfl⟩, rfl⟩ ?_))))))
        refine Exists.intro _ (Exists.intro _ (Exists.intro _ (Exists.intro _ (Exists.intro _ (Exists.intro _ (Exists.intro _ (Exists.intro _ (Exists.intro _ (Exists.intro _ (Exists.intro _ (Exists.intro _ (Exists.intro _ (Exists.intro _ (Exists.intro _ (Exists.intro _ (Exists.intro _ (Exists.intro _ (Exists.intro _ (Exists.intro _ (Exists.intro _ (Exists.intro _ (Exists.intro _ (And.intro rfl (And.intro rfl (And.intro (by first | omega | assumption | exact q_rg_up (by assumption) (by omega) | exact q_rg_up (q_rg_up (by assumption) (by omega)) (by omega) | exact q_rg_cpy (by assumption) (by assumption)) (And.intro (by first | omega | assumption | exact q_rg_up (by assumption) (by omega) | exact q_rg_up (q_rg_up (by assumption) (by omega)) (by omega) | exact q_rg_cpy (by assumption) (by assumption)) (And.intro (by first | omega | assumption | exact q_rg_up (by assumption) (by omega) | exact q_rg_up (q_rg_up (by assumption) (by omega)) (by omega) | exact q_rg_cpy (by assumption) (by assumption)) (And.intro (by first | omega | assumption | exact q_rg_up (by assumption) (by omega) | exact q_rg_up (q_rg_up (by assumption) (by omega)) (by omega) | exact q_rg_cpy (by assumption) (by assumption)) (?_)))))))))))))))))))))))))))))
        intro x_ps_48 h48
        apply And.intro
        · intro h52
          intro z68 h68
          first | replace h68 := e_sub h68 (by omega) | replace h68 := e_rng h68
          refine Exists.intro [0, 3, 2, 4, 5, 6, 7, 1, 8, 9, 10, 11, 12, 13, 14, 15, 16, 17, 18, 19, 20, 21, 22, 23, 24, 25] (Exists.intro [q2 0, q1 _, q1 _] (Exists.intro ([.inr (12, [q1 _, q2 3, q2 4, q2 5, q2 6, q2 7, q2 2, q2 8, q2 9, q2 10, q1 _, q1 _, q1 _, q1 _, q1 _, q3 _, q1 _, q1 _, q1 _, q2 11, q2 12, q1 _, q1 _, q1 _, q1 _, q1 _, q1 _, q2 13, q1 _, q2 14, q2 1, q2 15, q2 16, q1 _, q2 17, q1 _, q2 18, q2 19, q2 20, q2 21, q2 22, q1 _, q2 23, q2 24, q2 25]), .inl (0, 700, .inl _), .inl (0, 600, .inl _)]) (And.intro rfl (And.intro rfl (And.intro rfl (And.intro ⟨⟨_, rfl⟩, rfl⟩ ?_))))))
          refine Exists.intro _ (Exists.intro _ (Exists.intro _ (Exists.intro _ (Exists.intro _ (Exists.intro _ (Exists.intro _ (Exists.intro _ (Exists.intro _ (Exists.intro _ (Exists.intro _ (Exists.intro _ (Exists.intro _ (Exists.intro _ (Exists.intro _ (Exists.intro _ (Exists.intro _ (Exists.intro _ (Exists.intro _ (Exists.intro _ (Exists.intro _ (Exists.intro _ (Exists.intro _ (Exists.intro _ (And.intro rfl (And.intro rfl (And.intro (by first | omega | assumption | exact q_rg_up (by assumption) (by omega) | exact q_rg_up (q_rg_up (by assumption) (by omega)) (by omega) | exact q_rg_cpy (by assumption) (by assumption)) (And.intro (by first | omega | assumption | exact q_rg_up (by assumption) (by omega) | exact q_rg_up (q_rg_up (by assumption) (by omega)) (by omega) | exact q_rg_cpy (by assumption) (by assumption)) (And.intro (by first | omega | assumption | exact q_rg_up (by assumption) (by omega) | exact q_rg_up (q_rg_up (by assumption) (by omega)) (by omega) | exact q_rg_cpy (by assumption) (by assumption)) (And.intro (by first | omega | assumption | exact q_rg_up (by assumption) (by omega) | exact q_rg_up (q_rg_up (by assumption) (by omega)) (by omega) | exact q_rg_cpy (by assumption) (by assumption)) (And.intro h48 (?_)))))))))))))))))))))))))))))))
          intro z70
          exact hQ _ _ _ _ _
        · intro h52
          apply And.intro
          · exact ⟨by omega, by omega⟩
          intro z60 h60
          exact hQ _ _ _ _ _
      · intro h24
        refine Exists.intro [0, 2, 4, 5, 6, 7, 1, 8, 9, 10, 11, 12, 13, 14, 3, 15, 16, 17, 18, 19, 20, 21, 22, 23, 24, 25] (Exists.intro [q2 0, q1 _] (Exists.intro ([.inr (12, [q1 _, q2 2, q2 3, q2 4, q2 5, q2 6, q2 1, q2 7, q2 8, q2 9, q1 _, q1 _, q1 _, q1 _, q1 _, q3 _, q1 _, q1 _, q1 _, q2 10, q2 11, q1 _, q1 _, q1 _, q1 _, q1 _, q1 _, q2 12, q1 _, q2 13, q2 14, q2 15, q2 16, q1 _, q2 17, q1 _, q2 18, q2 19, q2 20, q2 21, q2 22, q1 _, q2 23, q2 24, q2 25]), .inl (0, 600, .inl _)]) (And.intro rfl (And.intro rfl (And.intro rfl (And.intro ⟨⟨_, rfl⟩, rfl⟩ ?_))))))
        refine Exists.intro _ (Exists.intro _ (Exists.intro _ (Exists.intro _ (Exists.intro _ (Exists.intro _ (Exists.intro _ (Exists.intro _ (Exists.intro _ (Exists.intro _ (Exists.intro _ (Exists.intro _ (Exists.intro _ (Exists.intro _ (Exists.intro _ (Exists.intro _ (Exists.intro _ (Exists.intro _ (Exists.intro _ (Exists.intro _ (Exists.intro _ (Exists.intro _ (And.intro rfl (And.intro rfl (And.intro (by first | omega | assumption | exact q_rg_up (by assumption) (by omega) | exact q_rg_up (q_rg_up (by assumption) (by omega)) (by omega) | exact q_rg_cpy (by assumption) (by assumption)) (And.intro (by first | omega | assumption | exact q_rg_up (by assumption) (by omega) | exact q_rg_up (q_rg_up (by assumption) (by omega)) (by omega) | exact q_rg_cpy (by assumption) (by assumption)) (And.intro (by first | omega | assumption | exact q_rg_up (by assumption) (by omega) | exact q_rg_up (q_rg_up (by assumption) (by omega)) (by omega) | exact q_rg_cpy (by assumption) (by assumption)) (?_)))))))))))))))))))))))))))
        intro z34 h34
        obtain ⟨h34, k34⟩ := h34
        replace k34 := OFQ_3 k34 (by omega)
        intro z37 h37
        first | replace h37 := e_add h37 (by omega) | replace h37 := e_rng h37
        refine Exists.intro [] (Exists.intro [q1 _, q1 _, q1 _] (Exists.intro [] (And.intro rfl (And.intro rfl (And.intro rfl (And.intro trivial ?_))))))
        refine Exists.intro _ (Exists.intro _ (Exists.intro _ (And.intro rfl (And.intro rfl (?_)))))
        intro z38 h38
        apply And.intro
        · intro h41
          first | replace h38 := dj1 h38 h41 | replace h38 := dj0 h38 h41
          refine Exists.intro [0, 3, 2, 4, 5, 6, 7, 1, 8, 9, 10, 11, 12, 13, 14, 15, 16, 17, 18, 19, 20, 21, 22, 23, 24, 25] (Exists.intro [q2 0, q1 _] (Exists.intro ([.inr (12, [q1 _, q2 3, q2 4, q2 5, q2 6, q2 7, q2 2, q2 8, q2 9, q2 10, q1 _, q1 _, q1 _, q1 _, q1 _, q3 _, q1 _, q1 _, q1 _, q2 11, q2 12, q1 _, q1 _, q1 _, q1 _, q1 _, q1 _, q2 13, q1 _, q2 14, q2 1, q2 15, q2 16, q1 _, q2 17, q1 _, q2 18, q2 19, q2 20, q2 21, q2 22, q1 _, q2 23, q2 24, q2 25]), .inl (0, 700, .inl _), .inl (0, 600, .inl _)]) (And.intro rfl (And.intro rfl (And.intro rfl (And.intro ⟨⟨_, rfl⟩, rfl⟩ ?_))))))
          refine Exists.intro _ (Exists.intro _ (Exists.intro _ (Exists.intro _ (Exists.intro _ (Exists.intro _ (Exists.intro _ (Exists.intro _ (Exists.intro _ (Exists.intro _ (Exists.intro _ (Exists.intro _ (Exists.intro _ (Exists.intro _ (Exists.intro _ (Exists.intro _ (Exists.intro _ (Exists.intro _ (Exists.intro _ (Exists.intro _ (Exists.intro _ (Exists.intro _ (Exists.intro _ (And.intro rfl (And.intro rfl (And.intro (by first | omega | assumption | exact q_rg_up (by assumption) (by omega) | exact q_rg_up (q_rg_up (by assumption) (by omega)) (by omega) | exact q_rg_cpy (by assumption) (by assumption)) (And.intro (by first | omega | assumption | exact q_rg_up (by assumption) (by omega) | exact q_rg_up (q_rg_up (by assumption) (by omega)) (by omega) | exact q_rg_cpy (by assumption) (by assumption)) (And.intro (by first | omega | assumption | exact q_rg_up (by assumption) (by omega) | exact q_rg_up (q_rg_up (by assumption) (by omega)) (by omega) | exact q_rg_cpy (by assumption) (by assumption)) (And.intro (by first | omega | assumption | exact q_rg_up (by assumption) (by omega) | exact q_rg_up (q_rg_up (by assumption) (by omega)) (by omega) | exact q_rg_cpy (by assumption) (by assumption)) (?_)))))))))))))))))))))))))))))
          intro x_ps_48 h48
          apply And.intro
          · intro h52
            intro z68 h68
            first | replace h68 := e_sub h68 (by omega) | replace h68 := e_rng h68
            refine Exists.intro [0, 3, 2, 4, 5, 6, 7, 1, 8, 9, 10, 11, 12, 13, 14, 15, 16, 17, 18, 19, 20, 21, 22, 23, 24, 25] (Exists.intro [q2 0, q1 _, q1 _] (Exists.intro ([.inr (12, [q1 _, q2 3, q2 4, q2 5, q2 6, q2 7, q2 2, q2 8, q2 9, q2 10, q1 _, q1 _, q1 _, q1 _, q1 _, q3 _, q1 _, q1 _, q1 _, q2 11, q2 12, q1 _, q1 _, q1 _, q1 _, q1 _, q1 _, q2 13, q1 _, q2 14, q2 1, q2 15, q2 16, q1 _, q2 17, q1 _, q2 18, q2 19, q2 20, q2 21, q2 22, q1 _, q2 23, q2 24, q2 25]), .inl (0, 700, .inl _), .inl (0, 600, .inl _)]) (And.intro rfl (And.intro rfl (And.intro rfl (And.intro ⟨⟨_, rfl⟩, rfl⟩ ?_))))))
            refine Exists.intro _ (Exists.intro _ (Exists.intro _ (Exists.intro _ (Exists.intro _ (Exists.intro _ (Exists.intro _ (Exists.intro _ (Exists.intro _ (Exists.intro _ (Exists.intro _ (Exists.intro _ (Exists.intro _ (Exists.intro _ (Exists.intro _ (Exists.intro _ (Exists.intro _ (Exists.intro _ (Exists.intro _ (Exists.intro _ (Exists.intro _ (Exists.intro _ (Exists.intro _ (Exists.intro _ (And.intro rfl (And.intro rfl (And.intro (by first | omega | assumption | exact q_rg_up (by assumption) (by omega) | exact q_rg_up (q_rg_up (by assumption) (by omega)) (by omega) | exact q_rg_cpy (by assumption) (by assumption)) (And.intro (by first | omega | assumption | exact q_rg_up (by assumption) (by omega) | exact q_rg_up (q_rg_up (by assumption) (by omega)) (by omega) | exact q_rg_cpy (by assumption) (by assumption)) (And.intro (by first | omega | assumption | exact q_rg_up (by assumption) (by omega) | exact q_rg_up (q_rg_up (by assumption) (by omega)) (by omega) | exact q_rg_cpy (by assumption) (by assumption)) (And.intro (by first | omega | assumption | exact q_rg_up (by assumption) (by omega) | exact q_rg_up (q_rg_up (by assumption) (by omega)) (by omega) | exact q_rg_cpy (by assumption) (by assumption)) (And.intro h48 (?_)))))))))))))))))))))))))))))))
            intro z70
            exact hQ _ _ _ _ _
          · intro h52
            apply And.intro
            · exact ⟨by omega, by omega⟩
            intro z60 h60
            exact hQ _ _ _ _ _
        · intro h41
          first | replace h38 := dj1 h38 h41 | replace h38 := dj0 h38 h41
          exact hQ _ _ _ _ _
