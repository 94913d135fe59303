theorem dG12_sumOf_0 : decode cX12_sumOf 0 = .ok (.iconst 0, 1) := by decide +kernel
theorem dG12_sumOf_1 : decode cX12_sumOf 1 = .ok (.istore_n 2, 1) := by decide +kernel
theorem dG12_sumOf_2 : decode cX12_sumOf 2 = .ok (.iconst 0, 1) := by decide +kernel
theorem dG12_sumOf_3 : decode cX12_sumOf 3 = .ok (.istore_n 3, 1) := by decide +kernel
theorem dG12_sumOf_4 : decode cX12_sumOf 4 = .ok (.iload_n 3, 1) := by decide +kernel
theorem dG12_sumOf_5 : decode cX12_sumOf 5 = .ok (.aload_n 0, 1) := by decide +kernel
theorem dG12_sumOf_6 : decode cX12_sumOf 6 = .ok (.getfield 303, 3) := by decide +kernel
theorem dG12_sumOf_9 : decode cX12_sumOf 9 = .ok (.if_icmp .ge 31, 3) := by decide +kernel
theorem dG12_sumOf_12 : decode cX12_sumOf 12 = .ok (.iload_n 2, 1) := by decide +kernel
theorem dG12_sumOf_13 : decode cX12_sumOf 13 = .ok (.iload_n 1, 1) := by decide +kernel
theorem dG12_sumOf_14 : decode cX12_sumOf 14 = .ok (.iload_n 3, 1) := by decide +kernel
theorem dG12_sumOf_15 : decode cX12_sumOf 15 = .ok (.invokestatic 92, 3) := by decide +kernel
theorem dG12_sumOf_18 : decode cX12_sumOf 18 = .ok (.ifCond .eq 13, 3) := by decide +kernel
theorem dG12_sumOf_21 : decode cX12_sumOf 21 = .ok (.aload_n 0, 1) := by decide +kernel
theorem dG12_sumOf_22 : decode cX12_sumOf 22 = .ok (.iconst 5, 1) := by decide +kernel
theorem dG12_sumOf_23 : decode cX12_sumOf 23 = .ok (.iload_n 3, 1) := by decide +kernel
theorem dG12_sumOf_24 : decode cX12_sumOf 24 = .ok (.iadd, 1) := by decide +kernel
theorem dG12_sumOf_25 : decode cX12_sumOf 25 = .ok (.invokevirtual 299, 3) := by decide +kernel
theorem dG12_sumOf_28 : decode cX12_sumOf 28 = .ok (.goto 4, 3) := by decide +kernel
theorem dG12_sumOf_31 : decode cX12_sumOf 31 = .ok (.iconst 0, 1) := by decide +kernel
theorem dG12_sumOf_32 : decode cX12_sumOf 32 = .ok (.iadd, 1) := by decide +kernel
theorem dG12_sumOf_33 : decode cX12_sumOf 33 = .ok (.istore_n 2, 1) := by decide +kernel
theorem dG12_sumOf_34 : decode cX12_sumOf 34 = .ok (.iinc 3 1, 3) := by decide +kernel
theorem dG12_sumOf_37 : decode cX12_sumOf 37 = .ok (.goto (-33), 3) := by decide +kernel
theorem dG12_sumOf_40 : decode cX12_sumOf 40 = .ok (.iload_n 2, 1) := by decide +kernel
theorem dG12_sumOf_41 : decode cX12_sumOf 41 = .ok (.ireturn, 1) := by decide +kernel
def is_G12_sumOf : Nat → List Nat := fun d => if d = 4 then [0, 1, 2, 3] else []
set_option maxRecDepth 100000 in
def b_G12_sumOf_32 (J : Nat → List qV → List qV → qW → Prop) (Q : qR) : qK := x_iadd (x_istore 2 (x_iinc 3 1 (x_cut [0, 1, 2, 3] (J 4))))
set_option maxRecDepth 100000 in
theorem s_G12_sumOf_32 {p : Program} {l : Launch} {e : Env} {R : Room} {s : State} {m : MethodId} {args : Array Value} {below : List Frame} {meth : Method} {c : Code} {nW : Nat} {dC : Nat → ClassId} {dI : Nat → Nat → Nat} {k : Nat → ClassId} {g : Nat → Nat} {A : Nat → Prop} {J : Nat → List qV → List qV → qW → Prop} {Q : qR} (X : q_X p R s m args meth c cX12_sumOf 4 nW 1 21 RX12 (some .int) dC dI k g A) (hJ : ∀ d : Nat, q_Sd p l e R s m args below meth c 4 nW dC dI k g A (MQ below (q_post (dC, dI) k g nW Q A) args s 0 0 A) d (x_cut (is_G12_sumOf d) (J d))) : q_Sd p l e R s m args below meth c 4 nW dC dI k g A (MQ below (q_post (dC, dI) k g nW Q A) args s 0 0 A) 32 (b_G12_sumOf_32 J Q) := by
  unfold b_G12_sumOf_32
  refine s_iadd X dG12_sumOf_32 ?_
  refine s_istore_n X rfl (by decide) dG12_sumOf_33 ?_
  refine s_iinc X (by decide) dG12_sumOf_34 ?_
  refine s_goto X (tgt := 4) dG12_sumOf_37 (by decide) ?_
  exact hJ 4
set_option maxRecDepth 100000 in
def b_G12_sumOf_4 (J : Nat → List qV → List qV → qW → Prop) (Q : qR) : qK := x_iload 3 (x_aload 0 (x_get 12 25 (x_icmp_ge (x_iload 2 (x_iret Q)) (x_iload 2 (x_iload 1 (x_iload 3 (x_callr none 2 spr_X12_has (x_if_eq (x_int 0 (b_G12_sumOf_32 J Q)) (x_aload 0 (x_int 5 (x_iload 3 (x_iadd (x_callr (some 12) 2 spr_X12_of (b_G12_sumOf_32 J Q))))))))))))))
set_option maxRecDepth 100000 in
theorem s_G12_sumOf_4 {p : Program} {l : Launch} {e : Env} {R : Room} {s : State} {m : MethodId} {args : Array Value} {below : List Frame} {meth : Method} {c : Code} {nW : Nat} {dC : Nat → ClassId} {dI : Nat → Nat → Nat} {k : Nat → ClassId} {g : Nat → Nat} {A : Nat → Prop} {J : Nat → List qV → List qV → qW → Prop} {Q : qR} (X : q_X p R s m args meth c cX12_sumOf 4 nW 1 21 RX12 (some .int) dC dI k g A) (hJ : ∀ d : Nat, q_Sd p l e R s m args below meth c 4 nW dC dI k g A (MQ below (q_post (dC, dI) k g nW Q A) args s 0 0 A) d (x_cut (is_G12_sumOf d) (J d))) : q_Sd p l e R s m args below meth c 4 nW dC dI k g A (MQ below (q_post (dC, dI) k g nW Q A) args s 0 0 A) 4 (b_G12_sumOf_4 J Q) := by
  unfold b_G12_sumOf_4
  refine s_iload_n X rfl dG12_sumOf_4 ?_
  refine s_aload_n X rfl dG12_sumOf_5 ?_
  refine s_get X (T := TX12) (C := RX12) (N := 45) tu_X12 rfl (by decide) tw_1022 dG12_sumOf_6 ?_
  refine s_icmp_ge X (tgt := 40) dG12_sumOf_9 (by decide) ?_ ?_
  · refine s_iload_n X rfl dG12_sumOf_40 ?_
    exact s_iret X dG12_sumOf_41
  · refine s_iload_n X rfl dG12_sumOf_12 ?_
    refine s_iload_n X rfl dG12_sumOf_13 ?_
    refine s_iload_n X rfl dG12_sumOf_14 ?_
    refine s_callSr X (m_X12_has l) tw_1233 tw_1234 tw_134 tw_1235 (by decide +kernel) ⟨by decide, by decide⟩ dG12_sumOf_15 ?_
    refine s_if_eq X (tgt := 31) dG12_sumOf_18 (by decide) ?_ ?_
    · refine s_iconst X ⟨by decide, by decide⟩ dG12_sumOf_31 ?_
      exact s_G12_sumOf_32 X hJ
    · refine s_aload_n X rfl dG12_sumOf_21 ?_
      refine s_iconst X ⟨by decide, by decide⟩ dG12_sumOf_22 ?_
      refine s_iload_n X rfl dG12_sumOf_23 ?_
      refine s_iadd X dG12_sumOf_24 ?_
      refine s_callVr X (m_X12_of l) tw_1189 tw_1190 tw_1603 tw_134 tw_1191 rfl (by decide +kernel) ⟨by decide, by decide⟩ dG12_sumOf_25 ?_
      refine s_goto X (tgt := 32) dG12_sumOf_28 (by decide) ?_
      exact s_G12_sumOf_32 X hJ
set_option maxRecDepth 100000 in
def b_G12_sumOf_0 (J : Nat → List qV → List qV → qW → Prop) (Q : qR) : qK := x_int 0 (x_istore 2 (x_int 0 (x_istore 3 (x_cut [0, 1, 2, 3] (J 4)))))
set_option maxRecDepth 100000 in
theorem s_G12_sumOf_0 {p : Program} {l : Launch} {e : Env} {R : Room} {s : State} {m : MethodId} {args : Array Value} {below : List Frame} {meth : Method} {c : Code} {nW : Nat} {dC : Nat → ClassId} {dI : Nat → Nat → Nat} {k : Nat → ClassId} {g : Nat → Nat} {A : Nat → Prop} {J : Nat → List qV → List qV → qW → Prop} {Q : qR} (X : q_X p R s m args meth c cX12_sumOf 4 nW 1 21 RX12 (some .int) dC dI k g A) (hJ : ∀ d : Nat, q_Sd p l e R s m args below meth c 4 nW dC dI k g A (MQ below (q_post (dC, dI) k g nW Q A) args s 0 0 A) d (x_cut (is_G12_sumOf d) (J d))) : q_Sd p l e R s m args below meth c 4 nW dC dI k g A (MQ below (q_post (dC, dI) k g nW Q A) args s 0 0 A) 0 (b_G12_sumOf_0 J Q) := by
  unfold b_G12_sumOf_0
  refine s_iconst X ⟨by decide, by decide⟩ dG12_sumOf_0 ?_
  refine s_istore_n X rfl (by decide) dG12_sumOf_1 ?_
  refine s_iconst X ⟨by decide, by decide⟩ dG12_sumOf_2 ?_
  refine s_istore_n X rfl (by decide) dG12_sumOf_3 ?_
  exact hJ 4

def spr_G12_sumOf : List qV → qW → (Option qV → Prop) → Prop := fun av w Q => ∃ (mco : Int) (mre : Int) (mle : Int) (mbe : Int) (mso : Int) (mva : Int) (mwo : Int) (mwr : Int) (mlf : Int) (mlp : Int) (mfp : Int) (mfd : Int) (mgo : Int) (mbo : Int) (mpe : Int) (mye : Int) (mpr : Int) (mld : Int) (msi : Int) (mse : Int) (bs : Nat → Int) (D : Nat → Int) (a : Int), av = [q2 0, q1 a] ∧ w = [.inr (12, [q1 mco, q2 2, q2 3, q2 4, q2 5, q2 6, q2 1, q2 7, q2 8, q2 9, q1 mre, q1 mle, q1 mbe, q1 mso, q1 mva, q3 mwo, q1 mwr, q1 mlf, q1 mlp, q2 10, q2 11, q1 mfp, q1 mfd, q1 mgo, q1 mbo, q1 mpe, q1 mye, q2 12, q1 mpr, q2 13, q2 14, q2 15, q2 16, q1 mld, q2 17, q1 msi, q2 18, q2 19, q2 20, q2 21, q2 22, q1 mse, q2 23, q2 24, q2 25]), .inl (0, 600, .inl bs)] ∧ (0 ≤ mbo ∧ mbo ≤ 1) ∧ (0 ≤ mpe ∧ mpe ≤ 8) ∧ (BI bs) ∧ (mpe = ofR bs mbo 0) ∧ (D = rwD bs (75 * mbo).toNat) ∧ (BK D) ∧ (∀ (r : Int) , r = smS D a mpe.toNat → Q (some (q1 r)))
def sp_G12_sumOf : qS := fun av w Q => spr_G12_sumOf av w (fun r => Q r w)
def I_G12_sumOf (mco : Int) (mre : Int) (mle : Int) (mbe : Int) (mso : Int) (mva : Int) (mwo : Int) (mwr : Int) (mlf : Int) (mlp : Int) (mfp : Int) (mfd : Int) (mgo : Int) (mbo : Int) (mpe : Int) (mye : Int) (mpr : Int) (mld : Int) (msi : Int) (mse : Int) (bs : Nat → Int) (D : Nat → Int) (a : Int) : Nat → Nat → List qV → List qV → qW → Prop := fun dz mz vz sz wz => if dz = 4 then (∃ (v2 : Int) (v3 : Int), vz = [q2 0, q1 a, q1 v2, q1 v3] ∧ sz = [] ∧ wz = [.inr (12, [q1 mco, q2 2, q2 3, q2 4, q2 5, q2 6, q2 1, q2 7, q2 8, q2 9, q1 mre, q1 mle, q1 mbe, q1 mso, q1 mva, q3 mwo, q1 mwr, q1 mlf, q1 mlp, q2 10, q2 11, q1 mfp, q1 mfd, q1 mgo, q1 mbo, q1 mpe, q1 mye, q2 12, q1 mpr, q2 13, q2 14, q2 15, q2 16, q1 mld, q2 17, q1 msi, q2 18, q2 19, q2 20, q2 21, q2 22, q1 mse, q2 23, q2 24, q2 25]), .inl (0, 600, .inl bs)] ∧ mz = (mpe - v3).toNat ∧ (0 ≤ v3 ∧ v3 ≤ mpe) ∧ (0 ≤ v2 ∧ v2 ≤ 99 * v3) ∧ (v2 = smS D a v3.toNat)) else False
set_option maxHeartbeats 4000000 in
set_option maxRecDepth 100000 in
theorem m_G12_sumOf (l : Launch) : q_M l yX12_sumOf cX12_sumOf 4 (some .int) 1 21 sp_G12_sumOf := by
  refine q_meth (by decide) (fun av w Q h => by obtain ⟨mco, mre, mle, mbe, mso, mva, mwo, mwr, mlf, mlp, mfp, mfd, mgo, mbo, mpe, mye, mpr, mld, msi, mse, bs, D, a, rfl, rfl, hbo, hpe, hbi, hpq, hD, hK, hQ⟩ := h; exact Nat.le_of_ble_eq_true rfl) ?_
  intro p e R s m args below meth c dC dI k g A av w Q hsp oka okw X
  obtain ⟨mco, mre, mle, mbe, mso, mva, mwo, mwr, mlf, mlp, mfp, mfd, mgo, mbo, mpe, mye, mpr, mld, msi, mse, bs, D, a, rfl, rfl, hbo, hpe, hbi, hpq, hD, hK, hQ⟩ := hsp
  have o_a : -2147483648 ≤ a ∧ a ≤ 2147483647 := oka _ (List.mem_of_getElem? (i := 1) rfl)
  refine s_mono (s_G12_sumOf_0 X (J := fun dz vz sz wz => ∃ mz, I_G12_sumOf mco mre mle mbe mso mva mwo mwr mlf mlp mfp mfd mgo mbo mpe mye mpr mld msi mse bs D a dz mz vz sz wz) (q_loopn (I_G12_sumOf mco mre mle mbe mso mva mwo mwr mlf mlp mfp mfd mgo mbo mpe mye mpr mld msi mse bs D a) (fun dz J => if dz = 4 then b_G12_sumOf_4 J Q else q_F) ?hs ?hv)) ?_
  case hs =>
    intro d J hJ
    by_cases h4 : d = 4
    · subst h4; exact s_G12_sumOf_4 X hJ
    simp only [h4, if_false]
    exact s_F
  case hv =>
    intro dz mz vz sz wz hI okv oks okw hlen
    by_cases h4 : dz = 4
    · subst h4
      obtain ⟨v2, v3, rfl, rfl, rfl, hn, hp, hv, hs9⟩ := hI
      have hu : mpe = D 0 := ob (y := 0) hD hbo hpq (by decide)
      have u8 := BK_p hK
      apply And.intro
      · intro h9
        exact hQ _ (by rw [show mpe = v3 by omega]; exact hs9)
      · intro h9
        refine Exists.intro [] (Exists.intro [q1 _, q1 _] (Exists.intro [] (And.intro rfl (And.intro rfl (And.intro rfl (And.intro trivial ?_))))))
        refine Exists.intro _ (Exists.intro _ (And.intro rfl (And.intro rfl (?_))))
        intro z15 h15
        apply And.intro
        · intro h18
          intro z32 h32
          first | replace h32 := e_add h32 (by omega) | replace h32 := e_rng h32
          intro z34 h34
          first | replace h34 := e_add h34 (by omega) | replace h34 := e_rng h34
          exact ⟨_, ⟨_, _, rfl, rfl, rfl, rfl, (by first | omega | assumption | exact q_rg_up (by assumption) (by omega) | exact q_rg_up (q_rg_up (by assumption) (by omega)) (by omega) | exact q_rg_cpy (by assumption) (by assumption)), (by first | omega | assumption | exact q_rg_up (by assumption) (by omega) | exact q_rg_up (q_rg_up (by assumption) (by omega)) (by omega) | exact q_rg_cpy (by assumption) (by assumption)), (by first | rfl | exact smS_s hs9 (by omega) (show z25 = _ by rw [if_pos (by omega)]; exact q25) (by omega) (by omega) | exact smS_s (x := 0) hs9 (by omega) (by rw [if_neg (by omega)]) (by omega) (by omega))⟩, by omega⟩
        · intro h18
          intro z24 h24
          first | replace h24 := e_add h24 (by omega) | replace h24 := e_rng h24
          refine Exists.intro [0, 1, 2, 3, 4, 5, 6, 7, 8, 9, 10, 11, 12, 13, 14, 15, 16, 17, 18, 19, 20, 21, 22, 23, 24, 25] (Exists.intro [q2 0, q1 _] (Exists.intro ([.inr (12, [q1 _, q2 2, q2 3, q2 4, q2 5, q2 6, q2 1, q2 7, q2 8, q2 9, q1 _, q1 _, q1 _, q1 _, q1 _, q3 _, q1 _, q1 _, q1 _, q2 10, q2 11, q1 _, q1 _, q1 _, q1 _, q1 _, q1 _, q2 12, q1 _, q2 13, q2 14, q2 15, q2 16, q1 _, q2 17, q1 _, q2 18, q2 19, q2 20, q2 21, q2 22, q1 _, q2 23, q2 24, q2 25]), .inl (0, 600, .inl _)]) (And.intro rfl (And.intro rfl (And.intro rfl (And.intro ⟨⟨_, rfl⟩, rfl⟩ ?_))))))
          refine Exists.intro _ (Exists.intro _ (Exists.intro _ (Exists.intro _ (Exists.intro _ (Exists.intro _ (Exists.intro _ (Exists.intro _ (Exists.intro _ (Exists.intro _ (Exists.intro _ (Exists.intro _ (Exists.intro _ (Exists.intro _ (Exists.intro _ (Exists.intro _ (Exists.intro _ (Exists.intro _ (Exists.intro _ (Exists.intro _ (Exists.intro _ (Exists.intro _ (And.intro rfl (And.intro rfl (And.intro (by first | omega | assumption | exact q_rg_up (by assumption) (by omega) | exact q_rg_up (q_rg_up (by assumption) (by omega)) (by omega) | exact q_rg_cpy (by assumption) (by assumption)) (And.intro (by first | omega | assumption | exact q_rg_up (by assumption) (by omega) | exact q_rg_up (q_rg_up (by assumption) (by omega)) (by omega) | exact q_rg_cpy (by assumption) (by assumption)) (And.intro (by first | omega | assumption | exact q_rg_up (by assumption) (by omega) | exact q_rg_up (q_rg_up (by assumption) (by omega)) (by omega) | exact q_rg_cpy (by assumption) (by assumption)) (?_)))))))))))))))))))))))))))
          intro z25 h25
          obtain ⟨h25, k25⟩ := h25
          first | replace k25 := OFQ_13 k25 (by omega) | replace k25 := OFQ_21 k25 (by omega) | clear k25
          have q25 := ob_k 5 hD hbo h25 (show z24 = 5 + v3 by omega) (by omega)
          have i25 := BK_i hK (i := v3.toNat) (by omega)
          intro z32 h32
          first | replace h32 := e_add h32 (by omega) | replace h32 := e_rng h32
          intro z34 h34
          first | replace h34 := e_add h34 (by omega) | replace h34 := e_rng h34
          exact ⟨_, ⟨_, _, rfl, rfl, rfl, rfl, (by first | omega | assumption | exact q_rg_up (by assumption) (by omega) | exact q_rg_up (q_rg_up (by assumption) (by omega)) (by omega) | exact q_rg_cpy (by assumption) (by assumption)), (by first | omega | assumption | exact q_rg_up (by assumption) (by omega) | exact q_rg_up (q_rg_up (by assumption) (by omega)) (by omega) | exact q_rg_cpy (by assumption) (by assumption)), (by first | rfl | exact smS_s hs9 (by omega) (show z25 = _ by rw [if_pos (by omega)]; exact q25) (by omega) (by omega) | exact smS_s (x := 0) hs9 (by omega) (by rw [if_neg (by omega)]) (by omega) (by omega))⟩, by omega⟩
    simp only [I_G12_sumOf, h4, if_false] at hI
  rintro lv st w' ⟨rfl, rfl, rfl⟩
  have hu : mpe = D 0 := ob (y := 0) hD hbo hpq (by decide)
  have u8 := BK_p hK
  exact ⟨_, _, _, rfl, rfl, rfl, rfl, (by first | omega | assumption | exact q_rg_up (by assumption) (by omega) | exact q_rg_up (q_rg_up (by assumption) (by omega)) (by omega) | exact q_rg_cpy (by assumption) (by assumption)), (by first | omega | assumption | exact q_rg_up (by assumption) (by omega) | exact q_rg_up (q_rg_up (by assumption) (by omega)) (by omega) | exact q_rg_cpy (by assumption) (by assumption)), (by first | rfl | exact smS_s hs9 (by omega) (show z25 = _ by rw [if_pos (by omega)]; exact q25) (by omega) (by omega) | exact smS_s (x := 0) hs9 (by omega) (by rw [if_neg (by omega)]) (by omega) (by omega))⟩

theorem dG12_family_0 : decode cX12_family 0 = .ok (.aload_n 0, 1) := by decide +kernel
theorem dG12_family_1 : decode cX12_family 1 = .ok (.iconst 0, 1) := by decide +kernel
theorem dG12_family_2 : decode cX12_family 2 = .ok (.putfield 88, 3) := by decide +kernel
theorem dG12_family_5 : decode cX12_family 5 = .ok (.aload_n 0, 1) := by decide +kernel
theorem dG12_family_6 : decode cX12_family 6 = .ok (.iload_n 1, 1) := by decide +kernel
theorem dG12_family_7 : decode cX12_family 7 = .ok (.invokevirtual 306, 3) := by decide +kernel
theorem dG12_family_10 : decode cX12_family 10 = .ok (.ifCond .eq 20, 3) := by decide +kernel
theorem dG12_family_13 : decode cX12_family 13 = .ok (.aload_n 0, 1) := by decide +kernel
theorem dG12_family_14 : decode cX12_family 14 = .ok (.iload_n 2, 1) := by decide +kernel
theorem dG12_family_15 : decode cX12_family 15 = .ok (.invokevirtual 309, 3) := by decide +kernel
theorem dG12_family_18 : decode cX12_family 18 = .ok (.ifCond .eq 12, 3) := by decide +kernel
theorem dG12_family_21 : decode cX12_family 21 = .ok (.iload_n 3, 1) := by decide +kernel
theorem dG12_family_22 : decode cX12_family 22 = .ok (.iconst 0, 1) := by decide +kernel
theorem dG12_family_23 : decode cX12_family 23 = .ok (.iconst 2, 1) := by decide +kernel
theorem dG12_family_24 : decode cX12_family 24 = .ok (.invokestatic 100, 3) := by decide +kernel
theorem dG12_family_27 : decode cX12_family 27 = .ok (.ifCond .ne 5, 3) := by decide +kernel
theorem dG12_family_30 : decode cX12_family 30 = .ok (.iconst (-1), 1) := by decide +kernel
theorem dG12_family_31 : decode cX12_family 31 = .ok (.ireturn, 1) := by decide +kernel
theorem dG12_family_32 : decode cX12_family 32 = .ok (.iconst 0, 1) := by decide +kernel
theorem dG12_family_33 : decode cX12_family 33 = .ok (.istore 4, 2) := by decide +kernel
theorem dG12_family_35 : decode cX12_family 35 = .ok (.iconst 0, 1) := by decide +kernel
theorem dG12_family_36 : decode cX12_family 36 = .ok (.istore 5, 2) := by decide +kernel
theorem dG12_family_38 : decode cX12_family 38 = .ok (.iconst 0, 1) := by decide +kernel
theorem dG12_family_39 : decode cX12_family 39 = .ok (.istore 6, 2) := by decide +kernel
theorem dG12_family_41 : decode cX12_family 41 = .ok (.iload 6, 2) := by decide +kernel
theorem dG12_family_43 : decode cX12_family 43 = .ok (.aload_n 0, 1) := by decide +kernel
theorem dG12_family_44 : decode cX12_family 44 = .ok (.getfield 303, 3) := by decide +kernel
theorem dG12_family_47 : decode cX12_family 47 = .ok (.if_icmp .ge 46, 3) := by decide +kernel
theorem dG12_family_50 : decode cX12_family 50 = .ok (.aload_n 0, 1) := by decide +kernel
theorem dG12_family_51 : decode cX12_family 51 = .ok (.iload 6, 2) := by decide +kernel
theorem dG12_family_53 : decode cX12_family 53 = .ok (.iload_n 2, 1) := by decide +kernel
theorem dG12_family_54 : decode cX12_family 54 = .ok (.invokevirtual 425, 3) := by decide +kernel
theorem dG12_family_57 : decode cX12_family 57 = .ok (.istore 7, 2) := by decide +kernel
theorem dG12_family_59 : decode cX12_family 59 = .ok (.iload 4, 2) := by decide +kernel
theorem dG12_family_61 : decode cX12_family 61 = .ok (.iload 7, 2) := by decide +kernel
theorem dG12_family_63 : decode cX12_family 63 = .ok (.iconst (-1), 1) := by decide +kernel
theorem dG12_family_64 : decode cX12_family 64 = .ok (.if_icmp .ne 7, 3) := by decide +kernel
theorem dG12_family_67 : decode cX12_family 67 = .ok (.iconst 0, 1) := by decide +kernel
theorem dG12_family_68 : decode cX12_family 68 = .ok (.goto 7, 3) := by decide +kernel
theorem dG12_family_71 : decode cX12_family 71 = .ok (.iconst 1, 1) := by decide +kernel
theorem dG12_family_72 : decode cX12_family 72 = .ok (.iload 6, 2) := by decide +kernel
theorem dG12_family_74 : decode cX12_family 74 = .ok (.ishl, 1) := by decide +kernel
theorem dG12_family_75 : decode cX12_family 75 = .ok (.ior, 1) := by decide +kernel
theorem dG12_family_76 : decode cX12_family 76 = .ok (.istore 4, 2) := by decide +kernel
theorem dG12_family_78 : decode cX12_family 78 = .ok (.iload 5, 2) := by decide +kernel
theorem dG12_family_80 : decode cX12_family 80 = .ok (.iload 7, 2) := by decide +kernel
theorem dG12_family_82 : decode cX12_family 82 = .ok (.invokestatic 162, 3) := by decide +kernel
theorem dG12_family_85 : decode cX12_family 85 = .ok (.istore 5, 2) := by decide +kernel
theorem dG12_family_87 : decode cX12_family 87 = .ok (.iinc 6 1, 3) := by decide +kernel
theorem dG12_family_90 : decode cX12_family 90 = .ok (.goto (-49), 3) := by decide +kernel
theorem dG12_family_93 : decode cX12_family 93 = .ok (.iload_n 3, 1) := by decide +kernel
theorem dG12_family_94 : decode cX12_family 94 = .ok (.ifCond .ne 8, 3) := by decide +kernel
theorem dG12_family_97 : decode cX12_family 97 = .ok (.iload 4, 2) := by decide +kernel
theorem dG12_family_99 : decode cX12_family 99 = .ok (.goto 19, 3) := by decide +kernel
theorem dG12_family_102 : decode cX12_family 102 = .ok (.iload_n 3, 1) := by decide +kernel
theorem dG12_family_103 : decode cX12_family 103 = .ok (.iconst 1, 1) := by decide +kernel
theorem dG12_family_104 : decode cX12_family 104 = .ok (.if_icmp .ne 12, 3) := by decide +kernel
theorem dG12_family_107 : decode cX12_family 107 = .ok (.aload_n 0, 1) := by decide +kernel
theorem dG12_family_108 : decode cX12_family 108 = .ok (.iload 4, 2) := by decide +kernel
theorem dG12_family_110 : decode cX12_family 110 = .ok (.invokevirtual 401, 3) := by decide +kernel
theorem dG12_family_113 : decode cX12_family 113 = .ok (.goto 5, 3) := by decide +kernel
theorem dG12_family_116 : decode cX12_family 116 = .ok (.iload 5, 2) := by decide +kernel
theorem dG12_family_118 : decode cX12_family 118 = .ok (.ireturn, 1) := by decide +kernel
def is_G12_family : Nat → List Nat := fun d => if d = 41 then [0, 2, 3, 4, 5, 6] else []
set_option maxRecDepth 100000 in
def b_G12_family_118 (J : Nat → List qV → List qV → qW → Prop) (Q : qR) : qK := x_iret Q
set_option maxRecDepth 100000 in
theorem s_G12_family_118 {p : Program} {l : Launch} {e : Env} {R : Room} {s : State} {m : MethodId} {args : Array Value} {below : List Frame} {meth : Method} {c : Code} {nW : Nat} {dC : Nat → ClassId} {dI : Nat → Nat → Nat} {k : Nat → ClassId} {g : Nat → Nat} {A : Nat → Prop} {J : Nat → List qV → List qV → qW → Prop} {Q : qR} (X : q_X p R s m args meth c cX12_family 8 nW 3 65 RX12 (some .int) dC dI k g A) (hJ : ∀ d : Nat, q_Sd p l e R s m args below meth c 8 nW dC dI k g A (MQ below (q_post (dC, dI) k g nW Q A) args s 0 0 A) d (x_cut (is_G12_family d) (J d))) : q_Sd p l e R s m args below meth c 8 nW dC dI k g A (MQ below (q_post (dC, dI) k g nW Q A) args s 0 0 A) 118 (b_G12_family_118 J Q) := by
  unfold b_G12_family_118
  exact s_iret X dG12_family_118
set_option maxRecDepth 100000 in
def b_G12_family_75 (J : Nat → List qV → List qV → qW → Prop) (Q : qR) : qK := x_ior (x_istore 4 (x_iload 5 (x_iload 7 (x_callr none 2 spr_X12_greater (x_istore 5 (x_iinc 6 1 (x_cut [0, 2, 3, 4, 5, 6] (J 41))))))))
set_option maxRecDepth 100000 in
theorem s_G12_family_75 {p : Program} {l : Launch} {e : Env} {R : Room} {s : State} {m : MethodId} {args : Array Value} {below : List Frame} {meth : Method} {c : Code} {nW : Nat} {dC : Nat → ClassId} {dI : Nat → Nat → Nat} {k : Nat → ClassId} {g : Nat → Nat} {A : Nat → Prop} {J : Nat → List qV → List qV → qW → Prop} {Q : qR} (X : q_X p R s m args meth c cX12_family 8 nW 3 65 RX12 (some .int) dC dI k g A) (hJ : ∀ d : Nat, q_Sd p l e R s m args below meth c 8 nW dC dI k g A (MQ below (q_post (dC, dI) k g nW Q A) args s 0 0 A) d (x_cut (is_G12_family d) (J d))) : q_Sd p l e R s m args below meth c 8 nW dC dI k g A (MQ below (q_post (dC, dI) k g nW Q A) args s 0 0 A) 75 (b_G12_family_75 J Q) := by
  unfold b_G12_family_75
  refine s_ior X dG12_family_75 ?_
  refine s_istore X (by decide) dG12_family_76 ?_
  refine s_iload X dG12_family_78 ?_
  refine s_iload X dG12_family_80 ?_
  refine s_callSr X (m_X12_greater l) tw_1118 tw_1119 tw_134 tw_1120 (by decide +kernel) ⟨by decide, by decide⟩ dG12_family_82 ?_
  refine s_istore X (by decide) dG12_family_85 ?_
  refine s_iinc X (by decide) dG12_family_87 ?_
  refine s_goto X (tgt := 41) dG12_family_90 (by decide) ?_
  exact hJ 41
set_option maxRecDepth 100000 in
def b_G12_family_41 (J : Nat → List qV → List qV → qW → Prop) (Q : qR) : qK := x_iload 6 (x_aload 0 (x_get 12 25 (x_icmp_ge (x_iload 3 (x_if_ne (x_iload 3 (x_int 1 (x_icmp_ne (x_iload 5 (b_G12_family_118 J Q)) (x_aload 0 (x_iload 4 (x_callr (some 12) 2 spr_G12_sumOf (b_G12_family_118 J Q))))))) (x_iload 4 (b_G12_family_118 J Q)))) (x_aload 0 (x_iload 6 (x_iload 2 (x_callr (some 12) 3 spr_G12_stepsUp (x_istore 7 (x_iload 4 (x_iload 7 (x_int (-1) (x_icmp_ne (x_int 1 (x_iload 6 (x_ishl (b_G12_family_75 J Q)))) (x_int 0 (b_G12_family_75 J Q))))))))))))))
set_option maxRecDepth 100000 in
theorem s_G12_family_41 {p : Program} {l : Launch} {e : Env} {R : Room} {s : State} {m : MethodId} {args : Array Value} {below : List Frame} {meth : Method} {c : Code} {nW : Nat} {dC : Nat → ClassId} {dI : Nat → Nat → Nat} {k : Nat → ClassId} {g : Nat → Nat} {A : Nat → Prop} {J : Nat → List qV → List qV → qW → Prop} {Q : qR} (X : q_X p R s m args meth c cX12_family 8 nW 3 65 RX12 (some .int) dC dI k g A) (hJ : ∀ d : Nat, q_Sd p l e R s m args below meth c 8 nW dC dI k g A (MQ below (q_post (dC, dI) k g nW Q A) args s 0 0 A) d (x_cut (is_G12_family d) (J d))) : q_Sd p l e R s m args below meth c 8 nW dC dI k g A (MQ below (q_post (dC, dI) k g nW Q A) args s 0 0 A) 41 (b_G12_family_41 J Q) := by
  unfold b_G12_family_41
  refine s_iload X dG12_family_41 ?_
  refine s_aload_n X rfl dG12_family_43 ?_
  refine s_get X (T := TX12) (C := RX12) (N := 45) tu_X12 rfl (by decide) tw_1022 dG12_family_44 ?_
  refine s_icmp_ge X (tgt := 93) dG12_family_47 (by decide) ?_ ?_
  · refine s_iload_n X rfl dG12_family_93 ?_
    refine s_if_ne X (tgt := 102) dG12_family_94 (by decide) ?_ ?_
    · refine s_iload_n X rfl dG12_family_102 ?_
      refine s_iconst X ⟨by decide, by decide⟩ dG12_family_103 ?_
      refine s_icmp_ne X (tgt := 116) dG12_family_104 (by decide) ?_ ?_
      · refine s_iload X dG12_family_116 ?_
        exact s_G12_family_118 X hJ
      · refine s_aload_n X rfl dG12_family_107 ?_
        refine s_iload X dG12_family_108 ?_
        refine s_callVr X (m_G12_sumOf l) tw_1301 tw_1302 tw_1620 tw_134 tw_1303 rfl (by decide +kernel) ⟨by decide, by decide⟩ dG12_family_110 ?_
        refine s_goto X (tgt := 118) dG12_family_113 (by decide) ?_
        exact s_G12_family_118 X hJ
    · refine s_iload X dG12_family_97 ?_
      refine s_goto X (tgt := 118) dG12_family_99 (by decide) ?_
      exact s_G12_family_118 X hJ
  · refine s_aload_n X rfl dG12_family_50 ?_
    refine s_iload X dG12_family_51 ?_
    refine s_iload_n X rfl dG12_family_53 ?_
    refine s_callVr X (m_G12_stepsUp l) tw_1340 tw_1341 tw_1616 tw_134 tw_1342 rfl (by decide +kernel) ⟨by decide, by decide⟩ dG12_family_54 ?_
    refine s_istore X (by decide) dG12_family_57 ?_
    refine s_iload X dG12_family_59 ?_
    refine s_iload X dG12_family_61 ?_
    refine s_iconst X ⟨by decide, by decide⟩ dG12_family_63 ?_
    refine s_icmp_ne X (tgt := 71) dG12_family_64 (by decide) ?_ ?_
    · refine s_iconst X ⟨by decide, by decide⟩ dG12_family_71 ?_
      refine s_iload X dG12_family_72 ?_
      refine s_ishl X dG12_family_74 ?_
      exact s_G12_family_75 X hJ
    · refine s_iconst X ⟨by decide, by decide⟩ dG12_family_67 ?_
      refine s_goto X (tgt := 75) dG12_family_68 (by decide) ?_
      exact s_G12_family_75 X hJ
set_option maxRecDepth 100000 in
def b_G12_family_30 (J : Nat → List qV → List qV → qW → Prop) (Q : qR) : qK := x_int (-1) (x_iret Q)
set_option maxRecDepth 100000 in
theorem s_G12_family_30 {p : Program} {l : Launch} {e : Env} {R : Room} {s : State} {m : MethodId} {args : Array Value} {below : List Frame} {meth : Method} {c : Code} {nW : Nat} {dC : Nat → ClassId} {dI : Nat → Nat → Nat} {k : Nat → ClassId} {g : Nat → Nat} {A : Nat → Prop} {J : Nat → List qV → List qV → qW → Prop} {Q : qR} (X : q_X p R s m args meth c cX12_family 8 nW 3 65 RX12 (some .int) dC dI k g A) (hJ : ∀ d : Nat, q_Sd p l e R s m args below meth c 8 nW dC dI k g A (MQ below (q_post (dC, dI) k g nW Q A) args s 0 0 A) d (x_cut (is_G12_family d) (J d))) : q_Sd p l e R s m args below meth c 8 nW dC dI k g A (MQ below (q_post (dC, dI) k g nW Q A) args s 0 0 A) 30 (b_G12_family_30 J Q) := by
  unfold b_G12_family_30
  refine s_iconst X ⟨by decide, by decide⟩ dG12_family_30 ?_
  exact s_iret X dG12_family_31
set_option maxRecDepth 100000 in
def b_G12_family_0 (J : Nat → List qV → List qV → qW → Prop) (Q : qR) : qK := x_aload 0 (x_int 0 (x_put 12 0 q_oki (x_nw (x_aload 0 (x_iload 1 (x_call (some 12) 2 sp_G12_hand (x_nw (x_if_eq (b_G12_family_30 J Q) (x_aload 0 (x_iload 2 (x_callr (some 12) 2 spr_X12_isPerson (x_if_eq (b_G12_family_30 J Q) (x_iload 3 (x_int 0 (x_int 2 (x_callr none 3 spr_X12_in (x_if_ne (x_int 0 (x_istore 4 (x_int 0 (x_istore 5 (x_int 0 (x_istore 6 (x_cut [0, 2, 3, 4, 5, 6] (J 41)))))))) (b_G12_family_30 J Q))))))))))))))))))
set_option maxRecDepth 100000 in
theorem s_G12_family_0 {p : Program} {l : Launch} {e : Env} {R : Room} {s : State} {m : MethodId} {args : Array Value} {below : List Frame} {meth : Method} {c : Code} {nW : Nat} {dC : Nat → ClassId} {dI : Nat → Nat → Nat} {k : Nat → ClassId} {g : Nat → Nat} {A : Nat → Prop} {J : Nat → List qV → List qV → qW → Prop} {Q : qR} (X : q_X p R s m args meth c cX12_family 8 nW 3 65 RX12 (some .int) dC dI k g A) (hJ : ∀ d : Nat, q_Sd p l e R s m args below meth c 8 nW dC dI k g A (MQ below (q_post (dC, dI) k g nW Q A) args s 0 0 A) d (x_cut (is_G12_family d) (J d))) : q_Sd p l e R s m args below meth c 8 nW dC dI k g A (MQ below (q_post (dC, dI) k g nW Q A) args s 0 0 A) 0 (b_G12_family_0 J Q) := by
  unfold b_G12_family_0
  refine s_aload_n X rfl dG12_family_0 ?_
  refine s_iconst X ⟨by decide, by decide⟩ dG12_family_1 ?_
  refine s_put X (T := TX12) (C := RX12) (N := 45) tu_X12 tyX12_ok nmX12 rfl (by decide) tw_997 rfl (by decide +kernel) q_oki_t dG12_family_2 ?_
  refine s_nw ?_
  refine s_aload_n X rfl dG12_family_5 ?_
  refine s_iload_n X rfl dG12_family_6 ?_
  refine s_callV X (m_G12_hand l) tw_1186 tw_1187 tw_1585 tw_134 tw_1188 rfl (by decide +kernel) ⟨by decide, by decide⟩ dG12_family_7 ?_
  refine s_nw ?_
  refine s_if_eq X (tgt := 30) dG12_family_10 (by decide) ?_ ?_
  · exact s_G12_family_30 X hJ
  · refine s_aload_n X rfl dG12_family_13 ?_
    refine s_iload_n X rfl dG12_family_14 ?_
    refine s_callVr X (m_X12_isPerson l) tw_1192 tw_1193 tw_1591 tw_134 tw_1194 rfl (by decide +kernel) ⟨by decide, by decide⟩ dG12_family_15 ?_
    refine s_if_eq X (tgt := 30) dG12_family_18 (by decide) ?_ ?_
    · exact s_G12_family_30 X hJ
    · refine s_iload_n X rfl dG12_family_21 ?_
      refine s_iconst X ⟨by decide, by decide⟩ dG12_family_22 ?_
      refine s_iconst X ⟨by decide, by decide⟩ dG12_family_23 ?_
      refine s_callSr X (m_X12_in l) tw_1054 tw_1055 tw_134 tw_1056 (by decide +kernel) ⟨by decide, by decide⟩ dG12_family_24 ?_
      refine s_if_ne X (tgt := 32) dG12_family_27 (by decide) ?_ ?_
      · refine s_iconst X ⟨by decide, by decide⟩ dG12_family_32 ?_
        refine s_istore X (by decide) dG12_family_33 ?_
        refine s_iconst X ⟨by decide, by decide⟩ dG12_family_35 ?_
        refine s_istore X (by decide) dG12_family_36 ?_
        refine s_iconst X ⟨by decide, by decide⟩ dG12_family_38 ?_
        refine s_istore X (by decide) dG12_family_39 ?_
        exact hJ 41
      · exact s_G12_family_30 X hJ

def sp_G12_family : qS := fun av w Q => ∃ (mco : Int) (mre : Int) (mle : Int) (mbe : Int) (mso : Int) (mva : Int) (mwo : Int) (mwr : Int) (mlf : Int) (mlp : Int) (mfp : Int) (mfd : Int) (mgo : Int) (mbo : Int) (mpe : Int) (mye : Int) (mpr : Int) (mld : Int) (msi : Int) (mse : Int) (mn : Nat → Int) (bs : Nat → Int) (a : Int) (b : Int) (cc : Int), av = [q2 0, q1 a, q1 b, q1 cc] ∧ w = [.inr (12, [q1 mco, q2 3, q2 4, q2 5, q2 6, q2 1, q2 2, q2 7, q2 8, q2 9, q1 mre, q1 mle, q1 mbe, q1 mso, q1 mva, q3 mwo, q1 mwr, q1 mlf, q1 mlp, q2 10, q2 11, q1 mfp, q1 mfd, q1 mgo, q1 mbo, q1 mpe, q1 mye, q2 12, q1 mpr, q2 13, q2 14, q2 15, q2 16, q1 mld, q2 17, q1 msi, q2 18, q2 19, q2 20, q2 21, q2 22, q1 mse, q2 23, q2 24, q2 25]), .inl (0, 16, .inl mn), .inl (0, 600, .inl bs)] ∧ (q_rg 0 2 mn) ∧ (BI bs) ∧ (RGM bs (mn (0 : Int).toNat)) ∧ (∀ (r : Int) (x_mco : Int) (x_mbo : Int) (x_mpe : Int), (bM (mn (0 : Int).toNat) bs a (-1) r (fun D z => FmA D b cc z)) → Q (some (q1 r)) ([.inr (12, [q1 x_mco, q2 3, q2 4, q2 5, q2 6, q2 1, q2 2, q2 7, q2 8, q2 9, q1 mre, q1 mle, q1 mbe, q1 mso, q1 mva, q3 mwo, q1 mwr, q1 mlf, q1 mlp, q2 10, q2 11, q1 mfp, q1 mfd, q1 mgo, q1 x_mbo, q1 x_mpe, q1 mye, q2 12, q1 mpr, q2 13, q2 14, q2 15, q2 16, q1 mld, q2 17, q1 msi, q2 18, q2 19, q2 20, q2 21, q2 22, q1 mse, q2 23, q2 24, q2 25]), .inl (0, 16, .inl mn), .inl (0, 600, .inl bs)]))
def I_G12_family (mco : Int) (mre : Int) (mle : Int) (mbe : Int) (mso : Int) (mva : Int) (mwo : Int) (mwr : Int) (mlf : Int) (mlp : Int) (mfp : Int) (mfd : Int) (mgo : Int) (mbo : Int) (mpe : Int) (mye : Int) (mpr : Int) (mld : Int) (msi : Int) (mse : Int) (mn : Nat → Int) (bs : Nat → Int) (a : Int) (b : Int) (cc : Int) : Nat → Nat → List qV → List qV → qW → Prop := fun dz mz vz sz wz => if dz = 41 then (∃ (y_mco : Int) (y_mbo : Int) (y_mpe : Int) (v4 : Int) (v5 : Int) (v6 : Int), vz = [q2 0, q1 b, q1 cc, q1 v4, q1 v5, q1 v6] ∧ sz = [] ∧ wz = [.inr (12, [q1 y_mco, q2 3, q2 4, q2 5, q2 6, q2 1, q2 2, q2 7, q2 8, q2 9, q1 mre, q1 mle, q1 mbe, q1 mso, q1 mva, q3 mwo, q1 mwr, q1 mlf, q1 mlp, q2 10, q2 11, q1 mfp, q1 mfd, q1 mgo, q1 y_mbo, q1 y_mpe, q1 mye, q2 12, q1 mpr, q2 13, q2 14, q2 15, q2 16, q1 mld, q2 17, q1 msi, q2 18, q2 19, q2 20, q2 21, q2 22, q1 mse, q2 23, q2 24, q2 25]), .inl (0, 16, .inl mn), .inl (0, 600, .inl bs)] ∧ mz = (y_mpe - v6).toNat ∧ (0 ≤ y_mbo ∧ y_mbo ≤ 1 ∧ 0 ≤ y_mpe ∧ y_mpe ≤ 8) ∧ (y_mpe = ofR bs y_mbo 0) ∧ (0 ≤ v6 ∧ v6 ≤ y_mpe ∧ 0 ≤ b ∧ b < y_mpe ∧ 0 ≤ cc ∧ cc ≤ 2) ∧ (y_mbo = a ∧ 0 ≤ a ∧ a < mn (0 : Int).toNat) ∧ (y_mpe = (rwD bs (75 * a).toNat) 0) ∧ (FmB (rwD bs (75 * a).toNat) b v6 v4) ∧ (FmX (rwD bs (75 * a).toNat) b v6 v5)) else False
set_option maxHeartbeats 4000000 in
set_option maxRecDepth 100000 in
theorem m_G12_family (l : Launch) : q_M l yX12_family cX12_family 8 (some .int) 3 65 sp_G12_family := by
  refine q_meth (by decide) (fun av w Q h => by obtain ⟨mco, mre, mle, mbe, mso, mva, mwo, mwr, mlf, mlp, mfp, mfd, mgo, mbo, mpe, mye, mpr, mld, msi, mse, mn, bs, a, b, cc, rfl, rfl, hmn, hbi, hrg, hQ⟩ := h; exact Nat.le_of_ble_eq_true rfl) ?_
  intro p e R s m args below meth c dC dI k g A av w Q hsp oka okw X
  obtain ⟨mco, mre, mle, mbe, mso, mva, mwo, mwr, mlf, mlp, mfp, mfd, mgo, mbo, mpe, mye, mpr, mld, msi, mse, mn, bs, a, b, cc, rfl, rfl, hmn, hbi, hrg, hQ⟩ := hsp
  have o_a : -2147483648 ≤ a ∧ a ≤ 2147483647 := oka _ (List.mem_of_getElem? (i := 1) rfl)
  have o_b : -2147483648 ≤ b ∧ b ≤ 2147483647 := oka _ (List.mem_of_getElem? (i := 2) rfl)
  have o_cc : -2147483648 ≤ cc ∧ cc ≤ 2147483647 := oka _ (List.mem_of_getElem? (i := 3) rfl)
  refine s_mono (s_G12_family_0 X (J := fun dz vz sz wz => ∃ mz, I_G12_family mco mre mle mbe mso mva mwo mwr mlf mlp mfp mfd mgo mbo mpe mye mpr mld msi mse mn bs a b cc dz mz vz sz wz) (q_loopn (I_G12_family mco mre mle mbe mso mva mwo mwr mlf mlp mfp mfd mgo mbo mpe mye mpr mld msi mse mn bs a b cc) (fun dz J => if dz = 41 then b_G12_family_41 J Q else q_F) ?hs ?hv)) ?_
  case hs =>
    intro d J hJ
    by_cases h41 : d = 41
    · subst h41; exact s_G12_family_41 X hJ
    simp only [h41, if_false]
    exact s_F
  case hv =>
    intro dz mz vz sz wz hI okv oks okw hlen
    by_cases h41 : dz = 41
    · subst h41
      obtain ⟨y_mco, y_mbo, y_mpe, v4, v5, v6, rfl, rfl, rfl, hn, hyb, hyq, hp, hya, hyd, hs9, hs8⟩ := hI
      have l9 := FmB_rg hs9 (by omega)
      apply And.intro
      · intro h47
        apply And.intro
        · intro h94
          apply And.intro
          · intro h104
            exact hQ _ _ _ _ (by first | exact Or.inr ⟨h7, rfl⟩ | exact Or.inl ⟨⟨h7.2.1.1, h7.2.1.2⟩, Or.inr ⟨fun q9 => (by obtain ⟨⟨q1, q2⟩, q3, q4⟩ := q9; omega), rfl⟩⟩ | exact Or.inl ⟨⟨hya.2.1, hya.2.2⟩, Or.inl ⟨⟨by omega, by omega⟩, Or.inl ⟨by omega, by rw [← hyd, show y_mpe = v6 by omega]; exact hs9⟩⟩⟩ | exact Or.inl ⟨⟨hya.2.1, hya.2.2⟩, Or.inl ⟨⟨by omega, by omega⟩, Or.inr (Or.inl ⟨by omega, by rw [← hyd]; exact Fm_BI (by rw [show y_mpe = v6 by omega]; exact hs9) (by omega) h110⟩)⟩⟩ | exact Or.inl ⟨⟨hya.2.1, hya.2.2⟩, Or.inl ⟨⟨by omega, by omega⟩, Or.inr (Or.inr ⟨by omega, by rw [← hyd, show y_mpe = v6 by omega]; exact hs8⟩)⟩⟩)
          · intro h104
            refine Exists.intro [0, 2, 3, 4, 5, 6, 1, 7, 8, 9, 10, 11, 12, 13, 14, 15, 16, 17, 18, 19, 20, 21, 22, 23, 24, 25] (Exists.intro [q2 0, q1 _] (Exists.intro ([.inr (12, [q1 _, q2 2, q2 3, q2 4, q2 5, q2 6, q2 1, q2 7, q2 8, q2 9, q1 _, q1 _, q1 _, q1 _, q1 _, q3 _, q1 _, q1 _, q1 _, q2 10, q2 11, q1 _, q1 _, q1 _, q1 _, q1 _, q1 _, q2 12, q1 _, q2 13, q2 14, q2 15, q2 16, q1 _, q2 17, q1 _, q2 18, q2 19, q2 20, q2 21, q2 22, q1 _, q2 23, q2 24, q2 25]), .inl (0, 600, .inl _)]) (And.intro rfl (And.intro rfl (And.intro rfl (And.intro ⟨⟨_, rfl⟩, rfl⟩ ?_))))))
            refine Exists.intro _ (Exists.intro _ (Exists.intro _ (Exists.intro _ (Exists.intro _ (Exists.intro _ (Exists.intro _ (Exists.intro _ (Exists.intro _ (Exists.intro _ (Exists.intro _ (Exists.intro _ (Exists.intro _ (Exists.intro _ (Exists.intro _ (Exists.intro _ (Exists.intro _ (Exists.intro _ (Exists.intro _ (Exists.intro _ (Exists.intro _ (Exists.intro _ (Exists.intro _ (And.intro rfl (And.intro rfl (And.intro (by first | omega | assumption | exact q_rg_up (by assumption) (by omega) | exact q_rg_up (q_rg_up (by assumption) (by omega)) (by omega) | exact q_rg_cpy (by assumption) (by assumption)) (And.intro (by first | omega | assumption | exact q_rg_up (by assumption) (by omega) | exact q_rg_up (q_rg_up (by assumption) (by omega)) (by omega) | exact q_rg_cpy (by assumption) (by assumption)) (And.intro (by first | omega | assumption | exact q_rg_up (by assumption) (by omega) | exact q_rg_up (q_rg_up (by assumption) (by omega)) (by omega) | exact q_rg_cpy (by assumption) (by assumption)) (And.intro hyq (And.intro rfl (And.intro (RGM_a hrg (by omega)) (?_)))))))))))))))))))))))))))))))
            intro z110 h110
            rw [hya.1] at h110
            exact hQ _ _ _ _ (by first | exact Or.inr ⟨h7, rfl⟩ | exact Or.inl ⟨⟨h7.2.1.1, h7.2.1.2⟩, Or.inr ⟨fun q9 => (by obtain ⟨⟨q1, q2⟩, q3, q4⟩ := q9; omega), rfl⟩⟩ | exact Or.inl ⟨⟨hya.2.1, hya.2.2⟩, Or.inl ⟨⟨by omega, by omega⟩, Or.inl ⟨by omega, by rw [← hyd, show y_mpe = v6 by omega]; exact hs9⟩⟩⟩ | exact Or.inl ⟨⟨hya.2.1, hya.2.2⟩, Or.inl ⟨⟨by omega, by omega⟩, Or.inr (Or.inl ⟨by omega, by rw [← hyd]; exact Fm_BI (by rw [show y_mpe = v6 by omega]; exact hs9) (by omega) h110⟩)⟩⟩ | exact Or.inl ⟨⟨hya.2.1, hya.2.2⟩, Or.inl ⟨⟨by omega, by omega⟩, Or.inr (Or.inr ⟨by omega, by rw [← hyd, show y_mpe = v6 by omega]; exact hs8⟩)⟩⟩)
        · intro h94
          exact hQ _ _ _ _ (by first | exact Or.inr ⟨h7, rfl⟩ | exact Or.inl ⟨⟨h7.2.1.1, h7.2.1.2⟩, Or.inr ⟨fun q9 => (by obtain ⟨⟨q1, q2⟩, q3, q4⟩ := q9; omega), rfl⟩⟩ | exact Or.inl ⟨⟨hya.2.1, hya.2.2⟩, Or.inl ⟨⟨by omega, by omega⟩, Or.inl ⟨by omega, by rw [← hyd, show y_mpe = v6 by omega]; exact hs9⟩⟩⟩ | exact Or.inl ⟨⟨hya.2.1, hya.2.2⟩, Or.inl ⟨⟨by omega, by omega⟩, Or.inr (Or.inl ⟨by omega, by rw [← hyd]; exact Fm_BI (by rw [show y_mpe = v6 by omega]; exact hs9) (by omega) h110⟩)⟩⟩ | exact Or.inl ⟨⟨hya.2.1, hya.2.2⟩, Or.inl ⟨⟨by omega, by omega⟩, Or.inr (Or.inr ⟨by omega, by rw [← hyd, show y_mpe = v6 by omega]; exact hs8⟩)⟩⟩)
      · intro h47
        refine Exists.intro [0, 2, 3, 4, 5, 6, 1, 7, 8, 9, 10, 11, 12, 13, 14, 15, 16, 17, 18, 19, 20, 21, 22, 23, 24, 25] (Exists.intro [q2 0, q1 _, q1 _] (Exists.intro ([.inr (12, [q1 _, q2 2, q2 3, q2 4, q2 5, q2 6, q2 1, q2 7, q2 8, q2 9, q1 _, q1 _, q1 _, q1 _, q1 _, q3 _, q1 _, q1 _, q1 _, q2 10, q2 11, q1 _, q1 _, q1 _, q1 _, q1 _, q1 _, q2 12, q1 _, q2 13, q2 14, q2 15, q2 16, q1 _, q2 17, q1 _, q2 18, q2 19, q2 20, q2 21, q2 22, q1 _, q2 23, q2 24, q2 25]), .inl (0, 600, .inl _)]) (And.intro rfl (And.intro rfl (And.intro rfl (And.intro ⟨⟨_, rfl⟩, rfl⟩ ?_))))))
        refine Exists.intro _ (Exists.intro _ (Exists.intro _ (Exists.intro _ (Exists.intro _ (Exists.intro _ (Exists.intro _ (Exists.intro _ (Exists.intro _ (Exists.intro _ (Exists.intro _ (Exists.intro _ (Exists.intro _ (Exists.intro _ (Exists.intro _ (Exists.intro _ (Exists.intro _ (Exists.intro _ (Exists.intro _ (Exists.intro _ (Exists.intro _ (Exists.intro _ (Exists.intro _ (And.intro rfl (And.intro rfl (And.intro (by first | omega | assumption | exact q_rg_up (by assumption) (by omega) | exact q_rg_up (q_rg_up (by assumption) (by omega)) (by omega) | exact q_rg_cpy (by assumption) (by assumption)) (And.intro (by first | omega | assumption | exact q_rg_up (by assumption) (by omega) | exact q_rg_up (q_rg_up (by assumption) (by omega)) (by omega) | exact q_rg_cpy (by assumption) (by assumption)) (And.intro (by first | omega | assumption | exact q_rg_up (by assumption) (by omega) | exact q_rg_up (q_rg_up (by assumption) (by omega)) (by omega) | exact q_rg_cpy (by assumption) (by assumption)) (And.intro (by first | omega | assumption | exact q_rg_up (by assumption) (by omega) | exact q_rg_up (q_rg_up (by assumption) (by omega)) (by omega) | exact q_rg_cpy (by assumption) (by assumption)) (And.intro (by first | omega | assumption | exact q_rg_up (by assumption) (by omega) | exact q_rg_up (q_rg_up (by assumption) (by omega)) (by omega) | exact q_rg_cpy (by assumption) (by assumption)) (And.intro (by first | omega | assumption | exact q_rg_up (by assumption) (by omega) | exact q_rg_up (q_rg_up (by assumption) (by omega)) (by omega) | exact q_rg_cpy (by assumption) (by assumption)) (?_)))))))))))))))))))))))))))))))
        intro z54 h54
        have r54 := ScR_rg h54
        have q54 := ob_sc (D := rwD bs (75 * y_mbo).toNat) rfl (by omega) h54
        rw [hya.1] at q54
        apply And.intro
        · intro h64
          intro z74 h74
          skip
          intro z75 h75
          first | have q75 := e_orJ h75 h74 | have q75 := e_or0 h75 (by omega)
          refine Exists.intro [] (Exists.intro [q1 _, q1 _] (Exists.intro [] (And.intro rfl (And.intro rfl (And.intro rfl (And.intro trivial ?_))))))
          refine Exists.intro _ (Exists.intro _ (And.intro rfl (And.intro rfl (?_))))
          intro z82 h82
          have m82 : z82 = max v5 z54 := by omega
          intro z87 h87
          first | replace h87 := e_add h87 (by omega) | replace h87 := e_rng h87
          exact ⟨_, ⟨_, _, _, _, _, _, rfl, rfl, rfl, rfl, (by first | omega | assumption | exact q_rg_up (by assumption) (by omega) | exact q_rg_up (q_rg_up (by assumption) (by omega)) (by omega) | exact q_rg_cpy (by assumption) (by assumption)), (by first | omega | assumption | exact q_rg_up (by assumption) (by omega) | exact q_rg_up (q_rg_up (by assumption) (by omega)) (by omega) | exact q_rg_cpy (by assumption) (by assumption)), (by first | omega | assumption | exact q_rg_up (by assumption) (by omega) | exact q_rg_up (q_rg_up (by assumption) (by omega)) (by omega) | exact q_rg_cpy (by assumption) (by assumption)), (by first | assumption | exact ⟨h7.1, h7.2.1.1, h7.2.1.2⟩), (by first | assumption | exact hu7), (by first | exact FmB_0 | exact FmB_s hs9 (by omega) q54 (by omega) (by first | exact Or.inr ⟨by omega, q75⟩ | exact Or.inl ⟨by omega, by omega⟩)), (by first | exact FmX_0 | exact FmX_s hs8 (by omega) q54 (by omega) m82)⟩, by omega⟩
        · intro h64
          intro z75 h75
          first | have q75 := e_orJ h75 h74 | have q75 := e_or0 h75 (by omega)
          refine Exists.intro [] (Exists.intro [q1 _, q1 _] (Exists.intro [] (And.intro rfl (And.intro rfl (And.intro rfl (And.intro trivial ?_))))))
          refine Exists.intro _ (Exists.intro _ (And.intro rfl (And.intro rfl (?_))))
          intro z82 h82
          have m82 : z82 = max v5 z54 := by omega
          intro z87 h87
          first | replace h87 := e_add h87 (by omega) | replace h87 := e_rng h87
          exact ⟨_, ⟨_, _, _, _, _, _, rfl, rfl, rfl, rfl, (by first | omega | assumption | exact q_rg_up (by assumption) (by omega) | exact q_rg_up (q_rg_up (by assumption) (by omega)) (by omega) | exact q_rg_cpy (by assumption) (by assumption)), (by first | omega | assumption | exact q_rg_up (by assumption) (by omega) | exact q_rg_up (q_rg_up (by assumption) (by omega)) (by omega) | exact q_rg_cpy (by assumption) (by assumption)), (by first | omega | assumption | exact q_rg_up (by assumption) (by omega) | exact q_rg_up (q_rg_up (by assumption) (by omega)) (by omega) | exact q_rg_cpy (by assumption) (by assumption)), (by first | assumption | exact ⟨h7.1, h7.2.1.1, h7.2.1.2⟩), (by first | assumption | exact hu7), (by first | exact FmB_0 | exact FmB_s hs9 (by omega) q54 (by omega) (by first | exact Or.inr ⟨by omega, q75⟩ | exact Or.inl ⟨by omega, by omega⟩)), (by first | exact FmX_0 | exact FmX_s hs8 (by omega) q54 (by omega) m82)⟩, by omega⟩
    simp only [I_G12_family, h41, if_false] at hI
  rintro lv st w' ⟨rfl, rfl, rfl⟩
  apply And.intro
  · exact trivial
  refine Exists.intro [0, 1, 2, 3, 4, 5, 6, 7, 8, 9, 10, 11, 12, 13, 14, 15, 16, 17, 18, 19, 20, 21, 22, 23, 24, 25] (Exists.intro [q2 0, q1 _] (Exists.intro ([.inr (12, [q1 _, q2 3, q2 4, q2 5, q2 6, q2 1, q2 2, q2 7, q2 8, q2 9, q1 _, q1 _, q1 _, q1 _, q1 _, q3 _, q1 _, q1 _, q1 _, q2 10, q2 11, q1 _, q1 _, q1 _, q1 _, q1 _, q1 _, q2 12, q1 _, q2 13, q2 14, q2 15, q2 16, q1 _, q2 17, q1 _, q2 18, q2 19, q2 20, q2 21, q2 22, q1 _, q2 23, q2 24, q2 25]), .inl (0, 16, .inl _), .inl (0, 600, .inl _)]) (And.intro rfl (And.intro rfl (And.intro rfl (And.intro ⟨⟨_, rfl⟩, rfl⟩ ?_))))))
  refine Exists.intro _ (Exists.intro _ (Exists.intro _ (Exists.intro _ (Exists.intro _ (Exists.intro _ (Exists.intro _ (Exists.intro _ (Exists.intro _ (Exists.intro _ (Exists.intro _ (Exists.intro _ (Exists.intro _ (Exists.intro _ (Exists.intro _ (Exists.intro _ (Exists.intro _ (Exists.intro _ (Exists.intro _ (Exists.intro _ (Exists.intro _ (Exists.intro _ (Exists.intro _ (And.intro rfl (And.intro rfl (And.intro (by first | omega | assumption | exact q_rg_up (by assumption) (by omega) | exact q_rg_up (q_rg_up (by assumption) (by omega)) (by omega) | exact q_rg_cpy (by assumption) (by assumption)) (And.intro (by first | omega | assumption | exact q_rg_up (by assumption) (by omega) | exact q_rg_up (q_rg_up (by assumption) (by omega)) (by omega) | exact q_rg_cpy (by assumption) (by assumption)) (?_)))))))))))))))))))))))))))
  intro z7 x_mbo_7 x_mpe_7 h7
  apply And.intro
  · intro h10
    first | replace h7 := dj1 h7 h10 | replace h7 := dj0 h7 h10
    exact hQ _ _ _ _ (by first | exact Or.inr ⟨h7, rfl⟩ | exact Or.inl ⟨⟨h7.2.1.1, h7.2.1.2⟩, Or.inr ⟨fun q9 => (by obtain ⟨⟨q1, q2⟩, q3, q4⟩ := q9; omega), rfl⟩⟩ | exact Or.inl ⟨⟨hya.2.1, hya.2.2⟩, Or.inl ⟨⟨by omega, by omega⟩, Or.inl ⟨by omega, by rw [← hyd, show y_mpe = v6 by omega]; exact hs9⟩⟩⟩ | exact Or.inl ⟨⟨hya.2.1, hya.2.2⟩, Or.inl ⟨⟨by omega, by omega⟩, Or.inr (Or.inl ⟨by omega, by rw [← hyd]; exact Fm_BI (by rw [show y_mpe = v6 by omega]; exact hs9) (by omega) h110⟩)⟩⟩ | exact Or.inl ⟨⟨hya.2.1, hya.2.2⟩, Or.inl ⟨⟨by omega, by omega⟩, Or.inr (Or.inr ⟨by omega, by rw [← hyd, show y_mpe = v6 by omega]; exact hs8⟩)⟩⟩)
  · intro h10
    first | replace h7 := dj1 h7 h10 | replace h7 := dj0 h7 h10
    have hu7 : x_mpe_7 = rwD bs (75 * x_mbo_7).toNat 0 := ob (y := 0) rfl (by omega) h7.2.2.2.2.2 (by decide)
    rw [show x_mbo_7 = a by omega] at hu7
    refine Exists.intro [0, 3, 4, 5, 6, 1, 2, 7, 8, 9, 10, 11, 12, 13, 14, 15, 16, 17, 18, 19, 20, 21, 22, 23, 24, 25] (Exists.intro [q2 0, q1 _] (Exists.intro ([.inr (12, [q1 _, q2 1, q2 2, q2 3, q2 4, q2 5, q2 6, q2 7, q2 8, q2 9, q1 _, q1 _, q1 _, q1 _, q1 _, q3 _, q1 _, q1 _, q1 _, q2 10, q2 11, q1 _, q1 _, q1 _, q1 _, q1 _, q1 _, q2 12, q1 _, q2 13, q2 14, q2 15, q2 16, q1 _, q2 17, q1 _, q2 18, q2 19, q2 20, q2 21, q2 22, q1 _, q2 23, q2 24, q2 25])]) (And.intro rfl (And.intro rfl (And.intro rfl (And.intro ⟨⟨_, rfl⟩, rfl⟩ ?_))))))
    refine Exists.intro _ (Exists.intro _ (Exists.intro _ (Exists.intro _ (Exists.intro _ (Exists.intro _ (Exists.intro _ (Exists.intro _ (Exists.intro _ (Exists.intro _ (Exists.intro _ (Exists.intro _ (Exists.intro _ (Exists.intro _ (Exists.intro _ (Exists.intro _ (Exists.intro _ (Exists.intro _ (Exists.intro _ (Exists.intro _ (Exists.intro _ (And.intro rfl (And.intro rfl (And.intro (by first | omega | assumption | exact q_rg_up (by assumption) (by omega) | exact q_rg_up (q_rg_up (by assumption) (by omega)) (by omega) | exact q_rg_cpy (by assumption) (by assumption)) (?_))))))))))))))))))))))))
    intro z15 h15
    apply And.intro
    · intro h18
      first | replace h15 := dj1 h15 h18 | replace h15 := dj0 h15 h18
      exact hQ _ _ _ _ (by first | exact Or.inr ⟨h7, rfl⟩ | exact Or.inl ⟨⟨h7.2.1.1, h7.2.1.2⟩, Or.inr ⟨fun q9 => (by obtain ⟨⟨q1, q2⟩, q3, q4⟩ := q9; omega), rfl⟩⟩ | exact Or.inl ⟨⟨hya.2.1, hya.2.2⟩, Or.inl ⟨⟨by omega, by omega⟩, Or.inl ⟨by omega, by rw [← hyd, show y_mpe = v6 by omega]; exact hs9⟩⟩⟩ | exact Or.inl ⟨⟨hya.2.1, hya.2.2⟩, Or.inl ⟨⟨by omega, by omega⟩, Or.inr (Or.inl ⟨by omega, by rw [← hyd]; exact Fm_BI (by rw [show y_mpe = v6 by omega]; exact hs9) (by omega) h110⟩)⟩⟩ | exact Or.inl ⟨⟨hya.2.1, hya.2.2⟩, Or.inl ⟨⟨by omega, by omega⟩, Or.inr (Or.inr ⟨by omega, by rw [← hyd, show y_mpe = v6 by omega]; exact hs8⟩)⟩⟩)
    · intro h18
      first | replace h15 := dj1 h15 h18 | replace h15 := dj0 h15 h18
      refine Exists.intro [] (Exists.intro [q1 _, q1 _, q1 _] (Exists.intro [] (And.intro rfl (And.intro rfl (And.intro rfl (And.intro trivial ?_))))))
      refine Exists.intro _ (Exists.intro _ (Exists.intro _ (And.intro rfl (And.intro rfl (?_)))))
      intro z24 h24
      apply And.intro
      · intro h27
        first | replace h24 := dj1 h24 h27 | replace h24 := dj0 h24 h27
        exact ⟨_, _, _, _, _, _, _, rfl, rfl, rfl, rfl, (by first | omega | assumption | exact q_rg_up (by assumption) (by omega) | exact q_rg_up (q_rg_up (by assumption) (by omega)) (by omega) | exact q_rg_cpy (by assumption) (by assumption)), (by first | omega | assumption | exact q_rg_up (by assumption) (by omega) | exact q_rg_up (q_rg_up (by assumption) (by omega)) (by omega) | exact q_rg_cpy (by assumption) (by assumption)), (by first | omega | assumption | exact q_rg_up (by assumption) (by omega) | exact q_rg_up (q_rg_up (by assumption) (by omega)) (by omega) | exact q_rg_cpy (by assumption) (by assumption)), (by first | assumption | exact ⟨h7.1, h7.2.1.1, h7.2.1.2⟩), (by first | assumption | exact hu7), (by first | exact FmB_0 | exact FmB_s hs9 (by omega) q54 (by omega) (by first | exact Or.inr ⟨by omega, q75⟩ | exact Or.inl ⟨by omega, by omega⟩)), (by first | exact FmX_0 | exact FmX_s hs8 (by omega) q54 (by omega) m82)⟩
      · intro h27
        first | replace h24 := dj1 h24 h27 | replace h24 := dj0 h24 h27
        exact hQ _ _ _ _ (by first | exact Or.inr ⟨h7, rfl⟩ | exact Or.inl ⟨⟨h7.2.1.1, h7.2.1.2⟩, Or.inr ⟨fun q9 => (by obtain ⟨⟨q1, q2⟩, q3, q4⟩ := q9; omega), rfl⟩⟩ | exact Or.inl ⟨⟨hya.2.1, hya.2.2⟩, Or.inl ⟨⟨by omega, by omega⟩, Or.inl ⟨by omega, by rw [← hyd, show y_mpe = v6 by omega]; exact hs9⟩⟩⟩ | exact Or.inl ⟨⟨hya.2.1, hya.2.2⟩, Or.inl ⟨⟨by omega, by omega⟩, Or.inr (Or.inl ⟨by omega, by rw [← hyd]; exact Fm_BI (by rw [show y_mpe = v6 by omega]; exact hs9) (by omega) h110⟩)⟩⟩ | exact Or.inl ⟨⟨hya.2.1, hya.2.2⟩, Or.inl ⟨⟨by omega, by omega⟩, Or.inr (Or.inr ⟨by omega, by rw [← hyd, show y_mpe = v6 by omega]; exact hs8⟩)⟩⟩)
