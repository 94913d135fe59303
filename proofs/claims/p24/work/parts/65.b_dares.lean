theorem stp_le {f : Nat → Int} {b : Nat} : ∀ (n : Nat) (o : Int), stp f b n o ≤ n := by
  intro n
  induction n with
  | zero => intro o; exact Nat.le_refl _
  | succ n ih =>
    intro o
    show (if o = -1 then 0 else 1 + stp f b n (f (b + 13 + o.toNat))) ≤ n + 1
    split
    · omega
    · have := ih (f (b + 13 + o.toNat)); omega

theorem dX12_daring_0 : decode cX12_daring 0 = .ok (.iconst 0, 1) := by decide +kernel
theorem dX12_daring_1 : decode cX12_daring 1 = .ok (.istore_n 3, 1) := by decide +kernel
theorem dX12_daring_2 : decode cX12_daring 2 = .ok (.iconst 0, 1) := by decide +kernel
theorem dX12_daring_3 : decode cX12_daring 3 = .ok (.istore 4, 2) := by decide +kernel
theorem dX12_daring_5 : decode cX12_daring 5 = .ok (.iload 4, 2) := by decide +kernel
theorem dX12_daring_7 : decode cX12_daring 7 = .ok (.aload_n 0, 1) := by decide +kernel
theorem dX12_daring_8 : decode cX12_daring 8 = .ok (.getfield 303, 3) := by decide +kernel
theorem dX12_daring_11 : decode cX12_daring 11 = .ok (.if_icmp .ge 46, 3) := by decide +kernel
theorem dX12_daring_14 : decode cX12_daring 14 = .ok (.iload_n 3, 1) := by decide +kernel
theorem dX12_daring_15 : decode cX12_daring 15 = .ok (.bipush 10, 2) := by decide +kernel
theorem dX12_daring_17 : decode cX12_daring 17 = .ok (.aload_n 0, 1) := by decide +kernel
theorem dX12_daring_18 : decode cX12_daring 18 = .ok (.bipush 43, 2) := by decide +kernel
theorem dX12_daring_20 : decode cX12_daring 20 = .ok (.iconst 4, 1) := by decide +kernel
theorem dX12_daring_21 : decode cX12_daring 21 = .ok (.iload 4, 2) := by decide +kernel
theorem dX12_daring_23 : decode cX12_daring 23 = .ok (.imul, 1) := by decide +kernel
theorem dX12_daring_24 : decode cX12_daring 24 = .ok (.iadd, 1) := by decide +kernel
theorem dX12_daring_25 : decode cX12_daring 25 = .ok (.iload_n 1, 1) := by decide +kernel
theorem dX12_daring_26 : decode cX12_daring 26 = .ok (.iadd, 1) := by decide +kernel
theorem dX12_daring_27 : decode cX12_daring 27 = .ok (.invokevirtual 299, 3) := by decide +kernel
theorem dX12_daring_30 : decode cX12_daring 30 = .ok (.imul, 1) := by decide +kernel
theorem dX12_daring_31 : decode cX12_daring 31 = .ok (.iload_n 2, 1) := by decide +kernel
theorem dX12_daring_32 : decode cX12_daring 32 = .ok (.aload_n 0, 1) := by decide +kernel
theorem dX12_daring_33 : decode cX12_daring 33 = .ok (.iconst 2, 1) := by decide +kernel
theorem dX12_daring_34 : decode cX12_daring 34 = .ok (.invokevirtual 299, 3) := by decide +kernel
theorem dX12_daring_37 : decode cX12_daring 37 = .ok (.imul, 1) := by decide +kernel
theorem dX12_daring_38 : decode cX12_daring 38 = .ok (.if_icmp .le 10, 3) := by decide +kernel
theorem dX12_daring_41 : decode cX12_daring 41 = .ok (.iconst 1, 1) := by decide +kernel
theorem dX12_daring_42 : decode cX12_daring 42 = .ok (.iload 4, 2) := by decide +kernel
theorem dX12_daring_44 : decode cX12_daring 44 = .ok (.ishl, 1) := by decide +kernel
theorem dX12_daring_45 : decode cX12_daring 45 = .ok (.goto 4, 3) := by decide +kernel
theorem dX12_daring_48 : decode cX12_daring 48 = .ok (.iconst 0, 1) := by decide +kernel
theorem dX12_daring_49 : decode cX12_daring 49 = .ok (.ior, 1) := by decide +kernel
theorem dX12_daring_50 : decode cX12_daring 50 = .ok (.istore_n 3, 1) := by decide +kernel
theorem dX12_daring_51 : decode cX12_daring 51 = .ok (.iinc 4 1, 3) := by decide +kernel
theorem dX12_daring_54 : decode cX12_daring 54 = .ok (.goto (-49), 3) := by decide +kernel
theorem dX12_daring_57 : decode cX12_daring 57 = .ok (.iload_n 3, 1) := by decide +kernel
theorem dX12_daring_58 : decode cX12_daring 58 = .ok (.ireturn, 1) := by decide +kernel
def is_X12_daring : Nat → List Nat := fun d => if d = 5 then [0, 1, 2, 3, 4] else []
set_option maxRecDepth 100000 in
def b_X12_daring_49 (J : Nat → List qV → List qV → qW → Prop) (Q : qR) : qK := x_ior (x_istore 3 (x_iinc 4 1 (x_cut [0, 1, 2, 3, 4] (J 5))))
set_option maxRecDepth 100000 in
theorem s_X12_daring_49 {p : Program} {l : Launch} {e : Env} {R : Room} {s : State} {m : MethodId} {args : Array Value} {below : List Frame} {meth : Method} {c : Code} {nW : Nat} {dC : Nat → ClassId} {dI : Nat → Nat → Nat} {k : Nat → ClassId} {g : Nat → Nat} {A : Nat → Prop} {J : Nat → List qV → List qV → qW → Prop} {Q : qR} (X : q_X p R s m args meth c cX12_daring 5 nW 1 21 RX12 (some .int) dC dI k g A) (hJ : ∀ d : Nat, q_Sd p l e R s m args below meth c 5 nW dC dI k g A (MQ below (q_post (dC, dI) k g nW Q A) args s 0 0 A) d (x_cut (is_X12_daring d) (J d))) : q_Sd p l e R s m args below meth c 5 nW dC dI k g A (MQ below (q_post (dC, dI) k g nW Q A) args s 0 0 A) 49 (b_X12_daring_49 J Q) := by
  unfold b_X12_daring_49
  refine s_ior X dX12_daring_49 ?_
  refine s_istore_n X rfl (by decide) dX12_daring_50 ?_
  refine s_iinc X (by decide) dX12_daring_51 ?_
  refine s_goto X (tgt := 5) dX12_daring_54 (by decide) ?_
  exact hJ 5
set_option maxRecDepth 100000 in
def b_X12_daring_44 (J : Nat → List qV → List qV → qW → Prop) (Q : qR) : qK := x_ishl (b_X12_daring_49 J Q)
set_option maxRecDepth 100000 in
theorem s_X12_daring_44 {p : Program} {l : Launch} {e : Env} {R : Room} {s : State} {m : MethodId} {args : Array Value} {below : List Frame} {meth : Method} {c : Code} {nW : Nat} {dC : Nat → ClassId} {dI : Nat → Nat → Nat} {k : Nat → ClassId} {g : Nat → Nat} {A : Nat → Prop} {J : Nat → List qV → List qV → qW → Prop} {Q : qR} (X : q_X p R s m args meth c cX12_daring 5 nW 1 21 RX12 (some .int) dC dI k g A) (hJ : ∀ d : Nat, q_Sd p l e R s m args below meth c 5 nW dC dI k g A (MQ below (q_post (dC, dI) k g nW Q A) args s 0 0 A) d (x_cut (is_X12_daring d) (J d))) : q_Sd p l e R s m args below meth c 5 nW dC dI k g A (MQ below (q_post (dC, dI) k g nW Q A) args s 0 0 A) 44 (b_X12_daring_44 J Q) := by
  unfold b_X12_daring_44
  refine s_ishl X dX12_daring_44 ?_
  refine s_goto X (tgt := 49) dX12_daring_45 (by decide) ?_
  exact s_X12_daring_49 X hJ
set_option maxRecDepth 100000 in
def b_X12_daring_5 (J : Nat → List qV → List qV → qW → Prop) (Q : qR) : qK := x_iload 4 (x_aload 0 (x_get 12 25 (x_icmp_ge (x_iload 3 (x_iret Q)) (x_iload 3 (x_int 10 (x_aload 0 (x_int 43 (x_int 4 (x_iload 4 (x_imul (x_iadd (x_iload 1 (x_iadd (x_callr (some 12) 2 spr_X12_of (x_imul (x_iload 2 (x_aload 0 (x_int 2 (x_callr (some 12) 2 spr_X12_of (x_imul (x_icmp_le (x_int 0 (b_X12_daring_49 J Q)) (x_int 1 (x_iload 4 (b_X12_daring_44 J Q))))))))))))))))))))))))
set_option maxRecDepth 100000 in
theorem s_X12_daring_5 {p : Program} {l : Launch} {e : Env} {R : Room} {s : State} {m : MethodId} {args : Array Value} {below : List Frame} {meth : Method} {c : Code} {nW : Nat} {dC : Nat → ClassId} {dI : Nat → Nat → Nat} {k : Nat → ClassId} {g : Nat → Nat} {A : Nat → Prop} {J : Nat → List qV → List qV → qW → Prop} {Q : qR} (X : q_X p R s m args meth c cX12_daring 5 nW 1 21 RX12 (some .int) dC dI k g A) (hJ : ∀ d : Nat, q_Sd p l e R s m args below meth c 5 nW dC dI k g A (MQ below (q_post (dC, dI) k g nW Q A) args s 0 0 A) d (x_cut (is_X12_daring d) (J d))) : q_Sd p l e R s m args below meth c 5 nW dC dI k g A (MQ below (q_post (dC, dI) k g nW Q A) args s 0 0 A) 5 (b_X12_daring_5 J Q) := by
  unfold b_X12_daring_5
  refine s_iload X dX12_daring_5 ?_
  refine s_aload_n X rfl dX12_daring_7 ?_
  refine s_get X (T := TX12) (C := RX12) (N := 45) tu_X12 rfl (by decide) tw_1022 dX12_daring_8 ?_
  refine s_icmp_ge X (tgt := 57) dX12_daring_11 (by decide) ?_ ?_
  · refine s_iload_n X rfl dX12_daring_57 ?_
    exact s_iret X dX12_daring_58
  · refine s_iload_n X rfl dX12_daring_14 ?_
    refine s_bipush X ⟨by decide, by decide⟩ (by decide) dX12_daring_15 ?_
    refine s_aload_n X rfl dX12_daring_17 ?_
    refine s_bipush X ⟨by decide, by decide⟩ (by decide) dX12_daring_18 ?_
    refine s_iconst X ⟨by decide, by decide⟩ dX12_daring_20 ?_
    refine s_iload X dX12_daring_21 ?_
    refine s_imul X dX12_daring_23 ?_
    refine s_iadd X dX12_daring_24 ?_
    refine s_iload_n X rfl dX12_daring_25 ?_
    refine s_iadd X dX12_daring_26 ?_
    refine s_callVr X (m_X12_of l) tw_1189 tw_1190 tw_1603 tw_134 tw_1191 rfl (by decide +kernel) ⟨by decide, by decide⟩ dX12_daring_27 ?_
    refine s_imul X dX12_daring_30 ?_
    refine s_iload_n X rfl dX12_daring_31 ?_
    refine s_aload_n X rfl dX12_daring_32 ?_
    refine s_iconst X ⟨by decide, by decide⟩ dX12_daring_33 ?_
    refine s_callVr X (m_X12_of l) tw_1189 tw_1190 tw_1603 tw_134 tw_1191 rfl (by decide +kernel) ⟨by decide, by decide⟩ dX12_daring_34 ?_
    refine s_imul X dX12_daring_37 ?_
    refine s_icmp_le X (tgt := 48) dX12_daring_38 (by decide) ?_ ?_
    · refine s_iconst X ⟨by decide, by decide⟩ dX12_daring_48 ?_
      exact s_X12_daring_49 X hJ
    · refine s_iconst X ⟨by decide, by decide⟩ dX12_daring_41 ?_
      refine s_iload X dX12_daring_42 ?_
      exact s_X12_daring_44 X hJ
set_option maxRecDepth 100000 in
def b_X12_daring_0 (J : Nat → List qV → List qV → qW → Prop) (Q : qR) : qK := x_int 0 (x_istore 3 (x_int 0 (x_istore 4 (x_cut [0, 1, 2, 3, 4] (J 5)))))
set_option maxRecDepth 100000 in
theorem s_X12_daring_0 {p : Program} {l : Launch} {e : Env} {R : Room} {s : State} {m : MethodId} {args : Array Value} {below : List Frame} {meth : Method} {c : Code} {nW : Nat} {dC : Nat → ClassId} {dI : Nat → Nat → Nat} {k : Nat → ClassId} {g : Nat → Nat} {A : Nat → Prop} {J : Nat → List qV → List qV → qW → Prop} {Q : qR} (X : q_X p R s m args meth c cX12_daring 5 nW 1 21 RX12 (some .int) dC dI k g A) (hJ : ∀ d : Nat, q_Sd p l e R s m args below meth c 5 nW dC dI k g A (MQ below (q_post (dC, dI) k g nW Q A) args s 0 0 A) d (x_cut (is_X12_daring d) (J d))) : q_Sd p l e R s m args below meth c 5 nW dC dI k g A (MQ below (q_post (dC, dI) k g nW Q A) args s 0 0 A) 0 (b_X12_daring_0 J Q) := by
  unfold b_X12_daring_0
  refine s_iconst X ⟨by decide, by decide⟩ dX12_daring_0 ?_
  refine s_istore_n X rfl (by decide) dX12_daring_1 ?_
  refine s_iconst X ⟨by decide, by decide⟩ dX12_daring_2 ?_
  refine s_istore X (by decide) dX12_daring_3 ?_
  exact hJ 5

def spr_X12_daring : List qV → qW → (Option qV → Prop) → Prop := fun av w Q => ∃ (mco : Int) (mre : Int) (mle : Int) (mbe : Int) (mso : Int) (mva : Int) (mwo : Int) (mwr : Int) (mlf : Int) (mlp : Int) (mfp : Int) (mfd : Int) (mgo : Int) (mbo : Int) (mpe : Int) (mye : Int) (mpr : Int) (mld : Int) (msi : Int) (mse : Int) (bs : Nat → Int) (a : Int) (b : Int), av = [q2 0, q1 a, q1 b] ∧ w = [.inr (12, [q1 mco, q2 2, q2 3, q2 4, q2 5, q2 6, q2 1, q2 7, q2 8, q2 9, q1 mre, q1 mle, q1 mbe, q1 mso, q1 mva, q3 mwo, q1 mwr, q1 mlf, q1 mlp, q2 10, q2 11, q1 mfp, q1 mfd, q1 mgo, q1 mbo, q1 mpe, q1 mye, q2 12, q1 mpr, q2 13, q2 14, q2 15, q2 16, q1 mld, q2 17, q1 msi, q2 18, q2 19, q2 20, q2 21, q2 22, q1 mse, q2 23, q2 24, q2 25]), .inl (0, 600, .inl bs)] ∧ (0 ≤ mbo ∧ mbo ≤ 1) ∧ (0 ≤ mpe ∧ mpe ≤ 8) ∧ (BI bs) ∧ (0 ≤ a ∧ a ≤ 3) ∧ (∀ (r : Int) , Q (some (q1 r)))
def sp_X12_daring : qS := fun av w Q => spr_X12_daring av w (fun r => Q r w)
def I_X12_daring (mco : Int) (mre : Int) (mle : Int) (mbe : Int) (mso : Int) (mva : Int) (mwo : Int) (mwr : Int) (mlf : Int) (mlp : Int) (mfp : Int) (mfd : Int) (mgo : Int) (mbo : Int) (mpe : Int) (mye : Int) (mpr : Int) (mld : Int) (msi : Int) (mse : Int) (bs : Nat → Int) (a : Int) (b : Int) : Nat → Nat → List qV → List qV → qW → Prop := fun dz mz vz sz wz => if dz = 5 then (∃ (v3 : Int) (v4 : Int), vz = [q2 0, q1 a, q1 b, q1 v3, q1 v4] ∧ sz = [] ∧ wz = [.inr (12, [q1 mco, q2 2, q2 3, q2 4, q2 5, q2 6, q2 1, q2 7, q2 8, q2 9, q1 mre, q1 mle, q1 mbe, q1 mso, q1 mva, q3 mwo, q1 mwr, q1 mlf, q1 mlp, q2 10, q2 11, q1 mfp, q1 mfd, q1 mgo, q1 mbo, q1 mpe, q1 mye, q2 12, q1 mpr, q2 13, q2 14, q2 15, q2 16, q1 mld, q2 17, q1 msi, q2 18, q2 19, q2 20, q2 21, q2 22, q1 mse, q2 23, q2 24, q2 25]), .inl (0, 600, .inl bs)] ∧ mz = (mpe - v4).toNat ∧ (0 ≤ v4 ∧ v4 ≤ mpe)) else False
set_option maxHeartbeats 4000000 in
set_option maxRecDepth 100000 in
theorem m_X12_daring (l : Launch) : q_M l yX12_daring cX12_daring 5 (some .int) 1 21 sp_X12_daring := by
  refine q_meth (by decide) (fun av w Q h => by obtain ⟨mco, mre, mle, mbe, mso, mva, mwo, mwr, mlf, mlp, mfp, mfd, mgo, mbo, mpe, mye, mpr, mld, msi, mse, bs, a, b, rfl, rfl, hbo, hpe, hbi, ha, hQ⟩ := h; exact Nat.le_of_ble_eq_true rfl) ?_
  intro p e R s m args below meth c dC dI k g A av w Q hsp oka okw X
  obtain ⟨mco, mre, mle, mbe, mso, mva, mwo, mwr, mlf, mlp, mfp, mfd, mgo, mbo, mpe, mye, mpr, mld, msi, mse, bs, a, b, rfl, rfl, hbo, hpe, hbi, ha, hQ⟩ := hsp
  have o_a : -2147483648 ≤ a ∧ a ≤ 2147483647 := oka _ (List.mem_of_getElem? (i := 1) rfl)
  have o_b : -2147483648 ≤ b ∧ b ≤ 2147483647 := oka _ (List.mem_of_getElem? (i := 2) rfl)
  refine s_mono (s_X12_daring_0 X (J := fun dz vz sz wz => ∃ mz, I_X12_daring mco mre mle mbe mso mva mwo mwr mlf mlp mfp mfd mgo mbo mpe mye mpr mld msi mse bs a b dz mz vz sz wz) (q_loopn (I_X12_daring mco mre mle mbe mso mva mwo mwr mlf mlp mfp mfd mgo mbo mpe mye mpr mld msi mse bs a b) (fun dz J => if dz = 5 then b_X12_daring_5 J Q else q_F) ?hs ?hv)) ?_
  case hs =>
    intro d J hJ
    by_cases h5 : d = 5
    · subst h5; exact s_X12_daring_5 X hJ
    simp only [h5, if_false]
    exact s_F
  case hv =>
    intro dz mz vz sz wz hI okv oks okw hlen
    by_cases h5 : dz = 5
    · subst h5
      obtain ⟨v3, v4, rfl, rfl, rfl, hn, hp⟩ := hI
      apply And.intro
      · intro h11
        exact hQ _
      · intro h11
        intro z23 h23
        first | replace h23 := e_mul h23 (by omega) | replace h23 := e_rng h23
        intro z24 h24
        first | replace h24 := e_add h24 (by omega) | replace h24 := e_rng h24
        intro z26 h26
        first | replace h26 := e_add h26 (by omega) | replace h26 := e_rng h26
        refine Exists.intro [0, 1, 2, 3, 4, 5, 6, 7, 8, 9, 10, 11, 12, 13, 14, 15, 16, 17, 18, 19, 20, 21, 22, 23, 24, 25] (Exists.intro [q2 0, q1 _] (Exists.intro ([.inr (12, [q1 _, q2 2, q2 3, q2 4, q2 5, q2 6, q2 1, q2 7, q2 8, q2 9, q1 _, q1 _, q1 _, q1 _, q1 _, q3 _, q1 _, q1 _, q1 _, q2 10, q2 11, q1 _, q1 _, q1 _, q1 _, q1 _, q1 _, q2 12, q1 _, q2 13, q2 14, q2 15, q2 16, q1 _, q2 17, q1 _, q2 18, q2 19, q2 20, q2 21, q2 22, q1 _, q2 23, q2 24, q2 25]), .inl (0, 600, .inl _)]) (And.intro rfl (And.intro rfl (And.intro rfl (And.intro ⟨⟨_, rfl⟩, rfl⟩ ?_))))))
        refine Exists.intro _ (Exists.intro _ (Exists.intro _ (Exists.intro _ (Exists.intro _ (Exists.intro _ (Exists.intro _ (Exists.intro _ (Exists.intro _ (Exists.intro _ (Exists.intro _ (Exists.intro _ (Exists.intro _ (Exists.intro _ (Exists.intro _ (Exists.intro _ (Exists.intro _ (Exists.intro _ (Exists.intro _ (Exists.intro _ (Exists.intro _ (Exists.intro _ (And.intro rfl (And.intro rfl (And.intro (by first | omega | assumption | exact q_rg_up (by assumption) (by omega) | exact q_rg_up (q_rg_up (by assumption) (by omega)) (by omega) | exact q_rg_cpy (by assumption) (by assumption)) (And.intro (by first | omega | assumption | exact q_rg_up (by assumption) (by omega) | exact q_rg_up (q_rg_up (by assumption) (by omega)) (by omega) | exact q_rg_cpy (by assumption) (by assumption)) (And.intro (by first | omega | assumption | exact q_rg_up (by assumption) (by omega) | exact q_rg_up (q_rg_up (by assumption) (by omega)) (by omega) | exact q_rg_cpy (by assumption) (by assumption)) (?_)))))))))))))))))))))))))))
        intro z27 h27
        obtain ⟨h27, k27⟩ := h27
        first | replace k27 := OFQ_13 k27 (by omega) | replace k27 := OFQ_21 k27 (by omega) | clear k27
        intro z30 h30
        first | replace h30 := e_mul h30 (by omega) | replace h30 := e_rng h30
        refine Exists.intro [0, 1, 2, 3, 4, 5, 6, 7, 8, 9, 10, 11, 12, 13, 14, 15, 16, 17, 18, 19, 20, 21, 22, 23, 24, 25] (Exists.intro [q2 0, q1 _] (Exists.intro ([.inr (12, [q1 _, q2 2, q2 3, q2 4, q2 5, q2 6, q2 1, q2 7, q2 8, q2 9, q1 _, q1 _, q1 _, q1 _, q1 _, q3 _, q1 _, q1 _, q1 _, q2 10, q2 11, q1 _, q1 _, q1 _, q1 _, q1 _, q1 _, q2 12, q1 _, q2 13, q2 14, q2 15, q2 16, q1 _, q2 17, q1 _, q2 18, q2 19, q2 20, q2 21, q2 22, q1 _, q2 23, q2 24, q2 25]), .inl (0, 600, .inl _)]) (And.intro rfl (And.intro rfl (And.intro rfl (And.intro ⟨⟨_, rfl⟩, rfl⟩ ?_))))))
        refine Exists.intro _ (Exists.intro _ (Exists.intro _ (Exists.intro _ (Exists.intro _ (Exists.intro _ (Exists.intro _ (Exists.intro _ (Exists.intro _ (Exists.intro _ (Exists.intro _ (Exists.intro _ (Exists.intro _ (Exists.intro _ (Exists.intro _ (Exists.intro _ (Exists.intro _ (Exists.intro _ (Exists.intro _ (Exists.intro _ (Exists.intro _ (Exists.intro _ (And.intro rfl (And.intro rfl (And.intro (by first | omega | assumption | exact q_rg_up (by assumption) (by omega) | exact q_rg_up (q_rg_up (by assumption) (by omega)) (by omega) | exact q_rg_cpy (by assumption) (by assumption)) (And.intro (by first | omega | assumption | exact q_rg_up (by assumption) (by omega) | exact q_rg_up (q_rg_up (by assumption) (by omega)) (by omega) | exact q_rg_cpy (by assumption) (by assumption)) (And.intro (by first | omega | assumption | exact q_rg_up (by assumption) (by omega) | exact q_rg_up (q_rg_up (by assumption) (by omega)) (by omega) | exact q_rg_cpy (by assumption) (by assumption)) (?_)))))))))))))))))))))))))))
        intro z34 h34
        obtain ⟨h34, k34⟩ := h34
        clear k34
        intro z37 h37
        first | replace h37 := e_mul h37 (by omega) | replace h37 := e_rng h37
        apply And.intro
        · intro h38
          intro z49 h49
          first | replace h49 := e_or8 h49 (by omega) (by omega) | replace h49 := e_or9 h49 (by omega) (by omega) | replace h49 := e_rng h49
          intro z51 h51
          first | replace h51 := e_add h51 (by omega) | replace h51 := e_rng h51
          exact ⟨_, ⟨_, _, rfl, rfl, rfl, rfl, (by first | omega | assumption | exact q_rg_up (by assumption) (by omega) | exact q_rg_up (q_rg_up (by assumption) (by omega)) (by omega) | exact q_rg_cpy (by assumption) (by assumption))⟩, by omega⟩
        · intro h38
          intro z44 h44
          first | replace h44 := e_shl h44 (by omega) | replace h44 := e_rng h44
          intro z49 h49
          first | replace h49 := e_or8 h49 (by omega) (by omega) | replace h49 := e_or9 h49 (by omega) (by omega) | replace h49 := e_rng h49
          intro z51 h51
          first | replace h51 := e_add h51 (by omega) | replace h51 := e_rng h51
          exact ⟨_, ⟨_, _, rfl, rfl, rfl, rfl, (by first | omega | assumption | exact q_rg_up (by assumption) (by omega) | exact q_rg_up (q_rg_up (by assumption) (by omega)) (by omega) | exact q_rg_cpy (by assumption) (by assumption))⟩, by omega⟩
    simp only [I_X12_daring, h5, if_false] at hI
  rintro lv st w' ⟨rfl, rfl, rfl⟩
  exact ⟨_, _, _, rfl, rfl, rfl, rfl, (by first | omega | assumption | exact q_rg_up (by assumption) (by omega) | exact q_rg_up (q_rg_up (by assumption) (by omega)) (by omega) | exact q_rg_cpy (by assumption) (by assumption))⟩

theorem dX12_taken_0 : decode cX12_taken 0 = .ok (.iload_n 2, 1) := by decide +kernel
theorem dX12_taken_1 : decode cX12_taken 1 = .ok (.aload_n 0, 1) := by decide +kernel
theorem dX12_taken_2 : decode cX12_taken 2 = .ok (.iconst 2, 1) := by decide +kernel
theorem dX12_taken_3 : decode cX12_taken 3 = .ok (.invokevirtual 299, 3) := by decide +kernel
theorem dX12_taken_6 : decode cX12_taken 6 = .ok (.imul, 1) := by decide +kernel
theorem dX12_taken_7 : decode cX12_taken 7 = .ok (.aload_n 0, 1) := by decide +kernel
theorem dX12_taken_8 : decode cX12_taken 8 = .ok (.iload_n 1, 1) := by decide +kernel
theorem dX12_taken_9 : decode cX12_taken 9 = .ok (.iload_n 2, 1) := by decide +kernel
theorem dX12_taken_10 : decode cX12_taken 10 = .ok (.invokevirtual 410, 3) := by decide +kernel
theorem dX12_taken_13 : decode cX12_taken 13 = .ok (.invokestatic 413, 3) := by decide +kernel
theorem dX12_taken_16 : decode cX12_taken 16 = .ok (.imul, 1) := by decide +kernel
theorem dX12_taken_17 : decode cX12_taken 17 = .ok (.ireturn, 1) := by decide +kernel
def is_X12_taken : Nat → List Nat := fun d => []
set_option maxRecDepth 100000 in
def b_X12_taken_0 (J : Nat → List qV → List qV → qW → Prop) (Q : qR) : qK := x_iload 2 (x_aload 0 (x_int 2 (x_callr (some 12) 2 spr_X12_of (x_imul (x_aload 0 (x_iload 1 (x_iload 2 (x_callr (some 12) 3 spr_X12_daring (x_callr none 1 spr_X12_ones (x_imul (x_iret Q)))))))))))
set_option maxRecDepth 100000 in
theorem s_X12_taken_0 {p : Program} {l : Launch} {e : Env} {R : Room} {s : State} {m : MethodId} {args : Array Value} {below : List Frame} {meth : Method} {c : Code} {nW : Nat} {dC : Nat → ClassId} {dI : Nat → Nat → Nat} {k : Nat → ClassId} {g : Nat → Nat} {A : Nat → Prop} {J : Nat → List qV → List qV → qW → Prop} {Q : qR} (X : q_X p R s m args meth c cX12_taken 3 nW 2 45 RX12 (some .int) dC dI k g A) (hJ : ∀ d : Nat, q_Sd p l e R s m args below meth c 3 nW dC dI k g A (MQ below (q_post (dC, dI) k g nW Q A) args s 0 0 A) d (x_cut (is_X12_taken d) (J d))) : q_Sd p l e R s m args below meth c 3 nW dC dI k g A (MQ below (q_post (dC, dI) k g nW Q A) args s 0 0 A) 0 (b_X12_taken_0 J Q) := by
  unfold b_X12_taken_0
  refine s_iload_n X rfl dX12_taken_0 ?_
  refine s_aload_n X rfl dX12_taken_1 ?_
  refine s_iconst X ⟨by decide, by decide⟩ dX12_taken_2 ?_
  refine s_callVr X (m_X12_of l) tw_1189 tw_1190 tw_1603 tw_134 tw_1191 rfl (by decide +kernel) ⟨by decide, by decide⟩ dX12_taken_3 ?_
  refine s_imul X dX12_taken_6 ?_
  refine s_aload_n X rfl dX12_taken_7 ?_
  refine s_iload_n X rfl dX12_taken_8 ?_
  refine s_iload_n X rfl dX12_taken_9 ?_
  refine s_callVr X (m_X12_daring l) tw_1317 tw_1318 tw_1557 tw_134 tw_1319 rfl (by decide +kernel) ⟨by decide, by decide⟩ dX12_taken_10 ?_
  refine s_callSr X (m_X12_ones l) tw_1326 tw_1327 tw_134 tw_1328 (by decide +kernel) ⟨by decide, by decide⟩ dX12_taken_13 ?_
  refine s_imul X dX12_taken_16 ?_
  exact s_iret X dX12_taken_17

def spr_X12_taken : List qV → qW → (Option qV → Prop) → Prop := fun av w Q => ∃ (mco : Int) (mre : Int) (mle : Int) (mbe : Int) (mso : Int) (mva : Int) (mwo : Int) (mwr : Int) (mlf : Int) (mlp : Int) (mfp : Int) (mfd : Int) (mgo : Int) (mbo : Int) (mpe : Int) (mye : Int) (mpr : Int) (mld : Int) (msi : Int) (mse : Int) (bs : Nat → Int) (a : Int) (b : Int), av = [q2 0, q1 a, q1 b] ∧ w = [.inr (12, [q1 mco, q2 2, q2 3, q2 4, q2 5, q2 6, q2 1, q2 7, q2 8, q2 9, q1 mre, q1 mle, q1 mbe, q1 mso, q1 mva, q3 mwo, q1 mwr, q1 mlf, q1 mlp, q2 10, q2 11, q1 mfp, q1 mfd, q1 mgo, q1 mbo, q1 mpe, q1 mye, q2 12, q1 mpr, q2 13, q2 14, q2 15, q2 16, q1 mld, q2 17, q1 msi, q2 18, q2 19, q2 20, q2 21, q2 22, q1 mse, q2 23, q2 24, q2 25]), .inl (0, 600, .inl bs)] ∧ (0 ≤ mbo ∧ mbo ≤ 1) ∧ (0 ≤ mpe ∧ mpe ≤ 8) ∧ (BI bs) ∧ (0 ≤ a ∧ a ≤ 3) ∧ (∀ (r : Int) , Q (some (q1 r)))
def sp_X12_taken : qS := fun av w Q => spr_X12_taken av w (fun r => Q r w)
set_option maxHeartbeats 4000000 in
set_option maxRecDepth 100000 in
theorem m_X12_taken (l : Launch) : q_M l yX12_taken cX12_taken 3 (some .int) 2 45 sp_X12_taken := by
  refine q_meth (by decide) (fun av w Q h => by obtain ⟨mco, mre, mle, mbe, mso, mva, mwo, mwr, mlf, mlp, mfp, mfd, mgo, mbo, mpe, mye, mpr, mld, msi, mse, bs, a, b, rfl, rfl, hbo, hpe, hbi, ha, hQ⟩ := h; exact Nat.le_of_ble_eq_true rfl) ?_
  intro p e R s m args below meth c dC dI k g A av w Q hsp oka okw X
  obtain ⟨mco, mre, mle, mbe, mso, mva, mwo, mwr, mlf, mlp, mfp, mfd, mgo, mbo, mpe, mye, mpr, mld, msi, mse, bs, a, b, rfl, rfl, hbo, hpe, hbi, ha, hQ⟩ := hsp
  have o_a : -2147483648 ≤ a ∧ a ≤ 2147483647 := oka _ (List.mem_of_getElem? (i := 1) rfl)
  have o_b : -2147483648 ≤ b ∧ b ≤ 2147483647 := oka _ (List.mem_of_getElem? (i := 2) rfl)
  refine s_mono (s_X12_taken_0 X (J := fun _ _ _ _ => False) (fun d => s_cutF)) ?_
  rintro lv st w' ⟨rfl, rfl, rfl⟩
  refine Exists.intro [0, 1, 2, 3, 4, 5, 6, 7, 8, 9, 10, 11, 12, 13, 14, 15, 16, 17, 18, 19, 20, 21, 22, 23, 24, 25] (Exists.intro [q2 0, q1 _] (Exists.intro ([.inr (12, [q1 _, q2 2, q2 3, q2 4, q2 5, q2 6, q2 1, q2 7, q2 8, q2 9, q1 _, q1 _, q1 _, q1 _, q1 _, q3 _, q1 _, q1 _, q1 _, q2 10, q2 11, q1 _, q1 _, q1 _, q1 _, q1 _, q1 _, q2 12, q1 _, q2 13, q2 14, q2 15, q2 16, q1 _, q2 17, q1 _, q2 18, q2 19, q2 20, q2 21, q2 22, q1 _, q2 23, q2 24, q2 25]), .inl (0, 600, .inl _)]) (And.intro rfl (And.intro rfl (And.intro rfl (And.intro ⟨⟨_, rfl⟩, rfl⟩ ?_))))))
  refine Exists.intro _ (Exists.intro _ (Exists.intro _ (Exists.intro _ (Exists.intro _ (Exists.intro _ (Exists.intro _ (Exists.intro _ (Exists.intro _ (Exists.intro _ (Exists.intro _ (Exists.intro _ (Exists.intro _ (Exists.intro _ (Exists.intro _ (Exists.intro _ (Exists.intro _ (Exists.intro _ (Exists.intro _ (Exists.intro _ (Exists.intro _ (Exists.intro _ (And.intro rfl (And.intro rfl (And.intro (by first | omega | assumption | exact q_rg_up (by assumption) (by omega) | exact q_rg_up (q_rg_up (by assumption) (by omega)) (by omega) | exact q_rg_cpy (by assumption) (by assumption)) (And.intro (by first | omega | assumption | exact q_rg_up (by assumption) (by omega) | exact q_rg_up (q_rg_up (by assumption) (by omega)) (by omega) | exact q_rg_cpy (by assumption) (by assumption)) (And.intro (by first | omega | assumption | exact q_rg_up (by assumption) (by omega) | exact q_rg_up (q_rg_up (by assumption) (by omega)) (by omega) | exact q_rg_cpy (by assumption) (by assumption)) (?_)))))))))))))))))))))))))))
  intro z3 h3
  obtain ⟨h3, k3⟩ := h3
  clear k3
  intro z6 h6
  first | replace h6 := e_mul h6 (by omega) | replace h6 := e_rng h6
  refine Exists.intro [0, 1, 2, 3, 4, 5, 6, 7, 8, 9, 10, 11, 12, 13, 14, 15, 16, 17, 18, 19, 20, 21, 22, 23, 24, 25] (Exists.intro [q2 0, q1 _, q1 _] (Exists.intro ([.inr (12, [q1 _, q2 2, q2 3, q2 4, q2 5, q2 6, q2 1, q2 7, q2 8, q2 9, q1 _, q1 _, q1 _, q1 _, q1 _, q3 _, q1 _, q1 _, q1 _, q2 10, q2 11, q1 _, q1 _, q1 _, q1 _, q1 _, q1 _, q2 12, q1 _, q2 13, q2 14, q2 15, q2 16, q1 _, q2 17, q1 _, q2 18, q2 19, q2 20, q2 21, q2 22, q1 _, q2 23, q2 24, q2 25]), .inl (0, 600, .inl _)]) (And.intro rfl (And.intro rfl (And.intro rfl (And.intro ⟨⟨_, rfl⟩, rfl⟩ ?_))))))
  refine Exists.intro _ (Exists.intro _ (Exists.intro _ (Exists.intro _ (Exists.intro _ (Exists.intro _ (Exists.intro _ (Exists.intro _ (Exists.intro _ (Exists.intro _ (Exists.intro _ (Exists.intro _ (Exists.intro _ (Exists.intro _ (Exists.intro _ (Exists.intro _ (Exists.intro _ (Exists.intro _ (Exists.intro _ (Exists.intro _ (Exists.intro _ (Exists.intro _ (Exists.intro _ (And.intro rfl (And.intro rfl (And.intro (by first | omega | assumption | exact q_rg_up (by assumption) (by omega) | exact q_rg_up (q_rg_up (by assumption) (by omega)) (by omega) | exact q_rg_cpy (by assumption) (by assumption)) (And.intro (by first | omega | assumption | exact q_rg_up (by assumption) (by omega) | exact q_rg_up (q_rg_up (by assumption) (by omega)) (by omega) | exact q_rg_cpy (by assumption) (by assumption)) (And.intro (by first | omega | assumption | exact q_rg_up (by assumption) (by omega) | exact q_rg_up (q_rg_up (by assumption) (by omega)) (by omega) | exact q_rg_cpy (by assumption) (by assumption)) (And.intro (by first | omega | assumption | exact q_rg_up (by assumption) (by omega) | exact q_rg_up (q_rg_up (by assumption) (by omega)) (by omega) | exact q_rg_cpy (by assumption) (by assumption)) (?_)))))))))))))))))))))))))))))
  intro z10
  refine Exists.intro [] (Exists.intro [q1 _] (Exists.intro [] (And.intro rfl (And.intro rfl (And.intro rfl (And.intro trivial ?_))))))
  refine Exists.intro _ (And.intro rfl (And.intro rfl (?_)))
  intro z13 h13
  intro z16 h16
  first | replace h16 := e_mul h16 (by omega) | replace h16 := e_rng h16
  exact hQ _

theorem dX12_harm_0 : decode cX12_harm 0 = .ok (.iconst 0, 1) := by decide +kernel
theorem dX12_harm_1 : decode cX12_harm 1 = .ok (.istore_n 3, 1) := by decide +kernel
theorem dX12_harm_2 : decode cX12_harm 2 = .ok (.iconst 0, 1) := by decide +kernel
theorem dX12_harm_3 : decode cX12_harm 3 = .ok (.istore 4, 2) := by decide +kernel
theorem dX12_harm_5 : decode cX12_harm 5 = .ok (.iload 4, 2) := by decide +kernel
theorem dX12_harm_7 : decode cX12_harm 7 = .ok (.aload_n 0, 1) := by decide +kernel
theorem dX12_harm_8 : decode cX12_harm 8 = .ok (.getfield 303, 3) := by decide +kernel
theorem dX12_harm_11 : decode cX12_harm 11 = .ok (.if_icmp .ge 43, 3) := by decide +kernel
theorem dX12_harm_14 : decode cX12_harm 14 = .ok (.iload_n 3, 1) := by decide +kernel
theorem dX12_harm_15 : decode cX12_harm 15 = .ok (.aload_n 0, 1) := by decide +kernel
theorem dX12_harm_16 : decode cX12_harm 16 = .ok (.iload_n 1, 1) := by decide +kernel
theorem dX12_harm_17 : decode cX12_harm 17 = .ok (.iload_n 2, 1) := by decide +kernel
theorem dX12_harm_18 : decode cX12_harm 18 = .ok (.invokevirtual 410, 3) := by decide +kernel
theorem dX12_harm_21 : decode cX12_harm 21 = .ok (.iload 4, 2) := by decide +kernel
theorem dX12_harm_23 : decode cX12_harm 23 = .ok (.invokestatic 92, 3) := by decide +kernel
theorem dX12_harm_26 : decode cX12_harm 26 = .ok (.ifCond .eq 19, 3) := by decide +kernel
theorem dX12_harm_29 : decode cX12_harm 29 = .ok (.aload_n 0, 1) := by decide +kernel
theorem dX12_harm_30 : decode cX12_harm 30 = .ok (.bipush 43, 2) := by decide +kernel
theorem dX12_harm_32 : decode cX12_harm 32 = .ok (.iconst 4, 1) := by decide +kernel
theorem dX12_harm_33 : decode cX12_harm 33 = .ok (.iload 4, 2) := by decide +kernel
theorem dX12_harm_35 : decode cX12_harm 35 = .ok (.imul, 1) := by decide +kernel
theorem dX12_harm_36 : decode cX12_harm 36 = .ok (.iadd, 1) := by decide +kernel
theorem dX12_harm_37 : decode cX12_harm 37 = .ok (.iload_n 1, 1) := by decide +kernel
theorem dX12_harm_38 : decode cX12_harm 38 = .ok (.iadd, 1) := by decide +kernel
theorem dX12_harm_39 : decode cX12_harm 39 = .ok (.invokevirtual 299, 3) := by decide +kernel
theorem dX12_harm_42 : decode cX12_harm 42 = .ok (.goto 4, 3) := by decide +kernel
theorem dX12_harm_45 : decode cX12_harm 45 = .ok (.iconst 0, 1) := by decide +kernel
theorem dX12_harm_46 : decode cX12_harm 46 = .ok (.iadd, 1) := by decide +kernel
theorem dX12_harm_47 : decode cX12_harm 47 = .ok (.istore_n 3, 1) := by decide +kernel
theorem dX12_harm_48 : decode cX12_harm 48 = .ok (.iinc 4 1, 3) := by decide +kernel
theorem dX12_harm_51 : decode cX12_harm 51 = .ok (.goto (-46), 3) := by decide +kernel
theorem dX12_harm_54 : decode cX12_harm 54 = .ok (.iload_n 3, 1) := by decide +kernel
theorem dX12_harm_55 : decode cX12_harm 55 = .ok (.ireturn, 1) := by decide +kernel
def is_X12_harm : Nat → List Nat := fun d => if d = 5 then [0, 1, 2, 3, 4] else []
set_option maxRecDepth 100000 in
def b_X12_harm_46 (J : Nat → List qV → List qV → qW → Prop) (Q : qR) : qK := x_iadd (x_istore 3 (x_iinc 4 1 (x_cut [0, 1, 2, 3, 4] (J 5))))
set_option maxRecDepth 100000 in
theorem s_X12_harm_46 {p : Program} {l : Launch} {e : Env} {R : Room} {s : State} {m : MethodId} {args : Array Value} {below : List Frame} {meth : Method} {c : Code} {nW : Nat} {dC : Nat → ClassId} {dI : Nat → Nat → Nat} {k : Nat → ClassId} {g : Nat → Nat} {A : Nat → Prop} {J : Nat → List qV → List qV → qW → Prop} {Q : qR} (X : q_X p R s m args meth c cX12_harm 5 nW 2 45 RX12 (some .int) dC dI k g A) (hJ : ∀ d : Nat, q_Sd p l e R s m args below meth c 5 nW dC dI k g A (MQ below (q_post (dC, dI) k g nW Q A) args s 0 0 A) d (x_cut (is_X12_harm d) (J d))) : q_Sd p l e R s m args below meth c 5 nW dC dI k g A (MQ below (q_post (dC, dI) k g nW Q A) args s 0 0 A) 46 (b_X12_harm_46 J Q) := by
  unfold b_X12_harm_46
  refine s_iadd X dX12_harm_46 ?_
  refine s_istore_n X rfl (by decide) dX12_harm_47 ?_
  refine s_iinc X (by decide) dX12_harm_48 ?_
  refine s_goto X (tgt := 5) dX12_harm_51 (by decide) ?_
  exact hJ 5
set_option maxRecDepth 100000 in
def b_X12_harm_5 (J : Nat → List qV → List qV → qW → Prop) (Q : qR) : qK := x_iload 4 (x_aload 0 (x_get 12 25 (x_icmp_ge (x_iload 3 (x_iret Q)) (x_iload 3 (x_aload 0 (x_iload 1 (x_iload 2 (x_callr (some 12) 3 spr_X12_daring (x_iload 4 (x_callr none 2 spr_X12_has (x_if_eq (x_int 0 (b_X12_harm_46 J Q)) (x_aload 0 (x_int 43 (x_int 4 (x_iload 4 (x_imul (x_iadd (x_iload 1 (x_iadd (x_callr (some 12) 2 spr_X12_of (b_X12_harm_46 J Q)))))))))))))))))))))
set_option maxRecDepth 100000 in
theorem s_X12_harm_5 {p : Program} {l : Launch} {e : Env} {R : Room} {s : State} {m : MethodId} {args : Array Value} {below : List Frame} {meth : Method} {c : Code} {nW : Nat} {dC : Nat → ClassId} {dI : Nat → Nat → Nat} {k : Nat → ClassId} {g : Nat → Nat} {A : Nat → Prop} {J : Nat → List qV → List qV → qW → Prop} {Q : qR} (X : q_X p R s m args meth c cX12_harm 5 nW 2 45 RX12 (some .int) dC dI k g A) (hJ : ∀ d : Nat, q_Sd p l e R s m args below meth c 5 nW dC dI k g A (MQ below (q_post (dC, dI) k g nW Q A) args s 0 0 A) d (x_cut (is_X12_harm d) (J d))) : q_Sd p l e R s m args below meth c 5 nW dC dI k g A (MQ below (q_post (dC, dI) k g nW Q A) args s 0 0 A) 5 (b_X12_harm_5 J Q) := by
  unfold b_X12_harm_5
  refine s_iload X dX12_harm_5 ?_
  refine s_aload_n X rfl dX12_harm_7 ?_
  refine s_get X (T := TX12) (C := RX12) (N := 45) tu_X12 rfl (by decide) tw_1022 dX12_harm_8 ?_
  refine s_icmp_ge X (tgt := 54) dX12_harm_11 (by decide) ?_ ?_
  · refine s_iload_n X rfl dX12_harm_54 ?_
    exact s_iret X dX12_harm_55
  · refine s_iload_n X rfl dX12_harm_14 ?_
    refine s_aload_n X rfl dX12_harm_15 ?_
    refine s_iload_n X rfl dX12_harm_16 ?_
    refine s_iload_n X rfl dX12_harm_17 ?_
    refine s_callVr X (m_X12_daring l) tw_1317 tw_1318 tw_1557 tw_134 tw_1319 rfl (by decide +kernel) ⟨by decide, by decide⟩ dX12_harm_18 ?_
    refine s_iload X dX12_harm_21 ?_
    refine s_callSr X (m_X12_has l) tw_1233 tw_1234 tw_134 tw_1235 (by decide +kernel) ⟨by decide, by decide⟩ dX12_harm_23 ?_
    refine s_if_eq X (tgt := 45) dX12_harm_26 (by decide) ?_ ?_
    · refine s_iconst X ⟨by decide, by decide⟩ dX12_harm_45 ?_
      exact s_X12_harm_46 X hJ
    · refine s_aload_n X rfl dX12_harm_29 ?_
      refine s_bipush X ⟨by decide, by decide⟩ (by decide) dX12_harm_30 ?_
      refine s_iconst X ⟨by decide, by decide⟩ dX12_harm_32 ?_
      refine s_iload X dX12_harm_33 ?_
      refine s_imul X dX12_harm_35 ?_
      refine s_iadd X dX12_harm_36 ?_
      refine s_iload_n X rfl dX12_harm_37 ?_
      refine s_iadd X dX12_harm_38 ?_
      refine s_callVr X (m_X12_of l) tw_1189 tw_1190 tw_1603 tw_134 tw_1191 rfl (by decide +kernel) ⟨by decide, by decide⟩ dX12_harm_39 ?_
      refine s_goto X (tgt := 46) dX12_harm_42 (by decide) ?_
      exact s_X12_harm_46 X hJ
set_option maxRecDepth 100000 in
def b_X12_harm_0 (J : Nat → List qV → List qV → qW → Prop) (Q : qR) : qK := x_int 0 (x_istore 3 (x_int 0 (x_istore 4 (x_cut [0, 1, 2, 3, 4] (J 5)))))
set_option maxRecDepth 100000 in
theorem s_X12_harm_0 {p : Program} {l : Launch} {e : Env} {R : Room} {s : State} {m : MethodId} {args : Array Value} {below : List Frame} {meth : Method} {c : Code} {nW : Nat} {dC : Nat → ClassId} {dI : Nat → Nat → Nat} {k : Nat → ClassId} {g : Nat → Nat} {A : Nat → Prop} {J : Nat → List qV → List qV → qW → Prop} {Q : qR} (X : q_X p R s m args meth c cX12_harm 5 nW 2 45 RX12 (some .int) dC dI k g A) (hJ : ∀ d : Nat, q_Sd p l e R s m args below meth c 5 nW dC dI k g A (MQ below (q_post (dC, dI) k g nW Q A) args s 0 0 A) d (x_cut (is_X12_harm d) (J d))) : q_Sd p l e R s m args below meth c 5 nW dC dI k g A (MQ below (q_post (dC, dI) k g nW Q A) args s 0 0 A) 0 (b_X12_harm_0 J Q) := by
  unfold b_X12_harm_0
  refine s_iconst X ⟨by decide, by decide⟩ dX12_harm_0 ?_
  refine s_istore_n X rfl (by decide) dX12_harm_1 ?_
  refine s_iconst X ⟨by decide, by decide⟩ dX12_harm_2 ?_
  refine s_istore X (by decide) dX12_harm_3 ?_
  exact hJ 5

def spr_X12_harm : List qV → qW → (Option qV → Prop) → Prop := fun av w Q => ∃ (mco : Int) (mre : Int) (mle : Int) (mbe : Int) (mso : Int) (mva : Int) (mwo : Int) (mwr : Int) (mlf : Int) (mlp : Int) (mfp : Int) (mfd : Int) (mgo : Int) (mbo : Int) (mpe : Int) (mye : Int) (mpr : Int) (mld : Int) (msi : Int) (mse : Int) (bs : Nat → Int) (a : Int) (b : Int), av = [q2 0, q1 a, q1 b] ∧ w = [.inr (12, [q1 mco, q2 2, q2 3, q2 4, q2 5, q2 6, q2 1, q2 7, q2 8, q2 9, q1 mre, q1 mle, q1 mbe, q1 mso, q1 mva, q3 mwo, q1 mwr, q1 mlf, q1 mlp, q2 10, q2 11, q1 mfp, q1 mfd, q1 mgo, q1 mbo, q1 mpe, q1 mye, q2 12, q1 mpr, q2 13, q2 14, q2 15, q2 16, q1 mld, q2 17, q1 msi, q2 18, q2 19, q2 20, q2 21, q2 22, q1 mse, q2 23, q2 24, q2 25]), .inl (0, 600, .inl bs)] ∧ (0 ≤ mbo ∧ mbo ≤ 1) ∧ (0 ≤ mpe ∧ mpe ≤ 8) ∧ (BI bs) ∧ (0 ≤ a ∧ a ≤ 3) ∧ (∀ (r : Int) , Q (some (q1 r)))
def sp_X12_harm : qS := fun av w Q => spr_X12_harm av w (fun r => Q r w)
def I_X12_harm (mco : Int) (mre : Int) (mle : Int) (mbe : Int) (mso : Int) (mva : Int) (mwo : Int) (mwr : Int) (mlf : Int) (mlp : Int) (mfp : Int) (mfd : Int) (mgo : Int) (mbo : Int) (mpe : Int) (mye : Int) (mpr : Int) (mld : Int) (msi : Int) (mse : Int) (bs : Nat → Int) (a : Int) (b : Int) : Nat → Nat → List qV → List qV → qW → Prop := fun dz mz vz sz wz => if dz = 5 then (∃ (v3 : Int) (v4 : Int), vz = [q2 0, q1 a, q1 b, q1 v3, q1 v4] ∧ sz = [] ∧ wz = [.inr (12, [q1 mco, q2 2, q2 3, q2 4, q2 5, q2 6, q2 1, q2 7, q2 8, q2 9, q1 mre, q1 mle, q1 mbe, q1 mso, q1 mva, q3 mwo, q1 mwr, q1 mlf, q1 mlp, q2 10, q2 11, q1 mfp, q1 mfd, q1 mgo, q1 mbo, q1 mpe, q1 mye, q2 12, q1 mpr, q2 13, q2 14, q2 15, q2 16, q1 mld, q2 17, q1 msi, q2 18, q2 19, q2 20, q2 21, q2 22, q1 mse, q2 23, q2 24, q2 25]), .inl (0, 600, .inl bs)] ∧ mz = (mpe - v4).toNat ∧ (0 ≤ v4 ∧ v4 ≤ mpe)) else False
set_option maxHeartbeats 4000000 in
set_option maxRecDepth 100000 in
theorem m_X12_harm (l : Launch) : q_M l yX12_harm cX12_harm 5 (some .int) 2 45 sp_X12_harm := by
  refine q_meth (by decide) (fun av w Q h => by obtain ⟨mco, mre, mle, mbe, mso, mva, mwo, mwr, mlf, mlp, mfp, mfd, mgo, mbo, mpe, mye, mpr, mld, msi, mse, bs, a, b, rfl, rfl, hbo, hpe, hbi, ha, hQ⟩ := h; exact Nat.le_of_ble_eq_true rfl) ?_
  intro p e R s m args below meth c dC dI k g A av w Q hsp oka okw X
  obtain ⟨mco, mre, mle, mbe, mso, mva, mwo, mwr, mlf, mlp, mfp, mfd, mgo, mbo, mpe, mye, mpr, mld, msi, mse, bs, a, b, rfl, rfl, hbo, hpe, hbi, ha, hQ⟩ := hsp
  have o_a : -2147483648 ≤ a ∧ a ≤ 2147483647 := oka _ (List.mem_of_getElem? (i := 1) rfl)
  have o_b : -2147483648 ≤ b ∧ b ≤ 2147483647 := oka _ (List.mem_of_getElem? (i := 2) rfl)
  refine s_mono (s_X12_harm_0 X (J := fun dz vz sz wz => ∃ mz, I_X12_harm mco mre mle mbe mso mva mwo mwr mlf mlp mfp mfd mgo mbo mpe mye mpr mld msi mse bs a b dz mz vz sz wz) (q_loopn (I_X12_harm mco mre mle mbe mso mva mwo mwr mlf mlp mfp mfd mgo mbo mpe mye mpr mld msi mse bs a b) (fun dz J => if dz = 5 then b_X12_harm_5 J Q else q_F) ?hs ?hv)) ?_
  case hs =>
    intro d J hJ
    by_cases h5 : d = 5
    · subst h5; exact s_X12_harm_5 X hJ
    simp only [h5, if_false]
    exact s_F
  case hv =>
    intro dz mz vz sz wz hI okv oks okw hlen
    by_cases h5 : dz = 5
    · subst h5
      obtain ⟨v3, v4, rfl, rfl, rfl, hn, hp⟩ := hI
      apply And.intro
      · intro h11
        exact hQ _
      · intro h11
        refine Exists.intro [0, 1, 2, 3, 4, 5, 6, 7, 8, 9, 10, 11, 12, 13, 14, 15, 16, 17, 18, 19, 20, 21, 22, 23, 24, 25] (Exists.intro [q2 0, q1 _, q1 _] (Exists.intro ([.inr (12, [q1 _, q2 2, q2 3, q2 4, q2 5, q2 6, q2 1, q2 7, q2 8, q2 9, q1 _, q1 _, q1 _, q1 _, q1 _, q3 _, q1 _, q1 _, q1 _, q2 10, q2 11, q1 _, q1 _, q1 _, q1 _, q1 _, q1 _, q2 12, q1 _, q2 13, q2 14, q2 15, q2 16, q1 _, q2 17, q1 _, q2 18, q2 19, q2 20, q2 21, q2 22, q1 _, q2 23, q2 24, q2 25]), .inl (0, 600, .inl _)]) (And.intro rfl (And.intro rfl (And.intro rfl (And.intro ⟨⟨_, rfl⟩, rfl⟩ ?_))))))
        refine Exists.intro _ (Exists.intro _ (Exists.intro _ (Exists.intro _ (Exists.intro _ (Exists.intro _ (Exists.intro _ (Exists.intro _ (Exists.intro _ (Exists.intro _ (Exists.intro _ (Exists.intro _ (Exists.intro _ (Exists.intro _ (Exists.intro _ (Exists.intro _ (Exists.intro _ (Exists.intro _ (Exists.intro _ (Exists.intro _ (Exists.intro _ (Exists.intro _ (Exists.intro _ (And.intro rfl (And.intro rfl (And.intro (by first | omega | assumption | exact q_rg_up (by assumption) (by omega) | exact q_rg_up (q_rg_up (by assumption) (by omega)) (by omega) | exact q_rg_cpy (by assumption) (by assumption)) (And.intro (by first | omega | assumption | exact q_rg_up (by assumption) (by omega) | exact q_rg_up (q_rg_up (by assumption) (by omega)) (by omega) | exact q_rg_cpy (by assumption) (by assumption)) (And.intro (by first | omega | assumption | exact q_rg_up (by assumption) (by omega) | exact q_rg_up (q_rg_up (by assumption) (by omega)) (by omega) | exact q_rg_cpy (by assumption) (by assumption)) (And.intro (by first | omega | assumption | exact q_rg_up (by assumption) (by omega) | exact q_rg_up (q_rg_up (by assumption) (by omega)) (by omega) | exact q_rg_cpy (by assumption) (by assumption)) (?_)))))))))))))))))))))))))))))
        intro z18
        refine Exists.intro [] (Exists.intro [q1 _, q1 _] (Exists.intro [] (And.intro rfl (And.intro rfl (And.intro rfl (And.intro trivial ?_))))))
        refine Exists.intro _ (Exists.intro _ (And.intro rfl (And.intro rfl (?_))))
        intro z23 h23
        apply And.intro
        · intro h26
          intro z46 h46
          first | replace h46 := e_add h46 (by omega) | replace h46 := e_rng h46
          intro z48 h48
          first | replace h48 := e_add h48 (by omega) | replace h48 := e_rng h48
          exact ⟨_, ⟨_, _, rfl, rfl, rfl, rfl, (by first | omega | assumption | exact q_rg_up (by assumption) (by omega) | exact q_rg_up (q_rg_up (by assumption) (by omega)) (by omega) | exact q_rg_cpy (by assumption) (by assumption))⟩, by omega⟩
        · intro h26
          intro z35 h35
          first | replace h35 := e_mul h35 (by omega) | replace h35 := e_rng h35
          intro z36 h36
          first | replace h36 := e_add h36 (by omega) | replace h36 := e_rng h36
          intro z38 h38
          first | replace h38 := e_add h38 (by omega) | replace h38 := e_rng h38
          refine Exists.intro [0, 1, 2, 3, 4, 5, 6, 7, 8, 9, 10, 11, 12, 13, 14, 15, 16, 17, 18, 19, 20, 21, 22, 23, 24, 25] (Exists.intro [q2 0, q1 _] (Exists.intro ([.inr (12, [q1 _, q2 2, q2 3, q2 4, q2 5, q2 6, q2 1, q2 7, q2 8, q2 9, q1 _, q1 _, q1 _, q1 _, q1 _, q3 _, q1 _, q1 _, q1 _, q2 10, q2 11, q1 _, q1 _, q1 _, q1 _, q1 _, q1 _, q2 12, q1 _, q2 13, q2 14, q2 15, q2 16, q1 _, q2 17, q1 _, q2 18, q2 19, q2 20, q2 21, q2 22, q1 _, q2 23, q2 24, q2 25]), .inl (0, 600, .inl _)]) (And.intro rfl (And.intro rfl (And.intro rfl (And.intro ⟨⟨_, rfl⟩, rfl⟩ ?_))))))
          refine Exists.intro _ (Exists.intro _ (Exists.intro _ (Exists.intro _ (Exists.intro _ (Exists.intro _ (Exists.intro _ (Exists.intro _ (Exists.intro _ (Exists.intro _ (Exists.intro _ (Exists.intro _ (Exists.intro _ (Exists.intro _ (Exists.intro _ (Exists.intro _ (Exists.intro _ (Exists.intro _ (Exists.intro _ (Exists.intro _ (Exists.intro _ (Exists.intro _ (And.intro rfl (And.intro rfl (And.intro (by first | omega | assumption | exact q_rg_up (by assumption) (by omega) | exact q_rg_up (q_rg_up (by assumption) (by omega)) (by omega) | exact q_rg_cpy (by assumption) (by assumption)) (And.intro (by first | omega | assumption | exact q_rg_up (by assumption) (by omega) | exact q_rg_up (q_rg_up (by assumption) (by omega)) (by omega) | exact q_rg_cpy (by assumption) (by assumption)) (And.intro (by first | omega | assumption | exact q_rg_up (by assumption) (by omega) | exact q_rg_up (q_rg_up (by assumption) (by omega)) (by omega) | exact q_rg_cpy (by assumption) (by assumption)) (?_)))))))))))))))))))))))))))
          intro z39 h39
          obtain ⟨h39, k39⟩ := h39
          first | replace k39 := OFQ_13 k39 (by omega) | replace k39 := OFQ_21 k39 (by omega) | clear k39
          intro z46 h46
          first | replace h46 := e_add h46 (by omega) | replace h46 := e_rng h46
          intro z48 h48
          first | replace h48 := e_add h48 (by omega) | replace h48 := e_rng h48
          exact ⟨_, ⟨_, _, rfl, rfl, rfl, rfl, (by first | omega | assumption | exact q_rg_up (by assumption) (by omega) | exact q_rg_up (q_rg_up (by assumption) (by omega)) (by omega) | exact q_rg_cpy (by assumption) (by assumption))⟩, by omega⟩
    simp only [I_X12_harm, h5, if_false] at hI
  rintro lv st w' ⟨rfl, rfl, rfl⟩
  exact ⟨_, _, _, rfl, rfl, rfl, rfl, (by first | omega | assumption | exact q_rg_up (by assumption) (by omega) | exact q_rg_up (q_rg_up (by assumption) (by omega)) (by omega) | exact q_rg_cpy (by assumption) (by assumption))⟩

theorem dX12_dares_0 : decode cX12_dares 0 = .ok (.aload_n 0, 1) := by decide +kernel
theorem dX12_dares_1 : decode cX12_dares 1 = .ok (.iconst 0, 1) := by decide +kernel
theorem dX12_dares_2 : decode cX12_dares 2 = .ok (.putfield 88, 3) := by decide +kernel
theorem dX12_dares_5 : decode cX12_dares 5 = .ok (.aload_n 0, 1) := by decide +kernel
theorem dX12_dares_6 : decode cX12_dares 6 = .ok (.iload_n 1, 1) := by decide +kernel
theorem dX12_dares_7 : decode cX12_dares 7 = .ok (.invokevirtual 306, 3) := by decide +kernel
theorem dX12_dares_10 : decode cX12_dares 10 = .ok (.ifCond .eq 32, 3) := by decide +kernel
theorem dX12_dares_13 : decode cX12_dares 13 = .ok (.iload_n 2, 1) := by decide +kernel
theorem dX12_dares_14 : decode cX12_dares 14 = .ok (.iconst 0, 1) := by decide +kernel
theorem dX12_dares_15 : decode cX12_dares 15 = .ok (.iconst 3, 1) := by decide +kernel
theorem dX12_dares_16 : decode cX12_dares 16 = .ok (.invokestatic 100, 3) := by decide +kernel
theorem dX12_dares_19 : decode cX12_dares 19 = .ok (.ifCond .eq 23, 3) := by decide +kernel
theorem dX12_dares_22 : decode cX12_dares 22 = .ok (.iload_n 3, 1) := by decide +kernel
theorem dX12_dares_23 : decode cX12_dares 23 = .ok (.iconst 1, 1) := by decide +kernel
theorem dX12_dares_24 : decode cX12_dares 24 = .ok (.bipush 9, 2) := by decide +kernel
theorem dX12_dares_26 : decode cX12_dares 26 = .ok (.invokestatic 100, 3) := by decide +kernel
theorem dX12_dares_29 : decode cX12_dares 29 = .ok (.ifCond .eq 13, 3) := by decide +kernel
theorem dX12_dares_32 : decode cX12_dares 32 = .ok (.iload 4, 2) := by decide +kernel
theorem dX12_dares_34 : decode cX12_dares 34 = .ok (.iconst 0, 1) := by decide +kernel
theorem dX12_dares_35 : decode cX12_dares 35 = .ok (.iconst 4, 1) := by decide +kernel
theorem dX12_dares_36 : decode cX12_dares 36 = .ok (.invokestatic 100, 3) := by decide +kernel
theorem dX12_dares_39 : decode cX12_dares 39 = .ok (.ifCond .ne 6, 3) := by decide +kernel
theorem dX12_dares_42 : decode cX12_dares 42 = .ok (.bipush (-2), 2) := by decide +kernel
theorem dX12_dares_44 : decode cX12_dares 44 = .ok (.ireturn, 1) := by decide +kernel
theorem dX12_dares_45 : decode cX12_dares 45 = .ok (.iload 4, 2) := by decide +kernel
theorem dX12_dares_47 : decode cX12_dares 47 = .ok (.iconst 3, 1) := by decide +kernel
theorem dX12_dares_48 : decode cX12_dares 48 = .ok (.if_icmp .ge 39, 3) := by decide +kernel
theorem dX12_dares_51 : decode cX12_dares 51 = .ok (.iload 4, 2) := by decide +kernel
theorem dX12_dares_53 : decode cX12_dares 53 = .ok (.ifCond .ne 12, 3) := by decide +kernel
theorem dX12_dares_56 : decode cX12_dares 56 = .ok (.aload_n 0, 1) := by decide +kernel
theorem dX12_dares_57 : decode cX12_dares 57 = .ok (.iload_n 2, 1) := by decide +kernel
theorem dX12_dares_58 : decode cX12_dares 58 = .ok (.iload_n 3, 1) := by decide +kernel
theorem dX12_dares_59 : decode cX12_dares 59 = .ok (.invokevirtual 410, 3) := by decide +kernel
theorem dX12_dares_62 : decode cX12_dares 62 = .ok (.goto 24, 3) := by decide +kernel
theorem dX12_dares_65 : decode cX12_dares 65 = .ok (.iload 4, 2) := by decide +kernel
theorem dX12_dares_67 : decode cX12_dares 67 = .ok (.iconst 1, 1) := by decide +kernel
theorem dX12_dares_68 : decode cX12_dares 68 = .ok (.if_icmp .ne 12, 3) := by decide +kernel
theorem dX12_dares_71 : decode cX12_dares 71 = .ok (.aload_n 0, 1) := by decide +kernel
theorem dX12_dares_72 : decode cX12_dares 72 = .ok (.iload_n 2, 1) := by decide +kernel
theorem dX12_dares_73 : decode cX12_dares 73 = .ok (.iload_n 3, 1) := by decide +kernel
theorem dX12_dares_74 : decode cX12_dares 74 = .ok (.invokevirtual 416, 3) := by decide +kernel
theorem dX12_dares_77 : decode cX12_dares 77 = .ok (.goto 9, 3) := by decide +kernel
theorem dX12_dares_80 : decode cX12_dares 80 = .ok (.aload_n 0, 1) := by decide +kernel
theorem dX12_dares_81 : decode cX12_dares 81 = .ok (.iload_n 2, 1) := by decide +kernel
theorem dX12_dares_82 : decode cX12_dares 82 = .ok (.iload_n 3, 1) := by decide +kernel
theorem dX12_dares_83 : decode cX12_dares 83 = .ok (.invokevirtual 419, 3) := by decide +kernel
theorem dX12_dares_86 : decode cX12_dares 86 = .ok (.ireturn, 1) := by decide +kernel
theorem dX12_dares_87 : decode cX12_dares 87 = .ok (.iconst 1, 1) := by decide +kernel
theorem dX12_dares_88 : decode cX12_dares 88 = .ok (.istore 5, 2) := by decide +kernel
theorem dX12_dares_90 : decode cX12_dares 90 = .ok (.iconst (-1), 1) := by decide +kernel
theorem dX12_dares_91 : decode cX12_dares 91 = .ok (.istore 6, 2) := by decide +kernel
theorem dX12_dares_93 : decode cX12_dares 93 = .ok (.bipush 9, 2) := by decide +kernel
theorem dX12_dares_95 : decode cX12_dares 95 = .ok (.istore 7, 2) := by decide +kernel
theorem dX12_dares_97 : decode cX12_dares 97 = .ok (.iload 7, 2) := by decide +kernel
theorem dX12_dares_99 : decode cX12_dares 99 = .ok (.ifCond .le 60, 3) := by decide +kernel
theorem dX12_dares_102 : decode cX12_dares 102 = .ok (.aload_n 0, 1) := by decide +kernel
theorem dX12_dares_103 : decode cX12_dares 103 = .ok (.iload_n 2, 1) := by decide +kernel
theorem dX12_dares_104 : decode cX12_dares 104 = .ok (.iload 7, 2) := by decide +kernel
theorem dX12_dares_106 : decode cX12_dares 106 = .ok (.invokevirtual 410, 3) := by decide +kernel
theorem dX12_dares_109 : decode cX12_dares 109 = .ok (.ifCond .ne 8, 3) := by decide +kernel
theorem dX12_dares_112 : decode cX12_dares 112 = .ok (.iload 7, 2) := by decide +kernel
theorem dX12_dares_114 : decode cX12_dares 114 = .ok (.goto 5, 3) := by decide +kernel
theorem dX12_dares_117 : decode cX12_dares 117 = .ok (.iload 6, 2) := by decide +kernel
theorem dX12_dares_119 : decode cX12_dares 119 = .ok (.istore 6, 2) := by decide +kernel
theorem dX12_dares_121 : decode cX12_dares 121 = .ok (.aload_n 0, 1) := by decide +kernel
theorem dX12_dares_122 : decode cX12_dares 122 = .ok (.iload_n 2, 1) := by decide +kernel
theorem dX12_dares_123 : decode cX12_dares 123 = .ok (.bipush 10, 2) := by decide +kernel
theorem dX12_dares_125 : decode cX12_dares 125 = .ok (.iload 7, 2) := by decide +kernel
theorem dX12_dares_127 : decode cX12_dares 127 = .ok (.isub, 1) := by decide +kernel
theorem dX12_dares_128 : decode cX12_dares 128 = .ok (.invokevirtual 419, 3) := by decide +kernel
theorem dX12_dares_131 : decode cX12_dares 131 = .ok (.aload_n 0, 1) := by decide +kernel
theorem dX12_dares_132 : decode cX12_dares 132 = .ok (.iload_n 2, 1) := by decide +kernel
theorem dX12_dares_133 : decode cX12_dares 133 = .ok (.iload 5, 2) := by decide +kernel
theorem dX12_dares_135 : decode cX12_dares 135 = .ok (.invokevirtual 419, 3) := by decide +kernel
theorem dX12_dares_138 : decode cX12_dares 138 = .ok (.if_icmp .le 11, 3) := by decide +kernel
theorem dX12_dares_141 : decode cX12_dares 141 = .ok (.bipush 10, 2) := by decide +kernel
theorem dX12_dares_143 : decode cX12_dares 143 = .ok (.iload 7, 2) := by decide +kernel
theorem dX12_dares_145 : decode cX12_dares 145 = .ok (.isub, 1) := by decide +kernel
theorem dX12_dares_146 : decode cX12_dares 146 = .ok (.goto 5, 3) := by decide +kernel
theorem dX12_dares_149 : decode cX12_dares 149 = .ok (.iload 5, 2) := by decide +kernel
theorem dX12_dares_151 : decode cX12_dares 151 = .ok (.istore 5, 2) := by decide +kernel
theorem dX12_dares_153 : decode cX12_dares 153 = .ok (.iinc 7 (-1), 3) := by decide +kernel
theorem dX12_dares_156 : decode cX12_dares 156 = .ok (.goto (-59), 3) := by decide +kernel
theorem dX12_dares_159 : decode cX12_dares 159 = .ok (.iload 4, 2) := by decide +kernel
theorem dX12_dares_161 : decode cX12_dares 161 = .ok (.iconst 3, 1) := by decide +kernel
theorem dX12_dares_162 : decode cX12_dares 162 = .ok (.if_icmp .ne 8, 3) := by decide +kernel
theorem dX12_dares_165 : decode cX12_dares 165 = .ok (.iload 6, 2) := by decide +kernel
theorem dX12_dares_167 : decode cX12_dares 167 = .ok (.goto 5, 3) := by decide +kernel
theorem dX12_dares_170 : decode cX12_dares 170 = .ok (.iload 5, 2) := by decide +kernel
theorem dX12_dares_172 : decode cX12_dares 172 = .ok (.ireturn, 1) := by decide +kernel
def is_X12_dares : Nat → List Nat := fun d => if d = 97 then [0, 2, 4, 5, 6, 7] else []
set_option maxRecDepth 100000 in
def b_X12_dares_172 (J : Nat → List qV → List qV → qW → Prop) (Q : qR) : qK := x_iret Q
set_option maxRecDepth 100000 in
theorem s_X12_dares_172 {p : Program} {l : Launch} {e : Env} {R : Room} {s : State} {m : MethodId} {args : Array Value} {below : List Frame} {meth : Method} {c : Code} {nW : Nat} {dC : Nat → ClassId} {dI : Nat → Nat → Nat} {k : Nat → ClassId} {g : Nat → Nat} {A : Nat → Prop} {J : Nat → List qV → List qV → qW → Prop} {Q : qR} (X : q_X p R s m args meth c cX12_dares 8 nW 3 69 RX12 (some .int) dC dI k g A) (hJ : ∀ d : Nat, q_Sd p l e R s m args below meth c 8 nW dC dI k g A (MQ below (q_post (dC, dI) k g nW Q A) args s 0 0 A) d (x_cut (is_X12_dares d) (J d))) : q_Sd p l e R s m args below meth c 8 nW dC dI k g A (MQ below (q_post (dC, dI) k g nW Q A) args s 0 0 A) 172 (b_X12_dares_172 J Q) := by
  unfold b_X12_dares_172
  exact s_iret X dX12_dares_172
set_option maxRecDepth 100000 in
def b_X12_dares_151 (J : Nat → List qV → List qV → qW → Prop) (Q : qR) : qK := x_istore 5 (x_iinc 7 (-1) (x_cut [0, 2, 4, 5, 6, 7] (J 97)))
set_option maxRecDepth 100000 in
theorem s_X12_dares_151 {p : Program} {l : Launch} {e : Env} {R : Room} {s : State} {m : MethodId} {args : Array Value} {below : List Frame} {meth : Method} {c : Code} {nW : Nat} {dC : Nat → ClassId} {dI : Nat → Nat → Nat} {k : Nat → ClassId} {g : Nat → Nat} {A : Nat → Prop} {J : Nat → List qV → List qV → qW → Prop} {Q : qR} (X : q_X p R s m args meth c cX12_dares 8 nW 3 69 RX12 (some .int) dC dI k g A) (hJ : ∀ d : Nat, q_Sd p l e R s m args below meth c 8 nW dC dI k g A (MQ below (q_post (dC, dI) k g nW Q A) args s 0 0 A) d (x_cut (is_X12_dares d) (J d))) : q_Sd p l e R s m args below meth c 8 nW dC dI k g A (MQ below (q_post (dC, dI) k g nW Q A) args s 0 0 A) 151 (b_X12_dares_151 J Q) := by
  unfold b_X12_dares_151
  refine s_istore X (by decide) dX12_dares_151 ?_
  refine s_iinc X (by decide) dX12_dares_153 ?_
  refine s_goto X (tgt := 97) dX12_dares_156 (by decide) ?_
  exact hJ 97
set_option maxRecDepth 100000 in
def b_X12_dares_119 (J : Nat → List qV → List qV → qW → Prop) (Q : qR) : qK := x_istore 6 (x_aload 0 (x_iload 2 (x_int 10 (x_iload 7 (x_isub (x_callr (some 12) 3 spr_X12_taken (x_aload 0 (x_iload 2 (x_iload 5 (x_callr (some 12) 3 spr_X12_taken (x_icmp_le (x_iload 5 (b_X12_dares_151 J Q)) (x_int 10 (x_iload 7 (x_isub (b_X12_dares_151 J Q)))))))))))))))
set_option maxRecDepth 100000 in
theorem s_X12_dares_119 {p : Program} {l : Launch} {e : Env} {R : Room} {s : State} {m : MethodId} {args : Array Value} {below : List Frame} {meth : Method} {c : Code} {nW : Nat} {dC : Nat → ClassId} {dI : Nat → Nat → Nat} {k : Nat → ClassId} {g : Nat → Nat} {A : Nat → Prop} {J : Nat → List qV → List qV → qW → Prop} {Q : qR} (X : q_X p R s m args meth c cX12_dares 8 nW 3 69 RX12 (some .int) dC dI k g A) (hJ : ∀ d : Nat, q_Sd p l e R s m args below meth c 8 nW dC dI k g A (MQ below (q_post (dC, dI) k g nW Q A) args s 0 0 A) d (x_cut (is_X12_dares d) (J d))) : q_Sd p l e R s m args below meth c 8 nW dC dI k g A (MQ below (q_post (dC, dI) k g nW Q A) args s 0 0 A) 119 (b_X12_dares_119 J Q) := by
  unfold b_X12_dares_119
  refine s_istore X (by decide) dX12_dares_119 ?_
  refine s_aload_n X rfl dX12_dares_121 ?_
  refine s_iload_n X rfl dX12_dares_122 ?_
  refine s_bipush X ⟨by decide, by decide⟩ (by decide) dX12_dares_123 ?_
  refine s_iload X dX12_dares_125 ?_
  refine s_isub X dX12_dares_127 ?_
  refine s_callVr X (m_X12_taken l) tw_1323 tw_1324 tw_1625 tw_134 tw_1325 rfl (by decide +kernel) ⟨by decide, by decide⟩ dX12_dares_128 ?_
  refine s_aload_n X rfl dX12_dares_131 ?_
  refine s_iload_n X rfl dX12_dares_132 ?_
  refine s_iload X dX12_dares_133 ?_
  refine s_callVr X (m_X12_taken l) tw_1323 tw_1324 tw_1625 tw_134 tw_1325 rfl (by decide +kernel) ⟨by decide, by decide⟩ dX12_dares_135 ?_
  refine s_icmp_le X (tgt := 149) dX12_dares_138 (by decide) ?_ ?_
  · refine s_iload X dX12_dares_149 ?_
    exact s_X12_dares_151 X hJ
  · refine s_bipush X ⟨by decide, by decide⟩ (by decide) dX12_dares_141 ?_
    refine s_iload X dX12_dares_143 ?_
    refine s_isub X dX12_dares_145 ?_
    refine s_goto X (tgt := 151) dX12_dares_146 (by decide) ?_
    exact s_X12_dares_151 X hJ
set_option maxRecDepth 100000 in
def b_X12_dares_97 (J : Nat → List qV → List qV → qW → Prop) (Q : qR) : qK := x_iload 7 (x_if_le (x_iload 4 (x_int 3 (x_icmp_ne (x_iload 5 (b_X12_dares_172 J Q)) (x_iload 6 (b_X12_dares_172 J Q))))) (x_aload 0 (x_iload 2 (x_iload 7 (x_callr (some 12) 3 spr_X12_daring (x_if_ne (x_iload 6 (b_X12_dares_119 J Q)) (x_iload 7 (b_X12_dares_119 J Q))))))))
set_option maxRecDepth 100000 in
theorem s_X12_dares_97 {p : Program} {l : Launch} {e : Env} {R : Room} {s : State} {m : MethodId} {args : Array Value} {below : List Frame} {meth : Method} {c : Code} {nW : Nat} {dC : Nat → ClassId} {dI : Nat → Nat → Nat} {k : Nat → ClassId} {g : Nat → Nat} {A : Nat → Prop} {J : Nat → List qV → List qV → qW → Prop} {Q : qR} (X : q_X p R s m args meth c cX12_dares 8 nW 3 69 RX12 (some .int) dC dI k g A) (hJ : ∀ d : Nat, q_Sd p l e R s m args below meth c 8 nW dC dI k g A (MQ below (q_post (dC, dI) k g nW Q A) args s 0 0 A) d (x_cut (is_X12_dares d) (J d))) : q_Sd p l e R s m args below meth c 8 nW dC dI k g A (MQ below (q_post (dC, dI) k g nW Q A) args s 0 0 A) 97 (b_X12_dares_97 J Q) := by
  unfold b_X12_dares_97
  refine s_iload X dX12_dares_97 ?_
  refine s_if_le X (tgt := 159) dX12_dares_99 (by decide) ?_ ?_
  · refine s_iload X dX12_dares_159 ?_
    refine s_iconst X ⟨by decide, by decide⟩ dX12_dares_161 ?_
    refine s_icmp_ne X (tgt := 170) dX12_dares_162 (by decide) ?_ ?_
    · refine s_iload X dX12_dares_170 ?_
      exact s_X12_dares_172 X hJ
    · refine s_iload X dX12_dares_165 ?_
      refine s_goto X (tgt := 172) dX12_dares_167 (by decide) ?_
      exact s_X12_dares_172 X hJ
  · refine s_aload_n X rfl dX12_dares_102 ?_
    refine s_iload_n X rfl dX12_dares_103 ?_
    refine s_iload X dX12_dares_104 ?_
    refine s_callVr X (m_X12_daring l) tw_1317 tw_1318 tw_1557 tw_134 tw_1319 rfl (by decide +kernel) ⟨by decide, by decide⟩ dX12_dares_106 ?_
    refine s_if_ne X (tgt := 117) dX12_dares_109 (by decide) ?_ ?_
    · refine s_iload X dX12_dares_117 ?_
      exact s_X12_dares_119 X hJ
    · refine s_iload X dX12_dares_112 ?_
      refine s_goto X (tgt := 119) dX12_dares_114 (by decide) ?_
      exact s_X12_dares_119 X hJ
set_option maxRecDepth 100000 in
def b_X12_dares_86 (J : Nat → List qV → List qV → qW → Prop) (Q : qR) : qK := x_iret Q
set_option maxRecDepth 100000 in
theorem s_X12_dares_86 {p : Program} {l : Launch} {e : Env} {R : Room} {s : State} {m : MethodId} {args : Array Value} {below : List Frame} {meth : Method} {c : Code} {nW : Nat} {dC : Nat → ClassId} {dI : Nat → Nat → Nat} {k : Nat → ClassId} {g : Nat → Nat} {A : Nat → Prop} {J : Nat → List qV → List qV → qW → Prop} {Q : qR} (X : q_X p R s m args meth c cX12_dares 8 nW 3 69 RX12 (some .int) dC dI k g A) (hJ : ∀ d : Nat, q_Sd p l e R s m args below meth c 8 nW dC dI k g A (MQ below (q_post (dC, dI) k g nW Q A) args s 0 0 A) d (x_cut (is_X12_dares d) (J d))) : q_Sd p l e R s m args below meth c 8 nW dC dI k g A (MQ below (q_post (dC, dI) k g nW Q A) args s 0 0 A) 86 (b_X12_dares_86 J Q) := by
  unfold b_X12_dares_86
  exact s_iret X dX12_dares_86
set_option maxRecDepth 100000 in
def b_X12_dares_42 (J : Nat → List qV → List qV → qW → Prop) (Q : qR) : qK := x_int (-2) (x_iret Q)
set_option maxRecDepth 100000 in
theorem s_X12_dares_42 {p : Program} {l : Launch} {e : Env} {R : Room} {s : State} {m : MethodId} {args : Array Value} {below : List Frame} {meth : Method} {c : Code} {nW : Nat} {dC : Nat → ClassId} {dI : Nat → Nat → Nat} {k : Nat → ClassId} {g : Nat → Nat} {A : Nat → Prop} {J : Nat → List qV → List qV → qW → Prop} {Q : qR} (X : q_X p R s m args meth c cX12_dares 8 nW 3 69 RX12 (some .int) dC dI k g A) (hJ : ∀ d : Nat, q_Sd p l e R s m args below meth c 8 nW dC dI k g A (MQ below (q_post (dC, dI) k g nW Q A) args s 0 0 A) d (x_cut (is_X12_dares d) (J d))) : q_Sd p l e R s m args below meth c 8 nW dC dI k g A (MQ below (q_post (dC, dI) k g nW Q A) args s 0 0 A) 42 (b_X12_dares_42 J Q) := by
  unfold b_X12_dares_42
  refine s_bipush X ⟨by decide, by decide⟩ (by decide) dX12_dares_42 ?_
  exact s_iret X dX12_dares_44
set_option maxRecDepth 100000 in
def b_X12_dares_0 (J : Nat → List qV → List qV → qW → Prop) (Q : qR) : qK := x_aload 0 (x_int 0 (x_put 12 0 q_oki (x_nw (x_aload 0 (x_iload 1 (x_call (some 12) 2 sp_X12_hand (x_nw (x_if_eq (b_X12_dares_42 J Q) (x_iload 2 (x_int 0 (x_int 3 (x_callr none 3 spr_X12_in (x_if_eq (b_X12_dares_42 J Q) (x_iload 3 (x_int 1 (x_int 9 (x_callr none 3 spr_X12_in (x_if_eq (b_X12_dares_42 J Q) (x_iload 4 (x_int 0 (x_int 4 (x_callr none 3 spr_X12_in (x_if_ne (x_iload 4 (x_int 3 (x_icmp_ge (x_int 1 (x_istore 5 (x_int (-1) (x_istore 6 (x_int 9 (x_istore 7 (x_cut [0, 2, 4, 5, 6, 7] (J 97)))))))) (x_iload 4 (x_if_ne (x_iload 4 (x_int 1 (x_icmp_ne (x_aload 0 (x_iload 2 (x_iload 3 (x_callr (some 12) 3 spr_X12_taken (b_X12_dares_86 J Q))))) (x_aload 0 (x_iload 2 (x_iload 3 (x_callr (some 12) 3 spr_X12_harm (b_X12_dares_86 J Q)))))))) (x_aload 0 (x_iload 2 (x_iload 3 (x_callr (some 12) 3 spr_X12_daring (b_X12_dares_86 J Q)))))))))) (b_X12_dares_42 J Q))))))))))))))))))))))))
set_option maxRecDepth 100000 in
theorem s_X12_dares_0 {p : Program} {l : Launch} {e : Env} {R : Room} {s : State} {m : MethodId} {args : Array Value} {below : List Frame} {meth : Method} {c : Code} {nW : Nat} {dC : Nat → ClassId} {dI : Nat → Nat → Nat} {k : Nat → ClassId} {g : Nat → Nat} {A : Nat → Prop} {J : Nat → List qV → List qV → qW → Prop} {Q : qR} (X : q_X p R s m args meth c cX12_dares 8 nW 3 69 RX12 (some .int) dC dI k g A) (hJ : ∀ d : Nat, q_Sd p l e R s m args below meth c 8 nW dC dI k g A (MQ below (q_post (dC, dI) k g nW Q A) args s 0 0 A) d (x_cut (is_X12_dares d) (J d))) : q_Sd p l e R s m args below meth c 8 nW dC dI k g A (MQ below (q_post (dC, dI) k g nW Q A) args s 0 0 A) 0 (b_X12_dares_0 J Q) := by
  unfold b_X12_dares_0
  refine s_aload_n X rfl dX12_dares_0 ?_
  refine s_iconst X ⟨by decide, by decide⟩ dX12_dares_1 ?_
  refine s_put X (T := TX12) (C := RX12) (N := 45) tu_X12 tyX12_ok nmX12 rfl (by decide) tw_997 rfl (by decide +kernel) q_oki_t dX12_dares_2 ?_
  refine s_nw ?_
  refine s_aload_n X rfl dX12_dares_5 ?_
  refine s_iload_n X rfl dX12_dares_6 ?_
  refine s_callV X (m_X12_hand l) tw_1186 tw_1187 tw_1585 tw_134 tw_1188 rfl (by decide +kernel) ⟨by decide, by decide⟩ dX12_dares_7 ?_
  refine s_nw ?_
  refine s_if_eq X (tgt := 42) dX12_dares_10 (by decide) ?_ ?_
  · exact s_X12_dares_42 X hJ
  · refine s_iload_n X rfl dX12_dares_13 ?_
    refine s_iconst X ⟨by decide, by decide⟩ dX12_dares_14 ?_
    refine s_iconst X ⟨by decide, by decide⟩ dX12_dares_15 ?_
    refine s_callSr X (m_X12_in l) tw_1054 tw_1055 tw_134 tw_1056 (by decide +kernel) ⟨by decide, by decide⟩ dX12_dares_16 ?_
    refine s_if_eq X (tgt := 42) dX12_dares_19 (by decide) ?_ ?_
    · exact s_X12_dares_42 X hJ
    · refine s_iload_n X rfl dX12_dares_22 ?_
      refine s_iconst X ⟨by decide, by decide⟩ dX12_dares_23 ?_
      refine s_bipush X ⟨by decide, by decide⟩ (by decide) dX12_dares_24 ?_
      refine s_callSr X (m_X12_in l) tw_1054 tw_1055 tw_134 tw_1056 (by decide +kernel) ⟨by decide, by decide⟩ dX12_dares_26 ?_
      refine s_if_eq X (tgt := 42) dX12_dares_29 (by decide) ?_ ?_
      · exact s_X12_dares_42 X hJ
      · refine s_iload X dX12_dares_32 ?_
        refine s_iconst X ⟨by decide, by decide⟩ dX12_dares_34 ?_
        refine s_iconst X ⟨by decide, by decide⟩ dX12_dares_35 ?_
        refine s_callSr X (m_X12_in l) tw_1054 tw_1055 tw_134 tw_1056 (by decide +kernel) ⟨by decide, by decide⟩ dX12_dares_36 ?_
        refine s_if_ne X (tgt := 45) dX12_dares_39 (by decide) ?_ ?_
        · refine s_iload X dX12_dares_45 ?_
          refine s_iconst X ⟨by decide, by decide⟩ dX12_dares_47 ?_
          refine s_icmp_ge X (tgt := 87) dX12_dares_48 (by decide) ?_ ?_
          · refine s_iconst X ⟨by decide, by decide⟩ dX12_dares_87 ?_
            refine s_istore X (by decide) dX12_dares_88 ?_
            refine s_iconst X ⟨by decide, by decide⟩ dX12_dares_90 ?_
            refine s_istore X (by decide) dX12_dares_91 ?_
            refine s_bipush X ⟨by decide, by decide⟩ (by decide) dX12_dares_93 ?_
            refine s_istore X (by decide) dX12_dares_95 ?_
            exact hJ 97
          · refine s_iload X dX12_dares_51 ?_
            refine s_if_ne X (tgt := 65) dX12_dares_53 (by decide) ?_ ?_
            · refine s_iload X dX12_dares_65 ?_
              refine s_iconst X ⟨by decide, by decide⟩ dX12_dares_67 ?_
              refine s_icmp_ne X (tgt := 80) dX12_dares_68 (by decide) ?_ ?_
              · refine s_aload_n X rfl dX12_dares_80 ?_
                refine s_iload_n X rfl dX12_dares_81 ?_
                refine s_iload_n X rfl dX12_dares_82 ?_
                refine s_callVr X (m_X12_taken l) tw_1323 tw_1324 tw_1625 tw_134 tw_1325 rfl (by decide +kernel) ⟨by decide, by decide⟩ dX12_dares_83 ?_
                exact s_X12_dares_86 X hJ
              · refine s_aload_n X rfl dX12_dares_71 ?_
                refine s_iload_n X rfl dX12_dares_72 ?_
                refine s_iload_n X rfl dX12_dares_73 ?_
                refine s_callVr X (m_X12_harm l) tw_1320 tw_1321 tw_1586 tw_134 tw_1322 rfl (by decide +kernel) ⟨by decide, by decide⟩ dX12_dares_74 ?_
                refine s_goto X (tgt := 86) dX12_dares_77 (by decide) ?_
                exact s_X12_dares_86 X hJ
            · refine s_aload_n X rfl dX12_dares_56 ?_
              refine s_iload_n X rfl dX12_dares_57 ?_
              refine s_iload_n X rfl dX12_dares_58 ?_
              refine s_callVr X (m_X12_daring l) tw_1317 tw_1318 tw_1557 tw_134 tw_1319 rfl (by decide +kernel) ⟨by decide, by decide⟩ dX12_dares_59 ?_
              refine s_goto X (tgt := 86) dX12_dares_62 (by decide) ?_
              exact s_X12_dares_86 X hJ
        · exact s_X12_dares_42 X hJ

def sp_X12_dares : qS := fun av w Q => ∃ (mco : Int) (mre : Int) (mle : Int) (mbe : Int) (mso : Int) (mva : Int) (mwo : Int) (mwr : Int) (mlf : Int) (mlp : Int) (mfp : Int) (mfd : Int) (mgo : Int) (mbo : Int) (mpe : Int) (mye : Int) (mpr : Int) (mld : Int) (msi : Int) (mse : Int) (mn : Nat → Int) (bs : Nat → Int) (a : Int) (b : Int) (cc : Int) (dd : Int), av = [q2 0, q1 a, q1 b, q1 cc, q1 dd] ∧ w = [.inr (12, [q1 mco, q2 3, q2 4, q2 5, q2 6, q2 1, q2 2, q2 7, q2 8, q2 9, q1 mre, q1 mle, q1 mbe, q1 mso, q1 mva, q3 mwo, q1 mwr, q1 mlf, q1 mlp, q2 10, q2 11, q1 mfp, q1 mfd, q1 mgo, q1 mbo, q1 mpe, q1 mye, q2 12, q1 mpr, q2 13, q2 14, q2 15, q2 16, q1 mld, q2 17, q1 msi, q2 18, q2 19, q2 20, q2 21, q2 22, q1 mse, q2 23, q2 24, q2 25]), .inl (0, 16, .inl mn), .inl (0, 600, .inl bs)] ∧ (q_rg 0 2 mn) ∧ (BI bs) ∧ (∀ (r : Int) (x_mco : Int) (x_mbo : Int) (x_mpe : Int), Q (some (q1 r)) ([.inr (12, [q1 x_mco, q2 3, q2 4, q2 5, q2 6, q2 1, q2 2, q2 7, q2 8, q2 9, q1 mre, q1 mle, q1 mbe, q1 mso, q1 mva, q3 mwo, q1 mwr, q1 mlf, q1 mlp, q2 10, q2 11, q1 mfp, q1 mfd, q1 mgo, q1 x_mbo, q1 x_mpe, q1 mye, q2 12, q1 mpr, q2 13, q2 14, q2 15, q2 16, q1 mld, q2 17, q1 msi, q2 18, q2 19, q2 20, q2 21, q2 22, q1 mse, q2 23, q2 24, q2 25]), .inl (0, 16, .inl mn), .inl (0, 600, .inl bs)]))
def I_X12_dares (mco : Int) (mre : Int) (mle : Int) (mbe : Int) (mso : Int) (mva : Int) (mwo : Int) (mwr : Int) (mlf : Int) (mlp : Int) (mfp : Int) (mfd : Int) (mgo : Int) (mbo : Int) (mpe : Int) (mye : Int) (mpr : Int) (mld : Int) (msi : Int) (mse : Int) (mn : Nat → Int) (bs : Nat → Int) (a : Int) (b : Int) (cc : Int) (dd : Int) : Nat → Nat → List qV → List qV → qW → Prop := fun dz mz vz sz wz => if dz = 97 then (∃ (y_mco : Int) (y_mbo : Int) (y_mpe : Int) (v5 : Int) (v6 : Int) (v7 : Int), vz = [q2 0, q1 b, q1 dd, q1 v5, q1 v6, q1 v7] ∧ sz = [] ∧ wz = [.inr (12, [q1 y_mco, q2 3, q2 4, q2 5, q2 6, q2 1, q2 2, q2 7, q2 8, q2 9, q1 mre, q1 mle, q1 mbe, q1 mso, q1 mva, q3 mwo, q1 mwr, q1 mlf, q1 mlp, q2 10, q2 11, q1 mfp, q1 mfd, q1 mgo, q1 y_mbo, q1 y_mpe, q1 mye, q2 12, q1 mpr, q2 13, q2 14, q2 15, q2 16, q1 mld, q2 17, q1 msi, q2 18, q2 19, q2 20, q2 21, q2 22, q1 mse, q2 23, q2 24, q2 25]), .inl (0, 16, .inl mn), .inl (0, 600, .inl bs)] ∧ mz = v7.toNat ∧ (0 ≤ y_mbo ∧ y_mbo ≤ 1 ∧ 0 ≤ y_mpe ∧ y_mpe ≤ 8) ∧ (0 ≤ v7 ∧ v7 ≤ 9 ∧ 0 ≤ b ∧ b ≤ 3)) else False
set_option maxHeartbeats 4000000 in
set_option maxRecDepth 100000 in
theorem m_X12_dares (l : Launch) : q_M l yX12_dares cX12_dares 8 (some .int) 3 69 sp_X12_dares := by
  refine q_meth (by decide) (fun av w Q h => by obtain ⟨mco, mre, mle, mbe, mso, mva, mwo, mwr, mlf, mlp, mfp, mfd, mgo, mbo, mpe, mye, mpr, mld, msi, mse, mn, bs, a, b, cc, dd, rfl, rfl, hmn, hbi, hQ⟩ := h; exact Nat.le_of_ble_eq_true rfl) ?_
  intro p e R s m args below meth c dC dI k g A av w Q hsp oka okw X
  obtain ⟨mco, mre, mle, mbe, mso, mva, mwo, mwr, mlf, mlp, mfp, mfd, mgo, mbo, mpe, mye, mpr, mld, msi, mse, mn, bs, a, b, cc, dd, rfl, rfl, hmn, hbi, hQ⟩ := hsp
  have o_a : -2147483648 ≤ a ∧ a ≤ 2147483647 := oka _ (List.mem_of_getElem? (i := 1) rfl)
  have o_b : -2147483648 ≤ b ∧ b ≤ 2147483647 := oka _ (List.mem_of_getElem? (i := 2) rfl)
  have o_cc : -2147483648 ≤ cc ∧ cc ≤ 2147483647 := oka _ (List.mem_of_getElem? (i := 3) rfl)
  have o_dd : -2147483648 ≤ dd ∧ dd ≤ 2147483647 := oka _ (List.mem_of_getElem? (i := 4) rfl)
  refine s_mono (s_X12_dares_0 X (J := fun dz vz sz wz => ∃ mz, I_X12_dares mco mre mle mbe mso mva mwo mwr mlf mlp mfp mfd mgo mbo mpe mye mpr mld msi mse mn bs a b cc dd dz mz vz sz wz) (q_loopn (I_X12_dares mco mre mle mbe mso mva mwo mwr mlf mlp mfp mfd mgo mbo mpe mye mpr mld msi mse mn bs a b cc dd) (fun dz J => if dz = 97 then b_X12_dares_97 J Q else q_F) ?hs ?hv)) ?_
  case hs =>
    intro d J hJ
    by_cases h97 : d = 97
    · subst h97; exact s_X12_dares_97 X hJ
    simp only [h97, if_false]
    exact s_F
  case hv =>
    intro dz mz vz sz wz hI okv oks okw hlen
    by_cases h97 : dz = 97
    · subst h97
      obtain ⟨y_mco, y_mbo, y_mpe, v5, v6, v7, rfl, rfl, rfl, hn, hyb, hp⟩ := hI
      apply And.intro
      · intro h99
        apply And.intro
        · intro h162
          exact hQ _ _ _ _
        · intro h162
          exact hQ _ _ _ _
      · intro h99
        refine Exists.intro [0, 2, 3, 4, 5, 6, 1, 7, 8, 9, 10, 11, 12, 13, 14, 15, 16, 17, 18, 19, 20, 21, 22, 23, 24, 25] (Exists.intro [q2 0, q1 _, q1 _] (Exists.intro ([.inr (12, [q1 _, q2 2, q2 3, q2 4, q2 5, q2 6, q2 1, q2 7, q2 8, q2 9, q1 _, q1 _, q1 _, q1 _, q1 _, q3 _, q1 _, q1 _, q1 _, q2 10, q2 11, q1 _, q1 _, q1 _, q1 _, q1 _, q1 _, q2 12, q1 _, q2 13, q2 14, q2 15, q2 16, q1 _, q2 17, q1 _, q2 18, q2 19, q2 20, q2 21, q2 22, q1 _, q2 23, q2 24, q2 25]), .inl (0, 600, .inl _)]) (And.intro rfl (And.intro rfl (And.intro rfl (And.intro ⟨⟨_, rfl⟩, rfl⟩ ?_))))))
        refine Exists.intro _ (Exists.intro _ (Exists.intro _ (Exists.intro _ (Exists.intro _ (Exists.intro _ (Exists.intro _ (Exists.intro _ (Exists.intro _ (Exists.intro _ (Exists.intro _ (Exists.intro _ (Exists.intro _ (Exists.intro _ (Exists.intro _ (Exists.intro _ (Exists.intro _ (Exists.intro _ (Exists.intro _ (Exists.intro _ (Exists.intro _ (Exists.intro _ (Exists.intro _ (And.intro rfl (And.intro rfl (And.intro (by first | omega | assumption | exact q_rg_up (by assumption) (by omega) | exact q_rg_up (q_rg_up (by assumption) (by omega)) (by omega) | exact q_rg_cpy (by assumption) (by assumption)) (And.intro (by first | omega | assumption | exact q_rg_up (by assumption) (by omega) | exact q_rg_up (q_rg_up (by assumption) (by omega)) (by omega) | exact q_rg_cpy (by assumption) (by assumption)) (And.intro (by first | omega | assumption | exact q_rg_up (by assumption) (by omega) | exact q_rg_up (q_rg_up (by assumption) (by omega)) (by omega) | exact q_rg_cpy (by assumption) (by assumption)) (And.intro (by first | omega | assumption | exact q_rg_up (by assumption) (by omega) | exact q_rg_up (q_rg_up (by assumption) (by omega)) (by omega) | exact q_rg_cpy (by assumption) (by assumption)) (?_)))))))))))))))))))))))))))))
        intro z106
        apply And.intro
        · intro h109
          intro z127 h127
          first | replace h127 := e_sub h127 (by omega) | replace h127 := e_rng h127
          refine Exists.intro [0, 2, 3, 4, 5, 6, 1, 7, 8, 9, 10, 11, 12, 13, 14, 15, 16, 17, 18, 19, 20, 21, 22, 23, 24, 25] (Exists.intro [q2 0, q1 _, q1 _] (Exists.intro ([.inr (12, [q1 _, q2 2, q2 3, q2 4, q2 5, q2 6, q2 1, q2 7, q2 8, q2 9, q1 _, q1 _, q1 _, q1 _, q1 _, q3 _, q1 _, q1 _, q1 _, q2 10, q2 11, q1 _, q1 _, q1 _, q1 _, q1 _, q1 _, q2 12, q1 _, q2 13, q2 14, q2 15, q2 16, q1 _, q2 17, q1 _, q2 18, q2 19, q2 20, q2 21, q2 22, q1 _, q2 23, q2 24, q2 25]), .inl (0, 600, .inl _)]) (And.intro rfl (And.intro rfl (And.intro rfl (And.intro ⟨⟨_, rfl⟩, rfl⟩ ?_))))))
          refine Exists.intro _ (Exists.intro _ (Exists.intro _ (Exists.intro _ (Exists.intro _ (Exists.intro _ (Exists.intro _ (Exists.intro _ (Exists.intro _ (Exists.intro _ (Exists.intro _ (Exists.intro _ (Exists.intro _ (Exists.intro _ (Exists.intro _ (Exists.intro _ (Exists.intro _ (Exists.intro _ (Exists.intro _ (Exists.intro _ (Exists.intro _ (Exists.intro _ (Exists.intro _ (And.intro rfl (And.intro rfl (And.intro (by first | omega | assumption | exact q_rg_up (by assumption) (by omega) | exact q_rg_up (q_rg_up (by assumption) (by omega)) (by omega) | exact q_rg_cpy (by assumption) (by assumption)) (And.intro (by first | omega | assumption | exact q_rg_up (by assumption) (by omega) | exact q_rg_up (q_rg_up (by assumption) (by omega)) (by omega) | exact q_rg_cpy (by assumption) (by assumption)) (And.intro (by first | omega | assumption | exact q_rg_up (by assumption) (by omega) | exact q_rg_up (q_rg_up (by assumption) (by omega)) (by omega) | exact q_rg_cpy (by assumption) (by assumption)) (And.intro (by first | omega | assumption | exact q_rg_up (by assumption) (by omega) | exact q_rg_up (q_rg_up (by assumption) (by omega)) (by omega) | exact q_rg_cpy (by assumption) (by assumption)) (?_)))))))))))))))))))))))))))))
          intro z128
          refine Exists.intro [0, 2, 3, 4, 5, 6, 1, 7, 8, 9, 10, 11, 12, 13, 14, 15, 16, 17, 18, 19, 20, 21, 22, 23, 24, 25] (Exists.intro [q2 0, q1 _, q1 _] (Exists.intro ([.inr (12, [q1 _, q2 2, q2 3, q2 4, q2 5, q2 6, q2 1, q2 7, q2 8, q2 9, q1 _, q1 _, q1 _, q1 _, q1 _, q3 _, q1 _, q1 _, q1 _, q2 10, q2 11, q1 _, q1 _, q1 _, q1 _, q1 _, q1 _, q2 12, q1 _, q2 13, q2 14, q2 15, q2 16, q1 _, q2 17, q1 _, q2 18, q2 19, q2 20, q2 21, q2 22, q1 _, q2 23, q2 24, q2 25]), .inl (0, 600, .inl _)]) (And.intro rfl (And.intro rfl (And.intro rfl (And.intro ⟨⟨_, rfl⟩, rfl⟩ ?_))))))
          refine Exists.intro _ (Exists.intro _ (Exists.intro _ (Exists.intro _ (Exists.intro _ (Exists.intro _ (Exists.intro _ (Exists.intro _ (Exists.intro _ (Exists.intro _ (Exists.intro _ (Exists.intro _ (Exists.intro _ (Exists.intro _ (Exists.intro _ (Exists.intro _ (Exists.intro _ (Exists.intro _ (Exists.intro _ (Exists.intro _ (Exists.intro _ (Exists.intro _ (Exists.intro _ (And.intro rfl (And.intro rfl (And.intro (by first | omega | assumption | exact q_rg_up (by assumption) (by omega) | exact q_rg_up (q_rg_up (by assumption) (by omega)) (by omega) | exact q_rg_cpy (by assumption) (by assumption)) (And.intro (by first | omega | assumption | exact q_rg_up (by assumption) (by omega) | exact q_rg_up (q_rg_up (by assumption) (by omega)) (by omega) | exact q_rg_cpy (by assumption) (by assumption)) (And.intro (by first | omega | assumption | exact q_rg_up (by assumption) (by omega) | exact q_rg_up (q_rg_up (by assumption) (by omega)) (by omega) | exact q_rg_cpy (by assumption) (by assumption)) (And.intro (by first | omega | assumption | exact q_rg_up (by assumption) (by omega) | exact q_rg_up (q_rg_up (by assumption) (by omega)) (by omega) | exact q_rg_cpy (by assumption) (by assumption)) (?_)))))))))))))))))))))))))))))
          intro z135
          apply And.intro
          · intro h138
            intro z153 h153
            first | replace h153 := e_add h153 (by omega) | replace h153 := e_rng h153
            exact ⟨_, ⟨_, _, _, _, _, _, rfl, rfl, rfl, rfl, (by first | omega | assumption | exact q_rg_up (by assumption) (by omega) | exact q_rg_up (q_rg_up (by assumption) (by omega)) (by omega) | exact q_rg_cpy (by assumption) (by assumption)), (by first | omega | assumption | exact q_rg_up (by assumption) (by omega) | exact q_rg_up (q_rg_up (by assumption) (by omega)) (by omega) | exact q_rg_cpy (by assumption) (by assumption))⟩, by omega⟩
          · intro h138
            intro z145 h145
            first | replace h145 := e_sub h145 (by omega) | replace h145 := e_rng h145
            intro z153 h153
            first | replace h153 := e_add h153 (by omega) | replace h153 := e_rng h153
            exact ⟨_, ⟨_, _, _, _, _, _, rfl, rfl, rfl, rfl, (by first | omega | assumption | exact q_rg_up (by assumption) (by omega) | exact q_rg_up (q_rg_up (by assumption) (by omega)) (by omega) | exact q_rg_cpy (by assumption) (by assumption)), (by first | omega | assumption | exact q_rg_up (by assumption) (by omega) | exact q_rg_up (q_rg_up (by assumption) (by omega)) (by omega) | exact q_rg_cpy (by assumption) (by assumption))⟩, by omega⟩
        · intro h109
          intro z127 h127
          first | replace h127 := e_sub h127 (by omega) | replace h127 := e_rng h127
          refine Exists.intro [0, 2, 3, 4, 5, 6, 1, 7, 8, 9, 10, 11, 12, 13, 14, 15, 16, 17, 18, 19, 20, 21, 22, 23, 24, 25] (Exists.intro [q2 0, q1 _, q1 _] (Exists.intro ([.inr (12, [q1 _, q2 2, q2 3, q2 4, q2 5, q2 6, q2 1, q2 7, q2 8, q2 9, q1 _, q1 _, q1 _, q1 _, q1 _, q3 _, q1 _, q1 _, q1 _, q2 10, q2 11, q1 _, q1 _, q1 _, q1 _, q1 _, q1 _, q2 12, q1 _, q2 13, q2 14, q2 15, q2 16, q1 _, q2 17, q1 _, q2 18, q2 19, q2 20, q2 21, q2 22, q1 _, q2 23, q2 24, q2 25]), .inl (0, 600, .inl _)]) (And.intro rfl (And.intro rfl (And.intro rfl (And.intro ⟨⟨_, rfl⟩, rfl⟩ ?_))))))
          refine Exists.intro _ (Exists.intro _ (Exists.intro _ (Exists.intro _ (Exists.intro _ (Exists.intro _ (Exists.intro _ (Exists.intro _ (Exists.intro _ (Exists.intro _ (Exists.intro _ (Exists.intro _ (Exists.intro _ (Exists.intro _ (Exists.intro _ (Exists.intro _ (Exists.intro _ (Exists.intro _ (Exists.intro _ (Exists.intro _ (Exists.intro _ (Exists.intro _ (Exists.intro _ (And.intro rfl (And.intro rfl (And.intro (by first | omega | assumption | exact q_rg_up (by assumption) (by omega) | exact q_rg_up (q_rg_up (by assumption) (by omega)) (by omega) | exact q_rg_cpy (by assumption) (by assumption)) (And.intro (by first | omega | assumption | exact q_rg_up (by assumption) (by omega) | exact q_rg_up (q_rg_up (by assumption) (by omega)) (by omega) | exact q_rg_cpy (by assumption) (by assumption)) (And.intro (by first | omega | assumption | exact q_rg_up (by assumption) (by omega) | exact q_rg_up (q_rg_up (by assumption) (by omega)) (by omega) | exact q_rg_cpy (by assumption) (by assumption)) (And.intro (by first | omega | assumption | exact q_rg_up (by assumption) (by omega) | exact q_rg_up (q_rg_up (by assumption) (by omega)) (by omega) | exact q_rg_cpy (by assumption) (by assumption)) (?_)))))))))))))))))))))))))))))
          intro z128
          refine Exists.intro [0, 2, 3, 4, 5, 6, 1, 7, 8, 9, 10, 11, 12, 13, 14, 15, 16, 17, 18, 19, 20, 21, 22, 23, 24, 25] (Exists.intro [q2 0, q1 _, q1 _] (Exists.intro ([.inr (12, [q1 _, q2 2, q2 3, q2 4, q2 5, q2 6, q2 1, q2 7, q2 8, q2 9, q1 _, q1 _, q1 _, q1 _, q1 _, q3 _, q1 _, q1 _, q1 _, q2 10, q2 11, q1 _, q1 _, q1 _, q1 _, q1 _, q1 _, q2 12, q1 _, q2 13, q2 14, q2 15, q2 16, q1 _, q2 17, q1 _, q2 18, q2 19, q2 20, q2 21, q2 22, q1 _, q2 23, q2 24, q2 25]), .inl (0, 600, .inl _)]) (And.intro rfl (And.intro rfl (And.intro rfl (And.intro ⟨⟨_, rfl⟩, rfl⟩ ?_))))))
          refine Exists.intro _ (Exists.intro _ (Exists.intro _ (Exists.intro _ (Exists.intro _ (Exists.intro _ (Exists.intro _ (Exists.intro _ (Exists.intro _ (Exists.intro _ (Exists.intro _ (Exists.intro _ (Exists.intro _ (Exists.intro _ (Exists.intro _ (Exists.intro _ (Exists.intro _ (Exists.intro _ (Exists.intro _ (Exists.intro _ (Exists.intro _ (Exists.intro _ (Exists.intro _ (And.intro rfl (And.intro rfl (And.intro (by first | omega | assumption | exact q_rg_up (by assumption) (by omega) | exact q_rg_up (q_rg_up (by assumption) (by omega)) (by omega) | exact q_rg_cpy (by assumption) (by assumption)) (And.intro (by first | omega | assumption | exact q_rg_up (by assumption) (by omega) | exact q_rg_up (q_rg_up (by assumption) (by omega)) (by omega) | exact q_rg_cpy (by assumption) (by assumption)) (And.intro (by first | omega | assumption | exact q_rg_up (by assumption) (by omega) | exact q_rg_up (q_rg_up (by assumption) (by omega)) (by omega) | exact q_rg_cpy (by assumption) (by assumption)) (And.intro (by first | omega | assumption | exact q_rg_up (by assumption) (by omega) | exact q_rg_up (q_rg_up (by assumption) (by omega)) (by omega) | exact q_rg_cpy (by assumption) (by assumption)) (?_)))))))))))))))))))))))))))))
          intro z135
          apply And.intro
          · intro h138
            intro z153 h153
            first | replace h153 := e_add h153 (by omega) | replace h153 := e_rng h153
            exact ⟨_, ⟨_, _, _, _, _, _, rfl, rfl, rfl, rfl, (by first | omega | assumption | exact q_rg_up (by assumption) (by omega) | exact q_rg_up (q_rg_up (by assumption) (by omega)) (by omega) | exact q_rg_cpy (by assumption) (by assumption)), (by first | omega | assumption | exact q_rg_up (by assumption) (by omega) | exact q_rg_up (q_rg_up (by assumption) (by omega)) (by omega) | exact q_rg_cpy (by assumption) (by assumption))⟩, by omega⟩
          · intro h138
            intro z145 h145
            first | replace h145 := e_sub h145 (by omega) | replace h145 := e_rng h145
            intro z153 h153
            first | replace h153 := e_add h153 (by omega) | replace h153 := e_rng h153
            exact ⟨_, ⟨_, _, _, _, _, _, rfl, rfl, rfl, rfl, (by first | omega | assumption | exact q_rg_up (by assumption) (by omega) | exact q_rg_up (q_rg_up (by assumption) (by omega)) (by omega) | exact q_rg_cpy (by assumption) (by assumption)), (by first | omega | assumption | exact q_rg_up (by assumption) (by omega) | exact q_rg_up (q_rg_up (by assumption) (by omega)) (by omega) | exact q_rg_cpy (by assumption) (by assumption))⟩, by omega⟩
    simp only [I_X12_dares, h97, if_false] at hI
  rintro lv st w' ⟨rfl, rfl, rfl⟩
  apply And.intro
  · exact trivial
  refine Exists.intro [0, 1, 2, 3, 4, 5, 6, 7, 8, 9, 10, 11, 12, 13, 14, 15, 16, 17, 18, 19, 20, 21, 22, 23, 24, 25] (Exists.intro [q2 0, q1 _] (Exists.intro ([.inr (12, [q1 _, q2 3, q2 4, q2 5, q2 6, q2 1, q2 2, q2 7, q2 8, q2 9, q1 _, q1 _, q1 _, q1 _, q1 _, q3 _, q1 _, q1 _, q1 _, q2 10, q2 11, q1 _, q1 _, q1 _, q1 _, q1 _, q1 _, q2 12, q1 _, q2 13, q2 14, q2 15, q2 16, q1 _, q2 17, q1 _, q2 18, q2 19, q2 20, q2 21, q2 22, q1 _, q2 23, q2 24, q2 25]), .inl (0, 16, .inl _), .inl (0, 600, .inl _)]) (And.intro rfl (And.intro rfl (And.intro rfl (And.intro ⟨⟨_, rfl⟩, rfl⟩ ?_))))))
  refine Exists.intro _ (Exists.intro _ (Exists.intro _ (Exists.intro _ (Exists.intro _ (Exists.intro _ (Exists.intro _ (Exists.intro _ (Exists.intro _ (Exists.intro _ (Exists.intro _ (Exists.intro _ (Exists.intro _ (Exists.intro _ (Exists.intro _ (Exists.intro _ (Exists.intro _ (Exists.intro _ (Exists.intro _ (Exists.intro _ (Exists.intro _ (Exists.intro _ (Exists.intro _ (And.intro rfl (And.intro rfl (And.intro (by first | omega | assumption | exact q_rg_up (by assumption) (by omega) | exact q_rg_up (q_rg_up (by assumption) (by omega)) (by omega) | exact q_rg_cpy (by assumption) (by assumption)) (And.intro (by first | omega | assumption | exact q_rg_up (by assumption) (by omega) | exact q_rg_up (q_rg_up (by assumption) (by omega)) (by omega) | exact q_rg_cpy (by assumption) (by assumption)) (?_)))))))))))))))))))))))))))
  intro z7 x_mbo_7 x_mpe_7 h7
  apply And.intro
  · intro h10
    first | replace h7 := dj1 h7 h10 | replace h7 := dj0 h7 h10
    exact hQ _ _ _ _
  · intro h10
    first | replace h7 := dj1 h7 h10 | replace h7 := dj0 h7 h10
    refine Exists.intro [] (Exists.intro [q1 _, q1 _, q1 _] (Exists.intro [] (And.intro rfl (And.intro rfl (And.intro rfl (And.intro trivial ?_))))))
    refine Exists.intro _ (Exists.intro _ (Exists.intro _ (And.intro rfl (And.intro rfl (?_)))))
    intro z16 h16
    apply And.intro
    · intro h19
      first | replace h16 := dj1 h16 h19 | replace h16 := dj0 h16 h19
      exact hQ _ _ _ _
    · intro h19
      first | replace h16 := dj1 h16 h19 | replace h16 := dj0 h16 h19
      refine Exists.intro [] (Exists.intro [q1 _, q1 _, q1 _] (Exists.intro [] (And.intro rfl (And.intro rfl (And.intro rfl (And.intro trivial ?_))))))
      refine Exists.intro _ (Exists.intro _ (Exists.intro _ (And.intro rfl (And.intro rfl (?_)))))
      intro z26 h26
      apply And.intro
      · intro h29
        first | replace h26 := dj1 h26 h29 | replace h26 := dj0 h26 h29
        exact hQ _ _ _ _
      · intro h29
        first | replace h26 := dj1 h26 h29 | replace h26 := dj0 h26 h29
        refine Exists.intro [] (Exists.intro [q1 _, q1 _, q1 _] (Exists.intro [] (And.intro rfl (And.intro rfl (And.intro rfl (And.intro trivial ?_))))))
        refine Exists.intro _ (Exists.intro _ (Exists.intro _ (And.intro rfl (And.intro rfl (?_)))))
        intro z36 h36
        apply And.intro
        · intro h39
          first | replace h36 := dj1 h36 h39 | replace h36 := dj0 h36 h39
          apply And.intro
          · intro h48
            exact ⟨_, _, _, _, _, _, _, rfl, rfl, rfl, rfl, (by first | omega | assumption | exact q_rg_up (by assumption) (by omega) | exact q_rg_up (q_rg_up (by assumption) (by omega)) (by omega) | exact q_rg_cpy (by assumption) (by assumption)), (by first | omega | assumption | exact q_rg_up (by assumption) (by omega) | exact q_rg_up (q_rg_up (by assumption) (by omega)) (by omega) | exact q_rg_cpy (by assumption) (by assumption))⟩
          · intro h48
            apply And.intro
            · intro h53
              apply And.intro
              · intro h68
                refine Exists.intro [0, 2, 3, 4, 5, 6, 1, 7, 8, 9, 10, 11, 12, 13, 14, 15, 16, 17, 18, 19, 20, 21, 22, 23, 24, 25] (Exists.intro [q2 0, q1 _, q1 _] (Exists.intro ([.inr (12, [q1 _, q2 2, q2 3, q2 4, q2 5, q2 6, q2 1, q2 7, q2 8, q2 9, q1 _, q1 _, q1 _, q1 _, q1 _, q3 _, q1 _, q1 _, q1 _, q2 10, q2 11, q1 _, q1 _, q1 _, q1 _, q1 _, q1 _, q2 12, q1 _, q2 13, q2 14, q2 15, q2 16, q1 _, q2 17, q1 _, q2 18, q2 19, q2 20, q2 21, q2 22, q1 _, q2 23, q2 24, q2 25]), .inl (0, 600, .inl _)]) (And.intro rfl (And.intro rfl (And.intro rfl (And.intro ⟨⟨_, rfl⟩, rfl⟩ ?_))))))
                refine Exists.intro _ (Exists.intro _ (Exists.intro _ (Exists.intro _ (Exists.intro _ (Exists.intro _ (Exists.intro _ (Exists.intro _ (Exists.intro _ (Exists.intro _ (Exists.intro _ (Exists.intro _ (Exists.intro _ (Exists.intro _ (Exists.intro _ (Exists.intro _ (Exists.intro _ (Exists.intro _ (Exists.intro _ (Exists.intro _ (Exists.intro _ (Exists.intro _ (Exists.intro _ (And.intro rfl (And.intro rfl (And.intro (by first | omega | assumption | exact q_rg_up (by assumption) (by omega) | exact q_rg_up (q_rg_up (by assumption) (by omega)) (by omega) | exact q_rg_cpy (by assumption) (by assumption)) (And.intro (by first | omega | assumption | exact q_rg_up (by assumption) (by omega) | exact q_rg_up (q_rg_up (by assumption) (by omega)) (by omega) | exact q_rg_cpy (by assumption) (by assumption)) (And.intro (by first | omega | assumption | exact q_rg_up (by assumption) (by omega) | exact q_rg_up (q_rg_up (by assumption) (by omega)) (by omega) | exact q_rg_cpy (by assumption) (by assumption)) (And.intro (by first | omega | assumption | exact q_rg_up (by assumption) (by omega) | exact q_rg_up (q_rg_up (by assumption) (by omega)) (by omega) | exact q_rg_cpy (by assumption) (by assumption)) (?_)))))))))))))))))))))))))))))
                intro z83
                exact hQ _ _ _ _
              · intro h68
                refine Exists.intro [0, 2, 3, 4, 5, 6, 1, 7, 8, 9, 10, 11, 12, 13, 14, 15, 16, 17, 18, 19, 20, 21, 22, 23, 24, 25] (Exists.intro [q2 0, q1 _, q1 _] (Exists.intro ([.inr (12, [q1 _, q2 2, q2 3, q2 4, q2 5, q2 6, q2 1, q2 7, q2 8, q2 9, q1 _, q1 _, q1 _, q1 _, q1 _, q3 _, q1 _, q1 _, q1 _, q2 10, q2 11, q1 _, q1 _, q1 _, q1 _, q1 _, q1 _, q2 12, q1 _, q2 13, q2 14, q2 15, q2 16, q1 _, q2 17, q1 _, q2 18, q2 19, q2 20, q2 21, q2 22, q1 _, q2 23, q2 24, q2 25]), .inl (0, 600, .inl _)]) (And.intro rfl (And.intro rfl (And.intro rfl (And.intro ⟨⟨_, rfl⟩, rfl⟩ ?_))))))
                refine Exists.intro _ (Exists.intro _ (Exists.intro _ (Exists.intro _ (Exists.intro _ (Exists.intro _ (Exists.intro _ (Exists.intro _ (Exists.intro _ (Exists.intro _ (Exists.intro _ (Exists.intro _ (Exists.intro _ (Exists.intro _ (Exists.intro _ (Exists.intro _ (Exists.intro _ (Exists.intro _ (Exists.intro _ (Exists.intro _ (Exists.intro _ (Exists.intro _ (Exists.intro _ (And.intro rfl (And.intro rfl (And.intro (by first | omega | assumption | exact q_rg_up (by assumption) (by omega) | exact q_rg_up (q_rg_up (by assumption) (by omega)) (by omega) | exact q_rg_cpy (by assumption) (by assumption)) (And.intro (by first | omega | assumption | exact q_rg_up (by assumption) (by omega) | exact q_rg_up (q_rg_up (by assumption) (by omega)) (by omega) | exact q_rg_cpy (by assumption) (by assumption)) (And.intro (by first | omega | assumption | exact q_rg_up (by assumption) (by omega) | exact q_rg_up (q_rg_up (by assumption) (by omega)) (by omega) | exact q_rg_cpy (by assumption) (by assumption)) (And.intro (by first | omega | assumption | exact q_rg_up (by assumption) (by omega) | exact q_rg_up (q_rg_up (by assumption) (by omega)) (by omega) | exact q_rg_cpy (by assumption) (by assumption)) (?_)))))))))))))))))))))))))))))
                intro z74
                exact hQ _ _ _ _
            · intro h53
              refine Exists.intro [0, 2, 3, 4, 5, 6, 1, 7, 8, 9, 10, 11, 12, 13, 14, 15, 16, 17, 18, 19, 20, 21, 22, 23, 24, 25] (Exists.intro [q2 0, q1 _, q1 _] (Exists.intro ([.inr (12, [q1 _, q2 2, q2 3, q2 4, q2 5, q2 6, q2 1, q2 7, q2 8, q2 9, q1 _, q1 _, q1 _, q1 _, q1 _, q3 _, q1 _, q1 _, q1 _, q2 10, q2 11, q1 _, q1 _, q1 _, q1 _, q1 _, q1 _, q2 12, q1 _, q2 13, q2 14, q2 15, q2 16, q1 _, q2 17, q1 _, q2 18, q2 19, q2 20, q2 21, q2 22, q1 _, q2 23, q2 24, q2 25]), .inl (0, 600, .inl _)]) (And.intro rfl (And.intro rfl (And.intro rfl (And.intro ⟨⟨_, rfl⟩, rfl⟩ ?_))))))
              refine Exists.intro _ (Exists.intro _ (Exists.intro _ (Exists.intro _ (Exists.intro _ (Exists.intro _ (Exists.intro _ (Exists.intro _ (Exists.intro _ (Exists.intro _ (Exists.intro _ (Exists.intro _ (Exists.intro _ (Exists.intro _ (Exists.intro _ (Exists.intro _ (Exists.intro _ (Exists.intro _ (Exists.intro _ (Exists.intro _ (Exists.intro _ (Exists.intro _ (Exists.intro _ (And.intro rfl (And.intro rfl (And.intro (by first | omega | assumption | exact q_rg_up (by assumption) (by omega) | exact q_rg_up (q_rg_up (by assumption) (by omega)) (by omega) | exact q_rg_cpy (by assumption) (by assumption)) (And.intro (by first | omega | assumption | exact q_rg_up (by assumption) (by omega) | exact q_rg_up (q_rg_up (by assumption) (by omega)) (by omega) | exact q_rg_cpy (by assumption) (by assumption)) (And.intro (by first | omega | assumption | exact q_rg_up (by assumption) (by omega) | exact q_rg_up (q_rg_up (by assumption) (by omega)) (by omega) | exact q_rg_cpy (by assumption) (by assumption)) (And.intro (by first | omega | assumption | exact q_rg_up (by assumption) (by omega) | exact q_rg_up (q_rg_up (by assumption) (by omega)) (by omega) | exact q_rg_cpy (by assumption) (by assumption)) (?_)))))))))))))))))))))))))))))
              intro z59
              exact hQ _ _ _ _
        · intro h39
          first | replace h36 := dj1 h36 h39 | replace h36 := dj0 h36 h39
          exact hQ _ _ _ _

theorem dX12_findShares_0 : decode cX12_findShares 0 = .ok (.iconst 0, 1) := by decide +kernel
theorem dX12_findShares_1 : decode cX12_findShares 1 = .ok (.istore_n 3, 1) := by decide +kernel
theorem dX12_findShares_2 : decode cX12_findShares 2 = .ok (.iload_n 3, 1) := by decide +kernel
theorem dX12_findShares_3 : decode cX12_findShares 3 = .ok (.bipush 8, 2) := by decide +kernel
theorem dX12_findShares_5 : decode cX12_findShares 5 = .ok (.if_icmp .ge 16, 3) := by decide +kernel
theorem dX12_findShares_8 : decode cX12_findShares 8 = .ok (.aload_n 0, 1) := by decide +kernel
theorem dX12_findShares_9 : decode cX12_findShares 9 = .ok (.getfield 56, 3) := by decide +kernel
theorem dX12_findShares_12 : decode cX12_findShares 12 = .ok (.iload_n 3, 1) := by decide +kernel
theorem dX12_findShares_13 : decode cX12_findShares 13 = .ok (.iconst 0, 1) := by decide +kernel
theorem dX12_findShares_14 : decode cX12_findShares 14 = .ok (.iastore, 1) := by decide +kernel
theorem dX12_findShares_15 : decode cX12_findShares 15 = .ok (.iinc 3 1, 3) := by decide +kernel
theorem dX12_findShares_18 : decode cX12_findShares 18 = .ok (.goto (-16), 3) := by decide +kernel
theorem dX12_findShares_21 : decode cX12_findShares 21 = .ok (.iload_n 2, 1) := by decide +kernel
theorem dX12_findShares_22 : decode cX12_findShares 22 = .ok (.istore_n 3, 1) := by decide +kernel
theorem dX12_findShares_23 : decode cX12_findShares 23 = .ok (.iload_n 1, 1) := by decide +kernel
theorem dX12_findShares_24 : decode cX12_findShares 24 = .ok (.istore 4, 2) := by decide +kernel
theorem dX12_findShares_26 : decode cX12_findShares 26 = .ok (.iload 4, 2) := by decide +kernel
theorem dX12_findShares_28 : decode cX12_findShares 28 = .ok (.iconst (-1), 1) := by decide +kernel
theorem dX12_findShares_29 : decode cX12_findShares 29 = .ok (.if_icmp .eq 71, 3) := by decide +kernel
theorem dX12_findShares_32 : decode cX12_findShares 32 = .ok (.aload_n 0, 1) := by decide +kernel
theorem dX12_findShares_33 : decode cX12_findShares 33 = .ok (.bipush 13, 2) := by decide +kernel
theorem dX12_findShares_35 : decode cX12_findShares 35 = .ok (.iload 4, 2) := by decide +kernel
theorem dX12_findShares_37 : decode cX12_findShares 37 = .ok (.iadd, 1) := by decide +kernel
theorem dX12_findShares_38 : decode cX12_findShares 38 = .ok (.invokevirtual 299, 3) := by decide +kernel
theorem dX12_findShares_41 : decode cX12_findShares 41 = .ok (.iconst (-1), 1) := by decide +kernel
theorem dX12_findShares_42 : decode cX12_findShares 42 = .ok (.if_icmp .ne 7, 3) := by decide +kernel
theorem dX12_findShares_45 : decode cX12_findShares 45 = .ok (.iload_n 3, 1) := by decide +kernel
theorem dX12_findShares_46 : decode cX12_findShares 46 = .ok (.goto 6, 3) := by decide +kernel
theorem dX12_findShares_49 : decode cX12_findShares 49 = .ok (.iload_n 3, 1) := by decide +kernel
theorem dX12_findShares_50 : decode cX12_findShares 50 = .ok (.iconst 2, 1) := by decide +kernel
theorem dX12_findShares_51 : decode cX12_findShares 51 = .ok (.idiv, 1) := by decide +kernel
theorem dX12_findShares_52 : decode cX12_findShares 52 = .ok (.istore 5, 2) := by decide +kernel
theorem dX12_findShares_54 : decode cX12_findShares 54 = .ok (.aload_n 0, 1) := by decide +kernel
theorem dX12_findShares_55 : decode cX12_findShares 55 = .ok (.getfield 56, 3) := by decide +kernel
theorem dX12_findShares_58 : decode cX12_findShares 58 = .ok (.iload 4, 2) := by decide +kernel
theorem dX12_findShares_60 : decode cX12_findShares 60 = .ok (.iload 5, 2) := by decide +kernel
theorem dX12_findShares_62 : decode cX12_findShares 62 = .ok (.aload_n 0, 1) := by decide +kernel
theorem dX12_findShares_63 : decode cX12_findShares 63 = .ok (.iconst 5, 1) := by decide +kernel
theorem dX12_findShares_64 : decode cX12_findShares 64 = .ok (.iload 4, 2) := by decide +kernel
theorem dX12_findShares_66 : decode cX12_findShares 66 = .ok (.iadd, 1) := by decide +kernel
theorem dX12_findShares_67 : decode cX12_findShares 67 = .ok (.invokevirtual 299, 3) := by decide +kernel
theorem dX12_findShares_70 : decode cX12_findShares 70 = .ok (.iconst 1, 1) := by decide +kernel
theorem dX12_findShares_71 : decode cX12_findShares 71 = .ok (.isub, 1) := by decide +kernel
theorem dX12_findShares_72 : decode cX12_findShares 72 = .ok (.invokestatic 327, 3) := by decide +kernel
theorem dX12_findShares_75 : decode cX12_findShares 75 = .ok (.iastore, 1) := by decide +kernel
theorem dX12_findShares_76 : decode cX12_findShares 76 = .ok (.iload_n 3, 1) := by decide +kernel
theorem dX12_findShares_77 : decode cX12_findShares 77 = .ok (.aload_n 0, 1) := by decide +kernel
theorem dX12_findShares_78 : decode cX12_findShares 78 = .ok (.getfield 56, 3) := by decide +kernel
theorem dX12_findShares_81 : decode cX12_findShares 81 = .ok (.iload 4, 2) := by decide +kernel
theorem dX12_findShares_83 : decode cX12_findShares 83 = .ok (.iaload, 1) := by decide +kernel
theorem dX12_findShares_84 : decode cX12_findShares 84 = .ok (.isub, 1) := by decide +kernel
theorem dX12_findShares_85 : decode cX12_findShares 85 = .ok (.istore_n 3, 1) := by decide +kernel
theorem dX12_findShares_86 : decode cX12_findShares 86 = .ok (.aload_n 0, 1) := by decide +kernel
theorem dX12_findShares_87 : decode cX12_findShares 87 = .ok (.bipush 13, 2) := by decide +kernel
theorem dX12_findShares_89 : decode cX12_findShares 89 = .ok (.iload 4, 2) := by decide +kernel
theorem dX12_findShares_91 : decode cX12_findShares 91 = .ok (.iadd, 1) := by decide +kernel
theorem dX12_findShares_92 : decode cX12_findShares 92 = .ok (.invokevirtual 299, 3) := by decide +kernel
theorem dX12_findShares_95 : decode cX12_findShares 95 = .ok (.istore 4, 2) := by decide +kernel
theorem dX12_findShares_97 : decode cX12_findShares 97 = .ok (.goto (-71), 3) := by decide +kernel
theorem dX12_findShares_100 : decode cX12_findShares 100 = .ok (.iload_n 3, 1) := by decide +kernel
theorem dX12_findShares_101 : decode cX12_findShares 101 = .ok (.ireturn, 1) := by decide +kernel
def is_X12_findShares : Nat → List Nat := fun d => if d = 2 then [0, 1, 2, 3] else if d = 26 then [0, 3, 4] else []
set_option maxRecDepth 100000 in
def b_X12_findShares_91 (J : Nat → List qV → List qV → qW → Prop) (Q : qR) : qK := x_iadd (x_callr (some 12) 2 spr_X12_of (x_istore 4 (x_cut [0, 3, 4] (J 26))))
set_option maxRecDepth 100000 in
theorem s_X12_findShares_91 {p : Program} {l : Launch} {e : Env} {R : Room} {s : State} {m : MethodId} {args : Array Value} {below : List Frame} {meth : Method} {c : Code} {nW : Nat} {dC : Nat → ClassId} {dI : Nat → Nat → Nat} {k : Nat → ClassId} {g : Nat → Nat} {A : Nat → Prop} {J : Nat → List qV → List qV → qW → Prop} {Q : qR} (X : q_X p R s m args meth c cX12_findShares 6 nW 1 21 RX12 (some .int) dC dI k g A) (hJ : ∀ d : Nat, q_Sd p l e R s m args below meth c 6 nW dC dI k g A (MQ below (q_post (dC, dI) k g nW Q A) args s 0 0 A) d (x_cut (is_X12_findShares d) (J d))) : q_Sd p l e R s m args below meth c 6 nW dC dI k g A (MQ below (q_post (dC, dI) k g nW Q A) args s 0 0 A) 91 (b_X12_findShares_91 J Q) := by
  unfold b_X12_findShares_91
  refine s_iadd X dX12_findShares_91 ?_
  refine s_callVr X (m_X12_of l) tw_1189 tw_1190 tw_1603 tw_134 tw_1191 rfl (by decide +kernel) ⟨by decide, by decide⟩ dX12_findShares_92 ?_
  refine s_istore X (by decide) dX12_findShares_95 ?_
  refine s_goto X (tgt := 26) dX12_findShares_97 (by decide) ?_
  exact hJ 26
set_option maxRecDepth 100000 in
def b_X12_findShares_52 (J : Nat → List qV → List qV → qW → Prop) (Q : qR) : qK := x_istore 5 (x_aload 0 (x_get 12 32 (x_iload 4 (x_iload 5 (x_aload 0 (x_int 5 (x_iload 4 (x_iadd (x_callr (some 12) 2 spr_X12_of (x_int 1 (x_isub (x_callr none 2 spr_X12_lesser (x_iast (x_nw (x_iload 3 (x_aload 0 (x_get 12 32 (x_iload 4 (x_iald (x_isub (x_istore 3 (x_aload 0 (x_int 13 (x_iload 4 (b_X12_findShares_91 J Q)))))))))))))))))))))))))
set_option maxRecDepth 100000 in
theorem s_X12_findShares_52 {p : Program} {l : Launch} {e : Env} {R : Room} {s : State} {m : MethodId} {args : Array Value} {below : List Frame} {meth : Method} {c : Code} {nW : Nat} {dC : Nat → ClassId} {dI : Nat → Nat → Nat} {k : Nat → ClassId} {g : Nat → Nat} {A : Nat → Prop} {J : Nat → List qV → List qV → qW → Prop} {Q : qR} (X : q_X p R s m args meth c cX12_findShares 6 nW 1 21 RX12 (some .int) dC dI k g A) (hJ : ∀ d : Nat, q_Sd p l e R s m args below meth c 6 nW dC dI k g A (MQ below (q_post (dC, dI) k g nW Q A) args s 0 0 A) d (x_cut (is_X12_findShares d) (J d))) : q_Sd p l e R s m args below meth c 6 nW dC dI k g A (MQ below (q_post (dC, dI) k g nW Q A) args s 0 0 A) 52 (b_X12_findShares_52 J Q) := by
  unfold b_X12_findShares_52
  refine s_istore X (by decide) dX12_findShares_52 ?_
  refine s_aload_n X rfl dX12_findShares_54 ?_
  refine s_get X (T := TX12) (C := RX12) (N := 45) tu_X12 rfl (by decide) tw_1029 dX12_findShares_55 ?_
  refine s_iload X dX12_findShares_58 ?_
  refine s_iload X dX12_findShares_60 ?_
  refine s_aload_n X rfl dX12_findShares_62 ?_
  refine s_iconst X ⟨by decide, by decide⟩ dX12_findShares_63 ?_
  refine s_iload X dX12_findShares_64 ?_
  refine s_iadd X dX12_findShares_66 ?_
  refine s_callVr X (m_X12_of l) tw_1189 tw_1190 tw_1603 tw_134 tw_1191 rfl (by decide +kernel) ⟨by decide, by decide⟩ dX12_findShares_67 ?_
  refine s_iconst X ⟨by decide, by decide⟩ dX12_findShares_70 ?_
  refine s_isub X dX12_findShares_71 ?_
  refine s_callSr X (m_X12_lesser l) tw_1239 tw_1240 tw_134 tw_1241 (by decide +kernel) ⟨by decide, by decide⟩ dX12_findShares_72 ?_
  refine s_iast X dX12_findShares_75 ?_
  refine s_nw ?_
  refine s_iload_n X rfl dX12_findShares_76 ?_
  refine s_aload_n X rfl dX12_findShares_77 ?_
  refine s_get X (T := TX12) (C := RX12) (N := 45) tu_X12 rfl (by decide) tw_1029 dX12_findShares_78 ?_
  refine s_iload X dX12_findShares_81 ?_
  refine s_iald X dX12_findShares_83 ?_
  refine s_isub X dX12_findShares_84 ?_
  refine s_istore_n X rfl (by decide) dX12_findShares_85 ?_
  refine s_aload_n X rfl dX12_findShares_86 ?_
  refine s_bipush X ⟨by decide, by decide⟩ (by decide) dX12_findShares_87 ?_
  refine s_iload X dX12_findShares_89 ?_
  exact s_X12_findShares_91 X hJ
set_option maxRecDepth 100000 in
def b_X12_findShares_26 (J : Nat → List qV → List qV → qW → Prop) (Q : qR) : qK := x_iload 4 (x_int (-1) (x_icmp_eq (x_iload 3 (x_iret Q)) (x_aload 0 (x_int 13 (x_iload 4 (x_iadd (x_callr (some 12) 2 spr_X12_of (x_int (-1) (x_icmp_ne (x_iload 3 (x_int 2 (x_idiv (b_X12_findShares_52 J Q)))) (x_iload 3 (b_X12_findShares_52 J Q)))))))))))
set_option maxRecDepth 100000 in
theorem s_X12_findShares_26 {p : Program} {l : Launch} {e : Env} {R : Room} {s : State} {m : MethodId} {args : Array Value} {below : List Frame} {meth : Method} {c : Code} {nW : Nat} {dC : Nat → ClassId} {dI : Nat → Nat → Nat} {k : Nat → ClassId} {g : Nat → Nat} {A : Nat → Prop} {J : Nat → List qV → List qV → qW → Prop} {Q : qR} (X : q_X p R s m args meth c cX12_findShares 6 nW 1 21 RX12 (some .int) dC dI k g A) (hJ : ∀ d : Nat, q_Sd p l e R s m args below meth c 6 nW dC dI k g A (MQ below (q_post (dC, dI) k g nW Q A) args s 0 0 A) d (x_cut (is_X12_findShares d) (J d))) : q_Sd p l e R s m args below meth c 6 nW dC dI k g A (MQ below (q_post (dC, dI) k g nW Q A) args s 0 0 A) 26 (b_X12_findShares_26 J Q) := by
  unfold b_X12_findShares_26
  refine s_iload X dX12_findShares_26 ?_
  refine s_iconst X ⟨by decide, by decide⟩ dX12_findShares_28 ?_
  refine s_icmp_eq X (tgt := 100) dX12_findShares_29 (by decide) ?_ ?_
  · refine s_iload_n X rfl dX12_findShares_100 ?_
    exact s_iret X dX12_findShares_101
  · refine s_aload_n X rfl dX12_findShares_32 ?_
    refine s_bipush X ⟨by decide, by decide⟩ (by decide) dX12_findShares_33 ?_
    refine s_iload X dX12_findShares_35 ?_
    refine s_iadd X dX12_findShares_37 ?_
    refine s_callVr X (m_X12_of l) tw_1189 tw_1190 tw_1603 tw_134 tw_1191 rfl (by decide +kernel) ⟨by decide, by decide⟩ dX12_findShares_38 ?_
    refine s_iconst X ⟨by decide, by decide⟩ dX12_findShares_41 ?_
    refine s_icmp_ne X (tgt := 49) dX12_findShares_42 (by decide) ?_ ?_
    · refine s_iload_n X rfl dX12_findShares_49 ?_
      refine s_iconst X ⟨by decide, by decide⟩ dX12_findShares_50 ?_
      refine s_idiv X dX12_findShares_51 ?_
      exact s_X12_findShares_52 X hJ
    · refine s_iload_n X rfl dX12_findShares_45 ?_
      refine s_goto X (tgt := 52) dX12_findShares_46 (by decide) ?_
      exact s_X12_findShares_52 X hJ
set_option maxRecDepth 100000 in
def b_X12_findShares_2 (J : Nat → List qV → List qV → qW → Prop) (Q : qR) : qK := x_iload 3 (x_int 8 (x_icmp_ge (x_iload 2 (x_istore 3 (x_iload 1 (x_istore 4 (x_cut [0, 3, 4] (J 26)))))) (x_aload 0 (x_get 12 32 (x_iload 3 (x_int 0 (x_iast (x_nw (x_iinc 3 1 (x_cut [0, 1, 2, 3] (J 2)))))))))))
set_option maxRecDepth 100000 in
theorem s_X12_findShares_2 {p : Program} {l : Launch} {e : Env} {R : Room} {s : State} {m : MethodId} {args : Array Value} {below : List Frame} {meth : Method} {c : Code} {nW : Nat} {dC : Nat → ClassId} {dI : Nat → Nat → Nat} {k : Nat → ClassId} {g : Nat → Nat} {A : Nat → Prop} {J : Nat → List qV → List qV → qW → Prop} {Q : qR} (X : q_X p R s m args meth c cX12_findShares 6 nW 1 21 RX12 (some .int) dC dI k g A) (hJ : ∀ d : Nat, q_Sd p l e R s m args below meth c 6 nW dC dI k g A (MQ below (q_post (dC, dI) k g nW Q A) args s 0 0 A) d (x_cut (is_X12_findShares d) (J d))) : q_Sd p l e R s m args below meth c 6 nW dC dI k g A (MQ below (q_post (dC, dI) k g nW Q A) args s 0 0 A) 2 (b_X12_findShares_2 J Q) := by
  unfold b_X12_findShares_2
  refine s_iload_n X rfl dX12_findShares_2 ?_
  refine s_bipush X ⟨by decide, by decide⟩ (by decide) dX12_findShares_3 ?_
  refine s_icmp_ge X (tgt := 21) dX12_findShares_5 (by decide) ?_ ?_
  · refine s_iload_n X rfl dX12_findShares_21 ?_
    refine s_istore_n X rfl (by decide) dX12_findShares_22 ?_
    refine s_iload_n X rfl dX12_findShares_23 ?_
    refine s_istore X (by decide) dX12_findShares_24 ?_
    exact hJ 26
  · refine s_aload_n X rfl dX12_findShares_8 ?_
    refine s_get X (T := TX12) (C := RX12) (N := 45) tu_X12 rfl (by decide) tw_1029 dX12_findShares_9 ?_
    refine s_iload_n X rfl dX12_findShares_12 ?_
    refine s_iconst X ⟨by decide, by decide⟩ dX12_findShares_13 ?_
    refine s_iast X dX12_findShares_14 ?_
    refine s_nw ?_
    refine s_iinc X (by decide) dX12_findShares_15 ?_
    refine s_goto X (tgt := 2) dX12_findShares_18 (by decide) ?_
    exact hJ 2
set_option maxRecDepth 100000 in
def b_X12_findShares_0 (J : Nat → List qV → List qV → qW → Prop) (Q : qR) : qK := x_int 0 (x_istore 3 (x_cut [0, 1, 2, 3] (J 2)))
set_option maxRecDepth 100000 in
theorem s_X12_findShares_0 {p : Program} {l : Launch} {e : Env} {R : Room} {s : State} {m : MethodId} {args : Array Value} {below : List Frame} {meth : Method} {c : Code} {nW : Nat} {dC : Nat → ClassId} {dI : Nat → Nat → Nat} {k : Nat → ClassId} {g : Nat → Nat} {A : Nat → Prop} {J : Nat → List qV → List qV → qW → Prop} {Q : qR} (X : q_X p R s m args meth c cX12_findShares 6 nW 1 21 RX12 (some .int) dC dI k g A) (hJ : ∀ d : Nat, q_Sd p l e R s m args below meth c 6 nW dC dI k g A (MQ below (q_post (dC, dI) k g nW Q A) args s 0 0 A) d (x_cut (is_X12_findShares d) (J d))) : q_Sd p l e R s m args below meth c 6 nW dC dI k g A (MQ below (q_post (dC, dI) k g nW Q A) args s 0 0 A) 0 (b_X12_findShares_0 J Q) := by
  unfold b_X12_findShares_0
  refine s_iconst X ⟨by decide, by decide⟩ dX12_findShares_0 ?_
  refine s_istore_n X rfl (by decide) dX12_findShares_1 ?_
  exact hJ 2

def sp_X12_findShares : qS := fun av w Q => ∃ (mco : Int) (mre : Int) (mle : Int) (mbe : Int) (mso : Int) (mva : Int) (mwo : Int) (mwr : Int) (mlf : Int) (mlp : Int) (mfp : Int) (mfd : Int) (mgo : Int) (mbo : Int) (mpe : Int) (mye : Int) (mpr : Int) (mld : Int) (msi : Int) (mse : Int) (lo : Nat → Int) (bs : Nat → Int) (a : Int) (b : Int), av = [q2 0, q1 a, q1 b] ∧ w = [.inr (12, [q1 mco, q2 3, q2 4, q2 5, q2 6, q2 7, q2 2, q2 8, q2 9, q2 10, q1 mre, q1 mle, q1 mbe, q1 mso, q1 mva, q3 mwo, q1 mwr, q1 mlf, q1 mlp, q2 11, q2 12, q1 mfp, q1 mfd, q1 mgo, q1 mbo, q1 mpe, q1 mye, q2 13, q1 mpr, q2 14, q2 15, q2 16, q2 1, q1 mld, q2 17, q1 msi, q2 18, q2 19, q2 20, q2 21, q2 22, q1 mse, q2 23, q2 24, q2 25]), .inl (0, 8, .inl lo), .inl (0, 600, .inl bs)] ∧ (0 ≤ mbo ∧ mbo ≤ 1) ∧ (0 ≤ mpe ∧ mpe ≤ 8) ∧ (BI bs) ∧ (mpe = ofR bs mbo 0) ∧ (0 ≤ a ∧ a < mpe) ∧ (∀ (r : Int) (x_lo : Nat → Int), Q (some (q1 r)) ([.inr (12, [q1 mco, q2 3, q2 4, q2 5, q2 6, q2 7, q2 2, q2 8, q2 9, q2 10, q1 mre, q1 mle, q1 mbe, q1 mso, q1 mva, q3 mwo, q1 mwr, q1 mlf, q1 mlp, q2 11, q2 12, q1 mfp, q1 mfd, q1 mgo, q1 mbo, q1 mpe, q1 mye, q2 13, q1 mpr, q2 14, q2 15, q2 16, q2 1, q1 mld, q2 17, q1 msi, q2 18, q2 19, q2 20, q2 21, q2 22, q1 mse, q2 23, q2 24, q2 25]), .inl (0, 8, .inl x_lo), .inl (0, 600, .inl bs)]))
def I_X12_findShares (mco : Int) (mre : Int) (mle : Int) (mbe : Int) (mso : Int) (mva : Int) (mwo : Int) (mwr : Int) (mlf : Int) (mlp : Int) (mfp : Int) (mfd : Int) (mgo : Int) (mbo : Int) (mpe : Int) (mye : Int) (mpr : Int) (mld : Int) (msi : Int) (mse : Int) (lo : Nat → Int) (bs : Nat → Int) (a : Int) (b : Int) : Nat → Nat → List qV → List qV → qW → Prop := fun dz mz vz sz wz => if dz = 2 then (∃ (y_lo : Nat → Int) (v3 : Int), vz = [q2 0, q1 a, q1 b, q1 v3] ∧ sz = [] ∧ wz = [.inr (12, [q1 mco, q2 3, q2 4, q2 5, q2 6, q2 7, q2 2, q2 8, q2 9, q2 10, q1 mre, q1 mle, q1 mbe, q1 mso, q1 mva, q3 mwo, q1 mwr, q1 mlf, q1 mlp, q2 11, q2 12, q1 mfp, q1 mfd, q1 mgo, q1 mbo, q1 mpe, q1 mye, q2 13, q1 mpr, q2 14, q2 15, q2 16, q2 1, q1 mld, q2 17, q1 msi, q2 18, q2 19, q2 20, q2 21, q2 22, q1 mse, q2 23, q2 24, q2 25]), .inl (0, 8, .inl y_lo), .inl (0, 600, .inl bs)] ∧ mz = 1000000 + (8 - v3).toNat ∧ (0 ≤ v3 ∧ v3 ≤ 8)) else if dz = 26 then (∃ (y_lo : Nat → Int) (v3 : Int) (v4 : Int), vz = [q2 0, q1 v3, q1 v4] ∧ sz = [] ∧ wz = [.inr (12, [q1 mco, q2 3, q2 4, q2 5, q2 6, q2 7, q2 2, q2 8, q2 9, q2 10, q1 mre, q1 mle, q1 mbe, q1 mso, q1 mva, q3 mwo, q1 mwr, q1 mlf, q1 mlp, q2 11, q2 12, q1 mfp, q1 mfd, q1 mgo, q1 mbo, q1 mpe, q1 mye, q2 13, q1 mpr, q2 14, q2 15, q2 16, q2 1, q1 mld, q2 17, q1 msi, q2 18, q2 19, q2 20, q2 21, q2 22, q1 mse, q2 23, q2 24, q2 25]), .inl (0, 8, .inl y_lo), .inl (0, 600, .inl bs)] ∧ mz = stp bs (75 * mbo.toNat) 8 v4 ∧ (pch bs (75 * mbo.toNat) 8 v4 = -1) ∧ (-1 ≤ v4 ∧ v4 ≤ 7)) else False
set_option maxHeartbeats 4000000 in
set_option maxRecDepth 100000 in
theorem m_X12_findShares (l : Launch) : q_M l yX12_findShares cX12_findShares 6 (some .int) 1 21 sp_X12_findShares := by
  refine q_meth (by decide) (fun av w Q h => by obtain ⟨mco, mre, mle, mbe, mso, mva, mwo, mwr, mlf, mlp, mfp, mfd, mgo, mbo, mpe, mye, mpr, mld, msi, mse, lo, bs, a, b, rfl, rfl, hbo, hpe, hbi, hpq, ha, hQ⟩ := h; exact Nat.le_of_ble_eq_true rfl) ?_
  intro p e R s m args below meth c dC dI k g A av w Q hsp oka okw X
  obtain ⟨mco, mre, mle, mbe, mso, mva, mwo, mwr, mlf, mlp, mfp, mfd, mgo, mbo, mpe, mye, mpr, mld, msi, mse, lo, bs, a, b, rfl, rfl, hbo, hpe, hbi, hpq, ha, hQ⟩ := hsp
  have o_a : -2147483648 ≤ a ∧ a ≤ 2147483647 := oka _ (List.mem_of_getElem? (i := 1) rfl)
  have o_b : -2147483648 ≤ b ∧ b ≤ 2147483647 := oka _ (List.mem_of_getElem? (i := 2) rfl)
  refine s_mono (s_X12_findShares_0 X (J := fun dz vz sz wz => ∃ mz, I_X12_findShares mco mre mle mbe mso mva mwo mwr mlf mlp mfp mfd mgo mbo mpe mye mpr mld msi mse lo bs a b dz mz vz sz wz) (q_loopn (I_X12_findShares mco mre mle mbe mso mva mwo mwr mlf mlp mfp mfd mgo mbo mpe mye mpr mld msi mse lo bs a b) (fun dz J => if dz = 2 then b_X12_findShares_2 J Q else if dz = 26 then b_X12_findShares_26 J Q else q_F) ?hs ?hv)) ?_
  case hs =>
    intro d J hJ
    by_cases h2 : d = 2
    · subst h2; exact s_X12_findShares_2 X hJ
    by_cases h26 : d = 26
    · subst h26; exact s_X12_findShares_26 X hJ
    simp only [h2, h26, if_false]
    exact s_F
  case hv =>
    intro dz mz vz sz wz hI okv oks okw hlen
    by_cases h2 : dz = 2
    · subst h2
      obtain ⟨y_lo, v3, rfl, rfl, rfl, hn, hp⟩ := hI
      apply And.intro
      · intro h5
        have sl := stp_le (f := bs) (b := 75 * mbo.toNat) 8 a
        exact ⟨_, ⟨_, _, _, rfl, rfl, rfl, rfl, (by first | exact st.1 | exact BI_ac hbi hbo (by omega)), (by first | omega | assumption | exact q_rg_up (by assumption) (by omega) | exact q_rg_up (q_rg_up (by assumption) (by omega)) (by omega) | exact q_rg_cpy (by assumption) (by assumption))⟩, by omega⟩
      · intro h5
        apply And.intro
        · exact ⟨by omega, by omega⟩
        intro z15 h15
        first | replace h15 := e_add h15 (by omega) | replace h15 := e_rng h15
        exact ⟨_, ⟨_, _, rfl, rfl, rfl, rfl, (by first | omega | assumption | exact q_rg_up (by assumption) (by omega) | exact q_rg_up (q_rg_up (by assumption) (by omega)) (by omega) | exact q_rg_cpy (by assumption) (by assumption))⟩, by omega⟩
    by_cases h26 : dz = 26
    · subst h26
      obtain ⟨y_lo, v3, v4, rfl, rfl, rfl, hn, ho, hr⟩ := hI
      apply And.intro
      · intro h29
        exact hQ _ _
      · intro h29
        intro z37 h37
        first | replace h37 := e_add h37 (by omega) | replace h37 := e_rng h37
        refine Exists.intro [0, 2, 3, 4, 5, 6, 7, 8, 9, 10, 11, 12, 13, 14, 15, 16, 1, 17, 18, 19, 20, 21, 22, 23, 24, 25] (Exists.intro [q2 0, q1 _] (Exists.intro ([.inr (12, [q1 _, q2 2, q2 3, q2 4, q2 5, q2 6, q2 1, q2 7, q2 8, q2 9, q1 _, q1 _, q1 _, q1 _, q1 _, q3 _, q1 _, q1 _, q1 _, q2 10, q2 11, q1 _, q1 _, q1 _, q1 _, q1 _, q1 _, q2 12, q1 _, q2 13, q2 14, q2 15, q2 16, q1 _, q2 17, q1 _, q2 18, q2 19, q2 20, q2 21, q2 22, q1 _, q2 23, q2 24, q2 25]), .inl (0, 600, .inl _)]) (And.intro rfl (And.intro rfl (And.intro rfl (And.intro ⟨⟨_, rfl⟩, rfl⟩ ?_))))))
        refine Exists.intro _ (Exists.intro _ (Exists.intro _ (Exists.intro _ (Exists.intro _ (Exists.intro _ (Exists.intro _ (Exists.intro _ (Exists.intro _ (Exists.intro _ (Exists.intro _ (Exists.intro _ (Exists.intro _ (Exists.intro _ (Exists.intro _ (Exists.intro _ (Exists.intro _ (Exists.intro _ (Exists.intro _ (Exists.intro _ (Exists.intro _ (Exists.intro _ (And.intro rfl (And.intro rfl (And.intro (by first | omega | assumption | exact q_rg_up (by assumption) (by omega) | exact q_rg_up (q_rg_up (by assumption) (by omega)) (by omega) | exact q_rg_cpy (by assumption) (by assumption)) (And.intro (by first | omega | assumption | exact q_rg_up (by assumption) (by omega) | exact q_rg_up (q_rg_up (by assumption) (by omega)) (by omega) | exact q_rg_cpy (by assumption) (by assumption)) (And.intro (by first | omega | assumption | exact q_rg_up (by assumption) (by omega) | exact q_rg_up (q_rg_up (by assumption) (by omega)) (by omega) | exact q_rg_cpy (by assumption) (by assumption)) (?_)))))))))))))))))))))))))))
        intro z38 h38
        obtain ⟨h38, k38⟩ := h38
        first | replace k38 := OFQ_13 k38 (by omega) | replace k38 := OFQ_21 k38 (by omega) | clear k38
        apply And.intro
        · intro h42
          apply And.intro
          · first | omega | (intro e9; omega)
          intro z51 h51
          first | replace h51 := e_div h51 (by omega) (by omega) | replace h51 := e_rng h51
          intro z66 h66
          first | replace h66 := e_add h66 (by omega) | replace h66 := e_rng h66
          refine Exists.intro [0, 2, 3, 4, 5, 6, 7, 8, 9, 10, 11, 12, 13, 14, 15, 16, 1, 17, 18, 19, 20, 21, 22, 23, 24, 25] (Exists.intro [q2 0, q1 _] (Exists.intro ([.inr (12, [q1 _, q2 2, q2 3, q2 4, q2 5, q2 6, q2 1, q2 7, q2 8, q2 9, q1 _, q1 _, q1 _, q1 _, q1 _, q3 _, q1 _, q1 _, q1 _, q2 10, q2 11, q1 _, q1 _, q1 _, q1 _, q1 _, q1 _, q2 12, q1 _, q2 13, q2 14, q2 15, q2 16, q1 _, q2 17, q1 _, q2 18, q2 19, q2 20, q2 21, q2 22, q1 _, q2 23, q2 24, q2 25]), .inl (0, 600, .inl _)]) (And.intro rfl (And.intro rfl (And.intro rfl (And.intro ⟨⟨_, rfl⟩, rfl⟩ ?_))))))
          refine Exists.intro _ (Exists.intro _ (Exists.intro _ (Exists.intro _ (Exists.intro _ (Exists.intro _ (Exists.intro _ (Exists.intro _ (Exists.intro _ (Exists.intro _ (Exists.intro _ (Exists.intro _ (Exists.intro _ (Exists.intro _ (Exists.intro _ (Exists.intro _ (Exists.intro _ (Exists.intro _ (Exists.intro _ (Exists.intro _ (Exists.intro _ (Exists.intro _ (And.intro rfl (And.intro rfl (And.intro (by first | omega | assumption | exact q_rg_up (by assumption) (by omega) | exact q_rg_up (q_rg_up (by assumption) (by omega)) (by omega) | exact q_rg_cpy (by assumption) (by assumption)) (And.intro (by first | omega | assumption | exact q_rg_up (by assumption) (by omega) | exact q_rg_up (q_rg_up (by assumption) (by omega)) (by omega) | exact q_rg_cpy (by assumption) (by assumption)) (And.intro (by first | omega | assumption | exact q_rg_up (by assumption) (by omega) | exact q_rg_up (q_rg_up (by assumption) (by omega)) (by omega) | exact q_rg_cpy (by assumption) (by assumption)) (?_)))))))))))))))))))))))))))
          intro z67 h67
          obtain ⟨h67, k67⟩ := h67
          first | replace k67 := OFQ_13 k67 (by omega) | replace k67 := OFQ_21 k67 (by omega) | clear k67
          intro z71 h71
          first | replace h71 := e_sub h71 (by omega) | replace h71 := e_rng h71
          refine Exists.intro [] (Exists.intro [q1 _, q1 _] (Exists.intro [] (And.intro rfl (And.intro rfl (And.intro rfl (And.intro trivial ?_))))))
          refine Exists.intro _ (Exists.intro _ (And.intro rfl (And.intro rfl (?_))))
          intro z72 h72
          apply And.intro
          · exact ⟨by omega, by omega⟩
          apply And.intro
          · exact ⟨by omega, by omega⟩
          intro z83 h83
          intro z84 h84
          first | replace h84 := e_sub h84 (by omega) | replace h84 := e_rng h84
          intro z91 h91
          first | replace h91 := e_add h91 (by omega) | replace h91 := e_rng h91
          refine Exists.intro [0, 2, 3, 4, 5, 6, 7, 8, 9, 10, 11, 12, 13, 14, 15, 16, 1, 17, 18, 19, 20, 21, 22, 23, 24, 25] (Exists.intro [q2 0, q1 _] (Exists.intro ([.inr (12, [q1 _, q2 2, q2 3, q2 4, q2 5, q2 6, q2 1, q2 7, q2 8, q2 9, q1 _, q1 _, q1 _, q1 _, q1 _, q3 _, q1 _, q1 _, q1 _, q2 10, q2 11, q1 _, q1 _, q1 _, q1 _, q1 _, q1 _, q2 12, q1 _, q2 13, q2 14, q2 15, q2 16, q1 _, q2 17, q1 _, q2 18, q2 19, q2 20, q2 21, q2 22, q1 _, q2 23, q2 24, q2 25]), .inl (0, 600, .inl _)]) (And.intro rfl (And.intro rfl (And.intro rfl (And.intro ⟨⟨_, rfl⟩, rfl⟩ ?_))))))
          refine Exists.intro _ (Exists.intro _ (Exists.intro _ (Exists.intro _ (Exists.intro _ (Exists.intro _ (Exists.intro _ (Exists.intro _ (Exists.intro _ (Exists.intro _ (Exists.intro _ (Exists.intro _ (Exists.intro _ (Exists.intro _ (Exists.intro _ (Exists.intro _ (Exists.intro _ (Exists.intro _ (Exists.intro _ (Exists.intro _ (Exists.intro _ (Exists.intro _ (And.intro rfl (And.intro rfl (And.intro (by first | omega | assumption | exact q_rg_up (by assumption) (by omega) | exact q_rg_up (q_rg_up (by assumption) (by omega)) (by omega) | exact q_rg_cpy (by assumption) (by assumption)) (And.intro (by first | omega | assumption | exact q_rg_up (by assumption) (by omega) | exact q_rg_up (q_rg_up (by assumption) (by omega)) (by omega) | exact q_rg_cpy (by assumption) (by assumption)) (And.intro (by first | omega | assumption | exact q_rg_up (by assumption) (by omega) | exact q_rg_up (q_rg_up (by assumption) (by omega)) (by omega) | exact q_rg_cpy (by assumption) (by assumption)) (?_)))))))))))))))))))))))))))
          intro z92 h92
          obtain ⟨h92, k92⟩ := h92
          first | replace k92 := OFQ_13 k92 (by omega) | replace k92 := OFQ_21 k92 (by omega) | clear k92
          have st := up_s (r := z92) hbo ho (by omega) (by rw [h92, h91])
          exact ⟨_, ⟨_, _, _, rfl, rfl, rfl, rfl, (by first | exact st.1 | exact BI_ac hbi hbo (by omega)), (by first | omega | assumption | exact q_rg_up (by assumption) (by omega) | exact q_rg_up (q_rg_up (by assumption) (by omega)) (by omega) | exact q_rg_cpy (by assumption) (by assumption))⟩, by omega⟩
        · intro h42
          intro z66 h66
          first | replace h66 := e_add h66 (by omega) | replace h66 := e_rng h66
          refine Exists.intro [0, 2, 3, 4, 5, 6, 7, 8, 9, 10, 11, 12, 13, 14, 15, 16, 1, 17, 18, 19, 20, 21, 22, 23, 24, 25] (Exists.intro [q2 0, q1 _] (Exists.intro ([.inr (12, [q1 _, q2 2, q2 3, q2 4, q2 5, q2 6, q2 1, q2 7, q2 8, q2 9, q1 _, q1 _, q1 _, q1 _, q1 _, q3 _, q1 _, q1 _, q1 _, q2 10, q2 11, q1 _, q1 _, q1 _, q1 _, q1 _, q1 _, q2 12, q1 _, q2 13, q2 14, q2 15, q2 16, q1 _, q2 17, q1 _, q2 18, q2 19, q2 20, q2 21, q2 22, q1 _, q2 23, q2 24, q2 25]), .inl (0, 600, .inl _)]) (And.intro rfl (And.intro rfl (And.intro rfl (And.intro ⟨⟨_, rfl⟩, rfl⟩ ?_))))))
          refine Exists.intro _ (Exists.intro _ (Exists.intro _ (Exists.intro _ (Exists.intro _ (Exists.intro _ (Exists.intro _ (Exists.intro _ (Exists.intro _ (Exists.intro _ (Exists.intro _ (Exists.intro _ (Exists.intro _ (Exists.intro _ (Exists.intro _ (Exists.intro _ (Exists.intro _ (Exists.intro _ (Exists.intro _ (Exists.intro _ (Exists.intro _ (Exists.intro _ (And.intro rfl (And.intro rfl (And.intro (by first | omega | assumption | exact q_rg_up (by assumption) (by omega) | exact q_rg_up (q_rg_up (by assumption) (by omega)) (by omega) | exact q_rg_cpy (by assumption) (by assumption)) (And.intro (by first | omega | assumption | exact q_rg_up (by assumption) (by omega) | exact q_rg_up (q_rg_up (by assumption) (by omega)) (by omega) | exact q_rg_cpy (by assumption) (by assumption)) (And.intro (by first | omega | assumption | exact q_rg_up (by assumption) (by omega) | exact q_rg_up (q_rg_up (by assumption) (by omega)) (by omega) | exact q_rg_cpy (by assumption) (by assumption)) (?_)))))))))))))))))))))))))))
          intro z67 h67
          obtain ⟨h67, k67⟩ := h67
          first | replace k67 := OFQ_13 k67 (by omega) | replace k67 := OFQ_21 k67 (by omega) | clear k67
          intro z71 h71
          first | replace h71 := e_sub h71 (by omega) | replace h71 := e_rng h71
          refine Exists.intro [] (Exists.intro [q1 _, q1 _] (Exists.intro [] (And.intro rfl (And.intro rfl (And.intro rfl (And.intro trivial ?_))))))
          refine Exists.intro _ (Exists.intro _ (And.intro rfl (And.intro rfl (?_))))
          intro z72 h72
          apply And.intro
          · exact ⟨by omega, by omega⟩
          apply And.intro
          · exact ⟨by omega, by omega⟩
          intro z83 h83
          intro z84 h84
          first | replace h84 := e_sub h84 (by omega) | replace h84 := e_rng h84
          intro z91 h91
          first | replace h91 := e_add h91 (by omega) | replace h91 := e_rng h91
          refine Exists.intro [0, 2, 3, 4, 5, 6, 7, 8, 9, 10, 11, 12, 13, 14, 15, 16, 1, 17, 18, 19, 20, 21, 22, 23, 24, 25] (Exists.intro [q2 0, q1 _] (Exists.intro ([.inr (12, [q1 _, q2 2, q2 3, q2 4, q2 5, q2 6, q2 1, q2 7, q2 8, q2 9, q1 _, q1 _, q1 _, q1 _, q1 _, q3 _, q1 _, q1 _, q1 _, q2 10, q2 11, q1 _, q1 _, q1 _, q1 _, q1 _, q1 _, q2 12, q1 _, q2 13, q2 14, q2 15, q2 16, q1 _, q2 17, q1 _, q2 18, q2 19, q2 20, q2 21, q2 22, q1 _, q2 23, q2 24, q2 25]), .inl (0, 600, .inl _)]) (And.intro rfl (And.intro rfl (And.intro rfl (And.intro ⟨⟨_, rfl⟩, rfl⟩ ?_))))))
          refine Exists.intro _ (Exists.intro _ (Exists.intro _ (Exists.intro _ (Exists.intro _ (Exists.intro _ (Exists.intro _ (Exists.intro _ (Exists.intro _ (Exists.intro _ (Exists.intro _ (Exists.intro _ (Exists.intro _ (Exists.intro _ (Exists.intro _ (Exists.intro _ (Exists.intro _ (Exists.intro _ (Exists.intro _ (Exists.intro _ (Exists.intro _ (Exists.intro _ (And.intro rfl (And.intro rfl (And.intro (by first | omega | assumption | exact q_rg_up (by assumption) (by omega) | exact q_rg_up (q_rg_up (by assumption) (by omega)) (by omega) | exact q_rg_cpy (by assumption) (by assumption)) (And.intro (by first | omega | assumption | exact q_rg_up (by assumption) (by omega) | exact q_rg_up (q_rg_up (by assumption) (by omega)) (by omega) | exact q_rg_cpy (by assumption) (by assumption)) (And.intro (by first | omega | assumption | exact q_rg_up (by assumption) (by omega) | exact q_rg_up (q_rg_up (by assumption) (by omega)) (by omega) | exact q_rg_cpy (by assumption) (by assumption)) (?_)))))))))))))))))))))))))))
          intro z92 h92
          obtain ⟨h92, k92⟩ := h92
          first | replace k92 := OFQ_13 k92 (by omega) | replace k92 := OFQ_21 k92 (by omega) | clear k92
          have st := up_s (r := z92) hbo ho (by omega) (by rw [h92, h91])
          exact ⟨_, ⟨_, _, _, rfl, rfl, rfl, rfl, (by first | exact st.1 | exact BI_ac hbi hbo (by omega)), (by first | omega | assumption | exact q_rg_up (by assumption) (by omega) | exact q_rg_up (q_rg_up (by assumption) (by omega)) (by omega) | exact q_rg_cpy (by assumption) (by assumption))⟩, by omega⟩
    simp only [I_X12_findShares, h2, h26, if_false] at hI
  rintro lv st w' ⟨rfl, rfl, rfl⟩
  exact ⟨_, _, _, rfl, rfl, rfl, rfl, (by first | omega | assumption | exact q_rg_up (by assumption) (by omega) | exact q_rg_up (q_rg_up (by assumption) (by omega)) (by omega) | exact q_rg_cpy (by assumption) (by assumption))⟩

theorem dX12_stepsUp_0 : decode cX12_stepsUp 0 = .ok (.iconst 0, 1) := by decide +kernel
theorem dX12_stepsUp_1 : decode cX12_stepsUp 1 = .ok (.istore_n 3, 1) := by decide +kernel
theorem dX12_stepsUp_2 : decode cX12_stepsUp 2 = .ok (.iload_n 1, 1) := by decide +kernel
theorem dX12_stepsUp_3 : decode cX12_stepsUp 3 = .ok (.istore 4, 2) := by decide +kernel
theorem dX12_stepsUp_5 : decode cX12_stepsUp 5 = .ok (.iload 4, 2) := by decide +kernel
theorem dX12_stepsUp_7 : decode cX12_stepsUp 7 = .ok (.iconst (-1), 1) := by decide +kernel
theorem dX12_stepsUp_8 : decode cX12_stepsUp 8 = .ok (.if_icmp .eq 26, 3) := by decide +kernel
theorem dX12_stepsUp_11 : decode cX12_stepsUp 11 = .ok (.iload 4, 2) := by decide +kernel
theorem dX12_stepsUp_13 : decode cX12_stepsUp 13 = .ok (.iload_n 2, 1) := by decide +kernel
theorem dX12_stepsUp_14 : decode cX12_stepsUp 14 = .ok (.if_icmp .eq 20, 3) := by decide +kernel
theorem dX12_stepsUp_17 : decode cX12_stepsUp 17 = .ok (.aload_n 0, 1) := by decide +kernel
theorem dX12_stepsUp_18 : decode cX12_stepsUp 18 = .ok (.bipush 13, 2) := by decide +kernel
theorem dX12_stepsUp_20 : decode cX12_stepsUp 20 = .ok (.iload 4, 2) := by decide +kernel
theorem dX12_stepsUp_22 : decode cX12_stepsUp 22 = .ok (.iadd, 1) := by decide +kernel
theorem dX12_stepsUp_23 : decode cX12_stepsUp 23 = .ok (.invokevirtual 299, 3) := by decide +kernel
theorem dX12_stepsUp_26 : decode cX12_stepsUp 26 = .ok (.istore 4, 2) := by decide +kernel
theorem dX12_stepsUp_28 : decode cX12_stepsUp 28 = .ok (.iinc 3 1, 3) := by decide +kernel
theorem dX12_stepsUp_31 : decode cX12_stepsUp 31 = .ok (.goto (-26), 3) := by decide +kernel
theorem dX12_stepsUp_34 : decode cX12_stepsUp 34 = .ok (.iload 4, 2) := by decide +kernel
theorem dX12_stepsUp_36 : decode cX12_stepsUp 36 = .ok (.iconst (-1), 1) := by decide +kernel
theorem dX12_stepsUp_37 : decode cX12_stepsUp 37 = .ok (.if_icmp .ne 7, 3) := by decide +kernel
theorem dX12_stepsUp_40 : decode cX12_stepsUp 40 = .ok (.iconst (-1), 1) := by decide +kernel
theorem dX12_stepsUp_41 : decode cX12_stepsUp 41 = .ok (.goto 4, 3) := by decide +kernel
theorem dX12_stepsUp_44 : decode cX12_stepsUp 44 = .ok (.iload_n 3, 1) := by decide +kernel
theorem dX12_stepsUp_45 : decode cX12_stepsUp 45 = .ok (.ireturn, 1) := by decide +kernel
def is_X12_stepsUp : Nat → List Nat := fun d => if d = 5 then [0, 2, 3, 4] else []
set_option maxRecDepth 100000 in
def b_X12_stepsUp_45 (J : Nat → List qV → List qV → qW → Prop) (Q : qR) : qK := x_iret Q
set_option maxRecDepth 100000 in
theorem s_X12_stepsUp_45 {p : Program} {l : Launch} {e : Env} {R : Room} {s : State} {m : MethodId} {args : Array Value} {below : List Frame} {meth : Method} {c : Code} {nW : Nat} {dC : Nat → ClassId} {dI : Nat → Nat → Nat} {k : Nat → ClassId} {g : Nat → Nat} {A : Nat → Prop} {J : Nat → List qV → List qV → qW → Prop} {Q : qR} (X : q_X p R s m args meth c cX12_stepsUp 5 nW 1 21 RX12 (some .int) dC dI k g A) (hJ : ∀ d : Nat, q_Sd p l e R s m args below meth c 5 nW dC dI k g A (MQ below (q_post (dC, dI) k g nW Q A) args s 0 0 A) d (x_cut (is_X12_stepsUp d) (J d))) : q_Sd p l e R s m args below meth c 5 nW dC dI k g A (MQ below (q_post (dC, dI) k g nW Q A) args s 0 0 A) 45 (b_X12_stepsUp_45 J Q) := by
  unfold b_X12_stepsUp_45
  exact s_iret X dX12_stepsUp_45
set_option maxRecDepth 100000 in
def b_X12_stepsUp_34 (J : Nat → List qV → List qV → qW → Prop) (Q : qR) : qK := x_iload 4 (x_int (-1) (x_icmp_ne (x_iload 3 (b_X12_stepsUp_45 J Q)) (x_int (-1) (b_X12_stepsUp_45 J Q))))
set_option maxRecDepth 100000 in
theorem s_X12_stepsUp_34 {p : Program} {l : Launch} {e : Env} {R : Room} {s : State} {m : MethodId} {args : Array Value} {below : List Frame} {meth : Method} {c : Code} {nW : Nat} {dC : Nat → ClassId} {dI : Nat → Nat → Nat} {k : Nat → ClassId} {g : Nat → Nat} {A : Nat → Prop} {J : Nat → List qV → List qV → qW → Prop} {Q : qR} (X : q_X p R s m args meth c cX12_stepsUp 5 nW 1 21 RX12 (some .int) dC dI k g A) (hJ : ∀ d : Nat, q_Sd p l e R s m args below meth c 5 nW dC dI k g A (MQ below (q_post (dC, dI) k g nW Q A) args s 0 0 A) d (x_cut (is_X12_stepsUp d) (J d))) : q_Sd p l e R s m args below meth c 5 nW dC dI k g A (MQ below (q_post (dC, dI) k g nW Q A) args s 0 0 A) 34 (b_X12_stepsUp_34 J Q) := by
  unfold b_X12_stepsUp_34
  refine s_iload X dX12_stepsUp_34 ?_
  refine s_iconst X ⟨by decide, by decide⟩ dX12_stepsUp_36 ?_
  refine s_icmp_ne X (tgt := 44) dX12_stepsUp_37 (by decide) ?_ ?_
  · refine s_iload_n X rfl dX12_stepsUp_44 ?_
    exact s_X12_stepsUp_45 X hJ
  · refine s_iconst X ⟨by decide, by decide⟩ dX12_stepsUp_40 ?_
    refine s_goto X (tgt := 45) dX12_stepsUp_41 (by decide) ?_
    exact s_X12_stepsUp_45 X hJ
set_option maxRecDepth 100000 in
def b_X12_stepsUp_5 (J : Nat → List qV → List qV → qW → Prop) (Q : qR) : qK := x_iload 4 (x_int (-1) (x_icmp_eq (b_X12_stepsUp_34 J Q) (x_iload 4 (x_iload 2 (x_icmp_eq (b_X12_stepsUp_34 J Q) (x_aload 0 (x_int 13 (x_iload 4 (x_iadd (x_callr (some 12) 2 spr_X12_of (x_istore 4 (x_iinc 3 1 (x_cut [0, 2, 3, 4] (J 5))))))))))))))
set_option maxRecDepth 100000 in
theorem s_X12_stepsUp_5 {p : Program} {l : Launch} {e : Env} {R : Room} {s : State} {m : MethodId} {args : Array Value} {below : List Frame} {meth : Method} {c : Code} {nW : Nat} {dC : Nat → ClassId} {dI : Nat → Nat → Nat} {k : Nat → ClassId} {g : Nat → Nat} {A : Nat → Prop} {J : Nat → List qV → List qV → qW → Prop} {Q : qR} (X : q_X p R s m args meth c cX12_stepsUp 5 nW 1 21 RX12 (some .int) dC dI k g A) (hJ : ∀ d : Nat, q_Sd p l e R s m args below meth c 5 nW dC dI k g A (MQ below (q_post (dC, dI) k g nW Q A) args s 0 0 A) d (x_cut (is_X12_stepsUp d) (J d))) : q_Sd p l e R s m args below meth c 5 nW dC dI k g A (MQ below (q_post (dC, dI) k g nW Q A) args s 0 0 A) 5 (b_X12_stepsUp_5 J Q) := by
  unfold b_X12_stepsUp_5
  refine s_iload X dX12_stepsUp_5 ?_
  refine s_iconst X ⟨by decide, by decide⟩ dX12_stepsUp_7 ?_
  refine s_icmp_eq X (tgt := 34) dX12_stepsUp_8 (by decide) ?_ ?_
  · exact s_X12_stepsUp_34 X hJ
  · refine s_iload X dX12_stepsUp_11 ?_
    refine s_iload_n X rfl dX12_stepsUp_13 ?_
    refine s_icmp_eq X (tgt := 34) dX12_stepsUp_14 (by decide) ?_ ?_
    · exact s_X12_stepsUp_34 X hJ
    · refine s_aload_n X rfl dX12_stepsUp_17 ?_
      refine s_bipush X ⟨by decide, by decide⟩ (by decide) dX12_stepsUp_18 ?_
      refine s_iload X dX12_stepsUp_20 ?_
      refine s_iadd X dX12_stepsUp_22 ?_
      refine s_callVr X (m_X12_of l) tw_1189 tw_1190 tw_1603 tw_134 tw_1191 rfl (by decide +kernel) ⟨by decide, by decide⟩ dX12_stepsUp_23 ?_
      refine s_istore X (by decide) dX12_stepsUp_26 ?_
      refine s_iinc X (by decide) dX12_stepsUp_28 ?_
      refine s_goto X (tgt := 5) dX12_stepsUp_31 (by decide) ?_
      exact hJ 5
set_option maxRecDepth 100000 in
def b_X12_stepsUp_0 (J : Nat → List qV → List qV → qW → Prop) (Q : qR) : qK := x_int 0 (x_istore 3 (x_iload 1 (x_istore 4 (x_cut [0, 2, 3, 4] (J 5)))))
set_option maxRecDepth 100000 in
theorem s_X12_stepsUp_0 {p : Program} {l : Launch} {e : Env} {R : Room} {s : State} {m : MethodId} {args : Array Value} {below : List Frame} {meth : Method} {c : Code} {nW : Nat} {dC : Nat → ClassId} {dI : Nat → Nat → Nat} {k : Nat → ClassId} {g : Nat → Nat} {A : Nat → Prop} {J : Nat → List qV → List qV → qW → Prop} {Q : qR} (X : q_X p R s m args meth c cX12_stepsUp 5 nW 1 21 RX12 (some .int) dC dI k g A) (hJ : ∀ d : Nat, q_Sd p l e R s m args below meth c 5 nW dC dI k g A (MQ below (q_post (dC, dI) k g nW Q A) args s 0 0 A) d (x_cut (is_X12_stepsUp d) (J d))) : q_Sd p l e R s m args below meth c 5 nW dC dI k g A (MQ below (q_post (dC, dI) k g nW Q A) args s 0 0 A) 0 (b_X12_stepsUp_0 J Q) := by
  unfold b_X12_stepsUp_0
  refine s_iconst X ⟨by decide, by decide⟩ dX12_stepsUp_0 ?_
  refine s_istore_n X rfl (by decide) dX12_stepsUp_1 ?_
  refine s_iload_n X rfl dX12_stepsUp_2 ?_
  refine s_istore X (by decide) dX12_stepsUp_3 ?_
  exact hJ 5

def spr_X12_stepsUp : List qV → qW → (Option qV → Prop) → Prop := fun av w Q => ∃ (mco : Int) (mre : Int) (mle : Int) (mbe : Int) (mso : Int) (mva : Int) (mwo : Int) (mwr : Int) (mlf : Int) (mlp : Int) (mfp : Int) (mfd : Int) (mgo : Int) (mbo : Int) (mpe : Int) (mye : Int) (mpr : Int) (mld : Int) (msi : Int) (mse : Int) (bs : Nat → Int) (a : Int) (b : Int), av = [q2 0, q1 a, q1 b] ∧ w = [.inr (12, [q1 mco, q2 2, q2 3, q2 4, q2 5, q2 6, q2 1, q2 7, q2 8, q2 9, q1 mre, q1 mle, q1 mbe, q1 mso, q1 mva, q3 mwo, q1 mwr, q1 mlf, q1 mlp, q2 10, q2 11, q1 mfp, q1 mfd, q1 mgo, q1 mbo, q1 mpe, q1 mye, q2 12, q1 mpr, q2 13, q2 14, q2 15, q2 16, q1 mld, q2 17, q1 msi, q2 18, q2 19, q2 20, q2 21, q2 22, q1 mse, q2 23, q2 24, q2 25]), .inl (0, 600, .inl bs)] ∧ (0 ≤ mbo ∧ mbo ≤ 1) ∧ (0 ≤ mpe ∧ mpe ≤ 8) ∧ (BI bs) ∧ (mpe = ofR bs mbo 0) ∧ (0 ≤ a ∧ a < mpe) ∧ (∀ (r : Int) , Q (some (q1 r)))
def sp_X12_stepsUp : qS := fun av w Q => spr_X12_stepsUp av w (fun r => Q r w)
def I_X12_stepsUp (mco : Int) (mre : Int) (mle : Int) (mbe : Int) (mso : Int) (mva : Int) (mwo : Int) (mwr : Int) (mlf : Int) (mlp : Int) (mfp : Int) (mfd : Int) (mgo : Int) (mbo : Int) (mpe : Int) (mye : Int) (mpr : Int) (mld : Int) (msi : Int) (mse : Int) (bs : Nat → Int) (a : Int) (b : Int) : Nat → Nat → List qV → List qV → qW → Prop := fun dz mz vz sz wz => if dz = 5 then (∃ (v3 : Int) (v4 : Int), vz = [q2 0, q1 b, q1 v3, q1 v4] ∧ sz = [] ∧ wz = [.inr (12, [q1 mco, q2 2, q2 3, q2 4, q2 5, q2 6, q2 1, q2 7, q2 8, q2 9, q1 mre, q1 mle, q1 mbe, q1 mso, q1 mva, q3 mwo, q1 mwr, q1 mlf, q1 mlp, q2 10, q2 11, q1 mfp, q1 mfd, q1 mgo, q1 mbo, q1 mpe, q1 mye, q2 12, q1 mpr, q2 13, q2 14, q2 15, q2 16, q1 mld, q2 17, q1 msi, q2 18, q2 19, q2 20, q2 21, q2 22, q1 mse, q2 23, q2 24, q2 25]), .inl (0, 600, .inl bs)] ∧ mz = stp bs (75 * mbo.toNat) 8 v4 ∧ (pch bs (75 * mbo.toNat) 8 v4 = -1) ∧ (-1 ≤ v4 ∧ v4 ≤ 7)) else False
set_option maxHeartbeats 4000000 in
set_option maxRecDepth 100000 in
theorem m_X12_stepsUp (l : Launch) : q_M l yX12_stepsUp cX12_stepsUp 5 (some .int) 1 21 sp_X12_stepsUp := by
  refine q_meth (by decide) (fun av w Q h => by obtain ⟨mco, mre, mle, mbe, mso, mva, mwo, mwr, mlf, mlp, mfp, mfd, mgo, mbo, mpe, mye, mpr, mld, msi, mse, bs, a, b, rfl, rfl, hbo, hpe, hbi, hpq, ha, hQ⟩ := h; exact Nat.le_of_ble_eq_true rfl) ?_
  intro p e R s m args below meth c dC dI k g A av w Q hsp oka okw X
  obtain ⟨mco, mre, mle, mbe, mso, mva, mwo, mwr, mlf, mlp, mfp, mfd, mgo, mbo, mpe, mye, mpr, mld, msi, mse, bs, a, b, rfl, rfl, hbo, hpe, hbi, hpq, ha, hQ⟩ := hsp
  have o_a : -2147483648 ≤ a ∧ a ≤ 2147483647 := oka _ (List.mem_of_getElem? (i := 1) rfl)
  have o_b : -2147483648 ≤ b ∧ b ≤ 2147483647 := oka _ (List.mem_of_getElem? (i := 2) rfl)
  refine s_mono (s_X12_stepsUp_0 X (J := fun dz vz sz wz => ∃ mz, I_X12_stepsUp mco mre mle mbe mso mva mwo mwr mlf mlp mfp mfd mgo mbo mpe mye mpr mld msi mse bs a b dz mz vz sz wz) (q_loopn (I_X12_stepsUp mco mre mle mbe mso mva mwo mwr mlf mlp mfp mfd mgo mbo mpe mye mpr mld msi mse bs a b) (fun dz J => if dz = 5 then b_X12_stepsUp_5 J Q else q_F) ?hs ?hv)) ?_
  case hs =>
    intro d J hJ
    by_cases h5 : d = 5
    · subst h5; exact s_X12_stepsUp_5 X hJ
    simp only [h5, if_false]
    exact s_F
  case hv =>
    intro dz mz vz sz wz hI okv oks okw hlen
    by_cases h5 : dz = 5
    · subst h5
      obtain ⟨v3, v4, rfl, rfl, rfl, hn, ho, hr⟩ := hI
      apply And.intro
      · intro h8
        apply And.intro
        · intro h37
          exact hQ _
        · intro h37
          exact hQ _
      · intro h8
        apply And.intro
        · intro h14
          apply And.intro
          · intro h37
            exact hQ _
          · intro h37
            exact hQ _
        · intro h14
          intro z22 h22
          first | replace h22 := e_add h22 (by omega) | replace h22 := e_rng h22
          refine Exists.intro [0, 1, 2, 3, 4, 5, 6, 7, 8, 9, 10, 11, 12, 13, 14, 15, 16, 17, 18, 19, 20, 21, 22, 23, 24, 25] (Exists.intro [q2 0, q1 _] (Exists.intro ([.inr (12, [q1 _, q2 2, q2 3, q2 4, q2 5, q2 6, q2 1, q2 7, q2 8, q2 9, q1 _, q1 _, q1 _, q1 _, q1 _, q3 _, q1 _, q1 _, q1 _, q2 10, q2 11, q1 _, q1 _, q1 _, q1 _, q1 _, q1 _, q2 12, q1 _, q2 13, q2 14, q2 15, q2 16, q1 _, q2 17, q1 _, q2 18, q2 19, q2 20, q2 21, q2 22, q1 _, q2 23, q2 24, q2 25]), .inl (0, 600, .inl _)]) (And.intro rfl (And.intro rfl (And.intro rfl (And.intro ⟨⟨_, rfl⟩, rfl⟩ ?_))))))
          refine Exists.intro _ (Exists.intro _ (Exists.intro _ (Exists.intro _ (Exists.intro _ (Exists.intro _ (Exists.intro _ (Exists.intro _ (Exists.intro _ (Exists.intro _ (Exists.intro _ (Exists.intro _ (Exists.intro _ (Exists.intro _ (Exists.intro _ (Exists.intro _ (Exists.intro _ (Exists.intro _ (Exists.intro _ (Exists.intro _ (Exists.intro _ (Exists.intro _ (And.intro rfl (And.intro rfl (And.intro (by first | omega | assumption | exact q_rg_up (by assumption) (by omega) | exact q_rg_up (q_rg_up (by assumption) (by omega)) (by omega) | exact q_rg_cpy (by assumption) (by assumption)) (And.intro (by first | omega | assumption | exact q_rg_up (by assumption) (by omega) | exact q_rg_up (q_rg_up (by assumption) (by omega)) (by omega) | exact q_rg_cpy (by assumption) (by assumption)) (And.intro (by first | omega | assumption | exact q_rg_up (by assumption) (by omega) | exact q_rg_up (q_rg_up (by assumption) (by omega)) (by omega) | exact q_rg_cpy (by assumption) (by assumption)) (?_)))))))))))))))))))))))))))
          intro z23 h23
          obtain ⟨h23, k23⟩ := h23
          first | replace k23 := OFQ_13 k23 (by omega) | replace k23 := OFQ_21 k23 (by omega) | clear k23
          have st := up_s (r := z23) hbo ho (by omega) (by rw [h23, h22])
          intro z28 h28
          first | replace h28 := e_add h28 (by omega) | replace h28 := e_rng h28
          exact ⟨_, ⟨_, _, rfl, rfl, rfl, rfl, (by first | exact st.1 | exact BI_ac hbi hbo (by omega)), (by first | omega | assumption | exact q_rg_up (by assumption) (by omega) | exact q_rg_up (q_rg_up (by assumption) (by omega)) (by omega) | exact q_rg_cpy (by assumption) (by assumption))⟩, by omega⟩
    simp only [I_X12_stepsUp, h5, if_false] at hI
  rintro lv st w' ⟨rfl, rfl, rfl⟩
  exact ⟨_, _, _, rfl, rfl, rfl, rfl, (by first | exact st.1 | exact BI_ac hbi hbo (by omega)), (by first | omega | assumption | exact q_rg_up (by assumption) (by omega) | exact q_rg_up (q_rg_up (by assumption) (by omega)) (by omega) | exact q_rg_cpy (by assumption) (by assumption))⟩

theorem dX12_share_0 : decode cX12_share 0 = .ok (.aload_n 0, 1) := by decide +kernel
theorem dX12_share_1 : decode cX12_share 1 = .ok (.iconst 0, 1) := by decide +kernel
theorem dX12_share_2 : decode cX12_share 2 = .ok (.putfield 88, 3) := by decide +kernel
theorem dX12_share_5 : decode cX12_share 5 = .ok (.aload_n 0, 1) := by decide +kernel
theorem dX12_share_6 : decode cX12_share 6 = .ok (.iload_n 1, 1) := by decide +kernel
theorem dX12_share_7 : decode cX12_share 7 = .ok (.invokevirtual 306, 3) := by decide +kernel
theorem dX12_share_10 : decode cX12_share 10 = .ok (.ifCond .eq 36, 3) := by decide +kernel
theorem dX12_share_13 : decode cX12_share 13 = .ok (.aload_n 0, 1) := by decide +kernel
theorem dX12_share_14 : decode cX12_share 14 = .ok (.iload_n 2, 1) := by decide +kernel
theorem dX12_share_15 : decode cX12_share 15 = .ok (.invokevirtual 309, 3) := by decide +kernel
theorem dX12_share_18 : decode cX12_share 18 = .ok (.ifCond .eq 28, 3) := by decide +kernel
theorem dX12_share_21 : decode cX12_share 21 = .ok (.iload_n 3, 1) := by decide +kernel
theorem dX12_share_22 : decode cX12_share 22 = .ok (.iconst 1, 1) := by decide +kernel
theorem dX12_share_23 : decode cX12_share 23 = .ok (.bipush 99, 2) := by decide +kernel
theorem dX12_share_25 : decode cX12_share 25 = .ok (.invokestatic 100, 3) := by decide +kernel
theorem dX12_share_28 : decode cX12_share 28 = .ok (.ifCond .eq 18, 3) := by decide +kernel
theorem dX12_share_31 : decode cX12_share 31 = .ok (.iload 4, 2) := by decide +kernel
theorem dX12_share_33 : decode cX12_share 33 = .ok (.iconst (-1), 1) := by decide +kernel
theorem dX12_share_34 : decode cX12_share 34 = .ok (.if_icmp .eq 14, 3) := by decide +kernel
theorem dX12_share_37 : decode cX12_share 37 = .ok (.aload_n 0, 1) := by decide +kernel
theorem dX12_share_38 : decode cX12_share 38 = .ok (.iload 4, 2) := by decide +kernel
theorem dX12_share_40 : decode cX12_share 40 = .ok (.invokevirtual 309, 3) := by decide +kernel
theorem dX12_share_43 : decode cX12_share 43 = .ok (.ifCond .ne 5, 3) := by decide +kernel
theorem dX12_share_46 : decode cX12_share 46 = .ok (.iconst (-1), 1) := by decide +kernel
theorem dX12_share_47 : decode cX12_share 47 = .ok (.ireturn, 1) := by decide +kernel
theorem dX12_share_48 : decode cX12_share 48 = .ok (.aload_n 0, 1) := by decide +kernel
theorem dX12_share_49 : decode cX12_share 49 = .ok (.iload_n 2, 1) := by decide +kernel
theorem dX12_share_50 : decode cX12_share 50 = .ok (.iload_n 3, 1) := by decide +kernel
theorem dX12_share_51 : decode cX12_share 51 = .ok (.invokevirtual 422, 3) := by decide +kernel
theorem dX12_share_54 : decode cX12_share 54 = .ok (.istore 5, 2) := by decide +kernel
theorem dX12_share_56 : decode cX12_share 56 = .ok (.iload 4, 2) := by decide +kernel
theorem dX12_share_58 : decode cX12_share 58 = .ok (.iconst (-1), 1) := by decide +kernel
theorem dX12_share_59 : decode cX12_share 59 = .ok (.if_icmp .ne 8, 3) := by decide +kernel
theorem dX12_share_62 : decode cX12_share 62 = .ok (.iload 5, 2) := by decide +kernel
theorem dX12_share_64 : decode cX12_share 64 = .ok (.goto 10, 3) := by decide +kernel
theorem dX12_share_67 : decode cX12_share 67 = .ok (.aload_n 0, 1) := by decide +kernel
theorem dX12_share_68 : decode cX12_share 68 = .ok (.getfield 56, 3) := by decide +kernel
theorem dX12_share_71 : decode cX12_share 71 = .ok (.iload 4, 2) := by decide +kernel
theorem dX12_share_73 : decode cX12_share 73 = .ok (.iaload, 1) := by decide +kernel
theorem dX12_share_74 : decode cX12_share 74 = .ok (.ireturn, 1) := by decide +kernel
def is_X12_share : Nat → List Nat := fun d => []
set_option maxRecDepth 100000 in
def b_X12_share_74 (J : Nat → List qV → List qV → qW → Prop) (Q : qR) : qK := x_iret Q
set_option maxRecDepth 100000 in
theorem s_X12_share_74 {p : Program} {l : Launch} {e : Env} {R : Room} {s : State} {m : MethodId} {args : Array Value} {below : List Frame} {meth : Method} {c : Code} {nW : Nat} {dC : Nat → ClassId} {dI : Nat → Nat → Nat} {k : Nat → ClassId} {g : Nat → Nat} {A : Nat → Prop} {J : Nat → List qV → List qV → qW → Prop} {Q : qR} (X : q_X p R s m args meth c cX12_share 6 nW 3 65 RX12 (some .int) dC dI k g A) (hJ : ∀ d : Nat, q_Sd p l e R s m args below meth c 6 nW dC dI k g A (MQ below (q_post (dC, dI) k g nW Q A) args s 0 0 A) d (x_cut (is_X12_share d) (J d))) : q_Sd p l e R s m args below meth c 6 nW dC dI k g A (MQ below (q_post (dC, dI) k g nW Q A) args s 0 0 A) 74 (b_X12_share_74 J Q) := by
  unfold b_X12_share_74
  exact s_iret X dX12_share_74
set_option maxRecDepth 100000 in
def b_X12_share_48 (J : Nat → List qV → List qV → qW → Prop) (Q : qR) : qK := x_aload 0 (x_iload 2 (x_iload 3 (x_call (some 12) 3 sp_X12_findShares (x_nw (x_istore 5 (x_iload 4 (x_int (-1) (x_icmp_ne (x_aload 0 (x_get 12 32 (x_iload 4 (x_iald (b_X12_share_74 J Q))))) (x_iload 5 (b_X12_share_74 J Q))))))))))
set_option maxRecDepth 100000 in
theorem s_X12_share_48 {p : Program} {l : Launch} {e : Env} {R : Room} {s : State} {m : MethodId} {args : Array Value} {below : List Frame} {meth : Method} {c : Code} {nW : Nat} {dC : Nat → ClassId} {dI : Nat → Nat → Nat} {k : Nat → ClassId} {g : Nat → Nat} {A : Nat → Prop} {J : Nat → List qV → List qV → qW → Prop} {Q : qR} (X : q_X p R s m args meth c cX12_share 6 nW 3 65 RX12 (some .int) dC dI k g A) (hJ : ∀ d : Nat, q_Sd p l e R s m args below meth c 6 nW dC dI k g A (MQ below (q_post (dC, dI) k g nW Q A) args s 0 0 A) d (x_cut (is_X12_share d) (J d))) : q_Sd p l e R s m args below meth c 6 nW dC dI k g A (MQ below (q_post (dC, dI) k g nW Q A) args s 0 0 A) 48 (b_X12_share_48 J Q) := by
  unfold b_X12_share_48
  refine s_aload_n X rfl dX12_share_48 ?_
  refine s_iload_n X rfl dX12_share_49 ?_
  refine s_iload_n X rfl dX12_share_50 ?_
  refine s_callV X (m_X12_findShares l) tw_1333 tw_1334 tw_1574 tw_134 tw_1335 rfl (by decide +kernel) ⟨by decide, by decide⟩ dX12_share_51 ?_
  refine s_nw ?_
  refine s_istore X (by decide) dX12_share_54 ?_
  refine s_iload X dX12_share_56 ?_
  refine s_iconst X ⟨by decide, by decide⟩ dX12_share_58 ?_
  refine s_icmp_ne X (tgt := 67) dX12_share_59 (by decide) ?_ ?_
  · refine s_aload_n X rfl dX12_share_67 ?_
    refine s_get X (T := TX12) (C := RX12) (N := 45) tu_X12 rfl (by decide) tw_1029 dX12_share_68 ?_
    refine s_iload X dX12_share_71 ?_
    refine s_iald X dX12_share_73 ?_
    exact s_X12_share_74 X hJ
  · refine s_iload X dX12_share_62 ?_
    refine s_goto X (tgt := 74) dX12_share_64 (by decide) ?_
    exact s_X12_share_74 X hJ
set_option maxRecDepth 100000 in
def b_X12_share_46 (J : Nat → List qV → List qV → qW → Prop) (Q : qR) : qK := x_int (-1) (x_iret Q)
set_option maxRecDepth 100000 in
theorem s_X12_share_46 {p : Program} {l : Launch} {e : Env} {R : Room} {s : State} {m : MethodId} {args : Array Value} {below : List Frame} {meth : Method} {c : Code} {nW : Nat} {dC : Nat → ClassId} {dI : Nat → Nat → Nat} {k : Nat → ClassId} {g : Nat → Nat} {A : Nat → Prop} {J : Nat → List qV → List qV → qW → Prop} {Q : qR} (X : q_X p R s m args meth c cX12_share 6 nW 3 65 RX12 (some .int) dC dI k g A) (hJ : ∀ d : Nat, q_Sd p l e R s m args below meth c 6 nW dC dI k g A (MQ below (q_post (dC, dI) k g nW Q A) args s 0 0 A) d (x_cut (is_X12_share d) (J d))) : q_Sd p l e R s m args below meth c 6 nW dC dI k g A (MQ below (q_post (dC, dI) k g nW Q A) args s 0 0 A) 46 (b_X12_share_46 J Q) := by
  unfold b_X12_share_46
  refine s_iconst X ⟨by decide, by decide⟩ dX12_share_46 ?_
  exact s_iret X dX12_share_47
set_option maxRecDepth 100000 in
def b_X12_share_0 (J : Nat → List qV → List qV → qW → Prop) (Q : qR) : qK := x_aload 0 (x_int 0 (x_put 12 0 q_oki (x_nw (x_aload 0 (x_iload 1 (x_call (some 12) 2 sp_X12_hand (x_nw (x_if_eq (b_X12_share_46 J Q) (x_aload 0 (x_iload 2 (x_callr (some 12) 2 spr_X12_isPerson (x_if_eq (b_X12_share_46 J Q) (x_iload 3 (x_int 1 (x_int 99 (x_callr none 3 spr_X12_in (x_if_eq (b_X12_share_46 J Q) (x_iload 4 (x_int (-1) (x_icmp_eq (b_X12_share_48 J Q) (x_aload 0 (x_iload 4 (x_callr (some 12) 2 spr_X12_isPerson (x_if_ne (b_X12_share_48 J Q) (b_X12_share_46 J Q)))))))))))))))))))))))))
set_option maxRecDepth 100000 in
theorem s_X12_share_0 {p : Program} {l : Launch} {e : Env} {R : Room} {s : State} {m : MethodId} {args : Array Value} {below : List Frame} {meth : Method} {c : Code} {nW : Nat} {dC : Nat → ClassId} {dI : Nat → Nat → Nat} {k : Nat → ClassId} {g : Nat → Nat} {A : Nat → Prop} {J : Nat → List qV → List qV → qW → Prop} {Q : qR} (X : q_X p R s m args meth c cX12_share 6 nW 3 65 RX12 (some .int) dC dI k g A) (hJ : ∀ d : Nat, q_Sd p l e R s m args below meth c 6 nW dC dI k g A (MQ below (q_post (dC, dI) k g nW Q A) args s 0 0 A) d (x_cut (is_X12_share d) (J d))) : q_Sd p l e R s m args below meth c 6 nW dC dI k g A (MQ below (q_post (dC, dI) k g nW Q A) args s 0 0 A) 0 (b_X12_share_0 J Q) := by
  unfold b_X12_share_0
  refine s_aload_n X rfl dX12_share_0 ?_
  refine s_iconst X ⟨by decide, by decide⟩ dX12_share_1 ?_
  refine s_put X (T := TX12) (C := RX12) (N := 45) tu_X12 tyX12_ok nmX12 rfl (by decide) tw_997 rfl (by decide +kernel) q_oki_t dX12_share_2 ?_
  refine s_nw ?_
  refine s_aload_n X rfl dX12_share_5 ?_
  refine s_iload_n X rfl dX12_share_6 ?_
  refine s_callV X (m_X12_hand l) tw_1186 tw_1187 tw_1585 tw_134 tw_1188 rfl (by decide +kernel) ⟨by decide, by decide⟩ dX12_share_7 ?_
  refine s_nw ?_
  refine s_if_eq X (tgt := 46) dX12_share_10 (by decide) ?_ ?_
  · exact s_X12_share_46 X hJ
  · refine s_aload_n X rfl dX12_share_13 ?_
    refine s_iload_n X rfl dX12_share_14 ?_
    refine s_callVr X (m_X12_isPerson l) tw_1192 tw_1193 tw_1591 tw_134 tw_1194 rfl (by decide +kernel) ⟨by decide, by decide⟩ dX12_share_15 ?_
    refine s_if_eq X (tgt := 46) dX12_share_18 (by decide) ?_ ?_
    · exact s_X12_share_46 X hJ
    · refine s_iload_n X rfl dX12_share_21 ?_
      refine s_iconst X ⟨by decide, by decide⟩ dX12_share_22 ?_
      refine s_bipush X ⟨by decide, by decide⟩ (by decide) dX12_share_23 ?_
      refine s_callSr X (m_X12_in l) tw_1054 tw_1055 tw_134 tw_1056 (by decide +kernel) ⟨by decide, by decide⟩ dX12_share_25 ?_
      refine s_if_eq X (tgt := 46) dX12_share_28 (by decide) ?_ ?_
      · exact s_X12_share_46 X hJ
      · refine s_iload X dX12_share_31 ?_
        refine s_iconst X ⟨by decide, by decide⟩ dX12_share_33 ?_
        refine s_icmp_eq X (tgt := 48) dX12_share_34 (by decide) ?_ ?_
        · exact s_X12_share_48 X hJ
        · refine s_aload_n X rfl dX12_share_37 ?_
          refine s_iload X dX12_share_38 ?_
          refine s_callVr X (m_X12_isPerson l) tw_1192 tw_1193 tw_1591 tw_134 tw_1194 rfl (by decide +kernel) ⟨by decide, by decide⟩ dX12_share_40 ?_
          refine s_if_ne X (tgt := 48) dX12_share_43 (by decide) ?_ ?_
          · exact s_X12_share_48 X hJ
          · exact s_X12_share_46 X hJ

def sp_X12_share : qS := fun av w Q => ∃ (mco : Int) (mre : Int) (mle : Int) (mbe : Int) (mso : Int) (mva : Int) (mwo : Int) (mwr : Int) (mlf : Int) (mlp : Int) (mfp : Int) (mfd : Int) (mgo : Int) (mbo : Int) (mpe : Int) (mye : Int) (mpr : Int) (mld : Int) (msi : Int) (mse : Int) (mn : Nat → Int) (bs : Nat → Int) (lo : Nat → Int) (a : Int) (b : Int) (cc : Int) (dd : Int), av = [q2 0, q1 a, q1 b, q1 cc, q1 dd] ∧ w = [.inr (12, [q1 mco, q2 4, q2 5, q2 6, q2 7, q2 1, q2 2, q2 8, q2 9, q2 10, q1 mre, q1 mle, q1 mbe, q1 mso, q1 mva, q3 mwo, q1 mwr, q1 mlf, q1 mlp, q2 11, q2 12, q1 mfp, q1 mfd, q1 mgo, q1 mbo, q1 mpe, q1 mye, q2 13, q1 mpr, q2 14, q2 15, q2 16, q2 3, q1 mld, q2 17, q1 msi, q2 18, q2 19, q2 20, q2 21, q2 22, q1 mse, q2 23, q2 24, q2 25]), .inl (0, 16, .inl mn), .inl (0, 600, .inl bs), .inl (0, 8, .inl lo)] ∧ (q_rg 0 2 mn) ∧ (BI bs) ∧ (∀ (r : Int) (x_mco : Int) (x_mbo : Int) (x_mpe : Int) (x_lo : Nat → Int), Q (some (q1 r)) ([.inr (12, [q1 x_mco, q2 4, q2 5, q2 6, q2 7, q2 1, q2 2, q2 8, q2 9, q2 10, q1 mre, q1 mle, q1 mbe, q1 mso, q1 mva, q3 mwo, q1 mwr, q1 mlf, q1 mlp, q2 11, q2 12, q1 mfp, q1 mfd, q1 mgo, q1 x_mbo, q1 x_mpe, q1 mye, q2 13, q1 mpr, q2 14, q2 15, q2 16, q2 3, q1 mld, q2 17, q1 msi, q2 18, q2 19, q2 20, q2 21, q2 22, q1 mse, q2 23, q2 24, q2 25]), .inl (0, 16, .inl mn), .inl (0, 600, .inl bs), .inl (0, 8, .inl x_lo)]))
set_option maxHeartbeats 4000000 in
set_option maxRecDepth 100000 in
theorem m_X12_share (l : Launch) : q_M l yX12_share cX12_share 6 (some .int) 3 65 sp_X12_share := by
  refine q_meth (by decide) (fun av w Q h => by obtain ⟨mco, mre, mle, mbe, mso, mva, mwo, mwr, mlf, mlp, mfp, mfd, mgo, mbo, mpe, mye, mpr, mld, msi, mse, mn, bs, lo, a, b, cc, dd, rfl, rfl, hmn, hbi, hQ⟩ := h; exact Nat.le_of_ble_eq_true rfl) ?_
  intro p e R s m args below meth c dC dI k g A av w Q hsp oka okw X
  obtain ⟨mco, mre, mle, mbe, mso, mva, mwo, mwr, mlf, mlp, mfp, mfd, mgo, mbo, mpe, mye, mpr, mld, msi, mse, mn, bs, lo, a, b, cc, dd, rfl, rfl, hmn, hbi, hQ⟩ := hsp
  have o_a : -2147483648 ≤ a ∧ a ≤ 2147483647 := oka _ (List.mem_of_getElem? (i := 1) rfl)
  have o_b : -2147483648 ≤ b ∧ b ≤ 2147483647 := oka _ (List.mem_of_getElem? (i := 2) rfl)
  have o_cc : -2147483648 ≤ cc ∧ cc ≤ 2147483647 := oka _ (List.mem_of_getElem? (i := 3) rfl)
  have o_dd : -2147483648 ≤ dd ∧ dd ≤ 2147483647 := oka _ (List.mem_of_getElem? (i := 4) rfl)
  refine s_mono (s_X12_share_0 X (J := fun _ _ _ _ => False) (fun d => s_cutF)) ?_
  rintro lv st w' ⟨rfl, rfl, rfl⟩
  apply And.intro
  · exact trivial
  refine Exists.intro [0, 1, 2, 4, 5, 6, 7, 8, 9, 10, 11, 12, 13, 14, 15, 16, 3, 17, 18, 19, 20, 21, 22, 23, 24, 25] (Exists.intro [q2 0, q1 _] (Exists.intro ([.inr (12, [q1 _, q2 3, q2 4, q2 5, q2 6, q2 1, q2 2, q2 7, q2 8, q2 9, q1 _, q1 _, q1 _, q1 _, q1 _, q3 _, q1 _, q1 _, q1 _, q2 10, q2 11, q1 _, q1 _, q1 _, q1 _, q1 _, q1 _, q2 12, q1 _, q2 13, q2 14, q2 15, q2 16, q1 _, q2 17, q1 _, q2 18, q2 19, q2 20, q2 21, q2 22, q1 _, q2 23, q2 24, q2 25]), .inl (0, 16, .inl _), .inl (0, 600, .inl _)]) (And.intro rfl (And.intro rfl (And.intro rfl (And.intro ⟨⟨_, rfl⟩, rfl⟩ ?_))))))
  refine Exists.intro _ (Exists.intro _ (Exists.intro _ (Exists.intro _ (Exists.intro _ (Exists.intro _ (Exists.intro _ (Exists.intro _ (Exists.intro _ (Exists.intro _ (Exists.intro _ (Exists.intro _ (Exists.intro _ (Exists.intro _ (Exists.intro _ (Exists.intro _ (Exists.intro _ (Exists.intro _ (Exists.intro _ (Exists.intro _ (Exists.intro _ (Exists.intro _ (Exists.intro _ (And.intro rfl (And.intro rfl (And.intro (by first | omega | assumption | exact q_rg_up (by assumption) (by omega) | exact q_rg_up (q_rg_up (by assumption) (by omega)) (by omega) | exact q_rg_cpy (by assumption) (by assumption)) (And.intro (by first | omega | assumption | exact q_rg_up (by assumption) (by omega) | exact q_rg_up (q_rg_up (by assumption) (by omega)) (by omega) | exact q_rg_cpy (by assumption) (by assumption)) (?_)))))))))))))))))))))))))))
  intro z7 x_mbo_7 x_mpe_7 h7
  apply And.intro
  · intro h10
    first | replace h7 := dj1 h7 h10 | replace h7 := dj0 h7 h10
    exact hQ _ _ _ _ _
  · intro h10
    first | replace h7 := dj1 h7 h10 | replace h7 := dj0 h7 h10
    refine Exists.intro [0, 4, 5, 6, 7, 1, 2, 8, 9, 10, 11, 12, 13, 14, 15, 16, 3, 17, 18, 19, 20, 21, 22, 23, 24, 25] (Exists.intro [q2 0, q1 _] (Exists.intro ([.inr (12, [q1 _, q2 1, q2 2, q2 3, q2 4, q2 5, q2 6, q2 7, q2 8, q2 9, q1 _, q1 _, q1 _, q1 _, q1 _, q3 _, q1 _, q1 _, q1 _, q2 10, q2 11, q1 _, q1 _, q1 _, q1 _, q1 _, q1 _, q2 12, q1 _, q2 13, q2 14, q2 15, q2 16, q1 _, q2 17, q1 _, q2 18, q2 19, q2 20, q2 21, q2 22, q1 _, q2 23, q2 24, q2 25])]) (And.intro rfl (And.intro rfl (And.intro rfl (And.intro ⟨⟨_, rfl⟩, rfl⟩ ?_))))))
    refine Exists.intro _ (Exists.intro _ (Exists.intro _ (Exists.intro _ (Exists.intro _ (Exists.intro _ (Exists.intro _ (Exists.intro _ (Exists.intro _ (Exists.intro _ (Exists.intro _ (Exists.intro _ (Exists.intro _ (Exists.intro _ (Exists.intro _ (Exists.intro _ (Exists.intro _ (Exists.intro _ (Exists.intro _ (Exists.intro _ (Exists.intro _ (And.intro rfl (And.intro rfl (And.intro (by first | omega | assumption | exact q_rg_up (by assumption) (by omega) | exact q_rg_up (q_rg_up (by assumption) (by omega)) (by omega) | exact q_rg_cpy (by assumption) (by assumption)) (?_))))))))))))))))))))))))
    intro z15 h15
    apply And.intro
    · intro h18
      first | replace h15 := dj1 h15 h18 | replace h15 := dj0 h15 h18
      exact hQ _ _ _ _ _
    · intro h18
      first | replace h15 := dj1 h15 h18 | replace h15 := dj0 h15 h18
      refine Exists.intro [] (Exists.intro [q1 _, q1 _, q1 _] (Exists.intro [] (And.intro rfl (And.intro rfl (And.intro rfl (And.intro trivial ?_))))))
      refine Exists.intro _ (Exists.intro _ (Exists.intro _ (And.intro rfl (And.intro rfl (?_)))))
      intro z25 h25
      apply And.intro
      · intro h28
        first | replace h25 := dj1 h25 h28 | replace h25 := dj0 h25 h28
        exact hQ _ _ _ _ _
      · intro h28
        first | replace h25 := dj1 h25 h28 | replace h25 := dj0 h25 h28
        apply And.intro
        · intro h34
          refine Exists.intro [0, 3, 2, 4, 5, 6, 7, 1, 8, 9, 10, 11, 12, 13, 14, 15, 16, 17, 18, 19, 20, 21, 22, 23, 24, 25] (Exists.intro [q2 0, q1 _, q1 _] (Exists.intro ([.inr (12, [q1 _, q2 3, q2 4, q2 5, q2 6, q2 7, q2 2, q2 8, q2 9, q2 10, q1 _, q1 _, q1 _, q1 _, q1 _, q3 _, q1 _, q1 _, q1 _, q2 11, q2 12, q1 _, q1 _, q1 _, q1 _, q1 _, q1 _, q2 13, q1 _, q2 14, q2 15, q2 16, q2 1, q1 _, q2 17, q1 _, q2 18, q2 19, q2 20, q2 21, q2 22, q1 _, q2 23, q2 24, q2 25]), .inl (0, 8, .inl _), .inl (0, 600, .inl _)]) (And.intro rfl (And.intro rfl (And.intro rfl (And.intro ⟨⟨_, rfl⟩, rfl⟩ ?_))))))
          refine Exists.intro _ (Exists.intro _ (Exists.intro _ (Exists.intro _ (Exists.intro _ (Exists.intro _ (Exists.intro _ (Exists.intro _ (Exists.intro _ (Exists.intro _ (Exists.intro _ (Exists.intro _ (Exists.intro _ (Exists.intro _ (Exists.intro _ (Exists.intro _ (Exists.intro _ (Exists.intro _ (Exists.intro _ (Exists.intro _ (Exists.intro _ (Exists.intro _ (Exists.intro _ (Exists.intro _ (And.intro rfl (And.intro rfl (And.intro (by first | omega | assumption | exact q_rg_up (by assumption) (by omega) | exact q_rg_up (q_rg_up (by assumption) (by omega)) (by omega) | exact q_rg_cpy (by assumption) (by assumption)) (And.intro (by first | omega | assumption | exact q_rg_up (by assumption) (by omega) | exact q_rg_up (q_rg_up (by assumption) (by omega)) (by omega) | exact q_rg_cpy (by assumption) (by assumption)) (And.intro (by first | omega | assumption | exact q_rg_up (by assumption) (by omega) | exact q_rg_up (q_rg_up (by assumption) (by omega)) (by omega) | exact q_rg_cpy (by assumption) (by assumption)) (And.intro (by first | omega | assumption | exact q_rg_up (by assumption) (by omega) | exact q_rg_up (q_rg_up (by assumption) (by omega)) (by omega) | exact q_rg_cpy (by assumption) (by assumption)) (And.intro (by first | omega | assumption | exact q_rg_up (by assumption) (by omega) | exact q_rg_up (q_rg_up (by assumption) (by omega)) (by omega) | exact q_rg_cpy (by assumption) (by assumption)) (?_)))))))))))))))))))))))))))))))
          intro z51 x_lo_51
          apply And.intro
          · intro h59
            apply And.intro
            · exact ⟨by omega, by omega⟩
            intro z73 h73
            exact hQ _ _ _ _ _
          · intro h59
            exact hQ _ _ _ _ _
        · intro h34
          refine Exists.intro [0, 4, 5, 6, 7, 1, 2, 8, 9, 10, 11, 12, 13, 14, 15, 16, 3, 17, 18, 19, 20, 21, 22, 23, 24, 25] (Exists.intro [q2 0, q1 _] (Exists.intro ([.inr (12, [q1 _, q2 1, q2 2, q2 3, q2 4, q2 5, q2 6, q2 7, q2 8, q2 9, q1 _, q1 _, q1 _, q1 _, q1 _, q3 _, q1 _, q1 _, q1 _, q2 10, q2 11, q1 _, q1 _, q1 _, q1 _, q1 _, q1 _, q2 12, q1 _, q2 13, q2 14, q2 15, q2 16, q1 _, q2 17, q1 _, q2 18, q2 19, q2 20, q2 21, q2 22, q1 _, q2 23, q2 24, q2 25])]) (And.intro rfl (And.intro rfl (And.intro rfl (And.intro ⟨⟨_, rfl⟩, rfl⟩ ?_))))))
          refine Exists.intro _ (Exists.intro _ (Exists.intro _ (Exists.intro _ (Exists.intro _ (Exists.intro _ (Exists.intro _ (Exists.intro _ (Exists.intro _ (Exists.intro _ (Exists.intro _ (Exists.intro _ (Exists.intro _ (Exists.intro _ (Exists.intro _ (Exists.intro _ (Exists.intro _ (Exists.intro _ (Exists.intro _ (Exists.intro _ (Exists.intro _ (And.intro rfl (And.intro rfl (And.intro (by first | omega | assumption | exact q_rg_up (by assumption) (by omega) | exact q_rg_up (q_rg_up (by assumption) (by omega)) (by omega) | exact q_rg_cpy (by assumption) (by assumption)) (?_))))))))))))))))))))))))
          intro z40 h40
          apply And.intro
          · intro h43
            first | replace h40 := dj1 h40 h43 | replace h40 := dj0 h40 h43
            refine Exists.intro [0, 3, 2, 4, 5, 6, 7, 1, 8, 9, 10, 11, 12, 13, 14, 15, 16, 17, 18, 19, 20, 21, 22, 23, 24, 25] (Exists.intro [q2 0, q1 _, q1 _] (Exists.intro ([.inr (12, [q1 _, q2 3, q2 4, q2 5, q2 6, q2 7, q2 2, q2 8, q2 9, q2 10, q1 _, q1 _, q1 _, q1 _, q1 _, q3 _, q1 _, q1 _, q1 _, q2 11, q2 12, q1 _, q1 _, q1 _, q1 _, q1 _, q1 _, q2 13, q1 _, q2 14, q2 15, q2 16, q2 1, q1 _, q2 17, q1 _, q2 18, q2 19, q2 20, q2 21, q2 22, q1 _, q2 23, q2 24, q2 25]), .inl (0, 8, .inl _), .inl (0, 600, .inl _)]) (And.intro rfl (And.intro rfl (And.intro rfl (And.intro ⟨⟨_, rfl⟩, rfl⟩ ?_))))))
            refine Exists.intro _ (Exists.intro _ (Exists.intro _ (Exists.intro _ (Exists.intro _ (Exists.intro _ (Exists.intro _ (Exists.intro _ (Exists.intro _ (Exists.intro _ (Exists.intro _ (Exists.intro _ (Exists.intro _ (Exists.intro _ (Exists.intro _ (Exists.intro _ (Exists.intro _ (Exists.intro _ (Exists.intro _ (Exists.intro _ (Exists.intro _ (Exists.intro _ (Exists.intro _ (Exists.intro _ (And.intro rfl (And.intro rfl (And.intro (by first | omega | assumption | exact q_rg_up (by assumption) (by omega) | exact q_rg_up (q_rg_up (by assumption) (by omega)) (by omega) | exact q_rg_cpy (by assumption) (by assumption)) (And.intro (by first | omega | assumption | exact q_rg_up (by assumption) (by omega) | exact q_rg_up (q_rg_up (by assumption) (by omega)) (by omega) | exact q_rg_cpy (by assumption) (by assumption)) (And.intro (by first | omega | assumption | exact q_rg_up (by assumption) (by omega) | exact q_rg_up (q_rg_up (by assumption) (by omega)) (by omega) | exact q_rg_cpy (by assumption) (by assumption)) (And.intro (by first | omega | assumption | exact q_rg_up (by assumption) (by omega) | exact q_rg_up (q_rg_up (by assumption) (by omega)) (by omega) | exact q_rg_cpy (by assumption) (by assumption)) (And.intro (by first | omega | assumption | exact q_rg_up (by assumption) (by omega) | exact q_rg_up (q_rg_up (by assumption) (by omega)) (by omega) | exact q_rg_cpy (by assumption) (by assumption)) (?_)))))))))))))))))))))))))))))))
            intro z51 x_lo_51
            apply And.intro
            · intro h59
              apply And.intro
              · exact ⟨by omega, by omega⟩
              intro z73 h73
              exact hQ _ _ _ _ _
            · intro h59
              exact hQ _ _ _ _ _
          · intro h43
            first | replace h40 := dj1 h40 h43 | replace h40 := dj0 h40 h43
            exact hQ _ _ _ _ _

theorem dX12_elder_0 : decode cX12_elder 0 = .ok (.aload_n 0, 1) := by decide +kernel
theorem dX12_elder_1 : decode cX12_elder 1 = .ok (.iconst 0, 1) := by decide +kernel
theorem dX12_elder_2 : decode cX12_elder 2 = .ok (.putfield 88, 3) := by decide +kernel
theorem dX12_elder_5 : decode cX12_elder 5 = .ok (.aload_n 0, 1) := by decide +kernel
theorem dX12_elder_6 : decode cX12_elder 6 = .ok (.iload_n 1, 1) := by decide +kernel
theorem dX12_elder_7 : decode cX12_elder 7 = .ok (.invokevirtual 306, 3) := by decide +kernel
theorem dX12_elder_10 : decode cX12_elder 10 = .ok (.ifCond .eq 19, 3) := by decide +kernel
theorem dX12_elder_13 : decode cX12_elder 13 = .ok (.aload_n 0, 1) := by decide +kernel
theorem dX12_elder_14 : decode cX12_elder 14 = .ok (.iload_n 2, 1) := by decide +kernel
theorem dX12_elder_15 : decode cX12_elder 15 = .ok (.invokevirtual 309, 3) := by decide +kernel
theorem dX12_elder_18 : decode cX12_elder 18 = .ok (.ifCond .eq 11, 3) := by decide +kernel
theorem dX12_elder_21 : decode cX12_elder 21 = .ok (.aload_n 0, 1) := by decide +kernel
theorem dX12_elder_22 : decode cX12_elder 22 = .ok (.iload_n 3, 1) := by decide +kernel
theorem dX12_elder_23 : decode cX12_elder 23 = .ok (.invokevirtual 309, 3) := by decide +kernel
theorem dX12_elder_26 : decode cX12_elder 26 = .ok (.ifCond .ne 5, 3) := by decide +kernel
theorem dX12_elder_29 : decode cX12_elder 29 = .ok (.iconst (-1), 1) := by decide +kernel
theorem dX12_elder_30 : decode cX12_elder 30 = .ok (.ireturn, 1) := by decide +kernel
theorem dX12_elder_31 : decode cX12_elder 31 = .ok (.iconst (-1), 1) := by decide +kernel
theorem dX12_elder_32 : decode cX12_elder 32 = .ok (.istore 4, 2) := by decide +kernel
theorem dX12_elder_34 : decode cX12_elder 34 = .ok (.ldc_w 376, 3) := by decide +kernel
theorem dX12_elder_37 : decode cX12_elder 37 = .ok (.istore 5, 2) := by decide +kernel
theorem dX12_elder_39 : decode cX12_elder 39 = .ok (.iconst 0, 1) := by decide +kernel
theorem dX12_elder_40 : decode cX12_elder 40 = .ok (.istore 6, 2) := by decide +kernel
theorem dX12_elder_42 : decode cX12_elder 42 = .ok (.iload 6, 2) := by decide +kernel
theorem dX12_elder_44 : decode cX12_elder 44 = .ok (.aload_n 0, 1) := by decide +kernel
theorem dX12_elder_45 : decode cX12_elder 45 = .ok (.getfield 303, 3) := by decide +kernel
theorem dX12_elder_48 : decode cX12_elder 48 = .ok (.if_icmp .ge 77, 3) := by decide +kernel
theorem dX12_elder_51 : decode cX12_elder 51 = .ok (.aload_n 0, 1) := by decide +kernel
theorem dX12_elder_52 : decode cX12_elder 52 = .ok (.iload_n 2, 1) := by decide +kernel
theorem dX12_elder_53 : decode cX12_elder 53 = .ok (.iload 6, 2) := by decide +kernel
theorem dX12_elder_55 : decode cX12_elder 55 = .ok (.invokevirtual 425, 3) := by decide +kernel
theorem dX12_elder_58 : decode cX12_elder 58 = .ok (.istore 7, 2) := by decide +kernel
theorem dX12_elder_60 : decode cX12_elder 60 = .ok (.aload_n 0, 1) := by decide +kernel
theorem dX12_elder_61 : decode cX12_elder 61 = .ok (.iload_n 3, 1) := by decide +kernel
theorem dX12_elder_62 : decode cX12_elder 62 = .ok (.iload 6, 2) := by decide +kernel
theorem dX12_elder_64 : decode cX12_elder 64 = .ok (.invokevirtual 425, 3) := by decide +kernel
theorem dX12_elder_67 : decode cX12_elder 67 = .ok (.istore 8, 2) := by decide +kernel
theorem dX12_elder_69 : decode cX12_elder 69 = .ok (.iload 7, 2) := by decide +kernel
theorem dX12_elder_71 : decode cX12_elder 71 = .ok (.iconst (-1), 1) := by decide +kernel
theorem dX12_elder_72 : decode cX12_elder 72 = .ok (.if_icmp .eq 9, 3) := by decide +kernel
theorem dX12_elder_75 : decode cX12_elder 75 = .ok (.iload 8, 2) := by decide +kernel
theorem dX12_elder_77 : decode cX12_elder 77 = .ok (.iconst (-1), 1) := by decide +kernel
theorem dX12_elder_78 : decode cX12_elder 78 = .ok (.if_icmp .ne 9, 3) := by decide +kernel
theorem dX12_elder_81 : decode cX12_elder 81 = .ok (.ldc_w 376, 3) := by decide +kernel
theorem dX12_elder_84 : decode cX12_elder 84 = .ok (.goto 8, 3) := by decide +kernel
theorem dX12_elder_87 : decode cX12_elder 87 = .ok (.iload 7, 2) := by decide +kernel
theorem dX12_elder_89 : decode cX12_elder 89 = .ok (.iload 8, 2) := by decide +kernel
theorem dX12_elder_91 : decode cX12_elder 91 = .ok (.iadd, 1) := by decide +kernel
theorem dX12_elder_92 : decode cX12_elder 92 = .ok (.istore 9, 2) := by decide +kernel
theorem dX12_elder_94 : decode cX12_elder 94 = .ok (.iload 9, 2) := by decide +kernel
theorem dX12_elder_96 : decode cX12_elder 96 = .ok (.iload 5, 2) := by decide +kernel
theorem dX12_elder_98 : decode cX12_elder 98 = .ok (.if_icmp .ge 8, 3) := by decide +kernel
theorem dX12_elder_101 : decode cX12_elder 101 = .ok (.iload 6, 2) := by decide +kernel
theorem dX12_elder_103 : decode cX12_elder 103 = .ok (.goto 5, 3) := by decide +kernel
theorem dX12_elder_106 : decode cX12_elder 106 = .ok (.iload 4, 2) := by decide +kernel
theorem dX12_elder_108 : decode cX12_elder 108 = .ok (.istore 4, 2) := by decide +kernel
theorem dX12_elder_110 : decode cX12_elder 110 = .ok (.iload 5, 2) := by decide +kernel
theorem dX12_elder_112 : decode cX12_elder 112 = .ok (.iload 9, 2) := by decide +kernel
theorem dX12_elder_114 : decode cX12_elder 114 = .ok (.invokestatic 327, 3) := by decide +kernel
theorem dX12_elder_117 : decode cX12_elder 117 = .ok (.istore 5, 2) := by decide +kernel
theorem dX12_elder_119 : decode cX12_elder 119 = .ok (.iinc 6 1, 3) := by decide +kernel
theorem dX12_elder_122 : decode cX12_elder 122 = .ok (.goto (-80), 3) := by decide +kernel
theorem dX12_elder_125 : decode cX12_elder 125 = .ok (.iload 4, 2) := by decide +kernel
theorem dX12_elder_127 : decode cX12_elder 127 = .ok (.ireturn, 1) := by decide +kernel
def is_X12_elder : Nat → List Nat := fun d => if d = 42 then [0, 2, 3, 4, 5, 6] else []
set_option maxRecDepth 100000 in
def b_X12_elder_108 (J : Nat → List qV → List qV → qW → Prop) (Q : qR) : qK := x_istore 4 (x_iload 5 (x_iload 9 (x_callr none 2 spr_X12_lesser (x_istore 5 (x_iinc 6 1 (x_cut [0, 2, 3, 4, 5, 6] (J 42)))))))
set_option maxRecDepth 100000 in
theorem s_X12_elder_108 {p : Program} {l : Launch} {e : Env} {R : Room} {s : State} {m : MethodId} {args : Array Value} {below : List Frame} {meth : Method} {c : Code} {nW : Nat} {dC : Nat → ClassId} {dI : Nat → Nat → Nat} {k : Nat → ClassId} {g : Nat → Nat} {A : Nat → Prop} {J : Nat → List qV → List qV → qW → Prop} {Q : qR} (X : q_X p R s m args meth c cX12_elder 10 nW 3 65 RX12 (some .int) dC dI k g A) (hJ : ∀ d : Nat, q_Sd p l e R s m args below meth c 10 nW dC dI k g A (MQ below (q_post (dC, dI) k g nW Q A) args s 0 0 A) d (x_cut (is_X12_elder d) (J d))) : q_Sd p l e R s m args below meth c 10 nW dC dI k g A (MQ below (q_post (dC, dI) k g nW Q A) args s 0 0 A) 108 (b_X12_elder_108 J Q) := by
  unfold b_X12_elder_108
  refine s_istore X (by decide) dX12_elder_108 ?_
  refine s_iload X dX12_elder_110 ?_
  refine s_iload X dX12_elder_112 ?_
  refine s_callSr X (m_X12_lesser l) tw_1239 tw_1240 tw_134 tw_1241 (by decide +kernel) ⟨by decide, by decide⟩ dX12_elder_114 ?_
  refine s_istore X (by decide) dX12_elder_117 ?_
  refine s_iinc X (by decide) dX12_elder_119 ?_
  refine s_goto X (tgt := 42) dX12_elder_122 (by decide) ?_
  exact hJ 42
set_option maxRecDepth 100000 in
def b_X12_elder_92 (J : Nat → List qV → List qV → qW → Prop) (Q : qR) : qK := x_istore 9 (x_iload 9 (x_iload 5 (x_icmp_ge (x_iload 4 (b_X12_elder_108 J Q)) (x_iload 6 (b_X12_elder_108 J Q)))))
set_option maxRecDepth 100000 in
theorem s_X12_elder_92 {p : Program} {l : Launch} {e : Env} {R : Room} {s : State} {m : MethodId} {args : Array Value} {below : List Frame} {meth : Method} {c : Code} {nW : Nat} {dC : Nat → ClassId} {dI : Nat → Nat → Nat} {k : Nat → ClassId} {g : Nat → Nat} {A : Nat → Prop} {J : Nat → List qV → List qV → qW → Prop} {Q : qR} (X : q_X p R s m args meth c cX12_elder 10 nW 3 65 RX12 (some .int) dC dI k g A) (hJ : ∀ d : Nat, q_Sd p l e R s m args below meth c 10 nW dC dI k g A (MQ below (q_post (dC, dI) k g nW Q A) args s 0 0 A) d (x_cut (is_X12_elder d) (J d))) : q_Sd p l e R s m args below meth c 10 nW dC dI k g A (MQ below (q_post (dC, dI) k g nW Q A) args s 0 0 A) 92 (b_X12_elder_92 J Q) := by
  unfold b_X12_elder_92
  refine s_istore X (by decide) dX12_elder_92 ?_
  refine s_iload X dX12_elder_94 ?_
  refine s_iload X dX12_elder_96 ?_
  refine s_icmp_ge X (tgt := 106) dX12_elder_98 (by decide) ?_ ?_
  · refine s_iload X dX12_elder_106 ?_
    exact s_X12_elder_108 X hJ
  · refine s_iload X dX12_elder_101 ?_
    refine s_goto X (tgt := 108) dX12_elder_103 (by decide) ?_
    exact s_X12_elder_108 X hJ
set_option maxRecDepth 100000 in
def b_X12_elder_81 (J : Nat → List qV → List qV → qW → Prop) (Q : qR) : qK := x_int 1000000 (b_X12_elder_92 J Q)
set_option maxRecDepth 100000 in
theorem s_X12_elder_81 {p : Program} {l : Launch} {e : Env} {R : Room} {s : State} {m : MethodId} {args : Array Value} {below : List Frame} {meth : Method} {c : Code} {nW : Nat} {dC : Nat → ClassId} {dI : Nat → Nat → Nat} {k : Nat → ClassId} {g : Nat → Nat} {A : Nat → Prop} {J : Nat → List qV → List qV → qW → Prop} {Q : qR} (X : q_X p R s m args meth c cX12_elder 10 nW 3 65 RX12 (some .int) dC dI k g A) (hJ : ∀ d : Nat, q_Sd p l e R s m args below meth c 10 nW dC dI k g A (MQ below (q_post (dC, dI) k g nW Q A) args s 0 0 A) d (x_cut (is_X12_elder d) (J d))) : q_Sd p l e R s m args below meth c 10 nW dC dI k g A (MQ below (q_post (dC, dI) k g nW Q A) args s 0 0 A) 81 (b_X12_elder_81 J Q) := by
  unfold b_X12_elder_81
  refine s_ldcw X ⟨by decide, by decide⟩ tw_1271 dX12_elder_81 ?_
  refine s_goto X (tgt := 92) dX12_elder_84 (by decide) ?_
  exact s_X12_elder_92 X hJ
set_option maxRecDepth 100000 in
def b_X12_elder_42 (J : Nat → List qV → List qV → qW → Prop) (Q : qR) : qK := x_iload 6 (x_aload 0 (x_get 12 25 (x_icmp_ge (x_iload 4 (x_iret Q)) (x_aload 0 (x_iload 2 (x_iload 6 (x_callr (some 12) 3 spr_X12_stepsUp (x_istore 7 (x_aload 0 (x_iload 3 (x_iload 6 (x_callr (some 12) 3 spr_X12_stepsUp (x_istore 8 (x_iload 7 (x_int (-1) (x_icmp_eq (b_X12_elder_81 J Q) (x_iload 8 (x_int (-1) (x_icmp_ne (x_iload 7 (x_iload 8 (x_iadd (b_X12_elder_92 J Q)))) (b_X12_elder_81 J Q))))))))))))))))))))
set_option maxRecDepth 100000 in
theorem s_X12_elder_42 {p : Program} {l : Launch} {e : Env} {R : Room} {s : State} {m : MethodId} {args : Array Value} {below : List Frame} {meth : Method} {c : Code} {nW : Nat} {dC : Nat → ClassId} {dI : Nat → Nat → Nat} {k : Nat → ClassId} {g : Nat → Nat} {A : Nat → Prop} {J : Nat → List qV → List qV → qW → Prop} {Q : qR} (X : q_X p R s m args meth c cX12_elder 10 nW 3 65 RX12 (some .int) dC dI k g A) (hJ : ∀ d : Nat, q_Sd p l e R s m args below meth c 10 nW dC dI k g A (MQ below (q_post (dC, dI) k g nW Q A) args s 0 0 A) d (x_cut (is_X12_elder d) (J d))) : q_Sd p l e R s m args below meth c 10 nW dC dI k g A (MQ below (q_post (dC, dI) k g nW Q A) args s 0 0 A) 42 (b_X12_elder_42 J Q) := by
  unfold b_X12_elder_42
  refine s_iload X dX12_elder_42 ?_
  refine s_aload_n X rfl dX12_elder_44 ?_
  refine s_get X (T := TX12) (C := RX12) (N := 45) tu_X12 rfl (by decide) tw_1022 dX12_elder_45 ?_
  refine s_icmp_ge X (tgt := 125) dX12_elder_48 (by decide) ?_ ?_
  · refine s_iload X dX12_elder_125 ?_
    exact s_iret X dX12_elder_127
  · refine s_aload_n X rfl dX12_elder_51 ?_
    refine s_iload_n X rfl dX12_elder_52 ?_
    refine s_iload X dX12_elder_53 ?_
    refine s_callVr X (m_X12_stepsUp l) tw_1340 tw_1341 tw_1616 tw_134 tw_1342 rfl (by decide +kernel) ⟨by decide, by decide⟩ dX12_elder_55 ?_
    refine s_istore X (by decide) dX12_elder_58 ?_
    refine s_aload_n X rfl dX12_elder_60 ?_
    refine s_iload_n X rfl dX12_elder_61 ?_
    refine s_iload X dX12_elder_62 ?_
    refine s_callVr X (m_X12_stepsUp l) tw_1340 tw_1341 tw_1616 tw_134 tw_1342 rfl (by decide +kernel) ⟨by decide, by decide⟩ dX12_elder_64 ?_
    refine s_istore X (by decide) dX12_elder_67 ?_
    refine s_iload X dX12_elder_69 ?_
    refine s_iconst X ⟨by decide, by decide⟩ dX12_elder_71 ?_
    refine s_icmp_eq X (tgt := 81) dX12_elder_72 (by decide) ?_ ?_
    · exact s_X12_elder_81 X hJ
    · refine s_iload X dX12_elder_75 ?_
      refine s_iconst X ⟨by decide, by decide⟩ dX12_elder_77 ?_
      refine s_icmp_ne X (tgt := 87) dX12_elder_78 (by decide) ?_ ?_
      · refine s_iload X dX12_elder_87 ?_
        refine s_iload X dX12_elder_89 ?_
        refine s_iadd X dX12_elder_91 ?_
        exact s_X12_elder_92 X hJ
      · exact s_X12_elder_81 X hJ
set_option maxRecDepth 100000 in
def b_X12_elder_29 (J : Nat → List qV → List qV → qW → Prop) (Q : qR) : qK := x_int (-1) (x_iret Q)
set_option maxRecDepth 100000 in
theorem s_X12_elder_29 {p : Program} {l : Launch} {e : Env} {R : Room} {s : State} {m : MethodId} {args : Array Value} {below : List Frame} {meth : Method} {c : Code} {nW : Nat} {dC : Nat → ClassId} {dI : Nat → Nat → Nat} {k : Nat → ClassId} {g : Nat → Nat} {A : Nat → Prop} {J : Nat → List qV → List qV → qW → Prop} {Q : qR} (X : q_X p R s m args meth c cX12_elder 10 nW 3 65 RX12 (some .int) dC dI k g A) (hJ : ∀ d : Nat, q_Sd p l e R s m args below meth c 10 nW dC dI k g A (MQ below (q_post (dC, dI) k g nW Q A) args s 0 0 A) d (x_cut (is_X12_elder d) (J d))) : q_Sd p l e R s m args below meth c 10 nW dC dI k g A (MQ below (q_post (dC, dI) k g nW Q A) args s 0 0 A) 29 (b_X12_elder_29 J Q) := by
  unfold b_X12_elder_29
  refine s_iconst X ⟨by decide, by decide⟩ dX12_elder_29 ?_
  exact s_iret X dX12_elder_30
set_option maxRecDepth 100000 in
def b_X12_elder_0 (J : Nat → List qV → List qV → qW → Prop) (Q : qR) : qK := x_aload 0 (x_int 0 (x_put 12 0 q_oki (x_nw (x_aload 0 (x_iload 1 (x_call (some 12) 2 sp_X12_hand (x_nw (x_if_eq (b_X12_elder_29 J Q) (x_aload 0 (x_iload 2 (x_callr (some 12) 2 spr_X12_isPerson (x_if_eq (b_X12_elder_29 J Q) (x_aload 0 (x_iload 3 (x_callr (some 12) 2 spr_X12_isPerson (x_if_ne (x_int (-1) (x_istore 4 (x_int 1000000 (x_istore 5 (x_int 0 (x_istore 6 (x_cut [0, 2, 3, 4, 5, 6] (J 42)))))))) (b_X12_elder_29 J Q)))))))))))))))))
set_option maxRecDepth 100000 in
theorem s_X12_elder_0 {p : Program} {l : Launch} {e : Env} {R : Room} {s : State} {m : MethodId} {args : Array Value} {below : List Frame} {meth : Method} {c : Code} {nW : Nat} {dC : Nat → ClassId} {dI : Nat → Nat → Nat} {k : Nat → ClassId} {g : Nat → Nat} {A : Nat → Prop} {J : Nat → List qV → List qV → qW → Prop} {Q : qR} (X : q_X p R s m args meth c cX12_elder 10 nW 3 65 RX12 (some .int) dC dI k g A) (hJ : ∀ d : Nat, q_Sd p l e R s m args below meth c 10 nW dC dI k g A (MQ below (q_post (dC, dI) k g nW Q A) args s 0 0 A) d (x_cut (is_X12_elder d) (J d))) : q_Sd p l e R s m args below meth c 10 nW dC dI k g A (MQ below (q_post (dC, dI) k g nW Q A) args s 0 0 A) 0 (b_X12_elder_0 J Q) := by
  unfold b_X12_elder_0
  refine s_aload_n X rfl dX12_elder_0 ?_
  refine s_iconst X ⟨by decide, by decide⟩ dX12_elder_1 ?_
  refine s_put X (T := TX12) (C := RX12) (N := 45) tu_X12 tyX12_ok nmX12 rfl (by decide) tw_997 rfl (by decide +kernel) q_oki_t dX12_elder_2 ?_
  refine s_nw ?_
  refine s_aload_n X rfl dX12_elder_5 ?_
  refine s_iload_n X rfl dX12_elder_6 ?_
  refine s_callV X (m_X12_hand l) tw_1186 tw_1187 tw_1585 tw_134 tw_1188 rfl (by decide +kernel) ⟨by decide, by decide⟩ dX12_elder_7 ?_
  refine s_nw ?_
  refine s_if_eq X (tgt := 29) dX12_elder_10 (by decide) ?_ ?_
  · exact s_X12_elder_29 X hJ
  · refine s_aload_n X rfl dX12_elder_13 ?_
    refine s_iload_n X rfl dX12_elder_14 ?_
    refine s_callVr X (m_X12_isPerson l) tw_1192 tw_1193 tw_1591 tw_134 tw_1194 rfl (by decide +kernel) ⟨by decide, by decide⟩ dX12_elder_15 ?_
    refine s_if_eq X (tgt := 29) dX12_elder_18 (by decide) ?_ ?_
    · exact s_X12_elder_29 X hJ
    · refine s_aload_n X rfl dX12_elder_21 ?_
      refine s_iload_n X rfl dX12_elder_22 ?_
      refine s_callVr X (m_X12_isPerson l) tw_1192 tw_1193 tw_1591 tw_134 tw_1194 rfl (by decide +kernel) ⟨by decide, by decide⟩ dX12_elder_23 ?_
      refine s_if_ne X (tgt := 31) dX12_elder_26 (by decide) ?_ ?_
      · refine s_iconst X ⟨by decide, by decide⟩ dX12_elder_31 ?_
        refine s_istore X (by decide) dX12_elder_32 ?_
        refine s_ldcw X ⟨by decide, by decide⟩ tw_1271 dX12_elder_34 ?_
        refine s_istore X (by decide) dX12_elder_37 ?_
        refine s_iconst X ⟨by decide, by decide⟩ dX12_elder_39 ?_
        refine s_istore X (by decide) dX12_elder_40 ?_
        exact hJ 42
      · exact s_X12_elder_29 X hJ

def sp_X12_elder : qS := fun av w Q => ∃ (mco : Int) (mre : Int) (mle : Int) (mbe : Int) (mso : Int) (mva : Int) (mwo : Int) (mwr : Int) (mlf : Int) (mlp : Int) (mfp : Int) (mfd : Int) (mgo : Int) (mbo : Int) (mpe : Int) (mye : Int) (mpr : Int) (mld : Int) (msi : Int) (mse : Int) (mn : Nat → Int) (bs : Nat → Int) (a : Int) (b : Int) (cc : Int), av = [q2 0, q1 a, q1 b, q1 cc] ∧ w = [.inr (12, [q1 mco, q2 3, q2 4, q2 5, q2 6, q2 1, q2 2, q2 7, q2 8, q2 9, q1 mre, q1 mle, q1 mbe, q1 mso, q1 mva, q3 mwo, q1 mwr, q1 mlf, q1 mlp, q2 10, q2 11, q1 mfp, q1 mfd, q1 mgo, q1 mbo, q1 mpe, q1 mye, q2 12, q1 mpr, q2 13, q2 14, q2 15, q2 16, q1 mld, q2 17, q1 msi, q2 18, q2 19, q2 20, q2 21, q2 22, q1 mse, q2 23, q2 24, q2 25]), .inl (0, 16, .inl mn), .inl (0, 600, .inl bs)] ∧ (q_rg 0 2 mn) ∧ (BI bs) ∧ (∀ (r : Int) (x_mco : Int) (x_mbo : Int) (x_mpe : Int), Q (some (q1 r)) ([.inr (12, [q1 x_mco, q2 3, q2 4, q2 5, q2 6, q2 1, q2 2, q2 7, q2 8, q2 9, q1 mre, q1 mle, q1 mbe, q1 mso, q1 mva, q3 mwo, q1 mwr, q1 mlf, q1 mlp, q2 10, q2 11, q1 mfp, q1 mfd, q1 mgo, q1 x_mbo, q1 x_mpe, q1 mye, q2 12, q1 mpr, q2 13, q2 14, q2 15, q2 16, q1 mld, q2 17, q1 msi, q2 18, q2 19, q2 20, q2 21, q2 22, q1 mse, q2 23, q2 24, q2 25]), .inl (0, 16, .inl mn), .inl (0, 600, .inl bs)]))
def I_X12_elder (mco : Int) (mre : Int) (mle : Int) (mbe : Int) (mso : Int) (mva : Int) (mwo : Int) (mwr : Int) (mlf : Int) (mlp : Int) (mfp : Int) (mfd : Int) (mgo : Int) (mbo : Int) (mpe : Int) (mye : Int) (mpr : Int) (mld : Int) (msi : Int) (mse : Int) (mn : Nat → Int) (bs : Nat → Int) (a : Int) (b : Int) (cc : Int) : Nat → Nat → List qV → List qV → qW → Prop := fun dz mz vz sz wz => if dz = 42 then (∃ (y_mco : Int) (y_mbo : Int) (y_mpe : Int) (v4 : Int) (v5 : Int) (v6 : Int), vz = [q2 0, q1 b, q1 cc, q1 v4, q1 v5, q1 v6] ∧ sz = [] ∧ wz = [.inr (12, [q1 y_mco, q2 3, q2 4, q2 5, q2 6, q2 1, q2 2, q2 7, q2 8, q2 9, q1 mre, q1 mle, q1 mbe, q1 mso, q1 mva, q3 mwo, q1 mwr, q1 mlf, q1 mlp, q2 10, q2 11, q1 mfp, q1 mfd, q1 mgo, q1 y_mbo, q1 y_mpe, q1 mye, q2 12, q1 mpr, q2 13, q2 14, q2 15, q2 16, q1 mld, q2 17, q1 msi, q2 18, q2 19, q2 20, q2 21, q2 22, q1 mse, q2 23, q2 24, q2 25]), .inl (0, 16, .inl mn), .inl (0, 600, .inl bs)] ∧ mz = (y_mpe - v6).toNat ∧ (0 ≤ y_mbo ∧ y_mbo ≤ 1 ∧ 0 ≤ y_mpe ∧ y_mpe ≤ 8) ∧ (y_mpe = ofR bs y_mbo 0) ∧ (0 ≤ v6 ∧ v6 ≤ y_mpe ∧ 0 ≤ b ∧ b < y_mpe ∧ 0 ≤ cc ∧ cc < y_mpe)) else False
set_option maxHeartbeats 4000000 in
set_option maxRecDepth 100000 in
theorem m_X12_elder (l : Launch) : q_M l yX12_elder cX12_elder 10 (some .int) 3 65 sp_X12_elder := by
  refine q_meth (by decide) (fun av w Q h => by obtain ⟨mco, mre, mle, mbe, mso, mva, mwo, mwr, mlf, mlp, mfp, mfd, mgo, mbo, mpe, mye, mpr, mld, msi, mse, mn, bs, a, b, cc, rfl, rfl, hmn, hbi, hQ⟩ := h; exact Nat.le_of_ble_eq_true rfl) ?_
  intro p e R s m args below meth c dC dI k g A av w Q hsp oka okw X
  obtain ⟨mco, mre, mle, mbe, mso, mva, mwo, mwr, mlf, mlp, mfp, mfd, mgo, mbo, mpe, mye, mpr, mld, msi, mse, mn, bs, a, b, cc, rfl, rfl, hmn, hbi, hQ⟩ := hsp
  have o_a : -2147483648 ≤ a ∧ a ≤ 2147483647 := oka _ (List.mem_of_getElem? (i := 1) rfl)
  have o_b : -2147483648 ≤ b ∧ b ≤ 2147483647 := oka _ (List.mem_of_getElem? (i := 2) rfl)
  have o_cc : -2147483648 ≤ cc ∧ cc ≤ 2147483647 := oka _ (List.mem_of_getElem? (i := 3) rfl)
  refine s_mono (s_X12_elder_0 X (J := fun dz vz sz wz => ∃ mz, I_X12_elder mco mre mle mbe mso mva mwo mwr mlf mlp mfp mfd mgo mbo mpe mye mpr mld msi mse mn bs a b cc dz mz vz sz wz) (q_loopn (I_X12_elder mco mre mle mbe mso mva mwo mwr mlf mlp mfp mfd mgo mbo mpe mye mpr mld msi mse mn bs a b cc) (fun dz J => if dz = 42 then b_X12_elder_42 J Q else q_F) ?hs ?hv)) ?_
  case hs =>
    intro d J hJ
    by_cases h42 : d = 42
    · subst h42; exact s_X12_elder_42 X hJ
    simp only [h42, if_false]
    exact s_F
  case hv =>
    intro dz mz vz sz wz hI okv oks okw hlen
    by_cases h42 : dz = 42
    · subst h42
      obtain ⟨y_mco, y_mbo, y_mpe, v4, v5, v6, rfl, rfl, rfl, hn, hyb, hyq, hp⟩ := hI
      apply And.intro
      · intro h48
        exact hQ _ _ _ _
      · intro h48
        refine Exists.intro [0, 2, 3, 4, 5, 6, 1, 7, 8, 9, 10, 11, 12, 13, 14, 15, 16, 17, 18, 19, 20, 21, 22, 23, 24, 25] (Exists.intro [q2 0, q1 _, q1 _] (Exists.intro ([.inr (12, [q1 _, q2 2, q2 3, q2 4, q2 5, q2 6, q2 1, q2 7, q2 8, q2 9, q1 _, q1 _, q1 _, q1 _, q1 _, q3 _, q1 _, q1 _, q1 _, q2 10, q2 11, q1 _, q1 _, q1 _, q1 _, q1 _, q1 _, q2 12, q1 _, q2 13, q2 14, q2 15, q2 16, q1 _, q2 17, q1 _, q2 18, q2 19, q2 20, q2 21, q2 22, q1 _, q2 23, q2 24, q2 25]), .inl (0, 600, .inl _)]) (And.intro rfl (And.intro rfl (And.intro rfl (And.intro ⟨⟨_, rfl⟩, rfl⟩ ?_))))))
        refine Exists.intro _ (Exists.intro _ (Exists.intro _ (Exists.intro _ (Exists.intro _ (Exists.intro _ (Exists.intro _ (Exists.intro _ (Exists.intro _ (Exists.intro _ (Exists.intro _ (Exists.intro _ (Exists.intro _ (Exists.intro _ (Exists.intro _ (Exists.intro _ (Exists.intro _ (Exists.intro _ (Exists.intro _ (Exists.intro _ (Exists.intro _ (Exists.intro _ (Exists.intro _ (And.intro rfl (And.intro rfl (And.intro (by first | omega | assumption | exact q_rg_up (by assumption) (by omega) | exact q_rg_up (q_rg_up (by assumption) (by omega)) (by omega) | exact q_rg_cpy (by assumption) (by assumption)) (And.intro (by first | omega | assumption | exact q_rg_up (by assumption) (by omega) | exact q_rg_up (q_rg_up (by assumption) (by omega)) (by omega) | exact q_rg_cpy (by assumption) (by assumption)) (And.intro (by first | omega | assumption | exact q_rg_up (by assumption) (by omega) | exact q_rg_up (q_rg_up (by assumption) (by omega)) (by omega) | exact q_rg_cpy (by assumption) (by assumption)) (And.intro (by first | omega | assumption | exact q_rg_up (by assumption) (by omega) | exact q_rg_up (q_rg_up (by assumption) (by omega)) (by omega) | exact q_rg_cpy (by assumption) (by assumption)) (And.intro (by first | omega | assumption | exact q_rg_up (by assumption) (by omega) | exact q_rg_up (q_rg_up (by assumption) (by omega)) (by omega) | exact q_rg_cpy (by assumption) (by assumption)) (?_))))))))))))))))))))))))))))))
        intro z55
        refine Exists.intro [0, 2, 3, 4, 5, 6, 1, 7, 8, 9, 10, 11, 12, 13, 14, 15, 16, 17, 18, 19, 20, 21, 22, 23, 24, 25] (Exists.intro [q2 0, q1 _, q1 _] (Exists.intro ([.inr (12, [q1 _, q2 2, q2 3, q2 4, q2 5, q2 6, q2 1, q2 7, q2 8, q2 9, q1 _, q1 _, q1 _, q1 _, q1 _, q3 _, q1 _, q1 _, q1 _, q2 10, q2 11, q1 _, q1 _, q1 _, q1 _, q1 _, q1 _, q2 12, q1 _, q2 13, q2 14, q2 15, q2 16, q1 _, q2 17, q1 _, q2 18, q2 19, q2 20, q2 21, q2 22, q1 _, q2 23, q2 24, q2 25]), .inl (0, 600, .inl _)]) (And.intro rfl (And.intro rfl (And.intro rfl (And.intro ⟨⟨_, rfl⟩, rfl⟩ ?_))))))
        refine Exists.intro _ (Exists.intro _ (Exists.intro _ (Exists.intro _ (Exists.intro _ (Exists.intro _ (Exists.intro _ (Exists.intro _ (Exists.intro _ (Exists.intro _ (Exists.intro _ (Exists.intro _ (Exists.intro _ (Exists.intro _ (Exists.intro _ (Exists.intro _ (Exists.intro _ (Exists.intro _ (Exists.intro _ (Exists.intro _ (Exists.intro _ (Exists.intro _ (Exists.intro _ (And.intro rfl (And.intro rfl (And.intro (by first | omega | assumption | exact q_rg_up (by assumption) (by omega) | exact q_rg_up (q_rg_up (by assumption) (by omega)) (by omega) | exact q_rg_cpy (by assumption) (by assumption)) (And.intro (by first | omega | assumption | exact q_rg_up (by assumption) (by omega) | exact q_rg_up (q_rg_up (by assumption) (by omega)) (by omega) | exact q_rg_cpy (by assumption) (by assumption)) (And.intro (by first | omega | assumption | exact q_rg_up (by assumption) (by omega) | exact q_rg_up (q_rg_up (by assumption) (by omega)) (by omega) | exact q_rg_cpy (by assumption) (by assumption)) (And.intro (by first | omega | assumption | exact q_rg_up (by assumption) (by omega) | exact q_rg_up (q_rg_up (by assumption) (by omega)) (by omega) | exact q_rg_cpy (by assumption) (by assumption)) (And.intro (by first | omega | assumption | exact q_rg_up (by assumption) (by omega) | exact q_rg_up (q_rg_up (by assumption) (by omega)) (by omega) | exact q_rg_cpy (by assumption) (by assumption)) (?_))))))))))))))))))))))))))))))
        intro z64
        apply And.intro
        · intro h72
          apply And.intro
          · intro h98
            refine Exists.intro [] (Exists.intro [q1 _, q1 _] (Exists.intro [] (And.intro rfl (And.intro rfl (And.intro rfl (And.intro trivial ?_))))))
            refine Exists.intro _ (Exists.intro _ (And.intro rfl (And.intro rfl (?_))))
            intro z114 h114
            intro z119 h119
            first | replace h119 := e_add h119 (by omega) | replace h119 := e_rng h119
            exact ⟨_, ⟨_, _, _, _, _, _, rfl, rfl, rfl, rfl, (by first | omega | assumption | exact q_rg_up (by assumption) (by omega) | exact q_rg_up (q_rg_up (by assumption) (by omega)) (by omega) | exact q_rg_cpy (by assumption) (by assumption)), (by first | omega | assumption | exact q_rg_up (by assumption) (by omega) | exact q_rg_up (q_rg_up (by assumption) (by omega)) (by omega) | exact q_rg_cpy (by assumption) (by assumption)), (by first | omega | assumption | exact q_rg_up (by assumption) (by omega) | exact q_rg_up (q_rg_up (by assumption) (by omega)) (by omega) | exact q_rg_cpy (by assumption) (by assumption))⟩, by omega⟩
          · intro h98
            refine Exists.intro [] (Exists.intro [q1 _, q1 _] (Exists.intro [] (And.intro rfl (And.intro rfl (And.intro rfl (And.intro trivial ?_))))))
            refine Exists.intro _ (Exists.intro _ (And.intro rfl (And.intro rfl (?_))))
            intro z114 h114
            intro z119 h119
            first | replace h119 := e_add h119 (by omega) | replace h119 := e_rng h119
            exact ⟨_, ⟨_, _, _, _, _, _, rfl, rfl, rfl, rfl, (by first | omega | assumption | exact q_rg_up (by assumption) (by omega) | exact q_rg_up (q_rg_up (by assumption) (by omega)) (by omega) | exact q_rg_cpy (by assumption) (by assumption)), (by first | omega | assumption | exact q_rg_up (by assumption) (by omega) | exact q_rg_up (q_rg_up (by assumption) (by omega)) (by omega) | exact q_rg_cpy (by assumption) (by assumption)), (by first | omega | assumption | exact q_rg_up (by assumption) (by omega) | exact q_rg_up (q_rg_up (by assumption) (by omega)) (by omega) | exact q_rg_cpy (by assumption) (by assumption))⟩, by omega⟩
        · intro h72
          apply And.intro
          · intro h78
            intro z91 h91
            first | replace h91 := e_add h91 (by omega) | replace h91 := e_rng h91
            apply And.intro
            · intro h98
              refine Exists.intro [] (Exists.intro [q1 _, q1 _] (Exists.intro [] (And.intro rfl (And.intro rfl (And.intro rfl (And.intro trivial ?_))))))
              refine Exists.intro _ (Exists.intro _ (And.intro rfl (And.intro rfl (?_))))
              intro z114 h114
              intro z119 h119
              first | replace h119 := e_add h119 (by omega) | replace h119 := e_rng h119
              exact ⟨_, ⟨_, _, _, _, _, _, rfl, rfl, rfl, rfl, (by first | omega | assumption | exact q_rg_up (by assumption) (by omega) | exact q_rg_up (q_rg_up (by assumption) (by omega)) (by omega) | exact q_rg_cpy (by assumption) (by assumption)), (by first | omega | assumption | exact q_rg_up (by assumption) (by omega) | exact q_rg_up (q_rg_up (by assumption) (by omega)) (by omega) | exact q_rg_cpy (by assumption) (by assumption)), (by first | omega | assumption | exact q_rg_up (by assumption) (by omega) | exact q_rg_up (q_rg_up (by assumption) (by omega)) (by omega) | exact q_rg_cpy (by assumption) (by assumption))⟩, by omega⟩
            · intro h98
              refine Exists.intro [] (Exists.intro [q1 _, q1 _] (Exists.intro [] (And.intro rfl (And.intro rfl (And.intro rfl (And.intro trivial ?_))))))
              refine Exists.intro _ (Exists.intro _ (And.intro rfl (And.intro rfl (?_))))
              intro z114 h114
              intro z119 h119
              first | replace h119 := e_add h119 (by omega) | replace h119 := e_rng h119
              exact ⟨_, ⟨_, _, _, _, _, _, rfl, rfl, rfl, rfl, (by first | omega | assumption | exact q_rg_up (by assumption) (by omega) | exact q_rg_up (q_rg_up (by assumption) (by omega)) (by omega) | exact q_rg_cpy (by assumption) (by assumption)), (by first | omega | assumption | exact q_rg_up (by assumption) (by omega) | exact q_rg_up (q_rg_up (by assumption) (by omega)) (by omega) | exact q_rg_cpy (by assumption) (by assumption)), (by first | omega | assumption | exact q_rg_up (by assumption) (by omega) | exact q_rg_up (q_rg_up (by assumption) (by omega)) (by omega) | exact q_rg_cpy (by assumption) (by assumption))⟩, by omega⟩
          · intro h78
            apply And.intro
            · intro h98
              refine Exists.intro [] (Exists.intro [q1 _, q1 _] (Exists.intro [] (And.intro rfl (And.intro rfl (And.intro rfl (And.intro trivial ?_))))))
              refine Exists.intro _ (Exists.intro _ (And.intro rfl (And.intro rfl (?_))))
              intro z114 h114
              intro z119 h119
              first | replace h119 := e_add h119 (by omega) | replace h119 := e_rng h119
              exact ⟨_, ⟨_, _, _, _, _, _, rfl, rfl, rfl, rfl, (by first | omega | assumption | exact q_rg_up (by assumption) (by omega) | exact q_rg_up (q_rg_up (by assumption) (by omega)) (by omega) | exact q_rg_cpy (by assumption) (by assumption)), (by first | omega | assumption | exact q_rg_up (by assumption) (by omega) | exact q_rg_up (q_rg_up (by assumption) (by omega)) (by omega) | exact q_rg_cpy (by assumption) (by assumption)), (by first | omega | assumption | exact q_rg_up (by assumption) (by omega) | exact q_rg_up (q_rg_up (by assumption) (by omega)) (by omega) | exact q_rg_cpy (by assumption) (by assumption))⟩, by omega⟩
            · intro h98
              refine Exists.intro [] (Exists.intro [q1 _, q1 _] (Exists.intro [] (And.intro rfl (And.intro rfl (And.intro rfl (And.intro trivial ?_))))))
              refine Exists.intro _ (Exists.intro _ (And.intro rfl (And.intro rfl (?_))))
              intro z114 h114
              intro z119 h119
              first | replace h119 := e_add h119 (by omega) | replace h119 := e_rng h119
              exact ⟨_, ⟨_, _, _, _, _, _, rfl, rfl, rfl, rfl, (by first | omega | assumption | exact q_rg_up (by assumption) (by omega) | exact q_rg_up (q_rg_up (by assumption) (by omega)) (by omega) | exact q_rg_cpy (by assumption) (by assumption)), (by first | omega | assumption | exact q_rg_up (by assumption) (by omega) | exact q_rg_up (q_rg_up (by assumption) (by omega)) (by omega) | exact q_rg_cpy (by assumption) (by assumption)), (by first | omega | assumption | exact q_rg_up (by assumption) (by omega) | exact q_rg_up (q_rg_up (by assumption) (by omega)) (by omega) | exact q_rg_cpy (by assumption) (by assumption))⟩, by omega⟩
    simp only [I_X12_elder, h42, if_false] at hI
  rintro lv st w' ⟨rfl, rfl, rfl⟩
  apply And.intro
  · exact trivial
  refine Exists.intro [0, 1, 2, 3, 4, 5, 6, 7, 8, 9, 10, 11, 12, 13, 14, 15, 16, 17, 18, 19, 20, 21, 22, 23, 24, 25] (Exists.intro [q2 0, q1 _] (Exists.intro ([.inr (12, [q1 _, q2 3, q2 4, q2 5, q2 6, q2 1, q2 2, q2 7, q2 8, q2 9, q1 _, q1 _, q1 _, q1 _, q1 _, q3 _, q1 _, q1 _, q1 _, q2 10, q2 11, q1 _, q1 _, q1 _, q1 _, q1 _, q1 _, q2 12, q1 _, q2 13, q2 14, q2 15, q2 16, q1 _, q2 17, q1 _, q2 18, q2 19, q2 20, q2 21, q2 22, q1 _, q2 23, q2 24, q2 25]), .inl (0, 16, .inl _), .inl (0, 600, .inl _)]) (And.intro rfl (And.intro rfl (And.intro rfl (And.intro ⟨⟨_, rfl⟩, rfl⟩ ?_))))))
  refine Exists.intro _ (Exists.intro _ (Exists.intro _ (Exists.intro _ (Exists.intro _ (Exists.intro _ (Exists.intro _ (Exists.intro _ (Exists.intro _ (Exists.intro _ (Exists.intro _ (Exists.intro _ (Exists.intro _ (Exists.intro _ (Exists.intro _ (Exists.intro _ (Exists.intro _ (Exists.intro _ (Exists.intro _ (Exists.intro _ (Exists.intro _ (Exists.intro _ (Exists.intro _ (And.intro rfl (And.intro rfl (And.intro (by first | omega | assumption | exact q_rg_up (by assumption) (by omega) | exact q_rg_up (q_rg_up (by assumption) (by omega)) (by omega) | exact q_rg_cpy (by assumption) (by assumption)) (And.intro (by first | omega | assumption | exact q_rg_up (by assumption) (by omega) | exact q_rg_up (q_rg_up (by assumption) (by omega)) (by omega) | exact q_rg_cpy (by assumption) (by assumption)) (?_)))))))))))))))))))))))))))
  intro z7 x_mbo_7 x_mpe_7 h7
  apply And.intro
  · intro h10
    first | replace h7 := dj1 h7 h10 | replace h7 := dj0 h7 h10
    exact hQ _ _ _ _
  · intro h10
    first | replace h7 := dj1 h7 h10 | replace h7 := dj0 h7 h10
    refine Exists.intro [0, 3, 4, 5, 6, 1, 2, 7, 8, 9, 10, 11, 12, 13, 14, 15, 16, 17, 18, 19, 20, 21, 22, 23, 24, 25] (Exists.intro [q2 0, q1 _] (Exists.intro ([.inr (12, [q1 _, q2 1, q2 2, q2 3, q2 4, q2 5, q2 6, q2 7, q2 8, q2 9, q1 _, q1 _, q1 _, q1 _, q1 _, q3 _, q1 _, q1 _, q1 _, q2 10, q2 11, q1 _, q1 _, q1 _, q1 _, q1 _, q1 _, q2 12, q1 _, q2 13, q2 14, q2 15, q2 16, q1 _, q2 17, q1 _, q2 18, q2 19, q2 20, q2 21, q2 22, q1 _, q2 23, q2 24, q2 25])]) (And.intro rfl (And.intro rfl (And.intro rfl (And.intro ⟨⟨_, rfl⟩, rfl⟩ ?_))))))
    refine Exists.intro _ (Exists.intro _ (Exists.intro _ (Exists.intro _ (Exists.intro _ (Exists.intro _ (Exists.intro _ (Exists.intro _ (Exists.intro _ (Exists.intro _ (Exists.intro _ (Exists.intro _ (Exists.intro _ (Exists.intro _ (Exists.intro _ (Exists.intro _ (Exists.intro _ (Exists.intro _ (Exists.intro _ (Exists.intro _ (Exists.intro _ (And.intro rfl (And.intro rfl (And.intro (by first | omega | assumption | exact q_rg_up (by assumption) (by omega) | exact q_rg_up (q_rg_up (by assumption) (by omega)) (by omega) | exact q_rg_cpy (by assumption) (by assumption)) (?_))))))))))))))))))))))))
    intro z15 h15
    apply And.intro
    · intro h18
      first | replace h15 := dj1 h15 h18 | replace h15 := dj0 h15 h18
      exact hQ _ _ _ _
    · intro h18
      first | replace h15 := dj1 h15 h18 | replace h15 := dj0 h15 h18
      refine Exists.intro [0, 3, 4, 5, 6, 1, 2, 7, 8, 9, 10, 11, 12, 13, 14, 15, 16, 17, 18, 19, 20, 21, 22, 23, 24, 25] (Exists.intro [q2 0, q1 _] (Exists.intro ([.inr (12, [q1 _, q2 1, q2 2, q2 3, q2 4, q2 5, q2 6, q2 7, q2 8, q2 9, q1 _, q1 _, q1 _, q1 _, q1 _, q3 _, q1 _, q1 _, q1 _, q2 10, q2 11, q1 _, q1 _, q1 _, q1 _, q1 _, q1 _, q2 12, q1 _, q2 13, q2 14, q2 15, q2 16, q1 _, q2 17, q1 _, q2 18, q2 19, q2 20, q2 21, q2 22, q1 _, q2 23, q2 24, q2 25])]) (And.intro rfl (And.intro rfl (And.intro rfl (And.intro ⟨⟨_, rfl⟩, rfl⟩ ?_))))))
      refine Exists.intro _ (Exists.intro _ (Exists.intro _ (Exists.intro _ (Exists.intro _ (Exists.intro _ (Exists.intro _ (Exists.intro _ (Exists.intro _ (Exists.intro _ (Exists.intro _ (Exists.intro _ (Exists.intro _ (Exists.intro _ (Exists.intro _ (Exists.intro _ (Exists.intro _ (Exists.intro _ (Exists.intro _ (Exists.intro _ (Exists.intro _ (And.intro rfl (And.intro rfl (And.intro (by first | omega | assumption | exact q_rg_up (by assumption) (by omega) | exact q_rg_up (q_rg_up (by assumption) (by omega)) (by omega) | exact q_rg_cpy (by assumption) (by assumption)) (?_))))))))))))))))))))))))
      intro z23 h23
      apply And.intro
      · intro h26
        first | replace h23 := dj1 h23 h26 | replace h23 := dj0 h23 h26
        exact ⟨_, _, _, _, _, _, _, rfl, rfl, rfl, rfl, (by first | omega | assumption | exact q_rg_up (by assumption) (by omega) | exact q_rg_up (q_rg_up (by assumption) (by omega)) (by omega) | exact q_rg_cpy (by assumption) (by assumption)), (by first | omega | assumption | exact q_rg_up (by assumption) (by omega) | exact q_rg_up (q_rg_up (by assumption) (by omega)) (by omega) | exact q_rg_cpy (by assumption) (by assumption)), (by first | omega | assumption | exact q_rg_up (by assumption) (by omega) | exact q_rg_up (q_rg_up (by assumption) (by omega)) (by omega) | exact q_rg_cpy (by assumption) (by assumption))⟩
      · intro h26
        first | replace h23 := dj1 h23 h26 | replace h23 := dj0 h23 h26
        exact hQ _ _ _ _

theorem dX12_family_0 : decode cX12_family 0 = .ok (.aload_n 0, 1) := by decide +kernel
theorem dX12_family_1 : decode cX12_family 1 = .ok (.iconst 0, 1) := by decide +kernel
theorem dX12_family_2 : decode cX12_family 2 = .ok (.putfield 88, 3) := by decide +kernel
theorem dX12_family_5 : decode cX12_family 5 = .ok (.aload_n 0, 1) := by decide +kernel
theorem dX12_family_6 : decode cX12_family 6 = .ok (.iload_n 1, 1) := by decide +kernel
theorem dX12_family_7 : decode cX12_family 7 = .ok (.invokevirtual 306, 3) := by decide +kernel
theorem dX12_family_10 : decode cX12_family 10 = .ok (.ifCond .eq 20, 3) := by decide +kernel
theorem dX12_family_13 : decode cX12_family 13 = .ok (.aload_n 0, 1) := by decide +kernel
theorem dX12_family_14 : decode cX12_family 14 = .ok (.iload_n 2, 1) := by decide +kernel
theorem dX12_family_15 : decode cX12_family 15 = .ok (.invokevirtual 309, 3) := by decide +kernel
theorem dX12_family_18 : decode cX12_family 18 = .ok (.ifCond .eq 12, 3) := by decide +kernel
theorem dX12_family_21 : decode cX12_family 21 = .ok (.iload_n 3, 1) := by decide +kernel
theorem dX12_family_22 : decode cX12_family 22 = .ok (.iconst 0, 1) := by decide +kernel
theorem dX12_family_23 : decode cX12_family 23 = .ok (.iconst 2, 1) := by decide +kernel
theorem dX12_family_24 : decode cX12_family 24 = .ok (.invokestatic 100, 3) := by decide +kernel
theorem dX12_family_27 : decode cX12_family 27 = .ok (.ifCond .ne 5, 3) := by decide +kernel
theorem dX12_family_30 : decode cX12_family 30 = .ok (.iconst (-1), 1) := by decide +kernel
theorem dX12_family_31 : decode cX12_family 31 = .ok (.ireturn, 1) := by decide +kernel
theorem dX12_family_32 : decode cX12_family 32 = .ok (.iconst 0, 1) := by decide +kernel
theorem dX12_family_33 : decode cX12_family 33 = .ok (.istore 4, 2) := by decide +kernel
theorem dX12_family_35 : decode cX12_family 35 = .ok (.iconst 0, 1) := by decide +kernel
theorem dX12_family_36 : decode cX12_family 36 = .ok (.istore 5, 2) := by decide +kernel
theorem dX12_family_38 : decode cX12_family 38 = .ok (.iconst 0, 1) := by decide +kernel
theorem dX12_family_39 : decode cX12_family 39 = .ok (.istore 6, 2) := by decide +kernel
theorem dX12_family_41 : decode cX12_family 41 = .ok (.iload 6, 2) := by decide +kernel
theorem dX12_family_43 : decode cX12_family 43 = .ok (.aload_n 0, 1) := by decide +kernel
theorem dX12_family_44 : decode cX12_family 44 = .ok (.getfield 303, 3) := by decide +kernel
theorem dX12_family_47 : decode cX12_family 47 = .ok (.if_icmp .ge 46, 3) := by decide +kernel
theorem dX12_family_50 : decode cX12_family 50 = .ok (.aload_n 0, 1) := by decide +kernel
theorem dX12_family_51 : decode cX12_family 51 = .ok (.iload 6, 2) := by decide +kernel
theorem dX12_family_53 : decode cX12_family 53 = .ok (.iload_n 2, 1) := by decide +kernel
theorem dX12_family_54 : decode cX12_family 54 = .ok (.invokevirtual 425, 3) := by decide +kernel
theorem dX12_family_57 : decode cX12_family 57 = .ok (.istore 7, 2) := by decide +kernel
theorem dX12_family_59 : decode cX12_family 59 = .ok (.iload 4, 2) := by decide +kernel
theorem dX12_family_61 : decode cX12_family 61 = .ok (.iload 7, 2) := by decide +kernel
theorem dX12_family_63 : decode cX12_family 63 = .ok (.iconst (-1), 1) := by decide +kernel
theorem dX12_family_64 : decode cX12_family 64 = .ok (.if_icmp .ne 7, 3) := by decide +kernel
theorem dX12_family_67 : decode cX12_family 67 = .ok (.iconst 0, 1) := by decide +kernel
theorem dX12_family_68 : decode cX12_family 68 = .ok (.goto 7, 3) := by decide +kernel
theorem dX12_family_71 : decode cX12_family 71 = .ok (.iconst 1, 1) := by decide +kernel
theorem dX12_family_72 : decode cX12_family 72 = .ok (.iload 6, 2) := by decide +kernel
theorem dX12_family_74 : decode cX12_family 74 = .ok (.ishl, 1) := by decide +kernel
theorem dX12_family_75 : decode cX12_family 75 = .ok (.ior, 1) := by decide +kernel
theorem dX12_family_76 : decode cX12_family 76 = .ok (.istore 4, 2) := by decide +kernel
theorem dX12_family_78 : decode cX12_family 78 = .ok (.iload 5, 2) := by decide +kernel
theorem dX12_family_80 : decode cX12_family 80 = .ok (.iload 7, 2) := by decide +kernel
theorem dX12_family_82 : decode cX12_family 82 = .ok (.invokestatic 162, 3) := by decide +kernel
theorem dX12_family_85 : decode cX12_family 85 = .ok (.istore 5, 2) := by decide +kernel
theorem dX12_family_87 : decode cX12_family 87 = .ok (.iinc 6 1, 3) := by decide +kernel
theorem dX12_family_90 : decode cX12_family 90 = .ok (.goto (-49), 3) := by decide +kernel
theorem dX12_family_93 : decode cX12_family 93 = .ok (.iload_n 3, 1) := by decide +kernel
theorem dX12_family_94 : decode cX12_family 94 = .ok (.ifCond .ne 8, 3) := by decide +kernel
theorem dX12_family_97 : decode cX12_family 97 = .ok (.iload 4, 2) := by decide +kernel
theorem dX12_family_99 : decode cX12_family 99 = .ok (.goto 19, 3) := by decide +kernel
theorem dX12_family_102 : decode cX12_family 102 = .ok (.iload_n 3, 1) := by decide +kernel
theorem dX12_family_103 : decode cX12_family 103 = .ok (.iconst 1, 1) := by decide +kernel
theorem dX12_family_104 : decode cX12_family 104 = .ok (.if_icmp .ne 12, 3) := by decide +kernel
theorem dX12_family_107 : decode cX12_family 107 = .ok (.aload_n 0, 1) := by decide +kernel
theorem dX12_family_108 : decode cX12_family 108 = .ok (.iload 4, 2) := by decide +kernel
theorem dX12_family_110 : decode cX12_family 110 = .ok (.invokevirtual 401, 3) := by decide +kernel
theorem dX12_family_113 : decode cX12_family 113 = .ok (.goto 5, 3) := by decide +kernel
theorem dX12_family_116 : decode cX12_family 116 = .ok (.iload 5, 2) := by decide +kernel
theorem dX12_family_118 : decode cX12_family 118 = .ok (.ireturn, 1) := by decide +kernel
def is_X12_family : Nat → List Nat := fun d => if d = 41 then [0, 2, 3, 4, 5, 6] else []
set_option maxRecDepth 100000 in
def b_X12_family_118 (J : Nat → List qV → List qV → qW → Prop) (Q : qR) : qK := x_iret Q
set_option maxRecDepth 100000 in
theorem s_X12_family_118 {p : Program} {l : Launch} {e : Env} {R : Room} {s : State} {m : MethodId} {args : Array Value} {below : List Frame} {meth : Method} {c : Code} {nW : Nat} {dC : Nat → ClassId} {dI : Nat → Nat → Nat} {k : Nat → ClassId} {g : Nat → Nat} {A : Nat → Prop} {J : Nat → List qV → List qV → qW → Prop} {Q : qR} (X : q_X p R s m args meth c cX12_family 8 nW 3 65 RX12 (some .int) dC dI k g A) (hJ : ∀ d : Nat, q_Sd p l e R s m args below meth c 8 nW dC dI k g A (MQ below (q_post (dC, dI) k g nW Q A) args s 0 0 A) d (x_cut (is_X12_family d) (J d))) : q_Sd p l e R s m args below meth c 8 nW dC dI k g A (MQ below (q_post (dC, dI) k g nW Q A) args s 0 0 A) 118 (b_X12_family_118 J Q) := by
  unfold b_X12_family_118
  exact s_iret X dX12_family_118
set_option maxRecDepth 100000 in
def b_X12_family_75 (J : Nat → List qV → List qV → qW → Prop) (Q : qR) : qK := x_ior (x_istore 4 (x_iload 5 (x_iload 7 (x_callr none 2 spr_X12_greater (x_istore 5 (x_iinc 6 1 (x_cut [0, 2, 3, 4, 5, 6] (J 41))))))))
set_option maxRecDepth 100000 in
theorem s_X12_family_75 {p : Program} {l : Launch} {e : Env} {R : Room} {s : State} {m : MethodId} {args : Array Value} {below : List Frame} {meth : Method} {c : Code} {nW : Nat} {dC : Nat → ClassId} {dI : Nat → Nat → Nat} {k : Nat → ClassId} {g : Nat → Nat} {A : Nat → Prop} {J : Nat → List qV → List qV → qW → Prop} {Q : qR} (X : q_X p R s m args meth c cX12_family 8 nW 3 65 RX12 (some .int) dC dI k g A) (hJ : ∀ d : Nat, q_Sd p l e R s m args below meth c 8 nW dC dI k g A (MQ below (q_post (dC, dI) k g nW Q A) args s 0 0 A) d (x_cut (is_X12_family d) (J d))) : q_Sd p l e R s m args below meth c 8 nW dC dI k g A (MQ below (q_post (dC, dI) k g nW Q A) args s 0 0 A) 75 (b_X12_family_75 J Q) := by
  unfold b_X12_family_75
  refine s_ior X dX12_family_75 ?_
  refine s_istore X (by decide) dX12_family_76 ?_
  refine s_iload X dX12_family_78 ?_
  refine s_iload X dX12_family_80 ?_
  refine s_callSr X (m_X12_greater l) tw_1118 tw_1119 tw_134 tw_1120 (by decide +kernel) ⟨by decide, by decide⟩ dX12_family_82 ?_
  refine s_istore X (by decide) dX12_family_85 ?_
  refine s_iinc X (by decide) dX12_family_87 ?_
  refine s_goto X (tgt := 41) dX12_family_90 (by decide) ?_
  exact hJ 41
set_option maxRecDepth 100000 in
def b_X12_family_41 (J : Nat → List qV → List qV → qW → Prop) (Q : qR) : qK := x_iload 6 (x_aload 0 (x_get 12 25 (x_icmp_ge (x_iload 3 (x_if_ne (x_iload 3 (x_int 1 (x_icmp_ne (x_iload 5 (b_X12_family_118 J Q)) (x_aload 0 (x_iload 4 (x_callr (some 12) 2 spr_X12_sumOf (b_X12_family_118 J Q))))))) (x_iload 4 (b_X12_family_118 J Q)))) (x_aload 0 (x_iload 6 (x_iload 2 (x_callr (some 12) 3 spr_X12_stepsUp (x_istore 7 (x_iload 4 (x_iload 7 (x_int (-1) (x_icmp_ne (x_int 1 (x_iload 6 (x_ishl (b_X12_family_75 J Q)))) (x_int 0 (b_X12_family_75 J Q))))))))))))))
set_option maxRecDepth 100000 in
theorem s_X12_family_41 {p : Program} {l : Launch} {e : Env} {R : Room} {s : State} {m : MethodId} {args : Array Value} {below : List Frame} {meth : Method} {c : Code} {nW : Nat} {dC : Nat → ClassId} {dI : Nat → Nat → Nat} {k : Nat → ClassId} {g : Nat → Nat} {A : Nat → Prop} {J : Nat → List qV → List qV → qW → Prop} {Q : qR} (X : q_X p R s m args meth c cX12_family 8 nW 3 65 RX12 (some .int) dC dI k g A) (hJ : ∀ d : Nat, q_Sd p l e R s m args below meth c 8 nW dC dI k g A (MQ below (q_post (dC, dI) k g nW Q A) args s 0 0 A) d (x_cut (is_X12_family d) (J d))) : q_Sd p l e R s m args below meth c 8 nW dC dI k g A (MQ below (q_post (dC, dI) k g nW Q A) args s 0 0 A) 41 (b_X12_family_41 J Q) := by
  unfold b_X12_family_41
  refine s_iload X dX12_family_41 ?_
  refine s_aload_n X rfl dX12_family_43 ?_
  refine s_get X (T := TX12) (C := RX12) (N := 45) tu_X12 rfl (by decide) tw_1022 dX12_family_44 ?_
  refine s_icmp_ge X (tgt := 93) dX12_family_47 (by decide) ?_ ?_
  · refine s_iload_n X rfl dX12_family_93 ?_
    refine s_if_ne X (tgt := 102) dX12_family_94 (by decide) ?_ ?_
    · refine s_iload_n X rfl dX12_family_102 ?_
      refine s_iconst X ⟨by decide, by decide⟩ dX12_family_103 ?_
      refine s_icmp_ne X (tgt := 116) dX12_family_104 (by decide) ?_ ?_
      · refine s_iload X dX12_family_116 ?_
        exact s_X12_family_118 X hJ
      · refine s_aload_n X rfl dX12_family_107 ?_
        refine s_iload X dX12_family_108 ?_
        refine s_callVr X (m_X12_sumOf l) tw_1301 tw_1302 tw_1620 tw_134 tw_1303 rfl (by decide +kernel) ⟨by decide, by decide⟩ dX12_family_110 ?_
        refine s_goto X (tgt := 118) dX12_family_113 (by decide) ?_
        exact s_X12_family_118 X hJ
    · refine s_iload X dX12_family_97 ?_
      refine s_goto X (tgt := 118) dX12_family_99 (by decide) ?_
      exact s_X12_family_118 X hJ
  · refine s_aload_n X rfl dX12_family_50 ?_
    refine s_iload X dX12_family_51 ?_
    refine s_iload_n X rfl dX12_family_53 ?_
    refine s_callVr X (m_X12_stepsUp l) tw_1340 tw_1341 tw_1616 tw_134 tw_1342 rfl (by decide +kernel) ⟨by decide, by decide⟩ dX12_family_54 ?_
    refine s_istore X (by decide) dX12_family_57 ?_
    refine s_iload X dX12_family_59 ?_
    refine s_iload X dX12_family_61 ?_
    refine s_iconst X ⟨by decide, by decide⟩ dX12_family_63 ?_
    refine s_icmp_ne X (tgt := 71) dX12_family_64 (by decide) ?_ ?_
    · refine s_iconst X ⟨by decide, by decide⟩ dX12_family_71 ?_
      refine s_iload X dX12_family_72 ?_
      refine s_ishl X dX12_family_74 ?_
      exact s_X12_family_75 X hJ
    · refine s_iconst X ⟨by decide, by decide⟩ dX12_family_67 ?_
      refine s_goto X (tgt := 75) dX12_family_68 (by decide) ?_
      exact s_X12_family_75 X hJ
set_option maxRecDepth 100000 in
def b_X12_family_30 (J : Nat → List qV → List qV → qW → Prop) (Q : qR) : qK := x_int (-1) (x_iret Q)
set_option maxRecDepth 100000 in
theorem s_X12_family_30 {p : Program} {l : Launch} {e : Env} {R : Room} {s : State} {m : MethodId} {args : Array Value} {below : List Frame} {meth : Method} {c : Code} {nW : Nat} {dC : Nat → ClassId} {dI : Nat → Nat → Nat} {k : Nat → ClassId} {g : Nat → Nat} {A : Nat → Prop} {J : Nat → List qV → List qV → qW → Prop} {Q : qR} (X : q_X p R s m args meth c cX12_family 8 nW 3 65 RX12 (some .int) dC dI k g A) (hJ : ∀ d : Nat, q_Sd p l e R s m args below meth c 8 nW dC dI k g A (MQ below (q_post (dC, dI) k g nW Q A) args s 0 0 A) d (x_cut (is_X12_family d) (J d))) : q_Sd p l e R s m args below meth c 8 nW dC dI k g A (MQ below (q_post (dC, dI) k g nW Q A) args s 0 0 A) 30 (b_X12_family_30 J Q) := by
  unfold b_X12_family_30
  refine s_iconst X ⟨by decide, by decide⟩ dX12_family_30 ?_
  exact s_iret X dX12_family_31
set_option maxRecDepth 100000 in
def b_X12_family_0 (J : Nat → List qV → List qV → qW → Prop) (Q : qR) : qK := x_aload 0 (x_int 0 (x_put 12 0 q_oki (x_nw (x_aload 0 (x_iload 1 (x_call (some 12) 2 sp_X12_hand (x_nw (x_if_eq (b_X12_family_30 J Q) (x_aload 0 (x_iload 2 (x_callr (some 12) 2 spr_X12_isPerson (x_if_eq (b_X12_family_30 J Q) (x_iload 3 (x_int 0 (x_int 2 (x_callr none 3 spr_X12_in (x_if_ne (x_int 0 (x_istore 4 (x_int 0 (x_istore 5 (x_int 0 (x_istore 6 (x_cut [0, 2, 3, 4, 5, 6] (J 41)))))))) (b_X12_family_30 J Q))))))))))))))))))
set_option maxRecDepth 100000 in
theorem s_X12_family_0 {p : Program} {l : Launch} {e : Env} {R : Room} {s : State} {m : MethodId} {args : Array Value} {below : List Frame} {meth : Method} {c : Code} {nW : Nat} {dC : Nat → ClassId} {dI : Nat → Nat → Nat} {k : Nat → ClassId} {g : Nat → Nat} {A : Nat → Prop} {J : Nat → List qV → List qV → qW → Prop} {Q : qR} (X : q_X p R s m args meth c cX12_family 8 nW 3 65 RX12 (some .int) dC dI k g A) (hJ : ∀ d : Nat, q_Sd p l e R s m args below meth c 8 nW dC dI k g A (MQ below (q_post (dC, dI) k g nW Q A) args s 0 0 A) d (x_cut (is_X12_family d) (J d))) : q_Sd p l e R s m args below meth c 8 nW dC dI k g A (MQ below (q_post (dC, dI) k g nW Q A) args s 0 0 A) 0 (b_X12_family_0 J Q) := by
  unfold b_X12_family_0
  refine s_aload_n X rfl dX12_family_0 ?_
  refine s_iconst X ⟨by decide, by decide⟩ dX12_family_1 ?_
  refine s_put X (T := TX12) (C := RX12) (N := 45) tu_X12 tyX12_ok nmX12 rfl (by decide) tw_997 rfl (by decide +kernel) q_oki_t dX12_family_2 ?_
  refine s_nw ?_
  refine s_aload_n X rfl dX12_family_5 ?_
  refine s_iload_n X rfl dX12_family_6 ?_
  refine s_callV X (m_X12_hand l) tw_1186 tw_1187 tw_1585 tw_134 tw_1188 rfl (by decide +kernel) ⟨by decide, by decide⟩ dX12_family_7 ?_
  refine s_nw ?_
  refine s_if_eq X (tgt := 30) dX12_family_10 (by decide) ?_ ?_
  · exact s_X12_family_30 X hJ
  · refine s_aload_n X rfl dX12_family_13 ?_
    refine s_iload_n X rfl dX12_family_14 ?_
    refine s_callVr X (m_X12_isPerson l) tw_1192 tw_1193 tw_1591 tw_134 tw_1194 rfl (by decide +kernel) ⟨by decide, by decide⟩ dX12_family_15 ?_
    refine s_if_eq X (tgt := 30) dX12_family_18 (by decide) ?_ ?_
    · exact s_X12_family_30 X hJ
    · refine s_iload_n X rfl dX12_family_21 ?_
      refine s_iconst X ⟨by decide, by decide⟩ dX12_family_22 ?_
      refine s_iconst X ⟨by decide, by decide⟩ dX12_family_23 ?_
      refine s_callSr X (m_X12_in l) tw_1054 tw_1055 tw_134 tw_1056 (by decide +kernel) ⟨by decide, by decide⟩ dX12_family_24 ?_
      refine s_if_ne X (tgt := 32) dX12_family_27 (by decide) ?_ ?_
      · refine s_iconst X ⟨by decide, by decide⟩ dX12_family_32 ?_
        refine s_istore X (by decide) dX12_family_33 ?_
        refine s_iconst X ⟨by decide, by decide⟩ dX12_family_35 ?_
        refine s_istore X (by decide) dX12_family_36 ?_
        refine s_iconst X ⟨by decide, by decide⟩ dX12_family_38 ?_
        refine s_istore X (by decide) dX12_family_39 ?_
        exact hJ 41
      · exact s_X12_family_30 X hJ

def sp_X12_family : qS := fun av w Q => ∃ (mco : Int) (mre : Int) (mle : Int) (mbe : Int) (mso : Int) (mva : Int) (mwo : Int) (mwr : Int) (mlf : Int) (mlp : Int) (mfp : Int) (mfd : Int) (mgo : Int) (mbo : Int) (mpe : Int) (mye : Int) (mpr : Int) (mld : Int) (msi : Int) (mse : Int) (mn : Nat → Int) (bs : Nat → Int) (a : Int) (b : Int) (cc : Int), av = [q2 0, q1 a, q1 b, q1 cc] ∧ w = [.inr (12, [q1 mco, q2 3, q2 4, q2 5, q2 6, q2 1, q2 2, q2 7, q2 8, q2 9, q1 mre, q1 mle, q1 mbe, q1 mso, q1 mva, q3 mwo, q1 mwr, q1 mlf, q1 mlp, q2 10, q2 11, q1 mfp, q1 mfd, q1 mgo, q1 mbo, q1 mpe, q1 mye, q2 12, q1 mpr, q2 13, q2 14, q2 15, q2 16, q1 mld, q2 17, q1 msi, q2 18, q2 19, q2 20, q2 21, q2 22, q1 mse, q2 23, q2 24, q2 25]), .inl (0, 16, .inl mn), .inl (0, 600, .inl bs)] ∧ (q_rg 0 2 mn) ∧ (BI bs) ∧ (∀ (r : Int) (x_mco : Int) (x_mbo : Int) (x_mpe : Int), Q (some (q1 r)) ([.inr (12, [q1 x_mco, q2 3, q2 4, q2 5, q2 6, q2 1, q2 2, q2 7, q2 8, q2 9, q1 mre, q1 mle, q1 mbe, q1 mso, q1 mva, q3 mwo, q1 mwr, q1 mlf, q1 mlp, q2 10, q2 11, q1 mfp, q1 mfd, q1 mgo, q1 x_mbo, q1 x_mpe, q1 mye, q2 12, q1 mpr, q2 13, q2 14, q2 15, q2 16, q1 mld, q2 17, q1 msi, q2 18, q2 19, q2 20, q2 21, q2 22, q1 mse, q2 23, q2 24, q2 25]), .inl (0, 16, .inl mn), .inl (0, 600, .inl bs)]))
def I_X12_family (mco : Int) (mre : Int) (mle : Int) (mbe : Int) (mso : Int) (mva : Int) (mwo : Int) (mwr : Int) (mlf : Int) (mlp : Int) (mfp : Int) (mfd : Int) (mgo : Int) (mbo : Int) (mpe : Int) (mye : Int) (mpr : Int) (mld : Int) (msi : Int) (mse : Int) (mn : Nat → Int) (bs : Nat → Int) (a : Int) (b : Int) (cc : Int) : Nat → Nat → List qV → List qV → qW → Prop := fun dz mz vz sz wz => if dz = 41 then (∃ (y_mco : Int) (y_mbo : Int) (y_mpe : Int) (v4 : Int) (v5 : Int) (v6 : Int), vz = [q2 0, q1 b, q1 cc, q1 v4, q1 v5, q1 v6] ∧ sz = [] ∧ wz = [.inr (12, [q1 y_mco, q2 3, q2 4, q2 5, q2 6, q2 1, q2 2, q2 7, q2 8, q2 9, q1 mre, q1 mle, q1 mbe, q1 mso, q1 mva, q3 mwo, q1 mwr, q1 mlf, q1 mlp, q2 10, q2 11, q1 mfp, q1 mfd, q1 mgo, q1 y_mbo, q1 y_mpe, q1 mye, q2 12, q1 mpr, q2 13, q2 14, q2 15, q2 16, q1 mld, q2 17, q1 msi, q2 18, q2 19, q2 20, q2 21, q2 22, q1 mse, q2 23, q2 24, q2 25]), .inl (0, 16, .inl mn), .inl (0, 600, .inl bs)] ∧ mz = (y_mpe - v6).toNat ∧ (0 ≤ y_mbo ∧ y_mbo ≤ 1 ∧ 0 ≤ y_mpe ∧ y_mpe ≤ 8) ∧ (y_mpe = ofR bs y_mbo 0) ∧ (0 ≤ v6 ∧ v6 ≤ y_mpe ∧ 0 ≤ b ∧ b < y_mpe)) else False
set_option maxHeartbeats 4000000 in
set_option maxRecDepth 100000 in
theorem m_X12_family (l : Launch) : q_M l yX12_family cX12_family 8 (some .int) 3 65 sp_X12_family := by
  refine q_meth (by decide) (fun av w Q h => by obtain ⟨mco, mre, mle, mbe, mso, mva, mwo, mwr, mlf, mlp, mfp, mfd, mgo, mbo, mpe, mye, mpr, mld, msi, mse, mn, bs, a, b, cc, rfl, rfl, hmn, hbi, hQ⟩ := h; exact Nat.le_of_ble_eq_true rfl) ?_
  intro p e R s m args below meth c dC dI k g A av w Q hsp oka okw X
  obtain ⟨mco, mre, mle, mbe, mso, mva, mwo, mwr, mlf, mlp, mfp, mfd, mgo, mbo, mpe, mye, mpr, mld, msi, mse, mn, bs, a, b, cc, rfl, rfl, hmn, hbi, hQ⟩ := hsp
  have o_a : -2147483648 ≤ a ∧ a ≤ 2147483647 := oka _ (List.mem_of_getElem? (i := 1) rfl)
  have o_b : -2147483648 ≤ b ∧ b ≤ 2147483647 := oka _ (List.mem_of_getElem? (i := 2) rfl)
  have o_cc : -2147483648 ≤ cc ∧ cc ≤ 2147483647 := oka _ (List.mem_of_getElem? (i := 3) rfl)
  refine s_mono (s_X12_family_0 X (J := fun dz vz sz wz => ∃ mz, I_X12_family mco mre mle mbe mso mva mwo mwr mlf mlp mfp mfd mgo mbo mpe mye mpr mld msi mse mn bs a b cc dz mz vz sz wz) (q_loopn (I_X12_family mco mre mle mbe mso mva mwo mwr mlf mlp mfp mfd mgo mbo mpe mye mpr mld msi mse mn bs a b cc) (fun dz J => if dz = 41 then b_X12_family_41 J Q else q_F) ?hs ?hv)) ?_
  case hs =>
    intro d J hJ
    by_cases h41 : d = 41
    · subst h41; exact s_X12_family_41 X hJ
    simp only [h41, if_false]
    exact s_F
  case hv =>
    intro dz mz vz sz wz hI okv oks okw hlen
    by_cases h41 : dz = 41
    · subst h41
      obtain ⟨y_mco, y_mbo, y_mpe, v4, v5, v6, rfl, rfl, rfl, hn, hyb, hyq, hp⟩ := hI
      apply And.intro
      · intro h47
        apply And.intro
        · intro h94
          apply And.intro
          · intro h104
            exact hQ _ _ _ _
          · intro h104
            refine Exists.intro [0, 2, 3, 4, 5, 6, 1, 7, 8, 9, 10, 11, 12, 13, 14, 15, 16, 17, 18, 19, 20, 21, 22, 23, 24, 25] (Exists.intro [q2 0, q1 _] (Exists.intro ([.inr (12, [q1 _, q2 2, q2 3, q2 4, q2 5, q2 6, q2 1, q2 7, q2 8, q2 9, q1 _, q1 _, q1 _, q1 _, q1 _, q3 _, q1 _, q1 _, q1 _, q2 10, q2 11, q1 _, q1 _, q1 _, q1 _, q1 _, q1 _, q2 12, q1 _, q2 13, q2 14, q2 15, q2 16, q1 _, q2 17, q1 _, q2 18, q2 19, q2 20, q2 21, q2 22, q1 _, q2 23, q2 24, q2 25]), .inl (0, 600, .inl _)]) (And.intro rfl (And.intro rfl (And.intro rfl (And.intro ⟨⟨_, rfl⟩, rfl⟩ ?_))))))
            refine Exists.intro _ (Exists.intro _ (Exists.intro _ (Exists.intro _ (Exists.intro _ (Exists.intro _ (Exists.intro _ (Exists.intro _ (Exists.intro _ (Exists.intro _ (Exists.intro _ (Exists.intro _ (Exists.intro _ (Exists.intro _ (Exists.intro _ (Exists.intro _ (Exists.intro _ (Exists.intro _ (Exists.intro _ (Exists.intro _ (Exists.intro _ (Exists.intro _ (And.intro rfl (And.intro rfl (And.intro (by first | omega | assumption | exact q_rg_up (by assumption) (by omega) | exact q_rg_up (q_rg_up (by assumption) (by omega)) (by omega) | exact q_rg_cpy (by assumption) (by assumption)) (And.intro (by first | omega | assumption | exact q_rg_up (by assumption) (by omega) | exact q_rg_up (q_rg_up (by assumption) (by omega)) (by omega) | exact q_rg_cpy (by assumption) (by assumption)) (And.intro (by first | omega | assumption | exact q_rg_up (by assumption) (by omega) | exact q_rg_up (q_rg_up (by assumption) (by omega)) (by omega) | exact q_rg_cpy (by assumption) (by assumption)) (?_)))))))))))))))))))))))))))
            intro z110
            exact hQ _ _ _ _
        · intro h94
          exact hQ _ _ _ _
      · intro h47
        refine Exists.intro [0, 2, 3, 4, 5, 6, 1, 7, 8, 9, 10, 11, 12, 13, 14, 15, 16, 17, 18, 19, 20, 21, 22, 23, 24, 25] (Exists.intro [q2 0, q1 _, q1 _] (Exists.intro ([.inr (12, [q1 _, q2 2, q2 3, q2 4, q2 5, q2 6, q2 1, q2 7, q2 8, q2 9, q1 _, q1 _, q1 _, q1 _, q1 _, q3 _, q1 _, q1 _, q1 _, q2 10, q2 11, q1 _, q1 _, q1 _, q1 _, q1 _, q1 _, q2 12, q1 _, q2 13, q2 14, q2 15, q2 16, q1 _, q2 17, q1 _, q2 18, q2 19, q2 20, q2 21, q2 22, q1 _, q2 23, q2 24, q2 25]), .inl (0, 600, .inl _)]) (And.intro rfl (And.intro rfl (And.intro rfl (And.intro ⟨⟨_, rfl⟩, rfl⟩ ?_))))))
        refine Exists.intro _ (Exists.intro _ (Exists.intro _ (Exists.intro _ (Exists.intro _ (Exists.intro _ (Exists.intro _ (Exists.intro _ (Exists.intro _ (Exists.intro _ (Exists.intro _ (Exists.intro _ (Exists.intro _ (Exists.intro _ (Exists.intro _ (Exists.intro _ (Exists.intro _ (Exists.intro _ (Exists.intro _ (Exists.intro _ (Exists.intro _ (Exists.intro _ (Exists.intro _ (And.intro rfl (And.intro rfl (And.intro (by first | omega | assumption | exact q_rg_up (by assumption) (by omega) | exact q_rg_up (q_rg_up (by assumption) (by omega)) (by omega) | exact q_rg_cpy (by assumption) (by assumption)) (And.intro (by first | omega | assumption | exact q_rg_up (by assumption) (by omega) | exact q_rg_up (q_rg_up (by assumption) (by omega)) (by omega) | exact q_rg_cpy (by assumption) (by assumption)) (And.intro (by first | omega | assumption | exact q_rg_up (by assumption) (by omega) | exact q_rg_up (q_rg_up (by assumption) (by omega)) (by omega) | exact q_rg_cpy (by assumption) (by assumption)) (And.intro (by first | omega | assumption | exact q_rg_up (by assumption) (by omega) | exact q_rg_up (q_rg_up (by assumption) (by omega)) (by omega) | exact q_rg_cpy (by assumption) (by assumption)) (And.intro (by first | omega | assumption | exact q_rg_up (by assumption) (by omega) | exact q_rg_up (q_rg_up (by assumption) (by omega)) (by omega) | exact q_rg_cpy (by assumption) (by assumption)) (?_))))))))))))))))))))))))))))))
        intro z54
        apply And.intro
        · intro h64
          intro z74 h74
          first | replace h74 := e_shl h74 (by omega) | replace h74 := e_rng h74
          intro z75 h75
          first | replace h75 := e_or8 h75 (by omega) (by omega) | replace h75 := e_or9 h75 (by omega) (by omega) | replace h75 := e_rng h75
          refine Exists.intro [] (Exists.intro [q1 _, q1 _] (Exists.intro [] (And.intro rfl (And.intro rfl (And.intro rfl (And.intro trivial ?_))))))
          refine Exists.intro _ (Exists.intro _ (And.intro rfl (And.intro rfl (?_))))
          intro z82 h82
          intro z87 h87
          first | replace h87 := e_add h87 (by omega) | replace h87 := e_rng h87
          exact ⟨_, ⟨_, _, _, _, _, _, rfl, rfl, rfl, rfl, (by first | omega | assumption | exact q_rg_up (by assumption) (by omega) | exact q_rg_up (q_rg_up (by assumption) (by omega)) (by omega) | exact q_rg_cpy (by assumption) (by assumption)), (by first | omega | assumption | exact q_rg_up (by assumption) (by omega) | exact q_rg_up (q_rg_up (by assumption) (by omega)) (by omega) | exact q_rg_cpy (by assumption) (by assumption)), (by first | omega | assumption | exact q_rg_up (by assumption) (by omega) | exact q_rg_up (q_rg_up (by assumption) (by omega)) (by omega) | exact q_rg_cpy (by assumption) (by assumption))⟩, by omega⟩
        · intro h64
          intro z75 h75
          first | replace h75 := e_or8 h75 (by omega) (by omega) | replace h75 := e_or9 h75 (by omega) (by omega) | replace h75 := e_rng h75
          refine Exists.intro [] (Exists.intro [q1 _, q1 _] (Exists.intro [] (And.intro rfl (And.intro rfl (And.intro rfl (And.intro trivial ?_))))))
          refine Exists.intro _ (Exists.intro _ (And.intro rfl (And.intro rfl (?_))))
          intro z82 h82
          intro z87 h87
          first | replace h87 := e_add h87 (by omega) | replace h87 := e_rng h87
          exact ⟨_, ⟨_, _, _, _, _, _, rfl, rfl, rfl, rfl, (by first | omega | assumption | exact q_rg_up (by assumption) (by omega) | exact q_rg_up (q_rg_up (by assumption) (by omega)) (by omega) | exact q_rg_cpy (by assumption) (by assumption)), (by first | omega | assumption | exact q_rg_up (by assumption) (by omega) | exact q_rg_up (q_rg_up (by assumption) (by omega)) (by omega) | exact q_rg_cpy (by assumption) (by assumption)), (by first | omega | assumption | exact q_rg_up (by assumption) (by omega) | exact q_rg_up (q_rg_up (by assumption) (by omega)) (by omega) | exact q_rg_cpy (by assumption) (by assumption))⟩, by omega⟩
    simp only [I_X12_family, h41, if_false] at hI
  rintro lv st w' ⟨rfl, rfl, rfl⟩
  apply And.intro
  · exact trivial
  refine Exists.intro [0, 1, 2, 3, 4, 5, 6, 7, 8, 9, 10, 11, 12, 13, 14, 15, 16, 17, 18, 19, 20, 21, 22, 23, 24, 25] (Exists.intro [q2 0, q1 _] (Exists.intro ([.inr (12, [q1 _, q2 3, q2 4, q2 5, q2 6, q2 1, q2 2, q2 7, q2 8, q2 9, q1 _, q1 _, q1 _, q1 _, q1 _, q3 _, q1 _, q1 _, q1 _, q2 10, q2 11, q1 _, q1 _, q1 _, q1 _, q1 _, q1 _, q2 12, q1 _, q2 13, q2 14, q2 15, q2 16, q1 _, q2 17, q1 _, q2 18, q2 19, q2 20, q2 21, q2 22, q1 _, q2 23, q2 24, q2 25]), .inl (0, 16, .inl _), .inl (0, 600, .inl _)]) (And.intro rfl (And.intro rfl (And.intro rfl (And.intro ⟨⟨_, rfl⟩, rfl⟩ ?_))))))
  refine Exists.intro _ (Exists.intro _ (Exists.intro _ (Exists.intro _ (Exists.intro _ (Exists.intro _ (Exists.intro _ (Exists.intro _ (Exists.intro _ (Exists.intro _ (Exists.intro _ (Exists.intro _ (Exists.intro _ (Exists.intro _ (Exists.intro _ (Exists.intro _ (Exists.intro _ (Exists.intro _ (Exists.intro _ (Exists.intro _ (Exists.intro _ (Exists.intro _ (Exists.intro _ (And.intro rfl (And.intro rfl (And.intro (by first | omega | assumption | exact q_rg_up (by assumption) (by omega) | exact q_rg_up (q_rg_up (by assumption) (by omega)) (by omega) | exact q_rg_cpy (by assumption) (by assumption)) (And.intro (by first | omega | assumption | exact q_rg_up (by assumption) (by omega) | exact q_rg_up (q_rg_up (by assumption) (by omega)) (by omega) | exact q_rg_cpy (by assumption) (by assumption)) (?_)))))))))))))))))))))))))))
  intro z7 x_mbo_7 x_mpe_7 h7
  apply And.intro
  · intro h10
    first | replace h7 := dj1 h7 h10 | replace h7 := dj0 h7 h10
    exact hQ _ _ _ _
  · intro h10
    first | replace h7 := dj1 h7 h10 | replace h7 := dj0 h7 h10
    refine Exists.intro [0, 3, 4, 5, 6, 1, 2, 7, 8, 9, 10, 11, 12, 13, 14, 15, 16, 17, 18, 19, 20, 21, 22, 23, 24, 25] (Exists.intro [q2 0, q1 _] (Exists.intro ([.inr (12, [q1 _, q2 1, q2 2, q2 3, q2 4, q2 5, q2 6, q2 7, q2 8, q2 9, q1 _, q1 _, q1 _, q1 _, q1 _, q3 _, q1 _, q1 _, q1 _, q2 10, q2 11, q1 _, q1 _, q1 _, q1 _, q1 _, q1 _, q2 12, q1 _, q2 13, q2 14, q2 15, q2 16, q1 _, q2 17, q1 _, q2 18, q2 19, q2 20, q2 21, q2 22, q1 _, q2 23, q2 24, q2 25])]) (And.intro rfl (And.intro rfl (And.intro rfl (And.intro ⟨⟨_, rfl⟩, rfl⟩ ?_))))))
    refine Exists.intro _ (Exists.intro _ (Exists.intro _ (Exists.intro _ (Exists.intro _ (Exists.intro _ (Exists.intro _ (Exists.intro _ (Exists.intro _ (Exists.intro _ (Exists.intro _ (Exists.intro _ (Exists.intro _ (Exists.intro _ (Exists.intro _ (Exists.intro _ (Exists.intro _ (Exists.intro _ (Exists.intro _ (Exists.intro _ (Exists.intro _ (And.intro rfl (And.intro rfl (And.intro (by first | omega | assumption | exact q_rg_up (by assumption) (by omega) | exact q_rg_up (q_rg_up (by assumption) (by omega)) (by omega) | exact q_rg_cpy (by assumption) (by assumption)) (?_))))))))))))))))))))))))
    intro z15 h15
    apply And.intro
    · intro h18
      first | replace h15 := dj1 h15 h18 | replace h15 := dj0 h15 h18
      exact hQ _ _ _ _
    · intro h18
      first | replace h15 := dj1 h15 h18 | replace h15 := dj0 h15 h18
      refine Exists.intro [] (Exists.intro [q1 _, q1 _, q1 _] (Exists.intro [] (And.intro rfl (And.intro rfl (And.intro rfl (And.intro trivial ?_))))))
      refine Exists.intro _ (Exists.intro _ (Exists.intro _ (And.intro rfl (And.intro rfl (?_)))))
      intro z24 h24
      apply And.intro
      · intro h27
        first | replace h24 := dj1 h24 h27 | replace h24 := dj0 h24 h27
        exact ⟨_, _, _, _, _, _, _, rfl, rfl, rfl, rfl, (by first | omega | assumption | exact q_rg_up (by assumption) (by omega) | exact q_rg_up (q_rg_up (by assumption) (by omega)) (by omega) | exact q_rg_cpy (by assumption) (by assumption)), (by first | omega | assumption | exact q_rg_up (by assumption) (by omega) | exact q_rg_up (q_rg_up (by assumption) (by omega)) (by omega) | exact q_rg_cpy (by assumption) (by assumption)), (by first | omega | assumption | exact q_rg_up (by assumption) (by omega) | exact q_rg_up (q_rg_up (by assumption) (by omega)) (by omega) | exact q_rg_cpy (by assumption) (by assumption))⟩
      · intro h27
        first | replace h24 := dj1 h24 h27 | replace h24 := dj0 h24 h27
        exact hQ _ _ _ _
