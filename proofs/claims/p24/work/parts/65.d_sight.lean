theorem dX12_laySight_0 : decode cX12_laySight 0 = .ok (.iload_n 3, 1) := by decide +kernel
theorem dX12_laySight_1 : decode cX12_laySight 1 = .ok (.iconst 0, 1) := by decide +kernel
theorem dX12_laySight_2 : decode cX12_laySight 2 = .ok (.bipush 8, 2) := by decide +kernel
theorem dX12_laySight_4 : decode cX12_laySight 4 = .ok (.invokestatic 100, 3) := by decide +kernel
theorem dX12_laySight_7 : decode cX12_laySight 7 = .ok (.ifCond .eq 19, 3) := by decide +kernel
theorem dX12_laySight_10 : decode cX12_laySight 10 = .ok (.aload_n 0, 1) := by decide +kernel
theorem dX12_laySight_11 : decode cX12_laySight 11 = .ok (.iload_n 2, 1) := by decide +kernel
theorem dX12_laySight_12 : decode cX12_laySight 12 = .ok (.invokevirtual 459, 3) := by decide +kernel
theorem dX12_laySight_15 : decode cX12_laySight 15 = .ok (.ifCond .eq 11, 3) := by decide +kernel
theorem dX12_laySight_18 : decode cX12_laySight 18 = .ok (.aload_n 0, 1) := by decide +kernel
theorem dX12_laySight_19 : decode cX12_laySight 19 = .ok (.iload_n 1, 1) := by decide +kernel
theorem dX12_laySight_20 : decode cX12_laySight 20 = .ok (.invokevirtual 306, 3) := by decide +kernel
theorem dX12_laySight_23 : decode cX12_laySight 23 = .ok (.ifCond .ne 5, 3) := by decide +kernel
theorem dX12_laySight_26 : decode cX12_laySight 26 = .ok (.iconst 0, 1) := by decide +kernel
theorem dX12_laySight_27 : decode cX12_laySight 27 = .ok (.ireturn, 1) := by decide +kernel
theorem dX12_laySight_28 : decode cX12_laySight 28 = .ok (.iconst 0, 1) := by decide +kernel
theorem dX12_laySight_29 : decode cX12_laySight 29 = .ok (.istore 4, 2) := by decide +kernel
theorem dX12_laySight_31 : decode cX12_laySight 31 = .ok (.iload 4, 2) := by decide +kernel
theorem dX12_laySight_33 : decode cX12_laySight 33 = .ok (.aload_n 0, 1) := by decide +kernel
theorem dX12_laySight_34 : decode cX12_laySight 34 = .ok (.invokevirtual 462, 3) := by decide +kernel
theorem dX12_laySight_37 : decode cX12_laySight 37 = .ok (.if_icmp .ge 25, 3) := by decide +kernel
theorem dX12_laySight_40 : decode cX12_laySight 40 = .ok (.aload_n 0, 1) := by decide +kernel
theorem dX12_laySight_41 : decode cX12_laySight 41 = .ok (.iload 4, 2) := by decide +kernel
theorem dX12_laySight_43 : decode cX12_laySight 43 = .ok (.iconst 0, 1) := by decide +kernel
theorem dX12_laySight_44 : decode cX12_laySight 44 = .ok (.invokevirtual 465, 3) := by decide +kernel
theorem dX12_laySight_47 : decode cX12_laySight 47 = .ok (.aload_n 0, 1) := by decide +kernel
theorem dX12_laySight_48 : decode cX12_laySight 48 = .ok (.getfield 303, 3) := by decide +kernel
theorem dX12_laySight_51 : decode cX12_laySight 51 = .ok (.if_icmp .lt 5, 3) := by decide +kernel
theorem dX12_laySight_54 : decode cX12_laySight 54 = .ok (.iconst 0, 1) := by decide +kernel
theorem dX12_laySight_55 : decode cX12_laySight 55 = .ok (.ireturn, 1) := by decide +kernel
theorem dX12_laySight_56 : decode cX12_laySight 56 = .ok (.iinc 4 1, 3) := by decide +kernel
theorem dX12_laySight_59 : decode cX12_laySight 59 = .ok (.goto (-28), 3) := by decide +kernel
theorem dX12_laySight_62 : decode cX12_laySight 62 = .ok (.iconst 1, 1) := by decide +kernel
theorem dX12_laySight_63 : decode cX12_laySight 63 = .ok (.ireturn, 1) := by decide +kernel
def is_X12_laySight : Nat → List Nat := fun d => if d = 31 then [0, 4] else []
set_option maxRecDepth 100000 in
def b_X12_laySight_31 (J : Nat → List qV → List qV → qW → Prop) (Q : qR) : qK := x_iload 4 (x_aload 0 (x_callr (some 12) 1 spr_X12_facts (x_icmp_ge (x_int 1 (x_zret Q)) (x_aload 0 (x_iload 4 (x_int 0 (x_callr (some 12) 3 spr_X12_factOf (x_aload 0 (x_get 12 25 (x_icmp_lt (x_iinc 4 1 (x_cut [0, 4] (J 31))) (x_int 0 (x_zret Q))))))))))))
set_option maxRecDepth 100000 in
theorem s_X12_laySight_31 {p : Program} {l : Launch} {e : Env} {R : Room} {s : State} {m : MethodId} {args : Array Value} {below : List Frame} {meth : Method} {c : Code} {nW : Nat} {dC : Nat → ClassId} {dI : Nat → Nat → Nat} {k : Nat → ClassId} {g : Nat → Nat} {A : Nat → Prop} {J : Nat → List qV → List qV → qW → Prop} {Q : qR} (X : q_X p R s m args meth c cX12_laySight 5 nW 3 65 RX12 (some .boolean) dC dI k g A) (hJ : ∀ d : Nat, q_Sd p l e R s m args below meth c 5 nW dC dI k g A (MQ below (q_post (dC, dI) k g nW Q A) args s 0 0 A) d (x_cut (is_X12_laySight d) (J d))) : q_Sd p l e R s m args below meth c 5 nW dC dI k g A (MQ below (q_post (dC, dI) k g nW Q A) args s 0 0 A) 31 (b_X12_laySight_31 J Q) := by
  unfold b_X12_laySight_31
  refine s_iload X dX12_laySight_31 ?_
  refine s_aload_n X rfl dX12_laySight_33 ?_
  refine s_callVr X (m_X12_facts l) tw_1378 tw_1379 tw_1567 tw_134 tw_1380 rfl (by decide +kernel) ⟨by decide, by decide⟩ dX12_laySight_34 ?_
  refine s_icmp_ge X (tgt := 62) dX12_laySight_37 (by decide) ?_ ?_
  · refine s_iconst X ⟨by decide, by decide⟩ dX12_laySight_62 ?_
    exact s_zret X dX12_laySight_63
  · refine s_aload_n X rfl dX12_laySight_40 ?_
    refine s_iload X dX12_laySight_41 ?_
    refine s_iconst X ⟨by decide, by decide⟩ dX12_laySight_43 ?_
    refine s_callVr X (m_X12_factOf l) tw_1381 tw_1382 tw_1566 tw_134 tw_1383 rfl (by decide +kernel) ⟨by decide, by decide⟩ dX12_laySight_44 ?_
    refine s_aload_n X rfl dX12_laySight_47 ?_
    refine s_get X (T := TX12) (C := RX12) (N := 45) tu_X12 rfl (by decide) tw_1022 dX12_laySight_48 ?_
    refine s_icmp_lt X (tgt := 56) dX12_laySight_51 (by decide) ?_ ?_
    · refine s_iinc X (by decide) dX12_laySight_56 ?_
      refine s_goto X (tgt := 31) dX12_laySight_59 (by decide) ?_
      exact hJ 31
    · refine s_iconst X ⟨by decide, by decide⟩ dX12_laySight_54 ?_
      exact s_zret X dX12_laySight_55
set_option maxRecDepth 100000 in
def b_X12_laySight_26 (J : Nat → List qV → List qV → qW → Prop) (Q : qR) : qK := x_int 0 (x_zret Q)
set_option maxRecDepth 100000 in
theorem s_X12_laySight_26 {p : Program} {l : Launch} {e : Env} {R : Room} {s : State} {m : MethodId} {args : Array Value} {below : List Frame} {meth : Method} {c : Code} {nW : Nat} {dC : Nat → ClassId} {dI : Nat → Nat → Nat} {k : Nat → ClassId} {g : Nat → Nat} {A : Nat → Prop} {J : Nat → List qV → List qV → qW → Prop} {Q : qR} (X : q_X p R s m args meth c cX12_laySight 5 nW 3 65 RX12 (some .boolean) dC dI k g A) (hJ : ∀ d : Nat, q_Sd p l e R s m args below meth c 5 nW dC dI k g A (MQ below (q_post (dC, dI) k g nW Q A) args s 0 0 A) d (x_cut (is_X12_laySight d) (J d))) : q_Sd p l e R s m args below meth c 5 nW dC dI k g A (MQ below (q_post (dC, dI) k g nW Q A) args s 0 0 A) 26 (b_X12_laySight_26 J Q) := by
  unfold b_X12_laySight_26
  refine s_iconst X ⟨by decide, by decide⟩ dX12_laySight_26 ?_
  exact s_zret X dX12_laySight_27
set_option maxRecDepth 100000 in
def b_X12_laySight_0 (J : Nat → List qV → List qV → qW → Prop) (Q : qR) : qK := x_iload 3 (x_int 0 (x_int 8 (x_callr none 3 spr_X12_in (x_if_eq (b_X12_laySight_26 J Q) (x_aload 0 (x_iload 2 (x_call (some 12) 2 sp_X12_hasSight (x_nw (x_if_eq (b_X12_laySight_26 J Q) (x_aload 0 (x_iload 1 (x_call (some 12) 2 sp_X12_hand (x_nw (x_if_ne (x_int 0 (x_istore 4 (x_cut [0, 4] (J 31)))) (b_X12_laySight_26 J Q)))))))))))))))
set_option maxRecDepth 100000 in
theorem s_X12_laySight_0 {p : Program} {l : Launch} {e : Env} {R : Room} {s : State} {m : MethodId} {args : Array Value} {below : List Frame} {meth : Method} {c : Code} {nW : Nat} {dC : Nat → ClassId} {dI : Nat → Nat → Nat} {k : Nat → ClassId} {g : Nat → Nat} {A : Nat → Prop} {J : Nat → List qV → List qV → qW → Prop} {Q : qR} (X : q_X p R s m args meth c cX12_laySight 5 nW 3 65 RX12 (some .boolean) dC dI k g A) (hJ : ∀ d : Nat, q_Sd p l e R s m args below meth c 5 nW dC dI k g A (MQ below (q_post (dC, dI) k g nW Q A) args s 0 0 A) d (x_cut (is_X12_laySight d) (J d))) : q_Sd p l e R s m args below meth c 5 nW dC dI k g A (MQ below (q_post (dC, dI) k g nW Q A) args s 0 0 A) 0 (b_X12_laySight_0 J Q) := by
  unfold b_X12_laySight_0
  refine s_iload_n X rfl dX12_laySight_0 ?_
  refine s_iconst X ⟨by decide, by decide⟩ dX12_laySight_1 ?_
  refine s_bipush X ⟨by decide, by decide⟩ (by decide) dX12_laySight_2 ?_
  refine s_callSr X (m_X12_in l) tw_1054 tw_1055 tw_134 tw_1056 (by decide +kernel) ⟨by decide, by decide⟩ dX12_laySight_4 ?_
  refine s_if_eq X (tgt := 26) dX12_laySight_7 (by decide) ?_ ?_
  · exact s_X12_laySight_26 X hJ
  · refine s_aload_n X rfl dX12_laySight_10 ?_
    refine s_iload_n X rfl dX12_laySight_11 ?_
    refine s_callV X (m_X12_hasSight l) tw_1375 tw_1376 tw_1588 tw_134 tw_1377 rfl (by decide +kernel) ⟨by decide, by decide⟩ dX12_laySight_12 ?_
    refine s_nw ?_
    refine s_if_eq X (tgt := 26) dX12_laySight_15 (by decide) ?_ ?_
    · exact s_X12_laySight_26 X hJ
    · refine s_aload_n X rfl dX12_laySight_18 ?_
      refine s_iload_n X rfl dX12_laySight_19 ?_
      refine s_callV X (m_X12_hand l) tw_1186 tw_1187 tw_1585 tw_134 tw_1188 rfl (by decide +kernel) ⟨by decide, by decide⟩ dX12_laySight_20 ?_
      refine s_nw ?_
      refine s_if_ne X (tgt := 28) dX12_laySight_23 (by decide) ?_ ?_
      · refine s_iconst X ⟨by decide, by decide⟩ dX12_laySight_28 ?_
        refine s_istore X (by decide) dX12_laySight_29 ?_
        exact hJ 31
      · exact s_X12_laySight_26 X hJ

def sp_X12_laySight : qS := fun av w Q => ∃ (mco : Int) (mre : Int) (mle : Int) (mbe : Int) (mso : Int) (mva : Int) (mwo : Int) (mwr : Int) (mlf : Int) (mlp : Int) (mfp : Int) (mfd : Int) (mgo : Int) (mbo : Int) (mpe : Int) (mye : Int) (mpr : Int) (mld : Int) (msi : Int) (mse : Int) (mn : Nat → Int) (bs : Nat → Int) (ss : Nat → Int) (a : Int) (b : Int) (cc : Int), av = [q2 0, q1 a, q1 b, q1 cc] ∧ w = [.inr (12, [q1 mco, q2 4, q2 5, q2 6, q2 7, q2 1, q2 2, q2 8, q2 9, q2 3, q1 mre, q1 mle, q1 mbe, q1 mso, q1 mva, q3 mwo, q1 mwr, q1 mlf, q1 mlp, q2 10, q2 11, q1 mfp, q1 mfd, q1 mgo, q1 mbo, q1 mpe, q1 mye, q2 12, q1 mpr, q2 13, q2 14, q2 15, q2 16, q1 mld, q2 17, q1 msi, q2 18, q2 19, q2 20, q2 21, q2 22, q1 mse, q2 23, q2 24, q2 25]), .inl (0, 16, .inl mn), .inl (0, 600, .inl bs), .inl (0, 168, .inl ss)] ∧ (q_rg 0 2 mn) ∧ (BI bs) ∧ (SI ss) ∧ (∀ (r : Int) (x_msi : Int) (x_mbo : Int) (x_mpe : Int), (r = 1 ∧ (0 ≤ cc ∧ cc ≤ 8 ∧ 0 ≤ x_msi ∧ x_msi ≤ 1 ∧ 0 ≤ x_mbo ∧ x_mbo ≤ 1 ∧ 0 ≤ x_mpe ∧ x_mpe ≤ 8) ∨ r = 0 ∧ r ≤ 0) → Q (some (q1 r)) ([.inr (12, [q1 mco, q2 4, q2 5, q2 6, q2 7, q2 1, q2 2, q2 8, q2 9, q2 3, q1 mre, q1 mle, q1 mbe, q1 mso, q1 mva, q3 mwo, q1 mwr, q1 mlf, q1 mlp, q2 10, q2 11, q1 mfp, q1 mfd, q1 mgo, q1 x_mbo, q1 x_mpe, q1 mye, q2 12, q1 mpr, q2 13, q2 14, q2 15, q2 16, q1 mld, q2 17, q1 x_msi, q2 18, q2 19, q2 20, q2 21, q2 22, q1 mse, q2 23, q2 24, q2 25]), .inl (0, 16, .inl mn), .inl (0, 600, .inl bs), .inl (0, 168, .inl ss)]))
def I_X12_laySight (mco : Int) (mre : Int) (mle : Int) (mbe : Int) (mso : Int) (mva : Int) (mwo : Int) (mwr : Int) (mlf : Int) (mlp : Int) (mfp : Int) (mfd : Int) (mgo : Int) (mbo : Int) (mpe : Int) (mye : Int) (mpr : Int) (mld : Int) (msi : Int) (mse : Int) (mn : Nat → Int) (bs : Nat → Int) (ss : Nat → Int) (a : Int) (b : Int) (cc : Int) : Nat → Nat → List qV → List qV → qW → Prop := fun dz mz vz sz wz => if dz = 31 then (∃ (y_msi : Int) (y_mbo : Int) (y_mpe : Int) (v4 : Int), vz = [q2 0, q1 v4] ∧ sz = [] ∧ wz = [.inr (12, [q1 mco, q2 4, q2 5, q2 6, q2 7, q2 1, q2 2, q2 8, q2 9, q2 3, q1 mre, q1 mle, q1 mbe, q1 mso, q1 mva, q3 mwo, q1 mwr, q1 mlf, q1 mlp, q2 10, q2 11, q1 mfp, q1 mfd, q1 mgo, q1 y_mbo, q1 y_mpe, q1 mye, q2 12, q1 mpr, q2 13, q2 14, q2 15, q2 16, q1 mld, q2 17, q1 y_msi, q2 18, q2 19, q2 20, q2 21, q2 22, q1 mse, q2 23, q2 24, q2 25]), .inl (0, 16, .inl mn), .inl (0, 600, .inl bs), .inl (0, 168, .inl ss)] ∧ mz = (10 - v4).toNat ∧ (0 ≤ y_mbo ∧ y_mbo ≤ 1 ∧ 0 ≤ y_mpe ∧ y_mpe ≤ 8) ∧ (0 ≤ y_msi ∧ y_msi ≤ 1) ∧ (0 ≤ v4 ∧ v4 ≤ 10 ∧ 0 ≤ cc ∧ cc ≤ 8)) else False
set_option maxHeartbeats 4000000 in
set_option maxRecDepth 100000 in
theorem m_X12_laySight (l : Launch) : q_M l yX12_laySight cX12_laySight 5 (some .boolean) 3 65 sp_X12_laySight := by
  refine q_meth (by decide) (fun av w Q h => by obtain ⟨mco, mre, mle, mbe, mso, mva, mwo, mwr, mlf, mlp, mfp, mfd, mgo, mbo, mpe, mye, mpr, mld, msi, mse, mn, bs, ss, a, b, cc, rfl, rfl, hmn, hbi, hsi, hQ⟩ := h; exact Nat.le_of_ble_eq_true rfl) ?_
  intro p e R s m args below meth c dC dI k g A av w Q hsp oka okw X
  obtain ⟨mco, mre, mle, mbe, mso, mva, mwo, mwr, mlf, mlp, mfp, mfd, mgo, mbo, mpe, mye, mpr, mld, msi, mse, mn, bs, ss, a, b, cc, rfl, rfl, hmn, hbi, hsi, hQ⟩ := hsp
  have o_a : -2147483648 ≤ a ∧ a ≤ 2147483647 := oka _ (List.mem_of_getElem? (i := 1) rfl)
  have o_b : -2147483648 ≤ b ∧ b ≤ 2147483647 := oka _ (List.mem_of_getElem? (i := 2) rfl)
  have o_cc : -2147483648 ≤ cc ∧ cc ≤ 2147483647 := oka _ (List.mem_of_getElem? (i := 3) rfl)
  refine s_mono (s_X12_laySight_0 X (J := fun dz vz sz wz => ∃ mz, I_X12_laySight mco mre mle mbe mso mva mwo mwr mlf mlp mfp mfd mgo mbo mpe mye mpr mld msi mse mn bs ss a b cc dz mz vz sz wz) (q_loopn (I_X12_laySight mco mre mle mbe mso mva mwo mwr mlf mlp mfp mfd mgo mbo mpe mye mpr mld msi mse mn bs ss a b cc) (fun dz J => if dz = 31 then b_X12_laySight_31 J Q else q_F) ?hs ?hv)) ?_
  case hs =>
    intro d J hJ
    by_cases h31 : d = 31
    · subst h31; exact s_X12_laySight_31 X hJ
    simp only [h31, if_false]
    exact s_F
  case hv =>
    intro dz mz vz sz wz hI okv oks okw hlen
    by_cases h31 : dz = 31
    · subst h31
      obtain ⟨y_msi, y_mbo, y_mpe, v4, rfl, rfl, rfl, hn, hyb, hys, hp⟩ := hI
      refine Exists.intro [0, 3, 4, 5, 6, 7, 1, 2, 8, 9, 10, 11, 12, 13, 14, 15, 16, 17, 18, 19, 20, 21, 22, 23, 24, 25] (Exists.intro [q2 0] (Exists.intro ([.inr (12, [q1 _, q2 2, q2 3, q2 4, q2 5, q2 6, q2 7, q2 8, q2 9, q2 1, q1 _, q1 _, q1 _, q1 _, q1 _, q3 _, q1 _, q1 _, q1 _, q2 10, q2 11, q1 _, q1 _, q1 _, q1 _, q1 _, q1 _, q2 12, q1 _, q2 13, q2 14, q2 15, q2 16, q1 _, q2 17, q1 _, q2 18, q2 19, q2 20, q2 21, q2 22, q1 _, q2 23, q2 24, q2 25]), .inl (0, 168, .inl _)]) (And.intro rfl (And.intro rfl (And.intro rfl (And.intro ⟨⟨_, rfl⟩, rfl⟩ ?_))))))
      refine Exists.intro _ (Exists.intro _ (Exists.intro _ (Exists.intro _ (Exists.intro _ (Exists.intro _ (Exists.intro _ (Exists.intro _ (Exists.intro _ (Exists.intro _ (Exists.intro _ (Exists.intro _ (Exists.intro _ (Exists.intro _ (Exists.intro _ (Exists.intro _ (Exists.intro _ (Exists.intro _ (Exists.intro _ (Exists.intro _ (Exists.intro _ (And.intro rfl (And.intro rfl (And.intro (by first | omega | assumption | exact q_rg_up (by assumption) (by omega) | exact q_rg_up (q_rg_up (by assumption) (by omega)) (by omega) | exact q_rg_cpy (by assumption) (by assumption)) (And.intro (by first | omega | assumption | exact q_rg_up (by assumption) (by omega) | exact q_rg_up (q_rg_up (by assumption) (by omega)) (by omega) | exact q_rg_cpy (by assumption) (by assumption)) (?_)))))))))))))))))))))))))
      intro z34 h34
      apply And.intro
      · intro h37
        apply And.intro
        · first | exact Or.inl rfl | exact Or.inr rfl | omega
        exact hQ _ _ _ _ (by first | omega | assumption | exact q_rg_up (by assumption) (by omega) | exact q_rg_up (q_rg_up (by assumption) (by omega)) (by omega) | exact q_rg_cpy (by assumption) (by assumption))
      · intro h37
        refine Exists.intro [0, 3, 4, 5, 6, 7, 1, 2, 8, 9, 10, 11, 12, 13, 14, 15, 16, 17, 18, 19, 20, 21, 22, 23, 24, 25] (Exists.intro [q2 0, q1 _, q1 _] (Exists.intro ([.inr (12, [q1 _, q2 2, q2 3, q2 4, q2 5, q2 6, q2 7, q2 8, q2 9, q2 1, q1 _, q1 _, q1 _, q1 _, q1 _, q3 _, q1 _, q1 _, q1 _, q2 10, q2 11, q1 _, q1 _, q1 _, q1 _, q1 _, q1 _, q2 12, q1 _, q2 13, q2 14, q2 15, q2 16, q1 _, q2 17, q1 _, q2 18, q2 19, q2 20, q2 21, q2 22, q1 _, q2 23, q2 24, q2 25]), .inl (0, 168, .inl _)]) (And.intro rfl (And.intro rfl (And.intro rfl (And.intro ⟨⟨_, rfl⟩, rfl⟩ ?_))))))
        refine Exists.intro _ (Exists.intro _ (Exists.intro _ (Exists.intro _ (Exists.intro _ (Exists.intro _ (Exists.intro _ (Exists.intro _ (Exists.intro _ (Exists.intro _ (Exists.intro _ (Exists.intro _ (Exists.intro _ (Exists.intro _ (Exists.intro _ (Exists.intro _ (Exists.intro _ (Exists.intro _ (Exists.intro _ (Exists.intro _ (Exists.intro _ (Exists.intro _ (Exists.intro _ (And.intro rfl (And.intro rfl (And.intro (by first | omega | assumption | exact q_rg_up (by assumption) (by omega) | exact q_rg_up (q_rg_up (by assumption) (by omega)) (by omega) | exact q_rg_cpy (by assumption) (by assumption)) (And.intro (by first | omega | assumption | exact q_rg_up (by assumption) (by omega) | exact q_rg_up (q_rg_up (by assumption) (by omega)) (by omega) | exact q_rg_cpy (by assumption) (by assumption)) (?_)))))))))))))))))))))))))))
        intro z44
        apply And.intro
        · intro h51
          intro z56 h56
          first | replace h56 := e_add h56 (by omega) | replace h56 := e_rng h56
          exact ⟨_, ⟨_, _, _, _, rfl, rfl, rfl, rfl, (by first | omega | assumption | exact q_rg_up (by assumption) (by omega) | exact q_rg_up (q_rg_up (by assumption) (by omega)) (by omega) | exact q_rg_cpy (by assumption) (by assumption)), (by first | omega | assumption | exact q_rg_up (by assumption) (by omega) | exact q_rg_up (q_rg_up (by assumption) (by omega)) (by omega) | exact q_rg_cpy (by assumption) (by assumption)), (by first | omega | assumption | exact q_rg_up (by assumption) (by omega) | exact q_rg_up (q_rg_up (by assumption) (by omega)) (by omega) | exact q_rg_cpy (by assumption) (by assumption))⟩, by omega⟩
        · intro h51
          apply And.intro
          · first | exact Or.inl rfl | exact Or.inr rfl | omega
          exact hQ _ _ _ _ (by first | omega | assumption | exact q_rg_up (by assumption) (by omega) | exact q_rg_up (q_rg_up (by assumption) (by omega)) (by omega) | exact q_rg_cpy (by assumption) (by assumption))
    simp only [I_X12_laySight, h31, if_false] at hI
  rintro lv st w' ⟨rfl, rfl, rfl⟩
  refine Exists.intro [] (Exists.intro [q1 _, q1 _, q1 _] (Exists.intro [] (And.intro rfl (And.intro rfl (And.intro rfl (And.intro trivial ?_))))))
  refine Exists.intro _ (Exists.intro _ (Exists.intro _ (And.intro rfl (And.intro rfl (?_)))))
  intro z4 h4
  apply And.intro
  · intro h7
    first | replace h4 := dj1 h4 h7 | replace h4 := dj0 h4 h7
    apply And.intro
    · first | exact Or.inl rfl | exact Or.inr rfl | omega
    exact hQ _ _ _ _ (by first | omega | assumption | exact q_rg_up (by assumption) (by omega) | exact q_rg_up (q_rg_up (by assumption) (by omega)) (by omega) | exact q_rg_cpy (by assumption) (by assumption))
  · intro h7
    first | replace h4 := dj1 h4 h7 | replace h4 := dj0 h4 h7
    refine Exists.intro [0, 1, 4, 5, 6, 7, 2, 8, 9, 3, 10, 11, 12, 13, 14, 15, 16, 17, 18, 19, 20, 21, 22, 23, 24, 25] (Exists.intro [q2 0, q1 _] (Exists.intro ([.inr (12, [q1 _, q2 2, q2 3, q2 4, q2 5, q2 1, q2 6, q2 7, q2 8, q2 9, q1 _, q1 _, q1 _, q1 _, q1 _, q3 _, q1 _, q1 _, q1 _, q2 10, q2 11, q1 _, q1 _, q1 _, q1 _, q1 _, q1 _, q2 12, q1 _, q2 13, q2 14, q2 15, q2 16, q1 _, q2 17, q1 _, q2 18, q2 19, q2 20, q2 21, q2 22, q1 _, q2 23, q2 24, q2 25]), .inl (0, 16, .inl _)]) (And.intro rfl (And.intro rfl (And.intro rfl (And.intro ⟨⟨_, rfl⟩, rfl⟩ ?_))))))
    refine Exists.intro _ (Exists.intro _ (Exists.intro _ (Exists.intro _ (Exists.intro _ (Exists.intro _ (Exists.intro _ (Exists.intro _ (Exists.intro _ (Exists.intro _ (Exists.intro _ (Exists.intro _ (Exists.intro _ (Exists.intro _ (Exists.intro _ (Exists.intro _ (Exists.intro _ (Exists.intro _ (Exists.intro _ (Exists.intro _ (Exists.intro _ (Exists.intro _ (And.intro rfl (And.intro rfl (And.intro (by first | omega | assumption | exact q_rg_up (by assumption) (by omega) | exact q_rg_up (q_rg_up (by assumption) (by omega)) (by omega) | exact q_rg_cpy (by assumption) (by assumption)) (?_)))))))))))))))))))))))))
    intro z12 x_msi_12 h12
    apply And.intro
    · intro h15
      first | replace h12 := dj1 h12 h15 | replace h12 := dj0 h12 h15
      apply And.intro
      · first | exact Or.inl rfl | exact Or.inr rfl | omega
      exact hQ _ _ _ _ (by first | omega | assumption | exact q_rg_up (by assumption) (by omega) | exact q_rg_up (q_rg_up (by assumption) (by omega)) (by omega) | exact q_rg_cpy (by assumption) (by assumption))
    · intro h15
      first | replace h12 := dj1 h12 h15 | replace h12 := dj0 h12 h15
      refine Exists.intro [0, 1, 2, 4, 5, 6, 7, 8, 9, 3, 10, 11, 12, 13, 14, 15, 16, 17, 18, 19, 20, 21, 22, 23, 24, 25] (Exists.intro [q2 0, q1 _] (Exists.intro ([.inr (12, [q1 _, q2 3, q2 4, q2 5, q2 6, q2 1, q2 2, q2 7, q2 8, q2 9, q1 _, q1 _, q1 _, q1 _, q1 _, q3 _, q1 _, q1 _, q1 _, q2 10, q2 11, q1 _, q1 _, q1 _, q1 _, q1 _, q1 _, q2 12, q1 _, q2 13, q2 14, q2 15, q2 16, q1 _, q2 17, q1 _, q2 18, q2 19, q2 20, q2 21, q2 22, q1 _, q2 23, q2 24, q2 25]), .inl (0, 16, .inl _), .inl (0, 600, .inl _)]) (And.intro rfl (And.intro rfl (And.intro rfl (And.intro ⟨⟨_, rfl⟩, rfl⟩ ?_))))))
      refine Exists.intro _ (Exists.intro _ (Exists.intro _ (Exists.intro _ (Exists.intro _ (Exists.intro _ (Exists.intro _ (Exists.intro _ (Exists.intro _ (Exists.intro _ (Exists.intro _ (Exists.intro _ (Exists.intro _ (Exists.intro _ (Exists.intro _ (Exists.intro _ (Exists.intro _ (Exists.intro _ (Exists.intro _ (Exists.intro _ (Exists.intro _ (Exists.intro _ (Exists.intro _ (And.intro rfl (And.intro rfl (And.intro (by first | omega | assumption | exact q_rg_up (by assumption) (by omega) | exact q_rg_up (q_rg_up (by assumption) (by omega)) (by omega) | exact q_rg_cpy (by assumption) (by assumption)) (And.intro (by first | omega | assumption | exact q_rg_up (by assumption) (by omega) | exact q_rg_up (q_rg_up (by assumption) (by omega)) (by omega) | exact q_rg_cpy (by assumption) (by assumption)) (?_)))))))))))))))))))))))))))
      intro z20 x_mbo_20 x_mpe_20 h20
      apply And.intro
      · intro h23
        first | replace h20 := dj1 h20 h23 | replace h20 := dj0 h20 h23
        exact ⟨_, _, _, _, _, rfl, rfl, rfl, rfl, (by first | omega | assumption | exact q_rg_up (by assumption) (by omega) | exact q_rg_up (q_rg_up (by assumption) (by omega)) (by omega) | exact q_rg_cpy (by assumption) (by assumption)), (by first | omega | assumption | exact q_rg_up (by assumption) (by omega) | exact q_rg_up (q_rg_up (by assumption) (by omega)) (by omega) | exact q_rg_cpy (by assumption) (by assumption)), (by first | omega | assumption | exact q_rg_up (by assumption) (by omega) | exact q_rg_up (q_rg_up (by assumption) (by omega)) (by omega) | exact q_rg_cpy (by assumption) (by assumption))⟩
      · intro h23
        first | replace h20 := dj1 h20 h23 | replace h20 := dj0 h20 h23
        apply And.intro
        · first | exact Or.inl rfl | exact Or.inr rfl | omega
        exact hQ _ _ _ _ (by first | omega | assumption | exact q_rg_up (by assumption) (by omega) | exact q_rg_up (q_rg_up (by assumption) (by omega)) (by omega) | exact q_rg_cpy (by assumption) (by assumption))

theorem dX12_maybe_0 : decode cX12_maybe 0 = .ok (.iload_n 2, 1) := by decide +kernel
theorem dX12_maybe_1 : decode cX12_maybe 1 = .ok (.ifCond .le 7, 3) := by decide +kernel
theorem dX12_maybe_4 : decode cX12_maybe 4 = .ok (.iconst 1, 1) := by decide +kernel
theorem dX12_maybe_5 : decode cX12_maybe 5 = .ok (.goto 4, 3) := by decide +kernel
theorem dX12_maybe_8 : decode cX12_maybe 8 = .ok (.iconst 0, 1) := by decide +kernel
theorem dX12_maybe_9 : decode cX12_maybe 9 = .ok (.istore_n 3, 1) := by decide +kernel
theorem dX12_maybe_10 : decode cX12_maybe 10 = .ok (.iconst 0, 1) := by decide +kernel
theorem dX12_maybe_11 : decode cX12_maybe 11 = .ok (.istore 4, 2) := by decide +kernel
theorem dX12_maybe_13 : decode cX12_maybe 13 = .ok (.iload 4, 2) := by decide +kernel
theorem dX12_maybe_15 : decode cX12_maybe 15 = .ok (.aload_n 0, 1) := by decide +kernel
theorem dX12_maybe_16 : decode cX12_maybe 16 = .ok (.invokevirtual 462, 3) := by decide +kernel
theorem dX12_maybe_19 : decode cX12_maybe 19 = .ok (.if_icmp .ge 41, 3) := by decide +kernel
theorem dX12_maybe_22 : decode cX12_maybe 22 = .ok (.iload_n 3, 1) := by decide +kernel
theorem dX12_maybe_23 : decode cX12_maybe 23 = .ok (.ifCond .eq 29, 3) := by decide +kernel
theorem dX12_maybe_26 : decode cX12_maybe 26 = .ok (.aload_n 0, 1) := by decide +kernel
theorem dX12_maybe_27 : decode cX12_maybe 27 = .ok (.iload 4, 2) := by decide +kernel
theorem dX12_maybe_29 : decode cX12_maybe 29 = .ok (.iconst 0, 1) := by decide +kernel
theorem dX12_maybe_30 : decode cX12_maybe 30 = .ok (.invokevirtual 465, 3) := by decide +kernel
theorem dX12_maybe_33 : decode cX12_maybe 33 = .ok (.iload_n 1, 1) := by decide +kernel
theorem dX12_maybe_34 : decode cX12_maybe 34 = .ok (.if_icmp .ne 14, 3) := by decide +kernel
theorem dX12_maybe_37 : decode cX12_maybe 37 = .ok (.aload_n 0, 1) := by decide +kernel
theorem dX12_maybe_38 : decode cX12_maybe 38 = .ok (.iload 4, 2) := by decide +kernel
theorem dX12_maybe_40 : decode cX12_maybe 40 = .ok (.iconst 1, 1) := by decide +kernel
theorem dX12_maybe_41 : decode cX12_maybe 41 = .ok (.invokevirtual 465, 3) := by decide +kernel
theorem dX12_maybe_44 : decode cX12_maybe 44 = .ok (.iload_n 2, 1) := by decide +kernel
theorem dX12_maybe_45 : decode cX12_maybe 45 = .ok (.if_icmp .ne 7, 3) := by decide +kernel
theorem dX12_maybe_48 : decode cX12_maybe 48 = .ok (.iconst 1, 1) := by decide +kernel
theorem dX12_maybe_49 : decode cX12_maybe 49 = .ok (.goto 4, 3) := by decide +kernel
theorem dX12_maybe_52 : decode cX12_maybe 52 = .ok (.iconst 0, 1) := by decide +kernel
theorem dX12_maybe_53 : decode cX12_maybe 53 = .ok (.istore_n 3, 1) := by decide +kernel
theorem dX12_maybe_54 : decode cX12_maybe 54 = .ok (.iinc 4 1, 3) := by decide +kernel
theorem dX12_maybe_57 : decode cX12_maybe 57 = .ok (.goto (-44), 3) := by decide +kernel
theorem dX12_maybe_60 : decode cX12_maybe 60 = .ok (.iload_n 3, 1) := by decide +kernel
theorem dX12_maybe_61 : decode cX12_maybe 61 = .ok (.ireturn, 1) := by decide +kernel
def is_X12_maybe : Nat → List Nat := fun d => if d = 13 then [0, 1, 2, 3, 4] else []
set_option maxRecDepth 100000 in
def b_X12_maybe_53 (J : Nat → List qV → List qV → qW → Prop) (Q : qR) : qK := x_istore 3 (x_iinc 4 1 (x_cut [0, 1, 2, 3, 4] (J 13)))
set_option maxRecDepth 100000 in
theorem s_X12_maybe_53 {p : Program} {l : Launch} {e : Env} {R : Room} {s : State} {m : MethodId} {args : Array Value} {below : List Frame} {meth : Method} {c : Code} {nW : Nat} {dC : Nat → ClassId} {dI : Nat → Nat → Nat} {k : Nat → ClassId} {g : Nat → Nat} {A : Nat → Prop} {J : Nat → List qV → List qV → qW → Prop} {Q : qR} (X : q_X p R s m args meth c cX12_maybe 5 nW 1 22 RX12 (some .boolean) dC dI k g A) (hJ : ∀ d : Nat, q_Sd p l e R s m args below meth c 5 nW dC dI k g A (MQ below (q_post (dC, dI) k g nW Q A) args s 0 0 A) d (x_cut (is_X12_maybe d) (J d))) : q_Sd p l e R s m args below meth c 5 nW dC dI k g A (MQ below (q_post (dC, dI) k g nW Q A) args s 0 0 A) 53 (b_X12_maybe_53 J Q) := by
  unfold b_X12_maybe_53
  refine s_istore_n X rfl (by decide) dX12_maybe_53 ?_
  refine s_iinc X (by decide) dX12_maybe_54 ?_
  refine s_goto X (tgt := 13) dX12_maybe_57 (by decide) ?_
  exact hJ 13
set_option maxRecDepth 100000 in
def b_X12_maybe_52 (J : Nat → List qV → List qV → qW → Prop) (Q : qR) : qK := x_int 0 (b_X12_maybe_53 J Q)
set_option maxRecDepth 100000 in
theorem s_X12_maybe_52 {p : Program} {l : Launch} {e : Env} {R : Room} {s : State} {m : MethodId} {args : Array Value} {below : List Frame} {meth : Method} {c : Code} {nW : Nat} {dC : Nat → ClassId} {dI : Nat → Nat → Nat} {k : Nat → ClassId} {g : Nat → Nat} {A : Nat → Prop} {J : Nat → List qV → List qV → qW → Prop} {Q : qR} (X : q_X p R s m args meth c cX12_maybe 5 nW 1 22 RX12 (some .boolean) dC dI k g A) (hJ : ∀ d : Nat, q_Sd p l e R s m args below meth c 5 nW dC dI k g A (MQ below (q_post (dC, dI) k g nW Q A) args s 0 0 A) d (x_cut (is_X12_maybe d) (J d))) : q_Sd p l e R s m args below meth c 5 nW dC dI k g A (MQ below (q_post (dC, dI) k g nW Q A) args s 0 0 A) 52 (b_X12_maybe_52 J Q) := by
  unfold b_X12_maybe_52
  refine s_iconst X ⟨by decide, by decide⟩ dX12_maybe_52 ?_
  exact s_X12_maybe_53 X hJ
set_option maxRecDepth 100000 in
def b_X12_maybe_48 (J : Nat → List qV → List qV → qW → Prop) (Q : qR) : qK := x_int 1 (b_X12_maybe_53 J Q)
set_option maxRecDepth 100000 in
theorem s_X12_maybe_48 {p : Program} {l : Launch} {e : Env} {R : Room} {s : State} {m : MethodId} {args : Array Value} {below : List Frame} {meth : Method} {c : Code} {nW : Nat} {dC : Nat → ClassId} {dI : Nat → Nat → Nat} {k : Nat → ClassId} {g : Nat → Nat} {A : Nat → Prop} {J : Nat → List qV → List qV → qW → Prop} {Q : qR} (X : q_X p R s m args meth c cX12_maybe 5 nW 1 22 RX12 (some .boolean) dC dI k g A) (hJ : ∀ d : Nat, q_Sd p l e R s m args below meth c 5 nW dC dI k g A (MQ below (q_post (dC, dI) k g nW Q A) args s 0 0 A) d (x_cut (is_X12_maybe d) (J d))) : q_Sd p l e R s m args below meth c 5 nW dC dI k g A (MQ below (q_post (dC, dI) k g nW Q A) args s 0 0 A) 48 (b_X12_maybe_48 J Q) := by
  unfold b_X12_maybe_48
  refine s_iconst X ⟨by decide, by decide⟩ dX12_maybe_48 ?_
  refine s_goto X (tgt := 53) dX12_maybe_49 (by decide) ?_
  exact s_X12_maybe_53 X hJ
set_option maxRecDepth 100000 in
def b_X12_maybe_13 (J : Nat → List qV → List qV → qW → Prop) (Q : qR) : qK := x_iload 4 (x_aload 0 (x_callr (some 12) 1 spr_X12_facts (x_icmp_ge (x_iload 3 (x_zret Q)) (x_iload 3 (x_if_eq (b_X12_maybe_52 J Q) (x_aload 0 (x_iload 4 (x_int 0 (x_callr (some 12) 3 spr_X12_factOf (x_iload 1 (x_icmp_ne (b_X12_maybe_48 J Q) (x_aload 0 (x_iload 4 (x_int 1 (x_callr (some 12) 3 spr_X12_factOf (x_iload 2 (x_icmp_ne (b_X12_maybe_52 J Q) (b_X12_maybe_48 J Q))))))))))))))))))
set_option maxRecDepth 100000 in
theorem s_X12_maybe_13 {p : Program} {l : Launch} {e : Env} {R : Room} {s : State} {m : MethodId} {args : Array Value} {below : List Frame} {meth : Method} {c : Code} {nW : Nat} {dC : Nat → ClassId} {dI : Nat → Nat → Nat} {k : Nat → ClassId} {g : Nat → Nat} {A : Nat → Prop} {J : Nat → List qV → List qV → qW → Prop} {Q : qR} (X : q_X p R s m args meth c cX12_maybe 5 nW 1 22 RX12 (some .boolean) dC dI k g A) (hJ : ∀ d : Nat, q_Sd p l e R s m args below meth c 5 nW dC dI k g A (MQ below (q_post (dC, dI) k g nW Q A) args s 0 0 A) d (x_cut (is_X12_maybe d) (J d))) : q_Sd p l e R s m args below meth c 5 nW dC dI k g A (MQ below (q_post (dC, dI) k g nW Q A) args s 0 0 A) 13 (b_X12_maybe_13 J Q) := by
  unfold b_X12_maybe_13
  refine s_iload X dX12_maybe_13 ?_
  refine s_aload_n X rfl dX12_maybe_15 ?_
  refine s_callVr X (m_X12_facts l) tw_1378 tw_1379 tw_1567 tw_134 tw_1380 rfl (by decide +kernel) ⟨by decide, by decide⟩ dX12_maybe_16 ?_
  refine s_icmp_ge X (tgt := 60) dX12_maybe_19 (by decide) ?_ ?_
  · refine s_iload_n X rfl dX12_maybe_60 ?_
    exact s_zret X dX12_maybe_61
  · refine s_iload_n X rfl dX12_maybe_22 ?_
    refine s_if_eq X (tgt := 52) dX12_maybe_23 (by decide) ?_ ?_
    · exact s_X12_maybe_52 X hJ
    · refine s_aload_n X rfl dX12_maybe_26 ?_
      refine s_iload X dX12_maybe_27 ?_
      refine s_iconst X ⟨by decide, by decide⟩ dX12_maybe_29 ?_
      refine s_callVr X (m_X12_factOf l) tw_1381 tw_1382 tw_1566 tw_134 tw_1383 rfl (by decide +kernel) ⟨by decide, by decide⟩ dX12_maybe_30 ?_
      refine s_iload_n X rfl dX12_maybe_33 ?_
      refine s_icmp_ne X (tgt := 48) dX12_maybe_34 (by decide) ?_ ?_
      · exact s_X12_maybe_48 X hJ
      · refine s_aload_n X rfl dX12_maybe_37 ?_
        refine s_iload X dX12_maybe_38 ?_
        refine s_iconst X ⟨by decide, by decide⟩ dX12_maybe_40 ?_
        refine s_callVr X (m_X12_factOf l) tw_1381 tw_1382 tw_1566 tw_134 tw_1383 rfl (by decide +kernel) ⟨by decide, by decide⟩ dX12_maybe_41 ?_
        refine s_iload_n X rfl dX12_maybe_44 ?_
        refine s_icmp_ne X (tgt := 52) dX12_maybe_45 (by decide) ?_ ?_
        · exact s_X12_maybe_52 X hJ
        · exact s_X12_maybe_48 X hJ
set_option maxRecDepth 100000 in
def b_X12_maybe_9 (J : Nat → List qV → List qV → qW → Prop) (Q : qR) : qK := x_istore 3 (x_int 0 (x_istore 4 (x_cut [0, 1, 2, 3, 4] (J 13))))
set_option maxRecDepth 100000 in
theorem s_X12_maybe_9 {p : Program} {l : Launch} {e : Env} {R : Room} {s : State} {m : MethodId} {args : Array Value} {below : List Frame} {meth : Method} {c : Code} {nW : Nat} {dC : Nat → ClassId} {dI : Nat → Nat → Nat} {k : Nat → ClassId} {g : Nat → Nat} {A : Nat → Prop} {J : Nat → List qV → List qV → qW → Prop} {Q : qR} (X : q_X p R s m args meth c cX12_maybe 5 nW 1 22 RX12 (some .boolean) dC dI k g A) (hJ : ∀ d : Nat, q_Sd p l e R s m args below meth c 5 nW dC dI k g A (MQ below (q_post (dC, dI) k g nW Q A) args s 0 0 A) d (x_cut (is_X12_maybe d) (J d))) : q_Sd p l e R s m args below meth c 5 nW dC dI k g A (MQ below (q_post (dC, dI) k g nW Q A) args s 0 0 A) 9 (b_X12_maybe_9 J Q) := by
  unfold b_X12_maybe_9
  refine s_istore_n X rfl (by decide) dX12_maybe_9 ?_
  refine s_iconst X ⟨by decide, by decide⟩ dX12_maybe_10 ?_
  refine s_istore X (by decide) dX12_maybe_11 ?_
  exact hJ 13
set_option maxRecDepth 100000 in
def b_X12_maybe_0 (J : Nat → List qV → List qV → qW → Prop) (Q : qR) : qK := x_iload 2 (x_if_le (x_int 0 (b_X12_maybe_9 J Q)) (x_int 1 (b_X12_maybe_9 J Q)))
set_option maxRecDepth 100000 in
theorem s_X12_maybe_0 {p : Program} {l : Launch} {e : Env} {R : Room} {s : State} {m : MethodId} {args : Array Value} {below : List Frame} {meth : Method} {c : Code} {nW : Nat} {dC : Nat → ClassId} {dI : Nat → Nat → Nat} {k : Nat → ClassId} {g : Nat → Nat} {A : Nat → Prop} {J : Nat → List qV → List qV → qW → Prop} {Q : qR} (X : q_X p R s m args meth c cX12_maybe 5 nW 1 22 RX12 (some .boolean) dC dI k g A) (hJ : ∀ d : Nat, q_Sd p l e R s m args below meth c 5 nW dC dI k g A (MQ below (q_post (dC, dI) k g nW Q A) args s 0 0 A) d (x_cut (is_X12_maybe d) (J d))) : q_Sd p l e R s m args below meth c 5 nW dC dI k g A (MQ below (q_post (dC, dI) k g nW Q A) args s 0 0 A) 0 (b_X12_maybe_0 J Q) := by
  unfold b_X12_maybe_0
  refine s_iload_n X rfl dX12_maybe_0 ?_
  refine s_if_le X (tgt := 8) dX12_maybe_1 (by decide) ?_ ?_
  · refine s_iconst X ⟨by decide, by decide⟩ dX12_maybe_8 ?_
    exact s_X12_maybe_9 X hJ
  · refine s_iconst X ⟨by decide, by decide⟩ dX12_maybe_4 ?_
    refine s_goto X (tgt := 9) dX12_maybe_5 (by decide) ?_
    exact s_X12_maybe_9 X hJ

def spr_X12_maybe : List qV → qW → (Option qV → Prop) → Prop := fun av w Q => ∃ (mco : Int) (mre : Int) (mle : Int) (mbe : Int) (mso : Int) (mva : Int) (mwo : Int) (mwr : Int) (mlf : Int) (mlp : Int) (mfp : Int) (mfd : Int) (mgo : Int) (mbo : Int) (mpe : Int) (mye : Int) (mpr : Int) (mld : Int) (msi : Int) (mse : Int) (ss : Nat → Int) (a : Int) (b : Int), av = [q2 0, q1 a, q1 b] ∧ w = [.inr (12, [q1 mco, q2 2, q2 3, q2 4, q2 5, q2 6, q2 7, q2 8, q2 9, q2 1, q1 mre, q1 mle, q1 mbe, q1 mso, q1 mva, q3 mwo, q1 mwr, q1 mlf, q1 mlp, q2 10, q2 11, q1 mfp, q1 mfd, q1 mgo, q1 mbo, q1 mpe, q1 mye, q2 12, q1 mpr, q2 13, q2 14, q2 15, q2 16, q1 mld, q2 17, q1 msi, q2 18, q2 19, q2 20, q2 21, q2 22, q1 mse, q2 23, q2 24, q2 25]), .inl (0, 168, .inl ss)] ∧ (SI ss) ∧ (0 ≤ msi ∧ msi ≤ 1) ∧ (∀ (r : Int) , (r = 0 ∨ r = 1) → Q (some (q1 r)))
def sp_X12_maybe : qS := fun av w Q => spr_X12_maybe av w (fun r => Q r w)
def I_X12_maybe (mco : Int) (mre : Int) (mle : Int) (mbe : Int) (mso : Int) (mva : Int) (mwo : Int) (mwr : Int) (mlf : Int) (mlp : Int) (mfp : Int) (mfd : Int) (mgo : Int) (mbo : Int) (mpe : Int) (mye : Int) (mpr : Int) (mld : Int) (msi : Int) (mse : Int) (ss : Nat → Int) (a : Int) (b : Int) : Nat → Nat → List qV → List qV → qW → Prop := fun dz mz vz sz wz => if dz = 13 then (∃ (v3 : Int) (v4 : Int), vz = [q2 0, q1 a, q1 b, q1 v3, q1 v4] ∧ sz = [] ∧ wz = [.inr (12, [q1 mco, q2 2, q2 3, q2 4, q2 5, q2 6, q2 7, q2 8, q2 9, q2 1, q1 mre, q1 mle, q1 mbe, q1 mso, q1 mva, q3 mwo, q1 mwr, q1 mlf, q1 mlp, q2 10, q2 11, q1 mfp, q1 mfd, q1 mgo, q1 mbo, q1 mpe, q1 mye, q2 12, q1 mpr, q2 13, q2 14, q2 15, q2 16, q1 mld, q2 17, q1 msi, q2 18, q2 19, q2 20, q2 21, q2 22, q1 mse, q2 23, q2 24, q2 25]), .inl (0, 168, .inl ss)] ∧ mz = (10 - v4).toNat ∧ (0 ≤ v4 ∧ v4 ≤ 10) ∧ (v3 = 0 ∨ v3 = 1)) else False
set_option maxHeartbeats 4000000 in
set_option maxRecDepth 100000 in
theorem m_X12_maybe (l : Launch) : q_M l yX12_maybe cX12_maybe 5 (some .boolean) 1 22 sp_X12_maybe := by
  refine q_meth (by decide) (fun av w Q h => by obtain ⟨mco, mre, mle, mbe, mso, mva, mwo, mwr, mlf, mlp, mfp, mfd, mgo, mbo, mpe, mye, mpr, mld, msi, mse, ss, a, b, rfl, rfl, hsi, hsg, hQ⟩ := h; exact Nat.le_of_ble_eq_true rfl) ?_
  intro p e R s m args below meth c dC dI k g A av w Q hsp oka okw X
  obtain ⟨mco, mre, mle, mbe, mso, mva, mwo, mwr, mlf, mlp, mfp, mfd, mgo, mbo, mpe, mye, mpr, mld, msi, mse, ss, a, b, rfl, rfl, hsi, hsg, hQ⟩ := hsp
  have o_a : -2147483648 ≤ a ∧ a ≤ 2147483647 := oka _ (List.mem_of_getElem? (i := 1) rfl)
  have o_b : -2147483648 ≤ b ∧ b ≤ 2147483647 := oka _ (List.mem_of_getElem? (i := 2) rfl)
  refine s_mono (s_X12_maybe_0 X (J := fun dz vz sz wz => ∃ mz, I_X12_maybe mco mre mle mbe mso mva mwo mwr mlf mlp mfp mfd mgo mbo mpe mye mpr mld msi mse ss a b dz mz vz sz wz) (q_loopn (I_X12_maybe mco mre mle mbe mso mva mwo mwr mlf mlp mfp mfd mgo mbo mpe mye mpr mld msi mse ss a b) (fun dz J => if dz = 13 then b_X12_maybe_13 J Q else q_F) ?hs ?hv)) ?_
  case hs =>
    intro d J hJ
    by_cases h13 : d = 13
    · subst h13; exact s_X12_maybe_13 X hJ
    simp only [h13, if_false]
    exact s_F
  case hv =>
    intro dz mz vz sz wz hI okv oks okw hlen
    by_cases h13 : dz = 13
    · subst h13
      obtain ⟨v3, v4, rfl, rfl, rfl, hn, hp, hb⟩ := hI
      refine Exists.intro [0, 1, 2, 3, 4, 5, 6, 7, 8, 9, 10, 11, 12, 13, 14, 15, 16, 17, 18, 19, 20, 21, 22, 23, 24, 25] (Exists.intro [q2 0] (Exists.intro ([.inr (12, [q1 _, q2 2, q2 3, q2 4, q2 5, q2 6, q2 7, q2 8, q2 9, q2 1, q1 _, q1 _, q1 _, q1 _, q1 _, q3 _, q1 _, q1 _, q1 _, q2 10, q2 11, q1 _, q1 _, q1 _, q1 _, q1 _, q1 _, q2 12, q1 _, q2 13, q2 14, q2 15, q2 16, q1 _, q2 17, q1 _, q2 18, q2 19, q2 20, q2 21, q2 22, q1 _, q2 23, q2 24, q2 25]), .inl (0, 168, .inl _)]) (And.intro rfl (And.intro rfl (And.intro rfl (And.intro ⟨⟨_, rfl⟩, rfl⟩ ?_))))))
      refine Exists.intro _ (Exists.intro _ (Exists.intro _ (Exists.intro _ (Exists.intro _ (Exists.intro _ (Exists.intro _ (Exists.intro _ (Exists.intro _ (Exists.intro _ (Exists.intro _ (Exists.intro _ (Exists.intro _ (Exists.intro _ (Exists.intro _ (Exists.intro _ (Exists.intro _ (Exists.intro _ (Exists.intro _ (Exists.intro _ (Exists.intro _ (And.intro rfl (And.intro rfl (And.intro (by first | omega | assumption | exact q_rg_up (by assumption) (by omega) | exact q_rg_up (q_rg_up (by assumption) (by omega)) (by omega) | exact q_rg_cpy (by assumption) (by assumption)) (And.intro (by first | omega | assumption | exact q_rg_up (by assumption) (by omega) | exact q_rg_up (q_rg_up (by assumption) (by omega)) (by omega) | exact q_rg_cpy (by assumption) (by assumption)) (?_)))))))))))))))))))))))))
      intro z16 h16
      apply And.intro
      · intro h19
        apply And.intro
        · first | exact Or.inl rfl | exact Or.inr rfl | omega
        exact hQ _ (by first | omega | assumption | exact q_rg_up (by assumption) (by omega) | exact q_rg_up (q_rg_up (by assumption) (by omega)) (by omega) | exact q_rg_cpy (by assumption) (by assumption))
      · intro h19
        apply And.intro
        · intro h23
          intro z54 h54
          first | replace h54 := e_add h54 (by omega) | replace h54 := e_rng h54
          exact ⟨_, ⟨_, _, rfl, rfl, rfl, rfl, (by first | omega | assumption | exact q_rg_up (by assumption) (by omega) | exact q_rg_up (q_rg_up (by assumption) (by omega)) (by omega) | exact q_rg_cpy (by assumption) (by assumption)), (by first | omega | assumption | exact q_rg_up (by assumption) (by omega) | exact q_rg_up (q_rg_up (by assumption) (by omega)) (by omega) | exact q_rg_cpy (by assumption) (by assumption))⟩, by omega⟩
        · intro h23
          refine Exists.intro [0, 1, 2, 3, 4, 5, 6, 7, 8, 9, 10, 11, 12, 13, 14, 15, 16, 17, 18, 19, 20, 21, 22, 23, 24, 25] (Exists.intro [q2 0, q1 _, q1 _] (Exists.intro ([.inr (12, [q1 _, q2 2, q2 3, q2 4, q2 5, q2 6, q2 7, q2 8, q2 9, q2 1, q1 _, q1 _, q1 _, q1 _, q1 _, q3 _, q1 _, q1 _, q1 _, q2 10, q2 11, q1 _, q1 _, q1 _, q1 _, q1 _, q1 _, q2 12, q1 _, q2 13, q2 14, q2 15, q2 16, q1 _, q2 17, q1 _, q2 18, q2 19, q2 20, q2 21, q2 22, q1 _, q2 23, q2 24, q2 25]), .inl (0, 168, .inl _)]) (And.intro rfl (And.intro rfl (And.intro rfl (And.intro ⟨⟨_, rfl⟩, rfl⟩ ?_))))))
          refine Exists.intro _ (Exists.intro _ (Exists.intro _ (Exists.intro _ (Exists.intro _ (Exists.intro _ (Exists.intro _ (Exists.intro _ (Exists.intro _ (Exists.intro _ (Exists.intro _ (Exists.intro _ (Exists.intro _ (Exists.intro _ (Exists.intro _ (Exists.intro _ (Exists.intro _ (Exists.intro _ (Exists.intro _ (Exists.intro _ (Exists.intro _ (Exists.intro _ (Exists.intro _ (And.intro rfl (And.intro rfl (And.intro (by first | omega | assumption | exact q_rg_up (by assumption) (by omega) | exact q_rg_up (q_rg_up (by assumption) (by omega)) (by omega) | exact q_rg_cpy (by assumption) (by assumption)) (And.intro (by first | omega | assumption | exact q_rg_up (by assumption) (by omega) | exact q_rg_up (q_rg_up (by assumption) (by omega)) (by omega) | exact q_rg_cpy (by assumption) (by assumption)) (?_)))))))))))))))))))))))))))
          intro z30
          apply And.intro
          · intro h34
            intro z54 h54
            first | replace h54 := e_add h54 (by omega) | replace h54 := e_rng h54
            exact ⟨_, ⟨_, _, rfl, rfl, rfl, rfl, (by first | omega | assumption | exact q_rg_up (by assumption) (by omega) | exact q_rg_up (q_rg_up (by assumption) (by omega)) (by omega) | exact q_rg_cpy (by assumption) (by assumption)), (by first | omega | assumption | exact q_rg_up (by assumption) (by omega) | exact q_rg_up (q_rg_up (by assumption) (by omega)) (by omega) | exact q_rg_cpy (by assumption) (by assumption))⟩, by omega⟩
          · intro h34
            refine Exists.intro [0, 1, 2, 3, 4, 5, 6, 7, 8, 9, 10, 11, 12, 13, 14, 15, 16, 17, 18, 19, 20, 21, 22, 23, 24, 25] (Exists.intro [q2 0, q1 _, q1 _] (Exists.intro ([.inr (12, [q1 _, q2 2, q2 3, q2 4, q2 5, q2 6, q2 7, q2 8, q2 9, q2 1, q1 _, q1 _, q1 _, q1 _, q1 _, q3 _, q1 _, q1 _, q1 _, q2 10, q2 11, q1 _, q1 _, q1 _, q1 _, q1 _, q1 _, q2 12, q1 _, q2 13, q2 14, q2 15, q2 16, q1 _, q2 17, q1 _, q2 18, q2 19, q2 20, q2 21, q2 22, q1 _, q2 23, q2 24, q2 25]), .inl (0, 168, .inl _)]) (And.intro rfl (And.intro rfl (And.intro rfl (And.intro ⟨⟨_, rfl⟩, rfl⟩ ?_))))))
            refine Exists.intro _ (Exists.intro _ (Exists.intro _ (Exists.intro _ (Exists.intro _ (Exists.intro _ (Exists.intro _ (Exists.intro _ (Exists.intro _ (Exists.intro _ (Exists.intro _ (Exists.intro _ (Exists.intro _ (Exists.intro _ (Exists.intro _ (Exists.intro _ (Exists.intro _ (Exists.intro _ (Exists.intro _ (Exists.intro _ (Exists.intro _ (Exists.intro _ (Exists.intro _ (And.intro rfl (And.intro rfl (And.intro (by first | omega | assumption | exact q_rg_up (by assumption) (by omega) | exact q_rg_up (q_rg_up (by assumption) (by omega)) (by omega) | exact q_rg_cpy (by assumption) (by assumption)) (And.intro (by first | omega | assumption | exact q_rg_up (by assumption) (by omega) | exact q_rg_up (q_rg_up (by assumption) (by omega)) (by omega) | exact q_rg_cpy (by assumption) (by assumption)) (?_)))))))))))))))))))))))))))
            intro z41
            apply And.intro
            · intro h45
              intro z54 h54
              first | replace h54 := e_add h54 (by omega) | replace h54 := e_rng h54
              exact ⟨_, ⟨_, _, rfl, rfl, rfl, rfl, (by first | omega | assumption | exact q_rg_up (by assumption) (by omega) | exact q_rg_up (q_rg_up (by assumption) (by omega)) (by omega) | exact q_rg_cpy (by assumption) (by assumption)), (by first | omega | assumption | exact q_rg_up (by assumption) (by omega) | exact q_rg_up (q_rg_up (by assumption) (by omega)) (by omega) | exact q_rg_cpy (by assumption) (by assumption))⟩, by omega⟩
            · intro h45
              intro z54 h54
              first | replace h54 := e_add h54 (by omega) | replace h54 := e_rng h54
              exact ⟨_, ⟨_, _, rfl, rfl, rfl, rfl, (by first | omega | assumption | exact q_rg_up (by assumption) (by omega) | exact q_rg_up (q_rg_up (by assumption) (by omega)) (by omega) | exact q_rg_cpy (by assumption) (by assumption)), (by first | omega | assumption | exact q_rg_up (by assumption) (by omega) | exact q_rg_up (q_rg_up (by assumption) (by omega)) (by omega) | exact q_rg_cpy (by assumption) (by assumption))⟩, by omega⟩
    simp only [I_X12_maybe, h13, if_false] at hI
  rintro lv st w' ⟨rfl, rfl, rfl⟩
  apply And.intro
  · intro h1
    exact ⟨_, _, _, rfl, rfl, rfl, rfl, (by first | omega | assumption | exact q_rg_up (by assumption) (by omega) | exact q_rg_up (q_rg_up (by assumption) (by omega)) (by omega) | exact q_rg_cpy (by assumption) (by assumption)), (by first | omega | assumption | exact q_rg_up (by assumption) (by omega) | exact q_rg_up (q_rg_up (by assumption) (by omega)) (by omega) | exact q_rg_cpy (by assumption) (by assumption))⟩
  · intro h1
    exact ⟨_, _, _, rfl, rfl, rfl, rfl, (by first | omega | assumption | exact q_rg_up (by assumption) (by omega) | exact q_rg_up (q_rg_up (by assumption) (by omega)) (by omega) | exact q_rg_cpy (by assumption) (by assumption)), (by first | omega | assumption | exact q_rg_up (by assumption) (by omega) | exact q_rg_up (q_rg_up (by assumption) (by omega)) (by omega) | exact q_rg_cpy (by assumption) (by assumption))⟩

theorem dX12_findOwn_0 : decode cX12_findOwn 0 = .ok (.iconst 0, 1) := by decide +kernel
theorem dX12_findOwn_1 : decode cX12_findOwn 1 = .ok (.istore_n 2, 1) := by decide +kernel
theorem dX12_findOwn_2 : decode cX12_findOwn 2 = .ok (.iload_n 2, 1) := by decide +kernel
theorem dX12_findOwn_3 : decode cX12_findOwn 3 = .ok (.bipush 99, 2) := by decide +kernel
theorem dX12_findOwn_5 : decode cX12_findOwn 5 = .ok (.if_icmp .gt 24, 3) := by decide +kernel
theorem dX12_findOwn_8 : decode cX12_findOwn 8 = .ok (.aload_n 0, 1) := by decide +kernel
theorem dX12_findOwn_9 : decode cX12_findOwn 9 = .ok (.getfield 72, 3) := by decide +kernel
theorem dX12_findOwn_12 : decode cX12_findOwn 12 = .ok (.iload_n 2, 1) := by decide +kernel
theorem dX12_findOwn_13 : decode cX12_findOwn 13 = .ok (.iload_n 2, 1) := by decide +kernel
theorem dX12_findOwn_14 : decode cX12_findOwn 14 = .ok (.ifCond .ne 7, 3) := by decide +kernel
theorem dX12_findOwn_17 : decode cX12_findOwn 17 = .ok (.lconst 1, 1) := by decide +kernel
theorem dX12_findOwn_18 : decode cX12_findOwn 18 = .ok (.goto 4, 3) := by decide +kernel
theorem dX12_findOwn_21 : decode cX12_findOwn 21 = .ok (.lconst 0, 1) := by decide +kernel
theorem dX12_findOwn_22 : decode cX12_findOwn 22 = .ok (.lastore, 1) := by decide +kernel
theorem dX12_findOwn_23 : decode cX12_findOwn 23 = .ok (.iinc 2 1, 3) := by decide +kernel
theorem dX12_findOwn_26 : decode cX12_findOwn 26 = .ok (.goto (-24), 3) := by decide +kernel
theorem dX12_findOwn_29 : decode cX12_findOwn 29 = .ok (.iconst 0, 1) := by decide +kernel
theorem dX12_findOwn_30 : decode cX12_findOwn 30 = .ok (.istore_n 2, 1) := by decide +kernel
theorem dX12_findOwn_31 : decode cX12_findOwn 31 = .ok (.iload_n 2, 1) := by decide +kernel
theorem dX12_findOwn_32 : decode cX12_findOwn 32 = .ok (.bipush 8, 2) := by decide +kernel
theorem dX12_findOwn_34 : decode cX12_findOwn 34 = .ok (.if_icmp .gt 178, 3) := by decide +kernel
theorem dX12_findOwn_37 : decode cX12_findOwn 37 = .ok (.lconst 0, 1) := by decide +kernel
theorem dX12_findOwn_38 : decode cX12_findOwn 38 = .ok (.lstore_n 3, 1) := by decide +kernel
theorem dX12_findOwn_39 : decode cX12_findOwn 39 = .ok (.iconst 0, 1) := by decide +kernel
theorem dX12_findOwn_40 : decode cX12_findOwn 40 = .ok (.istore 5, 2) := by decide +kernel
theorem dX12_findOwn_42 : decode cX12_findOwn 42 = .ok (.iload 5, 2) := by decide +kernel
theorem dX12_findOwn_44 : decode cX12_findOwn 44 = .ok (.bipush 99, 2) := by decide +kernel
theorem dX12_findOwn_46 : decode cX12_findOwn 46 = .ok (.if_icmp .gt 49, 3) := by decide +kernel
theorem dX12_findOwn_49 : decode cX12_findOwn 49 = .ok (.lload_n 3, 1) := by decide +kernel
theorem dX12_findOwn_50 : decode cX12_findOwn 50 = .ok (.aload_n 0, 1) := by decide +kernel
theorem dX12_findOwn_51 : decode cX12_findOwn 51 = .ok (.iload_n 1, 1) := by decide +kernel
theorem dX12_findOwn_52 : decode cX12_findOwn 52 = .ok (.aload_n 0, 1) := by decide +kernel
theorem dX12_findOwn_53 : decode cX12_findOwn 53 = .ok (.iconst 5, 1) := by decide +kernel
theorem dX12_findOwn_54 : decode cX12_findOwn 54 = .ok (.iload_n 1, 1) := by decide +kernel
theorem dX12_findOwn_55 : decode cX12_findOwn 55 = .ok (.iadd, 1) := by decide +kernel
theorem dX12_findOwn_56 : decode cX12_findOwn 56 = .ok (.invokevirtual 299, 3) := by decide +kernel
theorem dX12_findOwn_59 : decode cX12_findOwn 59 = .ok (.iload 5, 2) := by decide +kernel
theorem dX12_findOwn_61 : decode cX12_findOwn 61 = .ok (.isub, 1) := by decide +kernel
theorem dX12_findOwn_62 : decode cX12_findOwn 62 = .ok (.invokevirtual 468, 3) := by decide +kernel
theorem dX12_findOwn_65 : decode cX12_findOwn 65 = .ok (.ifCond .eq 13, 3) := by decide +kernel
theorem dX12_findOwn_68 : decode cX12_findOwn 68 = .ok (.aload_n 0, 1) := by decide +kernel
theorem dX12_findOwn_69 : decode cX12_findOwn 69 = .ok (.getfield 72, 3) := by decide +kernel
theorem dX12_findOwn_72 : decode cX12_findOwn 72 = .ok (.iload 5, 2) := by decide +kernel
theorem dX12_findOwn_74 : decode cX12_findOwn 74 = .ok (.laload, 1) := by decide +kernel
theorem dX12_findOwn_75 : decode cX12_findOwn 75 = .ok (.goto 4, 3) := by decide +kernel
theorem dX12_findOwn_78 : decode cX12_findOwn 78 = .ok (.lconst 0, 1) := by decide +kernel
theorem dX12_findOwn_79 : decode cX12_findOwn 79 = .ok (.ladd, 1) := by decide +kernel
theorem dX12_findOwn_80 : decode cX12_findOwn 80 = .ok (.lstore_n 3, 1) := by decide +kernel
theorem dX12_findOwn_81 : decode cX12_findOwn 81 = .ok (.aload_n 0, 1) := by decide +kernel
theorem dX12_findOwn_82 : decode cX12_findOwn 82 = .ok (.getfield 75, 3) := by decide +kernel
theorem dX12_findOwn_85 : decode cX12_findOwn 85 = .ok (.iload 5, 2) := by decide +kernel
theorem dX12_findOwn_87 : decode cX12_findOwn 87 = .ok (.lconst 0, 1) := by decide +kernel
theorem dX12_findOwn_88 : decode cX12_findOwn 88 = .ok (.lastore, 1) := by decide +kernel
theorem dX12_findOwn_89 : decode cX12_findOwn 89 = .ok (.iinc 5 1, 3) := by decide +kernel
theorem dX12_findOwn_92 : decode cX12_findOwn 92 = .ok (.goto (-50), 3) := by decide +kernel
theorem dX12_findOwn_95 : decode cX12_findOwn 95 = .ok (.aload_n 0, 1) := by decide +kernel
theorem dX12_findOwn_96 : decode cX12_findOwn 96 = .ok (.getfield 62, 3) := by decide +kernel
theorem dX12_findOwn_99 : decode cX12_findOwn 99 = .ok (.bipush 9, 2) := by decide +kernel
theorem dX12_findOwn_101 : decode cX12_findOwn 101 = .ok (.iload_n 1, 1) := by decide +kernel
theorem dX12_findOwn_102 : decode cX12_findOwn 102 = .ok (.imul, 1) := by decide +kernel
theorem dX12_findOwn_103 : decode cX12_findOwn 103 = .ok (.iload_n 2, 1) := by decide +kernel
theorem dX12_findOwn_104 : decode cX12_findOwn 104 = .ok (.iadd, 1) := by decide +kernel
theorem dX12_findOwn_105 : decode cX12_findOwn 105 = .ok (.lload_n 3, 1) := by decide +kernel
theorem dX12_findOwn_106 : decode cX12_findOwn 106 = .ok (.lastore, 1) := by decide +kernel
theorem dX12_findOwn_107 : decode cX12_findOwn 107 = .ok (.iconst 0, 1) := by decide +kernel
theorem dX12_findOwn_108 : decode cX12_findOwn 108 = .ok (.istore 5, 2) := by decide +kernel
theorem dX12_findOwn_110 : decode cX12_findOwn 110 = .ok (.iload 5, 2) := by decide +kernel
theorem dX12_findOwn_112 : decode cX12_findOwn 112 = .ok (.bipush 99, 2) := by decide +kernel
theorem dX12_findOwn_114 : decode cX12_findOwn 114 = .ok (.if_icmp .gt 62, 3) := by decide +kernel
theorem dX12_findOwn_117 : decode cX12_findOwn 117 = .ok (.iconst 0, 1) := by decide +kernel
theorem dX12_findOwn_118 : decode cX12_findOwn 118 = .ok (.istore 6, 2) := by decide +kernel
theorem dX12_findOwn_120 : decode cX12_findOwn 120 = .ok (.iload 6, 2) := by decide +kernel
theorem dX12_findOwn_122 : decode cX12_findOwn 122 = .ok (.iconst 4, 1) := by decide +kernel
theorem dX12_findOwn_123 : decode cX12_findOwn 123 = .ok (.if_icmp .ge 47, 3) := by decide +kernel
theorem dX12_findOwn_126 : decode cX12_findOwn 126 = .ok (.iload 5, 2) := by decide +kernel
theorem dX12_findOwn_128 : decode cX12_findOwn 128 = .ok (.aload_n 0, 1) := by decide +kernel
theorem dX12_findOwn_129 : decode cX12_findOwn 129 = .ok (.bipush 21, 2) := by decide +kernel
theorem dX12_findOwn_131 : decode cX12_findOwn 131 = .ok (.iload 6, 2) := by decide +kernel
theorem dX12_findOwn_133 : decode cX12_findOwn 133 = .ok (.iadd, 1) := by decide +kernel
theorem dX12_findOwn_134 : decode cX12_findOwn 134 = .ok (.invokevirtual 299, 3) := by decide +kernel
theorem dX12_findOwn_137 : decode cX12_findOwn 137 = .ok (.iadd, 1) := by decide +kernel
theorem dX12_findOwn_138 : decode cX12_findOwn 138 = .ok (.istore 7, 2) := by decide +kernel
theorem dX12_findOwn_140 : decode cX12_findOwn 140 = .ok (.iload 7, 2) := by decide +kernel
theorem dX12_findOwn_142 : decode cX12_findOwn 142 = .ok (.bipush 99, 2) := by decide +kernel
theorem dX12_findOwn_144 : decode cX12_findOwn 144 = .ok (.if_icmp .gt 20, 3) := by decide +kernel
theorem dX12_findOwn_147 : decode cX12_findOwn 147 = .ok (.aload_n 0, 1) := by decide +kernel
theorem dX12_findOwn_148 : decode cX12_findOwn 148 = .ok (.getfield 75, 3) := by decide +kernel
theorem dX12_findOwn_151 : decode cX12_findOwn 151 = .ok (.iload 7, 2) := by decide +kernel
theorem dX12_findOwn_153 : decode cX12_findOwn 153 = .ok (.dup2, 1) := by decide +kernel
theorem dX12_findOwn_154 : decode cX12_findOwn 154 = .ok (.laload, 1) := by decide +kernel
theorem dX12_findOwn_155 : decode cX12_findOwn 155 = .ok (.aload_n 0, 1) := by decide +kernel
theorem dX12_findOwn_156 : decode cX12_findOwn 156 = .ok (.getfield 72, 3) := by decide +kernel
theorem dX12_findOwn_159 : decode cX12_findOwn 159 = .ok (.iload 5, 2) := by decide +kernel
theorem dX12_findOwn_161 : decode cX12_findOwn 161 = .ok (.laload, 1) := by decide +kernel
theorem dX12_findOwn_162 : decode cX12_findOwn 162 = .ok (.ladd, 1) := by decide +kernel
theorem dX12_findOwn_163 : decode cX12_findOwn 163 = .ok (.lastore, 1) := by decide +kernel
theorem dX12_findOwn_164 : decode cX12_findOwn 164 = .ok (.iinc 6 1, 3) := by decide +kernel
theorem dX12_findOwn_167 : decode cX12_findOwn 167 = .ok (.goto (-47), 3) := by decide +kernel
theorem dX12_findOwn_170 : decode cX12_findOwn 170 = .ok (.iinc 5 1, 3) := by decide +kernel
theorem dX12_findOwn_173 : decode cX12_findOwn 173 = .ok (.goto (-63), 3) := by decide +kernel
theorem dX12_findOwn_176 : decode cX12_findOwn 176 = .ok (.iconst 0, 1) := by decide +kernel
theorem dX12_findOwn_177 : decode cX12_findOwn 177 = .ok (.istore 5, 2) := by decide +kernel
theorem dX12_findOwn_179 : decode cX12_findOwn 179 = .ok (.iload 5, 2) := by decide +kernel
theorem dX12_findOwn_181 : decode cX12_findOwn 181 = .ok (.bipush 99, 2) := by decide +kernel
theorem dX12_findOwn_183 : decode cX12_findOwn 183 = .ok (.if_icmp .gt 23, 3) := by decide +kernel
theorem dX12_findOwn_186 : decode cX12_findOwn 186 = .ok (.aload_n 0, 1) := by decide +kernel
theorem dX12_findOwn_187 : decode cX12_findOwn 187 = .ok (.getfield 72, 3) := by decide +kernel
theorem dX12_findOwn_190 : decode cX12_findOwn 190 = .ok (.iload 5, 2) := by decide +kernel
theorem dX12_findOwn_192 : decode cX12_findOwn 192 = .ok (.aload_n 0, 1) := by decide +kernel
theorem dX12_findOwn_193 : decode cX12_findOwn 193 = .ok (.getfield 75, 3) := by decide +kernel
theorem dX12_findOwn_196 : decode cX12_findOwn 196 = .ok (.iload 5, 2) := by decide +kernel
theorem dX12_findOwn_198 : decode cX12_findOwn 198 = .ok (.laload, 1) := by decide +kernel
theorem dX12_findOwn_199 : decode cX12_findOwn 199 = .ok (.lastore, 1) := by decide +kernel
theorem dX12_findOwn_200 : decode cX12_findOwn 200 = .ok (.iinc 5 1, 3) := by decide +kernel
theorem dX12_findOwn_203 : decode cX12_findOwn 203 = .ok (.goto (-24), 3) := by decide +kernel
theorem dX12_findOwn_206 : decode cX12_findOwn 206 = .ok (.iinc 2 1, 3) := by decide +kernel
theorem dX12_findOwn_209 : decode cX12_findOwn 209 = .ok (.goto (-178), 3) := by decide +kernel
theorem dX12_findOwn_212 : decode cX12_findOwn 212 = .ok (.return_, 1) := by decide +kernel
def is_X12_findOwn : Nat → List Nat := fun d => if d = 2 then [0, 1, 2] else if d = 31 then [0, 1, 2] else if d = 42 then [0, 1, 2, 3, 5] else if d = 110 then [0, 1, 2, 5] else if d = 120 then [0, 1, 2, 5, 6] else if d = 179 then [0, 1, 2, 5] else []
set_option maxRecDepth 100000 in
def b_X12_findOwn_179 (J : Nat → List qV → List qV → qW → Prop) (Q : qR) : qK := x_iload 5 (x_int 99 (x_icmp_gt (x_iinc 2 1 (x_cut [0, 1, 2] (J 31))) (x_aload 0 (x_get 12 39 (x_iload 5 (x_aload 0 (x_get 12 40 (x_iload 5 (x_lald (x_last (x_nw (x_iinc 5 1 (x_cut [0, 1, 2, 5] (J 179))))))))))))))
set_option maxRecDepth 100000 in
theorem s_X12_findOwn_179 {p : Program} {l : Launch} {e : Env} {R : Room} {s : State} {m : MethodId} {args : Array Value} {below : List Frame} {meth : Method} {c : Code} {nW : Nat} {dC : Nat → ClassId} {dI : Nat → Nat → Nat} {k : Nat → ClassId} {g : Nat → Nat} {A : Nat → Prop} {J : Nat → List qV → List qV → qW → Prop} {Q : qR} (X : q_X p R s m args meth c cX12_findOwn 8 nW 2 46 RX12 none dC dI k g A) (hJ : ∀ d : Nat, q_Sd p l e R s m args below meth c 8 nW dC dI k g A (MQ below (q_post (dC, dI) k g nW Q A) args s 0 0 A) d (x_cut (is_X12_findOwn d) (J d))) : q_Sd p l e R s m args below meth c 8 nW dC dI k g A (MQ below (q_post (dC, dI) k g nW Q A) args s 0 0 A) 179 (b_X12_findOwn_179 J Q) := by
  unfold b_X12_findOwn_179
  refine s_iload X dX12_findOwn_179 ?_
  refine s_bipush X ⟨by decide, by decide⟩ (by decide) dX12_findOwn_181 ?_
  refine s_icmp_gt X (tgt := 206) dX12_findOwn_183 (by decide) ?_ ?_
  · refine s_iinc X (by decide) dX12_findOwn_206 ?_
    refine s_goto X (tgt := 31) dX12_findOwn_209 (by decide) ?_
    exact hJ 31
  · refine s_aload_n X rfl dX12_findOwn_186 ?_
    refine s_get X (T := TX12) (C := RX12) (N := 45) tu_X12 rfl (by decide) tw_1036 dX12_findOwn_187 ?_
    refine s_iload X dX12_findOwn_190 ?_
    refine s_aload_n X rfl dX12_findOwn_192 ?_
    refine s_get X (T := TX12) (C := RX12) (N := 45) tu_X12 rfl (by decide) tw_1037 dX12_findOwn_193 ?_
    refine s_iload X dX12_findOwn_196 ?_
    refine s_lald X dX12_findOwn_198 ?_
    refine s_last X dX12_findOwn_199 ?_
    refine s_nw ?_
    refine s_iinc X (by decide) dX12_findOwn_200 ?_
    refine s_goto X (tgt := 179) dX12_findOwn_203 (by decide) ?_
    exact hJ 179
set_option maxRecDepth 100000 in
def b_X12_findOwn_164 (J : Nat → List qV → List qV → qW → Prop) (Q : qR) : qK := x_iinc 6 1 (x_cut [0, 1, 2, 5, 6] (J 120))
set_option maxRecDepth 100000 in
theorem s_X12_findOwn_164 {p : Program} {l : Launch} {e : Env} {R : Room} {s : State} {m : MethodId} {args : Array Value} {below : List Frame} {meth : Method} {c : Code} {nW : Nat} {dC : Nat → ClassId} {dI : Nat → Nat → Nat} {k : Nat → ClassId} {g : Nat → Nat} {A : Nat → Prop} {J : Nat → List qV → List qV → qW → Prop} {Q : qR} (X : q_X p R s m args meth c cX12_findOwn 8 nW 2 46 RX12 none dC dI k g A) (hJ : ∀ d : Nat, q_Sd p l e R s m args below meth c 8 nW dC dI k g A (MQ below (q_post (dC, dI) k g nW Q A) args s 0 0 A) d (x_cut (is_X12_findOwn d) (J d))) : q_Sd p l e R s m args below meth c 8 nW dC dI k g A (MQ below (q_post (dC, dI) k g nW Q A) args s 0 0 A) 164 (b_X12_findOwn_164 J Q) := by
  unfold b_X12_findOwn_164
  refine s_iinc X (by decide) dX12_findOwn_164 ?_
  refine s_goto X (tgt := 120) dX12_findOwn_167 (by decide) ?_
  exact hJ 120
set_option maxRecDepth 100000 in
def b_X12_findOwn_163 (J : Nat → List qV → List qV → qW → Prop) (Q : qR) : qK := x_last (x_nw (b_X12_findOwn_164 J Q))
set_option maxRecDepth 100000 in
theorem s_X12_findOwn_163 {p : Program} {l : Launch} {e : Env} {R : Room} {s : State} {m : MethodId} {args : Array Value} {below : List Frame} {meth : Method} {c : Code} {nW : Nat} {dC : Nat → ClassId} {dI : Nat → Nat → Nat} {k : Nat → ClassId} {g : Nat → Nat} {A : Nat → Prop} {J : Nat → List qV → List qV → qW → Prop} {Q : qR} (X : q_X p R s m args meth c cX12_findOwn 8 nW 2 46 RX12 none dC dI k g A) (hJ : ∀ d : Nat, q_Sd p l e R s m args below meth c 8 nW dC dI k g A (MQ below (q_post (dC, dI) k g nW Q A) args s 0 0 A) d (x_cut (is_X12_findOwn d) (J d))) : q_Sd p l e R s m args below meth c 8 nW dC dI k g A (MQ below (q_post (dC, dI) k g nW Q A) args s 0 0 A) 163 (b_X12_findOwn_163 J Q) := by
  unfold b_X12_findOwn_163
  refine s_last X dX12_findOwn_163 ?_
  refine s_nw ?_
  exact s_X12_findOwn_164 X hJ
set_option maxRecDepth 100000 in
def b_X12_findOwn_120 (J : Nat → List qV → List qV → qW → Prop) (Q : qR) : qK := x_iload 6 (x_int 4 (x_icmp_ge (x_iinc 5 1 (x_cut [0, 1, 2, 5] (J 110))) (x_iload 5 (x_aload 0 (x_int 21 (x_iload 6 (x_iadd (x_callr (some 12) 2 spr_X12_of (x_iadd (x_istore 7 (x_iload 7 (x_int 99 (x_icmp_gt (b_X12_findOwn_164 J Q) (x_aload 0 (x_get 12 40 (x_iload 7 (x_dup2 (x_lald (x_aload 0 (x_get 12 39 (x_iload 5 (x_lald (x_ladd (b_X12_findOwn_163 J Q))))))))))))))))))))))))
set_option maxRecDepth 100000 in
theorem s_X12_findOwn_120 {p : Program} {l : Launch} {e : Env} {R : Room} {s : State} {m : MethodId} {args : Array Value} {below : List Frame} {meth : Method} {c : Code} {nW : Nat} {dC : Nat → ClassId} {dI : Nat → Nat → Nat} {k : Nat → ClassId} {g : Nat → Nat} {A : Nat → Prop} {J : Nat → List qV → List qV → qW → Prop} {Q : qR} (X : q_X p R s m args meth c cX12_findOwn 8 nW 2 46 RX12 none dC dI k g A) (hJ : ∀ d : Nat, q_Sd p l e R s m args below meth c 8 nW dC dI k g A (MQ below (q_post (dC, dI) k g nW Q A) args s 0 0 A) d (x_cut (is_X12_findOwn d) (J d))) : q_Sd p l e R s m args below meth c 8 nW dC dI k g A (MQ below (q_post (dC, dI) k g nW Q A) args s 0 0 A) 120 (b_X12_findOwn_120 J Q) := by
  unfold b_X12_findOwn_120
  refine s_iload X dX12_findOwn_120 ?_
  refine s_iconst X ⟨by decide, by decide⟩ dX12_findOwn_122 ?_
  refine s_icmp_ge X (tgt := 170) dX12_findOwn_123 (by decide) ?_ ?_
  · refine s_iinc X (by decide) dX12_findOwn_170 ?_
    refine s_goto X (tgt := 110) dX12_findOwn_173 (by decide) ?_
    exact hJ 110
  · refine s_iload X dX12_findOwn_126 ?_
    refine s_aload_n X rfl dX12_findOwn_128 ?_
    refine s_bipush X ⟨by decide, by decide⟩ (by decide) dX12_findOwn_129 ?_
    refine s_iload X dX12_findOwn_131 ?_
    refine s_iadd X dX12_findOwn_133 ?_
    refine s_callVr X (m_X12_of l) tw_1189 tw_1190 tw_1603 tw_134 tw_1191 rfl (by decide +kernel) ⟨by decide, by decide⟩ dX12_findOwn_134 ?_
    refine s_iadd X dX12_findOwn_137 ?_
    refine s_istore X (by decide) dX12_findOwn_138 ?_
    refine s_iload X dX12_findOwn_140 ?_
    refine s_bipush X ⟨by decide, by decide⟩ (by decide) dX12_findOwn_142 ?_
    refine s_icmp_gt X (tgt := 164) dX12_findOwn_144 (by decide) ?_ ?_
    · exact s_X12_findOwn_164 X hJ
    · refine s_aload_n X rfl dX12_findOwn_147 ?_
      refine s_get X (T := TX12) (C := RX12) (N := 45) tu_X12 rfl (by decide) tw_1037 dX12_findOwn_148 ?_
      refine s_iload X dX12_findOwn_151 ?_
      refine s_dup2 X dX12_findOwn_153 ?_
      refine s_lald X dX12_findOwn_154 ?_
      refine s_aload_n X rfl dX12_findOwn_155 ?_
      refine s_get X (T := TX12) (C := RX12) (N := 45) tu_X12 rfl (by decide) tw_1036 dX12_findOwn_156 ?_
      refine s_iload X dX12_findOwn_159 ?_
      refine s_lald X dX12_findOwn_161 ?_
      refine s_ladd X dX12_findOwn_162 ?_
      exact s_X12_findOwn_163 X hJ
set_option maxRecDepth 100000 in
def b_X12_findOwn_110 (J : Nat → List qV → List qV → qW → Prop) (Q : qR) : qK := x_iload 5 (x_int 99 (x_icmp_gt (x_int 0 (x_istore 5 (x_cut [0, 1, 2, 5] (J 179)))) (x_int 0 (x_istore 6 (x_cut [0, 1, 2, 5, 6] (J 120))))))
set_option maxRecDepth 100000 in
theorem s_X12_findOwn_110 {p : Program} {l : Launch} {e : Env} {R : Room} {s : State} {m : MethodId} {args : Array Value} {below : List Frame} {meth : Method} {c : Code} {nW : Nat} {dC : Nat → ClassId} {dI : Nat → Nat → Nat} {k : Nat → ClassId} {g : Nat → Nat} {A : Nat → Prop} {J : Nat → List qV → List qV → qW → Prop} {Q : qR} (X : q_X p R s m args meth c cX12_findOwn 8 nW 2 46 RX12 none dC dI k g A) (hJ : ∀ d : Nat, q_Sd p l e R s m args below meth c 8 nW dC dI k g A (MQ below (q_post (dC, dI) k g nW Q A) args s 0 0 A) d (x_cut (is_X12_findOwn d) (J d))) : q_Sd p l e R s m args below meth c 8 nW dC dI k g A (MQ below (q_post (dC, dI) k g nW Q A) args s 0 0 A) 110 (b_X12_findOwn_110 J Q) := by
  unfold b_X12_findOwn_110
  refine s_iload X dX12_findOwn_110 ?_
  refine s_bipush X ⟨by decide, by decide⟩ (by decide) dX12_findOwn_112 ?_
  refine s_icmp_gt X (tgt := 176) dX12_findOwn_114 (by decide) ?_ ?_
  · refine s_iconst X ⟨by decide, by decide⟩ dX12_findOwn_176 ?_
    refine s_istore X (by decide) dX12_findOwn_177 ?_
    exact hJ 179
  · refine s_iconst X ⟨by decide, by decide⟩ dX12_findOwn_117 ?_
    refine s_istore X (by decide) dX12_findOwn_118 ?_
    exact hJ 120
set_option maxRecDepth 100000 in
def b_X12_findOwn_79 (J : Nat → List qV → List qV → qW → Prop) (Q : qR) : qK := x_ladd (x_lstore 3 (x_aload 0 (x_get 12 40 (x_iload 5 (x_lng 0 (x_last (x_nw (x_iinc 5 1 (x_cut [0, 1, 2, 3, 5] (J 42))))))))))
set_option maxRecDepth 100000 in
theorem s_X12_findOwn_79 {p : Program} {l : Launch} {e : Env} {R : Room} {s : State} {m : MethodId} {args : Array Value} {below : List Frame} {meth : Method} {c : Code} {nW : Nat} {dC : Nat → ClassId} {dI : Nat → Nat → Nat} {k : Nat → ClassId} {g : Nat → Nat} {A : Nat → Prop} {J : Nat → List qV → List qV → qW → Prop} {Q : qR} (X : q_X p R s m args meth c cX12_findOwn 8 nW 2 46 RX12 none dC dI k g A) (hJ : ∀ d : Nat, q_Sd p l e R s m args below meth c 8 nW dC dI k g A (MQ below (q_post (dC, dI) k g nW Q A) args s 0 0 A) d (x_cut (is_X12_findOwn d) (J d))) : q_Sd p l e R s m args below meth c 8 nW dC dI k g A (MQ below (q_post (dC, dI) k g nW Q A) args s 0 0 A) 79 (b_X12_findOwn_79 J Q) := by
  unfold b_X12_findOwn_79
  refine s_ladd X dX12_findOwn_79 ?_
  refine s_lstore_n X rfl (by decide) dX12_findOwn_80 ?_
  refine s_aload_n X rfl dX12_findOwn_81 ?_
  refine s_get X (T := TX12) (C := RX12) (N := 45) tu_X12 rfl (by decide) tw_1037 dX12_findOwn_82 ?_
  refine s_iload X dX12_findOwn_85 ?_
  refine s_lconst X ⟨by decide, by decide⟩ (by decide) dX12_findOwn_87 ?_
  refine s_last X dX12_findOwn_88 ?_
  refine s_nw ?_
  refine s_iinc X (by decide) dX12_findOwn_89 ?_
  refine s_goto X (tgt := 42) dX12_findOwn_92 (by decide) ?_
  exact hJ 42
set_option maxRecDepth 100000 in
def b_X12_findOwn_42 (J : Nat → List qV → List qV → qW → Prop) (Q : qR) : qK := x_iload 5 (x_int 99 (x_icmp_gt (x_aload 0 (x_get 12 36 (x_int 9 (x_iload 1 (x_imul (x_iload 2 (x_iadd (x_lload 3 (x_last (x_nw (x_int 0 (x_istore 5 (x_cut [0, 1, 2, 5] (J 110)))))))))))))) (x_lload 3 (x_aload 0 (x_iload 1 (x_aload 0 (x_int 5 (x_iload 1 (x_iadd (x_callr (some 12) 2 spr_X12_of (x_iload 5 (x_isub (x_callr (some 12) 3 spr_X12_maybe (x_if_eq (x_lng 0 (b_X12_findOwn_79 J Q)) (x_aload 0 (x_get 12 39 (x_iload 5 (x_lald (b_X12_findOwn_79 J Q)))))))))))))))))))
set_option maxRecDepth 100000 in
theorem s_X12_findOwn_42 {p : Program} {l : Launch} {e : Env} {R : Room} {s : State} {m : MethodId} {args : Array Value} {below : List Frame} {meth : Method} {c : Code} {nW : Nat} {dC : Nat → ClassId} {dI : Nat → Nat → Nat} {k : Nat → ClassId} {g : Nat → Nat} {A : Nat → Prop} {J : Nat → List qV → List qV → qW → Prop} {Q : qR} (X : q_X p R s m args meth c cX12_findOwn 8 nW 2 46 RX12 none dC dI k g A) (hJ : ∀ d : Nat, q_Sd p l e R s m args below meth c 8 nW dC dI k g A (MQ below (q_post (dC, dI) k g nW Q A) args s 0 0 A) d (x_cut (is_X12_findOwn d) (J d))) : q_Sd p l e R s m args below meth c 8 nW dC dI k g A (MQ below (q_post (dC, dI) k g nW Q A) args s 0 0 A) 42 (b_X12_findOwn_42 J Q) := by
  unfold b_X12_findOwn_42
  refine s_iload X dX12_findOwn_42 ?_
  refine s_bipush X ⟨by decide, by decide⟩ (by decide) dX12_findOwn_44 ?_
  refine s_icmp_gt X (tgt := 95) dX12_findOwn_46 (by decide) ?_ ?_
  · refine s_aload_n X rfl dX12_findOwn_95 ?_
    refine s_get X (T := TX12) (C := RX12) (N := 45) tu_X12 rfl (by decide) tw_1033 dX12_findOwn_96 ?_
    refine s_bipush X ⟨by decide, by decide⟩ (by decide) dX12_findOwn_99 ?_
    refine s_iload_n X rfl dX12_findOwn_101 ?_
    refine s_imul X dX12_findOwn_102 ?_
    refine s_iload_n X rfl dX12_findOwn_103 ?_
    refine s_iadd X dX12_findOwn_104 ?_
    refine s_lload_n X rfl dX12_findOwn_105 ?_
    refine s_last X dX12_findOwn_106 ?_
    refine s_nw ?_
    refine s_iconst X ⟨by decide, by decide⟩ dX12_findOwn_107 ?_
    refine s_istore X (by decide) dX12_findOwn_108 ?_
    exact hJ 110
  · refine s_lload_n X rfl dX12_findOwn_49 ?_
    refine s_aload_n X rfl dX12_findOwn_50 ?_
    refine s_iload_n X rfl dX12_findOwn_51 ?_
    refine s_aload_n X rfl dX12_findOwn_52 ?_
    refine s_iconst X ⟨by decide, by decide⟩ dX12_findOwn_53 ?_
    refine s_iload_n X rfl dX12_findOwn_54 ?_
    refine s_iadd X dX12_findOwn_55 ?_
    refine s_callVr X (m_X12_of l) tw_1189 tw_1190 tw_1603 tw_134 tw_1191 rfl (by decide +kernel) ⟨by decide, by decide⟩ dX12_findOwn_56 ?_
    refine s_iload X dX12_findOwn_59 ?_
    refine s_isub X dX12_findOwn_61 ?_
    refine s_callVr X (m_X12_maybe l) tw_1398 tw_1399 tw_1601 tw_134 tw_1400 rfl (by decide +kernel) ⟨by decide, by decide⟩ dX12_findOwn_62 ?_
    refine s_if_eq X (tgt := 78) dX12_findOwn_65 (by decide) ?_ ?_
    · refine s_lconst X ⟨by decide, by decide⟩ (by decide) dX12_findOwn_78 ?_
      exact s_X12_findOwn_79 X hJ
    · refine s_aload_n X rfl dX12_findOwn_68 ?_
      refine s_get X (T := TX12) (C := RX12) (N := 45) tu_X12 rfl (by decide) tw_1036 dX12_findOwn_69 ?_
      refine s_iload X dX12_findOwn_72 ?_
      refine s_lald X dX12_findOwn_74 ?_
      refine s_goto X (tgt := 79) dX12_findOwn_75 (by decide) ?_
      exact s_X12_findOwn_79 X hJ
set_option maxRecDepth 100000 in
def b_X12_findOwn_31 (J : Nat → List qV → List qV → qW → Prop) (Q : qR) : qK := x_iload 2 (x_int 8 (x_icmp_gt (x_vret Q) (x_lng 0 (x_lstore 3 (x_int 0 (x_istore 5 (x_cut [0, 1, 2, 3, 5] (J 42))))))))
set_option maxRecDepth 100000 in
theorem s_X12_findOwn_31 {p : Program} {l : Launch} {e : Env} {R : Room} {s : State} {m : MethodId} {args : Array Value} {below : List Frame} {meth : Method} {c : Code} {nW : Nat} {dC : Nat → ClassId} {dI : Nat → Nat → Nat} {k : Nat → ClassId} {g : Nat → Nat} {A : Nat → Prop} {J : Nat → List qV → List qV → qW → Prop} {Q : qR} (X : q_X p R s m args meth c cX12_findOwn 8 nW 2 46 RX12 none dC dI k g A) (hJ : ∀ d : Nat, q_Sd p l e R s m args below meth c 8 nW dC dI k g A (MQ below (q_post (dC, dI) k g nW Q A) args s 0 0 A) d (x_cut (is_X12_findOwn d) (J d))) : q_Sd p l e R s m args below meth c 8 nW dC dI k g A (MQ below (q_post (dC, dI) k g nW Q A) args s 0 0 A) 31 (b_X12_findOwn_31 J Q) := by
  unfold b_X12_findOwn_31
  refine s_iload_n X rfl dX12_findOwn_31 ?_
  refine s_bipush X ⟨by decide, by decide⟩ (by decide) dX12_findOwn_32 ?_
  refine s_icmp_gt X (tgt := 212) dX12_findOwn_34 (by decide) ?_ ?_
  · exact s_vret X dX12_findOwn_212
  · refine s_lconst X ⟨by decide, by decide⟩ (by decide) dX12_findOwn_37 ?_
    refine s_lstore_n X rfl (by decide) dX12_findOwn_38 ?_
    refine s_iconst X ⟨by decide, by decide⟩ dX12_findOwn_39 ?_
    refine s_istore X (by decide) dX12_findOwn_40 ?_
    exact hJ 42
set_option maxRecDepth 100000 in
def b_X12_findOwn_22 (J : Nat → List qV → List qV → qW → Prop) (Q : qR) : qK := x_last (x_nw (x_iinc 2 1 (x_cut [0, 1, 2] (J 2))))
set_option maxRecDepth 100000 in
theorem s_X12_findOwn_22 {p : Program} {l : Launch} {e : Env} {R : Room} {s : State} {m : MethodId} {args : Array Value} {below : List Frame} {meth : Method} {c : Code} {nW : Nat} {dC : Nat → ClassId} {dI : Nat → Nat → Nat} {k : Nat → ClassId} {g : Nat → Nat} {A : Nat → Prop} {J : Nat → List qV → List qV → qW → Prop} {Q : qR} (X : q_X p R s m args meth c cX12_findOwn 8 nW 2 46 RX12 none dC dI k g A) (hJ : ∀ d : Nat, q_Sd p l e R s m args below meth c 8 nW dC dI k g A (MQ below (q_post (dC, dI) k g nW Q A) args s 0 0 A) d (x_cut (is_X12_findOwn d) (J d))) : q_Sd p l e R s m args below meth c 8 nW dC dI k g A (MQ below (q_post (dC, dI) k g nW Q A) args s 0 0 A) 22 (b_X12_findOwn_22 J Q) := by
  unfold b_X12_findOwn_22
  refine s_last X dX12_findOwn_22 ?_
  refine s_nw ?_
  refine s_iinc X (by decide) dX12_findOwn_23 ?_
  refine s_goto X (tgt := 2) dX12_findOwn_26 (by decide) ?_
  exact hJ 2
set_option maxRecDepth 100000 in
def b_X12_findOwn_2 (J : Nat → List qV → List qV → qW → Prop) (Q : qR) : qK := x_iload 2 (x_int 99 (x_icmp_gt (x_int 0 (x_istore 2 (x_cut [0, 1, 2] (J 31)))) (x_aload 0 (x_get 12 39 (x_iload 2 (x_iload 2 (x_if_ne (x_lng 0 (b_X12_findOwn_22 J Q)) (x_lng 1 (b_X12_findOwn_22 J Q)))))))))
set_option maxRecDepth 100000 in
theorem s_X12_findOwn_2 {p : Program} {l : Launch} {e : Env} {R : Room} {s : State} {m : MethodId} {args : Array Value} {below : List Frame} {meth : Method} {c : Code} {nW : Nat} {dC : Nat → ClassId} {dI : Nat → Nat → Nat} {k : Nat → ClassId} {g : Nat → Nat} {A : Nat → Prop} {J : Nat → List qV → List qV → qW → Prop} {Q : qR} (X : q_X p R s m args meth c cX12_findOwn 8 nW 2 46 RX12 none dC dI k g A) (hJ : ∀ d : Nat, q_Sd p l e R s m args below meth c 8 nW dC dI k g A (MQ below (q_post (dC, dI) k g nW Q A) args s 0 0 A) d (x_cut (is_X12_findOwn d) (J d))) : q_Sd p l e R s m args below meth c 8 nW dC dI k g A (MQ below (q_post (dC, dI) k g nW Q A) args s 0 0 A) 2 (b_X12_findOwn_2 J Q) := by
  unfold b_X12_findOwn_2
  refine s_iload_n X rfl dX12_findOwn_2 ?_
  refine s_bipush X ⟨by decide, by decide⟩ (by decide) dX12_findOwn_3 ?_
  refine s_icmp_gt X (tgt := 29) dX12_findOwn_5 (by decide) ?_ ?_
  · refine s_iconst X ⟨by decide, by decide⟩ dX12_findOwn_29 ?_
    refine s_istore_n X rfl (by decide) dX12_findOwn_30 ?_
    exact hJ 31
  · refine s_aload_n X rfl dX12_findOwn_8 ?_
    refine s_get X (T := TX12) (C := RX12) (N := 45) tu_X12 rfl (by decide) tw_1036 dX12_findOwn_9 ?_
    refine s_iload_n X rfl dX12_findOwn_12 ?_
    refine s_iload_n X rfl dX12_findOwn_13 ?_
    refine s_if_ne X (tgt := 21) dX12_findOwn_14 (by decide) ?_ ?_
    · refine s_lconst X ⟨by decide, by decide⟩ (by decide) dX12_findOwn_21 ?_
      exact s_X12_findOwn_22 X hJ
    · refine s_lconst X ⟨by decide, by decide⟩ (by decide) dX12_findOwn_17 ?_
      refine s_goto X (tgt := 22) dX12_findOwn_18 (by decide) ?_
      exact s_X12_findOwn_22 X hJ
set_option maxRecDepth 100000 in
def b_X12_findOwn_0 (J : Nat → List qV → List qV → qW → Prop) (Q : qR) : qK := x_int 0 (x_istore 2 (x_cut [0, 1, 2] (J 2)))
set_option maxRecDepth 100000 in
theorem s_X12_findOwn_0 {p : Program} {l : Launch} {e : Env} {R : Room} {s : State} {m : MethodId} {args : Array Value} {below : List Frame} {meth : Method} {c : Code} {nW : Nat} {dC : Nat → ClassId} {dI : Nat → Nat → Nat} {k : Nat → ClassId} {g : Nat → Nat} {A : Nat → Prop} {J : Nat → List qV → List qV → qW → Prop} {Q : qR} (X : q_X p R s m args meth c cX12_findOwn 8 nW 2 46 RX12 none dC dI k g A) (hJ : ∀ d : Nat, q_Sd p l e R s m args below meth c 8 nW dC dI k g A (MQ below (q_post (dC, dI) k g nW Q A) args s 0 0 A) d (x_cut (is_X12_findOwn d) (J d))) : q_Sd p l e R s m args below meth c 8 nW dC dI k g A (MQ below (q_post (dC, dI) k g nW Q A) args s 0 0 A) 0 (b_X12_findOwn_0 J Q) := by
  unfold b_X12_findOwn_0
  refine s_iconst X ⟨by decide, by decide⟩ dX12_findOwn_0 ?_
  refine s_istore_n X rfl (by decide) dX12_findOwn_1 ?_
  exact hJ 2

def sp_X12_findOwn : qS := fun av w Q => ∃ (mco : Int) (mre : Int) (mle : Int) (mbe : Int) (mso : Int) (mva : Int) (mwo : Int) (mwr : Int) (mlf : Int) (mlp : Int) (mfp : Int) (mfd : Int) (mgo : Int) (mbo : Int) (mpe : Int) (mye : Int) (mpr : Int) (mld : Int) (msi : Int) (mse : Int) (bs : Nat → Int) (ss : Nat → Int) (lx : Nat → Int) (fu : Nat → Int) (ow : Nat → Int) (a : Int), av = [q2 0, q1 a] ∧ w = [.inr (12, [q1 mco, q2 6, q2 7, q2 8, q2 9, q2 10, q2 1, q2 11, q2 12, q2 2, q1 mre, q1 mle, q1 mbe, q1 mso, q1 mva, q3 mwo, q1 mwr, q1 mlf, q1 mlp, q2 13, q2 14, q1 mfp, q1 mfd, q1 mgo, q1 mbo, q1 mpe, q1 mye, q2 15, q1 mpr, q2 16, q2 17, q2 18, q2 19, q1 mld, q2 20, q1 msi, q2 5, q2 21, q2 22, q2 3, q2 4, q1 mse, q2 23, q2 24, q2 25]), .inl (0, 600, .inl bs), .inl (0, 168, .inl ss), .inl (3, 100, .inr (.inl lx)), .inl (3, 100, .inr (.inl fu)), .inl (3, 72, .inr (.inl ow))] ∧ (0 ≤ mbo ∧ mbo ≤ 1) ∧ (BI bs) ∧ (SI ss) ∧ (0 ≤ msi ∧ msi ≤ 1) ∧ (0 ≤ a ∧ a ≤ 7) ∧ (∀ (x_lx : Nat → Int) (x_fu : Nat → Int) (x_ow : Nat → Int), Q none ([.inr (12, [q1 mco, q2 6, q2 7, q2 8, q2 9, q2 10, q2 1, q2 11, q2 12, q2 2, q1 mre, q1 mle, q1 mbe, q1 mso, q1 mva, q3 mwo, q1 mwr, q1 mlf, q1 mlp, q2 13, q2 14, q1 mfp, q1 mfd, q1 mgo, q1 mbo, q1 mpe, q1 mye, q2 15, q1 mpr, q2 16, q2 17, q2 18, q2 19, q1 mld, q2 20, q1 msi, q2 5, q2 21, q2 22, q2 3, q2 4, q1 mse, q2 23, q2 24, q2 25]), .inl (0, 600, .inl bs), .inl (0, 168, .inl ss), .inl (3, 100, .inr (.inl x_lx)), .inl (3, 100, .inr (.inl x_fu)), .inl (3, 72, .inr (.inl x_ow))]))
def I_X12_findOwn (mco : Int) (mre : Int) (mle : Int) (mbe : Int) (mso : Int) (mva : Int) (mwo : Int) (mwr : Int) (mlf : Int) (mlp : Int) (mfp : Int) (mfd : Int) (mgo : Int) (mbo : Int) (mpe : Int) (mye : Int) (mpr : Int) (mld : Int) (msi : Int) (mse : Int) (bs : Nat → Int) (ss : Nat → Int) (lx : Nat → Int) (fu : Nat → Int) (ow : Nat → Int) (a : Int) : Nat → Nat → List qV → List qV → qW → Prop := fun dz mz vz sz wz => if dz = 2 then (∃ (y_lx : Nat → Int) (v2 : Int), vz = [q2 0, q1 a, q1 v2] ∧ sz = [] ∧ wz = [.inr (12, [q1 mco, q2 6, q2 7, q2 8, q2 9, q2 10, q2 1, q2 11, q2 12, q2 2, q1 mre, q1 mle, q1 mbe, q1 mso, q1 mva, q3 mwo, q1 mwr, q1 mlf, q1 mlp, q2 13, q2 14, q1 mfp, q1 mfd, q1 mgo, q1 mbo, q1 mpe, q1 mye, q2 15, q1 mpr, q2 16, q2 17, q2 18, q2 19, q1 mld, q2 20, q1 msi, q2 5, q2 21, q2 22, q2 3, q2 4, q1 mse, q2 23, q2 24, q2 25]), .inl (0, 600, .inl bs), .inl (0, 168, .inl ss), .inl (3, 100, .inr (.inl y_lx)), .inl (3, 100, .inr (.inl fu)), .inl (3, 72, .inr (.inl ow))] ∧ mz = 1000000 + (100 - v2).toNat ∧ (0 ≤ v2 ∧ v2 ≤ 100)) else if dz = 31 then (∃ (y_lx : Nat → Int) (y_fu : Nat → Int) (y_ow : Nat → Int) (v2 : Int), vz = [q2 0, q1 a, q1 v2] ∧ sz = [] ∧ wz = [.inr (12, [q1 mco, q2 6, q2 7, q2 8, q2 9, q2 10, q2 1, q2 11, q2 12, q2 2, q1 mre, q1 mle, q1 mbe, q1 mso, q1 mva, q3 mwo, q1 mwr, q1 mlf, q1 mlp, q2 13, q2 14, q1 mfp, q1 mfd, q1 mgo, q1 mbo, q1 mpe, q1 mye, q2 15, q1 mpr, q2 16, q2 17, q2 18, q2 19, q1 mld, q2 20, q1 msi, q2 5, q2 21, q2 22, q2 3, q2 4, q1 mse, q2 23, q2 24, q2 25]), .inl (0, 600, .inl bs), .inl (0, 168, .inl ss), .inl (3, 100, .inr (.inl y_lx)), .inl (3, 100, .inr (.inl y_fu)), .inl (3, 72, .inr (.inl y_ow))] ∧ mz = 10000 * (9 - v2).toNat ∧ (0 ≤ v2 ∧ v2 ≤ 9)) else if dz = 42 then (∃ (y_lx : Nat → Int) (y_fu : Nat → Int) (y_ow : Nat → Int) (v2 : Int) (v3 : Int) (v5 : Int), vz = [q2 0, q1 a, q1 v2, q3 v3, q1 v5] ∧ sz = [] ∧ wz = [.inr (12, [q1 mco, q2 6, q2 7, q2 8, q2 9, q2 10, q2 1, q2 11, q2 12, q2 2, q1 mre, q1 mle, q1 mbe, q1 mso, q1 mva, q3 mwo, q1 mwr, q1 mlf, q1 mlp, q2 13, q2 14, q1 mfp, q1 mfd, q1 mgo, q1 mbo, q1 mpe, q1 mye, q2 15, q1 mpr, q2 16, q2 17, q2 18, q2 19, q1 mld, q2 20, q1 msi, q2 5, q2 21, q2 22, q2 3, q2 4, q1 mse, q2 23, q2 24, q2 25]), .inl (0, 600, .inl bs), .inl (0, 168, .inl ss), .inl (3, 100, .inr (.inl y_lx)), .inl (3, 100, .inr (.inl y_fu)), .inl (3, 72, .inr (.inl y_ow))] ∧ mz = 10000 * (9 - v2).toNat - 1000 + (100 - v5).toNat ∧ (0 ≤ v2 ∧ v2 ≤ 8 ∧ 0 ≤ v5 ∧ v5 ≤ 100)) else if dz = 110 then (∃ (y_lx : Nat → Int) (y_fu : Nat → Int) (y_ow : Nat → Int) (v2 : Int) (v5 : Int), vz = [q2 0, q1 a, q1 v2, q1 v5] ∧ sz = [] ∧ wz = [.inr (12, [q1 mco, q2 6, q2 7, q2 8, q2 9, q2 10, q2 1, q2 11, q2 12, q2 2, q1 mre, q1 mle, q1 mbe, q1 mso, q1 mva, q3 mwo, q1 mwr, q1 mlf, q1 mlp, q2 13, q2 14, q1 mfp, q1 mfd, q1 mgo, q1 mbo, q1 mpe, q1 mye, q2 15, q1 mpr, q2 16, q2 17, q2 18, q2 19, q1 mld, q2 20, q1 msi, q2 5, q2 21, q2 22, q2 3, q2 4, q1 mse, q2 23, q2 24, q2 25]), .inl (0, 600, .inl bs), .inl (0, 168, .inl ss), .inl (3, 100, .inr (.inl y_lx)), .inl (3, 100, .inr (.inl y_fu)), .inl (3, 72, .inr (.inl y_ow))] ∧ mz = 10000 * (9 - v2).toNat - 3000 + 10 * (100 - v5).toNat ∧ (0 ≤ v2 ∧ v2 ≤ 8 ∧ 0 ≤ v5 ∧ v5 ≤ 100)) else if dz = 120 then (∃ (y_lx : Nat → Int) (y_fu : Nat → Int) (y_ow : Nat → Int) (v2 : Int) (v5 : Int) (v6 : Int), vz = [q2 0, q1 a, q1 v2, q1 v5, q1 v6] ∧ sz = [] ∧ wz = [.inr (12, [q1 mco, q2 6, q2 7, q2 8, q2 9, q2 10, q2 1, q2 11, q2 12, q2 2, q1 mre, q1 mle, q1 mbe, q1 mso, q1 mva, q3 mwo, q1 mwr, q1 mlf, q1 mlp, q2 13, q2 14, q1 mfp, q1 mfd, q1 mgo, q1 mbo, q1 mpe, q1 mye, q2 15, q1 mpr, q2 16, q2 17, q2 18, q2 19, q1 mld, q2 20, q1 msi, q2 5, q2 21, q2 22, q2 3, q2 4, q1 mse, q2 23, q2 24, q2 25]), .inl (0, 600, .inl bs), .inl (0, 168, .inl ss), .inl (3, 100, .inr (.inl y_lx)), .inl (3, 100, .inr (.inl y_fu)), .inl (3, 72, .inr (.inl y_ow))] ∧ mz = 10000 * (9 - v2).toNat - 3000 + 10 * (100 - v5).toNat - 5 + (4 - v6).toNat ∧ (0 ≤ v2 ∧ v2 ≤ 8 ∧ 0 ≤ v5 ∧ v5 ≤ 99 ∧ 0 ≤ v6 ∧ v6 ≤ 4)) else if dz = 179 then (∃ (y_lx : Nat → Int) (y_fu : Nat → Int) (y_ow : Nat → Int) (v2 : Int) (v5 : Int), vz = [q2 0, q1 a, q1 v2, q1 v5] ∧ sz = [] ∧ wz = [.inr (12, [q1 mco, q2 6, q2 7, q2 8, q2 9, q2 10, q2 1, q2 11, q2 12, q2 2, q1 mre, q1 mle, q1 mbe, q1 mso, q1 mva, q3 mwo, q1 mwr, q1 mlf, q1 mlp, q2 13, q2 14, q1 mfp, q1 mfd, q1 mgo, q1 mbo, q1 mpe, q1 mye, q2 15, q1 mpr, q2 16, q2 17, q2 18, q2 19, q1 mld, q2 20, q1 msi, q2 5, q2 21, q2 22, q2 3, q2 4, q1 mse, q2 23, q2 24, q2 25]), .inl (0, 600, .inl bs), .inl (0, 168, .inl ss), .inl (3, 100, .inr (.inl y_lx)), .inl (3, 100, .inr (.inl y_fu)), .inl (3, 72, .inr (.inl y_ow))] ∧ mz = 10000 * (9 - v2).toNat - 6000 + (100 - v5).toNat ∧ (0 ≤ v2 ∧ v2 ≤ 8 ∧ 0 ≤ v5 ∧ v5 ≤ 100)) else False
set_option maxHeartbeats 4000000 in
set_option maxRecDepth 100000 in
theorem m_X12_findOwn (l : Launch) : q_M l yX12_findOwn cX12_findOwn 8 none 2 46 sp_X12_findOwn := by
  refine q_meth (by decide) (fun av w Q h => by obtain ⟨mco, mre, mle, mbe, mso, mva, mwo, mwr, mlf, mlp, mfp, mfd, mgo, mbo, mpe, mye, mpr, mld, msi, mse, bs, ss, lx, fu, ow, a, rfl, rfl, hbo, hbi, hsi, hsg, ha, hQ⟩ := h; exact Nat.le_of_ble_eq_true rfl) ?_
  intro p e R s m args below meth c dC dI k g A av w Q hsp oka okw X
  obtain ⟨mco, mre, mle, mbe, mso, mva, mwo, mwr, mlf, mlp, mfp, mfd, mgo, mbo, mpe, mye, mpr, mld, msi, mse, bs, ss, lx, fu, ow, a, rfl, rfl, hbo, hbi, hsi, hsg, ha, hQ⟩ := hsp
  have o_a : -2147483648 ≤ a ∧ a ≤ 2147483647 := oka _ (List.mem_of_getElem? (i := 1) rfl)
  refine s_mono (s_X12_findOwn_0 X (J := fun dz vz sz wz => ∃ mz, I_X12_findOwn mco mre mle mbe mso mva mwo mwr mlf mlp mfp mfd mgo mbo mpe mye mpr mld msi mse bs ss lx fu ow a dz mz vz sz wz) (q_loopn (I_X12_findOwn mco mre mle mbe mso mva mwo mwr mlf mlp mfp mfd mgo mbo mpe mye mpr mld msi mse bs ss lx fu ow a) (fun dz J => if dz = 2 then b_X12_findOwn_2 J Q else if dz = 31 then b_X12_findOwn_31 J Q else if dz = 42 then b_X12_findOwn_42 J Q else if dz = 110 then b_X12_findOwn_110 J Q else if dz = 120 then b_X12_findOwn_120 J Q else if dz = 179 then b_X12_findOwn_179 J Q else q_F) ?hs ?hv)) ?_
  case hs =>
    intro d J hJ
    by_cases h2 : d = 2
    · subst h2; exact s_X12_findOwn_2 X hJ
    by_cases h31 : d = 31
    · subst h31; exact s_X12_findOwn_31 X hJ
    by_cases h42 : d = 42
    · subst h42; exact s_X12_findOwn_42 X hJ
    by_cases h110 : d = 110
    · subst h110; exact s_X12_findOwn_110 X hJ
    by_cases h120 : d = 120
    · subst h120; exact s_X12_findOwn_120 X hJ
    by_cases h179 : d = 179
    · subst h179; exact s_X12_findOwn_179 X hJ
    simp only [h2, h31, h42, h110, h120, h179, if_false]
    exact s_F
  case hv =>
    intro dz mz vz sz wz hI okv oks okw hlen
    by_cases h2 : dz = 2
    · subst h2
      obtain ⟨y_lx, v2, rfl, rfl, rfl, hn, hp⟩ := hI
      apply And.intro
      · intro h5
        exact ⟨_, ⟨_, _, _, _, rfl, rfl, rfl, rfl, (by first | omega | assumption | exact q_rg_up (by assumption) (by omega) | exact q_rg_up (q_rg_up (by assumption) (by omega)) (by omega) | exact q_rg_cpy (by assumption) (by assumption))⟩, by omega⟩
      · intro h5
        apply And.intro
        · intro h14
          apply And.intro
          · exact ⟨by omega, by omega⟩
          intro z23 h23
          first | replace h23 := e_add h23 (by omega) | replace h23 := e_rng h23
          exact ⟨_, ⟨_, _, rfl, rfl, rfl, rfl, (by first | omega | assumption | exact q_rg_up (by assumption) (by omega) | exact q_rg_up (q_rg_up (by assumption) (by omega)) (by omega) | exact q_rg_cpy (by assumption) (by assumption))⟩, by omega⟩
        · intro h14
          apply And.intro
          · exact ⟨by omega, by omega⟩
          intro z23 h23
          first | replace h23 := e_add h23 (by omega) | replace h23 := e_rng h23
          exact ⟨_, ⟨_, _, rfl, rfl, rfl, rfl, (by first | omega | assumption | exact q_rg_up (by assumption) (by omega) | exact q_rg_up (q_rg_up (by assumption) (by omega)) (by omega) | exact q_rg_cpy (by assumption) (by assumption))⟩, by omega⟩
    by_cases h31 : dz = 31
    · subst h31
      obtain ⟨y_lx, y_fu, y_ow, v2, rfl, rfl, rfl, hn, hp⟩ := hI
      apply And.intro
      · intro h34
        exact hQ _ _ _
      · intro h34
        exact ⟨_, ⟨_, _, _, _, _, _, rfl, rfl, rfl, rfl, (by first | omega | assumption | exact q_rg_up (by assumption) (by omega) | exact q_rg_up (q_rg_up (by assumption) (by omega)) (by omega) | exact q_rg_cpy (by assumption) (by assumption))⟩, by omega⟩
    by_cases h42 : dz = 42
    · subst h42
      obtain ⟨y_lx, y_fu, y_ow, v2, v3, v5, rfl, rfl, rfl, hn, hp⟩ := hI
      apply And.intro
      · intro h46
        intro z102 h102
        first | replace h102 := e_mul h102 (by omega) | replace h102 := e_rng h102
        intro z104 h104
        first | replace h104 := e_add h104 (by omega) | replace h104 := e_rng h104
        apply And.intro
        · exact ⟨by omega, by omega⟩
        exact ⟨_, ⟨_, _, _, _, _, rfl, rfl, rfl, rfl, (by first | omega | assumption | exact q_rg_up (by assumption) (by omega) | exact q_rg_up (q_rg_up (by assumption) (by omega)) (by omega) | exact q_rg_cpy (by assumption) (by assumption))⟩, by omega⟩
      · intro h46
        intro z55 h55
        first | replace h55 := e_add h55 (by omega) | replace h55 := e_rng h55
        refine Exists.intro [0, 1, 6, 7, 8, 9, 10, 11, 12, 2, 13, 14, 15, 16, 17, 18, 19, 20, 5, 21, 22, 3, 4, 23, 24, 25] (Exists.intro [q2 0, q1 _] (Exists.intro ([.inr (12, [q1 _, q2 2, q2 3, q2 4, q2 5, q2 6, q2 1, q2 7, q2 8, q2 9, q1 _, q1 _, q1 _, q1 _, q1 _, q3 _, q1 _, q1 _, q1 _, q2 10, q2 11, q1 _, q1 _, q1 _, q1 _, q1 _, q1 _, q2 12, q1 _, q2 13, q2 14, q2 15, q2 16, q1 _, q2 17, q1 _, q2 18, q2 19, q2 20, q2 21, q2 22, q1 _, q2 23, q2 24, q2 25]), .inl (0, 600, .inl _)]) (And.intro rfl (And.intro rfl (And.intro rfl (And.intro ⟨⟨_, rfl⟩, rfl⟩ ?_))))))
        refine Exists.intro _ (Exists.intro _ (Exists.intro _ (Exists.intro _ (Exists.intro _ (Exists.intro _ (Exists.intro _ (Exists.intro _ (Exists.intro _ (Exists.intro _ (Exists.intro _ (Exists.intro _ (Exists.intro _ (Exists.intro _ (Exists.intro _ (Exists.intro _ (Exists.intro _ (Exists.intro _ (Exists.intro _ (Exists.intro _ (Exists.intro _ (Exists.intro _ (And.intro rfl (And.intro rfl (And.intro (by first | omega | assumption | exact q_rg_up (by assumption) (by omega) | exact q_rg_up (q_rg_up (by assumption) (by omega)) (by omega) | exact q_rg_cpy (by assumption) (by assumption)) (And.intro (by first | omega | assumption | exact q_rg_up (by assumption) (by omega) | exact q_rg_up (q_rg_up (by assumption) (by omega)) (by omega) | exact q_rg_cpy (by assumption) (by assumption)) (And.intro (by first | omega | assumption | exact q_rg_up (by assumption) (by omega) | exact q_rg_up (q_rg_up (by assumption) (by omega)) (by omega) | exact q_rg_cpy (by assumption) (by assumption)) (?_)))))))))))))))))))))))))))
        intro z56 h56
        obtain ⟨h56, k56⟩ := h56
        first | replace k56 := OFQ_13 k56 (by omega) | replace k56 := OFQ_21 k56 (by omega) | clear k56
        intro z61 h61
        first | replace h61 := e_sub h61 (by omega) | replace h61 := e_rng h61
        refine Exists.intro [0, 2, 6, 7, 8, 9, 10, 1, 11, 12, 13, 14, 15, 16, 17, 18, 19, 20, 5, 21, 22, 3, 4, 23, 24, 25] (Exists.intro [q2 0, q1 _, q1 _] (Exists.intro ([.inr (12, [q1 _, q2 2, q2 3, q2 4, q2 5, q2 6, q2 7, q2 8, q2 9, q2 1, q1 _, q1 _, q1 _, q1 _, q1 _, q3 _, q1 _, q1 _, q1 _, q2 10, q2 11, q1 _, q1 _, q1 _, q1 _, q1 _, q1 _, q2 12, q1 _, q2 13, q2 14, q2 15, q2 16, q1 _, q2 17, q1 _, q2 18, q2 19, q2 20, q2 21, q2 22, q1 _, q2 23, q2 24, q2 25]), .inl (0, 168, .inl _)]) (And.intro rfl (And.intro rfl (And.intro rfl (And.intro ⟨⟨_, rfl⟩, rfl⟩ ?_))))))
        refine Exists.intro _ (Exists.intro _ (Exists.intro _ (Exists.intro _ (Exists.intro _ (Exists.intro _ (Exists.intro _ (Exists.intro _ (Exists.intro _ (Exists.intro _ (Exists.intro _ (Exists.intro _ (Exists.intro _ (Exists.intro _ (Exists.intro _ (Exists.intro _ (Exists.intro _ (Exists.intro _ (Exists.intro _ (Exists.intro _ (Exists.intro _ (Exists.intro _ (Exists.intro _ (And.intro rfl (And.intro rfl (And.intro (by first | omega | assumption | exact q_rg_up (by assumption) (by omega) | exact q_rg_up (q_rg_up (by assumption) (by omega)) (by omega) | exact q_rg_cpy (by assumption) (by assumption)) (And.intro (by first | omega | assumption | exact q_rg_up (by assumption) (by omega) | exact q_rg_up (q_rg_up (by assumption) (by omega)) (by omega) | exact q_rg_cpy (by assumption) (by assumption)) (?_)))))))))))))))))))))))))))
        intro z62 h62
        apply And.intro
        · intro h65
          intro z79 h79
          replace h79 := e_rngl h79
          apply And.intro
          · exact ⟨by omega, by omega⟩
          intro z89 h89
          first | replace h89 := e_add h89 (by omega) | replace h89 := e_rng h89
          exact ⟨_, ⟨_, _, _, _, _, _, rfl, rfl, rfl, rfl, (by first | omega | assumption | exact q_rg_up (by assumption) (by omega) | exact q_rg_up (q_rg_up (by assumption) (by omega)) (by omega) | exact q_rg_cpy (by assumption) (by assumption))⟩, by omega⟩
        · intro h65
          apply And.intro
          · exact ⟨by omega, by omega⟩
          intro z74 h74
          intro z79 h79
          replace h79 := e_rngl h79
          apply And.intro
          · exact ⟨by omega, by omega⟩
          intro z89 h89
          first | replace h89 := e_add h89 (by omega) | replace h89 := e_rng h89
          exact ⟨_, ⟨_, _, _, _, _, _, rfl, rfl, rfl, rfl, (by first | omega | assumption | exact q_rg_up (by assumption) (by omega) | exact q_rg_up (q_rg_up (by assumption) (by omega)) (by omega) | exact q_rg_cpy (by assumption) (by assumption))⟩, by omega⟩
    by_cases h110 : dz = 110
    · subst h110
      obtain ⟨y_lx, y_fu, y_ow, v2, v5, rfl, rfl, rfl, hn, hp⟩ := hI
      apply And.intro
      · intro h114
        exact ⟨_, ⟨_, _, _, _, _, rfl, rfl, rfl, rfl, (by first | omega | assumption | exact q_rg_up (by assumption) (by omega) | exact q_rg_up (q_rg_up (by assumption) (by omega)) (by omega) | exact q_rg_cpy (by assumption) (by assumption))⟩, by omega⟩
      · intro h114
        exact ⟨_, ⟨_, _, _, _, _, _, rfl, rfl, rfl, rfl, (by first | omega | assumption | exact q_rg_up (by assumption) (by omega) | exact q_rg_up (q_rg_up (by assumption) (by omega)) (by omega) | exact q_rg_cpy (by assumption) (by assumption))⟩, by omega⟩
    by_cases h120 : dz = 120
    · subst h120
      obtain ⟨y_lx, y_fu, y_ow, v2, v5, v6, rfl, rfl, rfl, hn, hp⟩ := hI
      apply And.intro
      · intro h123
        intro z170 h170
        first | replace h170 := e_add h170 (by omega) | replace h170 := e_rng h170
        exact ⟨_, ⟨_, _, _, _, _, rfl, rfl, rfl, rfl, (by first | omega | assumption | exact q_rg_up (by assumption) (by omega) | exact q_rg_up (q_rg_up (by assumption) (by omega)) (by omega) | exact q_rg_cpy (by assumption) (by assumption))⟩, by omega⟩
      · intro h123
        intro z133 h133
        first | replace h133 := e_add h133 (by omega) | replace h133 := e_rng h133
        refine Exists.intro [0, 1, 6, 7, 8, 9, 10, 11, 12, 2, 13, 14, 15, 16, 17, 18, 19, 20, 5, 21, 22, 3, 4, 23, 24, 25] (Exists.intro [q2 0, q1 _] (Exists.intro ([.inr (12, [q1 _, q2 2, q2 3, q2 4, q2 5, q2 6, q2 1, q2 7, q2 8, q2 9, q1 _, q1 _, q1 _, q1 _, q1 _, q3 _, q1 _, q1 _, q1 _, q2 10, q2 11, q1 _, q1 _, q1 _, q1 _, q1 _, q1 _, q2 12, q1 _, q2 13, q2 14, q2 15, q2 16, q1 _, q2 17, q1 _, q2 18, q2 19, q2 20, q2 21, q2 22, q1 _, q2 23, q2 24, q2 25]), .inl (0, 600, .inl _)]) (And.intro rfl (And.intro rfl (And.intro rfl (And.intro ⟨⟨_, rfl⟩, rfl⟩ ?_))))))
        refine Exists.intro _ (Exists.intro _ (Exists.intro _ (Exists.intro _ (Exists.intro _ (Exists.intro _ (Exists.intro _ (Exists.intro _ (Exists.intro _ (Exists.intro _ (Exists.intro _ (Exists.intro _ (Exists.intro _ (Exists.intro _ (Exists.intro _ (Exists.intro _ (Exists.intro _ (Exists.intro _ (Exists.intro _ (Exists.intro _ (Exists.intro _ (Exists.intro _ (And.intro rfl (And.intro rfl (And.intro (by first | omega | assumption | exact q_rg_up (by assumption) (by omega) | exact q_rg_up (q_rg_up (by assumption) (by omega)) (by omega) | exact q_rg_cpy (by assumption) (by assumption)) (And.intro (by first | omega | assumption | exact q_rg_up (by assumption) (by omega) | exact q_rg_up (q_rg_up (by assumption) (by omega)) (by omega) | exact q_rg_cpy (by assumption) (by assumption)) (And.intro (by first | omega | assumption | exact q_rg_up (by assumption) (by omega) | exact q_rg_up (q_rg_up (by assumption) (by omega)) (by omega) | exact q_rg_cpy (by assumption) (by assumption)) (?_)))))))))))))))))))))))))))
        intro z134 h134
        obtain ⟨h134, k134⟩ := h134
        first | replace k134 := OFQ_13 k134 (by omega) | replace k134 := OFQ_21 k134 (by omega) | clear k134
        intro z137 h137
        first | replace h137 := e_add h137 (by omega) | replace h137 := e_rng h137
        apply And.intro
        · intro h144
          intro z164 h164
          first | replace h164 := e_add h164 (by omega) | replace h164 := e_rng h164
          exact ⟨_, ⟨_, _, _, _, _, _, rfl, rfl, rfl, rfl, (by first | omega | assumption | exact q_rg_up (by assumption) (by omega) | exact q_rg_up (q_rg_up (by assumption) (by omega)) (by omega) | exact q_rg_cpy (by assumption) (by assumption))⟩, by omega⟩
        · intro h144
          apply And.intro
          · exact ⟨by omega, by omega⟩
          intro z154 h154
          apply And.intro
          · exact ⟨by omega, by omega⟩
          intro z161 h161
          intro z162 h162
          replace h162 := e_rngl h162
          apply And.intro
          · exact ⟨by omega, by omega⟩
          intro z164 h164
          first | replace h164 := e_add h164 (by omega) | replace h164 := e_rng h164
          exact ⟨_, ⟨_, _, _, _, _, _, rfl, rfl, rfl, rfl, (by first | omega | assumption | exact q_rg_up (by assumption) (by omega) | exact q_rg_up (q_rg_up (by assumption) (by omega)) (by omega) | exact q_rg_cpy (by assumption) (by assumption))⟩, by omega⟩
    by_cases h179 : dz = 179
    · subst h179
      obtain ⟨y_lx, y_fu, y_ow, v2, v5, rfl, rfl, rfl, hn, hp⟩ := hI
      apply And.intro
      · intro h183
        intro z206 h206
        first | replace h206 := e_add h206 (by omega) | replace h206 := e_rng h206
        exact ⟨_, ⟨_, _, _, _, rfl, rfl, rfl, rfl, (by first | omega | assumption | exact q_rg_up (by assumption) (by omega) | exact q_rg_up (q_rg_up (by assumption) (by omega)) (by omega) | exact q_rg_cpy (by assumption) (by assumption))⟩, by omega⟩
      · intro h183
        apply And.intro
        · exact ⟨by omega, by omega⟩
        intro z198 h198
        apply And.intro
        · exact ⟨by omega, by omega⟩
        intro z200 h200
        first | replace h200 := e_add h200 (by omega) | replace h200 := e_rng h200
        exact ⟨_, ⟨_, _, _, _, _, rfl, rfl, rfl, rfl, (by first | omega | assumption | exact q_rg_up (by assumption) (by omega) | exact q_rg_up (q_rg_up (by assumption) (by omega)) (by omega) | exact q_rg_cpy (by assumption) (by assumption))⟩, by omega⟩
    simp only [I_X12_findOwn, h2, h31, h42, h110, h120, h179, if_false] at hI
  rintro lv st w' ⟨rfl, rfl, rfl⟩
  exact ⟨_, _, _, rfl, rfl, rfl, rfl, (by first | omega | assumption | exact q_rg_up (by assumption) (by omega) | exact q_rg_up (q_rg_up (by assumption) (by omega)) (by omega) | exact q_rg_cpy (by assumption) (by assumption))⟩

theorem dX12_rowsBy_0 : decode cX12_rowsBy 0 = .ok (.iconst 0, 1) := by decide +kernel
theorem dX12_rowsBy_1 : decode cX12_rowsBy 1 = .ok (.istore 4, 2) := by decide +kernel
theorem dX12_rowsBy_3 : decode cX12_rowsBy 3 = .ok (.iload 4, 2) := by decide +kernel
theorem dX12_rowsBy_5 : decode cX12_rowsBy 5 = .ok (.bipush 8, 2) := by decide +kernel
theorem dX12_rowsBy_7 : decode cX12_rowsBy 7 = .ok (.if_icmp .gt 26, 3) := by decide +kernel
theorem dX12_rowsBy_10 : decode cX12_rowsBy 10 = .ok (.aload_n 0, 1) := by decide +kernel
theorem dX12_rowsBy_11 : decode cX12_rowsBy 11 = .ok (.getfield 66, 3) := by decide +kernel
theorem dX12_rowsBy_14 : decode cX12_rowsBy 14 = .ok (.iload 4, 2) := by decide +kernel
theorem dX12_rowsBy_16 : decode cX12_rowsBy 16 = .ok (.iload 4, 2) := by decide +kernel
theorem dX12_rowsBy_18 : decode cX12_rowsBy 18 = .ok (.ifCond .ne 7, 3) := by decide +kernel
theorem dX12_rowsBy_21 : decode cX12_rowsBy 21 = .ok (.lconst 1, 1) := by decide +kernel
theorem dX12_rowsBy_22 : decode cX12_rowsBy 22 = .ok (.goto 4, 3) := by decide +kernel
theorem dX12_rowsBy_25 : decode cX12_rowsBy 25 = .ok (.lconst 0, 1) := by decide +kernel
theorem dX12_rowsBy_26 : decode cX12_rowsBy 26 = .ok (.lastore, 1) := by decide +kernel
theorem dX12_rowsBy_27 : decode cX12_rowsBy 27 = .ok (.iinc 4 1, 3) := by decide +kernel
theorem dX12_rowsBy_30 : decode cX12_rowsBy 30 = .ok (.goto (-27), 3) := by decide +kernel
theorem dX12_rowsBy_33 : decode cX12_rowsBy 33 = .ok (.iconst 0, 1) := by decide +kernel
theorem dX12_rowsBy_34 : decode cX12_rowsBy 34 = .ok (.istore 4, 2) := by decide +kernel
theorem dX12_rowsBy_36 : decode cX12_rowsBy 36 = .ok (.iload 4, 2) := by decide +kernel
theorem dX12_rowsBy_38 : decode cX12_rowsBy 38 = .ok (.aload_n 0, 1) := by decide +kernel
theorem dX12_rowsBy_39 : decode cX12_rowsBy 39 = .ok (.getfield 303, 3) := by decide +kernel
theorem dX12_rowsBy_42 : decode cX12_rowsBy 42 = .ok (.if_icmp .ge 134, 3) := by decide +kernel
theorem dX12_rowsBy_45 : decode cX12_rowsBy 45 = .ok (.iconst 0, 1) := by decide +kernel
theorem dX12_rowsBy_46 : decode cX12_rowsBy 46 = .ok (.istore 5, 2) := by decide +kernel
theorem dX12_rowsBy_48 : decode cX12_rowsBy 48 = .ok (.iload 5, 2) := by decide +kernel
theorem dX12_rowsBy_50 : decode cX12_rowsBy 50 = .ok (.iload_n 1, 1) := by decide +kernel
theorem dX12_rowsBy_51 : decode cX12_rowsBy 51 = .ok (.if_icmp .gt 90, 3) := by decide +kernel
theorem dX12_rowsBy_54 : decode cX12_rowsBy 54 = .ok (.lconst 0, 1) := by decide +kernel
theorem dX12_rowsBy_55 : decode cX12_rowsBy 55 = .ok (.lstore 6, 2) := by decide +kernel
theorem dX12_rowsBy_57 : decode cX12_rowsBy 57 = .ok (.iconst 0, 1) := by decide +kernel
theorem dX12_rowsBy_58 : decode cX12_rowsBy 58 = .ok (.istore 8, 2) := by decide +kernel
theorem dX12_rowsBy_60 : decode cX12_rowsBy 60 = .ok (.iload 8, 2) := by decide +kernel
theorem dX12_rowsBy_62 : decode cX12_rowsBy 62 = .ok (.iload 5, 2) := by decide +kernel
theorem dX12_rowsBy_64 : decode cX12_rowsBy 64 = .ok (.if_icmp .gt 62, 3) := by decide +kernel
theorem dX12_rowsBy_67 : decode cX12_rowsBy 67 = .ok (.lload 6, 2) := by decide +kernel
theorem dX12_rowsBy_69 : decode cX12_rowsBy 69 = .ok (.iload 4, 2) := by decide +kernel
theorem dX12_rowsBy_71 : decode cX12_rowsBy 71 = .ok (.iload_n 2, 1) := by decide +kernel
theorem dX12_rowsBy_72 : decode cX12_rowsBy 72 = .ok (.if_icmp .ne 9, 3) := by decide +kernel
theorem dX12_rowsBy_75 : decode cX12_rowsBy 75 = .ok (.iload 8, 2) := by decide +kernel
theorem dX12_rowsBy_77 : decode cX12_rowsBy 77 = .ok (.iload_n 3, 1) := by decide +kernel
theorem dX12_rowsBy_78 : decode cX12_rowsBy 78 = .ok (.if_icmp .ne 38, 3) := by decide +kernel
theorem dX12_rowsBy_81 : decode cX12_rowsBy 81 = .ok (.aload_n 0, 1) := by decide +kernel
theorem dX12_rowsBy_82 : decode cX12_rowsBy 82 = .ok (.getfield 66, 3) := by decide +kernel
theorem dX12_rowsBy_85 : decode cX12_rowsBy 85 = .ok (.iload 5, 2) := by decide +kernel
theorem dX12_rowsBy_87 : decode cX12_rowsBy 87 = .ok (.iload 8, 2) := by decide +kernel
theorem dX12_rowsBy_89 : decode cX12_rowsBy 89 = .ok (.isub, 1) := by decide +kernel
theorem dX12_rowsBy_90 : decode cX12_rowsBy 90 = .ok (.laload, 1) := by decide +kernel
theorem dX12_rowsBy_91 : decode cX12_rowsBy 91 = .ok (.aload_n 0, 1) := by decide +kernel
theorem dX12_rowsBy_92 : decode cX12_rowsBy 92 = .ok (.getfield 62, 3) := by decide +kernel
theorem dX12_rowsBy_95 : decode cX12_rowsBy 95 = .ok (.bipush 9, 2) := by decide +kernel
theorem dX12_rowsBy_97 : decode cX12_rowsBy 97 = .ok (.iload 4, 2) := by decide +kernel
theorem dX12_rowsBy_99 : decode cX12_rowsBy 99 = .ok (.imul, 1) := by decide +kernel
theorem dX12_rowsBy_100 : decode cX12_rowsBy 100 = .ok (.iload 8, 2) := by decide +kernel
theorem dX12_rowsBy_102 : decode cX12_rowsBy 102 = .ok (.iadd, 1) := by decide +kernel
theorem dX12_rowsBy_103 : decode cX12_rowsBy 103 = .ok (.laload, 1) := by decide +kernel
theorem dX12_rowsBy_104 : decode cX12_rowsBy 104 = .ok (.lmul, 1) := by decide +kernel
theorem dX12_rowsBy_105 : decode cX12_rowsBy 105 = .ok (.iload 5, 2) := by decide +kernel
theorem dX12_rowsBy_107 : decode cX12_rowsBy 107 = .ok (.iload 8, 2) := by decide +kernel
theorem dX12_rowsBy_109 : decode cX12_rowsBy 109 = .ok (.invokestatic 471, 3) := by decide +kernel
theorem dX12_rowsBy_112 : decode cX12_rowsBy 112 = .ok (.lmul, 1) := by decide +kernel
theorem dX12_rowsBy_113 : decode cX12_rowsBy 113 = .ok (.goto 4, 3) := by decide +kernel
theorem dX12_rowsBy_116 : decode cX12_rowsBy 116 = .ok (.lconst 0, 1) := by decide +kernel
theorem dX12_rowsBy_117 : decode cX12_rowsBy 117 = .ok (.ladd, 1) := by decide +kernel
theorem dX12_rowsBy_118 : decode cX12_rowsBy 118 = .ok (.lstore 6, 2) := by decide +kernel
theorem dX12_rowsBy_120 : decode cX12_rowsBy 120 = .ok (.iinc 8 1, 3) := by decide +kernel
theorem dX12_rowsBy_123 : decode cX12_rowsBy 123 = .ok (.goto (-63), 3) := by decide +kernel
theorem dX12_rowsBy_126 : decode cX12_rowsBy 126 = .ok (.aload_n 0, 1) := by decide +kernel
theorem dX12_rowsBy_127 : decode cX12_rowsBy 127 = .ok (.getfield 69, 3) := by decide +kernel
theorem dX12_rowsBy_130 : decode cX12_rowsBy 130 = .ok (.iload 5, 2) := by decide +kernel
theorem dX12_rowsBy_132 : decode cX12_rowsBy 132 = .ok (.lload 6, 2) := by decide +kernel
theorem dX12_rowsBy_134 : decode cX12_rowsBy 134 = .ok (.lastore, 1) := by decide +kernel
theorem dX12_rowsBy_135 : decode cX12_rowsBy 135 = .ok (.iinc 5 1, 3) := by decide +kernel
theorem dX12_rowsBy_138 : decode cX12_rowsBy 138 = .ok (.goto (-90), 3) := by decide +kernel
theorem dX12_rowsBy_141 : decode cX12_rowsBy 141 = .ok (.iconst 0, 1) := by decide +kernel
theorem dX12_rowsBy_142 : decode cX12_rowsBy 142 = .ok (.istore 5, 2) := by decide +kernel
theorem dX12_rowsBy_144 : decode cX12_rowsBy 144 = .ok (.iload 5, 2) := by decide +kernel
theorem dX12_rowsBy_146 : decode cX12_rowsBy 146 = .ok (.iload_n 1, 1) := by decide +kernel
theorem dX12_rowsBy_147 : decode cX12_rowsBy 147 = .ok (.if_icmp .gt 23, 3) := by decide +kernel
theorem dX12_rowsBy_150 : decode cX12_rowsBy 150 = .ok (.aload_n 0, 1) := by decide +kernel
theorem dX12_rowsBy_151 : decode cX12_rowsBy 151 = .ok (.getfield 66, 3) := by decide +kernel
theorem dX12_rowsBy_154 : decode cX12_rowsBy 154 = .ok (.iload 5, 2) := by decide +kernel
theorem dX12_rowsBy_156 : decode cX12_rowsBy 156 = .ok (.aload_n 0, 1) := by decide +kernel
theorem dX12_rowsBy_157 : decode cX12_rowsBy 157 = .ok (.getfield 69, 3) := by decide +kernel
theorem dX12_rowsBy_160 : decode cX12_rowsBy 160 = .ok (.iload 5, 2) := by decide +kernel
theorem dX12_rowsBy_162 : decode cX12_rowsBy 162 = .ok (.laload, 1) := by decide +kernel
theorem dX12_rowsBy_163 : decode cX12_rowsBy 163 = .ok (.lastore, 1) := by decide +kernel
theorem dX12_rowsBy_164 : decode cX12_rowsBy 164 = .ok (.iinc 5 1, 3) := by decide +kernel
theorem dX12_rowsBy_167 : decode cX12_rowsBy 167 = .ok (.goto (-23), 3) := by decide +kernel
theorem dX12_rowsBy_170 : decode cX12_rowsBy 170 = .ok (.iinc 4 1, 3) := by decide +kernel
theorem dX12_rowsBy_173 : decode cX12_rowsBy 173 = .ok (.goto (-137), 3) := by decide +kernel
theorem dX12_rowsBy_176 : decode cX12_rowsBy 176 = .ok (.aload_n 0, 1) := by decide +kernel
theorem dX12_rowsBy_177 : decode cX12_rowsBy 177 = .ok (.getfield 66, 3) := by decide +kernel
theorem dX12_rowsBy_180 : decode cX12_rowsBy 180 = .ok (.iload_n 1, 1) := by decide +kernel
theorem dX12_rowsBy_181 : decode cX12_rowsBy 181 = .ok (.laload, 1) := by decide +kernel
theorem dX12_rowsBy_182 : decode cX12_rowsBy 182 = .ok (.lreturn, 1) := by decide +kernel
def is_X12_rowsBy : Nat → List Nat := fun d => if d = 3 then [0, 1, 2, 3, 4] else if d = 36 then [0, 1, 2, 3, 4] else if d = 48 then [0, 1, 2, 3, 4, 5] else if d = 60 then [0, 1, 2, 3, 4, 5, 6, 8] else if d = 144 then [0, 1, 2, 3, 4, 5] else []
set_option maxRecDepth 100000 in
def b_X12_rowsBy_144 (J : Nat → List qV → List qV → qW → Prop) (Q : qR) : qK := x_iload 5 (x_iload 1 (x_icmp_gt (x_iinc 4 1 (x_cut [0, 1, 2, 3, 4] (J 36))) (x_aload 0 (x_get 12 37 (x_iload 5 (x_aload 0 (x_get 12 38 (x_iload 5 (x_lald (x_last (x_nw (x_iinc 5 1 (x_cut [0, 1, 2, 3, 4, 5] (J 144))))))))))))))
set_option maxRecDepth 100000 in
theorem s_X12_rowsBy_144 {p : Program} {l : Launch} {e : Env} {R : Room} {s : State} {m : MethodId} {args : Array Value} {below : List Frame} {meth : Method} {c : Code} {nW : Nat} {dC : Nat → ClassId} {dI : Nat → Nat → Nat} {k : Nat → ClassId} {g : Nat → Nat} {A : Nat → Prop} {J : Nat → List qV → List qV → qW → Prop} {Q : qR} (X : q_X p R s m args meth c cX12_rowsBy 9 nW 1 24 RX12 (some .long) dC dI k g A) (hJ : ∀ d : Nat, q_Sd p l e R s m args below meth c 9 nW dC dI k g A (MQ below (q_post (dC, dI) k g nW Q A) args s 0 0 A) d (x_cut (is_X12_rowsBy d) (J d))) : q_Sd p l e R s m args below meth c 9 nW dC dI k g A (MQ below (q_post (dC, dI) k g nW Q A) args s 0 0 A) 144 (b_X12_rowsBy_144 J Q) := by
  unfold b_X12_rowsBy_144
  refine s_iload X dX12_rowsBy_144 ?_
  refine s_iload_n X rfl dX12_rowsBy_146 ?_
  refine s_icmp_gt X (tgt := 170) dX12_rowsBy_147 (by decide) ?_ ?_
  · refine s_iinc X (by decide) dX12_rowsBy_170 ?_
    refine s_goto X (tgt := 36) dX12_rowsBy_173 (by decide) ?_
    exact hJ 36
  · refine s_aload_n X rfl dX12_rowsBy_150 ?_
    refine s_get X (T := TX12) (C := RX12) (N := 45) tu_X12 rfl (by decide) tw_1034 dX12_rowsBy_151 ?_
    refine s_iload X dX12_rowsBy_154 ?_
    refine s_aload_n X rfl dX12_rowsBy_156 ?_
    refine s_get X (T := TX12) (C := RX12) (N := 45) tu_X12 rfl (by decide) tw_1035 dX12_rowsBy_157 ?_
    refine s_iload X dX12_rowsBy_160 ?_
    refine s_lald X dX12_rowsBy_162 ?_
    refine s_last X dX12_rowsBy_163 ?_
    refine s_nw ?_
    refine s_iinc X (by decide) dX12_rowsBy_164 ?_
    refine s_goto X (tgt := 144) dX12_rowsBy_167 (by decide) ?_
    exact hJ 144
set_option maxRecDepth 100000 in
def b_X12_rowsBy_117 (J : Nat → List qV → List qV → qW → Prop) (Q : qR) : qK := x_ladd (x_lstore 6 (x_iinc 8 1 (x_cut [0, 1, 2, 3, 4, 5, 6, 8] (J 60))))
set_option maxRecDepth 100000 in
theorem s_X12_rowsBy_117 {p : Program} {l : Launch} {e : Env} {R : Room} {s : State} {m : MethodId} {args : Array Value} {below : List Frame} {meth : Method} {c : Code} {nW : Nat} {dC : Nat → ClassId} {dI : Nat → Nat → Nat} {k : Nat → ClassId} {g : Nat → Nat} {A : Nat → Prop} {J : Nat → List qV → List qV → qW → Prop} {Q : qR} (X : q_X p R s m args meth c cX12_rowsBy 9 nW 1 24 RX12 (some .long) dC dI k g A) (hJ : ∀ d : Nat, q_Sd p l e R s m args below meth c 9 nW dC dI k g A (MQ below (q_post (dC, dI) k g nW Q A) args s 0 0 A) d (x_cut (is_X12_rowsBy d) (J d))) : q_Sd p l e R s m args below meth c 9 nW dC dI k g A (MQ below (q_post (dC, dI) k g nW Q A) args s 0 0 A) 117 (b_X12_rowsBy_117 J Q) := by
  unfold b_X12_rowsBy_117
  refine s_ladd X dX12_rowsBy_117 ?_
  refine s_lstore X (by decide) dX12_rowsBy_118 ?_
  refine s_iinc X (by decide) dX12_rowsBy_120 ?_
  refine s_goto X (tgt := 60) dX12_rowsBy_123 (by decide) ?_
  exact hJ 60
set_option maxRecDepth 100000 in
def b_X12_rowsBy_81 (J : Nat → List qV → List qV → qW → Prop) (Q : qR) : qK := x_aload 0 (x_get 12 37 (x_iload 5 (x_iload 8 (x_isub (x_lald (x_aload 0 (x_get 12 36 (x_int 9 (x_iload 4 (x_imul (x_iload 8 (x_iadd (x_lald (x_lmul (x_iload 5 (x_iload 8 (x_callr none 2 spr_X12_choose (x_lmul (b_X12_rowsBy_117 J Q)))))))))))))))))))
set_option maxRecDepth 100000 in
theorem s_X12_rowsBy_81 {p : Program} {l : Launch} {e : Env} {R : Room} {s : State} {m : MethodId} {args : Array Value} {below : List Frame} {meth : Method} {c : Code} {nW : Nat} {dC : Nat → ClassId} {dI : Nat → Nat → Nat} {k : Nat → ClassId} {g : Nat → Nat} {A : Nat → Prop} {J : Nat → List qV → List qV → qW → Prop} {Q : qR} (X : q_X p R s m args meth c cX12_rowsBy 9 nW 1 24 RX12 (some .long) dC dI k g A) (hJ : ∀ d : Nat, q_Sd p l e R s m args below meth c 9 nW dC dI k g A (MQ below (q_post (dC, dI) k g nW Q A) args s 0 0 A) d (x_cut (is_X12_rowsBy d) (J d))) : q_Sd p l e R s m args below meth c 9 nW dC dI k g A (MQ below (q_post (dC, dI) k g nW Q A) args s 0 0 A) 81 (b_X12_rowsBy_81 J Q) := by
  unfold b_X12_rowsBy_81
  refine s_aload_n X rfl dX12_rowsBy_81 ?_
  refine s_get X (T := TX12) (C := RX12) (N := 45) tu_X12 rfl (by decide) tw_1034 dX12_rowsBy_82 ?_
  refine s_iload X dX12_rowsBy_85 ?_
  refine s_iload X dX12_rowsBy_87 ?_
  refine s_isub X dX12_rowsBy_89 ?_
  refine s_lald X dX12_rowsBy_90 ?_
  refine s_aload_n X rfl dX12_rowsBy_91 ?_
  refine s_get X (T := TX12) (C := RX12) (N := 45) tu_X12 rfl (by decide) tw_1033 dX12_rowsBy_92 ?_
  refine s_bipush X ⟨by decide, by decide⟩ (by decide) dX12_rowsBy_95 ?_
  refine s_iload X dX12_rowsBy_97 ?_
  refine s_imul X dX12_rowsBy_99 ?_
  refine s_iload X dX12_rowsBy_100 ?_
  refine s_iadd X dX12_rowsBy_102 ?_
  refine s_lald X dX12_rowsBy_103 ?_
  refine s_lmul X dX12_rowsBy_104 ?_
  refine s_iload X dX12_rowsBy_105 ?_
  refine s_iload X dX12_rowsBy_107 ?_
  refine s_callSr X (m_X12_choose l) tw_1404 tw_1405 tw_134 tw_1406 (by decide +kernel) ⟨by decide, by decide⟩ dX12_rowsBy_109 ?_
  refine s_lmul X dX12_rowsBy_112 ?_
  refine s_goto X (tgt := 117) dX12_rowsBy_113 (by decide) ?_
  exact s_X12_rowsBy_117 X hJ
set_option maxRecDepth 100000 in
def b_X12_rowsBy_60 (J : Nat → List qV → List qV → qW → Prop) (Q : qR) : qK := x_iload 8 (x_iload 5 (x_icmp_gt (x_aload 0 (x_get 12 38 (x_iload 5 (x_lload 6 (x_last (x_nw (x_iinc 5 1 (x_cut [0, 1, 2, 3, 4, 5] (J 48))))))))) (x_lload 6 (x_iload 4 (x_iload 2 (x_icmp_ne (b_X12_rowsBy_81 J Q) (x_iload 8 (x_iload 3 (x_icmp_ne (x_lng 0 (b_X12_rowsBy_117 J Q)) (b_X12_rowsBy_81 J Q))))))))))
set_option maxRecDepth 100000 in
theorem s_X12_rowsBy_60 {p : Program} {l : Launch} {e : Env} {R : Room} {s : State} {m : MethodId} {args : Array Value} {below : List Frame} {meth : Method} {c : Code} {nW : Nat} {dC : Nat → ClassId} {dI : Nat → Nat → Nat} {k : Nat → ClassId} {g : Nat → Nat} {A : Nat → Prop} {J : Nat → List qV → List qV → qW → Prop} {Q : qR} (X : q_X p R s m args meth c cX12_rowsBy 9 nW 1 24 RX12 (some .long) dC dI k g A) (hJ : ∀ d : Nat, q_Sd p l e R s m args below meth c 9 nW dC dI k g A (MQ below (q_post (dC, dI) k g nW Q A) args s 0 0 A) d (x_cut (is_X12_rowsBy d) (J d))) : q_Sd p l e R s m args below meth c 9 nW dC dI k g A (MQ below (q_post (dC, dI) k g nW Q A) args s 0 0 A) 60 (b_X12_rowsBy_60 J Q) := by
  unfold b_X12_rowsBy_60
  refine s_iload X dX12_rowsBy_60 ?_
  refine s_iload X dX12_rowsBy_62 ?_
  refine s_icmp_gt X (tgt := 126) dX12_rowsBy_64 (by decide) ?_ ?_
  · refine s_aload_n X rfl dX12_rowsBy_126 ?_
    refine s_get X (T := TX12) (C := RX12) (N := 45) tu_X12 rfl (by decide) tw_1035 dX12_rowsBy_127 ?_
    refine s_iload X dX12_rowsBy_130 ?_
    refine s_lload X dX12_rowsBy_132 ?_
    refine s_last X dX12_rowsBy_134 ?_
    refine s_nw ?_
    refine s_iinc X (by decide) dX12_rowsBy_135 ?_
    refine s_goto X (tgt := 48) dX12_rowsBy_138 (by decide) ?_
    exact hJ 48
  · refine s_lload X dX12_rowsBy_67 ?_
    refine s_iload X dX12_rowsBy_69 ?_
    refine s_iload_n X rfl dX12_rowsBy_71 ?_
    refine s_icmp_ne X (tgt := 81) dX12_rowsBy_72 (by decide) ?_ ?_
    · exact s_X12_rowsBy_81 X hJ
    · refine s_iload X dX12_rowsBy_75 ?_
      refine s_iload_n X rfl dX12_rowsBy_77 ?_
      refine s_icmp_ne X (tgt := 116) dX12_rowsBy_78 (by decide) ?_ ?_
      · refine s_lconst X ⟨by decide, by decide⟩ (by decide) dX12_rowsBy_116 ?_
        exact s_X12_rowsBy_117 X hJ
      · exact s_X12_rowsBy_81 X hJ
set_option maxRecDepth 100000 in
def b_X12_rowsBy_48 (J : Nat → List qV → List qV → qW → Prop) (Q : qR) : qK := x_iload 5 (x_iload 1 (x_icmp_gt (x_int 0 (x_istore 5 (x_cut [0, 1, 2, 3, 4, 5] (J 144)))) (x_lng 0 (x_lstore 6 (x_int 0 (x_istore 8 (x_cut [0, 1, 2, 3, 4, 5, 6, 8] (J 60))))))))
set_option maxRecDepth 100000 in
theorem s_X12_rowsBy_48 {p : Program} {l : Launch} {e : Env} {R : Room} {s : State} {m : MethodId} {args : Array Value} {below : List Frame} {meth : Method} {c : Code} {nW : Nat} {dC : Nat → ClassId} {dI : Nat → Nat → Nat} {k : Nat → ClassId} {g : Nat → Nat} {A : Nat → Prop} {J : Nat → List qV → List qV → qW → Prop} {Q : qR} (X : q_X p R s m args meth c cX12_rowsBy 9 nW 1 24 RX12 (some .long) dC dI k g A) (hJ : ∀ d : Nat, q_Sd p l e R s m args below meth c 9 nW dC dI k g A (MQ below (q_post (dC, dI) k g nW Q A) args s 0 0 A) d (x_cut (is_X12_rowsBy d) (J d))) : q_Sd p l e R s m args below meth c 9 nW dC dI k g A (MQ below (q_post (dC, dI) k g nW Q A) args s 0 0 A) 48 (b_X12_rowsBy_48 J Q) := by
  unfold b_X12_rowsBy_48
  refine s_iload X dX12_rowsBy_48 ?_
  refine s_iload_n X rfl dX12_rowsBy_50 ?_
  refine s_icmp_gt X (tgt := 141) dX12_rowsBy_51 (by decide) ?_ ?_
  · refine s_iconst X ⟨by decide, by decide⟩ dX12_rowsBy_141 ?_
    refine s_istore X (by decide) dX12_rowsBy_142 ?_
    exact hJ 144
  · refine s_lconst X ⟨by decide, by decide⟩ (by decide) dX12_rowsBy_54 ?_
    refine s_lstore X (by decide) dX12_rowsBy_55 ?_
    refine s_iconst X ⟨by decide, by decide⟩ dX12_rowsBy_57 ?_
    refine s_istore X (by decide) dX12_rowsBy_58 ?_
    exact hJ 60
set_option maxRecDepth 100000 in
def b_X12_rowsBy_36 (J : Nat → List qV → List qV → qW → Prop) (Q : qR) : qK := x_iload 4 (x_aload 0 (x_get 12 25 (x_icmp_ge (x_aload 0 (x_get 12 37 (x_iload 1 (x_lald (x_lret Q))))) (x_int 0 (x_istore 5 (x_cut [0, 1, 2, 3, 4, 5] (J 48)))))))
set_option maxRecDepth 100000 in
theorem s_X12_rowsBy_36 {p : Program} {l : Launch} {e : Env} {R : Room} {s : State} {m : MethodId} {args : Array Value} {below : List Frame} {meth : Method} {c : Code} {nW : Nat} {dC : Nat → ClassId} {dI : Nat → Nat → Nat} {k : Nat → ClassId} {g : Nat → Nat} {A : Nat → Prop} {J : Nat → List qV → List qV → qW → Prop} {Q : qR} (X : q_X p R s m args meth c cX12_rowsBy 9 nW 1 24 RX12 (some .long) dC dI k g A) (hJ : ∀ d : Nat, q_Sd p l e R s m args below meth c 9 nW dC dI k g A (MQ below (q_post (dC, dI) k g nW Q A) args s 0 0 A) d (x_cut (is_X12_rowsBy d) (J d))) : q_Sd p l e R s m args below meth c 9 nW dC dI k g A (MQ below (q_post (dC, dI) k g nW Q A) args s 0 0 A) 36 (b_X12_rowsBy_36 J Q) := by
  unfold b_X12_rowsBy_36
  refine s_iload X dX12_rowsBy_36 ?_
  refine s_aload_n X rfl dX12_rowsBy_38 ?_
  refine s_get X (T := TX12) (C := RX12) (N := 45) tu_X12 rfl (by decide) tw_1022 dX12_rowsBy_39 ?_
  refine s_icmp_ge X (tgt := 176) dX12_rowsBy_42 (by decide) ?_ ?_
  · refine s_aload_n X rfl dX12_rowsBy_176 ?_
    refine s_get X (T := TX12) (C := RX12) (N := 45) tu_X12 rfl (by decide) tw_1034 dX12_rowsBy_177 ?_
    refine s_iload_n X rfl dX12_rowsBy_180 ?_
    refine s_lald X dX12_rowsBy_181 ?_
    exact s_lret X dX12_rowsBy_182
  · refine s_iconst X ⟨by decide, by decide⟩ dX12_rowsBy_45 ?_
    refine s_istore X (by decide) dX12_rowsBy_46 ?_
    exact hJ 48
set_option maxRecDepth 100000 in
def b_X12_rowsBy_26 (J : Nat → List qV → List qV → qW → Prop) (Q : qR) : qK := x_last (x_nw (x_iinc 4 1 (x_cut [0, 1, 2, 3, 4] (J 3))))
set_option maxRecDepth 100000 in
theorem s_X12_rowsBy_26 {p : Program} {l : Launch} {e : Env} {R : Room} {s : State} {m : MethodId} {args : Array Value} {below : List Frame} {meth : Method} {c : Code} {nW : Nat} {dC : Nat → ClassId} {dI : Nat → Nat → Nat} {k : Nat → ClassId} {g : Nat → Nat} {A : Nat → Prop} {J : Nat → List qV → List qV → qW → Prop} {Q : qR} (X : q_X p R s m args meth c cX12_rowsBy 9 nW 1 24 RX12 (some .long) dC dI k g A) (hJ : ∀ d : Nat, q_Sd p l e R s m args below meth c 9 nW dC dI k g A (MQ below (q_post (dC, dI) k g nW Q A) args s 0 0 A) d (x_cut (is_X12_rowsBy d) (J d))) : q_Sd p l e R s m args below meth c 9 nW dC dI k g A (MQ below (q_post (dC, dI) k g nW Q A) args s 0 0 A) 26 (b_X12_rowsBy_26 J Q) := by
  unfold b_X12_rowsBy_26
  refine s_last X dX12_rowsBy_26 ?_
  refine s_nw ?_
  refine s_iinc X (by decide) dX12_rowsBy_27 ?_
  refine s_goto X (tgt := 3) dX12_rowsBy_30 (by decide) ?_
  exact hJ 3
set_option maxRecDepth 100000 in
def b_X12_rowsBy_3 (J : Nat → List qV → List qV → qW → Prop) (Q : qR) : qK := x_iload 4 (x_int 8 (x_icmp_gt (x_int 0 (x_istore 4 (x_cut [0, 1, 2, 3, 4] (J 36)))) (x_aload 0 (x_get 12 37 (x_iload 4 (x_iload 4 (x_if_ne (x_lng 0 (b_X12_rowsBy_26 J Q)) (x_lng 1 (b_X12_rowsBy_26 J Q)))))))))
set_option maxRecDepth 100000 in
theorem s_X12_rowsBy_3 {p : Program} {l : Launch} {e : Env} {R : Room} {s : State} {m : MethodId} {args : Array Value} {below : List Frame} {meth : Method} {c : Code} {nW : Nat} {dC : Nat → ClassId} {dI : Nat → Nat → Nat} {k : Nat → ClassId} {g : Nat → Nat} {A : Nat → Prop} {J : Nat → List qV → List qV → qW → Prop} {Q : qR} (X : q_X p R s m args meth c cX12_rowsBy 9 nW 1 24 RX12 (some .long) dC dI k g A) (hJ : ∀ d : Nat, q_Sd p l e R s m args below meth c 9 nW dC dI k g A (MQ below (q_post (dC, dI) k g nW Q A) args s 0 0 A) d (x_cut (is_X12_rowsBy d) (J d))) : q_Sd p l e R s m args below meth c 9 nW dC dI k g A (MQ below (q_post (dC, dI) k g nW Q A) args s 0 0 A) 3 (b_X12_rowsBy_3 J Q) := by
  unfold b_X12_rowsBy_3
  refine s_iload X dX12_rowsBy_3 ?_
  refine s_bipush X ⟨by decide, by decide⟩ (by decide) dX12_rowsBy_5 ?_
  refine s_icmp_gt X (tgt := 33) dX12_rowsBy_7 (by decide) ?_ ?_
  · refine s_iconst X ⟨by decide, by decide⟩ dX12_rowsBy_33 ?_
    refine s_istore X (by decide) dX12_rowsBy_34 ?_
    exact hJ 36
  · refine s_aload_n X rfl dX12_rowsBy_10 ?_
    refine s_get X (T := TX12) (C := RX12) (N := 45) tu_X12 rfl (by decide) tw_1034 dX12_rowsBy_11 ?_
    refine s_iload X dX12_rowsBy_14 ?_
    refine s_iload X dX12_rowsBy_16 ?_
    refine s_if_ne X (tgt := 25) dX12_rowsBy_18 (by decide) ?_ ?_
    · refine s_lconst X ⟨by decide, by decide⟩ (by decide) dX12_rowsBy_25 ?_
      exact s_X12_rowsBy_26 X hJ
    · refine s_lconst X ⟨by decide, by decide⟩ (by decide) dX12_rowsBy_21 ?_
      refine s_goto X (tgt := 26) dX12_rowsBy_22 (by decide) ?_
      exact s_X12_rowsBy_26 X hJ
set_option maxRecDepth 100000 in
def b_X12_rowsBy_0 (J : Nat → List qV → List qV → qW → Prop) (Q : qR) : qK := x_int 0 (x_istore 4 (x_cut [0, 1, 2, 3, 4] (J 3)))
set_option maxRecDepth 100000 in
theorem s_X12_rowsBy_0 {p : Program} {l : Launch} {e : Env} {R : Room} {s : State} {m : MethodId} {args : Array Value} {below : List Frame} {meth : Method} {c : Code} {nW : Nat} {dC : Nat → ClassId} {dI : Nat → Nat → Nat} {k : Nat → ClassId} {g : Nat → Nat} {A : Nat → Prop} {J : Nat → List qV → List qV → qW → Prop} {Q : qR} (X : q_X p R s m args meth c cX12_rowsBy 9 nW 1 24 RX12 (some .long) dC dI k g A) (hJ : ∀ d : Nat, q_Sd p l e R s m args below meth c 9 nW dC dI k g A (MQ below (q_post (dC, dI) k g nW Q A) args s 0 0 A) d (x_cut (is_X12_rowsBy d) (J d))) : q_Sd p l e R s m args below meth c 9 nW dC dI k g A (MQ below (q_post (dC, dI) k g nW Q A) args s 0 0 A) 0 (b_X12_rowsBy_0 J Q) := by
  unfold b_X12_rowsBy_0
  refine s_iconst X ⟨by decide, by decide⟩ dX12_rowsBy_0 ?_
  refine s_istore X (by decide) dX12_rowsBy_1 ?_
  exact hJ 3

def sp_X12_rowsBy : qS := fun av w Q => ∃ (mco : Int) (mre : Int) (mle : Int) (mbe : Int) (mso : Int) (mva : Int) (mwo : Int) (mwr : Int) (mlf : Int) (mlp : Int) (mfp : Int) (mfd : Int) (mgo : Int) (mbo : Int) (mpe : Int) (mye : Int) (mpr : Int) (mld : Int) (msi : Int) (mse : Int) (ow : Nat → Int) (rw : Nat → Int) (th : Nat → Int) (a : Int) (b : Int) (cc : Int), av = [q2 0, q1 a, q1 b, q1 cc] ∧ w = [.inr (12, [q1 mco, q2 4, q2 5, q2 6, q2 7, q2 8, q2 9, q2 10, q2 11, q2 12, q1 mre, q1 mle, q1 mbe, q1 mso, q1 mva, q3 mwo, q1 mwr, q1 mlf, q1 mlp, q2 13, q2 14, q1 mfp, q1 mfd, q1 mgo, q1 mbo, q1 mpe, q1 mye, q2 15, q1 mpr, q2 16, q2 17, q2 18, q2 19, q1 mld, q2 20, q1 msi, q2 1, q2 2, q2 3, q2 21, q2 22, q1 mse, q2 23, q2 24, q2 25]), .inl (3, 72, .inr (.inl ow)), .inl (3, 9, .inr (.inl rw)), .inl (3, 9, .inr (.inl th))] ∧ (0 ≤ mpe ∧ mpe ≤ 8) ∧ (0 ≤ a ∧ a ≤ 8) ∧ (∀ (r : Int) (x_rw : Nat → Int) (x_th : Nat → Int), Q (some (q3 r)) ([.inr (12, [q1 mco, q2 4, q2 5, q2 6, q2 7, q2 8, q2 9, q2 10, q2 11, q2 12, q1 mre, q1 mle, q1 mbe, q1 mso, q1 mva, q3 mwo, q1 mwr, q1 mlf, q1 mlp, q2 13, q2 14, q1 mfp, q1 mfd, q1 mgo, q1 mbo, q1 mpe, q1 mye, q2 15, q1 mpr, q2 16, q2 17, q2 18, q2 19, q1 mld, q2 20, q1 msi, q2 1, q2 2, q2 3, q2 21, q2 22, q1 mse, q2 23, q2 24, q2 25]), .inl (3, 72, .inr (.inl ow)), .inl (3, 9, .inr (.inl x_rw)), .inl (3, 9, .inr (.inl x_th))]))
def I_X12_rowsBy (mco : Int) (mre : Int) (mle : Int) (mbe : Int) (mso : Int) (mva : Int) (mwo : Int) (mwr : Int) (mlf : Int) (mlp : Int) (mfp : Int) (mfd : Int) (mgo : Int) (mbo : Int) (mpe : Int) (mye : Int) (mpr : Int) (mld : Int) (msi : Int) (mse : Int) (ow : Nat → Int) (rw : Nat → Int) (th : Nat → Int) (a : Int) (b : Int) (cc : Int) : Nat → Nat → List qV → List qV → qW → Prop := fun dz mz vz sz wz => if dz = 3 then (∃ (y_rw : Nat → Int) (v4 : Int), vz = [q2 0, q1 a, q1 b, q1 cc, q1 v4] ∧ sz = [] ∧ wz = [.inr (12, [q1 mco, q2 4, q2 5, q2 6, q2 7, q2 8, q2 9, q2 10, q2 11, q2 12, q1 mre, q1 mle, q1 mbe, q1 mso, q1 mva, q3 mwo, q1 mwr, q1 mlf, q1 mlp, q2 13, q2 14, q1 mfp, q1 mfd, q1 mgo, q1 mbo, q1 mpe, q1 mye, q2 15, q1 mpr, q2 16, q2 17, q2 18, q2 19, q1 mld, q2 20, q1 msi, q2 1, q2 2, q2 3, q2 21, q2 22, q1 mse, q2 23, q2 24, q2 25]), .inl (3, 72, .inr (.inl ow)), .inl (3, 9, .inr (.inl y_rw)), .inl (3, 9, .inr (.inl th))] ∧ mz = 1000000 + (9 - v4).toNat ∧ (0 ≤ v4 ∧ v4 ≤ 9)) else if dz = 36 then (∃ (y_rw : Nat → Int) (y_th : Nat → Int) (v4 : Int), vz = [q2 0, q1 a, q1 b, q1 cc, q1 v4] ∧ sz = [] ∧ wz = [.inr (12, [q1 mco, q2 4, q2 5, q2 6, q2 7, q2 8, q2 9, q2 10, q2 11, q2 12, q1 mre, q1 mle, q1 mbe, q1 mso, q1 mva, q3 mwo, q1 mwr, q1 mlf, q1 mlp, q2 13, q2 14, q1 mfp, q1 mfd, q1 mgo, q1 mbo, q1 mpe, q1 mye, q2 15, q1 mpr, q2 16, q2 17, q2 18, q2 19, q1 mld, q2 20, q1 msi, q2 1, q2 2, q2 3, q2 21, q2 22, q1 mse, q2 23, q2 24, q2 25]), .inl (3, 72, .inr (.inl ow)), .inl (3, 9, .inr (.inl y_rw)), .inl (3, 9, .inr (.inl y_th))] ∧ mz = 10000 * (8 - v4).toNat ∧ (0 ≤ v4 ∧ v4 ≤ mpe)) else if dz = 48 then (∃ (y_rw : Nat → Int) (y_th : Nat → Int) (v4 : Int) (v5 : Int), vz = [q2 0, q1 a, q1 b, q1 cc, q1 v4, q1 v5] ∧ sz = [] ∧ wz = [.inr (12, [q1 mco, q2 4, q2 5, q2 6, q2 7, q2 8, q2 9, q2 10, q2 11, q2 12, q1 mre, q1 mle, q1 mbe, q1 mso, q1 mva, q3 mwo, q1 mwr, q1 mlf, q1 mlp, q2 13, q2 14, q1 mfp, q1 mfd, q1 mgo, q1 mbo, q1 mpe, q1 mye, q2 15, q1 mpr, q2 16, q2 17, q2 18, q2 19, q1 mld, q2 20, q1 msi, q2 1, q2 2, q2 3, q2 21, q2 22, q1 mse, q2 23, q2 24, q2 25]), .inl (3, 72, .inr (.inl ow)), .inl (3, 9, .inr (.inl y_rw)), .inl (3, 9, .inr (.inl y_th))] ∧ mz = 10000 * (8 - v4).toNat - 1000 + 20 * (9 - v5).toNat ∧ (0 ≤ v4 ∧ v4 < mpe ∧ 0 ≤ v5 ∧ v5 ≤ a + 1)) else if dz = 60 then (∃ (y_rw : Nat → Int) (y_th : Nat → Int) (v4 : Int) (v5 : Int) (v6 : Int) (v8 : Int), vz = [q2 0, q1 a, q1 b, q1 cc, q1 v4, q1 v5, q3 v6, q1 v8] ∧ sz = [] ∧ wz = [.inr (12, [q1 mco, q2 4, q2 5, q2 6, q2 7, q2 8, q2 9, q2 10, q2 11, q2 12, q1 mre, q1 mle, q1 mbe, q1 mso, q1 mva, q3 mwo, q1 mwr, q1 mlf, q1 mlp, q2 13, q2 14, q1 mfp, q1 mfd, q1 mgo, q1 mbo, q1 mpe, q1 mye, q2 15, q1 mpr, q2 16, q2 17, q2 18, q2 19, q1 mld, q2 20, q1 msi, q2 1, q2 2, q2 3, q2 21, q2 22, q1 mse, q2 23, q2 24, q2 25]), .inl (3, 72, .inr (.inl ow)), .inl (3, 9, .inr (.inl y_rw)), .inl (3, 9, .inr (.inl y_th))] ∧ mz = 10000 * (8 - v4).toNat - 1000 + 20 * (9 - v5).toNat - 15 + (9 - v8).toNat ∧ (0 ≤ v4 ∧ v4 < mpe ∧ 0 ≤ v5 ∧ v5 ≤ a ∧ 0 ≤ v8 ∧ v8 ≤ v5 + 1)) else if dz = 144 then (∃ (y_rw : Nat → Int) (y_th : Nat → Int) (v4 : Int) (v5 : Int), vz = [q2 0, q1 a, q1 b, q1 cc, q1 v4, q1 v5] ∧ sz = [] ∧ wz = [.inr (12, [q1 mco, q2 4, q2 5, q2 6, q2 7, q2 8, q2 9, q2 10, q2 11, q2 12, q1 mre, q1 mle, q1 mbe, q1 mso, q1 mva, q3 mwo, q1 mwr, q1 mlf, q1 mlp, q2 13, q2 14, q1 mfp, q1 mfd, q1 mgo, q1 mbo, q1 mpe, q1 mye, q2 15, q1 mpr, q2 16, q2 17, q2 18, q2 19, q1 mld, q2 20, q1 msi, q2 1, q2 2, q2 3, q2 21, q2 22, q1 mse, q2 23, q2 24, q2 25]), .inl (3, 72, .inr (.inl ow)), .inl (3, 9, .inr (.inl y_rw)), .inl (3, 9, .inr (.inl y_th))] ∧ mz = 10000 * (8 - v4).toNat - 5000 + (9 - v5).toNat ∧ (0 ≤ v4 ∧ v4 < mpe ∧ 0 ≤ v5 ∧ v5 ≤ a + 1)) else False
set_option maxHeartbeats 4000000 in
set_option maxRecDepth 100000 in
theorem m_X12_rowsBy (l : Launch) : q_M l yX12_rowsBy cX12_rowsBy 9 (some .long) 1 24 sp_X12_rowsBy := by
  refine q_meth (by decide) (fun av w Q h => by obtain ⟨mco, mre, mle, mbe, mso, mva, mwo, mwr, mlf, mlp, mfp, mfd, mgo, mbo, mpe, mye, mpr, mld, msi, mse, ow, rw, th, a, b, cc, rfl, rfl, hpe, ha, hQ⟩ := h; exact Nat.le_of_ble_eq_true rfl) ?_
  intro p e R s m args below meth c dC dI k g A av w Q hsp oka okw X
  obtain ⟨mco, mre, mle, mbe, mso, mva, mwo, mwr, mlf, mlp, mfp, mfd, mgo, mbo, mpe, mye, mpr, mld, msi, mse, ow, rw, th, a, b, cc, rfl, rfl, hpe, ha, hQ⟩ := hsp
  have o_a : -2147483648 ≤ a ∧ a ≤ 2147483647 := oka _ (List.mem_of_getElem? (i := 1) rfl)
  have o_b : -2147483648 ≤ b ∧ b ≤ 2147483647 := oka _ (List.mem_of_getElem? (i := 2) rfl)
  have o_cc : -2147483648 ≤ cc ∧ cc ≤ 2147483647 := oka _ (List.mem_of_getElem? (i := 3) rfl)
  refine s_mono (s_X12_rowsBy_0 X (J := fun dz vz sz wz => ∃ mz, I_X12_rowsBy mco mre mle mbe mso mva mwo mwr mlf mlp mfp mfd mgo mbo mpe mye mpr mld msi mse ow rw th a b cc dz mz vz sz wz) (q_loopn (I_X12_rowsBy mco mre mle mbe mso mva mwo mwr mlf mlp mfp mfd mgo mbo mpe mye mpr mld msi mse ow rw th a b cc) (fun dz J => if dz = 3 then b_X12_rowsBy_3 J Q else if dz = 36 then b_X12_rowsBy_36 J Q else if dz = 48 then b_X12_rowsBy_48 J Q else if dz = 60 then b_X12_rowsBy_60 J Q else if dz = 144 then b_X12_rowsBy_144 J Q else q_F) ?hs ?hv)) ?_
  case hs =>
    intro d J hJ
    by_cases h3 : d = 3
    · subst h3; exact s_X12_rowsBy_3 X hJ
    by_cases h36 : d = 36
    · subst h36; exact s_X12_rowsBy_36 X hJ
    by_cases h48 : d = 48
    · subst h48; exact s_X12_rowsBy_48 X hJ
    by_cases h60 : d = 60
    · subst h60; exact s_X12_rowsBy_60 X hJ
    by_cases h144 : d = 144
    · subst h144; exact s_X12_rowsBy_144 X hJ
    simp only [h3, h36, h48, h60, h144, if_false]
    exact s_F
  case hv =>
    intro dz mz vz sz wz hI okv oks okw hlen
    by_cases h3 : dz = 3
    · subst h3
      obtain ⟨y_rw, v4, rfl, rfl, rfl, hn, hp⟩ := hI
      apply And.intro
      · intro h7
        exact ⟨_, ⟨_, _, _, rfl, rfl, rfl, rfl, (by first | omega | assumption | exact q_rg_up (by assumption) (by omega) | exact q_rg_up (q_rg_up (by assumption) (by omega)) (by omega) | exact q_rg_cpy (by assumption) (by assumption))⟩, by omega⟩
      · intro h7
        apply And.intro
        · intro h18
          apply And.intro
          · exact ⟨by omega, by omega⟩
          intro z27 h27
          first | replace h27 := e_add h27 (by omega) | replace h27 := e_rng h27
          exact ⟨_, ⟨_, _, rfl, rfl, rfl, rfl, (by first | omega | assumption | exact q_rg_up (by assumption) (by omega) | exact q_rg_up (q_rg_up (by assumption) (by omega)) (by omega) | exact q_rg_cpy (by assumption) (by assumption))⟩, by omega⟩
        · intro h18
          apply And.intro
          · exact ⟨by omega, by omega⟩
          intro z27 h27
          first | replace h27 := e_add h27 (by omega) | replace h27 := e_rng h27
          exact ⟨_, ⟨_, _, rfl, rfl, rfl, rfl, (by first | omega | assumption | exact q_rg_up (by assumption) (by omega) | exact q_rg_up (q_rg_up (by assumption) (by omega)) (by omega) | exact q_rg_cpy (by assumption) (by assumption))⟩, by omega⟩
    by_cases h36 : dz = 36
    · subst h36
      obtain ⟨y_rw, y_th, v4, rfl, rfl, rfl, hn, hp⟩ := hI
      apply And.intro
      · intro h42
        apply And.intro
        · exact ⟨by omega, by omega⟩
        intro z181 h181
        exact hQ _ _ _
      · intro h42
        exact ⟨_, ⟨_, _, _, _, rfl, rfl, rfl, rfl, (by first | omega | assumption | exact q_rg_up (by assumption) (by omega) | exact q_rg_up (q_rg_up (by assumption) (by omega)) (by omega) | exact q_rg_cpy (by assumption) (by assumption))⟩, by omega⟩
    by_cases h48 : dz = 48
    · subst h48
      obtain ⟨y_rw, y_th, v4, v5, rfl, rfl, rfl, hn, hp⟩ := hI
      apply And.intro
      · intro h51
        exact ⟨_, ⟨_, _, _, _, rfl, rfl, rfl, rfl, (by first | omega | assumption | exact q_rg_up (by assumption) (by omega) | exact q_rg_up (q_rg_up (by assumption) (by omega)) (by omega) | exact q_rg_cpy (by assumption) (by assumption))⟩, by omega⟩
      · intro h51
        exact ⟨_, ⟨_, _, _, _, _, _, rfl, rfl, rfl, rfl, (by first | omega | assumption | exact q_rg_up (by assumption) (by omega) | exact q_rg_up (q_rg_up (by assumption) (by omega)) (by omega) | exact q_rg_cpy (by assumption) (by assumption))⟩, by omega⟩
    by_cases h60 : dz = 60
    · subst h60
      obtain ⟨y_rw, y_th, v4, v5, v6, v8, rfl, rfl, rfl, hn, hp⟩ := hI
      apply And.intro
      · intro h64
        apply And.intro
        · exact ⟨by omega, by omega⟩
        intro z135 h135
        first | replace h135 := e_add h135 (by omega) | replace h135 := e_rng h135
        exact ⟨_, ⟨_, _, _, _, rfl, rfl, rfl, rfl, (by first | omega | assumption | exact q_rg_up (by assumption) (by omega) | exact q_rg_up (q_rg_up (by assumption) (by omega)) (by omega) | exact q_rg_cpy (by assumption) (by assumption))⟩, by omega⟩
      · intro h64
        apply And.intro
        · intro h72
          intro z89 h89
          first | replace h89 := e_sub h89 (by omega) | replace h89 := e_rng h89
          apply And.intro
          · exact ⟨by omega, by omega⟩
          intro z90 h90
          intro z99 h99
          first | replace h99 := e_mul h99 (by omega) | replace h99 := e_rng h99
          intro z102 h102
          first | replace h102 := e_add h102 (by omega) | replace h102 := e_rng h102
          apply And.intro
          · exact ⟨by omega, by omega⟩
          intro z103 h103
          intro z104 h104
          replace h104 := e_rngl h104
          refine Exists.intro [] (Exists.intro [q1 _, q1 _] (Exists.intro [] (And.intro rfl (And.intro rfl (And.intro rfl (And.intro trivial ?_))))))
          refine Exists.intro _ (Exists.intro _ (And.intro rfl (And.intro rfl (And.intro (by first | omega | assumption | exact q_rg_up (by assumption) (by omega) | exact q_rg_up (q_rg_up (by assumption) (by omega)) (by omega) | exact q_rg_cpy (by assumption) (by assumption)) (?_)))))
          intro z109
          intro z112 h112
          replace h112 := e_rngl h112
          intro z117 h117
          replace h117 := e_rngl h117
          intro z120 h120
          first | replace h120 := e_add h120 (by omega) | replace h120 := e_rng h120
          exact ⟨_, ⟨_, _, _, _, _, _, rfl, rfl, rfl, rfl, (by first | omega | assumption | exact q_rg_up (by assumption) (by omega) | exact q_rg_up (q_rg_up (by assumption) (by omega)) (by omega) | exact q_rg_cpy (by assumption) (by assumption))⟩, by omega⟩
        · intro h72
          apply And.intro
          · intro h78
            intro z117 h117
            replace h117 := e_rngl h117
            intro z120 h120
            first | replace h120 := e_add h120 (by omega) | replace h120 := e_rng h120
            exact ⟨_, ⟨_, _, _, _, _, _, rfl, rfl, rfl, rfl, (by first | omega | assumption | exact q_rg_up (by assumption) (by omega) | exact q_rg_up (q_rg_up (by assumption) (by omega)) (by omega) | exact q_rg_cpy (by assumption) (by assumption))⟩, by omega⟩
          · intro h78
            intro z89 h89
            first | replace h89 := e_sub h89 (by omega) | replace h89 := e_rng h89
            apply And.intro
            · exact ⟨by omega, by omega⟩
            intro z90 h90
            intro z99 h99
            first | replace h99 := e_mul h99 (by omega) | replace h99 := e_rng h99
            intro z102 h102
            first | replace h102 := e_add h102 (by omega) | replace h102 := e_rng h102
            apply And.intro
            · exact ⟨by omega, by omega⟩
            intro z103 h103
            intro z104 h104
            replace h104 := e_rngl h104
            refine Exists.intro [] (Exists.intro [q1 _, q1 _] (Exists.intro [] (And.intro rfl (And.intro rfl (And.intro rfl (And.intro trivial ?_))))))
            refine Exists.intro _ (Exists.intro _ (And.intro rfl (And.intro rfl (And.intro (by first | omega | assumption | exact q_rg_up (by assumption) (by omega) | exact q_rg_up (q_rg_up (by assumption) (by omega)) (by omega) | exact q_rg_cpy (by assumption) (by assumption)) (?_)))))
            intro z109
            intro z112 h112
            replace h112 := e_rngl h112
            intro z117 h117
            replace h117 := e_rngl h117
            intro z120 h120
            first | replace h120 := e_add h120 (by omega) | replace h120 := e_rng h120
            exact ⟨_, ⟨_, _, _, _, _, _, rfl, rfl, rfl, rfl, (by first | omega | assumption | exact q_rg_up (by assumption) (by omega) | exact q_rg_up (q_rg_up (by assumption) (by omega)) (by omega) | exact q_rg_cpy (by assumption) (by assumption))⟩, by omega⟩
    by_cases h144 : dz = 144
    · subst h144
      obtain ⟨y_rw, y_th, v4, v5, rfl, rfl, rfl, hn, hp⟩ := hI
      apply And.intro
      · intro h147
        intro z170 h170
        first | replace h170 := e_add h170 (by omega) | replace h170 := e_rng h170
        exact ⟨_, ⟨_, _, _, rfl, rfl, rfl, rfl, (by first | omega | assumption | exact q_rg_up (by assumption) (by omega) | exact q_rg_up (q_rg_up (by assumption) (by omega)) (by omega) | exact q_rg_cpy (by assumption) (by assumption))⟩, by omega⟩
      · intro h147
        apply And.intro
        · exact ⟨by omega, by omega⟩
        intro z162 h162
        apply And.intro
        · exact ⟨by omega, by omega⟩
        intro z164 h164
        first | replace h164 := e_add h164 (by omega) | replace h164 := e_rng h164
        exact ⟨_, ⟨_, _, _, _, rfl, rfl, rfl, rfl, (by first | omega | assumption | exact q_rg_up (by assumption) (by omega) | exact q_rg_up (q_rg_up (by assumption) (by omega)) (by omega) | exact q_rg_cpy (by assumption) (by assumption))⟩, by omega⟩
    simp only [I_X12_rowsBy, h3, h36, h48, h60, h144, if_false] at hI
  rintro lv st w' ⟨rfl, rfl, rfl⟩
  exact ⟨_, _, _, rfl, rfl, rfl, rfl, (by first | omega | assumption | exact q_rg_up (by assumption) (by omega) | exact q_rg_up (q_rg_up (by assumption) (by omega)) (by omega) | exact q_rg_cpy (by assumption) (by assumption))⟩

theorem dX12_findAllOwn_0 : decode cX12_findAllOwn 0 = .ok (.iconst 0, 1) := by decide +kernel
theorem dX12_findAllOwn_1 : decode cX12_findAllOwn 1 = .ok (.istore_n 1, 1) := by decide +kernel
theorem dX12_findAllOwn_2 : decode cX12_findAllOwn 2 = .ok (.iload_n 1, 1) := by decide +kernel
theorem dX12_findAllOwn_3 : decode cX12_findAllOwn 3 = .ok (.aload_n 0, 1) := by decide +kernel
theorem dX12_findAllOwn_4 : decode cX12_findAllOwn 4 = .ok (.getfield 303, 3) := by decide +kernel
theorem dX12_findAllOwn_7 : decode cX12_findAllOwn 7 = .ok (.if_icmp .ge 14, 3) := by decide +kernel
theorem dX12_findAllOwn_10 : decode cX12_findAllOwn 10 = .ok (.aload_n 0, 1) := by decide +kernel
theorem dX12_findAllOwn_11 : decode cX12_findAllOwn 11 = .ok (.iload_n 1, 1) := by decide +kernel
theorem dX12_findAllOwn_12 : decode cX12_findAllOwn 12 = .ok (.invokevirtual 475, 3) := by decide +kernel
theorem dX12_findAllOwn_15 : decode cX12_findAllOwn 15 = .ok (.iinc 1 1, 3) := by decide +kernel
theorem dX12_findAllOwn_18 : decode cX12_findAllOwn 18 = .ok (.goto (-16), 3) := by decide +kernel
theorem dX12_findAllOwn_21 : decode cX12_findAllOwn 21 = .ok (.return_, 1) := by decide +kernel
def is_X12_findAllOwn : Nat → List Nat := fun d => if d = 2 then [0, 1] else []
set_option maxRecDepth 100000 in
def b_X12_findAllOwn_2 (J : Nat → List qV → List qV → qW → Prop) (Q : qR) : qK := x_iload 1 (x_aload 0 (x_get 12 25 (x_icmp_ge (x_vret Q) (x_aload 0 (x_iload 1 (x_call (some 12) 2 sp_X12_findOwn (x_nw (x_iinc 1 1 (x_cut [0, 1] (J 2))))))))))
set_option maxRecDepth 100000 in
theorem s_X12_findAllOwn_2 {p : Program} {l : Launch} {e : Env} {R : Room} {s : State} {m : MethodId} {args : Array Value} {below : List Frame} {meth : Method} {c : Code} {nW : Nat} {dC : Nat → ClassId} {dI : Nat → Nat → Nat} {k : Nat → ClassId} {g : Nat → Nat} {A : Nat → Prop} {J : Nat → List qV → List qV → qW → Prop} {Q : qR} (X : q_X p R s m args meth c cX12_findAllOwn 2 nW 3 73 RX12 none dC dI k g A) (hJ : ∀ d : Nat, q_Sd p l e R s m args below meth c 2 nW dC dI k g A (MQ below (q_post (dC, dI) k g nW Q A) args s 0 0 A) d (x_cut (is_X12_findAllOwn d) (J d))) : q_Sd p l e R s m args below meth c 2 nW dC dI k g A (MQ below (q_post (dC, dI) k g nW Q A) args s 0 0 A) 2 (b_X12_findAllOwn_2 J Q) := by
  unfold b_X12_findAllOwn_2
  refine s_iload_n X rfl dX12_findAllOwn_2 ?_
  refine s_aload_n X rfl dX12_findAllOwn_3 ?_
  refine s_get X (T := TX12) (C := RX12) (N := 45) tu_X12 rfl (by decide) tw_1022 dX12_findAllOwn_4 ?_
  refine s_icmp_ge X (tgt := 21) dX12_findAllOwn_7 (by decide) ?_ ?_
  · exact s_vret X dX12_findAllOwn_21
  · refine s_aload_n X rfl dX12_findAllOwn_10 ?_
    refine s_iload_n X rfl dX12_findAllOwn_11 ?_
    refine s_callV X (m_X12_findOwn l) tw_1395 tw_1396 tw_1572 tw_134 tw_1397 rfl (by decide +kernel) ⟨by decide, by decide⟩ dX12_findAllOwn_12 ?_
    refine s_nw ?_
    refine s_iinc X (by decide) dX12_findAllOwn_15 ?_
    refine s_goto X (tgt := 2) dX12_findAllOwn_18 (by decide) ?_
    exact hJ 2
set_option maxRecDepth 100000 in
def b_X12_findAllOwn_0 (J : Nat → List qV → List qV → qW → Prop) (Q : qR) : qK := x_int 0 (x_istore 1 (x_cut [0, 1] (J 2)))
set_option maxRecDepth 100000 in
theorem s_X12_findAllOwn_0 {p : Program} {l : Launch} {e : Env} {R : Room} {s : State} {m : MethodId} {args : Array Value} {below : List Frame} {meth : Method} {c : Code} {nW : Nat} {dC : Nat → ClassId} {dI : Nat → Nat → Nat} {k : Nat → ClassId} {g : Nat → Nat} {A : Nat → Prop} {J : Nat → List qV → List qV → qW → Prop} {Q : qR} (X : q_X p R s m args meth c cX12_findAllOwn 2 nW 3 73 RX12 none dC dI k g A) (hJ : ∀ d : Nat, q_Sd p l e R s m args below meth c 2 nW dC dI k g A (MQ below (q_post (dC, dI) k g nW Q A) args s 0 0 A) d (x_cut (is_X12_findAllOwn d) (J d))) : q_Sd p l e R s m args below meth c 2 nW dC dI k g A (MQ below (q_post (dC, dI) k g nW Q A) args s 0 0 A) 0 (b_X12_findAllOwn_0 J Q) := by
  unfold b_X12_findAllOwn_0
  refine s_iconst X ⟨by decide, by decide⟩ dX12_findAllOwn_0 ?_
  refine s_istore_n X rfl (by decide) dX12_findAllOwn_1 ?_
  exact hJ 2

def sp_X12_findAllOwn : qS := fun av w Q => ∃ (mco : Int) (mre : Int) (mle : Int) (mbe : Int) (mso : Int) (mva : Int) (mwo : Int) (mwr : Int) (mlf : Int) (mlp : Int) (mfp : Int) (mfd : Int) (mgo : Int) (mbo : Int) (mpe : Int) (mye : Int) (mpr : Int) (mld : Int) (msi : Int) (mse : Int) (bs : Nat → Int) (ss : Nat → Int) (lx : Nat → Int) (fu : Nat → Int) (ow : Nat → Int), av = [q2 0] ∧ w = [.inr (12, [q1 mco, q2 6, q2 7, q2 8, q2 9, q2 10, q2 1, q2 11, q2 12, q2 2, q1 mre, q1 mle, q1 mbe, q1 mso, q1 mva, q3 mwo, q1 mwr, q1 mlf, q1 mlp, q2 13, q2 14, q1 mfp, q1 mfd, q1 mgo, q1 mbo, q1 mpe, q1 mye, q2 15, q1 mpr, q2 16, q2 17, q2 18, q2 19, q1 mld, q2 20, q1 msi, q2 5, q2 21, q2 22, q2 3, q2 4, q1 mse, q2 23, q2 24, q2 25]), .inl (0, 600, .inl bs), .inl (0, 168, .inl ss), .inl (3, 100, .inr (.inl lx)), .inl (3, 100, .inr (.inl fu)), .inl (3, 72, .inr (.inl ow))] ∧ (0 ≤ mbo ∧ mbo ≤ 1) ∧ (0 ≤ mpe ∧ mpe ≤ 8) ∧ (BI bs) ∧ (SI ss) ∧ (0 ≤ msi ∧ msi ≤ 1) ∧ (∀ (x_lx : Nat → Int) (x_fu : Nat → Int) (x_ow : Nat → Int), Q none ([.inr (12, [q1 mco, q2 6, q2 7, q2 8, q2 9, q2 10, q2 1, q2 11, q2 12, q2 2, q1 mre, q1 mle, q1 mbe, q1 mso, q1 mva, q3 mwo, q1 mwr, q1 mlf, q1 mlp, q2 13, q2 14, q1 mfp, q1 mfd, q1 mgo, q1 mbo, q1 mpe, q1 mye, q2 15, q1 mpr, q2 16, q2 17, q2 18, q2 19, q1 mld, q2 20, q1 msi, q2 5, q2 21, q2 22, q2 3, q2 4, q1 mse, q2 23, q2 24, q2 25]), .inl (0, 600, .inl bs), .inl (0, 168, .inl ss), .inl (3, 100, .inr (.inl x_lx)), .inl (3, 100, .inr (.inl x_fu)), .inl (3, 72, .inr (.inl x_ow))]))
def I_X12_findAllOwn (mco : Int) (mre : Int) (mle : Int) (mbe : Int) (mso : Int) (mva : Int) (mwo : Int) (mwr : Int) (mlf : Int) (mlp : Int) (mfp : Int) (mfd : Int) (mgo : Int) (mbo : Int) (mpe : Int) (mye : Int) (mpr : Int) (mld : Int) (msi : Int) (mse : Int) (bs : Nat → Int) (ss : Nat → Int) (lx : Nat → Int) (fu : Nat → Int) (ow : Nat → Int) : Nat → Nat → List qV → List qV → qW → Prop := fun dz mz vz sz wz => if dz = 2 then (∃ (y_lx : Nat → Int) (y_fu : Nat → Int) (y_ow : Nat → Int) (v1 : Int), vz = [q2 0, q1 v1] ∧ sz = [] ∧ wz = [.inr (12, [q1 mco, q2 6, q2 7, q2 8, q2 9, q2 10, q2 1, q2 11, q2 12, q2 2, q1 mre, q1 mle, q1 mbe, q1 mso, q1 mva, q3 mwo, q1 mwr, q1 mlf, q1 mlp, q2 13, q2 14, q1 mfp, q1 mfd, q1 mgo, q1 mbo, q1 mpe, q1 mye, q2 15, q1 mpr, q2 16, q2 17, q2 18, q2 19, q1 mld, q2 20, q1 msi, q2 5, q2 21, q2 22, q2 3, q2 4, q1 mse, q2 23, q2 24, q2 25]), .inl (0, 600, .inl bs), .inl (0, 168, .inl ss), .inl (3, 100, .inr (.inl y_lx)), .inl (3, 100, .inr (.inl y_fu)), .inl (3, 72, .inr (.inl y_ow))] ∧ mz = (mpe - v1).toNat ∧ (0 ≤ v1 ∧ v1 ≤ mpe)) else False
set_option maxHeartbeats 4000000 in
set_option maxRecDepth 100000 in
theorem m_X12_findAllOwn (l : Launch) : q_M l yX12_findAllOwn cX12_findAllOwn 2 none 3 73 sp_X12_findAllOwn := by
  refine q_meth (by decide) (fun av w Q h => by obtain ⟨mco, mre, mle, mbe, mso, mva, mwo, mwr, mlf, mlp, mfp, mfd, mgo, mbo, mpe, mye, mpr, mld, msi, mse, bs, ss, lx, fu, ow, rfl, rfl, hbo, hpe, hbi, hsi, hsg, hQ⟩ := h; exact Nat.le_of_ble_eq_true rfl) ?_
  intro p e R s m args below meth c dC dI k g A av w Q hsp oka okw X
  obtain ⟨mco, mre, mle, mbe, mso, mva, mwo, mwr, mlf, mlp, mfp, mfd, mgo, mbo, mpe, mye, mpr, mld, msi, mse, bs, ss, lx, fu, ow, rfl, rfl, hbo, hpe, hbi, hsi, hsg, hQ⟩ := hsp
  refine s_mono (s_X12_findAllOwn_0 X (J := fun dz vz sz wz => ∃ mz, I_X12_findAllOwn mco mre mle mbe mso mva mwo mwr mlf mlp mfp mfd mgo mbo mpe mye mpr mld msi mse bs ss lx fu ow dz mz vz sz wz) (q_loopn (I_X12_findAllOwn mco mre mle mbe mso mva mwo mwr mlf mlp mfp mfd mgo mbo mpe mye mpr mld msi mse bs ss lx fu ow) (fun dz J => if dz = 2 then b_X12_findAllOwn_2 J Q else q_F) ?hs ?hv)) ?_
  case hs =>
    intro d J hJ
    by_cases h2 : d = 2
    · subst h2; exact s_X12_findAllOwn_2 X hJ
    simp only [h2, if_false]
    exact s_F
  case hv =>
    intro dz mz vz sz wz hI okv oks okw hlen
    by_cases h2 : dz = 2
    · subst h2
      obtain ⟨y_lx, y_fu, y_ow, v1, rfl, rfl, rfl, hn, hp⟩ := hI
      apply And.intro
      · intro h7
        exact hQ _ _ _
      · intro h7
        refine Exists.intro [0, 1, 2, 3, 4, 5, 6, 7, 8, 9, 10, 11, 12, 13, 14, 15, 16, 17, 18, 19, 20, 21, 22, 23, 24, 25] (Exists.intro [q2 0, q1 _] (Exists.intro ([.inr (12, [q1 _, q2 6, q2 7, q2 8, q2 9, q2 10, q2 1, q2 11, q2 12, q2 2, q1 _, q1 _, q1 _, q1 _, q1 _, q3 _, q1 _, q1 _, q1 _, q2 13, q2 14, q1 _, q1 _, q1 _, q1 _, q1 _, q1 _, q2 15, q1 _, q2 16, q2 17, q2 18, q2 19, q1 _, q2 20, q1 _, q2 5, q2 21, q2 22, q2 3, q2 4, q1 _, q2 23, q2 24, q2 25]), .inl (0, 600, .inl _), .inl (0, 168, .inl _), .inl (3, 100, .inr (.inl _)), .inl (3, 100, .inr (.inl _)), .inl (3, 72, .inr (.inl _))]) (And.intro rfl (And.intro rfl (And.intro rfl (And.intro ⟨⟨_, rfl⟩, rfl⟩ ?_))))))
        refine Exists.intro _ (Exists.intro _ (Exists.intro _ (Exists.intro _ (Exists.intro _ (Exists.intro _ (Exists.intro _ (Exists.intro _ (Exists.intro _ (Exists.intro _ (Exists.intro _ (Exists.intro _ (Exists.intro _ (Exists.intro _ (Exists.intro _ (Exists.intro _ (Exists.intro _ (Exists.intro _ (Exists.intro _ (Exists.intro _ (Exists.intro _ (Exists.intro _ (Exists.intro _ (Exists.intro _ (Exists.intro _ (Exists.intro _ (And.intro rfl (And.intro rfl (And.intro (by first | omega | assumption | exact q_rg_up (by assumption) (by omega) | exact q_rg_up (q_rg_up (by assumption) (by omega)) (by omega) | exact q_rg_cpy (by assumption) (by assumption)) (And.intro (by first | omega | assumption | exact q_rg_up (by assumption) (by omega) | exact q_rg_up (q_rg_up (by assumption) (by omega)) (by omega) | exact q_rg_cpy (by assumption) (by assumption)) (And.intro (by first | omega | assumption | exact q_rg_up (by assumption) (by omega) | exact q_rg_up (q_rg_up (by assumption) (by omega)) (by omega) | exact q_rg_cpy (by assumption) (by assumption)) (And.intro (by first | omega | assumption | exact q_rg_up (by assumption) (by omega) | exact q_rg_up (q_rg_up (by assumption) (by omega)) (by omega) | exact q_rg_cpy (by assumption) (by assumption)) (And.intro (by first | omega | assumption | exact q_rg_up (by assumption) (by omega) | exact q_rg_up (q_rg_up (by assumption) (by omega)) (by omega) | exact q_rg_cpy (by assumption) (by assumption)) (?_)))))))))))))))))))))))))))))))))
        intro x_lx_12 x_fu_12 x_ow_12
        intro z15 h15
        first | replace h15 := e_add h15 (by omega) | replace h15 := e_rng h15
        exact ⟨_, ⟨_, _, _, _, rfl, rfl, rfl, rfl, (by first | omega | assumption | exact q_rg_up (by assumption) (by omega) | exact q_rg_up (q_rg_up (by assumption) (by omega)) (by omega) | exact q_rg_cpy (by assumption) (by assumption))⟩, by omega⟩
    simp only [I_X12_findAllOwn, h2, if_false] at hI
  rintro lv st w' ⟨rfl, rfl, rfl⟩
  exact ⟨_, _, _, _, _, rfl, rfl, rfl, rfl, (by first | omega | assumption | exact q_rg_up (by assumption) (by omega) | exact q_rg_up (q_rg_up (by assumption) (by omega)) (by omega) | exact q_rg_cpy (by assumption) (by assumption))⟩

theorem dX12_rows_0 : decode cX12_rows 0 = .ok (.aload_n 0, 1) := by decide +kernel
theorem dX12_rows_1 : decode cX12_rows 1 = .ok (.iconst 0, 1) := by decide +kernel
theorem dX12_rows_2 : decode cX12_rows 2 = .ok (.putfield 88, 3) := by decide +kernel
theorem dX12_rows_5 : decode cX12_rows 5 = .ok (.aload_n 0, 1) := by decide +kernel
theorem dX12_rows_6 : decode cX12_rows 6 = .ok (.iload_n 1, 1) := by decide +kernel
theorem dX12_rows_7 : decode cX12_rows 7 = .ok (.iload_n 2, 1) := by decide +kernel
theorem dX12_rows_8 : decode cX12_rows 8 = .ok (.iload_n 3, 1) := by decide +kernel
theorem dX12_rows_9 : decode cX12_rows 9 = .ok (.invokevirtual 478, 3) := by decide +kernel
theorem dX12_rows_12 : decode cX12_rows 12 = .ok (.ifCond .eq 28, 3) := by decide +kernel
theorem dX12_rows_15 : decode cX12_rows 15 = .ok (.iload 4, 2) := by decide +kernel
theorem dX12_rows_17 : decode cX12_rows 17 = .ok (.iconst (-1), 1) := by decide +kernel
theorem dX12_rows_18 : decode cX12_rows 18 = .ok (.if_icmp .eq 26, 3) := by decide +kernel
theorem dX12_rows_21 : decode cX12_rows 21 = .ok (.aload_n 0, 1) := by decide +kernel
theorem dX12_rows_22 : decode cX12_rows 22 = .ok (.iload 4, 2) := by decide +kernel
theorem dX12_rows_24 : decode cX12_rows 24 = .ok (.invokevirtual 309, 3) := by decide +kernel
theorem dX12_rows_27 : decode cX12_rows 27 = .ok (.ifCond .eq 13, 3) := by decide +kernel
theorem dX12_rows_30 : decode cX12_rows 30 = .ok (.iload 5, 2) := by decide +kernel
theorem dX12_rows_32 : decode cX12_rows 32 = .ok (.iconst 0, 1) := by decide +kernel
theorem dX12_rows_33 : decode cX12_rows 33 = .ok (.iload_n 3, 1) := by decide +kernel
theorem dX12_rows_34 : decode cX12_rows 34 = .ok (.invokestatic 100, 3) := by decide +kernel
theorem dX12_rows_37 : decode cX12_rows 37 = .ok (.ifCond .ne 7, 3) := by decide +kernel
theorem dX12_rows_40 : decode cX12_rows 40 = .ok (.ldc2_w 481, 3) := by decide +kernel
theorem dX12_rows_43 : decode cX12_rows 43 = .ok (.lreturn, 1) := by decide +kernel
theorem dX12_rows_44 : decode cX12_rows 44 = .ok (.aload_n 0, 1) := by decide +kernel
theorem dX12_rows_45 : decode cX12_rows 45 = .ok (.invokevirtual 483, 3) := by decide +kernel
theorem dX12_rows_48 : decode cX12_rows 48 = .ok (.aload_n 0, 1) := by decide +kernel
theorem dX12_rows_49 : decode cX12_rows 49 = .ok (.iload_n 3, 1) := by decide +kernel
theorem dX12_rows_50 : decode cX12_rows 50 = .ok (.iload 4, 2) := by decide +kernel
theorem dX12_rows_52 : decode cX12_rows 52 = .ok (.iload 5, 2) := by decide +kernel
theorem dX12_rows_54 : decode cX12_rows 54 = .ok (.invokevirtual 486, 3) := by decide +kernel
theorem dX12_rows_57 : decode cX12_rows 57 = .ok (.lreturn, 1) := by decide +kernel
def is_X12_rows : Nat → List Nat := fun d => []
set_option maxRecDepth 100000 in
def b_X12_rows_44 (J : Nat → List qV → List qV → qW → Prop) (Q : qR) : qK := x_aload 0 (x_call (some 12) 1 sp_X12_findAllOwn (x_nw (x_aload 0 (x_iload 3 (x_iload 4 (x_iload 5 (x_call (some 12) 4 sp_X12_rowsBy (x_nw (x_lret Q)))))))))
set_option maxRecDepth 100000 in
theorem s_X12_rows_44 {p : Program} {l : Launch} {e : Env} {R : Room} {s : State} {m : MethodId} {args : Array Value} {below : List Frame} {meth : Method} {c : Code} {nW : Nat} {dC : Nat → ClassId} {dI : Nat → Nat → Nat} {k : Nat → ClassId} {g : Nat → Nat} {A : Nat → Prop} {J : Nat → List qV → List qV → qW → Prop} {Q : qR} (X : q_X p R s m args meth c cX12_rows 6 nW 4 94 RX12 (some .long) dC dI k g A) (hJ : ∀ d : Nat, q_Sd p l e R s m args below meth c 6 nW dC dI k g A (MQ below (q_post (dC, dI) k g nW Q A) args s 0 0 A) d (x_cut (is_X12_rows d) (J d))) : q_Sd p l e R s m args below meth c 6 nW dC dI k g A (MQ below (q_post (dC, dI) k g nW Q A) args s 0 0 A) 44 (b_X12_rows_44 J Q) := by
  unfold b_X12_rows_44
  refine s_aload_n X rfl dX12_rows_44 ?_
  refine s_callV X (m_X12_findAllOwn l) tw_1392 tw_1393 tw_1571 tw_134 tw_1394 rfl (by decide +kernel) ⟨by decide, by decide⟩ dX12_rows_45 ?_
  refine s_nw ?_
  refine s_aload_n X rfl dX12_rows_48 ?_
  refine s_iload_n X rfl dX12_rows_49 ?_
  refine s_iload X dX12_rows_50 ?_
  refine s_iload X dX12_rows_52 ?_
  refine s_callV X (m_X12_rowsBy l) tw_1401 tw_1402 tw_1613 tw_134 tw_1403 rfl (by decide +kernel) ⟨by decide, by decide⟩ dX12_rows_54 ?_
  refine s_nw ?_
  exact s_lret X dX12_rows_57
set_option maxRecDepth 100000 in
def b_X12_rows_40 (J : Nat → List qV → List qV → qW → Prop) (Q : qR) : qK := x_lng (-1) (x_lret Q)
set_option maxRecDepth 100000 in
theorem s_X12_rows_40 {p : Program} {l : Launch} {e : Env} {R : Room} {s : State} {m : MethodId} {args : Array Value} {below : List Frame} {meth : Method} {c : Code} {nW : Nat} {dC : Nat → ClassId} {dI : Nat → Nat → Nat} {k : Nat → ClassId} {g : Nat → Nat} {A : Nat → Prop} {J : Nat → List qV → List qV → qW → Prop} {Q : qR} (X : q_X p R s m args meth c cX12_rows 6 nW 4 94 RX12 (some .long) dC dI k g A) (hJ : ∀ d : Nat, q_Sd p l e R s m args below meth c 6 nW dC dI k g A (MQ below (q_post (dC, dI) k g nW Q A) args s 0 0 A) d (x_cut (is_X12_rows d) (J d))) : q_Sd p l e R s m args below meth c 6 nW dC dI k g A (MQ below (q_post (dC, dI) k g nW Q A) args s 0 0 A) 40 (b_X12_rows_40 J Q) := by
  unfold b_X12_rows_40
  refine s_ldc2 X ⟨by decide, by decide⟩ tw_1391 dX12_rows_40 ?_
  exact s_lret X dX12_rows_43
set_option maxRecDepth 100000 in
def b_X12_rows_0 (J : Nat → List qV → List qV → qW → Prop) (Q : qR) : qK := x_aload 0 (x_int 0 (x_put 12 0 q_oki (x_nw (x_aload 0 (x_iload 1 (x_iload 2 (x_iload 3 (x_call (some 12) 4 sp_X12_laySight (x_nw (x_if_eq (b_X12_rows_40 J Q) (x_iload 4 (x_int (-1) (x_icmp_eq (b_X12_rows_44 J Q) (x_aload 0 (x_iload 4 (x_callr (some 12) 2 spr_X12_isPerson (x_if_eq (b_X12_rows_40 J Q) (x_iload 5 (x_int 0 (x_iload 3 (x_callr none 3 spr_X12_in (x_if_ne (b_X12_rows_44 J Q) (b_X12_rows_40 J Q)))))))))))))))))))))))
set_option maxRecDepth 100000 in
theorem s_X12_rows_0 {p : Program} {l : Launch} {e : Env} {R : Room} {s : State} {m : MethodId} {args : Array Value} {below : List Frame} {meth : Method} {c : Code} {nW : Nat} {dC : Nat → ClassId} {dI : Nat → Nat → Nat} {k : Nat → ClassId} {g : Nat → Nat} {A : Nat → Prop} {J : Nat → List qV → List qV → qW → Prop} {Q : qR} (X : q_X p R s m args meth c cX12_rows 6 nW 4 94 RX12 (some .long) dC dI k g A) (hJ : ∀ d : Nat, q_Sd p l e R s m args below meth c 6 nW dC dI k g A (MQ below (q_post (dC, dI) k g nW Q A) args s 0 0 A) d (x_cut (is_X12_rows d) (J d))) : q_Sd p l e R s m args below meth c 6 nW dC dI k g A (MQ below (q_post (dC, dI) k g nW Q A) args s 0 0 A) 0 (b_X12_rows_0 J Q) := by
  unfold b_X12_rows_0
  refine s_aload_n X rfl dX12_rows_0 ?_
  refine s_iconst X ⟨by decide, by decide⟩ dX12_rows_1 ?_
  refine s_put X (T := TX12) (C := RX12) (N := 45) tu_X12 tyX12_ok nmX12 rfl (by decide) tw_997 rfl (by decide +kernel) q_oki_t dX12_rows_2 ?_
  refine s_nw ?_
  refine s_aload_n X rfl dX12_rows_5 ?_
  refine s_iload_n X rfl dX12_rows_6 ?_
  refine s_iload_n X rfl dX12_rows_7 ?_
  refine s_iload_n X rfl dX12_rows_8 ?_
  refine s_callV X (m_X12_laySight l) tw_1388 tw_1389 tw_1596 tw_134 tw_1390 rfl (by decide +kernel) ⟨by decide, by decide⟩ dX12_rows_9 ?_
  refine s_nw ?_
  refine s_if_eq X (tgt := 40) dX12_rows_12 (by decide) ?_ ?_
  · exact s_X12_rows_40 X hJ
  · refine s_iload X dX12_rows_15 ?_
    refine s_iconst X ⟨by decide, by decide⟩ dX12_rows_17 ?_
    refine s_icmp_eq X (tgt := 44) dX12_rows_18 (by decide) ?_ ?_
    · exact s_X12_rows_44 X hJ
    · refine s_aload_n X rfl dX12_rows_21 ?_
      refine s_iload X dX12_rows_22 ?_
      refine s_callVr X (m_X12_isPerson l) tw_1192 tw_1193 tw_1591 tw_134 tw_1194 rfl (by decide +kernel) ⟨by decide, by decide⟩ dX12_rows_24 ?_
      refine s_if_eq X (tgt := 40) dX12_rows_27 (by decide) ?_ ?_
      · exact s_X12_rows_40 X hJ
      · refine s_iload X dX12_rows_30 ?_
        refine s_iconst X ⟨by decide, by decide⟩ dX12_rows_32 ?_
        refine s_iload_n X rfl dX12_rows_33 ?_
        refine s_callSr X (m_X12_in l) tw_1054 tw_1055 tw_134 tw_1056 (by decide +kernel) ⟨by decide, by decide⟩ dX12_rows_34 ?_
        refine s_if_ne X (tgt := 44) dX12_rows_37 (by decide) ?_ ?_
        · exact s_X12_rows_44 X hJ
        · exact s_X12_rows_40 X hJ

def sp_X12_rows : qS := fun av w Q => ∃ (mco : Int) (mre : Int) (mle : Int) (mbe : Int) (mso : Int) (mva : Int) (mwo : Int) (mwr : Int) (mlf : Int) (mlp : Int) (mfp : Int) (mfd : Int) (mgo : Int) (mbo : Int) (mpe : Int) (mye : Int) (mpr : Int) (mld : Int) (msi : Int) (mse : Int) (mn : Nat → Int) (bs : Nat → Int) (ss : Nat → Int) (lx : Nat → Int) (fu : Nat → Int) (ow : Nat → Int) (rw : Nat → Int) (th : Nat → Int) (a : Int) (b : Int) (cc : Int) (dd : Int) (ee : Int), av = [q2 0, q1 a, q1 b, q1 cc, q1 dd, q1 ee] ∧ w = [.inr (12, [q1 mco, q2 9, q2 10, q2 11, q2 12, q2 1, q2 2, q2 13, q2 14, q2 3, q1 mre, q1 mle, q1 mbe, q1 mso, q1 mva, q3 mwo, q1 mwr, q1 mlf, q1 mlp, q2 15, q2 16, q1 mfp, q1 mfd, q1 mgo, q1 mbo, q1 mpe, q1 mye, q2 17, q1 mpr, q2 18, q2 19, q2 20, q2 21, q1 mld, q2 22, q1 msi, q2 6, q2 7, q2 8, q2 4, q2 5, q1 mse, q2 23, q2 24, q2 25]), .inl (0, 16, .inl mn), .inl (0, 600, .inl bs), .inl (0, 168, .inl ss), .inl (3, 100, .inr (.inl lx)), .inl (3, 100, .inr (.inl fu)), .inl (3, 72, .inr (.inl ow)), .inl (3, 9, .inr (.inl rw)), .inl (3, 9, .inr (.inl th))] ∧ (q_rg 0 2 mn) ∧ (BI bs) ∧ (SI ss) ∧ (∀ (r : Int) (x_mco : Int) (x_msi : Int) (x_mbo : Int) (x_mpe : Int) (x_lx : Nat → Int) (x_fu : Nat → Int) (x_ow : Nat → Int) (x_rw : Nat → Int) (x_th : Nat → Int), Q (some (q3 r)) ([.inr (12, [q1 x_mco, q2 9, q2 10, q2 11, q2 12, q2 1, q2 2, q2 13, q2 14, q2 3, q1 mre, q1 mle, q1 mbe, q1 mso, q1 mva, q3 mwo, q1 mwr, q1 mlf, q1 mlp, q2 15, q2 16, q1 mfp, q1 mfd, q1 mgo, q1 x_mbo, q1 x_mpe, q1 mye, q2 17, q1 mpr, q2 18, q2 19, q2 20, q2 21, q1 mld, q2 22, q1 x_msi, q2 6, q2 7, q2 8, q2 4, q2 5, q1 mse, q2 23, q2 24, q2 25]), .inl (0, 16, .inl mn), .inl (0, 600, .inl bs), .inl (0, 168, .inl ss), .inl (3, 100, .inr (.inl x_lx)), .inl (3, 100, .inr (.inl x_fu)), .inl (3, 72, .inr (.inl x_ow)), .inl (3, 9, .inr (.inl x_rw)), .inl (3, 9, .inr (.inl x_th))]))
set_option maxHeartbeats 4000000 in
set_option maxRecDepth 100000 in
theorem m_X12_rows (l : Launch) : q_M l yX12_rows cX12_rows 6 (some .long) 4 94 sp_X12_rows := by
  refine q_meth (by decide) (fun av w Q h => by obtain ⟨mco, mre, mle, mbe, mso, mva, mwo, mwr, mlf, mlp, mfp, mfd, mgo, mbo, mpe, mye, mpr, mld, msi, mse, mn, bs, ss, lx, fu, ow, rw, th, a, b, cc, dd, ee, rfl, rfl, hmn, hbi, hsi, hQ⟩ := h; exact Nat.le_of_ble_eq_true rfl) ?_
  intro p e R s m args below meth c dC dI k g A av w Q hsp oka okw X
  obtain ⟨mco, mre, mle, mbe, mso, mva, mwo, mwr, mlf, mlp, mfp, mfd, mgo, mbo, mpe, mye, mpr, mld, msi, mse, mn, bs, ss, lx, fu, ow, rw, th, a, b, cc, dd, ee, rfl, rfl, hmn, hbi, hsi, hQ⟩ := hsp
  have o_a : -2147483648 ≤ a ∧ a ≤ 2147483647 := oka _ (List.mem_of_getElem? (i := 1) rfl)
  have o_b : -2147483648 ≤ b ∧ b ≤ 2147483647 := oka _ (List.mem_of_getElem? (i := 2) rfl)
  have o_cc : -2147483648 ≤ cc ∧ cc ≤ 2147483647 := oka _ (List.mem_of_getElem? (i := 3) rfl)
  have o_dd : -2147483648 ≤ dd ∧ dd ≤ 2147483647 := oka _ (List.mem_of_getElem? (i := 4) rfl)
  have o_ee : -2147483648 ≤ ee ∧ ee ≤ 2147483647 := oka _ (List.mem_of_getElem? (i := 5) rfl)
  refine s_mono (s_X12_rows_0 X (J := fun _ _ _ _ => False) (fun d => s_cutF)) ?_
  rintro lv st w' ⟨rfl, rfl, rfl⟩
  apply And.intro
  · exact trivial
  refine Exists.intro [0, 1, 2, 3, 9, 10, 11, 12, 13, 14, 15, 16, 17, 18, 19, 20, 21, 22, 6, 7, 8, 4, 5, 23, 24, 25] (Exists.intro [q2 0, q1 _, q1 _, q1 _] (Exists.intro ([.inr (12, [q1 _, q2 4, q2 5, q2 6, q2 7, q2 1, q2 2, q2 8, q2 9, q2 3, q1 _, q1 _, q1 _, q1 _, q1 _, q3 _, q1 _, q1 _, q1 _, q2 10, q2 11, q1 _, q1 _, q1 _, q1 _, q1 _, q1 _, q2 12, q1 _, q2 13, q2 14, q2 15, q2 16, q1 _, q2 17, q1 _, q2 18, q2 19, q2 20, q2 21, q2 22, q1 _, q2 23, q2 24, q2 25]), .inl (0, 16, .inl _), .inl (0, 600, .inl _), .inl (0, 168, .inl _)]) (And.intro rfl (And.intro rfl (And.intro rfl (And.intro ⟨⟨_, rfl⟩, rfl⟩ ?_))))))
  refine Exists.intro _ (Exists.intro _ (Exists.intro _ (Exists.intro _ (Exists.intro _ (Exists.intro _ (Exists.intro _ (Exists.intro _ (Exists.intro _ (Exists.intro _ (Exists.intro _ (Exists.intro _ (Exists.intro _ (Exists.intro _ (Exists.intro _ (Exists.intro _ (Exists.intro _ (Exists.intro _ (Exists.intro _ (Exists.intro _ (Exists.intro _ (Exists.intro _ (Exists.intro _ (Exists.intro _ (Exists.intro _ (Exists.intro _ (And.intro rfl (And.intro rfl (And.intro (by first | omega | assumption | exact q_rg_up (by assumption) (by omega) | exact q_rg_up (q_rg_up (by assumption) (by omega)) (by omega) | exact q_rg_cpy (by assumption) (by assumption)) (And.intro (by first | omega | assumption | exact q_rg_up (by assumption) (by omega) | exact q_rg_up (q_rg_up (by assumption) (by omega)) (by omega) | exact q_rg_cpy (by assumption) (by assumption)) (And.intro (by first | omega | assumption | exact q_rg_up (by assumption) (by omega) | exact q_rg_up (q_rg_up (by assumption) (by omega)) (by omega) | exact q_rg_cpy (by assumption) (by assumption)) (?_)))))))))))))))))))))))))))))))
  intro z9 x_msi_9 x_mbo_9 x_mpe_9 h9
  apply And.intro
  · intro h12
    first | replace h9 := dj1 h9 h12 | replace h9 := dj0 h9 h12
    exact hQ _ _ _ _ _ _ _ _ _ _
  · intro h12
    first | replace h9 := dj1 h9 h12 | replace h9 := dj0 h9 h12
    apply And.intro
    · intro h18
      refine Exists.intro [0, 2, 3, 4, 5, 6, 9, 10, 11, 12, 1, 13, 14, 15, 16, 17, 18, 19, 20, 21, 22, 7, 8, 23, 24, 25] (Exists.intro [q2 0] (Exists.intro ([.inr (12, [q1 _, q2 6, q2 7, q2 8, q2 9, q2 10, q2 1, q2 11, q2 12, q2 2, q1 _, q1 _, q1 _, q1 _, q1 _, q3 _, q1 _, q1 _, q1 _, q2 13, q2 14, q1 _, q1 _, q1 _, q1 _, q1 _, q1 _, q2 15, q1 _, q2 16, q2 17, q2 18, q2 19, q1 _, q2 20, q1 _, q2 5, q2 21, q2 22, q2 3, q2 4, q1 _, q2 23, q2 24, q2 25]), .inl (0, 600, .inl _), .inl (0, 168, .inl _), .inl (3, 100, .inr (.inl _)), .inl (3, 100, .inr (.inl _)), .inl (3, 72, .inr (.inl _))]) (And.intro rfl (And.intro rfl (And.intro rfl (And.intro ⟨⟨_, rfl⟩, rfl⟩ ?_))))))
      refine Exists.intro _ (Exists.intro _ (Exists.intro _ (Exists.intro _ (Exists.intro _ (Exists.intro _ (Exists.intro _ (Exists.intro _ (Exists.intro _ (Exists.intro _ (Exists.intro _ (Exists.intro _ (Exists.intro _ (Exists.intro _ (Exists.intro _ (Exists.intro _ (Exists.intro _ (Exists.intro _ (Exists.intro _ (Exists.intro _ (Exists.intro _ (Exists.intro _ (Exists.intro _ (Exists.intro _ (Exists.intro _ (And.intro rfl (And.intro rfl (And.intro (by first | omega | assumption | exact q_rg_up (by assumption) (by omega) | exact q_rg_up (q_rg_up (by assumption) (by omega)) (by omega) | exact q_rg_cpy (by assumption) (by assumption)) (And.intro (by first | omega | assumption | exact q_rg_up (by assumption) (by omega) | exact q_rg_up (q_rg_up (by assumption) (by omega)) (by omega) | exact q_rg_cpy (by assumption) (by assumption)) (And.intro (by first | omega | assumption | exact q_rg_up (by assumption) (by omega) | exact q_rg_up (q_rg_up (by assumption) (by omega)) (by omega) | exact q_rg_cpy (by assumption) (by assumption)) (And.intro (by first | omega | assumption | exact q_rg_up (by assumption) (by omega) | exact q_rg_up (q_rg_up (by assumption) (by omega)) (by omega) | exact q_rg_cpy (by assumption) (by assumption)) (And.intro (by first | omega | assumption | exact q_rg_up (by assumption) (by omega) | exact q_rg_up (q_rg_up (by assumption) (by omega)) (by omega) | exact q_rg_cpy (by assumption) (by assumption)) (?_))))))))))))))))))))))))))))))))
      intro x_lx_45 x_fu_45 x_ow_45
      refine Exists.intro [0, 6, 7, 8, 9, 10, 11, 12, 1, 2, 13, 14, 3, 15, 16, 17, 18, 19, 20, 21, 22, 4, 5, 23, 24, 25] (Exists.intro [q2 0, q1 _, q1 _, q1 _] (Exists.intro ([.inr (12, [q1 _, q2 4, q2 5, q2 6, q2 7, q2 8, q2 9, q2 10, q2 11, q2 12, q1 _, q1 _, q1 _, q1 _, q1 _, q3 _, q1 _, q1 _, q1 _, q2 13, q2 14, q1 _, q1 _, q1 _, q1 _, q1 _, q1 _, q2 15, q1 _, q2 16, q2 17, q2 18, q2 19, q1 _, q2 20, q1 _, q2 1, q2 2, q2 3, q2 21, q2 22, q1 _, q2 23, q2 24, q2 25]), .inl (3, 72, .inr (.inl _)), .inl (3, 9, .inr (.inl _)), .inl (3, 9, .inr (.inl _))]) (And.intro rfl (And.intro rfl (And.intro rfl (And.intro ⟨⟨_, rfl⟩, rfl⟩ ?_))))))
      refine Exists.intro _ (Exists.intro _ (Exists.intro _ (Exists.intro _ (Exists.intro _ (Exists.intro _ (Exists.intro _ (Exists.intro _ (Exists.intro _ (Exists.intro _ (Exists.intro _ (Exists.intro _ (Exists.intro _ (Exists.intro _ (Exists.intro _ (Exists.intro _ (Exists.intro _ (Exists.intro _ (Exists.intro _ (Exists.intro _ (Exists.intro _ (Exists.intro _ (Exists.intro _ (Exists.intro _ (Exists.intro _ (Exists.intro _ (And.intro rfl (And.intro rfl (And.intro (by first | omega | assumption | exact q_rg_up (by assumption) (by omega) | exact q_rg_up (q_rg_up (by assumption) (by omega)) (by omega) | exact q_rg_cpy (by assumption) (by assumption)) (And.intro (by first | omega | assumption | exact q_rg_up (by assumption) (by omega) | exact q_rg_up (q_rg_up (by assumption) (by omega)) (by omega) | exact q_rg_cpy (by assumption) (by assumption)) (?_))))))))))))))))))))))))))))))
      intro z54 x_rw_54 x_th_54
      exact hQ _ _ _ _ _ _ _ _ _ _
    · intro h18
      refine Exists.intro [0, 9, 10, 11, 12, 1, 2, 13, 14, 3, 15, 16, 17, 18, 19, 20, 21, 22, 6, 7, 8, 4, 5, 23, 24, 25] (Exists.intro [q2 0, q1 _] (Exists.intro ([.inr (12, [q1 _, q2 1, q2 2, q2 3, q2 4, q2 5, q2 6, q2 7, q2 8, q2 9, q1 _, q1 _, q1 _, q1 _, q1 _, q3 _, q1 _, q1 _, q1 _, q2 10, q2 11, q1 _, q1 _, q1 _, q1 _, q1 _, q1 _, q2 12, q1 _, q2 13, q2 14, q2 15, q2 16, q1 _, q2 17, q1 _, q2 18, q2 19, q2 20, q2 21, q2 22, q1 _, q2 23, q2 24, q2 25])]) (And.intro rfl (And.intro rfl (And.intro rfl (And.intro ⟨⟨_, rfl⟩, rfl⟩ ?_))))))
      refine Exists.intro _ (Exists.intro _ (Exists.intro _ (Exists.intro _ (Exists.intro _ (Exists.intro _ (Exists.intro _ (Exists.intro _ (Exists.intro _ (Exists.intro _ (Exists.intro _ (Exists.intro _ (Exists.intro _ (Exists.intro _ (Exists.intro _ (Exists.intro _ (Exists.intro _ (Exists.intro _ (Exists.intro _ (Exists.intro _ (Exists.intro _ (And.intro rfl (And.intro rfl (And.intro (by first | omega | assumption | exact q_rg_up (by assumption) (by omega) | exact q_rg_up (q_rg_up (by assumption) (by omega)) (by omega) | exact q_rg_cpy (by assumption) (by assumption)) (?_))))))))))))))))))))))))
      intro z24 h24
      apply And.intro
      · intro h27
        first | replace h24 := dj1 h24 h27 | replace h24 := dj0 h24 h27
        exact hQ _ _ _ _ _ _ _ _ _ _
      · intro h27
        first | replace h24 := dj1 h24 h27 | replace h24 := dj0 h24 h27
        refine Exists.intro [] (Exists.intro [q1 _, q1 _, q1 _] (Exists.intro [] (And.intro rfl (And.intro rfl (And.intro rfl (And.intro trivial ?_))))))
        refine Exists.intro _ (Exists.intro _ (Exists.intro _ (And.intro rfl (And.intro rfl (?_)))))
        intro z34 h34
        apply And.intro
        · intro h37
          first | replace h34 := dj1 h34 h37 | replace h34 := dj0 h34 h37
          refine Exists.intro [0, 2, 3, 4, 5, 6, 9, 10, 11, 12, 1, 13, 14, 15, 16, 17, 18, 19, 20, 21, 22, 7, 8, 23, 24, 25] (Exists.intro [q2 0] (Exists.intro ([.inr (12, [q1 _, q2 6, q2 7, q2 8, q2 9, q2 10, q2 1, q2 11, q2 12, q2 2, q1 _, q1 _, q1 _, q1 _, q1 _, q3 _, q1 _, q1 _, q1 _, q2 13, q2 14, q1 _, q1 _, q1 _, q1 _, q1 _, q1 _, q2 15, q1 _, q2 16, q2 17, q2 18, q2 19, q1 _, q2 20, q1 _, q2 5, q2 21, q2 22, q2 3, q2 4, q1 _, q2 23, q2 24, q2 25]), .inl (0, 600, .inl _), .inl (0, 168, .inl _), .inl (3, 100, .inr (.inl _)), .inl (3, 100, .inr (.inl _)), .inl (3, 72, .inr (.inl _))]) (And.intro rfl (And.intro rfl (And.intro rfl (And.intro ⟨⟨_, rfl⟩, rfl⟩ ?_))))))
          refine Exists.intro _ (Exists.intro _ (Exists.intro _ (Exists.intro _ (Exists.intro _ (Exists.intro _ (Exists.intro _ (Exists.intro _ (Exists.intro _ (Exists.intro _ (Exists.intro _ (Exists.intro _ (Exists.intro _ (Exists.intro _ (Exists.intro _ (Exists.intro _ (Exists.intro _ (Exists.intro _ (Exists.intro _ (Exists.intro _ (Exists.intro _ (Exists.intro _ (Exists.intro _ (Exists.intro _ (Exists.intro _ (And.intro rfl (And.intro rfl (And.intro (by first | omega | assumption | exact q_rg_up (by assumption) (by omega) | exact q_rg_up (q_rg_up (by assumption) (by omega)) (by omega) | exact q_rg_cpy (by assumption) (by assumption)) (And.intro (by first | omega | assumption | exact q_rg_up (by assumption) (by omega) | exact q_rg_up (q_rg_up (by assumption) (by omega)) (by omega) | exact q_rg_cpy (by assumption) (by assumption)) (And.intro (by first | omega | assumption | exact q_rg_up (by assumption) (by omega) | exact q_rg_up (q_rg_up (by assumption) (by omega)) (by omega) | exact q_rg_cpy (by assumption) (by assumption)) (And.intro (by first | omega | assumption | exact q_rg_up (by assumption) (by omega) | exact q_rg_up (q_rg_up (by assumption) (by omega)) (by omega) | exact q_rg_cpy (by assumption) (by assumption)) (And.intro (by first | omega | assumption | exact q_rg_up (by assumption) (by omega) | exact q_rg_up (q_rg_up (by assumption) (by omega)) (by omega) | exact q_rg_cpy (by assumption) (by assumption)) (?_))))))))))))))))))))))))))))))))
          intro x_lx_45 x_fu_45 x_ow_45
          refine Exists.intro [0, 6, 7, 8, 9, 10, 11, 12, 1, 2, 13, 14, 3, 15, 16, 17, 18, 19, 20, 21, 22, 4, 5, 23, 24, 25] (Exists.intro [q2 0, q1 _, q1 _, q1 _] (Exists.intro ([.inr (12, [q1 _, q2 4, q2 5, q2 6, q2 7, q2 8, q2 9, q2 10, q2 11, q2 12, q1 _, q1 _, q1 _, q1 _, q1 _, q3 _, q1 _, q1 _, q1 _, q2 13, q2 14, q1 _, q1 _, q1 _, q1 _, q1 _, q1 _, q2 15, q1 _, q2 16, q2 17, q2 18, q2 19, q1 _, q2 20, q1 _, q2 1, q2 2, q2 3, q2 21, q2 22, q1 _, q2 23, q2 24, q2 25]), .inl (3, 72, .inr (.inl _)), .inl (3, 9, .inr (.inl _)), .inl (3, 9, .inr (.inl _))]) (And.intro rfl (And.intro rfl (And.intro rfl (And.intro ⟨⟨_, rfl⟩, rfl⟩ ?_))))))
          refine Exists.intro _ (Exists.intro _ (Exists.intro _ (Exists.intro _ (Exists.intro _ (Exists.intro _ (Exists.intro _ (Exists.intro _ (Exists.intro _ (Exists.intro _ (Exists.intro _ (Exists.intro _ (Exists.intro _ (Exists.intro _ (Exists.intro _ (Exists.intro _ (Exists.intro _ (Exists.intro _ (Exists.intro _ (Exists.intro _ (Exists.intro _ (Exists.intro _ (Exists.intro _ (Exists.intro _ (Exists.intro _ (Exists.intro _ (And.intro rfl (And.intro rfl (And.intro (by first | omega | assumption | exact q_rg_up (by assumption) (by omega) | exact q_rg_up (q_rg_up (by assumption) (by omega)) (by omega) | exact q_rg_cpy (by assumption) (by assumption)) (And.intro (by first | omega | assumption | exact q_rg_up (by assumption) (by omega) | exact q_rg_up (q_rg_up (by assumption) (by omega)) (by omega) | exact q_rg_cpy (by assumption) (by assumption)) (?_))))))))))))))))))))))))))))))
          intro z54 x_rw_54 x_th_54
          exact hQ _ _ _ _ _ _ _ _ _ _
        · intro h37
          first | replace h34 := dj1 h34 h37 | replace h34 := dj0 h34 h37
          exact hQ _ _ _ _ _ _ _ _ _ _

theorem dX12_ask_0 : decode cX12_ask 0 = .ok (.iconst (-1), 1) := by decide +kernel
theorem dX12_ask_1 : decode cX12_ask 1 = .ok (.istore_n 2, 1) := by decide +kernel
theorem dX12_ask_2 : decode cX12_ask 2 = .ok (.lconst 0, 1) := by decide +kernel
theorem dX12_ask_3 : decode cX12_ask 3 = .ok (.lstore_n 3, 1) := by decide +kernel
theorem dX12_ask_4 : decode cX12_ask 4 = .ok (.iconst 0, 1) := by decide +kernel
theorem dX12_ask_5 : decode cX12_ask 5 = .ok (.istore 5, 2) := by decide +kernel
theorem dX12_ask_7 : decode cX12_ask 7 = .ok (.iload 5, 2) := by decide +kernel
theorem dX12_ask_9 : decode cX12_ask 9 = .ok (.aload_n 0, 1) := by decide +kernel
theorem dX12_ask_10 : decode cX12_ask 10 = .ok (.getfield 303, 3) := by decide +kernel
theorem dX12_ask_13 : decode cX12_ask 13 = .ok (.if_icmp .ge 98, 3) := by decide +kernel
theorem dX12_ask_16 : decode cX12_ask 16 = .ok (.lconst 0, 1) := by decide +kernel
theorem dX12_ask_17 : decode cX12_ask 17 = .ok (.lstore 6, 2) := by decide +kernel
theorem dX12_ask_19 : decode cX12_ask 19 = .ok (.iconst 0, 1) := by decide +kernel
theorem dX12_ask_20 : decode cX12_ask 20 = .ok (.istore 8, 2) := by decide +kernel
theorem dX12_ask_22 : decode cX12_ask 22 = .ok (.iload 8, 2) := by decide +kernel
theorem dX12_ask_24 : decode cX12_ask 24 = .ok (.iload_n 1, 1) := by decide +kernel
theorem dX12_ask_25 : decode cX12_ask 25 = .ok (.if_icmp .gt 37, 3) := by decide +kernel
theorem dX12_ask_28 : decode cX12_ask 28 = .ok (.aload_n 0, 1) := by decide +kernel
theorem dX12_ask_29 : decode cX12_ask 29 = .ok (.iload_n 1, 1) := by decide +kernel
theorem dX12_ask_30 : decode cX12_ask 30 = .ok (.iload 5, 2) := by decide +kernel
theorem dX12_ask_32 : decode cX12_ask 32 = .ok (.iload 8, 2) := by decide +kernel
theorem dX12_ask_34 : decode cX12_ask 34 = .ok (.invokevirtual 486, 3) := by decide +kernel
theorem dX12_ask_37 : decode cX12_ask 37 = .ok (.lstore 9, 2) := by decide +kernel
theorem dX12_ask_39 : decode cX12_ask 39 = .ok (.lload 9, 2) := by decide +kernel
theorem dX12_ask_41 : decode cX12_ask 41 = .ok (.lload 6, 2) := by decide +kernel
theorem dX12_ask_43 : decode cX12_ask 43 = .ok (.lcmp, 1) := by decide +kernel
theorem dX12_ask_44 : decode cX12_ask 44 = .ok (.ifCond .le 8, 3) := by decide +kernel
theorem dX12_ask_47 : decode cX12_ask 47 = .ok (.lload 9, 2) := by decide +kernel
theorem dX12_ask_49 : decode cX12_ask 49 = .ok (.goto 5, 3) := by decide +kernel
theorem dX12_ask_52 : decode cX12_ask 52 = .ok (.lload 6, 2) := by decide +kernel
theorem dX12_ask_54 : decode cX12_ask 54 = .ok (.lstore 6, 2) := by decide +kernel
theorem dX12_ask_56 : decode cX12_ask 56 = .ok (.iinc 8 1, 3) := by decide +kernel
theorem dX12_ask_59 : decode cX12_ask 59 = .ok (.goto (-37), 3) := by decide +kernel
theorem dX12_ask_62 : decode cX12_ask 62 = .ok (.iload_n 2, 1) := by decide +kernel
theorem dX12_ask_63 : decode cX12_ask 63 = .ok (.iconst (-1), 1) := by decide +kernel
theorem dX12_ask_64 : decode cX12_ask 64 = .ok (.if_icmp .eq 10, 3) := by decide +kernel
theorem dX12_ask_67 : decode cX12_ask 67 = .ok (.lload 6, 2) := by decide +kernel
theorem dX12_ask_69 : decode cX12_ask 69 = .ok (.lload_n 3, 1) := by decide +kernel
theorem dX12_ask_70 : decode cX12_ask 70 = .ok (.lcmp, 1) := by decide +kernel
theorem dX12_ask_71 : decode cX12_ask 71 = .ok (.ifCond .ge 7, 3) := by decide +kernel
theorem dX12_ask_74 : decode cX12_ask 74 = .ok (.iconst 1, 1) := by decide +kernel
theorem dX12_ask_75 : decode cX12_ask 75 = .ok (.goto 4, 3) := by decide +kernel
theorem dX12_ask_78 : decode cX12_ask 78 = .ok (.iconst 0, 1) := by decide +kernel
theorem dX12_ask_79 : decode cX12_ask 79 = .ok (.istore 8, 2) := by decide +kernel
theorem dX12_ask_81 : decode cX12_ask 81 = .ok (.iload 8, 2) := by decide +kernel
theorem dX12_ask_83 : decode cX12_ask 83 = .ok (.ifCond .eq 8, 3) := by decide +kernel
theorem dX12_ask_86 : decode cX12_ask 86 = .ok (.iload 5, 2) := by decide +kernel
theorem dX12_ask_88 : decode cX12_ask 88 = .ok (.goto 4, 3) := by decide +kernel
theorem dX12_ask_91 : decode cX12_ask 91 = .ok (.iload_n 2, 1) := by decide +kernel
theorem dX12_ask_92 : decode cX12_ask 92 = .ok (.istore_n 2, 1) := by decide +kernel
theorem dX12_ask_93 : decode cX12_ask 93 = .ok (.iload 8, 2) := by decide +kernel
theorem dX12_ask_95 : decode cX12_ask 95 = .ok (.ifCond .eq 8, 3) := by decide +kernel
theorem dX12_ask_98 : decode cX12_ask 98 = .ok (.lload 6, 2) := by decide +kernel
theorem dX12_ask_100 : decode cX12_ask 100 = .ok (.goto 4, 3) := by decide +kernel
theorem dX12_ask_103 : decode cX12_ask 103 = .ok (.lload_n 3, 1) := by decide +kernel
theorem dX12_ask_104 : decode cX12_ask 104 = .ok (.lstore_n 3, 1) := by decide +kernel
theorem dX12_ask_105 : decode cX12_ask 105 = .ok (.iinc 5 1, 3) := by decide +kernel
theorem dX12_ask_108 : decode cX12_ask 108 = .ok (.goto (-101), 3) := by decide +kernel
theorem dX12_ask_111 : decode cX12_ask 111 = .ok (.iload_n 2, 1) := by decide +kernel
theorem dX12_ask_112 : decode cX12_ask 112 = .ok (.ireturn, 1) := by decide +kernel
def is_X12_ask : Nat → List Nat := fun d => if d = 7 then [0, 1, 2, 3, 5] else if d = 22 then [0, 1, 2, 3, 5, 6, 8] else []
set_option maxRecDepth 100000 in
def b_X12_ask_104 (J : Nat → List qV → List qV → qW → Prop) (Q : qR) : qK := x_lstore 3 (x_iinc 5 1 (x_cut [0, 1, 2, 3, 5] (J 7)))
set_option maxRecDepth 100000 in
theorem s_X12_ask_104 {p : Program} {l : Launch} {e : Env} {R : Room} {s : State} {m : MethodId} {args : Array Value} {below : List Frame} {meth : Method} {c : Code} {nW : Nat} {dC : Nat → ClassId} {dI : Nat → Nat → Nat} {k : Nat → ClassId} {g : Nat → Nat} {A : Nat → Prop} {J : Nat → List qV → List qV → qW → Prop} {Q : qR} (X : q_X p R s m args meth c cX12_ask 11 nW 2 52 RX12 (some .int) dC dI k g A) (hJ : ∀ d : Nat, q_Sd p l e R s m args below meth c 11 nW dC dI k g A (MQ below (q_post (dC, dI) k g nW Q A) args s 0 0 A) d (x_cut (is_X12_ask d) (J d))) : q_Sd p l e R s m args below meth c 11 nW dC dI k g A (MQ below (q_post (dC, dI) k g nW Q A) args s 0 0 A) 104 (b_X12_ask_104 J Q) := by
  unfold b_X12_ask_104
  refine s_lstore_n X rfl (by decide) dX12_ask_104 ?_
  refine s_iinc X (by decide) dX12_ask_105 ?_
  refine s_goto X (tgt := 7) dX12_ask_108 (by decide) ?_
  exact hJ 7
set_option maxRecDepth 100000 in
def b_X12_ask_92 (J : Nat → List qV → List qV → qW → Prop) (Q : qR) : qK := x_istore 2 (x_iload 8 (x_if_eq (x_lload 3 (b_X12_ask_104 J Q)) (x_lload 6 (b_X12_ask_104 J Q))))
set_option maxRecDepth 100000 in
theorem s_X12_ask_92 {p : Program} {l : Launch} {e : Env} {R : Room} {s : State} {m : MethodId} {args : Array Value} {below : List Frame} {meth : Method} {c : Code} {nW : Nat} {dC : Nat → ClassId} {dI : Nat → Nat → Nat} {k : Nat → ClassId} {g : Nat → Nat} {A : Nat → Prop} {J : Nat → List qV → List qV → qW → Prop} {Q : qR} (X : q_X p R s m args meth c cX12_ask 11 nW 2 52 RX12 (some .int) dC dI k g A) (hJ : ∀ d : Nat, q_Sd p l e R s m args below meth c 11 nW dC dI k g A (MQ below (q_post (dC, dI) k g nW Q A) args s 0 0 A) d (x_cut (is_X12_ask d) (J d))) : q_Sd p l e R s m args below meth c 11 nW dC dI k g A (MQ below (q_post (dC, dI) k g nW Q A) args s 0 0 A) 92 (b_X12_ask_92 J Q) := by
  unfold b_X12_ask_92
  refine s_istore_n X rfl (by decide) dX12_ask_92 ?_
  refine s_iload X dX12_ask_93 ?_
  refine s_if_eq X (tgt := 103) dX12_ask_95 (by decide) ?_ ?_
  · refine s_lload_n X rfl dX12_ask_103 ?_
    exact s_X12_ask_104 X hJ
  · refine s_lload X dX12_ask_98 ?_
    refine s_goto X (tgt := 104) dX12_ask_100 (by decide) ?_
    exact s_X12_ask_104 X hJ
set_option maxRecDepth 100000 in
def b_X12_ask_79 (J : Nat → List qV → List qV → qW → Prop) (Q : qR) : qK := x_istore 8 (x_iload 8 (x_if_eq (x_iload 2 (b_X12_ask_92 J Q)) (x_iload 5 (b_X12_ask_92 J Q))))
set_option maxRecDepth 100000 in
theorem s_X12_ask_79 {p : Program} {l : Launch} {e : Env} {R : Room} {s : State} {m : MethodId} {args : Array Value} {below : List Frame} {meth : Method} {c : Code} {nW : Nat} {dC : Nat → ClassId} {dI : Nat → Nat → Nat} {k : Nat → ClassId} {g : Nat → Nat} {A : Nat → Prop} {J : Nat → List qV → List qV → qW → Prop} {Q : qR} (X : q_X p R s m args meth c cX12_ask 11 nW 2 52 RX12 (some .int) dC dI k g A) (hJ : ∀ d : Nat, q_Sd p l e R s m args below meth c 11 nW dC dI k g A (MQ below (q_post (dC, dI) k g nW Q A) args s 0 0 A) d (x_cut (is_X12_ask d) (J d))) : q_Sd p l e R s m args below meth c 11 nW dC dI k g A (MQ below (q_post (dC, dI) k g nW Q A) args s 0 0 A) 79 (b_X12_ask_79 J Q) := by
  unfold b_X12_ask_79
  refine s_istore X (by decide) dX12_ask_79 ?_
  refine s_iload X dX12_ask_81 ?_
  refine s_if_eq X (tgt := 91) dX12_ask_83 (by decide) ?_ ?_
  · refine s_iload_n X rfl dX12_ask_91 ?_
    exact s_X12_ask_92 X hJ
  · refine s_iload X dX12_ask_86 ?_
    refine s_goto X (tgt := 92) dX12_ask_88 (by decide) ?_
    exact s_X12_ask_92 X hJ
set_option maxRecDepth 100000 in
def b_X12_ask_74 (J : Nat → List qV → List qV → qW → Prop) (Q : qR) : qK := x_int 1 (b_X12_ask_79 J Q)
set_option maxRecDepth 100000 in
theorem s_X12_ask_74 {p : Program} {l : Launch} {e : Env} {R : Room} {s : State} {m : MethodId} {args : Array Value} {below : List Frame} {meth : Method} {c : Code} {nW : Nat} {dC : Nat → ClassId} {dI : Nat → Nat → Nat} {k : Nat → ClassId} {g : Nat → Nat} {A : Nat → Prop} {J : Nat → List qV → List qV → qW → Prop} {Q : qR} (X : q_X p R s m args meth c cX12_ask 11 nW 2 52 RX12 (some .int) dC dI k g A) (hJ : ∀ d : Nat, q_Sd p l e R s m args below meth c 11 nW dC dI k g A (MQ below (q_post (dC, dI) k g nW Q A) args s 0 0 A) d (x_cut (is_X12_ask d) (J d))) : q_Sd p l e R s m args below meth c 11 nW dC dI k g A (MQ below (q_post (dC, dI) k g nW Q A) args s 0 0 A) 74 (b_X12_ask_74 J Q) := by
  unfold b_X12_ask_74
  refine s_iconst X ⟨by decide, by decide⟩ dX12_ask_74 ?_
  refine s_goto X (tgt := 79) dX12_ask_75 (by decide) ?_
  exact s_X12_ask_79 X hJ
set_option maxRecDepth 100000 in
def b_X12_ask_54 (J : Nat → List qV → List qV → qW → Prop) (Q : qR) : qK := x_lstore 6 (x_iinc 8 1 (x_cut [0, 1, 2, 3, 5, 6, 8] (J 22)))
set_option maxRecDepth 100000 in
theorem s_X12_ask_54 {p : Program} {l : Launch} {e : Env} {R : Room} {s : State} {m : MethodId} {args : Array Value} {below : List Frame} {meth : Method} {c : Code} {nW : Nat} {dC : Nat → ClassId} {dI : Nat → Nat → Nat} {k : Nat → ClassId} {g : Nat → Nat} {A : Nat → Prop} {J : Nat → List qV → List qV → qW → Prop} {Q : qR} (X : q_X p R s m args meth c cX12_ask 11 nW 2 52 RX12 (some .int) dC dI k g A) (hJ : ∀ d : Nat, q_Sd p l e R s m args below meth c 11 nW dC dI k g A (MQ below (q_post (dC, dI) k g nW Q A) args s 0 0 A) d (x_cut (is_X12_ask d) (J d))) : q_Sd p l e R s m args below meth c 11 nW dC dI k g A (MQ below (q_post (dC, dI) k g nW Q A) args s 0 0 A) 54 (b_X12_ask_54 J Q) := by
  unfold b_X12_ask_54
  refine s_lstore X (by decide) dX12_ask_54 ?_
  refine s_iinc X (by decide) dX12_ask_56 ?_
  refine s_goto X (tgt := 22) dX12_ask_59 (by decide) ?_
  exact hJ 22
set_option maxRecDepth 100000 in
def b_X12_ask_22 (J : Nat → List qV → List qV → qW → Prop) (Q : qR) : qK := x_iload 8 (x_iload 1 (x_icmp_gt (x_iload 2 (x_int (-1) (x_icmp_eq (b_X12_ask_74 J Q) (x_lload 6 (x_lload 3 (x_lcmp (x_if_ge (x_int 0 (b_X12_ask_79 J Q)) (b_X12_ask_74 J Q)))))))) (x_aload 0 (x_iload 1 (x_iload 5 (x_iload 8 (x_call (some 12) 4 sp_X12_rowsBy (x_nw (x_lstore 9 (x_lload 9 (x_lload 6 (x_lcmp (x_if_le (x_lload 6 (b_X12_ask_54 J Q)) (x_lload 9 (b_X12_ask_54 J Q)))))))))))))))
set_option maxRecDepth 100000 in
theorem s_X12_ask_22 {p : Program} {l : Launch} {e : Env} {R : Room} {s : State} {m : MethodId} {args : Array Value} {below : List Frame} {meth : Method} {c : Code} {nW : Nat} {dC : Nat → ClassId} {dI : Nat → Nat → Nat} {k : Nat → ClassId} {g : Nat → Nat} {A : Nat → Prop} {J : Nat → List qV → List qV → qW → Prop} {Q : qR} (X : q_X p R s m args meth c cX12_ask 11 nW 2 52 RX12 (some .int) dC dI k g A) (hJ : ∀ d : Nat, q_Sd p l e R s m args below meth c 11 nW dC dI k g A (MQ below (q_post (dC, dI) k g nW Q A) args s 0 0 A) d (x_cut (is_X12_ask d) (J d))) : q_Sd p l e R s m args below meth c 11 nW dC dI k g A (MQ below (q_post (dC, dI) k g nW Q A) args s 0 0 A) 22 (b_X12_ask_22 J Q) := by
  unfold b_X12_ask_22
  refine s_iload X dX12_ask_22 ?_
  refine s_iload_n X rfl dX12_ask_24 ?_
  refine s_icmp_gt X (tgt := 62) dX12_ask_25 (by decide) ?_ ?_
  · refine s_iload_n X rfl dX12_ask_62 ?_
    refine s_iconst X ⟨by decide, by decide⟩ dX12_ask_63 ?_
    refine s_icmp_eq X (tgt := 74) dX12_ask_64 (by decide) ?_ ?_
    · exact s_X12_ask_74 X hJ
    · refine s_lload X dX12_ask_67 ?_
      refine s_lload_n X rfl dX12_ask_69 ?_
      refine s_lcmp X dX12_ask_70 ?_
      refine s_if_ge X (tgt := 78) dX12_ask_71 (by decide) ?_ ?_
      · refine s_iconst X ⟨by decide, by decide⟩ dX12_ask_78 ?_
        exact s_X12_ask_79 X hJ
      · exact s_X12_ask_74 X hJ
  · refine s_aload_n X rfl dX12_ask_28 ?_
    refine s_iload_n X rfl dX12_ask_29 ?_
    refine s_iload X dX12_ask_30 ?_
    refine s_iload X dX12_ask_32 ?_
    refine s_callV X (m_X12_rowsBy l) tw_1401 tw_1402 tw_1613 tw_134 tw_1403 rfl (by decide +kernel) ⟨by decide, by decide⟩ dX12_ask_34 ?_
    refine s_nw ?_
    refine s_lstore X (by decide) dX12_ask_37 ?_
    refine s_lload X dX12_ask_39 ?_
    refine s_lload X dX12_ask_41 ?_
    refine s_lcmp X dX12_ask_43 ?_
    refine s_if_le X (tgt := 52) dX12_ask_44 (by decide) ?_ ?_
    · refine s_lload X dX12_ask_52 ?_
      exact s_X12_ask_54 X hJ
    · refine s_lload X dX12_ask_47 ?_
      refine s_goto X (tgt := 54) dX12_ask_49 (by decide) ?_
      exact s_X12_ask_54 X hJ
set_option maxRecDepth 100000 in
def b_X12_ask_7 (J : Nat → List qV → List qV → qW → Prop) (Q : qR) : qK := x_iload 5 (x_aload 0 (x_get 12 25 (x_icmp_ge (x_iload 2 (x_iret Q)) (x_lng 0 (x_lstore 6 (x_int 0 (x_istore 8 (x_cut [0, 1, 2, 3, 5, 6, 8] (J 22)))))))))
set_option maxRecDepth 100000 in
theorem s_X12_ask_7 {p : Program} {l : Launch} {e : Env} {R : Room} {s : State} {m : MethodId} {args : Array Value} {below : List Frame} {meth : Method} {c : Code} {nW : Nat} {dC : Nat → ClassId} {dI : Nat → Nat → Nat} {k : Nat → ClassId} {g : Nat → Nat} {A : Nat → Prop} {J : Nat → List qV → List qV → qW → Prop} {Q : qR} (X : q_X p R s m args meth c cX12_ask 11 nW 2 52 RX12 (some .int) dC dI k g A) (hJ : ∀ d : Nat, q_Sd p l e R s m args below meth c 11 nW dC dI k g A (MQ below (q_post (dC, dI) k g nW Q A) args s 0 0 A) d (x_cut (is_X12_ask d) (J d))) : q_Sd p l e R s m args below meth c 11 nW dC dI k g A (MQ below (q_post (dC, dI) k g nW Q A) args s 0 0 A) 7 (b_X12_ask_7 J Q) := by
  unfold b_X12_ask_7
  refine s_iload X dX12_ask_7 ?_
  refine s_aload_n X rfl dX12_ask_9 ?_
  refine s_get X (T := TX12) (C := RX12) (N := 45) tu_X12 rfl (by decide) tw_1022 dX12_ask_10 ?_
  refine s_icmp_ge X (tgt := 111) dX12_ask_13 (by decide) ?_ ?_
  · refine s_iload_n X rfl dX12_ask_111 ?_
    exact s_iret X dX12_ask_112
  · refine s_lconst X ⟨by decide, by decide⟩ (by decide) dX12_ask_16 ?_
    refine s_lstore X (by decide) dX12_ask_17 ?_
    refine s_iconst X ⟨by decide, by decide⟩ dX12_ask_19 ?_
    refine s_istore X (by decide) dX12_ask_20 ?_
    exact hJ 22
set_option maxRecDepth 100000 in
def b_X12_ask_0 (J : Nat → List qV → List qV → qW → Prop) (Q : qR) : qK := x_int (-1) (x_istore 2 (x_lng 0 (x_lstore 3 (x_int 0 (x_istore 5 (x_cut [0, 1, 2, 3, 5] (J 7)))))))
set_option maxRecDepth 100000 in
theorem s_X12_ask_0 {p : Program} {l : Launch} {e : Env} {R : Room} {s : State} {m : MethodId} {args : Array Value} {below : List Frame} {meth : Method} {c : Code} {nW : Nat} {dC : Nat → ClassId} {dI : Nat → Nat → Nat} {k : Nat → ClassId} {g : Nat → Nat} {A : Nat → Prop} {J : Nat → List qV → List qV → qW → Prop} {Q : qR} (X : q_X p R s m args meth c cX12_ask 11 nW 2 52 RX12 (some .int) dC dI k g A) (hJ : ∀ d : Nat, q_Sd p l e R s m args below meth c 11 nW dC dI k g A (MQ below (q_post (dC, dI) k g nW Q A) args s 0 0 A) d (x_cut (is_X12_ask d) (J d))) : q_Sd p l e R s m args below meth c 11 nW dC dI k g A (MQ below (q_post (dC, dI) k g nW Q A) args s 0 0 A) 0 (b_X12_ask_0 J Q) := by
  unfold b_X12_ask_0
  refine s_iconst X ⟨by decide, by decide⟩ dX12_ask_0 ?_
  refine s_istore_n X rfl (by decide) dX12_ask_1 ?_
  refine s_lconst X ⟨by decide, by decide⟩ (by decide) dX12_ask_2 ?_
  refine s_lstore_n X rfl (by decide) dX12_ask_3 ?_
  refine s_iconst X ⟨by decide, by decide⟩ dX12_ask_4 ?_
  refine s_istore X (by decide) dX12_ask_5 ?_
  exact hJ 7

def sp_X12_ask : qS := fun av w Q => ∃ (mco : Int) (mre : Int) (mle : Int) (mbe : Int) (mso : Int) (mva : Int) (mwo : Int) (mwr : Int) (mlf : Int) (mlp : Int) (mfp : Int) (mfd : Int) (mgo : Int) (mbo : Int) (mpe : Int) (mye : Int) (mpr : Int) (mld : Int) (msi : Int) (mse : Int) (ow : Nat → Int) (rw : Nat → Int) (th : Nat → Int) (a : Int), av = [q2 0, q1 a] ∧ w = [.inr (12, [q1 mco, q2 4, q2 5, q2 6, q2 7, q2 8, q2 9, q2 10, q2 11, q2 12, q1 mre, q1 mle, q1 mbe, q1 mso, q1 mva, q3 mwo, q1 mwr, q1 mlf, q1 mlp, q2 13, q2 14, q1 mfp, q1 mfd, q1 mgo, q1 mbo, q1 mpe, q1 mye, q2 15, q1 mpr, q2 16, q2 17, q2 18, q2 19, q1 mld, q2 20, q1 msi, q2 1, q2 2, q2 3, q2 21, q2 22, q1 mse, q2 23, q2 24, q2 25]), .inl (3, 72, .inr (.inl ow)), .inl (3, 9, .inr (.inl rw)), .inl (3, 9, .inr (.inl th))] ∧ (0 ≤ mpe ∧ mpe ≤ 8) ∧ (0 ≤ a ∧ a ≤ 8) ∧ (∀ (r : Int) (x_rw : Nat → Int) (x_th : Nat → Int), Q (some (q1 r)) ([.inr (12, [q1 mco, q2 4, q2 5, q2 6, q2 7, q2 8, q2 9, q2 10, q2 11, q2 12, q1 mre, q1 mle, q1 mbe, q1 mso, q1 mva, q3 mwo, q1 mwr, q1 mlf, q1 mlp, q2 13, q2 14, q1 mfp, q1 mfd, q1 mgo, q1 mbo, q1 mpe, q1 mye, q2 15, q1 mpr, q2 16, q2 17, q2 18, q2 19, q1 mld, q2 20, q1 msi, q2 1, q2 2, q2 3, q2 21, q2 22, q1 mse, q2 23, q2 24, q2 25]), .inl (3, 72, .inr (.inl ow)), .inl (3, 9, .inr (.inl x_rw)), .inl (3, 9, .inr (.inl x_th))]))
def I_X12_ask (mco : Int) (mre : Int) (mle : Int) (mbe : Int) (mso : Int) (mva : Int) (mwo : Int) (mwr : Int) (mlf : Int) (mlp : Int) (mfp : Int) (mfd : Int) (mgo : Int) (mbo : Int) (mpe : Int) (mye : Int) (mpr : Int) (mld : Int) (msi : Int) (mse : Int) (ow : Nat → Int) (rw : Nat → Int) (th : Nat → Int) (a : Int) : Nat → Nat → List qV → List qV → qW → Prop := fun dz mz vz sz wz => if dz = 7 then (∃ (y_rw : Nat → Int) (y_th : Nat → Int) (v2 : Int) (v3 : Int) (v5 : Int), vz = [q2 0, q1 a, q1 v2, q3 v3, q1 v5] ∧ sz = [] ∧ wz = [.inr (12, [q1 mco, q2 4, q2 5, q2 6, q2 7, q2 8, q2 9, q2 10, q2 11, q2 12, q1 mre, q1 mle, q1 mbe, q1 mso, q1 mva, q3 mwo, q1 mwr, q1 mlf, q1 mlp, q2 13, q2 14, q1 mfp, q1 mfd, q1 mgo, q1 mbo, q1 mpe, q1 mye, q2 15, q1 mpr, q2 16, q2 17, q2 18, q2 19, q1 mld, q2 20, q1 msi, q2 1, q2 2, q2 3, q2 21, q2 22, q1 mse, q2 23, q2 24, q2 25]), .inl (3, 72, .inr (.inl ow)), .inl (3, 9, .inr (.inl y_rw)), .inl (3, 9, .inr (.inl y_th))] ∧ mz = 1000 * (8 - v5).toNat ∧ (0 ≤ v5 ∧ v5 ≤ mpe)) else if dz = 22 then (∃ (y_rw : Nat → Int) (y_th : Nat → Int) (v2 : Int) (v3 : Int) (v5 : Int) (v6 : Int) (v8 : Int), vz = [q2 0, q1 a, q1 v2, q3 v3, q1 v5, q3 v6, q1 v8] ∧ sz = [] ∧ wz = [.inr (12, [q1 mco, q2 4, q2 5, q2 6, q2 7, q2 8, q2 9, q2 10, q2 11, q2 12, q1 mre, q1 mle, q1 mbe, q1 mso, q1 mva, q3 mwo, q1 mwr, q1 mlf, q1 mlp, q2 13, q2 14, q1 mfp, q1 mfd, q1 mgo, q1 mbo, q1 mpe, q1 mye, q2 15, q1 mpr, q2 16, q2 17, q2 18, q2 19, q1 mld, q2 20, q1 msi, q2 1, q2 2, q2 3, q2 21, q2 22, q1 mse, q2 23, q2 24, q2 25]), .inl (3, 72, .inr (.inl ow)), .inl (3, 9, .inr (.inl y_rw)), .inl (3, 9, .inr (.inl y_th))] ∧ mz = 1000 * (8 - v5).toNat - 500 + (9 - v8).toNat ∧ (0 ≤ v5 ∧ v5 < mpe ∧ 0 ≤ v8 ∧ v8 ≤ a + 1)) else False
set_option maxHeartbeats 4000000 in
set_option maxRecDepth 100000 in
theorem m_X12_ask (l : Launch) : q_M l yX12_ask cX12_ask 11 (some .int) 2 52 sp_X12_ask := by
  refine q_meth (by decide) (fun av w Q h => by obtain ⟨mco, mre, mle, mbe, mso, mva, mwo, mwr, mlf, mlp, mfp, mfd, mgo, mbo, mpe, mye, mpr, mld, msi, mse, ow, rw, th, a, rfl, rfl, hpe, ha, hQ⟩ := h; exact Nat.le_of_ble_eq_true rfl) ?_
  intro p e R s m args below meth c dC dI k g A av w Q hsp oka okw X
  obtain ⟨mco, mre, mle, mbe, mso, mva, mwo, mwr, mlf, mlp, mfp, mfd, mgo, mbo, mpe, mye, mpr, mld, msi, mse, ow, rw, th, a, rfl, rfl, hpe, ha, hQ⟩ := hsp
  have o_a : -2147483648 ≤ a ∧ a ≤ 2147483647 := oka _ (List.mem_of_getElem? (i := 1) rfl)
  refine s_mono (s_X12_ask_0 X (J := fun dz vz sz wz => ∃ mz, I_X12_ask mco mre mle mbe mso mva mwo mwr mlf mlp mfp mfd mgo mbo mpe mye mpr mld msi mse ow rw th a dz mz vz sz wz) (q_loopn (I_X12_ask mco mre mle mbe mso mva mwo mwr mlf mlp mfp mfd mgo mbo mpe mye mpr mld msi mse ow rw th a) (fun dz J => if dz = 7 then b_X12_ask_7 J Q else if dz = 22 then b_X12_ask_22 J Q else q_F) ?hs ?hv)) ?_
  case hs =>
    intro d J hJ
    by_cases h7 : d = 7
    · subst h7; exact s_X12_ask_7 X hJ
    by_cases h22 : d = 22
    · subst h22; exact s_X12_ask_22 X hJ
    simp only [h7, h22, if_false]
    exact s_F
  case hv =>
    intro dz mz vz sz wz hI okv oks okw hlen
    by_cases h7 : dz = 7
    · subst h7
      obtain ⟨y_rw, y_th, v2, v3, v5, rfl, rfl, rfl, hn, hp⟩ := hI
      apply And.intro
      · intro h13
        exact hQ _ _ _
      · intro h13
        exact ⟨_, ⟨_, _, _, _, _, _, _, rfl, rfl, rfl, rfl, (by first | omega | assumption | exact q_rg_up (by assumption) (by omega) | exact q_rg_up (q_rg_up (by assumption) (by omega)) (by omega) | exact q_rg_cpy (by assumption) (by assumption))⟩, by omega⟩
    by_cases h22 : dz = 22
    · subst h22
      obtain ⟨y_rw, y_th, v2, v3, v5, v6, v8, rfl, rfl, rfl, hn, hp⟩ := hI
      apply And.intro
      · intro h25
        apply And.intro
        · intro h64
          apply And.intro
          · intro h83
            apply And.intro
            · intro h95
              intro z105 h105
              first | replace h105 := e_add h105 (by omega) | replace h105 := e_rng h105
              exact ⟨_, ⟨_, _, _, _, _, rfl, rfl, rfl, rfl, (by first | omega | assumption | exact q_rg_up (by assumption) (by omega) | exact q_rg_up (q_rg_up (by assumption) (by omega)) (by omega) | exact q_rg_cpy (by assumption) (by assumption))⟩, by omega⟩
            · intro h95
              intro z105 h105
              first | replace h105 := e_add h105 (by omega) | replace h105 := e_rng h105
              exact ⟨_, ⟨_, _, _, _, _, rfl, rfl, rfl, rfl, (by first | omega | assumption | exact q_rg_up (by assumption) (by omega) | exact q_rg_up (q_rg_up (by assumption) (by omega)) (by omega) | exact q_rg_cpy (by assumption) (by assumption))⟩, by omega⟩
          · intro h83
            apply And.intro
            · intro h95
              intro z105 h105
              first | replace h105 := e_add h105 (by omega) | replace h105 := e_rng h105
              exact ⟨_, ⟨_, _, _, _, _, rfl, rfl, rfl, rfl, (by first | omega | assumption | exact q_rg_up (by assumption) (by omega) | exact q_rg_up (q_rg_up (by assumption) (by omega)) (by omega) | exact q_rg_cpy (by assumption) (by assumption))⟩, by omega⟩
            · intro h95
              intro z105 h105
              first | replace h105 := e_add h105 (by omega) | replace h105 := e_rng h105
              exact ⟨_, ⟨_, _, _, _, _, rfl, rfl, rfl, rfl, (by first | omega | assumption | exact q_rg_up (by assumption) (by omega) | exact q_rg_up (q_rg_up (by assumption) (by omega)) (by omega) | exact q_rg_cpy (by assumption) (by assumption))⟩, by omega⟩
        · intro h64
          intro z70 h70
          replace h70 := e_cmp h70
          apply And.intro
          · intro h71
            apply And.intro
            · intro h83
              apply And.intro
              · intro h95
                intro z105 h105
                first | replace h105 := e_add h105 (by omega) | replace h105 := e_rng h105
                exact ⟨_, ⟨_, _, _, _, _, rfl, rfl, rfl, rfl, (by first | omega | assumption | exact q_rg_up (by assumption) (by omega) | exact q_rg_up (q_rg_up (by assumption) (by omega)) (by omega) | exact q_rg_cpy (by assumption) (by assumption))⟩, by omega⟩
              · intro h95
                intro z105 h105
                first | replace h105 := e_add h105 (by omega) | replace h105 := e_rng h105
                exact ⟨_, ⟨_, _, _, _, _, rfl, rfl, rfl, rfl, (by first | omega | assumption | exact q_rg_up (by assumption) (by omega) | exact q_rg_up (q_rg_up (by assumption) (by omega)) (by omega) | exact q_rg_cpy (by assumption) (by assumption))⟩, by omega⟩
            · intro h83
              apply And.intro
              · intro h95
                intro z105 h105
                first | replace h105 := e_add h105 (by omega) | replace h105 := e_rng h105
                exact ⟨_, ⟨_, _, _, _, _, rfl, rfl, rfl, rfl, (by first | omega | assumption | exact q_rg_up (by assumption) (by omega) | exact q_rg_up (q_rg_up (by assumption) (by omega)) (by omega) | exact q_rg_cpy (by assumption) (by assumption))⟩, by omega⟩
              · intro h95
                intro z105 h105
                first | replace h105 := e_add h105 (by omega) | replace h105 := e_rng h105
                exact ⟨_, ⟨_, _, _, _, _, rfl, rfl, rfl, rfl, (by first | omega | assumption | exact q_rg_up (by assumption) (by omega) | exact q_rg_up (q_rg_up (by assumption) (by omega)) (by omega) | exact q_rg_cpy (by assumption) (by assumption))⟩, by omega⟩
          · intro h71
            apply And.intro
            · intro h83
              apply And.intro
              · intro h95
                intro z105 h105
                first | replace h105 := e_add h105 (by omega) | replace h105 := e_rng h105
                exact ⟨_, ⟨_, _, _, _, _, rfl, rfl, rfl, rfl, (by first | omega | assumption | exact q_rg_up (by assumption) (by omega) | exact q_rg_up (q_rg_up (by assumption) (by omega)) (by omega) | exact q_rg_cpy (by assumption) (by assumption))⟩, by omega⟩
              · intro h95
                intro z105 h105
                first | replace h105 := e_add h105 (by omega) | replace h105 := e_rng h105
                exact ⟨_, ⟨_, _, _, _, _, rfl, rfl, rfl, rfl, (by first | omega | assumption | exact q_rg_up (by assumption) (by omega) | exact q_rg_up (q_rg_up (by assumption) (by omega)) (by omega) | exact q_rg_cpy (by assumption) (by assumption))⟩, by omega⟩
            · intro h83
              apply And.intro
              · intro h95
                intro z105 h105
                first | replace h105 := e_add h105 (by omega) | replace h105 := e_rng h105
                exact ⟨_, ⟨_, _, _, _, _, rfl, rfl, rfl, rfl, (by first | omega | assumption | exact q_rg_up (by assumption) (by omega) | exact q_rg_up (q_rg_up (by assumption) (by omega)) (by omega) | exact q_rg_cpy (by assumption) (by assumption))⟩, by omega⟩
              · intro h95
                intro z105 h105
                first | replace h105 := e_add h105 (by omega) | replace h105 := e_rng h105
                exact ⟨_, ⟨_, _, _, _, _, rfl, rfl, rfl, rfl, (by first | omega | assumption | exact q_rg_up (by assumption) (by omega) | exact q_rg_up (q_rg_up (by assumption) (by omega)) (by omega) | exact q_rg_cpy (by assumption) (by assumption))⟩, by omega⟩
      · intro h25
        refine Exists.intro [0, 1, 2, 3, 4, 5, 6, 7, 8, 9, 10, 11, 12, 13, 14, 15, 16, 17, 18, 19, 20, 21, 22, 23, 24, 25] (Exists.intro [q2 0, q1 _, q1 _, q1 _] (Exists.intro ([.inr (12, [q1 _, q2 4, q2 5, q2 6, q2 7, q2 8, q2 9, q2 10, q2 11, q2 12, q1 _, q1 _, q1 _, q1 _, q1 _, q3 _, q1 _, q1 _, q1 _, q2 13, q2 14, q1 _, q1 _, q1 _, q1 _, q1 _, q1 _, q2 15, q1 _, q2 16, q2 17, q2 18, q2 19, q1 _, q2 20, q1 _, q2 1, q2 2, q2 3, q2 21, q2 22, q1 _, q2 23, q2 24, q2 25]), .inl (3, 72, .inr (.inl _)), .inl (3, 9, .inr (.inl _)), .inl (3, 9, .inr (.inl _))]) (And.intro rfl (And.intro rfl (And.intro rfl (And.intro ⟨⟨_, rfl⟩, rfl⟩ ?_))))))
        refine Exists.intro _ (Exists.intro _ (Exists.intro _ (Exists.intro _ (Exists.intro _ (Exists.intro _ (Exists.intro _ (Exists.intro _ (Exists.intro _ (Exists.intro _ (Exists.intro _ (Exists.intro _ (Exists.intro _ (Exists.intro _ (Exists.intro _ (Exists.intro _ (Exists.intro _ (Exists.intro _ (Exists.intro _ (Exists.intro _ (Exists.intro _ (Exists.intro _ (Exists.intro _ (Exists.intro _ (Exists.intro _ (Exists.intro _ (And.intro rfl (And.intro rfl (And.intro (by first | omega | assumption | exact q_rg_up (by assumption) (by omega) | exact q_rg_up (q_rg_up (by assumption) (by omega)) (by omega) | exact q_rg_cpy (by assumption) (by assumption)) (And.intro (by first | omega | assumption | exact q_rg_up (by assumption) (by omega) | exact q_rg_up (q_rg_up (by assumption) (by omega)) (by omega) | exact q_rg_cpy (by assumption) (by assumption)) (?_))))))))))))))))))))))))))))))
        intro z34 x_rw_34 x_th_34
        intro z43 h43
        replace h43 := e_cmp h43
        apply And.intro
        · intro h44
          intro z56 h56
          first | replace h56 := e_add h56 (by omega) | replace h56 := e_rng h56
          exact ⟨_, ⟨_, _, _, _, _, _, _, rfl, rfl, rfl, rfl, (by first | omega | assumption | exact q_rg_up (by assumption) (by omega) | exact q_rg_up (q_rg_up (by assumption) (by omega)) (by omega) | exact q_rg_cpy (by assumption) (by assumption))⟩, by omega⟩
        · intro h44
          intro z56 h56
          first | replace h56 := e_add h56 (by omega) | replace h56 := e_rng h56
          exact ⟨_, ⟨_, _, _, _, _, _, _, rfl, rfl, rfl, rfl, (by first | omega | assumption | exact q_rg_up (by assumption) (by omega) | exact q_rg_up (q_rg_up (by assumption) (by omega)) (by omega) | exact q_rg_cpy (by assumption) (by assumption))⟩, by omega⟩
    simp only [I_X12_ask, h7, h22, if_false] at hI
  rintro lv st w' ⟨rfl, rfl, rfl⟩
  exact ⟨_, _, _, _, _, _, rfl, rfl, rfl, rfl, (by first | omega | assumption | exact q_rg_up (by assumption) (by omega) | exact q_rg_up (q_rg_up (by assumption) (by omega)) (by omega) | exact q_rg_cpy (by assumption) (by assumption))⟩

theorem dX12_sure_0 : decode cX12_sure 0 = .ok (.aload_n 0, 1) := by decide +kernel
theorem dX12_sure_1 : decode cX12_sure 1 = .ok (.iconst 0, 1) := by decide +kernel
theorem dX12_sure_2 : decode cX12_sure 2 = .ok (.putfield 88, 3) := by decide +kernel
theorem dX12_sure_5 : decode cX12_sure 5 = .ok (.aload_n 0, 1) := by decide +kernel
theorem dX12_sure_6 : decode cX12_sure 6 = .ok (.iload_n 1, 1) := by decide +kernel
theorem dX12_sure_7 : decode cX12_sure 7 = .ok (.iload_n 2, 1) := by decide +kernel
theorem dX12_sure_8 : decode cX12_sure 8 = .ok (.iload_n 3, 1) := by decide +kernel
theorem dX12_sure_9 : decode cX12_sure 9 = .ok (.invokevirtual 478, 3) := by decide +kernel
theorem dX12_sure_12 : decode cX12_sure 12 = .ok (.ifCond .eq 18, 3) := by decide +kernel
theorem dX12_sure_15 : decode cX12_sure 15 = .ok (.iload 4, 2) := by decide +kernel
theorem dX12_sure_17 : decode cX12_sure 17 = .ok (.iconst (-1), 1) := by decide +kernel
theorem dX12_sure_18 : decode cX12_sure 18 = .ok (.if_icmp .eq 14, 3) := by decide +kernel
theorem dX12_sure_21 : decode cX12_sure 21 = .ok (.aload_n 0, 1) := by decide +kernel
theorem dX12_sure_22 : decode cX12_sure 22 = .ok (.iload 4, 2) := by decide +kernel
theorem dX12_sure_24 : decode cX12_sure 24 = .ok (.invokevirtual 309, 3) := by decide +kernel
theorem dX12_sure_27 : decode cX12_sure 27 = .ok (.ifCond .ne 5, 3) := by decide +kernel
theorem dX12_sure_30 : decode cX12_sure 30 = .ok (.iconst (-1), 1) := by decide +kernel
theorem dX12_sure_31 : decode cX12_sure 31 = .ok (.ireturn, 1) := by decide +kernel
theorem dX12_sure_32 : decode cX12_sure 32 = .ok (.aload_n 0, 1) := by decide +kernel
theorem dX12_sure_33 : decode cX12_sure 33 = .ok (.invokevirtual 483, 3) := by decide +kernel
theorem dX12_sure_36 : decode cX12_sure 36 = .ok (.aload_n 0, 1) := by decide +kernel
theorem dX12_sure_37 : decode cX12_sure 37 = .ok (.iload_n 3, 1) := by decide +kernel
theorem dX12_sure_38 : decode cX12_sure 38 = .ok (.iconst (-1), 1) := by decide +kernel
theorem dX12_sure_39 : decode cX12_sure 39 = .ok (.iconst 0, 1) := by decide +kernel
theorem dX12_sure_40 : decode cX12_sure 40 = .ok (.invokevirtual 486, 3) := by decide +kernel
theorem dX12_sure_43 : decode cX12_sure 43 = .ok (.lstore 5, 2) := by decide +kernel
theorem dX12_sure_45 : decode cX12_sure 45 = .ok (.lload 5, 2) := by decide +kernel
theorem dX12_sure_47 : decode cX12_sure 47 = .ok (.lconst 0, 1) := by decide +kernel
theorem dX12_sure_48 : decode cX12_sure 48 = .ok (.lcmp, 1) := by decide +kernel
theorem dX12_sure_49 : decode cX12_sure 49 = .ok (.ifCond .ne 5, 3) := by decide +kernel
theorem dX12_sure_52 : decode cX12_sure 52 = .ok (.iconst (-1), 1) := by decide +kernel
theorem dX12_sure_53 : decode cX12_sure 53 = .ok (.ireturn, 1) := by decide +kernel
theorem dX12_sure_54 : decode cX12_sure 54 = .ok (.iload 4, 2) := by decide +kernel
theorem dX12_sure_56 : decode cX12_sure 56 = .ok (.iconst (-1), 1) := by decide +kernel
theorem dX12_sure_57 : decode cX12_sure 57 = .ok (.if_icmp .ne 9, 3) := by decide +kernel
theorem dX12_sure_60 : decode cX12_sure 60 = .ok (.aload_n 0, 1) := by decide +kernel
theorem dX12_sure_61 : decode cX12_sure 61 = .ok (.iload_n 3, 1) := by decide +kernel
theorem dX12_sure_62 : decode cX12_sure 62 = .ok (.invokevirtual 490, 3) := by decide +kernel
theorem dX12_sure_65 : decode cX12_sure 65 = .ok (.ireturn, 1) := by decide +kernel
theorem dX12_sure_66 : decode cX12_sure 66 = .ok (.iconst 0, 1) := by decide +kernel
theorem dX12_sure_67 : decode cX12_sure 67 = .ok (.istore 7, 2) := by decide +kernel
theorem dX12_sure_69 : decode cX12_sure 69 = .ok (.iload 7, 2) := by decide +kernel
theorem dX12_sure_71 : decode cX12_sure 71 = .ok (.iload_n 3, 1) := by decide +kernel
theorem dX12_sure_72 : decode cX12_sure 72 = .ok (.if_icmp .gt 27, 3) := by decide +kernel
theorem dX12_sure_75 : decode cX12_sure 75 = .ok (.aload_n 0, 1) := by decide +kernel
theorem dX12_sure_76 : decode cX12_sure 76 = .ok (.iload_n 3, 1) := by decide +kernel
theorem dX12_sure_77 : decode cX12_sure 77 = .ok (.iload 4, 2) := by decide +kernel
theorem dX12_sure_79 : decode cX12_sure 79 = .ok (.iload 7, 2) := by decide +kernel
theorem dX12_sure_81 : decode cX12_sure 81 = .ok (.invokevirtual 486, 3) := by decide +kernel
theorem dX12_sure_84 : decode cX12_sure 84 = .ok (.lload 5, 2) := by decide +kernel
theorem dX12_sure_86 : decode cX12_sure 86 = .ok (.lcmp, 1) := by decide +kernel
theorem dX12_sure_87 : decode cX12_sure 87 = .ok (.ifCond .ne 6, 3) := by decide +kernel
theorem dX12_sure_90 : decode cX12_sure 90 = .ok (.iload 7, 2) := by decide +kernel
theorem dX12_sure_92 : decode cX12_sure 92 = .ok (.ireturn, 1) := by decide +kernel
theorem dX12_sure_93 : decode cX12_sure 93 = .ok (.iinc 7 1, 3) := by decide +kernel
theorem dX12_sure_96 : decode cX12_sure 96 = .ok (.goto (-27), 3) := by decide +kernel
theorem dX12_sure_99 : decode cX12_sure 99 = .ok (.iconst (-1), 1) := by decide +kernel
theorem dX12_sure_100 : decode cX12_sure 100 = .ok (.ireturn, 1) := by decide +kernel
def is_X12_sure : Nat → List Nat := fun d => if d = 69 then [0, 3, 4, 5, 7] else []
set_option maxRecDepth 100000 in
def b_X12_sure_69 (J : Nat → List qV → List qV → qW → Prop) (Q : qR) : qK := x_iload 7 (x_iload 3 (x_icmp_gt (x_int (-1) (x_iret Q)) (x_aload 0 (x_iload 3 (x_iload 4 (x_iload 7 (x_call (some 12) 4 sp_X12_rowsBy (x_nw (x_lload 5 (x_lcmp (x_if_ne (x_iinc 7 1 (x_cut [0, 3, 4, 5, 7] (J 69))) (x_iload 7 (x_iret Q)))))))))))))
set_option maxRecDepth 100000 in
theorem s_X12_sure_69 {p : Program} {l : Launch} {e : Env} {R : Room} {s : State} {m : MethodId} {args : Array Value} {below : List Frame} {meth : Method} {c : Code} {nW : Nat} {dC : Nat → ClassId} {dI : Nat → Nat → Nat} {k : Nat → ClassId} {g : Nat → Nat} {A : Nat → Prop} {J : Nat → List qV → List qV → qW → Prop} {Q : qR} (X : q_X p R s m args meth c cX12_sure 8 nW 4 94 RX12 (some .int) dC dI k g A) (hJ : ∀ d : Nat, q_Sd p l e R s m args below meth c 8 nW dC dI k g A (MQ below (q_post (dC, dI) k g nW Q A) args s 0 0 A) d (x_cut (is_X12_sure d) (J d))) : q_Sd p l e R s m args below meth c 8 nW dC dI k g A (MQ below (q_post (dC, dI) k g nW Q A) args s 0 0 A) 69 (b_X12_sure_69 J Q) := by
  unfold b_X12_sure_69
  refine s_iload X dX12_sure_69 ?_
  refine s_iload_n X rfl dX12_sure_71 ?_
  refine s_icmp_gt X (tgt := 99) dX12_sure_72 (by decide) ?_ ?_
  · refine s_iconst X ⟨by decide, by decide⟩ dX12_sure_99 ?_
    exact s_iret X dX12_sure_100
  · refine s_aload_n X rfl dX12_sure_75 ?_
    refine s_iload_n X rfl dX12_sure_76 ?_
    refine s_iload X dX12_sure_77 ?_
    refine s_iload X dX12_sure_79 ?_
    refine s_callV X (m_X12_rowsBy l) tw_1401 tw_1402 tw_1613 tw_134 tw_1403 rfl (by decide +kernel) ⟨by decide, by decide⟩ dX12_sure_81 ?_
    refine s_nw ?_
    refine s_lload X dX12_sure_84 ?_
    refine s_lcmp X dX12_sure_86 ?_
    refine s_if_ne X (tgt := 93) dX12_sure_87 (by decide) ?_ ?_
    · refine s_iinc X (by decide) dX12_sure_93 ?_
      refine s_goto X (tgt := 69) dX12_sure_96 (by decide) ?_
      exact hJ 69
    · refine s_iload X dX12_sure_90 ?_
      exact s_iret X dX12_sure_92
set_option maxRecDepth 100000 in
def b_X12_sure_32 (J : Nat → List qV → List qV → qW → Prop) (Q : qR) : qK := x_aload 0 (x_call (some 12) 1 sp_X12_findAllOwn (x_nw (x_aload 0 (x_iload 3 (x_int (-1) (x_int 0 (x_call (some 12) 4 sp_X12_rowsBy (x_nw (x_lstore 5 (x_lload 5 (x_lng 0 (x_lcmp (x_if_ne (x_iload 4 (x_int (-1) (x_icmp_ne (x_int 0 (x_istore 7 (x_cut [0, 3, 4, 5, 7] (J 69)))) (x_aload 0 (x_iload 3 (x_call (some 12) 2 sp_X12_ask (x_nw (x_iret Q)))))))) (x_int (-1) (x_iret Q)))))))))))))))
set_option maxRecDepth 100000 in
theorem s_X12_sure_32 {p : Program} {l : Launch} {e : Env} {R : Room} {s : State} {m : MethodId} {args : Array Value} {below : List Frame} {meth : Method} {c : Code} {nW : Nat} {dC : Nat → ClassId} {dI : Nat → Nat → Nat} {k : Nat → ClassId} {g : Nat → Nat} {A : Nat → Prop} {J : Nat → List qV → List qV → qW → Prop} {Q : qR} (X : q_X p R s m args meth c cX12_sure 8 nW 4 94 RX12 (some .int) dC dI k g A) (hJ : ∀ d : Nat, q_Sd p l e R s m args below meth c 8 nW dC dI k g A (MQ below (q_post (dC, dI) k g nW Q A) args s 0 0 A) d (x_cut (is_X12_sure d) (J d))) : q_Sd p l e R s m args below meth c 8 nW dC dI k g A (MQ below (q_post (dC, dI) k g nW Q A) args s 0 0 A) 32 (b_X12_sure_32 J Q) := by
  unfold b_X12_sure_32
  refine s_aload_n X rfl dX12_sure_32 ?_
  refine s_callV X (m_X12_findAllOwn l) tw_1392 tw_1393 tw_1571 tw_134 tw_1394 rfl (by decide +kernel) ⟨by decide, by decide⟩ dX12_sure_33 ?_
  refine s_nw ?_
  refine s_aload_n X rfl dX12_sure_36 ?_
  refine s_iload_n X rfl dX12_sure_37 ?_
  refine s_iconst X ⟨by decide, by decide⟩ dX12_sure_38 ?_
  refine s_iconst X ⟨by decide, by decide⟩ dX12_sure_39 ?_
  refine s_callV X (m_X12_rowsBy l) tw_1401 tw_1402 tw_1613 tw_134 tw_1403 rfl (by decide +kernel) ⟨by decide, by decide⟩ dX12_sure_40 ?_
  refine s_nw ?_
  refine s_lstore X (by decide) dX12_sure_43 ?_
  refine s_lload X dX12_sure_45 ?_
  refine s_lconst X ⟨by decide, by decide⟩ (by decide) dX12_sure_47 ?_
  refine s_lcmp X dX12_sure_48 ?_
  refine s_if_ne X (tgt := 54) dX12_sure_49 (by decide) ?_ ?_
  · refine s_iload X dX12_sure_54 ?_
    refine s_iconst X ⟨by decide, by decide⟩ dX12_sure_56 ?_
    refine s_icmp_ne X (tgt := 66) dX12_sure_57 (by decide) ?_ ?_
    · refine s_iconst X ⟨by decide, by decide⟩ dX12_sure_66 ?_
      refine s_istore X (by decide) dX12_sure_67 ?_
      exact hJ 69
    · refine s_aload_n X rfl dX12_sure_60 ?_
      refine s_iload_n X rfl dX12_sure_61 ?_
      refine s_callV X (m_X12_ask l) tw_1411 tw_1412 tw_1546 tw_134 tw_1413 rfl (by decide +kernel) ⟨by decide, by decide⟩ dX12_sure_62 ?_
      refine s_nw ?_
      exact s_iret X dX12_sure_65
  · refine s_iconst X ⟨by decide, by decide⟩ dX12_sure_52 ?_
    exact s_iret X dX12_sure_53
set_option maxRecDepth 100000 in
def b_X12_sure_30 (J : Nat → List qV → List qV → qW → Prop) (Q : qR) : qK := x_int (-1) (x_iret Q)
set_option maxRecDepth 100000 in
theorem s_X12_sure_30 {p : Program} {l : Launch} {e : Env} {R : Room} {s : State} {m : MethodId} {args : Array Value} {below : List Frame} {meth : Method} {c : Code} {nW : Nat} {dC : Nat → ClassId} {dI : Nat → Nat → Nat} {k : Nat → ClassId} {g : Nat → Nat} {A : Nat → Prop} {J : Nat → List qV → List qV → qW → Prop} {Q : qR} (X : q_X p R s m args meth c cX12_sure 8 nW 4 94 RX12 (some .int) dC dI k g A) (hJ : ∀ d : Nat, q_Sd p l e R s m args below meth c 8 nW dC dI k g A (MQ below (q_post (dC, dI) k g nW Q A) args s 0 0 A) d (x_cut (is_X12_sure d) (J d))) : q_Sd p l e R s m args below meth c 8 nW dC dI k g A (MQ below (q_post (dC, dI) k g nW Q A) args s 0 0 A) 30 (b_X12_sure_30 J Q) := by
  unfold b_X12_sure_30
  refine s_iconst X ⟨by decide, by decide⟩ dX12_sure_30 ?_
  exact s_iret X dX12_sure_31
set_option maxRecDepth 100000 in
def b_X12_sure_0 (J : Nat → List qV → List qV → qW → Prop) (Q : qR) : qK := x_aload 0 (x_int 0 (x_put 12 0 q_oki (x_nw (x_aload 0 (x_iload 1 (x_iload 2 (x_iload 3 (x_call (some 12) 4 sp_X12_laySight (x_nw (x_if_eq (b_X12_sure_30 J Q) (x_iload 4 (x_int (-1) (x_icmp_eq (b_X12_sure_32 J Q) (x_aload 0 (x_iload 4 (x_callr (some 12) 2 spr_X12_isPerson (x_if_ne (b_X12_sure_32 J Q) (b_X12_sure_30 J Q))))))))))))))))))
set_option maxRecDepth 100000 in
theorem s_X12_sure_0 {p : Program} {l : Launch} {e : Env} {R : Room} {s : State} {m : MethodId} {args : Array Value} {below : List Frame} {meth : Method} {c : Code} {nW : Nat} {dC : Nat → ClassId} {dI : Nat → Nat → Nat} {k : Nat → ClassId} {g : Nat → Nat} {A : Nat → Prop} {J : Nat → List qV → List qV → qW → Prop} {Q : qR} (X : q_X p R s m args meth c cX12_sure 8 nW 4 94 RX12 (some .int) dC dI k g A) (hJ : ∀ d : Nat, q_Sd p l e R s m args below meth c 8 nW dC dI k g A (MQ below (q_post (dC, dI) k g nW Q A) args s 0 0 A) d (x_cut (is_X12_sure d) (J d))) : q_Sd p l e R s m args below meth c 8 nW dC dI k g A (MQ below (q_post (dC, dI) k g nW Q A) args s 0 0 A) 0 (b_X12_sure_0 J Q) := by
  unfold b_X12_sure_0
  refine s_aload_n X rfl dX12_sure_0 ?_
  refine s_iconst X ⟨by decide, by decide⟩ dX12_sure_1 ?_
  refine s_put X (T := TX12) (C := RX12) (N := 45) tu_X12 tyX12_ok nmX12 rfl (by decide) tw_997 rfl (by decide +kernel) q_oki_t dX12_sure_2 ?_
  refine s_nw ?_
  refine s_aload_n X rfl dX12_sure_5 ?_
  refine s_iload_n X rfl dX12_sure_6 ?_
  refine s_iload_n X rfl dX12_sure_7 ?_
  refine s_iload_n X rfl dX12_sure_8 ?_
  refine s_callV X (m_X12_laySight l) tw_1388 tw_1389 tw_1596 tw_134 tw_1390 rfl (by decide +kernel) ⟨by decide, by decide⟩ dX12_sure_9 ?_
  refine s_nw ?_
  refine s_if_eq X (tgt := 30) dX12_sure_12 (by decide) ?_ ?_
  · exact s_X12_sure_30 X hJ
  · refine s_iload X dX12_sure_15 ?_
    refine s_iconst X ⟨by decide, by decide⟩ dX12_sure_17 ?_
    refine s_icmp_eq X (tgt := 32) dX12_sure_18 (by decide) ?_ ?_
    · exact s_X12_sure_32 X hJ
    · refine s_aload_n X rfl dX12_sure_21 ?_
      refine s_iload X dX12_sure_22 ?_
      refine s_callVr X (m_X12_isPerson l) tw_1192 tw_1193 tw_1591 tw_134 tw_1194 rfl (by decide +kernel) ⟨by decide, by decide⟩ dX12_sure_24 ?_
      refine s_if_ne X (tgt := 32) dX12_sure_27 (by decide) ?_ ?_
      · exact s_X12_sure_32 X hJ
      · exact s_X12_sure_30 X hJ

def sp_X12_sure : qS := fun av w Q => ∃ (mco : Int) (mre : Int) (mle : Int) (mbe : Int) (mso : Int) (mva : Int) (mwo : Int) (mwr : Int) (mlf : Int) (mlp : Int) (mfp : Int) (mfd : Int) (mgo : Int) (mbo : Int) (mpe : Int) (mye : Int) (mpr : Int) (mld : Int) (msi : Int) (mse : Int) (mn : Nat → Int) (bs : Nat → Int) (ss : Nat → Int) (lx : Nat → Int) (fu : Nat → Int) (ow : Nat → Int) (rw : Nat → Int) (th : Nat → Int) (a : Int) (b : Int) (cc : Int) (dd : Int), av = [q2 0, q1 a, q1 b, q1 cc, q1 dd] ∧ w = [.inr (12, [q1 mco, q2 9, q2 10, q2 11, q2 12, q2 1, q2 2, q2 13, q2 14, q2 3, q1 mre, q1 mle, q1 mbe, q1 mso, q1 mva, q3 mwo, q1 mwr, q1 mlf, q1 mlp, q2 15, q2 16, q1 mfp, q1 mfd, q1 mgo, q1 mbo, q1 mpe, q1 mye, q2 17, q1 mpr, q2 18, q2 19, q2 20, q2 21, q1 mld, q2 22, q1 msi, q2 6, q2 7, q2 8, q2 4, q2 5, q1 mse, q2 23, q2 24, q2 25]), .inl (0, 16, .inl mn), .inl (0, 600, .inl bs), .inl (0, 168, .inl ss), .inl (3, 100, .inr (.inl lx)), .inl (3, 100, .inr (.inl fu)), .inl (3, 72, .inr (.inl ow)), .inl (3, 9, .inr (.inl rw)), .inl (3, 9, .inr (.inl th))] ∧ (q_rg 0 2 mn) ∧ (BI bs) ∧ (SI ss) ∧ (∀ (r : Int) (x_mco : Int) (x_msi : Int) (x_mbo : Int) (x_mpe : Int) (x_lx : Nat → Int) (x_fu : Nat → Int) (x_ow : Nat → Int) (x_rw : Nat → Int) (x_th : Nat → Int), Q (some (q1 r)) ([.inr (12, [q1 x_mco, q2 9, q2 10, q2 11, q2 12, q2 1, q2 2, q2 13, q2 14, q2 3, q1 mre, q1 mle, q1 mbe, q1 mso, q1 mva, q3 mwo, q1 mwr, q1 mlf, q1 mlp, q2 15, q2 16, q1 mfp, q1 mfd, q1 mgo, q1 x_mbo, q1 x_mpe, q1 mye, q2 17, q1 mpr, q2 18, q2 19, q2 20, q2 21, q1 mld, q2 22, q1 x_msi, q2 6, q2 7, q2 8, q2 4, q2 5, q1 mse, q2 23, q2 24, q2 25]), .inl (0, 16, .inl mn), .inl (0, 600, .inl bs), .inl (0, 168, .inl ss), .inl (3, 100, .inr (.inl x_lx)), .inl (3, 100, .inr (.inl x_fu)), .inl (3, 72, .inr (.inl x_ow)), .inl (3, 9, .inr (.inl x_rw)), .inl (3, 9, .inr (.inl x_th))]))
def I_X12_sure (mco : Int) (mre : Int) (mle : Int) (mbe : Int) (mso : Int) (mva : Int) (mwo : Int) (mwr : Int) (mlf : Int) (mlp : Int) (mfp : Int) (mfd : Int) (mgo : Int) (mbo : Int) (mpe : Int) (mye : Int) (mpr : Int) (mld : Int) (msi : Int) (mse : Int) (mn : Nat → Int) (bs : Nat → Int) (ss : Nat → Int) (lx : Nat → Int) (fu : Nat → Int) (ow : Nat → Int) (rw : Nat → Int) (th : Nat → Int) (a : Int) (b : Int) (cc : Int) (dd : Int) : Nat → Nat → List qV → List qV → qW → Prop := fun dz mz vz sz wz => if dz = 69 then (∃ (y_mco : Int) (y_msi : Int) (y_mbo : Int) (y_mpe : Int) (y_lx : Nat → Int) (y_fu : Nat → Int) (y_ow : Nat → Int) (y_rw : Nat → Int) (y_th : Nat → Int) (v5 : Int) (v7 : Int), vz = [q2 0, q1 cc, q1 dd, q3 v5, q1 v7] ∧ sz = [] ∧ wz = [.inr (12, [q1 y_mco, q2 9, q2 10, q2 11, q2 12, q2 1, q2 2, q2 13, q2 14, q2 3, q1 mre, q1 mle, q1 mbe, q1 mso, q1 mva, q3 mwo, q1 mwr, q1 mlf, q1 mlp, q2 15, q2 16, q1 mfp, q1 mfd, q1 mgo, q1 y_mbo, q1 y_mpe, q1 mye, q2 17, q1 mpr, q2 18, q2 19, q2 20, q2 21, q1 mld, q2 22, q1 y_msi, q2 6, q2 7, q2 8, q2 4, q2 5, q1 mse, q2 23, q2 24, q2 25]), .inl (0, 16, .inl mn), .inl (0, 600, .inl bs), .inl (0, 168, .inl ss), .inl (3, 100, .inr (.inl y_lx)), .inl (3, 100, .inr (.inl y_fu)), .inl (3, 72, .inr (.inl y_ow)), .inl (3, 9, .inr (.inl y_rw)), .inl (3, 9, .inr (.inl y_th))] ∧ mz = (9 - v7).toNat ∧ (0 ≤ y_mbo ∧ y_mbo ≤ 1 ∧ 0 ≤ y_mpe ∧ y_mpe ≤ 8) ∧ (0 ≤ v7 ∧ v7 ≤ cc + 1 ∧ 0 ≤ cc ∧ cc ≤ 8)) else False
set_option maxHeartbeats 4000000 in
set_option maxRecDepth 100000 in
theorem m_X12_sure (l : Launch) : q_M l yX12_sure cX12_sure 8 (some .int) 4 94 sp_X12_sure := by
  refine q_meth (by decide) (fun av w Q h => by obtain ⟨mco, mre, mle, mbe, mso, mva, mwo, mwr, mlf, mlp, mfp, mfd, mgo, mbo, mpe, mye, mpr, mld, msi, mse, mn, bs, ss, lx, fu, ow, rw, th, a, b, cc, dd, rfl, rfl, hmn, hbi, hsi, hQ⟩ := h; exact Nat.le_of_ble_eq_true rfl) ?_
  intro p e R s m args below meth c dC dI k g A av w Q hsp oka okw X
  obtain ⟨mco, mre, mle, mbe, mso, mva, mwo, mwr, mlf, mlp, mfp, mfd, mgo, mbo, mpe, mye, mpr, mld, msi, mse, mn, bs, ss, lx, fu, ow, rw, th, a, b, cc, dd, rfl, rfl, hmn, hbi, hsi, hQ⟩ := hsp
  have o_a : -2147483648 ≤ a ∧ a ≤ 2147483647 := oka _ (List.mem_of_getElem? (i := 1) rfl)
  have o_b : -2147483648 ≤ b ∧ b ≤ 2147483647 := oka _ (List.mem_of_getElem? (i := 2) rfl)
  have o_cc : -2147483648 ≤ cc ∧ cc ≤ 2147483647 := oka _ (List.mem_of_getElem? (i := 3) rfl)
  have o_dd : -2147483648 ≤ dd ∧ dd ≤ 2147483647 := oka _ (List.mem_of_getElem? (i := 4) rfl)
  refine s_mono (s_X12_sure_0 X (J := fun dz vz sz wz => ∃ mz, I_X12_sure mco mre mle mbe mso mva mwo mwr mlf mlp mfp mfd mgo mbo mpe mye mpr mld msi mse mn bs ss lx fu ow rw th a b cc dd dz mz vz sz wz) (q_loopn (I_X12_sure mco mre mle mbe mso mva mwo mwr mlf mlp mfp mfd mgo mbo mpe mye mpr mld msi mse mn bs ss lx fu ow rw th a b cc dd) (fun dz J => if dz = 69 then b_X12_sure_69 J Q else q_F) ?hs ?hv)) ?_
  case hs =>
    intro d J hJ
    by_cases h69 : d = 69
    · subst h69; exact s_X12_sure_69 X hJ
    simp only [h69, if_false]
    exact s_F
  case hv =>
    intro dz mz vz sz wz hI okv oks okw hlen
    by_cases h69 : dz = 69
    · subst h69
      obtain ⟨y_mco, y_msi, y_mbo, y_mpe, y_lx, y_fu, y_ow, y_rw, y_th, v5, v7, rfl, rfl, rfl, hn, hyb, hp⟩ := hI
      apply And.intro
      · intro h72
        exact hQ _ _ _ _ _ _ _ _ _ _
      · intro h72
        refine Exists.intro [0, 6, 7, 8, 9, 10, 11, 12, 1, 2, 13, 14, 3, 15, 16, 17, 18, 19, 20, 21, 22, 4, 5, 23, 24, 25] (Exists.intro [q2 0, q1 _, q1 _, q1 _] (Exists.intro ([.inr (12, [q1 _, q2 4, q2 5, q2 6, q2 7, q2 8, q2 9, q2 10, q2 11, q2 12, q1 _, q1 _, q1 _, q1 _, q1 _, q3 _, q1 _, q1 _, q1 _, q2 13, q2 14, q1 _, q1 _, q1 _, q1 _, q1 _, q1 _, q2 15, q1 _, q2 16, q2 17, q2 18, q2 19, q1 _, q2 20, q1 _, q2 1, q2 2, q2 3, q2 21, q2 22, q1 _, q2 23, q2 24, q2 25]), .inl (3, 72, .inr (.inl _)), .inl (3, 9, .inr (.inl _)), .inl (3, 9, .inr (.inl _))]) (And.intro rfl (And.intro rfl (And.intro rfl (And.intro ⟨⟨_, rfl⟩, rfl⟩ ?_))))))
        refine Exists.intro _ (Exists.intro _ (Exists.intro _ (Exists.intro _ (Exists.intro _ (Exists.intro _ (Exists.intro _ (Exists.intro _ (Exists.intro _ (Exists.intro _ (Exists.intro _ (Exists.intro _ (Exists.intro _ (Exists.intro _ (Exists.intro _ (Exists.intro _ (Exists.intro _ (Exists.intro _ (Exists.intro _ (Exists.intro _ (Exists.intro _ (Exists.intro _ (Exists.intro _ (Exists.intro _ (Exists.intro _ (Exists.intro _ (And.intro rfl (And.intro rfl (And.intro (by first | omega | assumption | exact q_rg_up (by assumption) (by omega) | exact q_rg_up (q_rg_up (by assumption) (by omega)) (by omega) | exact q_rg_cpy (by assumption) (by assumption)) (And.intro (by first | omega | assumption | exact q_rg_up (by assumption) (by omega) | exact q_rg_up (q_rg_up (by assumption) (by omega)) (by omega) | exact q_rg_cpy (by assumption) (by assumption)) (?_))))))))))))))))))))))))))))))
        intro z81 x_rw_81 x_th_81
        intro z86 h86
        replace h86 := e_cmp h86
        apply And.intro
        · intro h87
          intro z93 h93
          first | replace h93 := e_add h93 (by omega) | replace h93 := e_rng h93
          exact ⟨_, ⟨_, _, _, _, _, _, _, _, _, _, _, rfl, rfl, rfl, rfl, (by first | omega | assumption | exact q_rg_up (by assumption) (by omega) | exact q_rg_up (q_rg_up (by assumption) (by omega)) (by omega) | exact q_rg_cpy (by assumption) (by assumption)), (by first | omega | assumption | exact q_rg_up (by assumption) (by omega) | exact q_rg_up (q_rg_up (by assumption) (by omega)) (by omega) | exact q_rg_cpy (by assumption) (by assumption))⟩, by omega⟩
        · intro h87
          exact hQ _ _ _ _ _ _ _ _ _ _
    simp only [I_X12_sure, h69, if_false] at hI
  rintro lv st w' ⟨rfl, rfl, rfl⟩
  apply And.intro
  · exact trivial
  refine Exists.intro [0, 1, 2, 3, 9, 10, 11, 12, 13, 14, 15, 16, 17, 18, 19, 20, 21, 22, 6, 7, 8, 4, 5, 23, 24, 25] (Exists.intro [q2 0, q1 _, q1 _, q1 _] (Exists.intro ([.inr (12, [q1 _, q2 4, q2 5, q2 6, q2 7, q2 1, q2 2, q2 8, q2 9, q2 3, q1 _, q1 _, q1 _, q1 _, q1 _, q3 _, q1 _, q1 _, q1 _, q2 10, q2 11, q1 _, q1 _, q1 _, q1 _, q1 _, q1 _, q2 12, q1 _, q2 13, q2 14, q2 15, q2 16, q1 _, q2 17, q1 _, q2 18, q2 19, q2 20, q2 21, q2 22, q1 _, q2 23, q2 24, q2 25]), .inl (0, 16, .inl _), .inl (0, 600, .inl _), .inl (0, 168, .inl _)]) (And.intro rfl (And.intro rfl (And.intro rfl (And.intro ⟨⟨_, rfl⟩, rfl⟩ ?_))))))
  refine Exists.intro _ (Exists.intro _ (Exists.intro _ (Exists.intro _ (Exists.intro _ (Exists.intro _ (Exists.intro _ (Exists.intro _ (Exists.intro _ (Exists.intro _ (Exists.intro _ (Exists.intro _ (Exists.intro _ (Exists.intro _ (Exists.intro _ (Exists.intro _ (Exists.intro _ (Exists.intro _ (Exists.intro _ (Exists.intro _ (Exists.intro _ (Exists.intro _ (Exists.intro _ (Exists.intro _ (Exists.intro _ (Exists.intro _ (And.intro rfl (And.intro rfl (And.intro (by first | omega | assumption | exact q_rg_up (by assumption) (by omega) | exact q_rg_up (q_rg_up (by assumption) (by omega)) (by omega) | exact q_rg_cpy (by assumption) (by assumption)) (And.intro (by first | omega | assumption | exact q_rg_up (by assumption) (by omega) | exact q_rg_up (q_rg_up (by assumption) (by omega)) (by omega) | exact q_rg_cpy (by assumption) (by assumption)) (And.intro (by first | omega | assumption | exact q_rg_up (by assumption) (by omega) | exact q_rg_up (q_rg_up (by assumption) (by omega)) (by omega) | exact q_rg_cpy (by assumption) (by assumption)) (?_)))))))))))))))))))))))))))))))
  intro z9 x_msi_9 x_mbo_9 x_mpe_9 h9
  apply And.intro
  · intro h12
    first | replace h9 := dj1 h9 h12 | replace h9 := dj0 h9 h12
    exact hQ _ _ _ _ _ _ _ _ _ _
  · intro h12
    first | replace h9 := dj1 h9 h12 | replace h9 := dj0 h9 h12
    apply And.intro
    · intro h18
      refine Exists.intro [0, 2, 3, 4, 5, 6, 9, 10, 11, 12, 1, 13, 14, 15, 16, 17, 18, 19, 20, 21, 22, 7, 8, 23, 24, 25] (Exists.intro [q2 0] (Exists.intro ([.inr (12, [q1 _, q2 6, q2 7, q2 8, q2 9, q2 10, q2 1, q2 11, q2 12, q2 2, q1 _, q1 _, q1 _, q1 _, q1 _, q3 _, q1 _, q1 _, q1 _, q2 13, q2 14, q1 _, q1 _, q1 _, q1 _, q1 _, q1 _, q2 15, q1 _, q2 16, q2 17, q2 18, q2 19, q1 _, q2 20, q1 _, q2 5, q2 21, q2 22, q2 3, q2 4, q1 _, q2 23, q2 24, q2 25]), .inl (0, 600, .inl _), .inl (0, 168, .inl _), .inl (3, 100, .inr (.inl _)), .inl (3, 100, .inr (.inl _)), .inl (3, 72, .inr (.inl _))]) (And.intro rfl (And.intro rfl (And.intro rfl (And.intro ⟨⟨_, rfl⟩, rfl⟩ ?_))))))
      refine Exists.intro _ (Exists.intro _ (Exists.intro _ (Exists.intro _ (Exists.intro _ (Exists.intro _ (Exists.intro _ (Exists.intro _ (Exists.intro _ (Exists.intro _ (Exists.intro _ (Exists.intro _ (Exists.intro _ (Exists.intro _ (Exists.intro _ (Exists.intro _ (Exists.intro _ (Exists.intro _ (Exists.intro _ (Exists.intro _ (Exists.intro _ (Exists.intro _ (Exists.intro _ (Exists.intro _ (Exists.intro _ (And.intro rfl (And.intro rfl (And.intro (by first | omega | assumption | exact q_rg_up (by assumption) (by omega) | exact q_rg_up (q_rg_up (by assumption) (by omega)) (by omega) | exact q_rg_cpy (by assumption) (by assumption)) (And.intro (by first | omega | assumption | exact q_rg_up (by assumption) (by omega) | exact q_rg_up (q_rg_up (by assumption) (by omega)) (by omega) | exact q_rg_cpy (by assumption) (by assumption)) (And.intro (by first | omega | assumption | exact q_rg_up (by assumption) (by omega) | exact q_rg_up (q_rg_up (by assumption) (by omega)) (by omega) | exact q_rg_cpy (by assumption) (by assumption)) (And.intro (by first | omega | assumption | exact q_rg_up (by assumption) (by omega) | exact q_rg_up (q_rg_up (by assumption) (by omega)) (by omega) | exact q_rg_cpy (by assumption) (by assumption)) (And.intro (by first | omega | assumption | exact q_rg_up (by assumption) (by omega) | exact q_rg_up (q_rg_up (by assumption) (by omega)) (by omega) | exact q_rg_cpy (by assumption) (by assumption)) (?_))))))))))))))))))))))))))))))))
      intro x_lx_33 x_fu_33 x_ow_33
      refine Exists.intro [0, 6, 7, 8, 9, 10, 11, 12, 1, 2, 13, 14, 3, 15, 16, 17, 18, 19, 20, 21, 22, 4, 5, 23, 24, 25] (Exists.intro [q2 0, q1 _, q1 _, q1 _] (Exists.intro ([.inr (12, [q1 _, q2 4, q2 5, q2 6, q2 7, q2 8, q2 9, q2 10, q2 11, q2 12, q1 _, q1 _, q1 _, q1 _, q1 _, q3 _, q1 _, q1 _, q1 _, q2 13, q2 14, q1 _, q1 _, q1 _, q1 _, q1 _, q1 _, q2 15, q1 _, q2 16, q2 17, q2 18, q2 19, q1 _, q2 20, q1 _, q2 1, q2 2, q2 3, q2 21, q2 22, q1 _, q2 23, q2 24, q2 25]), .inl (3, 72, .inr (.inl _)), .inl (3, 9, .inr (.inl _)), .inl (3, 9, .inr (.inl _))]) (And.intro rfl (And.intro rfl (And.intro rfl (And.intro ⟨⟨_, rfl⟩, rfl⟩ ?_))))))
      refine Exists.intro _ (Exists.intro _ (Exists.intro _ (Exists.intro _ (Exists.intro _ (Exists.intro _ (Exists.intro _ (Exists.intro _ (Exists.intro _ (Exists.intro _ (Exists.intro _ (Exists.intro _ (Exists.intro _ (Exists.intro _ (Exists.intro _ (Exists.intro _ (Exists.intro _ (Exists.intro _ (Exists.intro _ (Exists.intro _ (Exists.intro _ (Exists.intro _ (Exists.intro _ (Exists.intro _ (Exists.intro _ (Exists.intro _ (And.intro rfl (And.intro rfl (And.intro (by first | omega | assumption | exact q_rg_up (by assumption) (by omega) | exact q_rg_up (q_rg_up (by assumption) (by omega)) (by omega) | exact q_rg_cpy (by assumption) (by assumption)) (And.intro (by first | omega | assumption | exact q_rg_up (by assumption) (by omega) | exact q_rg_up (q_rg_up (by assumption) (by omega)) (by omega) | exact q_rg_cpy (by assumption) (by assumption)) (?_))))))))))))))))))))))))))))))
      intro z40 x_rw_40 x_th_40
      intro z48 h48
      replace h48 := e_cmp h48
      apply And.intro
      · intro h49
        apply And.intro
        · intro h57
          exact ⟨_, _, _, _, _, _, _, _, _, _, _, _, rfl, rfl, rfl, rfl, (by first | omega | assumption | exact q_rg_up (by assumption) (by omega) | exact q_rg_up (q_rg_up (by assumption) (by omega)) (by omega) | exact q_rg_cpy (by assumption) (by assumption)), (by first | omega | assumption | exact q_rg_up (by assumption) (by omega) | exact q_rg_up (q_rg_up (by assumption) (by omega)) (by omega) | exact q_rg_cpy (by assumption) (by assumption))⟩
        · intro h57
          refine Exists.intro [0, 6, 7, 8, 9, 10, 11, 12, 1, 2, 13, 14, 3, 15, 16, 17, 18, 19, 20, 21, 22, 4, 5, 23, 24, 25] (Exists.intro [q2 0, q1 _] (Exists.intro ([.inr (12, [q1 _, q2 4, q2 5, q2 6, q2 7, q2 8, q2 9, q2 10, q2 11, q2 12, q1 _, q1 _, q1 _, q1 _, q1 _, q3 _, q1 _, q1 _, q1 _, q2 13, q2 14, q1 _, q1 _, q1 _, q1 _, q1 _, q1 _, q2 15, q1 _, q2 16, q2 17, q2 18, q2 19, q1 _, q2 20, q1 _, q2 1, q2 2, q2 3, q2 21, q2 22, q1 _, q2 23, q2 24, q2 25]), .inl (3, 72, .inr (.inl _)), .inl (3, 9, .inr (.inl _)), .inl (3, 9, .inr (.inl _))]) (And.intro rfl (And.intro rfl (And.intro rfl (And.intro ⟨⟨_, rfl⟩, rfl⟩ ?_))))))
          refine Exists.intro _ (Exists.intro _ (Exists.intro _ (Exists.intro _ (Exists.intro _ (Exists.intro _ (Exists.intro _ (Exists.intro _ (Exists.intro _ (Exists.intro _ (Exists.intro _ (Exists.intro _ (Exists.intro _ (Exists.intro _ (Exists.intro _ (Exists.intro _ (Exists.intro _ (Exists.intro _ (Exists.intro _ (Exists.intro _ (Exists.intro _ (Exists.intro _ (Exists.intro _ (Exists.intro _ (And.intro rfl (And.intro rfl (And.intro (by first | omega | assumption | exact q_rg_up (by assumption) (by omega) | exact q_rg_up (q_rg_up (by assumption) (by omega)) (by omega) | exact q_rg_cpy (by assumption) (by assumption)) (And.intro (by first | omega | assumption | exact q_rg_up (by assumption) (by omega) | exact q_rg_up (q_rg_up (by assumption) (by omega)) (by omega) | exact q_rg_cpy (by assumption) (by assumption)) (?_))))))))))))))))))))))))))))
          intro z62 x_rw_62 x_th_62
          exact hQ _ _ _ _ _ _ _ _ _ _
      · intro h49
        exact hQ _ _ _ _ _ _ _ _ _ _
    · intro h18
      refine Exists.intro [0, 9, 10, 11, 12, 1, 2, 13, 14, 3, 15, 16, 17, 18, 19, 20, 21, 22, 6, 7, 8, 4, 5, 23, 24, 25] (Exists.intro [q2 0, q1 _] (Exists.intro ([.inr (12, [q1 _, q2 1, q2 2, q2 3, q2 4, q2 5, q2 6, q2 7, q2 8, q2 9, q1 _, q1 _, q1 _, q1 _, q1 _, q3 _, q1 _, q1 _, q1 _, q2 10, q2 11, q1 _, q1 _, q1 _, q1 _, q1 _, q1 _, q2 12, q1 _, q2 13, q2 14, q2 15, q2 16, q1 _, q2 17, q1 _, q2 18, q2 19, q2 20, q2 21, q2 22, q1 _, q2 23, q2 24, q2 25])]) (And.intro rfl (And.intro rfl (And.intro rfl (And.intro ⟨⟨_, rfl⟩, rfl⟩ ?_))))))
      refine Exists.intro _ (Exists.intro _ (Exists.intro _ (Exists.intro _ (Exists.intro _ (Exists.intro _ (Exists.intro _ (Exists.intro _ (Exists.intro _ (Exists.intro _ (Exists.intro _ (Exists.intro _ (Exists.intro _ (Exists.intro _ (Exists.intro _ (Exists.intro _ (Exists.intro _ (Exists.intro _ (Exists.intro _ (Exists.intro _ (Exists.intro _ (And.intro rfl (And.intro rfl (And.intro (by first | omega | assumption | exact q_rg_up (by assumption) (by omega) | exact q_rg_up (q_rg_up (by assumption) (by omega)) (by omega) | exact q_rg_cpy (by assumption) (by assumption)) (?_))))))))))))))))))))))))
      intro z24 h24
      apply And.intro
      · intro h27
        first | replace h24 := dj1 h24 h27 | replace h24 := dj0 h24 h27
        refine Exists.intro [0, 2, 3, 4, 5, 6, 9, 10, 11, 12, 1, 13, 14, 15, 16, 17, 18, 19, 20, 21, 22, 7, 8, 23, 24, 25] (Exists.intro [q2 0] (Exists.intro ([.inr (12, [q1 _, q2 6, q2 7, q2 8, q2 9, q2 10, q2 1, q2 11, q2 12, q2 2, q1 _, q1 _, q1 _, q1 _, q1 _, q3 _, q1 _, q1 _, q1 _, q2 13, q2 14, q1 _, q1 _, q1 _, q1 _, q1 _, q1 _, q2 15, q1 _, q2 16, q2 17, q2 18, q2 19, q1 _, q2 20, q1 _, q2 5, q2 21, q2 22, q2 3, q2 4, q1 _, q2 23, q2 24, q2 25]), .inl (0, 600, .inl _), .inl (0, 168, .inl _), .inl (3, 100, .inr (.inl _)), .inl (3, 100, .inr (.inl _)), .inl (3, 72, .inr (.inl _))]) (And.intro rfl (And.intro rfl (And.intro rfl (And.intro ⟨⟨_, rfl⟩, rfl⟩ ?_))))))
        refine Exists.intro _ (Exists.intro _ (Exists.intro _ (Exists.intro _ (Exists.intro _ (Exists.intro _ (Exists.intro _ (Exists.intro _ (Exists.intro _ (Exists.intro _ (Exists.intro _ (Exists.intro _ (Exists.intro _ (Exists.intro _ (Exists.intro _ (Exists.intro _ (Exists.intro _ (Exists.intro _ (Exists.intro _ (Exists.intro _ (Exists.intro _ (Exists.intro _ (Exists.intro _ (Exists.intro _ (Exists.intro _ (And.intro rfl (And.intro rfl (And.intro (by first | omega | assumption | exact q_rg_up (by assumption) (by omega) | exact q_rg_up (q_rg_up (by assumption) (by omega)) (by omega) | exact q_rg_cpy (by assumption) (by assumption)) (And.intro (by first | omega | assumption | exact q_rg_up (by assumption) (by omega) | exact q_rg_up (q_rg_up (by assumption) (by omega)) (by omega) | exact q_rg_cpy (by assumption) (by assumption)) (And.intro (by first | omega | assumption | exact q_rg_up (by assumption) (by omega) | exact q_rg_up (q_rg_up (by assumption) (by omega)) (by omega) | exact q_rg_cpy (by assumption) (by assumption)) (And.intro (by first | omega | assumption | exact q_rg_up (by assumption) (by omega) | exact q_rg_up (q_rg_up (by assumption) (by omega)) (by omega) | exact q_rg_cpy (by assumption) (by assumption)) (And.intro (by first | omega | assumption | exact q_rg_up (by assumption) (by omega) | exact q_rg_up (q_rg_up (by assumption) (by omega)) (by omega) | exact q_rg_cpy (by assumption) (by assumption)) (?_))))))))))))))))))))))))))))))))
        intro x_lx_33 x_fu_33 x_ow_33
        refine Exists.intro [0, 6, 7, 8, 9, 10, 11, 12, 1, 2, 13, 14, 3, 15, 16, 17, 18, 19, 20, 21, 22, 4, 5, 23, 24, 25] (Exists.intro [q2 0, q1 _, q1 _, q1 _] (Exists.intro ([.inr (12, [q1 _, q2 4, q2 5, q2 6, q2 7, q2 8, q2 9, q2 10, q2 11, q2 12, q1 _, q1 _, q1 _, q1 _, q1 _, q3 _, q1 _, q1 _, q1 _, q2 13, q2 14, q1 _, q1 _, q1 _, q1 _, q1 _, q1 _, q2 15, q1 _, q2 16, q2 17, q2 18, q2 19, q1 _, q2 20, q1 _, q2 1, q2 2, q2 3, q2 21, q2 22, q1 _, q2 23, q2 24, q2 25]), .inl (3, 72, .inr (.inl _)), .inl (3, 9, .inr (.inl _)), .inl (3, 9, .inr (.inl _))]) (And.intro rfl (And.intro rfl (And.intro rfl (And.intro ⟨⟨_, rfl⟩, rfl⟩ ?_))))))
        refine Exists.intro _ (Exists.intro _ (Exists.intro _ (Exists.intro _ (Exists.intro _ (Exists.intro _ (Exists.intro _ (Exists.intro _ (Exists.intro _ (Exists.intro _ (Exists.intro _ (Exists.intro _ (Exists.intro _ (Exists.intro _ (Exists.intro _ (Exists.intro _ (Exists.intro _ (Exists.intro _ (Exists.intro _ (Exists.intro _ (Exists.intro _ (Exists.intro _ (Exists.intro _ (Exists.intro _ (Exists.intro _ (Exists.intro _ (And.intro rfl (And.intro rfl (And.intro (by first | omega | assumption | exact q_rg_up (by assumption) (by omega) | exact q_rg_up (q_rg_up (by assumption) (by omega)) (by omega) | exact q_rg_cpy (by assumption) (by assumption)) (And.intro (by first | omega | assumption | exact q_rg_up (by assumption) (by omega) | exact q_rg_up (q_rg_up (by assumption) (by omega)) (by omega) | exact q_rg_cpy (by assumption) (by assumption)) (?_))))))))))))))))))))))))))))))
        intro z40 x_rw_40 x_th_40
        intro z48 h48
        replace h48 := e_cmp h48
        apply And.intro
        · intro h49
          apply And.intro
          · intro h57
            exact ⟨_, _, _, _, _, _, _, _, _, _, _, _, rfl, rfl, rfl, rfl, (by first | omega | assumption | exact q_rg_up (by assumption) (by omega) | exact q_rg_up (q_rg_up (by assumption) (by omega)) (by omega) | exact q_rg_cpy (by assumption) (by assumption)), (by first | omega | assumption | exact q_rg_up (by assumption) (by omega) | exact q_rg_up (q_rg_up (by assumption) (by omega)) (by omega) | exact q_rg_cpy (by assumption) (by assumption))⟩
          · intro h57
            refine Exists.intro [0, 6, 7, 8, 9, 10, 11, 12, 1, 2, 13, 14, 3, 15, 16, 17, 18, 19, 20, 21, 22, 4, 5, 23, 24, 25] (Exists.intro [q2 0, q1 _] (Exists.intro ([.inr (12, [q1 _, q2 4, q2 5, q2 6, q2 7, q2 8, q2 9, q2 10, q2 11, q2 12, q1 _, q1 _, q1 _, q1 _, q1 _, q3 _, q1 _, q1 _, q1 _, q2 13, q2 14, q1 _, q1 _, q1 _, q1 _, q1 _, q1 _, q2 15, q1 _, q2 16, q2 17, q2 18, q2 19, q1 _, q2 20, q1 _, q2 1, q2 2, q2 3, q2 21, q2 22, q1 _, q2 23, q2 24, q2 25]), .inl (3, 72, .inr (.inl _)), .inl (3, 9, .inr (.inl _)), .inl (3, 9, .inr (.inl _))]) (And.intro rfl (And.intro rfl (And.intro rfl (And.intro ⟨⟨_, rfl⟩, rfl⟩ ?_))))))
            refine Exists.intro _ (Exists.intro _ (Exists.intro _ (Exists.intro _ (Exists.intro _ (Exists.intro _ (Exists.intro _ (Exists.intro _ (Exists.intro _ (Exists.intro _ (Exists.intro _ (Exists.intro _ (Exists.intro _ (Exists.intro _ (Exists.intro _ (Exists.intro _ (Exists.intro _ (Exists.intro _ (Exists.intro _ (Exists.intro _ (Exists.intro _ (Exists.intro _ (Exists.intro _ (Exists.intro _ (And.intro rfl (And.intro rfl (And.intro (by first | omega | assumption | exact q_rg_up (by assumption) (by omega) | exact q_rg_up (q_rg_up (by assumption) (by omega)) (by omega) | exact q_rg_cpy (by assumption) (by assumption)) (And.intro (by first | omega | assumption | exact q_rg_up (by assumption) (by omega) | exact q_rg_up (q_rg_up (by assumption) (by omega)) (by omega) | exact q_rg_cpy (by assumption) (by assumption)) (?_))))))))))))))))))))))))))))
            intro z62 x_rw_62 x_th_62
            exact hQ _ _ _ _ _ _ _ _ _ _
        · intro h49
          exact hQ _ _ _ _ _ _ _ _ _ _
      · intro h27
        first | replace h24 := dj1 h24 h27 | replace h24 := dj0 h24 h27
        exact hQ _ _ _ _ _ _ _ _ _ _
