theorem dX12_keep4_0 : decode cX12_keep 0 = .ok (.aload_n 0, 1) := by decide +kernel
theorem dX12_keep4_1 : decode cX12_keep 1 = .ok (.getfield 38, 3) := by decide +kernel
theorem dX12_keep4_4 : decode cX12_keep 4 = .ok (.iconst 0, 1) := by decide +kernel
theorem dX12_keep4_5 : decode cX12_keep 5 = .ok (.iaload, 1) := by decide +kernel
theorem dX12_keep4_6 : decode cX12_keep 6 = .ok (.istore_n 3, 1) := by decide +kernel
theorem dX12_keep4_7 : decode cX12_keep 7 = .ok (.iload_n 3, 1) := by decide +kernel
theorem dX12_keep4_8 : decode cX12_keep 8 = .ok (.iload_n 2, 1) := by decide +kernel
theorem dX12_keep4_9 : decode cX12_keep 9 = .ok (.if_icmp .ne 4, 3) := by decide +kernel
theorem dX12_keep4_12 : decode cX12_keep 12 = .ok (.return_, 1) := by decide +kernel
theorem dX12_keep4_13 : decode cX12_keep 13 = .ok (.iconst 0, 1) := by decide +kernel
theorem dX12_keep4_14 : decode cX12_keep 14 = .ok (.istore 4, 2) := by decide +kernel
theorem dX12_keep4_16 : decode cX12_keep 16 = .ok (.iload 4, 2) := by decide +kernel
theorem dX12_keep4_18 : decode cX12_keep 18 = .ok (.iload_n 1, 1) := by decide +kernel
theorem dX12_keep4_19 : decode cX12_keep 19 = .ok (.if_icmp .ge 29, 3) := by decide +kernel
theorem dX12_keep4_22 : decode cX12_keep 22 = .ok (.aload_n 0, 1) := by decide +kernel
theorem dX12_keep4_23 : decode cX12_keep 23 = .ok (.getfield 38, 3) := by decide +kernel
theorem dX12_keep4_26 : decode cX12_keep 26 = .ok (.iconst 1, 1) := by decide +kernel
theorem dX12_keep4_27 : decode cX12_keep 27 = .ok (.iload_n 1, 1) := by decide +kernel
theorem dX12_keep4_28 : decode cX12_keep 28 = .ok (.iload_n 3, 1) := by decide +kernel
theorem dX12_keep4_29 : decode cX12_keep 29 = .ok (.imul, 1) := by decide +kernel
theorem dX12_keep4_30 : decode cX12_keep 30 = .ok (.iadd, 1) := by decide +kernel
theorem dX12_keep4_31 : decode cX12_keep 31 = .ok (.iload 4, 2) := by decide +kernel
theorem dX12_keep4_33 : decode cX12_keep 33 = .ok (.iadd, 1) := by decide +kernel
theorem dX12_keep4_34 : decode cX12_keep 34 = .ok (.aload_n 0, 1) := by decide +kernel
theorem dX12_keep4_35 : decode cX12_keep 35 = .ok (.getfield 41, 3) := by decide +kernel
theorem dX12_keep4_38 : decode cX12_keep 38 = .ok (.iload 4, 2) := by decide +kernel
theorem dX12_keep4_40 : decode cX12_keep 40 = .ok (.iaload, 1) := by decide +kernel
theorem dX12_keep4_41 : decode cX12_keep 41 = .ok (.iastore, 1) := by decide +kernel
theorem dX12_keep4_42 : decode cX12_keep 42 = .ok (.iinc 4 1, 3) := by decide +kernel
theorem dX12_keep4_45 : decode cX12_keep 45 = .ok (.goto (-29), 3) := by decide +kernel
theorem dX12_keep4_48 : decode cX12_keep 48 = .ok (.aload_n 0, 1) := by decide +kernel
theorem dX12_keep4_49 : decode cX12_keep 49 = .ok (.getfield 38, 3) := by decide +kernel
theorem dX12_keep4_52 : decode cX12_keep 52 = .ok (.iconst 0, 1) := by decide +kernel
theorem dX12_keep4_53 : decode cX12_keep 53 = .ok (.dup2, 1) := by decide +kernel
theorem dX12_keep4_54 : decode cX12_keep 54 = .ok (.iaload, 1) := by decide +kernel
theorem dX12_keep4_55 : decode cX12_keep 55 = .ok (.iconst 1, 1) := by decide +kernel
theorem dX12_keep4_56 : decode cX12_keep 56 = .ok (.iadd, 1) := by decide +kernel
theorem dX12_keep4_57 : decode cX12_keep 57 = .ok (.iastore, 1) := by decide +kernel
theorem dX12_keep4_58 : decode cX12_keep 58 = .ok (.return_, 1) := by decide +kernel
def is_X12_keep4 : Nat → List Nat := fun d => if d = 16 then [0, 1, 3, 4] else []
set_option maxRecDepth 100000 in
def b_X12_keep4_55 (J : Nat → List qV → List qV → qW → Prop) (Q : qR) : qK := x_int 1 (x_iadd (x_iast (x_nw (x_vret Q))))
set_option maxRecDepth 100000 in
theorem s_X12_keep4_55 {p : Program} {l : Launch} {e : Env} {R : Room} {s : State} {m : MethodId} {args : Array Value} {below : List Frame} {meth : Method} {c : Code} {nW : Nat} {dC : Nat → ClassId} {dI : Nat → Nat → Nat} {k : Nat → ClassId} {g : Nat → Nat} {A : Nat → Prop} {J : Nat → List qV → List qV → qW → Prop} {Q : qR} (X : q_X p R s m args meth c cX12_keep 5 nW 0 0 RX12 none dC dI k g A) (hJ : ∀ d : Nat, q_Sd p l e R s m args below meth c 5 nW dC dI k g A (MQ below (q_post (dC, dI) k g nW Q A) args s 0 0 A) d (x_cut (is_X12_keep4 d) (J d))) : q_Sd p l e R s m args below meth c 5 nW dC dI k g A (MQ below (q_post (dC, dI) k g nW Q A) args s 0 0 A) 55 (b_X12_keep4_55 J Q) := by
  unfold b_X12_keep4_55
  refine s_iconst X ⟨by decide, by decide⟩ dX12_keep4_55 ?_
  refine s_iadd X dX12_keep4_56 ?_
  refine s_iast X dX12_keep4_57 ?_
  refine s_nw ?_
  exact s_vret X dX12_keep4_58
set_option maxRecDepth 100000 in
def b_X12_keep4_16 (J : Nat → List qV → List qV → qW → Prop) (Q : qR) : qK := x_iload 4 (x_iload 1 (x_icmp_ge (x_aload 0 (x_get 12 19 (x_int 0 (x_dup2 (x_iald (b_X12_keep4_55 J Q)))))) (x_aload 0 (x_get 12 19 (x_int 1 (x_iload 1 (x_iload 3 (x_imul (x_iadd (x_iload 4 (x_iadd (x_aload 0 (x_get 12 20 (x_iload 4 (x_iald (x_iast (x_nw (x_iinc 4 1 (x_cut [0, 1, 3, 4] (J 16))))))))))))))))))))
set_option maxRecDepth 100000 in
theorem s_X12_keep4_16 {p : Program} {l : Launch} {e : Env} {R : Room} {s : State} {m : MethodId} {args : Array Value} {below : List Frame} {meth : Method} {c : Code} {nW : Nat} {dC : Nat → ClassId} {dI : Nat → Nat → Nat} {k : Nat → ClassId} {g : Nat → Nat} {A : Nat → Prop} {J : Nat → List qV → List qV → qW → Prop} {Q : qR} (X : q_X p R s m args meth c cX12_keep 5 nW 0 0 RX12 none dC dI k g A) (hJ : ∀ d : Nat, q_Sd p l e R s m args below meth c 5 nW dC dI k g A (MQ below (q_post (dC, dI) k g nW Q A) args s 0 0 A) d (x_cut (is_X12_keep4 d) (J d))) : q_Sd p l e R s m args below meth c 5 nW dC dI k g A (MQ below (q_post (dC, dI) k g nW Q A) args s 0 0 A) 16 (b_X12_keep4_16 J Q) := by
  unfold b_X12_keep4_16
  refine s_iload X dX12_keep4_16 ?_
  refine s_iload_n X rfl dX12_keep4_18 ?_
  refine s_icmp_ge X (tgt := 48) dX12_keep4_19 (by decide) ?_ ?_
  · refine s_aload_n X rfl dX12_keep4_48 ?_
    refine s_get X (T := TX12) (C := RX12) (N := 45) tu_X12 rfl (by decide) tw_1016 dX12_keep4_49 ?_
    refine s_iconst X ⟨by decide, by decide⟩ dX12_keep4_52 ?_
    refine s_dup2 X dX12_keep4_53 ?_
    refine s_iald X dX12_keep4_54 ?_
    exact s_X12_keep4_55 X hJ
  · refine s_aload_n X rfl dX12_keep4_22 ?_
    refine s_get X (T := TX12) (C := RX12) (N := 45) tu_X12 rfl (by decide) tw_1016 dX12_keep4_23 ?_
    refine s_iconst X ⟨by decide, by decide⟩ dX12_keep4_26 ?_
    refine s_iload_n X rfl dX12_keep4_27 ?_
    refine s_iload_n X rfl dX12_keep4_28 ?_
    refine s_imul X dX12_keep4_29 ?_
    refine s_iadd X dX12_keep4_30 ?_
    refine s_iload X dX12_keep4_31 ?_
    refine s_iadd X dX12_keep4_33 ?_
    refine s_aload_n X rfl dX12_keep4_34 ?_
    refine s_get X (T := TX12) (C := RX12) (N := 45) tu_X12 rfl (by decide) tw_1017 dX12_keep4_35 ?_
    refine s_iload X dX12_keep4_38 ?_
    refine s_iald X dX12_keep4_40 ?_
    refine s_iast X dX12_keep4_41 ?_
    refine s_nw ?_
    refine s_iinc X (by decide) dX12_keep4_42 ?_
    refine s_goto X (tgt := 16) dX12_keep4_45 (by decide) ?_
    exact hJ 16
set_option maxRecDepth 100000 in
def b_X12_keep4_0 (J : Nat → List qV → List qV → qW → Prop) (Q : qR) : qK := x_aload 0 (x_get 12 19 (x_int 0 (x_iald (x_istore 3 (x_iload 3 (x_iload 2 (x_icmp_ne (x_int 0 (x_istore 4 (x_cut [0, 1, 3, 4] (J 16)))) (x_vret Q))))))))
set_option maxRecDepth 100000 in
theorem s_X12_keep4_0 {p : Program} {l : Launch} {e : Env} {R : Room} {s : State} {m : MethodId} {args : Array Value} {below : List Frame} {meth : Method} {c : Code} {nW : Nat} {dC : Nat → ClassId} {dI : Nat → Nat → Nat} {k : Nat → ClassId} {g : Nat → Nat} {A : Nat → Prop} {J : Nat → List qV → List qV → qW → Prop} {Q : qR} (X : q_X p R s m args meth c cX12_keep 5 nW 0 0 RX12 none dC dI k g A) (hJ : ∀ d : Nat, q_Sd p l e R s m args below meth c 5 nW dC dI k g A (MQ below (q_post (dC, dI) k g nW Q A) args s 0 0 A) d (x_cut (is_X12_keep4 d) (J d))) : q_Sd p l e R s m args below meth c 5 nW dC dI k g A (MQ below (q_post (dC, dI) k g nW Q A) args s 0 0 A) 0 (b_X12_keep4_0 J Q) := by
  unfold b_X12_keep4_0
  refine s_aload_n X rfl dX12_keep4_0 ?_
  refine s_get X (T := TX12) (C := RX12) (N := 45) tu_X12 rfl (by decide) tw_1016 dX12_keep4_1 ?_
  refine s_iconst X ⟨by decide, by decide⟩ dX12_keep4_4 ?_
  refine s_iald X dX12_keep4_5 ?_
  refine s_istore_n X rfl (by decide) dX12_keep4_6 ?_
  refine s_iload_n X rfl dX12_keep4_7 ?_
  refine s_iload_n X rfl dX12_keep4_8 ?_
  refine s_icmp_ne X (tgt := 13) dX12_keep4_9 (by decide) ?_ ?_
  · refine s_iconst X ⟨by decide, by decide⟩ dX12_keep4_13 ?_
    refine s_istore X (by decide) dX12_keep4_14 ?_
    exact hJ 16
  · exact s_vret X dX12_keep4_12

def sp_X12_keep4 : qS := fun av w Q => ∃ (mco : Int) (mre : Int) (mle : Int) (mbe : Int) (mso : Int) (mva : Int) (mwo : Int) (mwr : Int) (mlf : Int) (mlp : Int) (mfp : Int) (mfd : Int) (mgo : Int) (mbo : Int) (mpe : Int) (mye : Int) (mpr : Int) (mld : Int) (msi : Int) (mse : Int) (re : Nat → Int) (td : Nat → Int), av = [q2 0, q1 4, q1 40] ∧ w = [.inr (12, [q1 mco, q2 3, q2 4, q2 5, q2 6, q2 7, q2 8, q2 9, q2 10, q2 11, q1 mre, q1 mle, q1 mbe, q1 mso, q1 mva, q3 mwo, q1 mwr, q1 mlf, q1 mlp, q2 2, q2 1, q1 mfp, q1 mfd, q1 mgo, q1 mbo, q1 mpe, q1 mye, q2 12, q1 mpr, q2 13, q2 14, q2 15, q2 16, q1 mld, q2 17, q1 msi, q2 18, q2 19, q2 20, q2 21, q2 22, q1 mse, q2 23, q2 24, q2 25]), .inl (0, 4, .inl re), .inl (0, 161, .inl td)] ∧ (YT td 0) ∧ ((re 0 = 0 ∨ re 0 = 1) → 0 ≤ re 2 ∧ re 2 ≤ 3) ∧ (∀ (x_td : Nat → Int), YT x_td 0 → Q none ([.inr (12, [q1 mco, q2 3, q2 4, q2 5, q2 6, q2 7, q2 8, q2 9, q2 10, q2 11, q1 mre, q1 mle, q1 mbe, q1 mso, q1 mva, q3 mwo, q1 mwr, q1 mlf, q1 mlp, q2 2, q2 1, q1 mfp, q1 mfd, q1 mgo, q1 mbo, q1 mpe, q1 mye, q2 12, q1 mpr, q2 13, q2 14, q2 15, q2 16, q1 mld, q2 17, q1 msi, q2 18, q2 19, q2 20, q2 21, q2 22, q1 mse, q2 23, q2 24, q2 25]), .inl (0, 4, .inl re), .inl (0, 161, .inl x_td)]))
def I_X12_keep4 (mco : Int) (mre : Int) (mle : Int) (mbe : Int) (mso : Int) (mva : Int) (mwo : Int) (mwr : Int) (mlf : Int) (mlp : Int) (mfp : Int) (mfd : Int) (mgo : Int) (mbo : Int) (mpe : Int) (mye : Int) (mpr : Int) (mld : Int) (msi : Int) (mse : Int) (re : Nat → Int) (td : Nat → Int) : Nat → Nat → List qV → List qV → qW → Prop := fun dz mz vz sz wz => if dz = 16 then (∃ (y_td : Nat → Int) (v3 : Int) (v4 : Int), vz = [q2 0, q1 4, q1 v3, q1 v4] ∧ sz = [] ∧ wz = [.inr (12, [q1 mco, q2 3, q2 4, q2 5, q2 6, q2 7, q2 8, q2 9, q2 10, q2 11, q1 mre, q1 mle, q1 mbe, q1 mso, q1 mva, q3 mwo, q1 mwr, q1 mlf, q1 mlp, q2 2, q2 1, q1 mfp, q1 mfd, q1 mgo, q1 mbo, q1 mpe, q1 mye, q2 12, q1 mpr, q2 13, q2 14, q2 15, q2 16, q1 mld, q2 17, q1 msi, q2 18, q2 19, q2 20, q2 21, q2 22, q1 mse, q2 23, q2 24, q2 25]), .inl (0, 4, .inl re), .inl (0, 161, .inl y_td)] ∧ mz = (4 - v4).toNat ∧ (0 ≤ v4 ∧ v4 ≤ 4 ∧ v3 = td 0 ∧ 0 ≤ v3 ∧ v3 ≤ 39) ∧ (∀ i : Nat, (i : Int) < v4 → y_td (1 + 4 * (td 0).toNat + i) = re i) ∧ (∀ j : Nat, (j < 1 + 4 * (td 0).toNat ∨ 1 + 4 * (td 0).toNat + 4 ≤ j) → y_td j = td j)) else False
set_option maxHeartbeats 4000000 in
set_option maxRecDepth 100000 in
theorem m_X12_keep4 (l : Launch) : q_M l yX12_keep cX12_keep 5 none 0 0 sp_X12_keep4 := by
  refine q_meth (by decide) (fun av w Q h => by obtain ⟨mco, mre, mle, mbe, mso, mva, mwo, mwr, mlf, mlp, mfp, mfd, mgo, mbo, mpe, mye, mpr, mld, msi, mse, re, td, rfl, rfl, hyt, hr, hQ⟩ := h; exact Nat.le_of_ble_eq_true rfl) ?_
  intro p e R s m args below meth c dC dI k g A av w Q hsp oka okw X
  obtain ⟨mco, mre, mle, mbe, mso, mva, mwo, mwr, mlf, mlp, mfp, mfd, mgo, mbo, mpe, mye, mpr, mld, msi, mse, re, td, rfl, rfl, hyt, hr, hQ⟩ := hsp
  refine s_mono (s_X12_keep4_0 X (J := fun dz vz sz wz => ∃ mz, I_X12_keep4 mco mre mle mbe mso mva mwo mwr mlf mlp mfp mfd mgo mbo mpe mye mpr mld msi mse re td dz mz vz sz wz) (q_loopn (I_X12_keep4 mco mre mle mbe mso mva mwo mwr mlf mlp mfp mfd mgo mbo mpe mye mpr mld msi mse re td) (fun dz J => if dz = 16 then b_X12_keep4_16 J Q else q_F) ?hs ?hv)) ?_
  case hs =>
    intro d J hJ
    by_cases h16 : d = 16
    · subst h16; exact s_X12_keep4_16 X hJ
    simp only [h16, if_false]
    exact s_F
  case hv =>
    intro dz mz vz sz wz hI okv oks okw hlen
    by_cases h16 : dz = 16
    · subst h16
      obtain ⟨y_td, v3, v4, rfl, rfl, rfl, hn, hp, hj1, hj2⟩ := hI
      apply And.intro
      · intro h19
        apply And.intro
        · exact ⟨by omega, by omega⟩
        intro z54 h54
        have b54 : z54 = td 0 := by rw [h54]; exact hj2 0 (by omega)
        intro z56 h56
        first | replace h56 := e_add h56 (by omega) | replace h56 := e_rng h56
        apply And.intro
        · exact ⟨by omega, by omega⟩
        exact hQ _ (by first | exact hyt | exact YT_fin hyt (by omega) (fun i hi => hj1 i (by omega)) hj2 hr (by omega))
      · intro h19
        intro z29 h29
        first | replace h29 := e_mul h29 (by omega) | replace h29 := e_rng h29
        intro z30 h30
        first | replace h30 := e_add h30 (by omega) | replace h30 := e_rng h30
        intro z33 h33
        first | replace h33 := e_add h33 (by omega) | replace h33 := e_rng h33
        apply And.intro
        · exact ⟨by omega, by omega⟩
        intro z40 h40
        apply And.intro
        · exact ⟨by omega, by omega⟩
        intro z42 h42
        first | replace h42 := e_add h42 (by omega) | replace h42 := e_rng h42
        exact ⟨_, ⟨_, _, _, rfl, rfl, rfl, rfl, (by first | omega | assumption | exact q_rg_up (by assumption) (by omega) | exact q_rg_up (q_rg_up (by assumption) (by omega)) (by omega) | exact q_rg_cpy (by assumption) (by assumption)), (by first | exact kp_s1 hj1 (by omega) h40 (by omega) (by omega) | (intro i hi; exfalso; omega)), (by first | exact kp_s2 (v := v4) hj2 (by omega) (by omega) | (intro j hj; rfl))⟩, by omega⟩
    simp only [I_X12_keep4, h16, if_false] at hI
  rintro lv st w' ⟨rfl, rfl, rfl⟩
  apply And.intro
  · exact ⟨by omega, by omega⟩
  intro z5 h5
  have b5 : z5 = td 0 := h5
  have c5 := hyt.1
  apply And.intro
  · intro h9
    exact ⟨_, _, _, _, rfl, rfl, rfl, rfl, (by first | omega | assumption | exact q_rg_up (by assumption) (by omega) | exact q_rg_up (q_rg_up (by assumption) (by omega)) (by omega) | exact q_rg_cpy (by assumption) (by assumption)), (by first | exact kp_s1 hj1 (by omega) h40 (by omega) (by omega) | (intro i hi; exfalso; omega)), (by first | exact kp_s2 (v := v4) hj2 (by omega) (by omega) | (intro j hj; rfl))⟩
  · intro h9
    exact hQ _ (by first | exact hyt | exact YT_fin hyt (by omega) (fun i hi => hj1 i (by omega)) hj2 hr (by omega))

theorem dX12_keep2_0 : decode cX12_keep 0 = .ok (.aload_n 0, 1) := by decide +kernel
theorem dX12_keep2_1 : decode cX12_keep 1 = .ok (.getfield 38, 3) := by decide +kernel
theorem dX12_keep2_4 : decode cX12_keep 4 = .ok (.iconst 0, 1) := by decide +kernel
theorem dX12_keep2_5 : decode cX12_keep 5 = .ok (.iaload, 1) := by decide +kernel
theorem dX12_keep2_6 : decode cX12_keep 6 = .ok (.istore_n 3, 1) := by decide +kernel
theorem dX12_keep2_7 : decode cX12_keep 7 = .ok (.iload_n 3, 1) := by decide +kernel
theorem dX12_keep2_8 : decode cX12_keep 8 = .ok (.iload_n 2, 1) := by decide +kernel
theorem dX12_keep2_9 : decode cX12_keep 9 = .ok (.if_icmp .ne 4, 3) := by decide +kernel
theorem dX12_keep2_12 : decode cX12_keep 12 = .ok (.return_, 1) := by decide +kernel
theorem dX12_keep2_13 : decode cX12_keep 13 = .ok (.iconst 0, 1) := by decide +kernel
theorem dX12_keep2_14 : decode cX12_keep 14 = .ok (.istore 4, 2) := by decide +kernel
theorem dX12_keep2_16 : decode cX12_keep 16 = .ok (.iload 4, 2) := by decide +kernel
theorem dX12_keep2_18 : decode cX12_keep 18 = .ok (.iload_n 1, 1) := by decide +kernel
theorem dX12_keep2_19 : decode cX12_keep 19 = .ok (.if_icmp .ge 29, 3) := by decide +kernel
theorem dX12_keep2_22 : decode cX12_keep 22 = .ok (.aload_n 0, 1) := by decide +kernel
theorem dX12_keep2_23 : decode cX12_keep 23 = .ok (.getfield 38, 3) := by decide +kernel
theorem dX12_keep2_26 : decode cX12_keep 26 = .ok (.iconst 1, 1) := by decide +kernel
theorem dX12_keep2_27 : decode cX12_keep 27 = .ok (.iload_n 1, 1) := by decide +kernel
theorem dX12_keep2_28 : decode cX12_keep 28 = .ok (.iload_n 3, 1) := by decide +kernel
theorem dX12_keep2_29 : decode cX12_keep 29 = .ok (.imul, 1) := by decide +kernel
theorem dX12_keep2_30 : decode cX12_keep 30 = .ok (.iadd, 1) := by decide +kernel
theorem dX12_keep2_31 : decode cX12_keep 31 = .ok (.iload 4, 2) := by decide +kernel
theorem dX12_keep2_33 : decode cX12_keep 33 = .ok (.iadd, 1) := by decide +kernel
theorem dX12_keep2_34 : decode cX12_keep 34 = .ok (.aload_n 0, 1) := by decide +kernel
theorem dX12_keep2_35 : decode cX12_keep 35 = .ok (.getfield 41, 3) := by decide +kernel
theorem dX12_keep2_38 : decode cX12_keep 38 = .ok (.iload 4, 2) := by decide +kernel
theorem dX12_keep2_40 : decode cX12_keep 40 = .ok (.iaload, 1) := by decide +kernel
theorem dX12_keep2_41 : decode cX12_keep 41 = .ok (.iastore, 1) := by decide +kernel
theorem dX12_keep2_42 : decode cX12_keep 42 = .ok (.iinc 4 1, 3) := by decide +kernel
theorem dX12_keep2_45 : decode cX12_keep 45 = .ok (.goto (-29), 3) := by decide +kernel
theorem dX12_keep2_48 : decode cX12_keep 48 = .ok (.aload_n 0, 1) := by decide +kernel
theorem dX12_keep2_49 : decode cX12_keep 49 = .ok (.getfield 38, 3) := by decide +kernel
theorem dX12_keep2_52 : decode cX12_keep 52 = .ok (.iconst 0, 1) := by decide +kernel
theorem dX12_keep2_53 : decode cX12_keep 53 = .ok (.dup2, 1) := by decide +kernel
theorem dX12_keep2_54 : decode cX12_keep 54 = .ok (.iaload, 1) := by decide +kernel
theorem dX12_keep2_55 : decode cX12_keep 55 = .ok (.iconst 1, 1) := by decide +kernel
theorem dX12_keep2_56 : decode cX12_keep 56 = .ok (.iadd, 1) := by decide +kernel
theorem dX12_keep2_57 : decode cX12_keep 57 = .ok (.iastore, 1) := by decide +kernel
theorem dX12_keep2_58 : decode cX12_keep 58 = .ok (.return_, 1) := by decide +kernel
def is_X12_keep2 : Nat → List Nat := fun d => if d = 16 then [0, 1, 3, 4] else []
set_option maxRecDepth 100000 in
def b_X12_keep2_55 (J : Nat → List qV → List qV → qW → Prop) (Q : qR) : qK := x_int 1 (x_iadd (x_iast (x_nw (x_vret Q))))
set_option maxRecDepth 100000 in
theorem s_X12_keep2_55 {p : Program} {l : Launch} {e : Env} {R : Room} {s : State} {m : MethodId} {args : Array Value} {below : List Frame} {meth : Method} {c : Code} {nW : Nat} {dC : Nat → ClassId} {dI : Nat → Nat → Nat} {k : Nat → ClassId} {g : Nat → Nat} {A : Nat → Prop} {J : Nat → List qV → List qV → qW → Prop} {Q : qR} (X : q_X p R s m args meth c cX12_keep 5 nW 0 0 RX12 none dC dI k g A) (hJ : ∀ d : Nat, q_Sd p l e R s m args below meth c 5 nW dC dI k g A (MQ below (q_post (dC, dI) k g nW Q A) args s 0 0 A) d (x_cut (is_X12_keep2 d) (J d))) : q_Sd p l e R s m args below meth c 5 nW dC dI k g A (MQ below (q_post (dC, dI) k g nW Q A) args s 0 0 A) 55 (b_X12_keep2_55 J Q) := by
  unfold b_X12_keep2_55
  refine s_iconst X ⟨by decide, by decide⟩ dX12_keep2_55 ?_
  refine s_iadd X dX12_keep2_56 ?_
  refine s_iast X dX12_keep2_57 ?_
  refine s_nw ?_
  exact s_vret X dX12_keep2_58
set_option maxRecDepth 100000 in
def b_X12_keep2_16 (J : Nat → List qV → List qV → qW → Prop) (Q : qR) : qK := x_iload 4 (x_iload 1 (x_icmp_ge (x_aload 0 (x_get 12 19 (x_int 0 (x_dup2 (x_iald (b_X12_keep2_55 J Q)))))) (x_aload 0 (x_get 12 19 (x_int 1 (x_iload 1 (x_iload 3 (x_imul (x_iadd (x_iload 4 (x_iadd (x_aload 0 (x_get 12 20 (x_iload 4 (x_iald (x_iast (x_nw (x_iinc 4 1 (x_cut [0, 1, 3, 4] (J 16))))))))))))))))))))
set_option maxRecDepth 100000 in
theorem s_X12_keep2_16 {p : Program} {l : Launch} {e : Env} {R : Room} {s : State} {m : MethodId} {args : Array Value} {below : List Frame} {meth : Method} {c : Code} {nW : Nat} {dC : Nat → ClassId} {dI : Nat → Nat → Nat} {k : Nat → ClassId} {g : Nat → Nat} {A : Nat → Prop} {J : Nat → List qV → List qV → qW → Prop} {Q : qR} (X : q_X p R s m args meth c cX12_keep 5 nW 0 0 RX12 none dC dI k g A) (hJ : ∀ d : Nat, q_Sd p l e R s m args below meth c 5 nW dC dI k g A (MQ below (q_post (dC, dI) k g nW Q A) args s 0 0 A) d (x_cut (is_X12_keep2 d) (J d))) : q_Sd p l e R s m args below meth c 5 nW dC dI k g A (MQ below (q_post (dC, dI) k g nW Q A) args s 0 0 A) 16 (b_X12_keep2_16 J Q) := by
  unfold b_X12_keep2_16
  refine s_iload X dX12_keep2_16 ?_
  refine s_iload_n X rfl dX12_keep2_18 ?_
  refine s_icmp_ge X (tgt := 48) dX12_keep2_19 (by decide) ?_ ?_
  · refine s_aload_n X rfl dX12_keep2_48 ?_
    refine s_get X (T := TX12) (C := RX12) (N := 45) tu_X12 rfl (by decide) tw_1016 dX12_keep2_49 ?_
    refine s_iconst X ⟨by decide, by decide⟩ dX12_keep2_52 ?_
    refine s_dup2 X dX12_keep2_53 ?_
    refine s_iald X dX12_keep2_54 ?_
    exact s_X12_keep2_55 X hJ
  · refine s_aload_n X rfl dX12_keep2_22 ?_
    refine s_get X (T := TX12) (C := RX12) (N := 45) tu_X12 rfl (by decide) tw_1016 dX12_keep2_23 ?_
    refine s_iconst X ⟨by decide, by decide⟩ dX12_keep2_26 ?_
    refine s_iload_n X rfl dX12_keep2_27 ?_
    refine s_iload_n X rfl dX12_keep2_28 ?_
    refine s_imul X dX12_keep2_29 ?_
    refine s_iadd X dX12_keep2_30 ?_
    refine s_iload X dX12_keep2_31 ?_
    refine s_iadd X dX12_keep2_33 ?_
    refine s_aload_n X rfl dX12_keep2_34 ?_
    refine s_get X (T := TX12) (C := RX12) (N := 45) tu_X12 rfl (by decide) tw_1017 dX12_keep2_35 ?_
    refine s_iload X dX12_keep2_38 ?_
    refine s_iald X dX12_keep2_40 ?_
    refine s_iast X dX12_keep2_41 ?_
    refine s_nw ?_
    refine s_iinc X (by decide) dX12_keep2_42 ?_
    refine s_goto X (tgt := 16) dX12_keep2_45 (by decide) ?_
    exact hJ 16
set_option maxRecDepth 100000 in
def b_X12_keep2_0 (J : Nat → List qV → List qV → qW → Prop) (Q : qR) : qK := x_aload 0 (x_get 12 19 (x_int 0 (x_iald (x_istore 3 (x_iload 3 (x_iload 2 (x_icmp_ne (x_int 0 (x_istore 4 (x_cut [0, 1, 3, 4] (J 16)))) (x_vret Q))))))))
set_option maxRecDepth 100000 in
theorem s_X12_keep2_0 {p : Program} {l : Launch} {e : Env} {R : Room} {s : State} {m : MethodId} {args : Array Value} {below : List Frame} {meth : Method} {c : Code} {nW : Nat} {dC : Nat → ClassId} {dI : Nat → Nat → Nat} {k : Nat → ClassId} {g : Nat → Nat} {A : Nat → Prop} {J : Nat → List qV → List qV → qW → Prop} {Q : qR} (X : q_X p R s m args meth c cX12_keep 5 nW 0 0 RX12 none dC dI k g A) (hJ : ∀ d : Nat, q_Sd p l e R s m args below meth c 5 nW dC dI k g A (MQ below (q_post (dC, dI) k g nW Q A) args s 0 0 A) d (x_cut (is_X12_keep2 d) (J d))) : q_Sd p l e R s m args below meth c 5 nW dC dI k g A (MQ below (q_post (dC, dI) k g nW Q A) args s 0 0 A) 0 (b_X12_keep2_0 J Q) := by
  unfold b_X12_keep2_0
  refine s_aload_n X rfl dX12_keep2_0 ?_
  refine s_get X (T := TX12) (C := RX12) (N := 45) tu_X12 rfl (by decide) tw_1016 dX12_keep2_1 ?_
  refine s_iconst X ⟨by decide, by decide⟩ dX12_keep2_4 ?_
  refine s_iald X dX12_keep2_5 ?_
  refine s_istore_n X rfl (by decide) dX12_keep2_6 ?_
  refine s_iload_n X rfl dX12_keep2_7 ?_
  refine s_iload_n X rfl dX12_keep2_8 ?_
  refine s_icmp_ne X (tgt := 13) dX12_keep2_9 (by decide) ?_ ?_
  · refine s_iconst X ⟨by decide, by decide⟩ dX12_keep2_13 ?_
    refine s_istore X (by decide) dX12_keep2_14 ?_
    exact hJ 16
  · exact s_vret X dX12_keep2_12

def sp_X12_keep2 : qS := fun av w Q => ∃ (mco : Int) (mre : Int) (mle : Int) (mbe : Int) (mso : Int) (mva : Int) (mwo : Int) (mwr : Int) (mlf : Int) (mlp : Int) (mfp : Int) (mfd : Int) (mgo : Int) (mbo : Int) (mpe : Int) (mye : Int) (mpr : Int) (mld : Int) (msi : Int) (mse : Int) (re : Nat → Int) (td : Nat → Int), av = [q2 0, q1 2, q1 10] ∧ w = [.inr (12, [q1 mco, q2 3, q2 4, q2 5, q2 6, q2 7, q2 8, q2 9, q2 10, q2 11, q1 mre, q1 mle, q1 mbe, q1 mso, q1 mva, q3 mwo, q1 mwr, q1 mlf, q1 mlp, q2 2, q2 1, q1 mfp, q1 mfd, q1 mgo, q1 mbo, q1 mpe, q1 mye, q2 12, q1 mpr, q2 13, q2 14, q2 15, q2 16, q1 mld, q2 17, q1 msi, q2 18, q2 19, q2 20, q2 21, q2 22, q1 mse, q2 23, q2 24, q2 25]), .inl (0, 4, .inl re), .inl (0, 161, .inl td)] ∧ (0 ≤ td 0 ∧ td 0 ≤ 10) ∧ (∀ (x_td : Nat → Int), (0 ≤ x_td 0 ∧ x_td 0 ≤ 10) → Q none ([.inr (12, [q1 mco, q2 3, q2 4, q2 5, q2 6, q2 7, q2 8, q2 9, q2 10, q2 11, q1 mre, q1 mle, q1 mbe, q1 mso, q1 mva, q3 mwo, q1 mwr, q1 mlf, q1 mlp, q2 2, q2 1, q1 mfp, q1 mfd, q1 mgo, q1 mbo, q1 mpe, q1 mye, q2 12, q1 mpr, q2 13, q2 14, q2 15, q2 16, q1 mld, q2 17, q1 msi, q2 18, q2 19, q2 20, q2 21, q2 22, q1 mse, q2 23, q2 24, q2 25]), .inl (0, 4, .inl re), .inl (0, 161, .inl x_td)]))
def I_X12_keep2 (mco : Int) (mre : Int) (mle : Int) (mbe : Int) (mso : Int) (mva : Int) (mwo : Int) (mwr : Int) (mlf : Int) (mlp : Int) (mfp : Int) (mfd : Int) (mgo : Int) (mbo : Int) (mpe : Int) (mye : Int) (mpr : Int) (mld : Int) (msi : Int) (mse : Int) (re : Nat → Int) (td : Nat → Int) : Nat → Nat → List qV → List qV → qW → Prop := fun dz mz vz sz wz => if dz = 16 then (∃ (y_td : Nat → Int) (v3 : Int) (v4 : Int), vz = [q2 0, q1 2, q1 v3, q1 v4] ∧ sz = [] ∧ wz = [.inr (12, [q1 mco, q2 3, q2 4, q2 5, q2 6, q2 7, q2 8, q2 9, q2 10, q2 11, q1 mre, q1 mle, q1 mbe, q1 mso, q1 mva, q3 mwo, q1 mwr, q1 mlf, q1 mlp, q2 2, q2 1, q1 mfp, q1 mfd, q1 mgo, q1 mbo, q1 mpe, q1 mye, q2 12, q1 mpr, q2 13, q2 14, q2 15, q2 16, q1 mld, q2 17, q1 msi, q2 18, q2 19, q2 20, q2 21, q2 22, q1 mse, q2 23, q2 24, q2 25]), .inl (0, 4, .inl re), .inl (0, 161, .inl y_td)] ∧ mz = (2 - v4).toNat ∧ (0 ≤ v4 ∧ v4 ≤ 2 ∧ v3 = td 0 ∧ 0 ≤ v3 ∧ v3 ≤ 9) ∧ (y_td 0 = td 0)) else False
set_option maxHeartbeats 4000000 in
set_option maxRecDepth 100000 in
theorem m_X12_keep2 (l : Launch) : q_M l yX12_keep cX12_keep 5 none 0 0 sp_X12_keep2 := by
  refine q_meth (by decide) (fun av w Q h => by obtain ⟨mco, mre, mle, mbe, mso, mva, mwo, mwr, mlf, mlp, mfp, mfd, mgo, mbo, mpe, mye, mpr, mld, msi, mse, re, td, rfl, rfl, hst, hQ⟩ := h; exact Nat.le_of_ble_eq_true rfl) ?_
  intro p e R s m args below meth c dC dI k g A av w Q hsp oka okw X
  obtain ⟨mco, mre, mle, mbe, mso, mva, mwo, mwr, mlf, mlp, mfp, mfd, mgo, mbo, mpe, mye, mpr, mld, msi, mse, re, td, rfl, rfl, hst, hQ⟩ := hsp
  refine s_mono (s_X12_keep2_0 X (J := fun dz vz sz wz => ∃ mz, I_X12_keep2 mco mre mle mbe mso mva mwo mwr mlf mlp mfp mfd mgo mbo mpe mye mpr mld msi mse re td dz mz vz sz wz) (q_loopn (I_X12_keep2 mco mre mle mbe mso mva mwo mwr mlf mlp mfp mfd mgo mbo mpe mye mpr mld msi mse re td) (fun dz J => if dz = 16 then b_X12_keep2_16 J Q else q_F) ?hs ?hv)) ?_
  case hs =>
    intro d J hJ
    by_cases h16 : d = 16
    · subst h16; exact s_X12_keep2_16 X hJ
    simp only [h16, if_false]
    exact s_F
  case hv =>
    intro dz mz vz sz wz hI okv oks okw hlen
    by_cases h16 : dz = 16
    · subst h16
      obtain ⟨y_td, v3, v4, rfl, rfl, rfl, hn, hp, hj2⟩ := hI
      apply And.intro
      · intro h19
        apply And.intro
        · exact ⟨by omega, by omega⟩
        intro z54 h54
        have b54 : z54 = td 0 := by rw [h54]; exact hj2
        intro z56 h56
        first | replace h56 := e_add h56 (by omega) | replace h56 := e_rng h56
        apply And.intro
        · exact ⟨by omega, by omega⟩
        exact hQ _ (by first | exact hst | (rw [show ∀ (f : Nat → Int) (v : Int), q_up f (0 : Int).toNat v 0 = v from fun f v => q_up_s]; omega))
      · intro h19
        intro z29 h29
        first | replace h29 := e_mul h29 (by omega) | replace h29 := e_rng h29
        intro z30 h30
        first | replace h30 := e_add h30 (by omega) | replace h30 := e_rng h30
        intro z33 h33
        first | replace h33 := e_add h33 (by omega) | replace h33 := e_rng h33
        apply And.intro
        · exact ⟨by omega, by omega⟩
        intro z40 h40
        apply And.intro
        · exact ⟨by omega, by omega⟩
        intro z42 h42
        first | replace h42 := e_add h42 (by omega) | replace h42 := e_rng h42
        exact ⟨_, ⟨_, _, _, rfl, rfl, rfl, rfl, (by first | omega | assumption | exact q_rg_up (by assumption) (by omega) | exact q_rg_up (q_rg_up (by assumption) (by omega)) (by omega) | exact q_rg_cpy (by assumption) (by assumption)), (by first | rfl | (rw [q_up_n (by omega)]; exact hj2))⟩, by omega⟩
    simp only [I_X12_keep2, h16, if_false] at hI
  rintro lv st w' ⟨rfl, rfl, rfl⟩
  apply And.intro
  · exact ⟨by omega, by omega⟩
  intro z5 h5
  have b5 : z5 = td 0 := h5
  apply And.intro
  · intro h9
    exact ⟨_, _, _, _, rfl, rfl, rfl, rfl, (by first | omega | assumption | exact q_rg_up (by assumption) (by omega) | exact q_rg_up (q_rg_up (by assumption) (by omega)) (by omega) | exact q_rg_cpy (by assumption) (by assumption)), (by first | rfl | (rw [q_up_n (by omega)]; exact hj2))⟩
  · intro h9
    exact hQ _ (by first | exact hst | (rw [show ∀ (f : Nat → Int) (v : Int), q_up f (0 : Int).toNat v 0 = v from fun f v => q_up_s]; omega))

theorem dX12_yearLine_0 : decode cX12_yearLine 0 = .ok (.lload_n 1, 1) := by decide +kernel
theorem dX12_yearLine_1 : decode cX12_yearLine 1 = .ok (.invokestatic 240, 3) := by decide +kernel
theorem dX12_yearLine_4 : decode cX12_yearLine 4 = .ok (.istore 4, 2) := by decide +kernel
theorem dX12_yearLine_6 : decode cX12_yearLine 6 = .ok (.iload 4, 2) := by decide +kernel
theorem dX12_yearLine_8 : decode cX12_yearLine 8 = .ok (.iconst (-1), 1) := by decide +kernel
theorem dX12_yearLine_9 : decode cX12_yearLine 9 = .ok (.if_icmp .ne 8, 3) := by decide +kernel
theorem dX12_yearLine_12 : decode cX12_yearLine 12 = .ok (.aload_n 0, 1) := by decide +kernel
theorem dX12_yearLine_13 : decode cX12_yearLine 13 = .ok (.invokevirtual 140, 3) := by decide +kernel
theorem dX12_yearLine_16 : decode cX12_yearLine 16 = .ok (.ireturn, 1) := by decide +kernel
theorem dX12_yearLine_17 : decode cX12_yearLine 17 = .ok (.aload_n 0, 1) := by decide +kernel
theorem dX12_yearLine_18 : decode cX12_yearLine 18 = .ok (.iconst 0, 1) := by decide +kernel
theorem dX12_yearLine_19 : decode cX12_yearLine 19 = .ok (.bipush 40, 2) := by decide +kernel
theorem dX12_yearLine_21 : decode cX12_yearLine 21 = .ok (.iload_n 3, 1) := by decide +kernel
theorem dX12_yearLine_22 : decode cX12_yearLine 22 = .ok (.invokevirtual 193, 3) := by decide +kernel
theorem dX12_yearLine_25 : decode cX12_yearLine 25 = .ok (.aload_n 0, 1) := by decide +kernel
theorem dX12_yearLine_26 : decode cX12_yearLine 26 = .ok (.invokevirtual 152, 3) := by decide +kernel
theorem dX12_yearLine_29 : decode cX12_yearLine 29 = .ok (.aload_n 0, 1) := by decide +kernel
theorem dX12_yearLine_30 : decode cX12_yearLine 30 = .ok (.getfield 41, 3) := by decide +kernel
theorem dX12_yearLine_33 : decode cX12_yearLine 33 = .ok (.iconst 3, 1) := by decide +kernel
theorem dX12_yearLine_34 : decode cX12_yearLine 34 = .ok (.iconst (-1), 1) := by decide +kernel
theorem dX12_yearLine_35 : decode cX12_yearLine 35 = .ok (.iastore, 1) := by decide +kernel
theorem dX12_yearLine_36 : decode cX12_yearLine 36 = .ok (.aload_n 0, 1) := by decide +kernel
theorem dX12_yearLine_37 : decode cX12_yearLine 37 = .ok (.iconst 1, 1) := by decide +kernel
theorem dX12_yearLine_38 : decode cX12_yearLine 38 = .ok (.iconst 0, 1) := by decide +kernel
theorem dX12_yearLine_39 : decode cX12_yearLine 39 = .ok (.bipush 7, 2) := by decide +kernel
theorem dX12_yearLine_41 : decode cX12_yearLine 41 = .ok (.invokevirtual 174, 3) := by decide +kernel
theorem dX12_yearLine_44 : decode cX12_yearLine 44 = .ok (.ifCond .ne 5, 3) := by decide +kernel
theorem dX12_yearLine_47 : decode cX12_yearLine 47 = .ok (.iconst 0, 1) := by decide +kernel
theorem dX12_yearLine_48 : decode cX12_yearLine 48 = .ok (.ireturn, 1) := by decide +kernel
theorem dX12_yearLine_49 : decode cX12_yearLine 49 = .ok (.iload 4, 2) := by decide +kernel
theorem dX12_yearLine_51 : decode cX12_yearLine 51 = .ok (.iconst 2, 1) := by decide +kernel
theorem dX12_yearLine_52 : decode cX12_yearLine 52 = .ok (.if_icmp .ge 11, 3) := by decide +kernel
theorem dX12_yearLine_55 : decode cX12_yearLine 55 = .ok (.aload_n 0, 1) := by decide +kernel
theorem dX12_yearLine_56 : decode cX12_yearLine 56 = .ok (.iconst 2, 1) := by decide +kernel
theorem dX12_yearLine_57 : decode cX12_yearLine 57 = .ok (.invokevirtual 183, 3) := by decide +kernel
theorem dX12_yearLine_60 : decode cX12_yearLine 60 = .ok (.goto 53, 3) := by decide +kernel
theorem dX12_yearLine_63 : decode cX12_yearLine 63 = .ok (.iload 4, 2) := by decide +kernel
theorem dX12_yearLine_65 : decode cX12_yearLine 65 = .ok (.iconst 4, 1) := by decide +kernel
theorem dX12_yearLine_66 : decode cX12_yearLine 66 = .ok (.if_icmp .ge 14, 3) := by decide +kernel
theorem dX12_yearLine_69 : decode cX12_yearLine 69 = .ok (.aload_n 0, 1) := by decide +kernel
theorem dX12_yearLine_70 : decode cX12_yearLine 70 = .ok (.iconst 2, 1) := by decide +kernel
theorem dX12_yearLine_71 : decode cX12_yearLine 71 = .ok (.iconst 1, 1) := by decide +kernel
theorem dX12_yearLine_72 : decode cX12_yearLine 72 = .ok (.bipush 99, 2) := by decide +kernel
theorem dX12_yearLine_74 : decode cX12_yearLine 74 = .ok (.invokevirtual 174, 3) := by decide +kernel
theorem dX12_yearLine_77 : decode cX12_yearLine 77 = .ok (.goto 36, 3) := by decide +kernel
theorem dX12_yearLine_80 : decode cX12_yearLine 80 = .ok (.aload_n 0, 1) := by decide +kernel
theorem dX12_yearLine_81 : decode cX12_yearLine 81 = .ok (.iconst 2, 1) := by decide +kernel
theorem dX12_yearLine_82 : decode cX12_yearLine 82 = .ok (.iconst 0, 1) := by decide +kernel
theorem dX12_yearLine_83 : decode cX12_yearLine 83 = .ok (.bipush 7, 2) := by decide +kernel
theorem dX12_yearLine_85 : decode cX12_yearLine 85 = .ok (.aload_n 0, 1) := by decide +kernel
theorem dX12_yearLine_86 : decode cX12_yearLine 86 = .ok (.getfield 41, 3) := by decide +kernel
theorem dX12_yearLine_89 : decode cX12_yearLine 89 = .ok (.iconst 1, 1) := by decide +kernel
theorem dX12_yearLine_90 : decode cX12_yearLine 90 = .ok (.iaload, 1) := by decide +kernel
theorem dX12_yearLine_91 : decode cX12_yearLine 91 = .ok (.invokevirtual 155, 3) := by decide +kernel
theorem dX12_yearLine_94 : decode cX12_yearLine 94 = .ok (.ifCond .eq 18, 3) := by decide +kernel
theorem dX12_yearLine_97 : decode cX12_yearLine 97 = .ok (.aload_n 0, 1) := by decide +kernel
theorem dX12_yearLine_98 : decode cX12_yearLine 98 = .ok (.iconst 3, 1) := by decide +kernel
theorem dX12_yearLine_99 : decode cX12_yearLine 99 = .ok (.iconst 1, 1) := by decide +kernel
theorem dX12_yearLine_100 : decode cX12_yearLine 100 = .ok (.bipush 99, 2) := by decide +kernel
theorem dX12_yearLine_102 : decode cX12_yearLine 102 = .ok (.invokevirtual 174, 3) := by decide +kernel
theorem dX12_yearLine_105 : decode cX12_yearLine 105 = .ok (.ifCond .eq 7, 3) := by decide +kernel
theorem dX12_yearLine_108 : decode cX12_yearLine 108 = .ok (.iconst 1, 1) := by decide +kernel
theorem dX12_yearLine_109 : decode cX12_yearLine 109 = .ok (.goto 4, 3) := by decide +kernel
theorem dX12_yearLine_112 : decode cX12_yearLine 112 = .ok (.iconst 0, 1) := by decide +kernel
theorem dX12_yearLine_113 : decode cX12_yearLine 113 = .ok (.istore 5, 2) := by decide +kernel
theorem dX12_yearLine_115 : decode cX12_yearLine 115 = .ok (.iload 5, 2) := by decide +kernel
theorem dX12_yearLine_117 : decode cX12_yearLine 117 = .ok (.ifCond .eq 18, 3) := by decide +kernel
theorem dX12_yearLine_120 : decode cX12_yearLine 120 = .ok (.aload_n 0, 1) := by decide +kernel
theorem dX12_yearLine_121 : decode cX12_yearLine 121 = .ok (.getfield 41, 3) := by decide +kernel
theorem dX12_yearLine_124 : decode cX12_yearLine 124 = .ok (.iconst 0, 1) := by decide +kernel
theorem dX12_yearLine_125 : decode cX12_yearLine 125 = .ok (.iload 4, 2) := by decide +kernel
theorem dX12_yearLine_127 : decode cX12_yearLine 127 = .ok (.iastore, 1) := by decide +kernel
theorem dX12_yearLine_128 : decode cX12_yearLine 128 = .ok (.aload_n 0, 1) := by decide +kernel
theorem dX12_yearLine_129 : decode cX12_yearLine 129 = .ok (.iconst 4, 1) := by decide +kernel
theorem dX12_yearLine_130 : decode cX12_yearLine 130 = .ok (.bipush 40, 2) := by decide +kernel
theorem dX12_yearLine_132 : decode cX12_yearLine 132 = .ok (.invokevirtual 244, 3) := by decide +kernel
theorem dX12_yearLine_135 : decode cX12_yearLine 135 = .ok (.iload 5, 2) := by decide +kernel
theorem dX12_yearLine_137 : decode cX12_yearLine 137 = .ok (.ireturn, 1) := by decide +kernel
def is_X12_yearLine : Nat → List Nat := fun d => if d = 113 then [0, 4] else []
set_option maxRecDepth 100000 in
def b_X12_yearLine_135 (J : Nat → List qV → List qV → qW → Prop) (Q : qR) : qK := x_iload 5 (x_zret Q)
set_option maxRecDepth 100000 in
theorem s_X12_yearLine_135 {p : Program} {l : Launch} {e : Env} {R : Room} {s : State} {m : MethodId} {args : Array Value} {below : List Frame} {meth : Method} {c : Code} {nW : Nat} {dC : Nat → ClassId} {dI : Nat → Nat → Nat} {k : Nat → ClassId} {g : Nat → Nat} {A : Nat → Prop} {J : Nat → List qV → List qV → qW → Prop} {Q : qR} (X : q_X p R s m args meth c cX12_yearLine 6 nW 4 91 RX12 (some .boolean) dC dI k g A) (hJ : ∀ d : Nat, q_Sd p l e R s m args below meth c 6 nW dC dI k g A (MQ below (q_post (dC, dI) k g nW Q A) args s 0 0 A) d (x_cut (is_X12_yearLine d) (J d))) : q_Sd p l e R s m args below meth c 6 nW dC dI k g A (MQ below (q_post (dC, dI) k g nW Q A) args s 0 0 A) 135 (b_X12_yearLine_135 J Q) := by
  unfold b_X12_yearLine_135
  refine s_iload X dX12_yearLine_135 ?_
  exact s_zret X dX12_yearLine_137
set_option maxRecDepth 100000 in
def b_X12_yearLine_113 (J : Nat → List qV → List qV → qW → Prop) (Q : qR) : qK := x_istore 5 (x_iload 5 (x_if_eq (b_X12_yearLine_135 J Q) (x_aload 0 (x_get 12 20 (x_int 0 (x_iload 4 (x_iast (x_nw (x_aload 0 (x_int 4 (x_int 40 (x_call (some 12) 3 sp_X12_keep4 (x_nw (b_X12_yearLine_135 J Q))))))))))))))
set_option maxRecDepth 100000 in
theorem s_X12_yearLine_113 {p : Program} {l : Launch} {e : Env} {R : Room} {s : State} {m : MethodId} {args : Array Value} {below : List Frame} {meth : Method} {c : Code} {nW : Nat} {dC : Nat → ClassId} {dI : Nat → Nat → Nat} {k : Nat → ClassId} {g : Nat → Nat} {A : Nat → Prop} {J : Nat → List qV → List qV → qW → Prop} {Q : qR} (X : q_X p R s m args meth c cX12_yearLine 6 nW 4 91 RX12 (some .boolean) dC dI k g A) (hJ : ∀ d : Nat, q_Sd p l e R s m args below meth c 6 nW dC dI k g A (MQ below (q_post (dC, dI) k g nW Q A) args s 0 0 A) d (x_cut (is_X12_yearLine d) (J d))) : q_Sd p l e R s m args below meth c 6 nW dC dI k g A (MQ below (q_post (dC, dI) k g nW Q A) args s 0 0 A) 113 (b_X12_yearLine_113 J Q) := by
  unfold b_X12_yearLine_113
  refine s_istore X (by decide) dX12_yearLine_113 ?_
  refine s_iload X dX12_yearLine_115 ?_
  refine s_if_eq X (tgt := 135) dX12_yearLine_117 (by decide) ?_ ?_
  · exact s_X12_yearLine_135 X hJ
  · refine s_aload_n X rfl dX12_yearLine_120 ?_
    refine s_get X (T := TX12) (C := RX12) (N := 45) tu_X12 rfl (by decide) tw_1017 dX12_yearLine_121 ?_
    refine s_iconst X ⟨by decide, by decide⟩ dX12_yearLine_124 ?_
    refine s_iload X dX12_yearLine_125 ?_
    refine s_iast X dX12_yearLine_127 ?_
    refine s_nw ?_
    refine s_aload_n X rfl dX12_yearLine_128 ?_
    refine s_iconst X ⟨by decide, by decide⟩ dX12_yearLine_129 ?_
    refine s_bipush X ⟨by decide, by decide⟩ (by decide) dX12_yearLine_130 ?_
    refine s_callV X (m_X12_keep4 l) tw_1154 tw_1155 tw_1592 tw_134 tw_1156 rfl (by decide +kernel) ⟨by decide, by decide⟩ dX12_yearLine_132 ?_
    refine s_nw ?_
    exact s_X12_yearLine_135 X hJ
set_option maxRecDepth 100000 in
def b_X12_yearLine_112 (J : Nat → List qV → List qV → qW → Prop) (Q : qR) : qK := x_int 0 (x_cut [0, 4] (J 113))
set_option maxRecDepth 100000 in
theorem s_X12_yearLine_112 {p : Program} {l : Launch} {e : Env} {R : Room} {s : State} {m : MethodId} {args : Array Value} {below : List Frame} {meth : Method} {c : Code} {nW : Nat} {dC : Nat → ClassId} {dI : Nat → Nat → Nat} {k : Nat → ClassId} {g : Nat → Nat} {A : Nat → Prop} {J : Nat → List qV → List qV → qW → Prop} {Q : qR} (X : q_X p R s m args meth c cX12_yearLine 6 nW 4 91 RX12 (some .boolean) dC dI k g A) (hJ : ∀ d : Nat, q_Sd p l e R s m args below meth c 6 nW dC dI k g A (MQ below (q_post (dC, dI) k g nW Q A) args s 0 0 A) d (x_cut (is_X12_yearLine d) (J d))) : q_Sd p l e R s m args below meth c 6 nW dC dI k g A (MQ below (q_post (dC, dI) k g nW Q A) args s 0 0 A) 112 (b_X12_yearLine_112 J Q) := by
  unfold b_X12_yearLine_112
  refine s_iconst X ⟨by decide, by decide⟩ dX12_yearLine_112 ?_
  exact hJ 113
set_option maxRecDepth 100000 in
def b_X12_yearLine_83 (J : Nat → List qV → List qV → qW → Prop) (Q : qR) : qK := x_int 7 (x_aload 0 (x_get 12 20 (x_int 1 (x_iald (x_call (some 12) 5 sp_X12_takeBut (x_nw (x_if_eq (b_X12_yearLine_112 J Q) (x_aload 0 (x_int 3 (x_int 1 (x_int 99 (x_call (some 12) 4 sp_X12_take (x_nw (x_if_eq (b_X12_yearLine_112 J Q) (x_int 1 (x_cut [0, 4] (J 113)))))))))))))))))
set_option maxRecDepth 100000 in
theorem s_X12_yearLine_83 {p : Program} {l : Launch} {e : Env} {R : Room} {s : State} {m : MethodId} {args : Array Value} {below : List Frame} {meth : Method} {c : Code} {nW : Nat} {dC : Nat → ClassId} {dI : Nat → Nat → Nat} {k : Nat → ClassId} {g : Nat → Nat} {A : Nat → Prop} {J : Nat → List qV → List qV → qW → Prop} {Q : qR} (X : q_X p R s m args meth c cX12_yearLine 6 nW 4 91 RX12 (some .boolean) dC dI k g A) (hJ : ∀ d : Nat, q_Sd p l e R s m args below meth c 6 nW dC dI k g A (MQ below (q_post (dC, dI) k g nW Q A) args s 0 0 A) d (x_cut (is_X12_yearLine d) (J d))) : q_Sd p l e R s m args below meth c 6 nW dC dI k g A (MQ below (q_post (dC, dI) k g nW Q A) args s 0 0 A) 83 (b_X12_yearLine_83 J Q) := by
  unfold b_X12_yearLine_83
  refine s_bipush X ⟨by decide, by decide⟩ (by decide) dX12_yearLine_83 ?_
  refine s_aload_n X rfl dX12_yearLine_85 ?_
  refine s_get X (T := TX12) (C := RX12) (N := 45) tu_X12 rfl (by decide) tw_1017 dX12_yearLine_86 ?_
  refine s_iconst X ⟨by decide, by decide⟩ dX12_yearLine_89 ?_
  refine s_iald X dX12_yearLine_90 ?_
  refine s_callV X (m_X12_takeBut l) tw_1100 tw_1101 tw_1622 tw_134 tw_1102 rfl (by decide +kernel) ⟨by decide, by decide⟩ dX12_yearLine_91 ?_
  refine s_nw ?_
  refine s_if_eq X (tgt := 112) dX12_yearLine_94 (by decide) ?_ ?_
  · exact s_X12_yearLine_112 X hJ
  · refine s_aload_n X rfl dX12_yearLine_97 ?_
    refine s_iconst X ⟨by decide, by decide⟩ dX12_yearLine_98 ?_
    refine s_iconst X ⟨by decide, by decide⟩ dX12_yearLine_99 ?_
    refine s_bipush X ⟨by decide, by decide⟩ (by decide) dX12_yearLine_100 ?_
    refine s_callV X (m_X12_take l) tw_1097 tw_1098 tw_1621 tw_134 tw_1099 rfl (by decide +kernel) ⟨by decide, by decide⟩ dX12_yearLine_102 ?_
    refine s_nw ?_
    refine s_if_eq X (tgt := 112) dX12_yearLine_105 (by decide) ?_ ?_
    · exact s_X12_yearLine_112 X hJ
    · refine s_iconst X ⟨by decide, by decide⟩ dX12_yearLine_108 ?_
      refine s_goto X (tgt := 113) dX12_yearLine_109 (by decide) ?_
      exact hJ 113
set_option maxRecDepth 100000 in
def b_X12_yearLine_39 (J : Nat → List qV → List qV → qW → Prop) (Q : qR) : qK := x_int 7 (x_call (some 12) 4 sp_X12_take (x_nw (x_if_ne (x_iload 4 (x_int 2 (x_icmp_ge (x_iload 4 (x_int 4 (x_icmp_ge (x_aload 0 (x_int 2 (x_int 0 (b_X12_yearLine_83 J Q)))) (x_aload 0 (x_int 2 (x_int 1 (x_int 99 (x_call (some 12) 4 sp_X12_take (x_nw (x_cut [0, 4] (J 113))))))))))) (x_aload 0 (x_int 2 (x_call (some 12) 2 sp_X12_takeOffence (x_nw (x_cut [0, 4] (J 113))))))))) (x_int 0 (x_zret Q)))))
set_option maxRecDepth 100000 in
theorem s_X12_yearLine_39 {p : Program} {l : Launch} {e : Env} {R : Room} {s : State} {m : MethodId} {args : Array Value} {below : List Frame} {meth : Method} {c : Code} {nW : Nat} {dC : Nat → ClassId} {dI : Nat → Nat → Nat} {k : Nat → ClassId} {g : Nat → Nat} {A : Nat → Prop} {J : Nat → List qV → List qV → qW → Prop} {Q : qR} (X : q_X p R s m args meth c cX12_yearLine 6 nW 4 91 RX12 (some .boolean) dC dI k g A) (hJ : ∀ d : Nat, q_Sd p l e R s m args below meth c 6 nW dC dI k g A (MQ below (q_post (dC, dI) k g nW Q A) args s 0 0 A) d (x_cut (is_X12_yearLine d) (J d))) : q_Sd p l e R s m args below meth c 6 nW dC dI k g A (MQ below (q_post (dC, dI) k g nW Q A) args s 0 0 A) 39 (b_X12_yearLine_39 J Q) := by
  unfold b_X12_yearLine_39
  refine s_bipush X ⟨by decide, by decide⟩ (by decide) dX12_yearLine_39 ?_
  refine s_callV X (m_X12_take l) tw_1097 tw_1098 tw_1621 tw_134 tw_1099 rfl (by decide +kernel) ⟨by decide, by decide⟩ dX12_yearLine_41 ?_
  refine s_nw ?_
  refine s_if_ne X (tgt := 49) dX12_yearLine_44 (by decide) ?_ ?_
  · refine s_iload X dX12_yearLine_49 ?_
    refine s_iconst X ⟨by decide, by decide⟩ dX12_yearLine_51 ?_
    refine s_icmp_ge X (tgt := 63) dX12_yearLine_52 (by decide) ?_ ?_
    · refine s_iload X dX12_yearLine_63 ?_
      refine s_iconst X ⟨by decide, by decide⟩ dX12_yearLine_65 ?_
      refine s_icmp_ge X (tgt := 80) dX12_yearLine_66 (by decide) ?_ ?_
      · refine s_aload_n X rfl dX12_yearLine_80 ?_
        refine s_iconst X ⟨by decide, by decide⟩ dX12_yearLine_81 ?_
        refine s_iconst X ⟨by decide, by decide⟩ dX12_yearLine_82 ?_
        exact s_X12_yearLine_83 X hJ
      · refine s_aload_n X rfl dX12_yearLine_69 ?_
        refine s_iconst X ⟨by decide, by decide⟩ dX12_yearLine_70 ?_
        refine s_iconst X ⟨by decide, by decide⟩ dX12_yearLine_71 ?_
        refine s_bipush X ⟨by decide, by decide⟩ (by decide) dX12_yearLine_72 ?_
        refine s_callV X (m_X12_take l) tw_1097 tw_1098 tw_1621 tw_134 tw_1099 rfl (by decide +kernel) ⟨by decide, by decide⟩ dX12_yearLine_74 ?_
        refine s_nw ?_
        refine s_goto X (tgt := 113) dX12_yearLine_77 (by decide) ?_
        exact hJ 113
    · refine s_aload_n X rfl dX12_yearLine_55 ?_
      refine s_iconst X ⟨by decide, by decide⟩ dX12_yearLine_56 ?_
      refine s_callV X (m_X12_takeOffence l) tw_1133 tw_1134 tw_1623 tw_134 tw_1135 rfl (by decide +kernel) ⟨by decide, by decide⟩ dX12_yearLine_57 ?_
      refine s_nw ?_
      refine s_goto X (tgt := 113) dX12_yearLine_60 (by decide) ?_
      exact hJ 113
  · refine s_iconst X ⟨by decide, by decide⟩ dX12_yearLine_47 ?_
    exact s_zret X dX12_yearLine_48
set_option maxRecDepth 100000 in
def b_X12_yearLine_0 (J : Nat → List qV → List qV → qW → Prop) (Q : qR) : qK := x_lload 1 (x_callr none 1 spr_X12_deedBy (x_istore 4 (x_iload 4 (x_int (-1) (x_icmp_ne (x_aload 0 (x_int 0 (x_int 40 (x_iload 3 (x_call (some 12) 4 sp_X12_full (x_nw (x_aload 0 (x_call (some 12) 1 sp_X12_token (x_nw (x_aload 0 (x_get 12 20 (x_int 3 (x_int (-1) (x_iast (x_nw (x_aload 0 (x_int 1 (x_int 0 (b_X12_yearLine_39 J Q))))))))))))))))))) (x_aload 0 (x_call (some 12) 1 sp_X12_fails (x_nw (x_zret Q)))))))))
set_option maxRecDepth 100000 in
theorem s_X12_yearLine_0 {p : Program} {l : Launch} {e : Env} {R : Room} {s : State} {m : MethodId} {args : Array Value} {below : List Frame} {meth : Method} {c : Code} {nW : Nat} {dC : Nat → ClassId} {dI : Nat → Nat → Nat} {k : Nat → ClassId} {g : Nat → Nat} {A : Nat → Prop} {J : Nat → List qV → List qV → qW → Prop} {Q : qR} (X : q_X p R s m args meth c cX12_yearLine 6 nW 4 91 RX12 (some .boolean) dC dI k g A) (hJ : ∀ d : Nat, q_Sd p l e R s m args below meth c 6 nW dC dI k g A (MQ below (q_post (dC, dI) k g nW Q A) args s 0 0 A) d (x_cut (is_X12_yearLine d) (J d))) : q_Sd p l e R s m args below meth c 6 nW dC dI k g A (MQ below (q_post (dC, dI) k g nW Q A) args s 0 0 A) 0 (b_X12_yearLine_0 J Q) := by
  unfold b_X12_yearLine_0
  refine s_lload_n X rfl dX12_yearLine_0 ?_
  refine s_callSr X (m_X12_deedBy l) tw_1146 tw_1147 tw_134 tw_1148 (by decide +kernel) ⟨by decide, by decide⟩ dX12_yearLine_1 ?_
  refine s_istore X (by decide) dX12_yearLine_4 ?_
  refine s_iload X dX12_yearLine_6 ?_
  refine s_iconst X ⟨by decide, by decide⟩ dX12_yearLine_8 ?_
  refine s_icmp_ne X (tgt := 17) dX12_yearLine_9 (by decide) ?_ ?_
  · refine s_aload_n X rfl dX12_yearLine_17 ?_
    refine s_iconst X ⟨by decide, by decide⟩ dX12_yearLine_18 ?_
    refine s_bipush X ⟨by decide, by decide⟩ (by decide) dX12_yearLine_19 ?_
    refine s_iload_n X rfl dX12_yearLine_21 ?_
    refine s_callV X (m_X12_full l) tw_1088 tw_1089 tw_1578 tw_134 tw_1090 rfl (by decide +kernel) ⟨by decide, by decide⟩ dX12_yearLine_22 ?_
    refine s_nw ?_
    refine s_aload_n X rfl dX12_yearLine_25 ?_
    refine s_callV X (m_X12_token l) tw_1070 tw_1071 tw_1627 tw_134 tw_1072 rfl (by decide +kernel) ⟨by decide, by decide⟩ dX12_yearLine_26 ?_
    refine s_nw ?_
    refine s_aload_n X rfl dX12_yearLine_29 ?_
    refine s_get X (T := TX12) (C := RX12) (N := 45) tu_X12 rfl (by decide) tw_1017 dX12_yearLine_30 ?_
    refine s_iconst X ⟨by decide, by decide⟩ dX12_yearLine_33 ?_
    refine s_iconst X ⟨by decide, by decide⟩ dX12_yearLine_34 ?_
    refine s_iast X dX12_yearLine_35 ?_
    refine s_nw ?_
    refine s_aload_n X rfl dX12_yearLine_36 ?_
    refine s_iconst X ⟨by decide, by decide⟩ dX12_yearLine_37 ?_
    refine s_iconst X ⟨by decide, by decide⟩ dX12_yearLine_38 ?_
    exact s_X12_yearLine_39 X hJ
  · refine s_aload_n X rfl dX12_yearLine_12 ?_
    refine s_callV X (m_X12_fails l) tw_1103 tw_1104 tw_1568 tw_134 tw_1105 rfl (by decide +kernel) ⟨by decide, by decide⟩ dX12_yearLine_13 ?_
    refine s_nw ?_
    exact s_zret X dX12_yearLine_16

def sp_X12_yearLine : qS := fun av w Q => ∃ (mco : Int) (mre : Int) (mle : Int) (mbe : Int) (mso : Int) (mva : Int) (mwo : Int) (mwr : Int) (mlf : Int) (mlp : Int) (mfp : Int) (mfd : Int) (mgo : Int) (mbo : Int) (mpe : Int) (mye : Int) (mpr : Int) (mld : Int) (msi : Int) (mse : Int) (tp : Nat → Int) (re : Nat → Int) (td : Nat → Int) (ww : Int) (b : Int), av = [q2 0, q3 ww, q1 b] ∧ w = [.inr (12, [q1 mco, q2 1, q2 4, q2 5, q2 6, q2 7, q2 8, q2 9, q2 10, q2 11, q1 mre, q1 mle, q1 mbe, q1 mso, q1 mva, q3 mwo, q1 mwr, q1 mlf, q1 mlp, q2 3, q2 2, q1 mfp, q1 mfd, q1 mgo, q1 mbo, q1 mpe, q1 mye, q2 12, q1 mpr, q2 13, q2 14, q2 15, q2 16, q1 mld, q2 17, q1 msi, q2 18, q2 19, q2 20, q2 21, q2 22, q1 mse, q2 23, q2 24, q2 25]), .inl (1, 2400, .inl tp), .inl (0, 4, .inl re), .inl (0, 161, .inl td)] ∧ (0 ≤ mre ∧ mre ≤ mle ∧ mle ≤ 600) ∧ (YT td 0) ∧ (∀ (r : Int) (x_mre : Int) (x_mbe : Int) (x_mso : Int) (x_mva : Int) (x_mwo : Int) (x_mwr : Int) (x_mlf : Int) (x_mlp : Int) (x_mgo : Int) (x_re : Nat → Int) (x_td : Nat → Int), ((r = 0 ∨ r = 1 ∧ (x_mso = 0 ∨ mre < x_mre)) ∧ mre ≤ x_mre ∧ x_mre ≤ mle ∧ YT x_td 0) → Q (some (q1 r)) ([.inr (12, [q1 mco, q2 1, q2 4, q2 5, q2 6, q2 7, q2 8, q2 9, q2 10, q2 11, q1 x_mre, q1 mle, q1 x_mbe, q1 x_mso, q1 x_mva, q3 x_mwo, q1 x_mwr, q1 x_mlf, q1 x_mlp, q2 3, q2 2, q1 mfp, q1 mfd, q1 x_mgo, q1 mbo, q1 mpe, q1 mye, q2 12, q1 mpr, q2 13, q2 14, q2 15, q2 16, q1 mld, q2 17, q1 msi, q2 18, q2 19, q2 20, q2 21, q2 22, q1 mse, q2 23, q2 24, q2 25]), .inl (1, 2400, .inl tp), .inl (0, 4, .inl x_re), .inl (0, 161, .inl x_td)]))
def I_X12_yearLine (mco : Int) (mre : Int) (mle : Int) (mbe : Int) (mso : Int) (mva : Int) (mwo : Int) (mwr : Int) (mlf : Int) (mlp : Int) (mfp : Int) (mfd : Int) (mgo : Int) (mbo : Int) (mpe : Int) (mye : Int) (mpr : Int) (mld : Int) (msi : Int) (mse : Int) (tp : Nat → Int) (re : Nat → Int) (td : Nat → Int) (ww : Int) (b : Int) : Nat → Nat → List qV → List qV → qW → Prop := fun dz mz vz sz wz => if dz = 113 then (∃ (y_mre : Int) (y_mbe : Int) (y_mso : Int) (y_mva : Int) (y_mwo : Int) (y_mwr : Int) (y_mlf : Int) (y_mlp : Int) (y_mgo : Int) (y_re : Nat → Int) (s0 : Int) (v4 : Int), vz = [q2 0, q1 v4] ∧ sz = [q1 s0] ∧ wz = [.inr (12, [q1 mco, q2 1, q2 4, q2 5, q2 6, q2 7, q2 8, q2 9, q2 10, q2 11, q1 y_mre, q1 mle, q1 y_mbe, q1 y_mso, q1 y_mva, q3 y_mwo, q1 y_mwr, q1 y_mlf, q1 y_mlp, q2 3, q2 2, q1 mfp, q1 mfd, q1 y_mgo, q1 mbo, q1 mpe, q1 mye, q2 12, q1 mpr, q2 13, q2 14, q2 15, q2 16, q1 mld, q2 17, q1 msi, q2 18, q2 19, q2 20, q2 21, q2 22, q1 mse, q2 23, q2 24, q2 25]), .inl (1, 2400, .inl tp), .inl (0, 4, .inl y_re), .inl (0, 161, .inl td)] ∧ mz = 0 ∧ ((s0 = 0 ∨ s0 = 1 ∧ (y_mso = 0 ∨ mre < y_mre)) ∧ mre ≤ y_mre ∧ y_mre ≤ mle) ∧ (s0 = 1 → v4 < 2 → 0 ≤ y_re (2 : Int).toNat ∧ y_re (2 : Int).toNat ≤ 3) ∧ (0 ≤ v4 ∧ v4 ≤ 4)) else False
set_option maxHeartbeats 4000000 in
set_option maxRecDepth 100000 in
theorem m_X12_yearLine (l : Launch) : q_M l yX12_yearLine cX12_yearLine 6 (some .boolean) 4 91 sp_X12_yearLine := by
  refine q_meth (by decide) (fun av w Q h => by obtain ⟨mco, mre, mle, mbe, mso, mva, mwo, mwr, mlf, mlp, mfp, mfd, mgo, mbo, mpe, mye, mpr, mld, msi, mse, tp, re, td, ww, b, rfl, rfl, htp, hyt, hQ⟩ := h; exact Nat.le_of_ble_eq_true rfl) ?_
  intro p e R s m args below meth c dC dI k g A av w Q hsp oka okw X
  obtain ⟨mco, mre, mle, mbe, mso, mva, mwo, mwr, mlf, mlp, mfp, mfd, mgo, mbo, mpe, mye, mpr, mld, msi, mse, tp, re, td, ww, b, rfl, rfl, htp, hyt, hQ⟩ := hsp
  have o_b : -2147483648 ≤ b ∧ b ≤ 2147483647 := oka _ (List.mem_of_getElem? (i := 2) rfl)
  refine s_mono (s_X12_yearLine_0 X (J := fun dz vz sz wz => ∃ mz, I_X12_yearLine mco mre mle mbe mso mva mwo mwr mlf mlp mfp mfd mgo mbo mpe mye mpr mld msi mse tp re td ww b dz mz vz sz wz) (q_loopn (I_X12_yearLine mco mre mle mbe mso mva mwo mwr mlf mlp mfp mfd mgo mbo mpe mye mpr mld msi mse tp re td ww b) (fun dz J => if dz = 113 then b_X12_yearLine_113 J Q else q_F) ?hs ?hv)) ?_
  case hs =>
    intro d J hJ
    by_cases h113 : d = 113
    · subst h113; exact s_X12_yearLine_113 X hJ
    simp only [h113, if_false]
    exact s_F
  case hv =>
    intro dz mz vz sz wz hI okv oks okw hlen
    by_cases h113 : dz = 113
    · subst h113
      obtain ⟨y_mre, y_mbe, y_mso, y_mva, y_mwo, y_mwr, y_mlf, y_mlp, y_mgo, y_re, s0, v4, rfl, rfl, rfl, hn, hp, hx, hd⟩ := hI
      apply And.intro
      · intro h117
        apply And.intro
        · first | exact Or.inl rfl | exact Or.inr rfl | omega
        exact hQ _ _ _ _ _ _ _ _ _ _ _ _ ⟨by omega, by omega, by omega, (by first | assumption | exact h132)⟩
      · intro h117
        apply And.intro
        · exact ⟨by omega, by omega⟩
        refine Exists.intro [0, 2, 3, 1, 4, 5, 6, 7, 8, 9, 10, 11, 12, 13, 14, 15, 16, 17, 18, 19, 20, 21, 22, 23, 24, 25] (Exists.intro [q2 0, q1 4, q1 40] (Exists.intro ([.inr (12, [q1 _, q2 3, q2 4, q2 5, q2 6, q2 7, q2 8, q2 9, q2 10, q2 11, q1 _, q1 _, q1 _, q1 _, q1 _, q3 _, q1 _, q1 _, q1 _, q2 2, q2 1, q1 _, q1 _, q1 _, q1 _, q1 _, q1 _, q2 12, q1 _, q2 13, q2 14, q2 15, q2 16, q1 _, q2 17, q1 _, q2 18, q2 19, q2 20, q2 21, q2 22, q1 _, q2 23, q2 24, q2 25]), .inl (0, 4, .inl _), .inl (0, 161, .inl _)]) (And.intro rfl (And.intro rfl (And.intro rfl (And.intro ⟨⟨_, rfl⟩, rfl⟩ ?_))))))
        refine Exists.intro _ (Exists.intro _ (Exists.intro _ (Exists.intro _ (Exists.intro _ (Exists.intro _ (Exists.intro _ (Exists.intro _ (Exists.intro _ (Exists.intro _ (Exists.intro _ (Exists.intro _ (Exists.intro _ (Exists.intro _ (Exists.intro _ (Exists.intro _ (Exists.intro _ (Exists.intro _ (Exists.intro _ (Exists.intro _ (Exists.intro _ (Exists.intro _ (And.intro rfl (And.intro rfl (And.intro (by first | omega | assumption | exact q_rg_up (by assumption) (by omega) | exact q_rg_up (q_rg_up (by assumption) (by omega)) (by omega) | exact q_rg_cpy (by assumption) (by assumption)) (And.intro (by intro hq; have q0 : q_up y_re (0 : Int).toNat v4 0 = v4 := q_up_s; have q2 : q_up y_re (0 : Int).toNat v4 2 = y_re (2 : Int).toNat := q_up_n (by decide); rw [q2]; rw [q0] at hq; omega) (?_))))))))))))))))))))))))))
        intro x_td_132 h132
        apply And.intro
        · first | exact Or.inl rfl | exact Or.inr rfl | omega
        exact hQ _ _ _ _ _ _ _ _ _ _ _ _ ⟨by omega, by omega, by omega, (by first | assumption | exact h132)⟩
    simp only [I_X12_yearLine, h113, if_false] at hI
  rintro lv st w' ⟨rfl, rfl, rfl⟩
  refine Exists.intro [] (Exists.intro [q3 _] (Exists.intro [] (And.intro rfl (And.intro rfl (And.intro rfl (And.intro trivial ?_))))))
  refine Exists.intro _ (And.intro rfl (And.intro rfl (?_)))
  intro z1 h1
  apply And.intro
  · intro h9
    refine Exists.intro [0, 3, 1, 4, 5, 6, 7, 8, 9, 10, 11, 2, 12, 13, 14, 15, 16, 17, 18, 19, 20, 21, 22, 23, 24, 25] (Exists.intro [q2 0, q1 _, q1 _, q1 _] (Exists.intro ([.inr (12, [q1 _, q2 2, q2 3, q2 4, q2 5, q2 6, q2 7, q2 8, q2 9, q2 10, q1 _, q1 _, q1 _, q1 _, q1 _, q3 _, q1 _, q1 _, q1 _, q2 1, q2 11, q1 _, q1 _, q1 _, q1 _, q1 _, q1 _, q2 12, q1 _, q2 13, q2 14, q2 15, q2 16, q1 _, q2 17, q1 _, q2 18, q2 19, q2 20, q2 21, q2 22, q1 _, q2 23, q2 24, q2 25]), .inl (0, 161, .inl _)]) (And.intro rfl (And.intro rfl (And.intro rfl (And.intro ⟨⟨_, rfl⟩, rfl⟩ ?_))))))
    refine Exists.intro _ (Exists.intro _ (Exists.intro _ (Exists.intro _ (Exists.intro _ (Exists.intro _ (Exists.intro _ (Exists.intro _ (Exists.intro _ (Exists.intro _ (Exists.intro _ (Exists.intro _ (Exists.intro _ (Exists.intro _ (Exists.intro _ (Exists.intro _ (Exists.intro _ (Exists.intro _ (Exists.intro _ (Exists.intro _ (Exists.intro _ (Exists.intro _ (Exists.intro _ (Exists.intro _ (And.intro rfl (And.intro rfl (And.intro (by first | omega | assumption | exact q_rg_up (by assumption) (by omega) | exact q_rg_up (q_rg_up (by assumption) (by omega)) (by omega) | exact q_rg_cpy (by assumption) (by assumption)) (?_)))))))))))))))))))))))))))
    intro x_mlf_22 x_mlp_22
    refine Exists.intro [0, 1, 4, 5, 6, 7, 8, 9, 10, 11, 3, 2, 12, 13, 14, 15, 16, 17, 18, 19, 20, 21, 22, 23, 24, 25] (Exists.intro [q2 0] (Exists.intro ([.inr (12, [q1 _, q2 1, q2 2, q2 3, q2 4, q2 5, q2 6, q2 7, q2 8, q2 9, q1 _, q1 _, q1 _, q1 _, q1 _, q3 _, q1 _, q1 _, q1 _, q2 10, q2 11, q1 _, q1 _, q1 _, q1 _, q1 _, q1 _, q2 12, q1 _, q2 13, q2 14, q2 15, q2 16, q1 _, q2 17, q1 _, q2 18, q2 19, q2 20, q2 21, q2 22, q1 _, q2 23, q2 24, q2 25]), .inl (1, 2400, .inl _)]) (And.intro rfl (And.intro rfl (And.intro rfl (And.intro ⟨⟨_, rfl⟩, rfl⟩ ?_))))))
    refine Exists.intro _ (Exists.intro _ (Exists.intro _ (Exists.intro _ (Exists.intro _ (Exists.intro _ (Exists.intro _ (Exists.intro _ (Exists.intro _ (Exists.intro _ (Exists.intro _ (Exists.intro _ (Exists.intro _ (Exists.intro _ (Exists.intro _ (Exists.intro _ (Exists.intro _ (Exists.intro _ (Exists.intro _ (Exists.intro _ (Exists.intro _ (And.intro rfl (And.intro rfl (And.intro (by first | omega | assumption | exact q_rg_up (by assumption) (by omega) | exact q_rg_up (q_rg_up (by assumption) (by omega)) (by omega) | exact q_rg_cpy (by assumption) (by assumption)) (?_))))))))))))))))))))))))
    intro x_mre_26 x_mbe_26 x_mso_26 x_mva_26 x_mwo_26 h26
    apply And.intro
    · exact ⟨by omega, by omega⟩
    refine Exists.intro [0, 1, 2, 4, 5, 6, 7, 8, 9, 10, 11, 3, 12, 13, 14, 15, 16, 17, 18, 19, 20, 21, 22, 23, 24, 25] (Exists.intro [q2 0, q1 _, q1 _, q1 _] (Exists.intro ([.inr (12, [q1 _, q2 1, q2 3, q2 4, q2 5, q2 6, q2 7, q2 8, q2 9, q2 10, q1 _, q1 _, q1 _, q1 _, q1 _, q3 _, q1 _, q1 _, q1 _, q2 11, q2 2, q1 _, q1 _, q1 _, q1 _, q1 _, q1 _, q2 12, q1 _, q2 13, q2 14, q2 15, q2 16, q1 _, q2 17, q1 _, q2 18, q2 19, q2 20, q2 21, q2 22, q1 _, q2 23, q2 24, q2 25]), .inl (1, 2400, .inl _), .inl (0, 4, .inl _)]) (And.intro rfl (And.intro rfl (And.intro rfl (And.intro ⟨⟨_, rfl⟩, rfl⟩ ?_))))))
    refine Exists.intro _ (Exists.intro _ (Exists.intro _ (Exists.intro _ (Exists.intro _ (Exists.intro _ (Exists.intro _ (Exists.intro _ (Exists.intro _ (Exists.intro _ (Exists.intro _ (Exists.intro _ (Exists.intro _ (Exists.intro _ (Exists.intro _ (Exists.intro _ (Exists.intro _ (Exists.intro _ (Exists.intro _ (Exists.intro _ (Exists.intro _ (Exists.intro _ (Exists.intro _ (Exists.intro _ (Exists.intro _ (And.intro rfl (And.intro rfl (And.intro (by first | omega | assumption | exact q_rg_up (by assumption) (by omega) | exact q_rg_up (q_rg_up (by assumption) (by omega)) (by omega) | exact q_rg_cpy (by assumption) (by assumption)) (And.intro (by first | omega | assumption | exact q_rg_up (by assumption) (by omega) | exact q_rg_up (q_rg_up (by assumption) (by omega)) (by omega) | exact q_rg_cpy (by assumption) (by assumption)) (?_)))))))))))))))))))))))))))))
    intro z41 x_mre_41 x_mbe_41 x_mso_41 x_mva_41 x_mwo_41 x_mwr_41 x_mlf_41 x_mlp_41 x_mgo_41 x_re_41 h41
    apply And.intro
    · intro h44
      apply And.intro
      · intro h52
        apply And.intro
        · intro h66
          apply And.intro
          · exact ⟨by omega, by omega⟩
          intro z90 h90
          refine Exists.intro [0, 1, 2, 4, 5, 6, 7, 8, 9, 10, 11, 3, 12, 13, 14, 15, 16, 17, 18, 19, 20, 21, 22, 23, 24, 25] (Exists.intro [q2 0, q1 _, q1 _, q1 _, q1 _] (Exists.intro ([.inr (12, [q1 _, q2 1, q2 3, q2 4, q2 5, q2 6, q2 7, q2 8, q2 9, q2 10, q1 _, q1 _, q1 _, q1 _, q1 _, q3 _, q1 _, q1 _, q1 _, q2 11, q2 2, q1 _, q1 _, q1 _, q1 _, q1 _, q1 _, q2 12, q1 _, q2 13, q2 14, q2 15, q2 16, q1 _, q2 17, q1 _, q2 18, q2 19, q2 20, q2 21, q2 22, q1 _, q2 23, q2 24, q2 25]), .inl (1, 2400, .inl _), .inl (0, 4, .inl _)]) (And.intro rfl (And.intro rfl (And.intro rfl (And.intro ⟨⟨_, rfl⟩, rfl⟩ ?_))))))
          refine Exists.intro _ (Exists.intro _ (Exists.intro _ (Exists.intro _ (Exists.intro _ (Exists.intro _ (Exists.intro _ (Exists.intro _ (Exists.intro _ (Exists.intro _ (Exists.intro _ (Exists.intro _ (Exists.intro _ (Exists.intro _ (Exists.intro _ (Exists.intro _ (Exists.intro _ (Exists.intro _ (Exists.intro _ (Exists.intro _ (Exists.intro _ (Exists.intro _ (Exists.intro _ (Exists.intro _ (Exists.intro _ (Exists.intro _ (And.intro rfl (And.intro rfl (And.intro (by first | omega | assumption | exact q_rg_up (by assumption) (by omega) | exact q_rg_up (q_rg_up (by assumption) (by omega)) (by omega) | exact q_rg_cpy (by assumption) (by assumption)) (And.intro (by first | omega | assumption | exact q_rg_up (by assumption) (by omega) | exact q_rg_up (q_rg_up (by assumption) (by omega)) (by omega) | exact q_rg_cpy (by assumption) (by assumption)) (?_))))))))))))))))))))))))))))))
          intro z91 x_mre_91 x_mbe_91 x_mso_91 x_mva_91 x_mwo_91 x_mwr_91 x_mlf_91 x_mlp_91 x_mgo_91 x_re_91 h91
          apply And.intro
          · intro h94
            exact ⟨_, _, _, _, _, _, _, _, _, _, _, _, _, rfl, rfl, rfl, rfl, (by first | omega | assumption | exact q_rg_up (by assumption) (by omega) | exact q_rg_up (q_rg_up (by assumption) (by omega)) (by omega) | exact q_rg_cpy (by assumption) (by assumption)), (by first | omega | exact fun e _ => h57.2.2.2.2 e), (by first | omega | assumption | exact q_rg_up (by assumption) (by omega) | exact q_rg_up (q_rg_up (by assumption) (by omega)) (by omega) | exact q_rg_cpy (by assumption) (by assumption))⟩
          · intro h94
            refine Exists.intro [0, 1, 2, 4, 5, 6, 7, 8, 9, 10, 11, 3, 12, 13, 14, 15, 16, 17, 18, 19, 20, 21, 22, 23, 24, 25] (Exists.intro [q2 0, q1 _, q1 _, q1 _] (Exists.intro ([.inr (12, [q1 _, q2 1, q2 3, q2 4, q2 5, q2 6, q2 7, q2 8, q2 9, q2 10, q1 _, q1 _, q1 _, q1 _, q1 _, q3 _, q1 _, q1 _, q1 _, q2 11, q2 2, q1 _, q1 _, q1 _, q1 _, q1 _, q1 _, q2 12, q1 _, q2 13, q2 14, q2 15, q2 16, q1 _, q2 17, q1 _, q2 18, q2 19, q2 20, q2 21, q2 22, q1 _, q2 23, q2 24, q2 25]), .inl (1, 2400, .inl _), .inl (0, 4, .inl _)]) (And.intro rfl (And.intro rfl (And.intro rfl (And.intro ⟨⟨_, rfl⟩, rfl⟩ ?_))))))
            refine Exists.intro _ (Exists.intro _ (Exists.intro _ (Exists.intro _ (Exists.intro _ (Exists.intro _ (Exists.intro _ (Exists.intro _ (Exists.intro _ (Exists.intro _ (Exists.intro _ (Exists.intro _ (Exists.intro _ (Exists.intro _ (Exists.intro _ (Exists.intro _ (Exists.intro _ (Exists.intro _ (Exists.intro _ (Exists.intro _ (Exists.intro _ (Exists.intro _ (Exists.intro _ (Exists.intro _ (Exists.intro _ (And.intro rfl (And.intro rfl (And.intro (by first | omega | assumption | exact q_rg_up (by assumption) (by omega) | exact q_rg_up (q_rg_up (by assumption) (by omega)) (by omega) | exact q_rg_cpy (by assumption) (by assumption)) (And.intro (by first | omega | assumption | exact q_rg_up (by assumption) (by omega) | exact q_rg_up (q_rg_up (by assumption) (by omega)) (by omega) | exact q_rg_cpy (by assumption) (by assumption)) (?_)))))))))))))))))))))))))))))
            intro z102 x_mre_102 x_mbe_102 x_mso_102 x_mva_102 x_mwo_102 x_mwr_102 x_mlf_102 x_mlp_102 x_mgo_102 x_re_102 h102
            apply And.intro
            · intro h105
              exact ⟨_, _, _, _, _, _, _, _, _, _, _, _, _, rfl, rfl, rfl, rfl, (by first | omega | assumption | exact q_rg_up (by assumption) (by omega) | exact q_rg_up (q_rg_up (by assumption) (by omega)) (by omega) | exact q_rg_cpy (by assumption) (by assumption)), (by first | omega | exact fun e _ => h57.2.2.2.2 e), (by first | omega | assumption | exact q_rg_up (by assumption) (by omega) | exact q_rg_up (q_rg_up (by assumption) (by omega)) (by omega) | exact q_rg_cpy (by assumption) (by assumption))⟩
            · intro h105
              exact ⟨_, _, _, _, _, _, _, _, _, _, _, _, _, rfl, rfl, rfl, rfl, (by first | omega | assumption | exact q_rg_up (by assumption) (by omega) | exact q_rg_up (q_rg_up (by assumption) (by omega)) (by omega) | exact q_rg_cpy (by assumption) (by assumption)), (by first | omega | exact fun e _ => h57.2.2.2.2 e), (by first | omega | assumption | exact q_rg_up (by assumption) (by omega) | exact q_rg_up (q_rg_up (by assumption) (by omega)) (by omega) | exact q_rg_cpy (by assumption) (by assumption))⟩
        · intro h66
          refine Exists.intro [0, 1, 2, 4, 5, 6, 7, 8, 9, 10, 11, 3, 12, 13, 14, 15, 16, 17, 18, 19, 20, 21, 22, 23, 24, 25] (Exists.intro [q2 0, q1 _, q1 _, q1 _] (Exists.intro ([.inr (12, [q1 _, q2 1, q2 3, q2 4, q2 5, q2 6, q2 7, q2 8, q2 9, q2 10, q1 _, q1 _, q1 _, q1 _, q1 _, q3 _, q1 _, q1 _, q1 _, q2 11, q2 2, q1 _, q1 _, q1 _, q1 _, q1 _, q1 _, q2 12, q1 _, q2 13, q2 14, q2 15, q2 16, q1 _, q2 17, q1 _, q2 18, q2 19, q2 20, q2 21, q2 22, q1 _, q2 23, q2 24, q2 25]), .inl (1, 2400, .inl _), .inl (0, 4, .inl _)]) (And.intro rfl (And.intro rfl (And.intro rfl (And.intro ⟨⟨_, rfl⟩, rfl⟩ ?_))))))
          refine Exists.intro _ (Exists.intro _ (Exists.intro _ (Exists.intro _ (Exists.intro _ (Exists.intro _ (Exists.intro _ (Exists.intro _ (Exists.intro _ (Exists.intro _ (Exists.intro _ (Exists.intro _ (Exists.intro _ (Exists.intro _ (Exists.intro _ (Exists.intro _ (Exists.intro _ (Exists.intro _ (Exists.intro _ (Exists.intro _ (Exists.intro _ (Exists.intro _ (Exists.intro _ (Exists.intro _ (Exists.intro _ (And.intro rfl (And.intro rfl (And.intro (by first | omega | assumption | exact q_rg_up (by assumption) (by omega) | exact q_rg_up (q_rg_up (by assumption) (by omega)) (by omega) | exact q_rg_cpy (by assumption) (by assumption)) (And.intro (by first | omega | assumption | exact q_rg_up (by assumption) (by omega) | exact q_rg_up (q_rg_up (by assumption) (by omega)) (by omega) | exact q_rg_cpy (by assumption) (by assumption)) (?_)))))))))))))))))))))))))))))
          intro z74 x_mre_74 x_mbe_74 x_mso_74 x_mva_74 x_mwo_74 x_mwr_74 x_mlf_74 x_mlp_74 x_mgo_74 x_re_74 h74
          exact ⟨_, _, _, _, _, _, _, _, _, _, _, _, _, rfl, rfl, rfl, rfl, (by first | omega | assumption | exact q_rg_up (by assumption) (by omega) | exact q_rg_up (q_rg_up (by assumption) (by omega)) (by omega) | exact q_rg_cpy (by assumption) (by assumption)), (by first | omega | exact fun e _ => h57.2.2.2.2 e), (by first | omega | assumption | exact q_rg_up (by assumption) (by omega) | exact q_rg_up (q_rg_up (by assumption) (by omega)) (by omega) | exact q_rg_cpy (by assumption) (by assumption))⟩
      · intro h52
        refine Exists.intro [0, 1, 2, 4, 5, 6, 7, 8, 9, 10, 11, 3, 12, 13, 14, 15, 16, 17, 18, 19, 20, 21, 22, 23, 24, 25] (Exists.intro [q2 0, q1 _] (Exists.intro ([.inr (12, [q1 _, q2 1, q2 3, q2 4, q2 5, q2 6, q2 7, q2 8, q2 9, q2 10, q1 _, q1 _, q1 _, q1 _, q1 _, q3 _, q1 _, q1 _, q1 _, q2 11, q2 2, q1 _, q1 _, q1 _, q1 _, q1 _, q1 _, q2 12, q1 _, q2 13, q2 14, q2 15, q2 16, q1 _, q2 17, q1 _, q2 18, q2 19, q2 20, q2 21, q2 22, q1 _, q2 23, q2 24, q2 25]), .inl (1, 2400, .inl _), .inl (0, 4, .inl _)]) (And.intro rfl (And.intro rfl (And.intro rfl (And.intro ⟨⟨_, rfl⟩, rfl⟩ ?_))))))
        refine Exists.intro _ (Exists.intro _ (Exists.intro _ (Exists.intro _ (Exists.intro _ (Exists.intro _ (Exists.intro _ (Exists.intro _ (Exists.intro _ (Exists.intro _ (Exists.intro _ (Exists.intro _ (Exists.intro _ (Exists.intro _ (Exists.intro _ (Exists.intro _ (Exists.intro _ (Exists.intro _ (Exists.intro _ (Exists.intro _ (Exists.intro _ (Exists.intro _ (Exists.intro _ (And.intro rfl (And.intro rfl (And.intro (by first | omega | assumption | exact q_rg_up (by assumption) (by omega) | exact q_rg_up (q_rg_up (by assumption) (by omega)) (by omega) | exact q_rg_cpy (by assumption) (by assumption)) (And.intro (by first | omega | assumption | exact q_rg_up (by assumption) (by omega) | exact q_rg_up (q_rg_up (by assumption) (by omega)) (by omega) | exact q_rg_cpy (by assumption) (by assumption)) (?_)))))))))))))))))))))))))))
        intro z57 x_mre_57 x_mbe_57 x_mso_57 x_mva_57 x_mwo_57 x_mwr_57 x_re_57 h57
        exact ⟨_, _, _, _, _, _, _, _, _, _, _, _, _, rfl, rfl, rfl, rfl, (by first | omega | assumption | exact q_rg_up (by assumption) (by omega) | exact q_rg_up (q_rg_up (by assumption) (by omega)) (by omega) | exact q_rg_cpy (by assumption) (by assumption)), (by first | omega | exact fun e _ => h57.2.2.2.2 e), (by first | omega | assumption | exact q_rg_up (by assumption) (by omega) | exact q_rg_up (q_rg_up (by assumption) (by omega)) (by omega) | exact q_rg_cpy (by assumption) (by assumption))⟩
    · intro h44
      apply And.intro
      · first | exact Or.inl rfl | exact Or.inr rfl | omega
      exact hQ _ _ _ _ _ _ _ _ _ _ _ _ ⟨by omega, by omega, by omega, (by first | assumption | exact h132)⟩
  · intro h9
    refine Exists.intro [0, 1, 4, 5, 6, 7, 8, 9, 10, 11, 3, 2, 12, 13, 14, 15, 16, 17, 18, 19, 20, 21, 22, 23, 24, 25] (Exists.intro [q2 0] (Exists.intro ([.inr (12, [q1 _, q2 1, q2 2, q2 3, q2 4, q2 5, q2 6, q2 7, q2 8, q2 9, q1 _, q1 _, q1 _, q1 _, q1 _, q3 _, q1 _, q1 _, q1 _, q2 10, q2 11, q1 _, q1 _, q1 _, q1 _, q1 _, q1 _, q2 12, q1 _, q2 13, q2 14, q2 15, q2 16, q1 _, q2 17, q1 _, q2 18, q2 19, q2 20, q2 21, q2 22, q1 _, q2 23, q2 24, q2 25])]) (And.intro rfl (And.intro rfl (And.intro rfl (And.intro ⟨⟨_, rfl⟩, rfl⟩ ?_))))))
    refine Exists.intro _ (Exists.intro _ (Exists.intro _ (Exists.intro _ (Exists.intro _ (Exists.intro _ (Exists.intro _ (Exists.intro _ (Exists.intro _ (Exists.intro _ (Exists.intro _ (Exists.intro _ (Exists.intro _ (Exists.intro _ (Exists.intro _ (Exists.intro _ (Exists.intro _ (Exists.intro _ (Exists.intro _ (Exists.intro _ (And.intro rfl (And.intro rfl (?_))))))))))))))))))))))
    intro z13 x_mwr_13 h13
    apply And.intro
    · first | exact Or.inl rfl | exact Or.inr rfl | omega
    exact hQ _ _ _ _ _ _ _ _ _ _ _ _ ⟨by omega, by omega, by omega, (by first | assumption | exact h132)⟩

theorem dX12_ledgerLine_0 : decode cX12_ledgerLine 0 = .ok (.lload_n 1, 1) := by decide +kernel
theorem dX12_ledgerLine_1 : decode cX12_ledgerLine 1 = .ok (.ldc2_w 247, 3) := by decide +kernel
theorem dX12_ledgerLine_4 : decode cX12_ledgerLine 4 = .ok (.lcmp, 1) := by decide +kernel
theorem dX12_ledgerLine_5 : decode cX12_ledgerLine 5 = .ok (.ifCond .eq 16, 3) := by decide +kernel
theorem dX12_ledgerLine_8 : decode cX12_ledgerLine 8 = .ok (.lload_n 1, 1) := by decide +kernel
theorem dX12_ledgerLine_9 : decode cX12_ledgerLine 9 = .ok (.ldc2_w 249, 3) := by decide +kernel
theorem dX12_ledgerLine_12 : decode cX12_ledgerLine 12 = .ok (.lcmp, 1) := by decide +kernel
theorem dX12_ledgerLine_13 : decode cX12_ledgerLine 13 = .ok (.ifCond .eq 8, 3) := by decide +kernel
theorem dX12_ledgerLine_16 : decode cX12_ledgerLine 16 = .ok (.aload_n 0, 1) := by decide +kernel
theorem dX12_ledgerLine_17 : decode cX12_ledgerLine 17 = .ok (.invokevirtual 140, 3) := by decide +kernel
theorem dX12_ledgerLine_20 : decode cX12_ledgerLine 20 = .ok (.ireturn, 1) := by decide +kernel
theorem dX12_ledgerLine_21 : decode cX12_ledgerLine 21 = .ok (.aload_n 0, 1) := by decide +kernel
theorem dX12_ledgerLine_22 : decode cX12_ledgerLine 22 = .ok (.invokevirtual 152, 3) := by decide +kernel
theorem dX12_ledgerLine_25 : decode cX12_ledgerLine 25 = .ok (.lload_n 1, 1) := by decide +kernel
theorem dX12_ledgerLine_26 : decode cX12_ledgerLine 26 = .ok (.ldc2_w 249, 3) := by decide +kernel
theorem dX12_ledgerLine_29 : decode cX12_ledgerLine 29 = .ok (.lcmp, 1) := by decide +kernel
theorem dX12_ledgerLine_30 : decode cX12_ledgerLine 30 = .ok (.ifCond .ne 31, 3) := by decide +kernel
theorem dX12_ledgerLine_33 : decode cX12_ledgerLine 33 = .ok (.aload_n 0, 1) := by decide +kernel
theorem dX12_ledgerLine_34 : decode cX12_ledgerLine 34 = .ok (.iconst 0, 1) := by decide +kernel
theorem dX12_ledgerLine_35 : decode cX12_ledgerLine 35 = .ok (.iconst 0, 1) := by decide +kernel
theorem dX12_ledgerLine_36 : decode cX12_ledgerLine 36 = .ok (.bipush 99, 2) := by decide +kernel
theorem dX12_ledgerLine_38 : decode cX12_ledgerLine 38 = .ok (.invokevirtual 174, 3) := by decide +kernel
theorem dX12_ledgerLine_41 : decode cX12_ledgerLine 41 = .ok (.ifCond .ne 5, 3) := by decide +kernel
theorem dX12_ledgerLine_44 : decode cX12_ledgerLine 44 = .ok (.iconst 0, 1) := by decide +kernel
theorem dX12_ledgerLine_45 : decode cX12_ledgerLine 45 = .ok (.ireturn, 1) := by decide +kernel
theorem dX12_ledgerLine_46 : decode cX12_ledgerLine 46 = .ok (.aload_n 0, 1) := by decide +kernel
theorem dX12_ledgerLine_47 : decode cX12_ledgerLine 47 = .ok (.getfield 38, 3) := by decide +kernel
theorem dX12_ledgerLine_50 : decode cX12_ledgerLine 50 = .ok (.bipush 8, 2) := by decide +kernel
theorem dX12_ledgerLine_52 : decode cX12_ledgerLine 52 = .ok (.aload_n 0, 1) := by decide +kernel
theorem dX12_ledgerLine_53 : decode cX12_ledgerLine 53 = .ok (.getfield 41, 3) := by decide +kernel
theorem dX12_ledgerLine_56 : decode cX12_ledgerLine 56 = .ok (.iconst 0, 1) := by decide +kernel
theorem dX12_ledgerLine_57 : decode cX12_ledgerLine 57 = .ok (.iaload, 1) := by decide +kernel
theorem dX12_ledgerLine_58 : decode cX12_ledgerLine 58 = .ok (.iastore, 1) := by decide +kernel
theorem dX12_ledgerLine_59 : decode cX12_ledgerLine 59 = .ok (.iconst 1, 1) := by decide +kernel
theorem dX12_ledgerLine_60 : decode cX12_ledgerLine 60 = .ok (.ireturn, 1) := by decide +kernel
theorem dX12_ledgerLine_61 : decode cX12_ledgerLine 61 = .ok (.aload_n 0, 1) := by decide +kernel
theorem dX12_ledgerLine_62 : decode cX12_ledgerLine 62 = .ok (.iconst 0, 1) := by decide +kernel
theorem dX12_ledgerLine_63 : decode cX12_ledgerLine 63 = .ok (.iconst 0, 1) := by decide +kernel
theorem dX12_ledgerLine_64 : decode cX12_ledgerLine 64 = .ok (.bipush 7, 2) := by decide +kernel
theorem dX12_ledgerLine_66 : decode cX12_ledgerLine 66 = .ok (.invokevirtual 174, 3) := by decide +kernel
theorem dX12_ledgerLine_69 : decode cX12_ledgerLine 69 = .ok (.ifCond .eq 14, 3) := by decide +kernel
theorem dX12_ledgerLine_72 : decode cX12_ledgerLine 72 = .ok (.aload_n 0, 1) := by decide +kernel
theorem dX12_ledgerLine_73 : decode cX12_ledgerLine 73 = .ok (.iconst 1, 1) := by decide +kernel
theorem dX12_ledgerLine_74 : decode cX12_ledgerLine 74 = .ok (.iconst 0, 1) := by decide +kernel
theorem dX12_ledgerLine_75 : decode cX12_ledgerLine 75 = .ok (.bipush 99, 2) := by decide +kernel
theorem dX12_ledgerLine_77 : decode cX12_ledgerLine 77 = .ok (.invokevirtual 174, 3) := by decide +kernel
theorem dX12_ledgerLine_80 : decode cX12_ledgerLine 80 = .ok (.ifCond .ne 5, 3) := by decide +kernel
theorem dX12_ledgerLine_83 : decode cX12_ledgerLine 83 = .ok (.iconst 0, 1) := by decide +kernel
theorem dX12_ledgerLine_84 : decode cX12_ledgerLine 84 = .ok (.ireturn, 1) := by decide +kernel
theorem dX12_ledgerLine_85 : decode cX12_ledgerLine 85 = .ok (.aload_n 0, 1) := by decide +kernel
theorem dX12_ledgerLine_86 : decode cX12_ledgerLine 86 = .ok (.getfield 148, 3) := by decide +kernel
theorem dX12_ledgerLine_89 : decode cX12_ledgerLine 89 = .ok (.ifCond .eq 20, 3) := by decide +kernel
theorem dX12_ledgerLine_92 : decode cX12_ledgerLine 92 = .ok (.aload_n 0, 1) := by decide +kernel
theorem dX12_ledgerLine_93 : decode cX12_ledgerLine 93 = .ok (.getfield 38, 3) := by decide +kernel
theorem dX12_ledgerLine_96 : decode cX12_ledgerLine 96 = .ok (.aload_n 0, 1) := by decide +kernel
theorem dX12_ledgerLine_97 : decode cX12_ledgerLine 97 = .ok (.getfield 41, 3) := by decide +kernel
theorem dX12_ledgerLine_100 : decode cX12_ledgerLine 100 = .ok (.iconst 0, 1) := by decide +kernel
theorem dX12_ledgerLine_101 : decode cX12_ledgerLine 101 = .ok (.iaload, 1) := by decide +kernel
theorem dX12_ledgerLine_102 : decode cX12_ledgerLine 102 = .ok (.aload_n 0, 1) := by decide +kernel
theorem dX12_ledgerLine_103 : decode cX12_ledgerLine 103 = .ok (.getfield 41, 3) := by decide +kernel
theorem dX12_ledgerLine_106 : decode cX12_ledgerLine 106 = .ok (.iconst 1, 1) := by decide +kernel
theorem dX12_ledgerLine_107 : decode cX12_ledgerLine 107 = .ok (.iaload, 1) := by decide +kernel
theorem dX12_ledgerLine_108 : decode cX12_ledgerLine 108 = .ok (.iastore, 1) := by decide +kernel
theorem dX12_ledgerLine_109 : decode cX12_ledgerLine 109 = .ok (.iconst 1, 1) := by decide +kernel
theorem dX12_ledgerLine_110 : decode cX12_ledgerLine 110 = .ok (.ireturn, 1) := by decide +kernel
def is_X12_ledgerLine : Nat → List Nat := fun d => if d = 21 then [0, 1] else []
set_option maxRecDepth 100000 in
def b_X12_ledgerLine_109 (J : Nat → List qV → List qV → qW → Prop) (Q : qR) : qK := x_int 1 (x_zret Q)
set_option maxRecDepth 100000 in
theorem s_X12_ledgerLine_109 {p : Program} {l : Launch} {e : Env} {R : Room} {s : State} {m : MethodId} {args : Array Value} {below : List Frame} {meth : Method} {c : Code} {nW : Nat} {dC : Nat → ClassId} {dI : Nat → Nat → Nat} {k : Nat → ClassId} {g : Nat → Nat} {A : Nat → Prop} {J : Nat → List qV → List qV → qW → Prop} {Q : qR} (X : q_X p R s m args meth c cX12_ledgerLine 3 nW 4 91 RX12 (some .boolean) dC dI k g A) (hJ : ∀ d : Nat, q_Sd p l e R s m args below meth c 3 nW dC dI k g A (MQ below (q_post (dC, dI) k g nW Q A) args s 0 0 A) d (x_cut (is_X12_ledgerLine d) (J d))) : q_Sd p l e R s m args below meth c 3 nW dC dI k g A (MQ below (q_post (dC, dI) k g nW Q A) args s 0 0 A) 109 (b_X12_ledgerLine_109 J Q) := by
  unfold b_X12_ledgerLine_109
  refine s_iconst X ⟨by decide, by decide⟩ dX12_ledgerLine_109 ?_
  exact s_zret X dX12_ledgerLine_110
set_option maxRecDepth 100000 in
def b_X12_ledgerLine_83 (J : Nat → List qV → List qV → qW → Prop) (Q : qR) : qK := x_int 0 (x_zret Q)
set_option maxRecDepth 100000 in
theorem s_X12_ledgerLine_83 {p : Program} {l : Launch} {e : Env} {R : Room} {s : State} {m : MethodId} {args : Array Value} {below : List Frame} {meth : Method} {c : Code} {nW : Nat} {dC : Nat → ClassId} {dI : Nat → Nat → Nat} {k : Nat → ClassId} {g : Nat → Nat} {A : Nat → Prop} {J : Nat → List qV → List qV → qW → Prop} {Q : qR} (X : q_X p R s m args meth c cX12_ledgerLine 3 nW 4 91 RX12 (some .boolean) dC dI k g A) (hJ : ∀ d : Nat, q_Sd p l e R s m args below meth c 3 nW dC dI k g A (MQ below (q_post (dC, dI) k g nW Q A) args s 0 0 A) d (x_cut (is_X12_ledgerLine d) (J d))) : q_Sd p l e R s m args below meth c 3 nW dC dI k g A (MQ below (q_post (dC, dI) k g nW Q A) args s 0 0 A) 83 (b_X12_ledgerLine_83 J Q) := by
  unfold b_X12_ledgerLine_83
  refine s_iconst X ⟨by decide, by decide⟩ dX12_ledgerLine_83 ?_
  exact s_zret X dX12_ledgerLine_84
set_option maxRecDepth 100000 in
def b_X12_ledgerLine_61 (J : Nat → List qV → List qV → qW → Prop) (Q : qR) : qK := x_aload 0 (x_int 0 (x_int 0 (x_int 7 (x_call (some 12) 4 sp_X12_take (x_nw (x_if_eq (b_X12_ledgerLine_83 J Q) (x_aload 0 (x_int 1 (x_int 0 (x_int 99 (x_call (some 12) 4 sp_X12_take (x_nw (x_if_ne (x_aload 0 (x_get 12 23 (x_if_eq (b_X12_ledgerLine_109 J Q) (x_aload 0 (x_get 12 19 (x_aload 0 (x_get 12 20 (x_int 0 (x_iald (x_aload 0 (x_get 12 20 (x_int 1 (x_iald (x_iast (x_nw (b_X12_ledgerLine_109 J Q)))))))))))))))) (b_X12_ledgerLine_83 J Q))))))))))))))
set_option maxRecDepth 100000 in
theorem s_X12_ledgerLine_61 {p : Program} {l : Launch} {e : Env} {R : Room} {s : State} {m : MethodId} {args : Array Value} {below : List Frame} {meth : Method} {c : Code} {nW : Nat} {dC : Nat → ClassId} {dI : Nat → Nat → Nat} {k : Nat → ClassId} {g : Nat → Nat} {A : Nat → Prop} {J : Nat → List qV → List qV → qW → Prop} {Q : qR} (X : q_X p R s m args meth c cX12_ledgerLine 3 nW 4 91 RX12 (some .boolean) dC dI k g A) (hJ : ∀ d : Nat, q_Sd p l e R s m args below meth c 3 nW dC dI k g A (MQ below (q_post (dC, dI) k g nW Q A) args s 0 0 A) d (x_cut (is_X12_ledgerLine d) (J d))) : q_Sd p l e R s m args below meth c 3 nW dC dI k g A (MQ below (q_post (dC, dI) k g nW Q A) args s 0 0 A) 61 (b_X12_ledgerLine_61 J Q) := by
  unfold b_X12_ledgerLine_61
  refine s_aload_n X rfl dX12_ledgerLine_61 ?_
  refine s_iconst X ⟨by decide, by decide⟩ dX12_ledgerLine_62 ?_
  refine s_iconst X ⟨by decide, by decide⟩ dX12_ledgerLine_63 ?_
  refine s_bipush X ⟨by decide, by decide⟩ (by decide) dX12_ledgerLine_64 ?_
  refine s_callV X (m_X12_take l) tw_1097 tw_1098 tw_1621 tw_134 tw_1099 rfl (by decide +kernel) ⟨by decide, by decide⟩ dX12_ledgerLine_66 ?_
  refine s_nw ?_
  refine s_if_eq X (tgt := 83) dX12_ledgerLine_69 (by decide) ?_ ?_
  · exact s_X12_ledgerLine_83 X hJ
  · refine s_aload_n X rfl dX12_ledgerLine_72 ?_
    refine s_iconst X ⟨by decide, by decide⟩ dX12_ledgerLine_73 ?_
    refine s_iconst X ⟨by decide, by decide⟩ dX12_ledgerLine_74 ?_
    refine s_bipush X ⟨by decide, by decide⟩ (by decide) dX12_ledgerLine_75 ?_
    refine s_callV X (m_X12_take l) tw_1097 tw_1098 tw_1621 tw_134 tw_1099 rfl (by decide +kernel) ⟨by decide, by decide⟩ dX12_ledgerLine_77 ?_
    refine s_nw ?_
    refine s_if_ne X (tgt := 85) dX12_ledgerLine_80 (by decide) ?_ ?_
    · refine s_aload_n X rfl dX12_ledgerLine_85 ?_
      refine s_get X (T := TX12) (C := RX12) (N := 45) tu_X12 rfl (by decide) tw_1020 dX12_ledgerLine_86 ?_
      refine s_if_eq X (tgt := 109) dX12_ledgerLine_89 (by decide) ?_ ?_
      · exact s_X12_ledgerLine_109 X hJ
      · refine s_aload_n X rfl dX12_ledgerLine_92 ?_
        refine s_get X (T := TX12) (C := RX12) (N := 45) tu_X12 rfl (by decide) tw_1016 dX12_ledgerLine_93 ?_
        refine s_aload_n X rfl dX12_ledgerLine_96 ?_
        refine s_get X (T := TX12) (C := RX12) (N := 45) tu_X12 rfl (by decide) tw_1017 dX12_ledgerLine_97 ?_
        refine s_iconst X ⟨by decide, by decide⟩ dX12_ledgerLine_100 ?_
        refine s_iald X dX12_ledgerLine_101 ?_
        refine s_aload_n X rfl dX12_ledgerLine_102 ?_
        refine s_get X (T := TX12) (C := RX12) (N := 45) tu_X12 rfl (by decide) tw_1017 dX12_ledgerLine_103 ?_
        refine s_iconst X ⟨by decide, by decide⟩ dX12_ledgerLine_106 ?_
        refine s_iald X dX12_ledgerLine_107 ?_
        refine s_iast X dX12_ledgerLine_108 ?_
        refine s_nw ?_
        exact s_X12_ledgerLine_109 X hJ
    · exact s_X12_ledgerLine_83 X hJ
set_option maxRecDepth 100000 in
def b_X12_ledgerLine_21 (J : Nat → List qV → List qV → qW → Prop) (Q : qR) : qK := x_aload 0 (x_call (some 12) 1 sp_X12_token (x_nw (x_lload 1 (x_lng 1870095716 (x_lcmp (x_if_ne (b_X12_ledgerLine_61 J Q) (x_aload 0 (x_int 0 (x_int 0 (x_int 99 (x_call (some 12) 4 sp_X12_take (x_nw (x_if_ne (x_aload 0 (x_get 12 19 (x_int 8 (x_aload 0 (x_get 12 20 (x_int 0 (x_iald (x_iast (x_nw (x_int 1 (x_zret Q))))))))))) (x_int 0 (x_zret Q)))))))))))))))
set_option maxRecDepth 100000 in
theorem s_X12_ledgerLine_21 {p : Program} {l : Launch} {e : Env} {R : Room} {s : State} {m : MethodId} {args : Array Value} {below : List Frame} {meth : Method} {c : Code} {nW : Nat} {dC : Nat → ClassId} {dI : Nat → Nat → Nat} {k : Nat → ClassId} {g : Nat → Nat} {A : Nat → Prop} {J : Nat → List qV → List qV → qW → Prop} {Q : qR} (X : q_X p R s m args meth c cX12_ledgerLine 3 nW 4 91 RX12 (some .boolean) dC dI k g A) (hJ : ∀ d : Nat, q_Sd p l e R s m args below meth c 3 nW dC dI k g A (MQ below (q_post (dC, dI) k g nW Q A) args s 0 0 A) d (x_cut (is_X12_ledgerLine d) (J d))) : q_Sd p l e R s m args below meth c 3 nW dC dI k g A (MQ below (q_post (dC, dI) k g nW Q A) args s 0 0 A) 21 (b_X12_ledgerLine_21 J Q) := by
  unfold b_X12_ledgerLine_21
  refine s_aload_n X rfl dX12_ledgerLine_21 ?_
  refine s_callV X (m_X12_token l) tw_1070 tw_1071 tw_1627 tw_134 tw_1072 rfl (by decide +kernel) ⟨by decide, by decide⟩ dX12_ledgerLine_22 ?_
  refine s_nw ?_
  refine s_lload_n X rfl dX12_ledgerLine_25 ?_
  refine s_ldc2 X ⟨by decide, by decide⟩ tw_1161 dX12_ledgerLine_26 ?_
  refine s_lcmp X dX12_ledgerLine_29 ?_
  refine s_if_ne X (tgt := 61) dX12_ledgerLine_30 (by decide) ?_ ?_
  · exact s_X12_ledgerLine_61 X hJ
  · refine s_aload_n X rfl dX12_ledgerLine_33 ?_
    refine s_iconst X ⟨by decide, by decide⟩ dX12_ledgerLine_34 ?_
    refine s_iconst X ⟨by decide, by decide⟩ dX12_ledgerLine_35 ?_
    refine s_bipush X ⟨by decide, by decide⟩ (by decide) dX12_ledgerLine_36 ?_
    refine s_callV X (m_X12_take l) tw_1097 tw_1098 tw_1621 tw_134 tw_1099 rfl (by decide +kernel) ⟨by decide, by decide⟩ dX12_ledgerLine_38 ?_
    refine s_nw ?_
    refine s_if_ne X (tgt := 46) dX12_ledgerLine_41 (by decide) ?_ ?_
    · refine s_aload_n X rfl dX12_ledgerLine_46 ?_
      refine s_get X (T := TX12) (C := RX12) (N := 45) tu_X12 rfl (by decide) tw_1016 dX12_ledgerLine_47 ?_
      refine s_bipush X ⟨by decide, by decide⟩ (by decide) dX12_ledgerLine_50 ?_
      refine s_aload_n X rfl dX12_ledgerLine_52 ?_
      refine s_get X (T := TX12) (C := RX12) (N := 45) tu_X12 rfl (by decide) tw_1017 dX12_ledgerLine_53 ?_
      refine s_iconst X ⟨by decide, by decide⟩ dX12_ledgerLine_56 ?_
      refine s_iald X dX12_ledgerLine_57 ?_
      refine s_iast X dX12_ledgerLine_58 ?_
      refine s_nw ?_
      refine s_iconst X ⟨by decide, by decide⟩ dX12_ledgerLine_59 ?_
      exact s_zret X dX12_ledgerLine_60
    · refine s_iconst X ⟨by decide, by decide⟩ dX12_ledgerLine_44 ?_
      exact s_zret X dX12_ledgerLine_45
set_option maxRecDepth 100000 in
def b_X12_ledgerLine_0 (J : Nat → List qV → List qV → qW → Prop) (Q : qR) : qK := x_lload 1 (x_lng 6778740 (x_lcmp (x_if_eq (x_cut [0, 1] (J 21)) (x_lload 1 (x_lng 1870095716 (x_lcmp (x_if_eq (x_cut [0, 1] (J 21)) (x_aload 0 (x_call (some 12) 1 sp_X12_fails (x_nw (x_zret Q)))))))))))
set_option maxRecDepth 100000 in
theorem s_X12_ledgerLine_0 {p : Program} {l : Launch} {e : Env} {R : Room} {s : State} {m : MethodId} {args : Array Value} {below : List Frame} {meth : Method} {c : Code} {nW : Nat} {dC : Nat → ClassId} {dI : Nat → Nat → Nat} {k : Nat → ClassId} {g : Nat → Nat} {A : Nat → Prop} {J : Nat → List qV → List qV → qW → Prop} {Q : qR} (X : q_X p R s m args meth c cX12_ledgerLine 3 nW 4 91 RX12 (some .boolean) dC dI k g A) (hJ : ∀ d : Nat, q_Sd p l e R s m args below meth c 3 nW dC dI k g A (MQ below (q_post (dC, dI) k g nW Q A) args s 0 0 A) d (x_cut (is_X12_ledgerLine d) (J d))) : q_Sd p l e R s m args below meth c 3 nW dC dI k g A (MQ below (q_post (dC, dI) k g nW Q A) args s 0 0 A) 0 (b_X12_ledgerLine_0 J Q) := by
  unfold b_X12_ledgerLine_0
  refine s_lload_n X rfl dX12_ledgerLine_0 ?_
  refine s_ldc2 X ⟨by decide, by decide⟩ tw_1160 dX12_ledgerLine_1 ?_
  refine s_lcmp X dX12_ledgerLine_4 ?_
  refine s_if_eq X (tgt := 21) dX12_ledgerLine_5 (by decide) ?_ ?_
  · exact hJ 21
  · refine s_lload_n X rfl dX12_ledgerLine_8 ?_
    refine s_ldc2 X ⟨by decide, by decide⟩ tw_1161 dX12_ledgerLine_9 ?_
    refine s_lcmp X dX12_ledgerLine_12 ?_
    refine s_if_eq X (tgt := 21) dX12_ledgerLine_13 (by decide) ?_ ?_
    · exact hJ 21
    · refine s_aload_n X rfl dX12_ledgerLine_16 ?_
      refine s_callV X (m_X12_fails l) tw_1103 tw_1104 tw_1568 tw_134 tw_1105 rfl (by decide +kernel) ⟨by decide, by decide⟩ dX12_ledgerLine_17 ?_
      refine s_nw ?_
      exact s_zret X dX12_ledgerLine_20

def sp_X12_ledgerLine : qS := fun av w Q => ∃ (mco : Int) (mre : Int) (mle : Int) (mbe : Int) (mso : Int) (mva : Int) (mwo : Int) (mwr : Int) (mlf : Int) (mlp : Int) (mfp : Int) (mfd : Int) (mgo : Int) (mbo : Int) (mpe : Int) (mye : Int) (mpr : Int) (mld : Int) (msi : Int) (mse : Int) (tp : Nat → Int) (re : Nat → Int) (td : Nat → Int) (ww : Int), av = [q2 0, q3 ww] ∧ w = [.inr (12, [q1 mco, q2 1, q2 4, q2 5, q2 6, q2 7, q2 8, q2 9, q2 10, q2 11, q1 mre, q1 mle, q1 mbe, q1 mso, q1 mva, q3 mwo, q1 mwr, q1 mlf, q1 mlp, q2 3, q2 2, q1 mfp, q1 mfd, q1 mgo, q1 mbo, q1 mpe, q1 mye, q2 12, q1 mpr, q2 13, q2 14, q2 15, q2 16, q1 mld, q2 17, q1 msi, q2 18, q2 19, q2 20, q2 21, q2 22, q1 mse, q2 23, q2 24, q2 25]), .inl (1, 2400, .inl tp), .inl (0, 4, .inl re), .inl (0, 161, .inl td)] ∧ (0 ≤ mre ∧ mre ≤ mle ∧ mle ≤ 600) ∧ (∀ (r : Int) (x_mre : Int) (x_mbe : Int) (x_mso : Int) (x_mva : Int) (x_mwo : Int) (x_mwr : Int) (x_mlf : Int) (x_mlp : Int) (x_mgo : Int) (x_re : Nat → Int) (x_td : Nat → Int), ((r = 0 ∨ r = 1 ∧ (x_mso = 0 ∨ mre < x_mre)) ∧ mre ≤ x_mre ∧ x_mre ≤ mle) → Q (some (q1 r)) ([.inr (12, [q1 mco, q2 1, q2 4, q2 5, q2 6, q2 7, q2 8, q2 9, q2 10, q2 11, q1 x_mre, q1 mle, q1 x_mbe, q1 x_mso, q1 x_mva, q3 x_mwo, q1 x_mwr, q1 x_mlf, q1 x_mlp, q2 3, q2 2, q1 mfp, q1 mfd, q1 x_mgo, q1 mbo, q1 mpe, q1 mye, q2 12, q1 mpr, q2 13, q2 14, q2 15, q2 16, q1 mld, q2 17, q1 msi, q2 18, q2 19, q2 20, q2 21, q2 22, q1 mse, q2 23, q2 24, q2 25]), .inl (1, 2400, .inl tp), .inl (0, 4, .inl x_re), .inl (0, 161, .inl x_td)]))
def I_X12_ledgerLine (mco : Int) (mre : Int) (mle : Int) (mbe : Int) (mso : Int) (mva : Int) (mwo : Int) (mwr : Int) (mlf : Int) (mlp : Int) (mfp : Int) (mfd : Int) (mgo : Int) (mbo : Int) (mpe : Int) (mye : Int) (mpr : Int) (mld : Int) (msi : Int) (mse : Int) (tp : Nat → Int) (re : Nat → Int) (td : Nat → Int) (ww : Int) : Nat → Nat → List qV → List qV → qW → Prop := fun dz mz vz sz wz => if dz = 21 then (∃ (u9 : Unit), vz = [q2 0, q3 ww] ∧ sz = [] ∧ wz = [.inr (12, [q1 mco, q2 1, q2 4, q2 5, q2 6, q2 7, q2 8, q2 9, q2 10, q2 11, q1 mre, q1 mle, q1 mbe, q1 mso, q1 mva, q3 mwo, q1 mwr, q1 mlf, q1 mlp, q2 3, q2 2, q1 mfp, q1 mfd, q1 mgo, q1 mbo, q1 mpe, q1 mye, q2 12, q1 mpr, q2 13, q2 14, q2 15, q2 16, q1 mld, q2 17, q1 msi, q2 18, q2 19, q2 20, q2 21, q2 22, q1 mse, q2 23, q2 24, q2 25]), .inl (1, 2400, .inl tp), .inl (0, 4, .inl re), .inl (0, 161, .inl td)] ∧ mz = 0) else False
set_option maxHeartbeats 4000000 in
set_option maxRecDepth 100000 in
theorem m_X12_ledgerLine (l : Launch) : q_M l yX12_ledgerLine cX12_ledgerLine 3 (some .boolean) 4 91 sp_X12_ledgerLine := by
  refine q_meth (by decide) (fun av w Q h => by obtain ⟨mco, mre, mle, mbe, mso, mva, mwo, mwr, mlf, mlp, mfp, mfd, mgo, mbo, mpe, mye, mpr, mld, msi, mse, tp, re, td, ww, rfl, rfl, htp, hQ⟩ := h; exact Nat.le_of_ble_eq_true rfl) ?_
  intro p e R s m args below meth c dC dI k g A av w Q hsp oka okw X
  obtain ⟨mco, mre, mle, mbe, mso, mva, mwo, mwr, mlf, mlp, mfp, mfd, mgo, mbo, mpe, mye, mpr, mld, msi, mse, tp, re, td, ww, rfl, rfl, htp, hQ⟩ := hsp
  refine s_mono (s_X12_ledgerLine_0 X (J := fun dz vz sz wz => ∃ mz, I_X12_ledgerLine mco mre mle mbe mso mva mwo mwr mlf mlp mfp mfd mgo mbo mpe mye mpr mld msi mse tp re td ww dz mz vz sz wz) (q_loopn (I_X12_ledgerLine mco mre mle mbe mso mva mwo mwr mlf mlp mfp mfd mgo mbo mpe mye mpr mld msi mse tp re td ww) (fun dz J => if dz = 21 then b_X12_ledgerLine_21 J Q else q_F) ?hs ?hv)) ?_
  case hs =>
    intro d J hJ
    by_cases h21 : d = 21
    · subst h21; exact s_X12_ledgerLine_21 X hJ
    simp only [h21, if_false]
    exact s_F
  case hv =>
    intro dz mz vz sz wz hI okv oks okw hlen
    by_cases h21 : dz = 21
    · subst h21
      obtain ⟨_, rfl, rfl, rfl, hn⟩ := hI
      refine Exists.intro [0, 1, 4, 5, 6, 7, 8, 9, 10, 11, 3, 2, 12, 13, 14, 15, 16, 17, 18, 19, 20, 21, 22, 23, 24, 25] (Exists.intro [q2 0] (Exists.intro ([.inr (12, [q1 _, q2 1, q2 2, q2 3, q2 4, q2 5, q2 6, q2 7, q2 8, q2 9, q1 _, q1 _, q1 _, q1 _, q1 _, q3 _, q1 _, q1 _, q1 _, q2 10, q2 11, q1 _, q1 _, q1 _, q1 _, q1 _, q1 _, q2 12, q1 _, q2 13, q2 14, q2 15, q2 16, q1 _, q2 17, q1 _, q2 18, q2 19, q2 20, q2 21, q2 22, q1 _, q2 23, q2 24, q2 25]), .inl (1, 2400, .inl _)]) (And.intro rfl (And.intro rfl (And.intro rfl (And.intro ⟨⟨_, rfl⟩, rfl⟩ ?_))))))
      refine Exists.intro _ (Exists.intro _ (Exists.intro _ (Exists.intro _ (Exists.intro _ (Exists.intro _ (Exists.intro _ (Exists.intro _ (Exists.intro _ (Exists.intro _ (Exists.intro _ (Exists.intro _ (Exists.intro _ (Exists.intro _ (Exists.intro _ (Exists.intro _ (Exists.intro _ (Exists.intro _ (Exists.intro _ (Exists.intro _ (Exists.intro _ (And.intro rfl (And.intro rfl (And.intro (by first | omega | assumption | exact q_rg_up (by assumption) (by omega) | exact q_rg_up (q_rg_up (by assumption) (by omega)) (by omega) | exact q_rg_cpy (by assumption) (by assumption)) (?_))))))))))))))))))))))))
      intro x_mre_22 x_mbe_22 x_mso_22 x_mva_22 x_mwo_22 h22
      intro z29 h29
      replace h29 := e_cmp h29
      apply And.intro
      · intro h30
        refine Exists.intro [0, 1, 2, 4, 5, 6, 7, 8, 9, 10, 11, 3, 12, 13, 14, 15, 16, 17, 18, 19, 20, 21, 22, 23, 24, 25] (Exists.intro [q2 0, q1 _, q1 _, q1 _] (Exists.intro ([.inr (12, [q1 _, q2 1, q2 3, q2 4, q2 5, q2 6, q2 7, q2 8, q2 9, q2 10, q1 _, q1 _, q1 _, q1 _, q1 _, q3 _, q1 _, q1 _, q1 _, q2 11, q2 2, q1 _, q1 _, q1 _, q1 _, q1 _, q1 _, q2 12, q1 _, q2 13, q2 14, q2 15, q2 16, q1 _, q2 17, q1 _, q2 18, q2 19, q2 20, q2 21, q2 22, q1 _, q2 23, q2 24, q2 25]), .inl (1, 2400, .inl _), .inl (0, 4, .inl _)]) (And.intro rfl (And.intro rfl (And.intro rfl (And.intro ⟨⟨_, rfl⟩, rfl⟩ ?_))))))
        refine Exists.intro _ (Exists.intro _ (Exists.intro _ (Exists.intro _ (Exists.intro _ (Exists.intro _ (Exists.intro _ (Exists.intro _ (Exists.intro _ (Exists.intro _ (Exists.intro _ (Exists.intro _ (Exists.intro _ (Exists.intro _ (Exists.intro _ (Exists.intro _ (Exists.intro _ (Exists.intro _ (Exists.intro _ (Exists.intro _ (Exists.intro _ (Exists.intro _ (Exists.intro _ (Exists.intro _ (Exists.intro _ (And.intro rfl (And.intro rfl (And.intro (by first | omega | assumption | exact q_rg_up (by assumption) (by omega) | exact q_rg_up (q_rg_up (by assumption) (by omega)) (by omega) | exact q_rg_cpy (by assumption) (by assumption)) (And.intro (by first | omega | assumption | exact q_rg_up (by assumption) (by omega) | exact q_rg_up (q_rg_up (by assumption) (by omega)) (by omega) | exact q_rg_cpy (by assumption) (by assumption)) (?_)))))))))))))))))))))))))))))
        intro z66 x_mre_66 x_mbe_66 x_mso_66 x_mva_66 x_mwo_66 x_mwr_66 x_mlf_66 x_mlp_66 x_mgo_66 x_re_66 h66
        apply And.intro
        · intro h69
          apply And.intro
          · first | exact Or.inl rfl | exact Or.inr rfl | omega
          exact hQ _ _ _ _ _ _ _ _ _ _ _ _ (by first | omega | assumption | exact q_rg_up (by assumption) (by omega) | exact q_rg_up (q_rg_up (by assumption) (by omega)) (by omega) | exact q_rg_cpy (by assumption) (by assumption))
        · intro h69
          refine Exists.intro [0, 1, 2, 4, 5, 6, 7, 8, 9, 10, 11, 3, 12, 13, 14, 15, 16, 17, 18, 19, 20, 21, 22, 23, 24, 25] (Exists.intro [q2 0, q1 _, q1 _, q1 _] (Exists.intro ([.inr (12, [q1 _, q2 1, q2 3, q2 4, q2 5, q2 6, q2 7, q2 8, q2 9, q2 10, q1 _, q1 _, q1 _, q1 _, q1 _, q3 _, q1 _, q1 _, q1 _, q2 11, q2 2, q1 _, q1 _, q1 _, q1 _, q1 _, q1 _, q2 12, q1 _, q2 13, q2 14, q2 15, q2 16, q1 _, q2 17, q1 _, q2 18, q2 19, q2 20, q2 21, q2 22, q1 _, q2 23, q2 24, q2 25]), .inl (1, 2400, .inl _), .inl (0, 4, .inl _)]) (And.intro rfl (And.intro rfl (And.intro rfl (And.intro ⟨⟨_, rfl⟩, rfl⟩ ?_))))))
          refine Exists.intro _ (Exists.intro _ (Exists.intro _ (Exists.intro _ (Exists.intro _ (Exists.intro _ (Exists.intro _ (Exists.intro _ (Exists.intro _ (Exists.intro _ (Exists.intro _ (Exists.intro _ (Exists.intro _ (Exists.intro _ (Exists.intro _ (Exists.intro _ (Exists.intro _ (Exists.intro _ (Exists.intro _ (Exists.intro _ (Exists.intro _ (Exists.intro _ (Exists.intro _ (Exists.intro _ (Exists.intro _ (And.intro rfl (And.intro rfl (And.intro (by first | omega | assumption | exact q_rg_up (by assumption) (by omega) | exact q_rg_up (q_rg_up (by assumption) (by omega)) (by omega) | exact q_rg_cpy (by assumption) (by assumption)) (And.intro (by first | omega | assumption | exact q_rg_up (by assumption) (by omega) | exact q_rg_up (q_rg_up (by assumption) (by omega)) (by omega) | exact q_rg_cpy (by assumption) (by assumption)) (?_)))))))))))))))))))))))))))))
          intro z77 x_mre_77 x_mbe_77 x_mso_77 x_mva_77 x_mwo_77 x_mwr_77 x_mlf_77 x_mlp_77 x_mgo_77 x_re_77 h77
          apply And.intro
          · intro h80
            apply And.intro
            · intro h89
              apply And.intro
              · first | exact Or.inl rfl | exact Or.inr rfl | omega
              exact hQ _ _ _ _ _ _ _ _ _ _ _ _ (by first | omega | assumption | exact q_rg_up (by assumption) (by omega) | exact q_rg_up (q_rg_up (by assumption) (by omega)) (by omega) | exact q_rg_cpy (by assumption) (by assumption))
            · intro h89
              have g1 := h77.2.2.2.2 (by omega) h89
              have g2 := h66.2.2.2.2 (by omega) g1.1
              have g3 := h77.2.2.2.1 0 (by omega) (by omega)
              apply And.intro
              · exact ⟨by omega, by omega⟩
              intro z101 h101
              apply And.intro
              · exact ⟨by omega, by omega⟩
              intro z107 h107
              apply And.intro
              · exact ⟨by omega, by omega⟩
              apply And.intro
              · first | exact Or.inl rfl | exact Or.inr rfl | omega
              exact hQ _ _ _ _ _ _ _ _ _ _ _ _ (by first | omega | assumption | exact q_rg_up (by assumption) (by omega) | exact q_rg_up (q_rg_up (by assumption) (by omega)) (by omega) | exact q_rg_cpy (by assumption) (by assumption))
          · intro h80
            apply And.intro
            · first | exact Or.inl rfl | exact Or.inr rfl | omega
            exact hQ _ _ _ _ _ _ _ _ _ _ _ _ (by first | omega | assumption | exact q_rg_up (by assumption) (by omega) | exact q_rg_up (q_rg_up (by assumption) (by omega)) (by omega) | exact q_rg_cpy (by assumption) (by assumption))
      · intro h30
        refine Exists.intro [0, 1, 2, 4, 5, 6, 7, 8, 9, 10, 11, 3, 12, 13, 14, 15, 16, 17, 18, 19, 20, 21, 22, 23, 24, 25] (Exists.intro [q2 0, q1 _, q1 _, q1 _] (Exists.intro ([.inr (12, [q1 _, q2 1, q2 3, q2 4, q2 5, q2 6, q2 7, q2 8, q2 9, q2 10, q1 _, q1 _, q1 _, q1 _, q1 _, q3 _, q1 _, q1 _, q1 _, q2 11, q2 2, q1 _, q1 _, q1 _, q1 _, q1 _, q1 _, q2 12, q1 _, q2 13, q2 14, q2 15, q2 16, q1 _, q2 17, q1 _, q2 18, q2 19, q2 20, q2 21, q2 22, q1 _, q2 23, q2 24, q2 25]), .inl (1, 2400, .inl _), .inl (0, 4, .inl _)]) (And.intro rfl (And.intro rfl (And.intro rfl (And.intro ⟨⟨_, rfl⟩, rfl⟩ ?_))))))
        refine Exists.intro _ (Exists.intro _ (Exists.intro _ (Exists.intro _ (Exists.intro _ (Exists.intro _ (Exists.intro _ (Exists.intro _ (Exists.intro _ (Exists.intro _ (Exists.intro _ (Exists.intro _ (Exists.intro _ (Exists.intro _ (Exists.intro _ (Exists.intro _ (Exists.intro _ (Exists.intro _ (Exists.intro _ (Exists.intro _ (Exists.intro _ (Exists.intro _ (Exists.intro _ (Exists.intro _ (Exists.intro _ (And.intro rfl (And.intro rfl (And.intro (by first | omega | assumption | exact q_rg_up (by assumption) (by omega) | exact q_rg_up (q_rg_up (by assumption) (by omega)) (by omega) | exact q_rg_cpy (by assumption) (by assumption)) (And.intro (by first | omega | assumption | exact q_rg_up (by assumption) (by omega) | exact q_rg_up (q_rg_up (by assumption) (by omega)) (by omega) | exact q_rg_cpy (by assumption) (by assumption)) (?_)))))))))))))))))))))))))))))
        intro z38 x_mre_38 x_mbe_38 x_mso_38 x_mva_38 x_mwo_38 x_mwr_38 x_mlf_38 x_mlp_38 x_mgo_38 x_re_38 h38
        apply And.intro
        · intro h41
          apply And.intro
          · exact ⟨by omega, by omega⟩
          intro z57 h57
          apply And.intro
          · exact ⟨by omega, by omega⟩
          apply And.intro
          · first | exact Or.inl rfl | exact Or.inr rfl | omega
          exact hQ _ _ _ _ _ _ _ _ _ _ _ _ (by first | omega | assumption | exact q_rg_up (by assumption) (by omega) | exact q_rg_up (q_rg_up (by assumption) (by omega)) (by omega) | exact q_rg_cpy (by assumption) (by assumption))
        · intro h41
          apply And.intro
          · first | exact Or.inl rfl | exact Or.inr rfl | omega
          exact hQ _ _ _ _ _ _ _ _ _ _ _ _ (by first | omega | assumption | exact q_rg_up (by assumption) (by omega) | exact q_rg_up (q_rg_up (by assumption) (by omega)) (by omega) | exact q_rg_cpy (by assumption) (by assumption))
    simp only [I_X12_ledgerLine, h21, if_false] at hI
  rintro lv st w' ⟨rfl, rfl, rfl⟩
  intro z4 h4
  replace h4 := e_cmp h4
  apply And.intro
  · intro h5
    exact ⟨_, (), rfl, rfl, rfl, rfl⟩
  · intro h5
    intro z12 h12
    replace h12 := e_cmp h12
    apply And.intro
    · intro h13
      exact ⟨_, (), rfl, rfl, rfl, rfl⟩
    · intro h13
      refine Exists.intro [0, 1, 4, 5, 6, 7, 8, 9, 10, 11, 3, 2, 12, 13, 14, 15, 16, 17, 18, 19, 20, 21, 22, 23, 24, 25] (Exists.intro [q2 0] (Exists.intro ([.inr (12, [q1 _, q2 1, q2 2, q2 3, q2 4, q2 5, q2 6, q2 7, q2 8, q2 9, q1 _, q1 _, q1 _, q1 _, q1 _, q3 _, q1 _, q1 _, q1 _, q2 10, q2 11, q1 _, q1 _, q1 _, q1 _, q1 _, q1 _, q2 12, q1 _, q2 13, q2 14, q2 15, q2 16, q1 _, q2 17, q1 _, q2 18, q2 19, q2 20, q2 21, q2 22, q1 _, q2 23, q2 24, q2 25])]) (And.intro rfl (And.intro rfl (And.intro rfl (And.intro ⟨⟨_, rfl⟩, rfl⟩ ?_))))))
      refine Exists.intro _ (Exists.intro _ (Exists.intro _ (Exists.intro _ (Exists.intro _ (Exists.intro _ (Exists.intro _ (Exists.intro _ (Exists.intro _ (Exists.intro _ (Exists.intro _ (Exists.intro _ (Exists.intro _ (Exists.intro _ (Exists.intro _ (Exists.intro _ (Exists.intro _ (Exists.intro _ (Exists.intro _ (Exists.intro _ (And.intro rfl (And.intro rfl (?_))))))))))))))))))))))
      intro z17 x_mwr_17 h17
      apply And.intro
      · first | exact Or.inl rfl | exact Or.inr rfl | omega
      exact hQ _ _ _ _ _ _ _ _ _ _ _ _ (by first | omega | assumption | exact q_rg_up (by assumption) (by omega) | exact q_rg_up (q_rg_up (by assumption) (by omega)) (by omega) | exact q_rg_cpy (by assumption) (by assumption))

theorem dX12_sightLine_0 : decode cX12_sightLine 0 = .ok (.lload_n 1, 1) := by decide +kernel
theorem dX12_sightLine_1 : decode cX12_sightLine 1 = .ok (.ldc2_w 251, 3) := by decide +kernel
theorem dX12_sightLine_4 : decode cX12_sightLine 4 = .ok (.lcmp, 1) := by decide +kernel
theorem dX12_sightLine_5 : decode cX12_sightLine 5 = .ok (.ifCond .eq 8, 3) := by decide +kernel
theorem dX12_sightLine_8 : decode cX12_sightLine 8 = .ok (.aload_n 0, 1) := by decide +kernel
theorem dX12_sightLine_9 : decode cX12_sightLine 9 = .ok (.invokevirtual 140, 3) := by decide +kernel
theorem dX12_sightLine_12 : decode cX12_sightLine 12 = .ok (.ireturn, 1) := by decide +kernel
theorem dX12_sightLine_13 : decode cX12_sightLine 13 = .ok (.aload_n 0, 1) := by decide +kernel
theorem dX12_sightLine_14 : decode cX12_sightLine 14 = .ok (.iconst 0, 1) := by decide +kernel
theorem dX12_sightLine_15 : decode cX12_sightLine 15 = .ok (.bipush 10, 2) := by decide +kernel
theorem dX12_sightLine_17 : decode cX12_sightLine 17 = .ok (.iload_n 3, 1) := by decide +kernel
theorem dX12_sightLine_18 : decode cX12_sightLine 18 = .ok (.invokevirtual 193, 3) := by decide +kernel
theorem dX12_sightLine_21 : decode cX12_sightLine 21 = .ok (.aload_n 0, 1) := by decide +kernel
theorem dX12_sightLine_22 : decode cX12_sightLine 22 = .ok (.invokevirtual 152, 3) := by decide +kernel
theorem dX12_sightLine_25 : decode cX12_sightLine 25 = .ok (.aload_n 0, 1) := by decide +kernel
theorem dX12_sightLine_26 : decode cX12_sightLine 26 = .ok (.iconst 0, 1) := by decide +kernel
theorem dX12_sightLine_27 : decode cX12_sightLine 27 = .ok (.iconst 0, 1) := by decide +kernel
theorem dX12_sightLine_28 : decode cX12_sightLine 28 = .ok (.bipush 7, 2) := by decide +kernel
theorem dX12_sightLine_30 : decode cX12_sightLine 30 = .ok (.invokevirtual 174, 3) := by decide +kernel
theorem dX12_sightLine_33 : decode cX12_sightLine 33 = .ok (.ifCond .eq 14, 3) := by decide +kernel
theorem dX12_sightLine_36 : decode cX12_sightLine 36 = .ok (.aload_n 0, 1) := by decide +kernel
theorem dX12_sightLine_37 : decode cX12_sightLine 37 = .ok (.iconst 1, 1) := by decide +kernel
theorem dX12_sightLine_38 : decode cX12_sightLine 38 = .ok (.iconst 1, 1) := by decide +kernel
theorem dX12_sightLine_39 : decode cX12_sightLine 39 = .ok (.bipush 99, 2) := by decide +kernel
theorem dX12_sightLine_41 : decode cX12_sightLine 41 = .ok (.invokevirtual 174, 3) := by decide +kernel
theorem dX12_sightLine_44 : decode cX12_sightLine 44 = .ok (.ifCond .ne 5, 3) := by decide +kernel
theorem dX12_sightLine_47 : decode cX12_sightLine 47 = .ok (.iconst 0, 1) := by decide +kernel
theorem dX12_sightLine_48 : decode cX12_sightLine 48 = .ok (.ireturn, 1) := by decide +kernel
theorem dX12_sightLine_49 : decode cX12_sightLine 49 = .ok (.aload_n 0, 1) := by decide +kernel
theorem dX12_sightLine_50 : decode cX12_sightLine 50 = .ok (.iconst 2, 1) := by decide +kernel
theorem dX12_sightLine_51 : decode cX12_sightLine 51 = .ok (.bipush 10, 2) := by decide +kernel
theorem dX12_sightLine_53 : decode cX12_sightLine 53 = .ok (.invokevirtual 244, 3) := by decide +kernel
theorem dX12_sightLine_56 : decode cX12_sightLine 56 = .ok (.iconst 1, 1) := by decide +kernel
theorem dX12_sightLine_57 : decode cX12_sightLine 57 = .ok (.ireturn, 1) := by decide +kernel
def is_X12_sightLine : Nat → List Nat := fun d => []
set_option maxRecDepth 100000 in
def b_X12_sightLine_47 (J : Nat → List qV → List qV → qW → Prop) (Q : qR) : qK := x_int 0 (x_zret Q)
set_option maxRecDepth 100000 in
theorem s_X12_sightLine_47 {p : Program} {l : Launch} {e : Env} {R : Room} {s : State} {m : MethodId} {args : Array Value} {below : List Frame} {meth : Method} {c : Code} {nW : Nat} {dC : Nat → ClassId} {dI : Nat → Nat → Nat} {k : Nat → ClassId} {g : Nat → Nat} {A : Nat → Prop} {J : Nat → List qV → List qV → qW → Prop} {Q : qR} (X : q_X p R s m args meth c cX12_sightLine 4 nW 4 91 RX12 (some .boolean) dC dI k g A) (hJ : ∀ d : Nat, q_Sd p l e R s m args below meth c 4 nW dC dI k g A (MQ below (q_post (dC, dI) k g nW Q A) args s 0 0 A) d (x_cut (is_X12_sightLine d) (J d))) : q_Sd p l e R s m args below meth c 4 nW dC dI k g A (MQ below (q_post (dC, dI) k g nW Q A) args s 0 0 A) 47 (b_X12_sightLine_47 J Q) := by
  unfold b_X12_sightLine_47
  refine s_iconst X ⟨by decide, by decide⟩ dX12_sightLine_47 ?_
  exact s_zret X dX12_sightLine_48
set_option maxRecDepth 100000 in
def b_X12_sightLine_41 (J : Nat → List qV → List qV → qW → Prop) (Q : qR) : qK := x_call (some 12) 4 sp_X12_take (x_nw (x_if_ne (x_aload 0 (x_int 2 (x_int 10 (x_call (some 12) 3 sp_X12_keep2 (x_nw (x_int 1 (x_zret Q))))))) (b_X12_sightLine_47 J Q)))
set_option maxRecDepth 100000 in
theorem s_X12_sightLine_41 {p : Program} {l : Launch} {e : Env} {R : Room} {s : State} {m : MethodId} {args : Array Value} {below : List Frame} {meth : Method} {c : Code} {nW : Nat} {dC : Nat → ClassId} {dI : Nat → Nat → Nat} {k : Nat → ClassId} {g : Nat → Nat} {A : Nat → Prop} {J : Nat → List qV → List qV → qW → Prop} {Q : qR} (X : q_X p R s m args meth c cX12_sightLine 4 nW 4 91 RX12 (some .boolean) dC dI k g A) (hJ : ∀ d : Nat, q_Sd p l e R s m args below meth c 4 nW dC dI k g A (MQ below (q_post (dC, dI) k g nW Q A) args s 0 0 A) d (x_cut (is_X12_sightLine d) (J d))) : q_Sd p l e R s m args below meth c 4 nW dC dI k g A (MQ below (q_post (dC, dI) k g nW Q A) args s 0 0 A) 41 (b_X12_sightLine_41 J Q) := by
  unfold b_X12_sightLine_41
  refine s_callV X (m_X12_take l) tw_1097 tw_1098 tw_1621 tw_134 tw_1099 rfl (by decide +kernel) ⟨by decide, by decide⟩ dX12_sightLine_41 ?_
  refine s_nw ?_
  refine s_if_ne X (tgt := 49) dX12_sightLine_44 (by decide) ?_ ?_
  · refine s_aload_n X rfl dX12_sightLine_49 ?_
    refine s_iconst X ⟨by decide, by decide⟩ dX12_sightLine_50 ?_
    refine s_bipush X ⟨by decide, by decide⟩ (by decide) dX12_sightLine_51 ?_
    refine s_callV X (m_X12_keep2 l) tw_1154 tw_1155 tw_1592 tw_134 tw_1156 rfl (by decide +kernel) ⟨by decide, by decide⟩ dX12_sightLine_53 ?_
    refine s_nw ?_
    refine s_iconst X ⟨by decide, by decide⟩ dX12_sightLine_56 ?_
    exact s_zret X dX12_sightLine_57
  · exact s_X12_sightLine_47 X hJ
set_option maxRecDepth 100000 in
def b_X12_sightLine_0 (J : Nat → List qV → List qV → qW → Prop) (Q : qR) : qK := x_lload 1 (x_lng 1952541804 (x_lcmp (x_if_eq (x_aload 0 (x_int 0 (x_int 10 (x_iload 3 (x_call (some 12) 4 sp_X12_full (x_nw (x_aload 0 (x_call (some 12) 1 sp_X12_token (x_nw (x_aload 0 (x_int 0 (x_int 0 (x_int 7 (x_call (some 12) 4 sp_X12_take (x_nw (x_if_eq (b_X12_sightLine_47 J Q) (x_aload 0 (x_int 1 (x_int 1 (x_int 99 (b_X12_sightLine_41 J Q))))))))))))))))))))) (x_aload 0 (x_call (some 12) 1 sp_X12_fails (x_nw (x_zret Q)))))))
set_option maxRecDepth 100000 in
theorem s_X12_sightLine_0 {p : Program} {l : Launch} {e : Env} {R : Room} {s : State} {m : MethodId} {args : Array Value} {below : List Frame} {meth : Method} {c : Code} {nW : Nat} {dC : Nat → ClassId} {dI : Nat → Nat → Nat} {k : Nat → ClassId} {g : Nat → Nat} {A : Nat → Prop} {J : Nat → List qV → List qV → qW → Prop} {Q : qR} (X : q_X p R s m args meth c cX12_sightLine 4 nW 4 91 RX12 (some .boolean) dC dI k g A) (hJ : ∀ d : Nat, q_Sd p l e R s m args below meth c 4 nW dC dI k g A (MQ below (q_post (dC, dI) k g nW Q A) args s 0 0 A) d (x_cut (is_X12_sightLine d) (J d))) : q_Sd p l e R s m args below meth c 4 nW dC dI k g A (MQ below (q_post (dC, dI) k g nW Q A) args s 0 0 A) 0 (b_X12_sightLine_0 J Q) := by
  unfold b_X12_sightLine_0
  refine s_lload_n X rfl dX12_sightLine_0 ?_
  refine s_ldc2 X ⟨by decide, by decide⟩ tw_1165 dX12_sightLine_1 ?_
  refine s_lcmp X dX12_sightLine_4 ?_
  refine s_if_eq X (tgt := 13) dX12_sightLine_5 (by decide) ?_ ?_
  · refine s_aload_n X rfl dX12_sightLine_13 ?_
    refine s_iconst X ⟨by decide, by decide⟩ dX12_sightLine_14 ?_
    refine s_bipush X ⟨by decide, by decide⟩ (by decide) dX12_sightLine_15 ?_
    refine s_iload_n X rfl dX12_sightLine_17 ?_
    refine s_callV X (m_X12_full l) tw_1088 tw_1089 tw_1578 tw_134 tw_1090 rfl (by decide +kernel) ⟨by decide, by decide⟩ dX12_sightLine_18 ?_
    refine s_nw ?_
    refine s_aload_n X rfl dX12_sightLine_21 ?_
    refine s_callV X (m_X12_token l) tw_1070 tw_1071 tw_1627 tw_134 tw_1072 rfl (by decide +kernel) ⟨by decide, by decide⟩ dX12_sightLine_22 ?_
    refine s_nw ?_
    refine s_aload_n X rfl dX12_sightLine_25 ?_
    refine s_iconst X ⟨by decide, by decide⟩ dX12_sightLine_26 ?_
    refine s_iconst X ⟨by decide, by decide⟩ dX12_sightLine_27 ?_
    refine s_bipush X ⟨by decide, by decide⟩ (by decide) dX12_sightLine_28 ?_
    refine s_callV X (m_X12_take l) tw_1097 tw_1098 tw_1621 tw_134 tw_1099 rfl (by decide +kernel) ⟨by decide, by decide⟩ dX12_sightLine_30 ?_
    refine s_nw ?_
    refine s_if_eq X (tgt := 47) dX12_sightLine_33 (by decide) ?_ ?_
    · exact s_X12_sightLine_47 X hJ
    · refine s_aload_n X rfl dX12_sightLine_36 ?_
      refine s_iconst X ⟨by decide, by decide⟩ dX12_sightLine_37 ?_
      refine s_iconst X ⟨by decide, by decide⟩ dX12_sightLine_38 ?_
      refine s_bipush X ⟨by decide, by decide⟩ (by decide) dX12_sightLine_39 ?_
      exact s_X12_sightLine_41 X hJ
  · refine s_aload_n X rfl dX12_sightLine_8 ?_
    refine s_callV X (m_X12_fails l) tw_1103 tw_1104 tw_1568 tw_134 tw_1105 rfl (by decide +kernel) ⟨by decide, by decide⟩ dX12_sightLine_9 ?_
    refine s_nw ?_
    exact s_zret X dX12_sightLine_12

def sp_X12_sightLine : qS := fun av w Q => ∃ (mco : Int) (mre : Int) (mle : Int) (mbe : Int) (mso : Int) (mva : Int) (mwo : Int) (mwr : Int) (mlf : Int) (mlp : Int) (mfp : Int) (mfd : Int) (mgo : Int) (mbo : Int) (mpe : Int) (mye : Int) (mpr : Int) (mld : Int) (msi : Int) (mse : Int) (tp : Nat → Int) (re : Nat → Int) (td : Nat → Int) (ww : Int) (b : Int), av = [q2 0, q3 ww, q1 b] ∧ w = [.inr (12, [q1 mco, q2 1, q2 4, q2 5, q2 6, q2 7, q2 8, q2 9, q2 10, q2 11, q1 mre, q1 mle, q1 mbe, q1 mso, q1 mva, q3 mwo, q1 mwr, q1 mlf, q1 mlp, q2 3, q2 2, q1 mfp, q1 mfd, q1 mgo, q1 mbo, q1 mpe, q1 mye, q2 12, q1 mpr, q2 13, q2 14, q2 15, q2 16, q1 mld, q2 17, q1 msi, q2 18, q2 19, q2 20, q2 21, q2 22, q1 mse, q2 23, q2 24, q2 25]), .inl (1, 2400, .inl tp), .inl (0, 4, .inl re), .inl (0, 161, .inl td)] ∧ (0 ≤ mre ∧ mre ≤ mle ∧ mle ≤ 600) ∧ (0 ≤ td 0 ∧ td 0 ≤ 10) ∧ (∀ (r : Int) (x_mre : Int) (x_mbe : Int) (x_mso : Int) (x_mva : Int) (x_mwo : Int) (x_mwr : Int) (x_mlf : Int) (x_mlp : Int) (x_mgo : Int) (x_re : Nat → Int) (x_td : Nat → Int), ((r = 0 ∨ r = 1 ∧ (x_mso = 0 ∨ mre < x_mre)) ∧ mre ≤ x_mre ∧ x_mre ≤ mle ∧ (0 ≤ x_td 0 ∧ x_td 0 ≤ 10)) → Q (some (q1 r)) ([.inr (12, [q1 mco, q2 1, q2 4, q2 5, q2 6, q2 7, q2 8, q2 9, q2 10, q2 11, q1 x_mre, q1 mle, q1 x_mbe, q1 x_mso, q1 x_mva, q3 x_mwo, q1 x_mwr, q1 x_mlf, q1 x_mlp, q2 3, q2 2, q1 mfp, q1 mfd, q1 x_mgo, q1 mbo, q1 mpe, q1 mye, q2 12, q1 mpr, q2 13, q2 14, q2 15, q2 16, q1 mld, q2 17, q1 msi, q2 18, q2 19, q2 20, q2 21, q2 22, q1 mse, q2 23, q2 24, q2 25]), .inl (1, 2400, .inl tp), .inl (0, 4, .inl x_re), .inl (0, 161, .inl x_td)]))
set_option maxHeartbeats 4000000 in
set_option maxRecDepth 100000 in
theorem m_X12_sightLine (l : Launch) : q_M l yX12_sightLine cX12_sightLine 4 (some .boolean) 4 91 sp_X12_sightLine := by
  refine q_meth (by decide) (fun av w Q h => by obtain ⟨mco, mre, mle, mbe, mso, mva, mwo, mwr, mlf, mlp, mfp, mfd, mgo, mbo, mpe, mye, mpr, mld, msi, mse, tp, re, td, ww, b, rfl, rfl, htp, hst, hQ⟩ := h; exact Nat.le_of_ble_eq_true rfl) ?_
  intro p e R s m args below meth c dC dI k g A av w Q hsp oka okw X
  obtain ⟨mco, mre, mle, mbe, mso, mva, mwo, mwr, mlf, mlp, mfp, mfd, mgo, mbo, mpe, mye, mpr, mld, msi, mse, tp, re, td, ww, b, rfl, rfl, htp, hst, hQ⟩ := hsp
  have o_b : -2147483648 ≤ b ∧ b ≤ 2147483647 := oka _ (List.mem_of_getElem? (i := 2) rfl)
  refine s_mono (s_X12_sightLine_0 X (J := fun _ _ _ _ => False) (fun d => s_cutF)) ?_
  rintro lv st w' ⟨rfl, rfl, rfl⟩
  intro z4 h4
  replace h4 := e_cmp h4
  apply And.intro
  · intro h5
    refine Exists.intro [0, 3, 1, 4, 5, 6, 7, 8, 9, 10, 11, 2, 12, 13, 14, 15, 16, 17, 18, 19, 20, 21, 22, 23, 24, 25] (Exists.intro [q2 0, q1 _, q1 _, q1 _] (Exists.intro ([.inr (12, [q1 _, q2 2, q2 3, q2 4, q2 5, q2 6, q2 7, q2 8, q2 9, q2 10, q1 _, q1 _, q1 _, q1 _, q1 _, q3 _, q1 _, q1 _, q1 _, q2 1, q2 11, q1 _, q1 _, q1 _, q1 _, q1 _, q1 _, q2 12, q1 _, q2 13, q2 14, q2 15, q2 16, q1 _, q2 17, q1 _, q2 18, q2 19, q2 20, q2 21, q2 22, q1 _, q2 23, q2 24, q2 25]), .inl (0, 161, .inl _)]) (And.intro rfl (And.intro rfl (And.intro rfl (And.intro ⟨⟨_, rfl⟩, rfl⟩ ?_))))))
    refine Exists.intro _ (Exists.intro _ (Exists.intro _ (Exists.intro _ (Exists.intro _ (Exists.intro _ (Exists.intro _ (Exists.intro _ (Exists.intro _ (Exists.intro _ (Exists.intro _ (Exists.intro _ (Exists.intro _ (Exists.intro _ (Exists.intro _ (Exists.intro _ (Exists.intro _ (Exists.intro _ (Exists.intro _ (Exists.intro _ (Exists.intro _ (Exists.intro _ (Exists.intro _ (Exists.intro _ (And.intro rfl (And.intro rfl (And.intro (by first | omega | assumption | exact q_rg_up (by assumption) (by omega) | exact q_rg_up (q_rg_up (by assumption) (by omega)) (by omega) | exact q_rg_cpy (by assumption) (by assumption)) (?_)))))))))))))))))))))))))))
    intro x_mlf_18 x_mlp_18
    refine Exists.intro [0, 1, 4, 5, 6, 7, 8, 9, 10, 11, 3, 2, 12, 13, 14, 15, 16, 17, 18, 19, 20, 21, 22, 23, 24, 25] (Exists.intro [q2 0] (Exists.intro ([.inr (12, [q1 _, q2 1, q2 2, q2 3, q2 4, q2 5, q2 6, q2 7, q2 8, q2 9, q1 _, q1 _, q1 _, q1 _, q1 _, q3 _, q1 _, q1 _, q1 _, q2 10, q2 11, q1 _, q1 _, q1 _, q1 _, q1 _, q1 _, q2 12, q1 _, q2 13, q2 14, q2 15, q2 16, q1 _, q2 17, q1 _, q2 18, q2 19, q2 20, q2 21, q2 22, q1 _, q2 23, q2 24, q2 25]), .inl (1, 2400, .inl _)]) (And.intro rfl (And.intro rfl (And.intro rfl (And.intro ⟨⟨_, rfl⟩, rfl⟩ ?_))))))
    refine Exists.intro _ (Exists.intro _ (Exists.intro _ (Exists.intro _ (Exists.intro _ (Exists.intro _ (Exists.intro _ (Exists.intro _ (Exists.intro _ (Exists.intro _ (Exists.intro _ (Exists.intro _ (Exists.intro _ (Exists.intro _ (Exists.intro _ (Exists.intro _ (Exists.intro _ (Exists.intro _ (Exists.intro _ (Exists.intro _ (Exists.intro _ (And.intro rfl (And.intro rfl (And.intro (by first | omega | assumption | exact q_rg_up (by assumption) (by omega) | exact q_rg_up (q_rg_up (by assumption) (by omega)) (by omega) | exact q_rg_cpy (by assumption) (by assumption)) (?_))))))))))))))))))))))))
    intro x_mre_22 x_mbe_22 x_mso_22 x_mva_22 x_mwo_22 h22
    refine Exists.intro [0, 1, 2, 4, 5, 6, 7, 8, 9, 10, 11, 3, 12, 13, 14, 15, 16, 17, 18, 19, 20, 21, 22, 23, 24, 25] (Exists.intro [q2 0, q1 _, q1 _, q1 _] (Exists.intro ([.inr (12, [q1 _, q2 1, q2 3, q2 4, q2 5, q2 6, q2 7, q2 8, q2 9, q2 10, q1 _, q1 _, q1 _, q1 _, q1 _, q3 _, q1 _, q1 _, q1 _, q2 11, q2 2, q1 _, q1 _, q1 _, q1 _, q1 _, q1 _, q2 12, q1 _, q2 13, q2 14, q2 15, q2 16, q1 _, q2 17, q1 _, q2 18, q2 19, q2 20, q2 21, q2 22, q1 _, q2 23, q2 24, q2 25]), .inl (1, 2400, .inl _), .inl (0, 4, .inl _)]) (And.intro rfl (And.intro rfl (And.intro rfl (And.intro ⟨⟨_, rfl⟩, rfl⟩ ?_))))))
    refine Exists.intro _ (Exists.intro _ (Exists.intro _ (Exists.intro _ (Exists.intro _ (Exists.intro _ (Exists.intro _ (Exists.intro _ (Exists.intro _ (Exists.intro _ (Exists.intro _ (Exists.intro _ (Exists.intro _ (Exists.intro _ (Exists.intro _ (Exists.intro _ (Exists.intro _ (Exists.intro _ (Exists.intro _ (Exists.intro _ (Exists.intro _ (Exists.intro _ (Exists.intro _ (Exists.intro _ (Exists.intro _ (And.intro rfl (And.intro rfl (And.intro (by first | omega | assumption | exact q_rg_up (by assumption) (by omega) | exact q_rg_up (q_rg_up (by assumption) (by omega)) (by omega) | exact q_rg_cpy (by assumption) (by assumption)) (And.intro (by first | omega | assumption | exact q_rg_up (by assumption) (by omega) | exact q_rg_up (q_rg_up (by assumption) (by omega)) (by omega) | exact q_rg_cpy (by assumption) (by assumption)) (?_)))))))))))))))))))))))))))))
    intro z30 x_mre_30 x_mbe_30 x_mso_30 x_mva_30 x_mwo_30 x_mwr_30 x_mlf_30 x_mlp_30 x_mgo_30 x_re_30 h30
    apply And.intro
    · intro h33
      apply And.intro
      · first | exact Or.inl rfl | exact Or.inr rfl | omega
      exact hQ _ _ _ _ _ _ _ _ _ _ _ _ ⟨by omega, by omega, by omega, (by first | assumption | exact h53)⟩
    · intro h33
      refine Exists.intro [0, 1, 2, 4, 5, 6, 7, 8, 9, 10, 11, 3, 12, 13, 14, 15, 16, 17, 18, 19, 20, 21, 22, 23, 24, 25] (Exists.intro [q2 0, q1 _, q1 _, q1 _] (Exists.intro ([.inr (12, [q1 _, q2 1, q2 3, q2 4, q2 5, q2 6, q2 7, q2 8, q2 9, q2 10, q1 _, q1 _, q1 _, q1 _, q1 _, q3 _, q1 _, q1 _, q1 _, q2 11, q2 2, q1 _, q1 _, q1 _, q1 _, q1 _, q1 _, q2 12, q1 _, q2 13, q2 14, q2 15, q2 16, q1 _, q2 17, q1 _, q2 18, q2 19, q2 20, q2 21, q2 22, q1 _, q2 23, q2 24, q2 25]), .inl (1, 2400, .inl _), .inl (0, 4, .inl _)]) (And.intro rfl (And.intro rfl (And.intro rfl (And.intro ⟨⟨_, rfl⟩, rfl⟩ ?_))))))
      refine Exists.intro _ (Exists.intro _ (Exists.intro _ (Exists.intro _ (Exists.intro _ (Exists.intro _ (Exists.intro _ (Exists.intro _ (Exists.intro _ (Exists.intro _ (Exists.intro _ (Exists.intro _ (Exists.intro _ (Exists.intro _ (Exists.intro _ (Exists.intro _ (Exists.intro _ (Exists.intro _ (Exists.intro _ (Exists.intro _ (Exists.intro _ (Exists.intro _ (Exists.intro _ (Exists.intro _ (Exists.intro _ (And.intro rfl (And.intro rfl (And.intro (by first | omega | assumption | exact q_rg_up (by assumption) (by omega) | exact q_rg_up (q_rg_up (by assumption) (by omega)) (by omega) | exact q_rg_cpy (by assumption) (by assumption)) (And.intro (by first | omega | assumption | exact q_rg_up (by assumption) (by omega) | exact q_rg_up (q_rg_up (by assumption) (by omega)) (by omega) | exact q_rg_cpy (by assumption) (by assumption)) (?_)))))))))))))))))))))))))))))
      intro z41 x_mre_41 x_mbe_41 x_mso_41 x_mva_41 x_mwo_41 x_mwr_41 x_mlf_41 x_mlp_41 x_mgo_41 x_re_41 h41
      apply And.intro
      · intro h44
        refine Exists.intro [0, 2, 3, 1, 4, 5, 6, 7, 8, 9, 10, 11, 12, 13, 14, 15, 16, 17, 18, 19, 20, 21, 22, 23, 24, 25] (Exists.intro [q2 0, q1 2, q1 10] (Exists.intro ([.inr (12, [q1 _, q2 3, q2 4, q2 5, q2 6, q2 7, q2 8, q2 9, q2 10, q2 11, q1 _, q1 _, q1 _, q1 _, q1 _, q3 _, q1 _, q1 _, q1 _, q2 2, q2 1, q1 _, q1 _, q1 _, q1 _, q1 _, q1 _, q2 12, q1 _, q2 13, q2 14, q2 15, q2 16, q1 _, q2 17, q1 _, q2 18, q2 19, q2 20, q2 21, q2 22, q1 _, q2 23, q2 24, q2 25]), .inl (0, 4, .inl _), .inl (0, 161, .inl _)]) (And.intro rfl (And.intro rfl (And.intro rfl (And.intro ⟨⟨_, rfl⟩, rfl⟩ ?_))))))
        refine Exists.intro _ (Exists.intro _ (Exists.intro _ (Exists.intro _ (Exists.intro _ (Exists.intro _ (Exists.intro _ (Exists.intro _ (Exists.intro _ (Exists.intro _ (Exists.intro _ (Exists.intro _ (Exists.intro _ (Exists.intro _ (Exists.intro _ (Exists.intro _ (Exists.intro _ (Exists.intro _ (Exists.intro _ (Exists.intro _ (Exists.intro _ (Exists.intro _ (And.intro rfl (And.intro rfl (And.intro (by first | omega | assumption | exact q_rg_up (by assumption) (by omega) | exact q_rg_up (q_rg_up (by assumption) (by omega)) (by omega) | exact q_rg_cpy (by assumption) (by assumption)) (?_)))))))))))))))))))))))))
        intro x_td_53 h53
        apply And.intro
        · first | exact Or.inl rfl | exact Or.inr rfl | omega
        exact hQ _ _ _ _ _ _ _ _ _ _ _ _ ⟨by omega, by omega, by omega, (by first | assumption | exact h53)⟩
      · intro h44
        apply And.intro
        · first | exact Or.inl rfl | exact Or.inr rfl | omega
        exact hQ _ _ _ _ _ _ _ _ _ _ _ _ ⟨by omega, by omega, by omega, (by first | assumption | exact h53)⟩
  · intro h5
    refine Exists.intro [0, 1, 4, 5, 6, 7, 8, 9, 10, 11, 3, 2, 12, 13, 14, 15, 16, 17, 18, 19, 20, 21, 22, 23, 24, 25] (Exists.intro [q2 0] (Exists.intro ([.inr (12, [q1 _, q2 1, q2 2, q2 3, q2 4, q2 5, q2 6, q2 7, q2 8, q2 9, q1 _, q1 _, q1 _, q1 _, q1 _, q3 _, q1 _, q1 _, q1 _, q2 10, q2 11, q1 _, q1 _, q1 _, q1 _, q1 _, q1 _, q2 12, q1 _, q2 13, q2 14, q2 15, q2 16, q1 _, q2 17, q1 _, q2 18, q2 19, q2 20, q2 21, q2 22, q1 _, q2 23, q2 24, q2 25])]) (And.intro rfl (And.intro rfl (And.intro rfl (And.intro ⟨⟨_, rfl⟩, rfl⟩ ?_))))))
    refine Exists.intro _ (Exists.intro _ (Exists.intro _ (Exists.intro _ (Exists.intro _ (Exists.intro _ (Exists.intro _ (Exists.intro _ (Exists.intro _ (Exists.intro _ (Exists.intro _ (Exists.intro _ (Exists.intro _ (Exists.intro _ (Exists.intro _ (Exists.intro _ (Exists.intro _ (Exists.intro _ (Exists.intro _ (Exists.intro _ (And.intro rfl (And.intro rfl (?_))))))))))))))))))))))
    intro z9 x_mwr_9 h9
    apply And.intro
    · first | exact Or.inl rfl | exact Or.inr rfl | omega
    exact hQ _ _ _ _ _ _ _ _ _ _ _ _ ⟨by omega, by omega, by omega, (by first | assumption | exact h53)⟩
