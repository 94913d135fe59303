/-! ===== the reference: bytes fed, copies of all rows ===== -/
def CpA (a b : Int) (tp siz fa fpl mn bs ys ls ss tp' siz' fa' fpl' mn' bs' ys' ls' ss' : Nat → Int) : Prop := cpR 600 tp tp' a b ∧ cpR 1 siz siz' a b ∧ cpR 1 fa fa' a b ∧ cpR 1 fpl fpl' a b ∧ cpR 4 mn mn' a b ∧ cpR 150 bs bs' a b ∧ cpR 322 ys ys' a b ∧ cpR 18 ls ls' a b ∧ cpR 42 ss ss' a b
def ImM (a r : Int) (kp kp' tp siz fa fpl mn bs ys ls ss tp' siz' fa' fpl' mn' bs' ys' ls' ss' : Nat → Int) : Prop := (r = 1 ∧ (0 ≤ a ∧ a ≤ 2) ∧ kp' = q_up kp a.toNat 1 ∧ CpA 0 (a + 1) tp siz fa fpl mn bs ys ls ss tp' siz' fa' fpl' mn' bs' ys' ls' ss') ∨ (r = 0 ∧ ¬ (0 ≤ a ∧ a ≤ 2) ∧ kp' = kp ∧ tp' = tp ∧ siz' = siz ∧ fa' = fa ∧ fpl' = fpl ∧ mn' = mn ∧ bs' = bs ∧ ys' = ys ∧ ls' = ls ∧ ss' = ss)
def AgM (a r : Int) (kp tp siz fa fpl mn bs ys ls ss tp' siz' fa' fpl' mn' bs' ys' ls' ss' : Nat → Int) : Prop := (r = 1 ∧ ((0 ≤ a ∧ a ≤ 2) ∧ ¬ kp a.toNat = 0) ∧ CpA (a + 1) 0 tp siz fa fpl mn bs ys ls ss tp' siz' fa' fpl' mn' bs' ys' ls' ss') ∨ (r = 0 ∧ ¬ ((0 ≤ a ∧ a ≤ 2) ∧ ¬ kp a.toNat = 0) ∧ tp' = tp ∧ siz' = siz ∧ fa' = fa ∧ fpl' = fpl ∧ mn' = mn ∧ bs' = bs ∧ ys' = ys ∧ ls' = ls ∧ ss' = ss)

theorem dF12_four_0 : decode cX12_four 0 = .ok (.bipush 24, 2) := by decide +kernel
theorem dF12_four_2 : decode cX12_four 2 = .ok (.istore_n 2, 1) := by decide +kernel
theorem dF12_four_3 : decode cX12_four 3 = .ok (.iload_n 2, 1) := by decide +kernel
theorem dF12_four_4 : decode cX12_four 4 = .ok (.ifCond .lt 34, 3) := by decide +kernel
theorem dF12_four_7 : decode cX12_four 7 = .ok (.aload_n 0, 1) := by decide +kernel
theorem dF12_four_8 : decode cX12_four 8 = .ok (.getfield 7, 3) := by decide +kernel
theorem dF12_four_11 : decode cX12_four 11 = .ok (.aload_n 0, 1) := by decide +kernel
theorem dF12_four_12 : decode cX12_four 12 = .ok (.getfield 13, 3) := by decide +kernel
theorem dF12_four_15 : decode cX12_four 15 = .ok (.iconst 0, 1) := by decide +kernel
theorem dF12_four_16 : decode cX12_four 16 = .ok (.iaload, 1) := by decide +kernel
theorem dF12_four_17 : decode cX12_four 17 = .ok (.iload_n 1, 1) := by decide +kernel
theorem dF12_four_18 : decode cX12_four 18 = .ok (.iload_n 2, 1) := by decide +kernel
theorem dF12_four_19 : decode cX12_four 19 = .ok (.ishr, 1) := by decide +kernel
theorem dF12_four_20 : decode cX12_four 20 = .ok (.i2b, 1) := by decide +kernel
theorem dF12_four_21 : decode cX12_four 21 = .ok (.bastore, 1) := by decide +kernel
theorem dF12_four_22 : decode cX12_four 22 = .ok (.aload_n 0, 1) := by decide +kernel
theorem dF12_four_23 : decode cX12_four 23 = .ok (.getfield 13, 3) := by decide +kernel
theorem dF12_four_26 : decode cX12_four 26 = .ok (.iconst 0, 1) := by decide +kernel
theorem dF12_four_27 : decode cX12_four 27 = .ok (.dup2, 1) := by decide +kernel
theorem dF12_four_28 : decode cX12_four 28 = .ok (.iaload, 1) := by decide +kernel
theorem dF12_four_29 : decode cX12_four 29 = .ok (.iconst 1, 1) := by decide +kernel
theorem dF12_four_30 : decode cX12_four 30 = .ok (.iadd, 1) := by decide +kernel
theorem dF12_four_31 : decode cX12_four 31 = .ok (.iastore, 1) := by decide +kernel
theorem dF12_four_32 : decode cX12_four 32 = .ok (.iinc 2 (-8), 3) := by decide +kernel
theorem dF12_four_35 : decode cX12_four 35 = .ok (.goto (-32), 3) := by decide +kernel
theorem dF12_four_38 : decode cX12_four 38 = .ok (.return_, 1) := by decide +kernel
def is_F12_four : Nat → List Nat := fun d => if d = 3 then [0, 1, 2] else []
set_option maxRecDepth 100000 in
def b_F12_four_3 (J : Nat → List qV → List qV → qW → Prop) (Q : qR) : qK := x_iload 2 (x_if_lt (x_vret Q) (x_aload 0 (x_get 12 1 (x_aload 0 (x_get 12 2 (x_int 0 (x_iald (x_iload 1 (x_iload 2 (x_ishr (x_i2b (x_bast (x_nw (x_aload 0 (x_get 12 2 (x_int 0 (x_dup2 (x_iald (x_int 1 (x_iadd (x_iast (x_nw (x_iinc 2 (-8) (x_cut [0, 1, 2] (J 3)))))))))))))))))))))))))
set_option maxRecDepth 100000 in
theorem s_F12_four_3 {p : Program} {l : Launch} {e : Env} {R : Room} {s : State} {m : MethodId} {args : Array Value} {below : List Frame} {meth : Method} {c : Code} {nW : Nat} {dC : Nat → ClassId} {dI : Nat → Nat → Nat} {k : Nat → ClassId} {g : Nat → Nat} {A : Nat → Prop} {J : Nat → List qV → List qV → qW → Prop} {Q : qR} (X : q_X p R s m args meth c cX12_four 3 nW 0 0 RX12 none dC dI k g A) (hJ : ∀ d : Nat, q_Sd p l e R s m args below meth c 3 nW dC dI k g A (MQ below (q_post (dC, dI) k g nW Q A) args s 0 0 A) d (x_cut (is_F12_four d) (J d))) : q_Sd p l e R s m args below meth c 3 nW dC dI k g A (MQ below (q_post (dC, dI) k g nW Q A) args s 0 0 A) 3 (b_F12_four_3 J Q) := by
  unfold b_F12_four_3
  refine s_iload_n X rfl dF12_four_3 ?_
  refine s_if_lt X (tgt := 38) dF12_four_4 (by decide) ?_ ?_
  · exact s_vret X dF12_four_38
  · refine s_aload_n X rfl dF12_four_7 ?_
    refine s_get X (T := TX12) (C := RX12) (N := 45) tu_X12 rfl (by decide) tw_998 dF12_four_8 ?_
    refine s_aload_n X rfl dF12_four_11 ?_
    refine s_get X (T := TX12) (C := RX12) (N := 45) tu_X12 rfl (by decide) tw_999 dF12_four_12 ?_
    refine s_iconst X ⟨by decide, by decide⟩ dF12_four_15 ?_
    refine s_iald X dF12_four_16 ?_
    refine s_iload_n X rfl dF12_four_17 ?_
    refine s_iload_n X rfl dF12_four_18 ?_
    refine s_ishr X dF12_four_19 ?_
    refine s_i2b X dF12_four_20 ?_
    refine s_bast X dF12_four_21 ?_
    refine s_nw ?_
    refine s_aload_n X rfl dF12_four_22 ?_
    refine s_get X (T := TX12) (C := RX12) (N := 45) tu_X12 rfl (by decide) tw_999 dF12_four_23 ?_
    refine s_iconst X ⟨by decide, by decide⟩ dF12_four_26 ?_
    refine s_dup2 X dF12_four_27 ?_
    refine s_iald X dF12_four_28 ?_
    refine s_iconst X ⟨by decide, by decide⟩ dF12_four_29 ?_
    refine s_iadd X dF12_four_30 ?_
    refine s_iast X dF12_four_31 ?_
    refine s_nw ?_
    refine s_iinc X (by decide) dF12_four_32 ?_
    refine s_goto X (tgt := 3) dF12_four_35 (by decide) ?_
    exact hJ 3
set_option maxRecDepth 100000 in
def b_F12_four_0 (J : Nat → List qV → List qV → qW → Prop) (Q : qR) : qK := x_int 24 (x_istore 2 (x_cut [0, 1, 2] (J 3)))
set_option maxRecDepth 100000 in
theorem s_F12_four_0 {p : Program} {l : Launch} {e : Env} {R : Room} {s : State} {m : MethodId} {args : Array Value} {below : List Frame} {meth : Method} {c : Code} {nW : Nat} {dC : Nat → ClassId} {dI : Nat → Nat → Nat} {k : Nat → ClassId} {g : Nat → Nat} {A : Nat → Prop} {J : Nat → List qV → List qV → qW → Prop} {Q : qR} (X : q_X p R s m args meth c cX12_four 3 nW 0 0 RX12 none dC dI k g A) (hJ : ∀ d : Nat, q_Sd p l e R s m args below meth c 3 nW dC dI k g A (MQ below (q_post (dC, dI) k g nW Q A) args s 0 0 A) d (x_cut (is_F12_four d) (J d))) : q_Sd p l e R s m args below meth c 3 nW dC dI k g A (MQ below (q_post (dC, dI) k g nW Q A) args s 0 0 A) 0 (b_F12_four_0 J Q) := by
  unfold b_F12_four_0
  refine s_bipush X ⟨by decide, by decide⟩ (by decide) dF12_four_0 ?_
  refine s_istore_n X rfl (by decide) dF12_four_2 ?_
  exact hJ 3

def sp_F12_four : qS := fun av w Q => ∃ (mco : Int) (mre : Int) (mle : Int) (mbe : Int) (mso : Int) (mva : Int) (mwo : Int) (mwr : Int) (mlf : Int) (mlp : Int) (mfp : Int) (mfd : Int) (mgo : Int) (mbo : Int) (mpe : Int) (mye : Int) (mpr : Int) (mld : Int) (msi : Int) (mse : Int) (tp : Nat → Int) (siz : Nat → Int) (a : Int), av = [q2 0, q1 a] ∧ w = [.inr (12, [q1 mco, q2 1, q2 2, q2 3, q2 4, q2 5, q2 6, q2 7, q2 8, q2 9, q1 mre, q1 mle, q1 mbe, q1 mso, q1 mva, q3 mwo, q1 mwr, q1 mlf, q1 mlp, q2 10, q2 11, q1 mfp, q1 mfd, q1 mgo, q1 mbo, q1 mpe, q1 mye, q2 12, q1 mpr, q2 13, q2 14, q2 15, q2 16, q1 mld, q2 17, q1 msi, q2 18, q2 19, q2 20, q2 21, q2 22, q1 mse, q2 23, q2 24, q2 25]), .inl (1, 2400, .inl tp), .inl (0, 4, .inl siz)] ∧ (q_rg 0 600 siz) ∧ (0 ≤ siz 0 ∧ siz 0 ≤ 596) ∧ (∀ (x_tp : Nat → Int) (x_siz : Nat → Int), ((q_rg 0 600 x_siz ∧ x_siz 0 = siz 0 + 4 ∧ szK siz x_siz) ∧ x_tp = ptN tp (siz 0) a 4) → Q none ([.inr (12, [q1 mco, q2 1, q2 2, q2 3, q2 4, q2 5, q2 6, q2 7, q2 8, q2 9, q1 mre, q1 mle, q1 mbe, q1 mso, q1 mva, q3 mwo, q1 mwr, q1 mlf, q1 mlp, q2 10, q2 11, q1 mfp, q1 mfd, q1 mgo, q1 mbo, q1 mpe, q1 mye, q2 12, q1 mpr, q2 13, q2 14, q2 15, q2 16, q1 mld, q2 17, q1 msi, q2 18, q2 19, q2 20, q2 21, q2 22, q1 mse, q2 23, q2 24, q2 25]), .inl (1, 2400, .inl x_tp), .inl (0, 4, .inl x_siz)]))
def I_F12_four (mco : Int) (mre : Int) (mle : Int) (mbe : Int) (mso : Int) (mva : Int) (mwo : Int) (mwr : Int) (mlf : Int) (mlp : Int) (mfp : Int) (mfd : Int) (mgo : Int) (mbo : Int) (mpe : Int) (mye : Int) (mpr : Int) (mld : Int) (msi : Int) (mse : Int) (tp : Nat → Int) (siz : Nat → Int) (a : Int) : Nat → Nat → List qV → List qV → qW → Prop := fun dz mz vz sz wz => if dz = 3 then (∃ (y_tp : Nat → Int) (y_siz : Nat → Int) (v2 : Int), vz = [q2 0, q1 a, q1 v2] ∧ sz = [] ∧ wz = [.inr (12, [q1 mco, q2 1, q2 2, q2 3, q2 4, q2 5, q2 6, q2 7, q2 8, q2 9, q1 mre, q1 mle, q1 mbe, q1 mso, q1 mva, q3 mwo, q1 mwr, q1 mlf, q1 mlp, q2 10, q2 11, q1 mfp, q1 mfd, q1 mgo, q1 mbo, q1 mpe, q1 mye, q2 12, q1 mpr, q2 13, q2 14, q2 15, q2 16, q1 mld, q2 17, q1 msi, q2 18, q2 19, q2 20, q2 21, q2 22, q1 mse, q2 23, q2 24, q2 25]), .inl (1, 2400, .inl y_tp), .inl (0, 4, .inl y_siz)] ∧ mz = (v2 + 8).toNat ∧ (-8 ≤ v2 ∧ v2 ≤ 24 ∧ 8 * (y_siz 0 - siz 0) = 24 - v2 ∧ v2 % 8 = 0) ∧ (q_rg 0 600 y_siz) ∧ (szK siz y_siz) ∧ (y_tp = ptN tp (siz 0) a ((24 - v2) / 8).toNat)) else False
set_option maxHeartbeats 4000000 in
set_option maxRecDepth 100000 in
theorem m_F12_four (l : Launch) : q_M l yX12_four cX12_four 3 none 0 0 sp_F12_four := by
  refine q_meth (by decide) (fun av w Q h => by obtain ⟨mco, mre, mle, mbe, mso, mva, mwo, mwr, mlf, mlp, mfp, mfd, mgo, mbo, mpe, mye, mpr, mld, msi, mse, tp, siz, a, rfl, rfl, hsz, hz0, hQ⟩ := h; exact Nat.le_of_ble_eq_true rfl) ?_
  intro p e R s m args below meth c dC dI k g A av w Q hsp oka okw X
  obtain ⟨mco, mre, mle, mbe, mso, mva, mwo, mwr, mlf, mlp, mfp, mfd, mgo, mbo, mpe, mye, mpr, mld, msi, mse, tp, siz, a, rfl, rfl, hsz, hz0, hQ⟩ := hsp
  have o_a : -2147483648 ≤ a ∧ a ≤ 2147483647 := oka _ (List.mem_of_getElem? (i := 1) rfl)
  refine s_mono (s_F12_four_0 X (J := fun dz vz sz wz => ∃ mz, I_F12_four mco mre mle mbe mso mva mwo mwr mlf mlp mfp mfd mgo mbo mpe mye mpr mld msi mse tp siz a dz mz vz sz wz) (q_loopn (I_F12_four mco mre mle mbe mso mva mwo mwr mlf mlp mfp mfd mgo mbo mpe mye mpr mld msi mse tp siz a) (fun dz J => if dz = 3 then b_F12_four_3 J Q else q_F) ?hs ?hv)) ?_
  case hs =>
    intro d J hJ
    by_cases hq_3 : d = 3
    · subst hq_3; exact s_F12_four_3 X hJ
    simp only [hq_3, if_false]
    exact s_F
  case hv =>
    intro dz mz vz sz wz hI okv oks okw hlen
    by_cases hq_3 : dz = 3
    · subst hq_3
      obtain ⟨y_tp, y_siz, v2, rfl, rfl, rfl, hn, hp, hsy, hk9, hq9⟩ := hI
      have b0 := hsy 0
      apply And.intro
      · intro hq_4
        exact hQ _ _ ⟨⟨hsy, by omega, hk9⟩, pt_e hq9 (by omega)⟩
      · intro hq_4
        apply And.intro
        · exact ⟨by omega, by omega⟩
        intro zq_16 hq_16
        have b16 : zq_16 = y_siz 0 := hq_16
        intro zq_19 hq_19
        skip
        intro zq_20 hq_20
        have e20 := e_i2b hq_20
        apply And.intro
        · exact ⟨by omega, by omega⟩
        apply And.intro
        · first | omega | exact Or.inr rfl | exact Or.inl rfl
        apply And.intro
        · exact ⟨by omega, by omega⟩
        intro zq_28 hq_28
        have b28 : zq_28 = y_siz 0 := hq_28
        intro zq_30 hq_30
        first | replace hq_30 := e_add hq_30 (by omega) | replace hq_30 := e_rng hq_30
        apply And.intro
        · exact ⟨by omega, by omega⟩
        intro zq_32 hq_32
        first | replace hq_32 := e_add hq_32 (by omega) | replace hq_32 := e_rng hq_32
        exact ⟨_, ⟨_, _, _, rfl, rfl, rfl, rfl, (by first | omega | (rw [show ∀ (f : Nat → Int) (v : Int), q_up f (0 : Int).toNat v 0 = v from fun f v => q_up_s]; omega)), (by first | assumption | exact q_rg_up (by assumption) (by omega)), (by first | exact szK_r | exact szK_u hk9), (by first | exact pt_0 rfl | exact pt_s hq9 hq_19 hq_20 (by omega) (by omega) (by omega))⟩, by omega⟩
    simp only [I_F12_four, hq_3, if_false] at hI
  rintro lv st w' ⟨rfl, rfl, rfl⟩
  have b0 := hsz 0
  exact ⟨_, _, _, _, rfl, rfl, rfl, rfl, (by first | omega | (rw [show ∀ (f : Nat → Int) (v : Int), q_up f (0 : Int).toNat v 0 = v from fun f v => q_up_s]; omega)), (by first | assumption | exact q_rg_up (by assumption) (by omega)), (by first | exact szK_r | exact szK_u hk9), (by first | exact pt_0 rfl | exact pt_s hq9 hq_19 hq_20 (by omega) (by omega) (by omega))⟩

theorem dF12_feed_0 : decode cX12_feed 0 = .ok (.aload_n 0, 1) := by decide +kernel
theorem dF12_feed_1 : decode cX12_feed 1 = .ok (.iconst 0, 1) := by decide +kernel
theorem dF12_feed_2 : decode cX12_feed 2 = .ok (.putfield 88, 3) := by decide +kernel
theorem dF12_feed_5 : decode cX12_feed 5 = .ok (.aload_n 0, 1) := by decide +kernel
theorem dF12_feed_6 : decode cX12_feed 6 = .ok (.getfield 13, 3) := by decide +kernel
theorem dF12_feed_9 : decode cX12_feed 9 = .ok (.iconst 0, 1) := by decide +kernel
theorem dF12_feed_10 : decode cX12_feed 10 = .ok (.iaload, 1) := by decide +kernel
theorem dF12_feed_11 : decode cX12_feed 11 = .ok (.bipush 20, 2) := by decide +kernel
theorem dF12_feed_13 : decode cX12_feed 13 = .ok (.iadd, 1) := by decide +kernel
theorem dF12_feed_14 : decode cX12_feed 14 = .ok (.sipush 600, 3) := by decide +kernel
theorem dF12_feed_17 : decode cX12_feed 17 = .ok (.if_icmp .le 5, 3) := by decide +kernel
theorem dF12_feed_20 : decode cX12_feed 20 = .ok (.iconst (-1), 1) := by decide +kernel
theorem dF12_feed_21 : decode cX12_feed 21 = .ok (.ireturn, 1) := by decide +kernel
theorem dF12_feed_22 : decode cX12_feed 22 = .ok (.aload_n 0, 1) := by decide +kernel
theorem dF12_feed_23 : decode cX12_feed 23 = .ok (.iload_n 1, 1) := by decide +kernel
theorem dF12_feed_24 : decode cX12_feed 24 = .ok (.invokevirtual 104, 3) := by decide +kernel
theorem dF12_feed_27 : decode cX12_feed 27 = .ok (.aload_n 0, 1) := by decide +kernel
theorem dF12_feed_28 : decode cX12_feed 28 = .ok (.iload_n 2, 1) := by decide +kernel
theorem dF12_feed_29 : decode cX12_feed 29 = .ok (.invokevirtual 104, 3) := by decide +kernel
theorem dF12_feed_32 : decode cX12_feed 32 = .ok (.aload_n 0, 1) := by decide +kernel
theorem dF12_feed_33 : decode cX12_feed 33 = .ok (.iload_n 3, 1) := by decide +kernel
theorem dF12_feed_34 : decode cX12_feed 34 = .ok (.invokevirtual 104, 3) := by decide +kernel
theorem dF12_feed_37 : decode cX12_feed 37 = .ok (.aload_n 0, 1) := by decide +kernel
theorem dF12_feed_38 : decode cX12_feed 38 = .ok (.iload 4, 2) := by decide +kernel
theorem dF12_feed_40 : decode cX12_feed 40 = .ok (.invokevirtual 104, 3) := by decide +kernel
theorem dF12_feed_43 : decode cX12_feed 43 = .ok (.aload_n 0, 1) := by decide +kernel
theorem dF12_feed_44 : decode cX12_feed 44 = .ok (.iload 5, 2) := by decide +kernel
theorem dF12_feed_46 : decode cX12_feed 46 = .ok (.invokevirtual 104, 3) := by decide +kernel
theorem dF12_feed_49 : decode cX12_feed 49 = .ok (.aload_n 0, 1) := by decide +kernel
theorem dF12_feed_50 : decode cX12_feed 50 = .ok (.getfield 13, 3) := by decide +kernel
theorem dF12_feed_53 : decode cX12_feed 53 = .ok (.iconst 0, 1) := by decide +kernel
theorem dF12_feed_54 : decode cX12_feed 54 = .ok (.iaload, 1) := by decide +kernel
theorem dF12_feed_55 : decode cX12_feed 55 = .ok (.ireturn, 1) := by decide +kernel
def is_F12_feed : Nat → List Nat := fun d => []
set_option maxRecDepth 100000 in
def b_F12_feed_40 (J : Nat → List qV → List qV → qW → Prop) (Q : qR) : qK := x_call (some 12) 2 sp_F12_four (x_nw (x_aload 0 (x_iload 5 (x_call (some 12) 2 sp_F12_four (x_nw (x_aload 0 (x_get 12 2 (x_int 0 (x_iald (x_iret Q))))))))))
set_option maxRecDepth 100000 in
theorem s_F12_feed_40 {p : Program} {l : Launch} {e : Env} {R : Room} {s : State} {m : MethodId} {args : Array Value} {below : List Frame} {meth : Method} {c : Code} {nW : Nat} {dC : Nat → ClassId} {dI : Nat → Nat → Nat} {k : Nat → ClassId} {g : Nat → Nat} {A : Nat → Prop} {J : Nat → List qV → List qV → qW → Prop} {Q : qR} (X : q_X p R s m args meth c cX12_feed 6 nW 1 22 RX12 (some .int) dC dI k g A) (hJ : ∀ d : Nat, q_Sd p l e R s m args below meth c 6 nW dC dI k g A (MQ below (q_post (dC, dI) k g nW Q A) args s 0 0 A) d (x_cut (is_F12_feed d) (J d))) : q_Sd p l e R s m args below meth c 6 nW dC dI k g A (MQ below (q_post (dC, dI) k g nW Q A) args s 0 0 A) 40 (b_F12_feed_40 J Q) := by
  unfold b_F12_feed_40
  refine s_callV X (m_F12_four l) tw_1047 tw_1048 tw_1577 tw_134 tw_1049 rfl (by decide +kernel) ⟨by decide, by decide⟩ dF12_feed_40 ?_
  refine s_nw ?_
  refine s_aload_n X rfl dF12_feed_43 ?_
  refine s_iload X dF12_feed_44 ?_
  refine s_callV X (m_F12_four l) tw_1047 tw_1048 tw_1577 tw_134 tw_1049 rfl (by decide +kernel) ⟨by decide, by decide⟩ dF12_feed_46 ?_
  refine s_nw ?_
  refine s_aload_n X rfl dF12_feed_49 ?_
  refine s_get X (T := TX12) (C := RX12) (N := 45) tu_X12 rfl (by decide) tw_999 dF12_feed_50 ?_
  refine s_iconst X ⟨by decide, by decide⟩ dF12_feed_53 ?_
  refine s_iald X dF12_feed_54 ?_
  exact s_iret X dF12_feed_55
set_option maxRecDepth 100000 in
def b_F12_feed_0 (J : Nat → List qV → List qV → qW → Prop) (Q : qR) : qK := x_aload 0 (x_int 0 (x_put 12 0 q_oki (x_nw (x_aload 0 (x_get 12 2 (x_int 0 (x_iald (x_int 20 (x_iadd (x_int 600 (x_icmp_le (x_aload 0 (x_iload 1 (x_call (some 12) 2 sp_F12_four (x_nw (x_aload 0 (x_iload 2 (x_call (some 12) 2 sp_F12_four (x_nw (x_aload 0 (x_iload 3 (x_call (some 12) 2 sp_F12_four (x_nw (x_aload 0 (x_iload 4 (b_F12_feed_40 J Q))))))))))))))) (x_int (-1) (x_iret Q)))))))))))))
set_option maxRecDepth 100000 in
theorem s_F12_feed_0 {p : Program} {l : Launch} {e : Env} {R : Room} {s : State} {m : MethodId} {args : Array Value} {below : List Frame} {meth : Method} {c : Code} {nW : Nat} {dC : Nat → ClassId} {dI : Nat → Nat → Nat} {k : Nat → ClassId} {g : Nat → Nat} {A : Nat → Prop} {J : Nat → List qV → List qV → qW → Prop} {Q : qR} (X : q_X p R s m args meth c cX12_feed 6 nW 1 22 RX12 (some .int) dC dI k g A) (hJ : ∀ d : Nat, q_Sd p l e R s m args below meth c 6 nW dC dI k g A (MQ below (q_post (dC, dI) k g nW Q A) args s 0 0 A) d (x_cut (is_F12_feed d) (J d))) : q_Sd p l e R s m args below meth c 6 nW dC dI k g A (MQ below (q_post (dC, dI) k g nW Q A) args s 0 0 A) 0 (b_F12_feed_0 J Q) := by
  unfold b_F12_feed_0
  refine s_aload_n X rfl dF12_feed_0 ?_
  refine s_iconst X ⟨by decide, by decide⟩ dF12_feed_1 ?_
  refine s_put X (T := TX12) (C := RX12) (N := 45) tu_X12 tyX12_ok nmX12 rfl (by decide) tw_997 rfl (by decide +kernel) q_oki_t dF12_feed_2 ?_
  refine s_nw ?_
  refine s_aload_n X rfl dF12_feed_5 ?_
  refine s_get X (T := TX12) (C := RX12) (N := 45) tu_X12 rfl (by decide) tw_999 dF12_feed_6 ?_
  refine s_iconst X ⟨by decide, by decide⟩ dF12_feed_9 ?_
  refine s_iald X dF12_feed_10 ?_
  refine s_bipush X ⟨by decide, by decide⟩ (by decide) dF12_feed_11 ?_
  refine s_iadd X dF12_feed_13 ?_
  refine s_sipush X ⟨by decide, by decide⟩ (by decide) dF12_feed_14 ?_
  refine s_icmp_le X (tgt := 22) dF12_feed_17 (by decide) ?_ ?_
  · refine s_aload_n X rfl dF12_feed_22 ?_
    refine s_iload_n X rfl dF12_feed_23 ?_
    refine s_callV X (m_F12_four l) tw_1047 tw_1048 tw_1577 tw_134 tw_1049 rfl (by decide +kernel) ⟨by decide, by decide⟩ dF12_feed_24 ?_
    refine s_nw ?_
    refine s_aload_n X rfl dF12_feed_27 ?_
    refine s_iload_n X rfl dF12_feed_28 ?_
    refine s_callV X (m_F12_four l) tw_1047 tw_1048 tw_1577 tw_134 tw_1049 rfl (by decide +kernel) ⟨by decide, by decide⟩ dF12_feed_29 ?_
    refine s_nw ?_
    refine s_aload_n X rfl dF12_feed_32 ?_
    refine s_iload_n X rfl dF12_feed_33 ?_
    refine s_callV X (m_F12_four l) tw_1047 tw_1048 tw_1577 tw_134 tw_1049 rfl (by decide +kernel) ⟨by decide, by decide⟩ dF12_feed_34 ?_
    refine s_nw ?_
    refine s_aload_n X rfl dF12_feed_37 ?_
    refine s_iload X dF12_feed_38 ?_
    exact s_F12_feed_40 X hJ
  · refine s_iconst X ⟨by decide, by decide⟩ dF12_feed_20 ?_
    exact s_iret X dF12_feed_21

def sp_F12_feed : qS := fun av w Q => ∃ (mco : Int) (mre : Int) (mle : Int) (mbe : Int) (mso : Int) (mva : Int) (mwo : Int) (mwr : Int) (mlf : Int) (mlp : Int) (mfp : Int) (mfd : Int) (mgo : Int) (mbo : Int) (mpe : Int) (mye : Int) (mpr : Int) (mld : Int) (msi : Int) (mse : Int) (tp : Nat → Int) (siz : Nat → Int) (a : Int) (b : Int) (cc : Int) (dd : Int) (ee : Int), av = [q2 0, q1 a, q1 b, q1 cc, q1 dd, q1 ee] ∧ w = [.inr (12, [q1 mco, q2 1, q2 2, q2 3, q2 4, q2 5, q2 6, q2 7, q2 8, q2 9, q1 mre, q1 mle, q1 mbe, q1 mso, q1 mva, q3 mwo, q1 mwr, q1 mlf, q1 mlp, q2 10, q2 11, q1 mfp, q1 mfd, q1 mgo, q1 mbo, q1 mpe, q1 mye, q2 12, q1 mpr, q2 13, q2 14, q2 15, q2 16, q1 mld, q2 17, q1 msi, q2 18, q2 19, q2 20, q2 21, q2 22, q1 mse, q2 23, q2 24, q2 25]), .inl (1, 2400, .inl tp), .inl (0, 4, .inl siz)] ∧ (q_rg 0 600 siz) ∧ (∀ (r : Int) (x_mco : Int) (x_tp : Nat → Int) (x_siz : Nat → Int), ((q_rg 0 600 x_siz ∧ szK siz x_siz) ∧ ((580 < siz 0 ∧ r = -1 ∧ x_siz 0 = siz 0 ∧ x_tp = tp) ∨ (siz 0 ≤ 580 ∧ r = siz 0 + 20 ∧ x_siz 0 = siz 0 + 20 ∧ x_tp = fd5 tp (siz 0) a b cc dd ee))) → Q (some (q1 r)) ([.inr (12, [q1 x_mco, q2 1, q2 2, q2 3, q2 4, q2 5, q2 6, q2 7, q2 8, q2 9, q1 mre, q1 mle, q1 mbe, q1 mso, q1 mva, q3 mwo, q1 mwr, q1 mlf, q1 mlp, q2 10, q2 11, q1 mfp, q1 mfd, q1 mgo, q1 mbo, q1 mpe, q1 mye, q2 12, q1 mpr, q2 13, q2 14, q2 15, q2 16, q1 mld, q2 17, q1 msi, q2 18, q2 19, q2 20, q2 21, q2 22, q1 mse, q2 23, q2 24, q2 25]), .inl (1, 2400, .inl x_tp), .inl (0, 4, .inl x_siz)]))
set_option maxHeartbeats 4000000 in
set_option maxRecDepth 100000 in
theorem m_F12_feed (l : Launch) : q_M l yX12_feed cX12_feed 6 (some .int) 1 22 sp_F12_feed := by
  refine q_meth (by decide) (fun av w Q h => by obtain ⟨mco, mre, mle, mbe, mso, mva, mwo, mwr, mlf, mlp, mfp, mfd, mgo, mbo, mpe, mye, mpr, mld, msi, mse, tp, siz, a, b, cc, dd, ee, rfl, rfl, hsz, hQ⟩ := h; exact Nat.le_of_ble_eq_true rfl) ?_
  intro p e R s m args below meth c dC dI k g A av w Q hsp oka okw X
  obtain ⟨mco, mre, mle, mbe, mso, mva, mwo, mwr, mlf, mlp, mfp, mfd, mgo, mbo, mpe, mye, mpr, mld, msi, mse, tp, siz, a, b, cc, dd, ee, rfl, rfl, hsz, hQ⟩ := hsp
  have o_a : -2147483648 ≤ a ∧ a ≤ 2147483647 := oka _ (List.mem_of_getElem? (i := 1) rfl)
  have o_b : -2147483648 ≤ b ∧ b ≤ 2147483647 := oka _ (List.mem_of_getElem? (i := 2) rfl)
  have o_cc : -2147483648 ≤ cc ∧ cc ≤ 2147483647 := oka _ (List.mem_of_getElem? (i := 3) rfl)
  have o_dd : -2147483648 ≤ dd ∧ dd ≤ 2147483647 := oka _ (List.mem_of_getElem? (i := 4) rfl)
  have o_ee : -2147483648 ≤ ee ∧ ee ≤ 2147483647 := oka _ (List.mem_of_getElem? (i := 5) rfl)
  refine s_mono (s_F12_feed_0 X (J := fun _ _ _ _ => False) (fun d => s_cutF)) ?_
  rintro lv st w' ⟨rfl, rfl, rfl⟩
  apply And.intro
  · exact trivial
  apply And.intro
  · exact ⟨by omega, by omega⟩
  intro zq_10 hq_10
  have b10 : zq_10 = siz 0 := hq_10
  have c10 := hsz 0
  intro zq_13 hq_13
  first | replace hq_13 := e_add hq_13 (by omega) | replace hq_13 := e_rng hq_13
  apply And.intro
  · intro hq_17
    refine Exists.intro [0, 1, 2, 3, 4, 5, 6, 7, 8, 9, 10, 11, 12, 13, 14, 15, 16, 17, 18, 19, 20, 21, 22, 23, 24, 25] (Exists.intro [q2 0, q1 _] (Exists.intro ([.inr (12, [q1 _, q2 1, q2 2, q2 3, q2 4, q2 5, q2 6, q2 7, q2 8, q2 9, q1 _, q1 _, q1 _, q1 _, q1 _, q3 _, q1 _, q1 _, q1 _, q2 10, q2 11, q1 _, q1 _, q1 _, q1 _, q1 _, q1 _, q2 12, q1 _, q2 13, q2 14, q2 15, q2 16, q1 _, q2 17, q1 _, q2 18, q2 19, q2 20, q2 21, q2 22, q1 _, q2 23, q2 24, q2 25]), .inl (1, 2400, .inl _), .inl (0, 4, .inl _)]) (And.intro rfl (And.intro rfl (And.intro rfl (And.intro ⟨⟨_, rfl⟩, rfl⟩ ?_))))))
    refine Exists.intro _ (Exists.intro _ (Exists.intro _ (Exists.intro _ (Exists.intro _ (Exists.intro _ (Exists.intro _ (Exists.intro _ (Exists.intro _ (Exists.intro _ (Exists.intro _ (Exists.intro _ (Exists.intro _ (Exists.intro _ (Exists.intro _ (Exists.intro _ (Exists.intro _ (Exists.intro _ (Exists.intro _ (Exists.intro _ (Exists.intro _ (Exists.intro _ (Exists.intro _ (And.intro rfl (And.intro rfl (And.intro (by first | assumption | exact hq_24.1.1 | exact hq_29.1.1 | exact hq_34.1.1 | exact hq_40.1.1) (And.intro (by first | omega | assumption | exact q_rg_up (by assumption) (by omega) | exact q_rg_up (q_rg_up (by assumption) (by omega)) (by omega) | exact q_rg_cpy (by assumption) (by assumption)) (?_)))))))))))))))))))))))))))
    intro x_tp_24 x_siz_24 hq_24
    have n24 := hq_24.1.2.1
    refine Exists.intro [0, 1, 2, 3, 4, 5, 6, 7, 8, 9, 10, 11, 12, 13, 14, 15, 16, 17, 18, 19, 20, 21, 22, 23, 24, 25] (Exists.intro [q2 0, q1 _] (Exists.intro ([.inr (12, [q1 _, q2 1, q2 2, q2 3, q2 4, q2 5, q2 6, q2 7, q2 8, q2 9, q1 _, q1 _, q1 _, q1 _, q1 _, q3 _, q1 _, q1 _, q1 _, q2 10, q2 11, q1 _, q1 _, q1 _, q1 _, q1 _, q1 _, q2 12, q1 _, q2 13, q2 14, q2 15, q2 16, q1 _, q2 17, q1 _, q2 18, q2 19, q2 20, q2 21, q2 22, q1 _, q2 23, q2 24, q2 25]), .inl (1, 2400, .inl _), .inl (0, 4, .inl _)]) (And.intro rfl (And.intro rfl (And.intro rfl (And.intro ⟨⟨_, rfl⟩, rfl⟩ ?_))))))
    refine Exists.intro _ (Exists.intro _ (Exists.intro _ (Exists.intro _ (Exists.intro _ (Exists.intro _ (Exists.intro _ (Exists.intro _ (Exists.intro _ (Exists.intro _ (Exists.intro _ (Exists.intro _ (Exists.intro _ (Exists.intro _ (Exists.intro _ (Exists.intro _ (Exists.intro _ (Exists.intro _ (Exists.intro _ (Exists.intro _ (Exists.intro _ (Exists.intro _ (Exists.intro _ (And.intro rfl (And.intro rfl (And.intro (by first | assumption | exact hq_24.1.1 | exact hq_29.1.1 | exact hq_34.1.1 | exact hq_40.1.1) (And.intro (by first | omega | assumption | exact q_rg_up (by assumption) (by omega) | exact q_rg_up (q_rg_up (by assumption) (by omega)) (by omega) | exact q_rg_cpy (by assumption) (by assumption)) (?_)))))))))))))))))))))))))))
    intro x_tp_29 x_siz_29 hq_29
    have n29 := hq_29.1.2.1
    refine Exists.intro [0, 1, 2, 3, 4, 5, 6, 7, 8, 9, 10, 11, 12, 13, 14, 15, 16, 17, 18, 19, 20, 21, 22, 23, 24, 25] (Exists.intro [q2 0, q1 _] (Exists.intro ([.inr (12, [q1 _, q2 1, q2 2, q2 3, q2 4, q2 5, q2 6, q2 7, q2 8, q2 9, q1 _, q1 _, q1 _, q1 _, q1 _, q3 _, q1 _, q1 _, q1 _, q2 10, q2 11, q1 _, q1 _, q1 _, q1 _, q1 _, q1 _, q2 12, q1 _, q2 13, q2 14, q2 15, q2 16, q1 _, q2 17, q1 _, q2 18, q2 19, q2 20, q2 21, q2 22, q1 _, q2 23, q2 24, q2 25]), .inl (1, 2400, .inl _), .inl (0, 4, .inl _)]) (And.intro rfl (And.intro rfl (And.intro rfl (And.intro ⟨⟨_, rfl⟩, rfl⟩ ?_))))))
    refine Exists.intro _ (Exists.intro _ (Exists.intro _ (Exists.intro _ (Exists.intro _ (Exists.intro _ (Exists.intro _ (Exists.intro _ (Exists.intro _ (Exists.intro _ (Exists.intro _ (Exists.intro _ (Exists.intro _ (Exists.intro _ (Exists.intro _ (Exists.intro _ (Exists.intro _ (Exists.intro _ (Exists.intro _ (Exists.intro _ (Exists.intro _ (Exists.intro _ (Exists.intro _ (And.intro rfl (And.intro rfl (And.intro (by first | assumption | exact hq_24.1.1 | exact hq_29.1.1 | exact hq_34.1.1 | exact hq_40.1.1) (And.intro (by first | omega | assumption | exact q_rg_up (by assumption) (by omega) | exact q_rg_up (q_rg_up (by assumption) (by omega)) (by omega) | exact q_rg_cpy (by assumption) (by assumption)) (?_)))))))))))))))))))))))))))
    intro x_tp_34 x_siz_34 hq_34
    have n34 := hq_34.1.2.1
    refine Exists.intro [0, 1, 2, 3, 4, 5, 6, 7, 8, 9, 10, 11, 12, 13, 14, 15, 16, 17, 18, 19, 20, 21, 22, 23, 24, 25] (Exists.intro [q2 0, q1 _] (Exists.intro ([.inr (12, [q1 _, q2 1, q2 2, q2 3, q2 4, q2 5, q2 6, q2 7, q2 8, q2 9, q1 _, q1 _, q1 _, q1 _, q1 _, q3 _, q1 _, q1 _, q1 _, q2 10, q2 11, q1 _, q1 _, q1 _, q1 _, q1 _, q1 _, q2 12, q1 _, q2 13, q2 14, q2 15, q2 16, q1 _, q2 17, q1 _, q2 18, q2 19, q2 20, q2 21, q2 22, q1 _, q2 23, q2 24, q2 25]), .inl (1, 2400, .inl _), .inl (0, 4, .inl _)]) (And.intro rfl (And.intro rfl (And.intro rfl (And.intro ⟨⟨_, rfl⟩, rfl⟩ ?_))))))
    refine Exists.intro _ (Exists.intro _ (Exists.intro _ (Exists.intro _ (Exists.intro _ (Exists.intro _ (Exists.intro _ (Exists.intro _ (Exists.intro _ (Exists.intro _ (Exists.intro _ (Exists.intro _ (Exists.intro _ (Exists.intro _ (Exists.intro _ (Exists.intro _ (Exists.intro _ (Exists.intro _ (Exists.intro _ (Exists.intro _ (Exists.intro _ (Exists.intro _ (Exists.intro _ (And.intro rfl (And.intro rfl (And.intro (by first | assumption | exact hq_24.1.1 | exact hq_29.1.1 | exact hq_34.1.1 | exact hq_40.1.1) (And.intro (by first | omega | assumption | exact q_rg_up (by assumption) (by omega) | exact q_rg_up (q_rg_up (by assumption) (by omega)) (by omega) | exact q_rg_cpy (by assumption) (by assumption)) (?_)))))))))))))))))))))))))))
    intro x_tp_40 x_siz_40 hq_40
    have n40 := hq_40.1.2.1
    refine Exists.intro [0, 1, 2, 3, 4, 5, 6, 7, 8, 9, 10, 11, 12, 13, 14, 15, 16, 17, 18, 19, 20, 21, 22, 23, 24, 25] (Exists.intro [q2 0, q1 _] (Exists.intro ([.inr (12, [q1 _, q2 1, q2 2, q2 3, q2 4, q2 5, q2 6, q2 7, q2 8, q2 9, q1 _, q1 _, q1 _, q1 _, q1 _, q3 _, q1 _, q1 _, q1 _, q2 10, q2 11, q1 _, q1 _, q1 _, q1 _, q1 _, q1 _, q2 12, q1 _, q2 13, q2 14, q2 15, q2 16, q1 _, q2 17, q1 _, q2 18, q2 19, q2 20, q2 21, q2 22, q1 _, q2 23, q2 24, q2 25]), .inl (1, 2400, .inl _), .inl (0, 4, .inl _)]) (And.intro rfl (And.intro rfl (And.intro rfl (And.intro ⟨⟨_, rfl⟩, rfl⟩ ?_))))))
    refine Exists.intro _ (Exists.intro _ (Exists.intro _ (Exists.intro _ (Exists.intro _ (Exists.intro _ (Exists.intro _ (Exists.intro _ (Exists.intro _ (Exists.intro _ (Exists.intro _ (Exists.intro _ (Exists.intro _ (Exists.intro _ (Exists.intro _ (Exists.intro _ (Exists.intro _ (Exists.intro _ (Exists.intro _ (Exists.intro _ (Exists.intro _ (Exists.intro _ (Exists.intro _ (And.intro rfl (And.intro rfl (And.intro (by first | assumption | exact hq_24.1.1 | exact hq_29.1.1 | exact hq_34.1.1 | exact hq_40.1.1) (And.intro (by first | omega | assumption | exact q_rg_up (by assumption) (by omega) | exact q_rg_up (q_rg_up (by assumption) (by omega)) (by omega) | exact q_rg_cpy (by assumption) (by assumption)) (?_)))))))))))))))))))))))))))
    intro x_tp_46 x_siz_46 hq_46
    have n46 := hq_46.1.2.1
    apply And.intro
    · exact ⟨by omega, by omega⟩
    intro zq_54 hq_54
    have b54 : zq_54 = x_siz_46 0 := hq_54
    exact hQ _ _ _ _ ⟨⟨(by first | assumption | exact hq_46.1.1), (by first | exact szK_r | exact szK_t (szK_t (szK_t (szK_t hq_24.1.2.2 hq_29.1.2.2) hq_34.1.2.2) hq_40.1.2.2) hq_46.1.2.2)⟩, (by first | exact Or.inl ⟨by omega, by omega, by omega, rfl⟩ | exact Or.inr ⟨by omega, by omega, by omega, (by rw [hq_46.2, hq_40.2, hq_34.2, hq_29.2, hq_24.2, n40, n34, n29, n24]; rfl)⟩)⟩
  · intro hq_17
    exact hQ _ _ _ _ ⟨⟨(by first | assumption | exact hq_46.1.1), (by first | exact szK_r | exact szK_t (szK_t (szK_t (szK_t hq_24.1.2.2 hq_29.1.2.2) hq_34.1.2.2) hq_40.1.2.2) hq_46.1.2.2)⟩, (by first | exact Or.inl ⟨by omega, by omega, by omega, rfl⟩ | exact Or.inr ⟨by omega, by omega, by omega, (by rw [hq_46.2, hq_40.2, hq_34.2, hq_29.2, hq_24.2, n40, n34, n29, n24]; rfl)⟩)⟩

theorem dF12_fault_0 : decode cX12_fault 0 = .ok (.aload_n 0, 1) := by decide +kernel
theorem dF12_fault_1 : decode cX12_fault 1 = .ok (.iconst 0, 1) := by decide +kernel
theorem dF12_fault_2 : decode cX12_fault 2 = .ok (.putfield 88, 3) := by decide +kernel
theorem dF12_fault_5 : decode cX12_fault 5 = .ok (.iload_n 1, 1) := by decide +kernel
theorem dF12_fault_6 : decode cX12_fault 6 = .ok (.ifCond .ne 12, 3) := by decide +kernel
theorem dF12_fault_9 : decode cX12_fault 9 = .ok (.aload_n 0, 1) := by decide +kernel
theorem dF12_fault_10 : decode cX12_fault 10 = .ok (.getfield 17, 3) := by decide +kernel
theorem dF12_fault_13 : decode cX12_fault 13 = .ok (.iconst 0, 1) := by decide +kernel
theorem dF12_fault_14 : decode cX12_fault 14 = .ok (.iaload, 1) := by decide +kernel
theorem dF12_fault_15 : decode cX12_fault 15 = .ok (.goto 18, 3) := by decide +kernel
theorem dF12_fault_18 : decode cX12_fault 18 = .ok (.iload_n 1, 1) := by decide +kernel
theorem dF12_fault_19 : decode cX12_fault 19 = .ok (.iconst 1, 1) := by decide +kernel
theorem dF12_fault_20 : decode cX12_fault 20 = .ok (.if_icmp .ne 12, 3) := by decide +kernel
theorem dF12_fault_23 : decode cX12_fault 23 = .ok (.aload_n 0, 1) := by decide +kernel
theorem dF12_fault_24 : decode cX12_fault 24 = .ok (.getfield 20, 3) := by decide +kernel
theorem dF12_fault_27 : decode cX12_fault 27 = .ok (.iconst 0, 1) := by decide +kernel
theorem dF12_fault_28 : decode cX12_fault 28 = .ok (.iaload, 1) := by decide +kernel
theorem dF12_fault_29 : decode cX12_fault 29 = .ok (.goto 4, 3) := by decide +kernel
theorem dF12_fault_32 : decode cX12_fault 32 = .ok (.iconst (-1), 1) := by decide +kernel
theorem dF12_fault_33 : decode cX12_fault 33 = .ok (.ireturn, 1) := by decide +kernel
def is_F12_fault : Nat → List Nat := fun d => []
set_option maxRecDepth 100000 in
def b_F12_fault_33 (J : Nat → List qV → List qV → qW → Prop) (Q : qR) : qK := x_iret Q
set_option maxRecDepth 100000 in
theorem s_F12_fault_33 {p : Program} {l : Launch} {e : Env} {R : Room} {s : State} {m : MethodId} {args : Array Value} {below : List Frame} {meth : Method} {c : Code} {nW : Nat} {dC : Nat → ClassId} {dI : Nat → Nat → Nat} {k : Nat → ClassId} {g : Nat → Nat} {A : Nat → Prop} {J : Nat → List qV → List qV → qW → Prop} {Q : qR} (X : q_X p R s m args meth c cX12_fault 2 nW 0 0 RX12 (some .int) dC dI k g A) (hJ : ∀ d : Nat, q_Sd p l e R s m args below meth c 2 nW dC dI k g A (MQ below (q_post (dC, dI) k g nW Q A) args s 0 0 A) d (x_cut (is_F12_fault d) (J d))) : q_Sd p l e R s m args below meth c 2 nW dC dI k g A (MQ below (q_post (dC, dI) k g nW Q A) args s 0 0 A) 33 (b_F12_fault_33 J Q) := by
  unfold b_F12_fault_33
  exact s_iret X dF12_fault_33
set_option maxRecDepth 100000 in
def b_F12_fault_0 (J : Nat → List qV → List qV → qW → Prop) (Q : qR) : qK := x_aload 0 (x_int 0 (x_put 12 0 q_oki (x_nw (x_iload 1 (x_if_ne (x_iload 1 (x_int 1 (x_icmp_ne (x_int (-1) (b_F12_fault_33 J Q)) (x_aload 0 (x_get 12 4 (x_int 0 (x_iald (b_F12_fault_33 J Q)))))))) (x_aload 0 (x_get 12 3 (x_int 0 (x_iald (b_F12_fault_33 J Q))))))))))
set_option maxRecDepth 100000 in
theorem s_F12_fault_0 {p : Program} {l : Launch} {e : Env} {R : Room} {s : State} {m : MethodId} {args : Array Value} {below : List Frame} {meth : Method} {c : Code} {nW : Nat} {dC : Nat → ClassId} {dI : Nat → Nat → Nat} {k : Nat → ClassId} {g : Nat → Nat} {A : Nat → Prop} {J : Nat → List qV → List qV → qW → Prop} {Q : qR} (X : q_X p R s m args meth c cX12_fault 2 nW 0 0 RX12 (some .int) dC dI k g A) (hJ : ∀ d : Nat, q_Sd p l e R s m args below meth c 2 nW dC dI k g A (MQ below (q_post (dC, dI) k g nW Q A) args s 0 0 A) d (x_cut (is_F12_fault d) (J d))) : q_Sd p l e R s m args below meth c 2 nW dC dI k g A (MQ below (q_post (dC, dI) k g nW Q A) args s 0 0 A) 0 (b_F12_fault_0 J Q) := by
  unfold b_F12_fault_0
  refine s_aload_n X rfl dF12_fault_0 ?_
  refine s_iconst X ⟨by decide, by decide⟩ dF12_fault_1 ?_
  refine s_put X (T := TX12) (C := RX12) (N := 45) tu_X12 tyX12_ok nmX12 rfl (by decide) tw_997 rfl (by decide +kernel) q_oki_t dF12_fault_2 ?_
  refine s_nw ?_
  refine s_iload_n X rfl dF12_fault_5 ?_
  refine s_if_ne X (tgt := 18) dF12_fault_6 (by decide) ?_ ?_
  · refine s_iload_n X rfl dF12_fault_18 ?_
    refine s_iconst X ⟨by decide, by decide⟩ dF12_fault_19 ?_
    refine s_icmp_ne X (tgt := 32) dF12_fault_20 (by decide) ?_ ?_
    · refine s_iconst X ⟨by decide, by decide⟩ dF12_fault_32 ?_
      exact s_F12_fault_33 X hJ
    · refine s_aload_n X rfl dF12_fault_23 ?_
      refine s_get X (T := TX12) (C := RX12) (N := 45) tu_X12 rfl (by decide) tw_1001 dF12_fault_24 ?_
      refine s_iconst X ⟨by decide, by decide⟩ dF12_fault_27 ?_
      refine s_iald X dF12_fault_28 ?_
      refine s_goto X (tgt := 33) dF12_fault_29 (by decide) ?_
      exact s_F12_fault_33 X hJ
  · refine s_aload_n X rfl dF12_fault_9 ?_
    refine s_get X (T := TX12) (C := RX12) (N := 45) tu_X12 rfl (by decide) tw_1000 dF12_fault_10 ?_
    refine s_iconst X ⟨by decide, by decide⟩ dF12_fault_13 ?_
    refine s_iald X dF12_fault_14 ?_
    refine s_goto X (tgt := 33) dF12_fault_15 (by decide) ?_
    exact s_F12_fault_33 X hJ

def sp_F12_fault : qS := fun av w Q => ∃ (mco : Int) (mre : Int) (mle : Int) (mbe : Int) (mso : Int) (mva : Int) (mwo : Int) (mwr : Int) (mlf : Int) (mlp : Int) (mfp : Int) (mfd : Int) (mgo : Int) (mbo : Int) (mpe : Int) (mye : Int) (mpr : Int) (mld : Int) (msi : Int) (mse : Int) (fa : Nat → Int) (fpl : Nat → Int) (a : Int), av = [q2 0, q1 a] ∧ w = [.inr (12, [q1 mco, q2 3, q2 4, q2 1, q2 2, q2 5, q2 6, q2 7, q2 8, q2 9, q1 mre, q1 mle, q1 mbe, q1 mso, q1 mva, q3 mwo, q1 mwr, q1 mlf, q1 mlp, q2 10, q2 11, q1 mfp, q1 mfd, q1 mgo, q1 mbo, q1 mpe, q1 mye, q2 12, q1 mpr, q2 13, q2 14, q2 15, q2 16, q1 mld, q2 17, q1 msi, q2 18, q2 19, q2 20, q2 21, q2 22, q1 mse, q2 23, q2 24, q2 25]), .inl (0, 4, .inl fa), .inl (0, 4, .inl fpl)] ∧ (∀ (r : Int) (x_mco : Int), (r = if a = 0 then fa 0 else if a = 1 then fpl 0 else -1) → Q (some (q1 r)) ([.inr (12, [q1 x_mco, q2 3, q2 4, q2 1, q2 2, q2 5, q2 6, q2 7, q2 8, q2 9, q1 mre, q1 mle, q1 mbe, q1 mso, q1 mva, q3 mwo, q1 mwr, q1 mlf, q1 mlp, q2 10, q2 11, q1 mfp, q1 mfd, q1 mgo, q1 mbo, q1 mpe, q1 mye, q2 12, q1 mpr, q2 13, q2 14, q2 15, q2 16, q1 mld, q2 17, q1 msi, q2 18, q2 19, q2 20, q2 21, q2 22, q1 mse, q2 23, q2 24, q2 25]), .inl (0, 4, .inl fa), .inl (0, 4, .inl fpl)]))
set_option maxHeartbeats 4000000 in
set_option maxRecDepth 100000 in
theorem m_F12_fault (l : Launch) : q_M l yX12_fault cX12_fault 2 (some .int) 0 0 sp_F12_fault := by
  refine q_meth (by decide) (fun av w Q h => by obtain ⟨mco, mre, mle, mbe, mso, mva, mwo, mwr, mlf, mlp, mfp, mfd, mgo, mbo, mpe, mye, mpr, mld, msi, mse, fa, fpl, a, rfl, rfl, hQ⟩ := h; exact Nat.le_of_ble_eq_true rfl) ?_
  intro p e R s m args below meth c dC dI k g A av w Q hsp oka okw X
  obtain ⟨mco, mre, mle, mbe, mso, mva, mwo, mwr, mlf, mlp, mfp, mfd, mgo, mbo, mpe, mye, mpr, mld, msi, mse, fa, fpl, a, rfl, rfl, hQ⟩ := hsp
  have o_a : -2147483648 ≤ a ∧ a ≤ 2147483647 := oka _ (List.mem_of_getElem? (i := 1) rfl)
  refine s_mono (s_F12_fault_0 X (J := fun _ _ _ _ => False) (fun d => s_cutF)) ?_
  rintro lv st w' ⟨rfl, rfl, rfl⟩
  apply And.intro
  · exact trivial
  apply And.intro
  · intro hq_6
    apply And.intro
    · intro hq_20
      exact hQ _ _ (by first | (rw [if_pos (by omega)]; exact hq_14) | (rw [if_neg (by omega), if_pos (by omega)]; exact hq_28) | (rw [if_neg (by omega), if_neg (by omega)]))
    · intro hq_20
      apply And.intro
      · exact ⟨by omega, by omega⟩
      intro zq_28 hq_28
      exact hQ _ _ (by first | (rw [if_pos (by omega)]; exact hq_14) | (rw [if_neg (by omega), if_pos (by omega)]; exact hq_28) | (rw [if_neg (by omega), if_neg (by omega)]))
  · intro hq_6
    apply And.intro
    · exact ⟨by omega, by omega⟩
    intro zq_14 hq_14
    exact hQ _ _ (by first | (rw [if_pos (by omega)]; exact hq_14) | (rw [if_neg (by omega), if_pos (by omega)]; exact hq_28) | (rw [if_neg (by omega), if_neg (by omega)]))

theorem dF12_count_0 : decode cX12_count 0 = .ok (.aload_n 0, 1) := by decide +kernel
theorem dF12_count_1 : decode cX12_count 1 = .ok (.iconst 0, 1) := by decide +kernel
theorem dF12_count_2 : decode cX12_count 2 = .ok (.putfield 88, 3) := by decide +kernel
theorem dF12_count_5 : decode cX12_count 5 = .ok (.iload_n 1, 1) := by decide +kernel
theorem dF12_count_6 : decode cX12_count 6 = .ok (.iconst 0, 1) := by decide +kernel
theorem dF12_count_7 : decode cX12_count 7 = .ok (.iconst 3, 1) := by decide +kernel
theorem dF12_count_8 : decode cX12_count 8 = .ok (.invokestatic 100, 3) := by decide +kernel
theorem dF12_count_11 : decode cX12_count 11 = .ok (.ifCond .eq 12, 3) := by decide +kernel
theorem dF12_count_14 : decode cX12_count 14 = .ok (.aload_n 0, 1) := by decide +kernel
theorem dF12_count_15 : decode cX12_count 15 = .ok (.getfield 23, 3) := by decide +kernel
theorem dF12_count_18 : decode cX12_count 18 = .ok (.iload_n 1, 1) := by decide +kernel
theorem dF12_count_19 : decode cX12_count 19 = .ok (.iaload, 1) := by decide +kernel
theorem dF12_count_20 : decode cX12_count 20 = .ok (.goto 5, 3) := by decide +kernel
theorem dF12_count_23 : decode cX12_count 23 = .ok (.bipush (-2), 2) := by decide +kernel
theorem dF12_count_25 : decode cX12_count 25 = .ok (.ireturn, 1) := by decide +kernel
def is_F12_count : Nat → List Nat := fun d => []
set_option maxRecDepth 100000 in
def b_F12_count_25 (J : Nat → List qV → List qV → qW → Prop) (Q : qR) : qK := x_iret Q
set_option maxRecDepth 100000 in
theorem s_F12_count_25 {p : Program} {l : Launch} {e : Env} {R : Room} {s : State} {m : MethodId} {args : Array Value} {below : List Frame} {meth : Method} {c : Code} {nW : Nat} {dC : Nat → ClassId} {dI : Nat → Nat → Nat} {k : Nat → ClassId} {g : Nat → Nat} {A : Nat → Prop} {J : Nat → List qV → List qV → qW → Prop} {Q : qR} (X : q_X p R s m args meth c cX12_count 2 nW 1 22 RX12 (some .int) dC dI k g A) (hJ : ∀ d : Nat, q_Sd p l e R s m args below meth c 2 nW dC dI k g A (MQ below (q_post (dC, dI) k g nW Q A) args s 0 0 A) d (x_cut (is_F12_count d) (J d))) : q_Sd p l e R s m args below meth c 2 nW dC dI k g A (MQ below (q_post (dC, dI) k g nW Q A) args s 0 0 A) 25 (b_F12_count_25 J Q) := by
  unfold b_F12_count_25
  exact s_iret X dF12_count_25
set_option maxRecDepth 100000 in
def b_F12_count_0 (J : Nat → List qV → List qV → qW → Prop) (Q : qR) : qK := x_aload 0 (x_int 0 (x_put 12 0 q_oki (x_nw (x_iload 1 (x_int 0 (x_int 3 (x_callr none 3 spr_X12_in (x_if_eq (x_int (-2) (b_F12_count_25 J Q)) (x_aload 0 (x_get 12 5 (x_iload 1 (x_iald (b_F12_count_25 J Q)))))))))))))
set_option maxRecDepth 100000 in
theorem s_F12_count_0 {p : Program} {l : Launch} {e : Env} {R : Room} {s : State} {m : MethodId} {args : Array Value} {below : List Frame} {meth : Method} {c : Code} {nW : Nat} {dC : Nat → ClassId} {dI : Nat → Nat → Nat} {k : Nat → ClassId} {g : Nat → Nat} {A : Nat → Prop} {J : Nat → List qV → List qV → qW → Prop} {Q : qR} (X : q_X p R s m args meth c cX12_count 2 nW 1 22 RX12 (some .int) dC dI k g A) (hJ : ∀ d : Nat, q_Sd p l e R s m args below meth c 2 nW dC dI k g A (MQ below (q_post (dC, dI) k g nW Q A) args s 0 0 A) d (x_cut (is_F12_count d) (J d))) : q_Sd p l e R s m args below meth c 2 nW dC dI k g A (MQ below (q_post (dC, dI) k g nW Q A) args s 0 0 A) 0 (b_F12_count_0 J Q) := by
  unfold b_F12_count_0
  refine s_aload_n X rfl dF12_count_0 ?_
  refine s_iconst X ⟨by decide, by decide⟩ dF12_count_1 ?_
  refine s_put X (T := TX12) (C := RX12) (N := 45) tu_X12 tyX12_ok nmX12 rfl (by decide) tw_997 rfl (by decide +kernel) q_oki_t dF12_count_2 ?_
  refine s_nw ?_
  refine s_iload_n X rfl dF12_count_5 ?_
  refine s_iconst X ⟨by decide, by decide⟩ dF12_count_6 ?_
  refine s_iconst X ⟨by decide, by decide⟩ dF12_count_7 ?_
  refine s_callSr X (m_X12_in l) tw_1054 tw_1055 tw_134 tw_1056 (by decide +kernel) ⟨by decide, by decide⟩ dF12_count_8 ?_
  refine s_if_eq X (tgt := 23) dF12_count_11 (by decide) ?_ ?_
  · refine s_bipush X ⟨by decide, by decide⟩ (by decide) dF12_count_23 ?_
    exact s_F12_count_25 X hJ
  · refine s_aload_n X rfl dF12_count_14 ?_
    refine s_get X (T := TX12) (C := RX12) (N := 45) tu_X12 rfl (by decide) tw_1002 dF12_count_15 ?_
    refine s_iload_n X rfl dF12_count_18 ?_
    refine s_iald X dF12_count_19 ?_
    refine s_goto X (tgt := 25) dF12_count_20 (by decide) ?_
    exact s_F12_count_25 X hJ

def sp_F12_count : qS := fun av w Q => ∃ (mco : Int) (mre : Int) (mle : Int) (mbe : Int) (mso : Int) (mva : Int) (mwo : Int) (mwr : Int) (mlf : Int) (mlp : Int) (mfp : Int) (mfd : Int) (mgo : Int) (mbo : Int) (mpe : Int) (mye : Int) (mpr : Int) (mld : Int) (msi : Int) (mse : Int) (mn : Nat → Int) (a : Int), av = [q2 0, q1 a] ∧ w = [.inr (12, [q1 mco, q2 2, q2 3, q2 4, q2 5, q2 1, q2 6, q2 7, q2 8, q2 9, q1 mre, q1 mle, q1 mbe, q1 mso, q1 mva, q3 mwo, q1 mwr, q1 mlf, q1 mlp, q2 10, q2 11, q1 mfp, q1 mfd, q1 mgo, q1 mbo, q1 mpe, q1 mye, q2 12, q1 mpr, q2 13, q2 14, q2 15, q2 16, q1 mld, q2 17, q1 msi, q2 18, q2 19, q2 20, q2 21, q2 22, q1 mse, q2 23, q2 24, q2 25]), .inl (0, 16, .inl mn)] ∧ (q_rg 0 2 mn) ∧ (∀ (r : Int) (x_mco : Int), ((0 ≤ a ∧ a ≤ 3) ∧ r = mn a.toNat ∨ ¬ (0 ≤ a ∧ a ≤ 3) ∧ r = -2) → Q (some (q1 r)) ([.inr (12, [q1 x_mco, q2 2, q2 3, q2 4, q2 5, q2 1, q2 6, q2 7, q2 8, q2 9, q1 mre, q1 mle, q1 mbe, q1 mso, q1 mva, q3 mwo, q1 mwr, q1 mlf, q1 mlp, q2 10, q2 11, q1 mfp, q1 mfd, q1 mgo, q1 mbo, q1 mpe, q1 mye, q2 12, q1 mpr, q2 13, q2 14, q2 15, q2 16, q1 mld, q2 17, q1 msi, q2 18, q2 19, q2 20, q2 21, q2 22, q1 mse, q2 23, q2 24, q2 25]), .inl (0, 16, .inl mn)]))
set_option maxHeartbeats 4000000 in
set_option maxRecDepth 100000 in
theorem m_F12_count (l : Launch) : q_M l yX12_count cX12_count 2 (some .int) 1 22 sp_F12_count := by
  refine q_meth (by decide) (fun av w Q h => by obtain ⟨mco, mre, mle, mbe, mso, mva, mwo, mwr, mlf, mlp, mfp, mfd, mgo, mbo, mpe, mye, mpr, mld, msi, mse, mn, a, rfl, rfl, hmn, hQ⟩ := h; exact Nat.le_of_ble_eq_true rfl) ?_
  intro p e R s m args below meth c dC dI k g A av w Q hsp oka okw X
  obtain ⟨mco, mre, mle, mbe, mso, mva, mwo, mwr, mlf, mlp, mfp, mfd, mgo, mbo, mpe, mye, mpr, mld, msi, mse, mn, a, rfl, rfl, hmn, hQ⟩ := hsp
  have o_a : -2147483648 ≤ a ∧ a ≤ 2147483647 := oka _ (List.mem_of_getElem? (i := 1) rfl)
  refine s_mono (s_F12_count_0 X (J := fun _ _ _ _ => False) (fun d => s_cutF)) ?_
  rintro lv st w' ⟨rfl, rfl, rfl⟩
  apply And.intro
  · exact trivial
  refine Exists.intro [] (Exists.intro [q1 _, q1 _, q1 _] (Exists.intro [] (And.intro rfl (And.intro rfl (And.intro rfl (And.intro trivial ?_))))))
  refine Exists.intro _ (Exists.intro _ (Exists.intro _ (And.intro rfl (And.intro rfl (?_)))))
  intro zq_8 hq_8
  apply And.intro
  · intro hq_11
    first | replace hq_8 := dj1 hq_8 hq_11 | replace hq_8 := dj0 hq_8 hq_11
    exact hQ _ _ (by first | omega | assumption | exact q_rg_up (by assumption) (by omega) | exact q_rg_up (q_rg_up (by assumption) (by omega)) (by omega) | exact q_rg_cpy (by assumption) (by assumption))
  · intro hq_11
    first | replace hq_8 := dj1 hq_8 hq_11 | replace hq_8 := dj0 hq_8 hq_11
    apply And.intro
    · exact ⟨by omega, by omega⟩
    intro zq_19 hq_19
    exact hQ _ _ (by first | omega | assumption | exact q_rg_up (by assumption) (by omega) | exact q_rg_up (q_rg_up (by assumption) (by omega)) (by omega) | exact q_rg_cpy (by assumption) (by assumption))

theorem dF12_copyAll_0 : decode cX12_copyAll 0 = .ok (.iconst 0, 1) := by decide +kernel
theorem dF12_copyAll_1 : decode cX12_copyAll 1 = .ok (.istore_n 3, 1) := by decide +kernel
theorem dF12_copyAll_2 : decode cX12_copyAll 2 = .ok (.iload_n 3, 1) := by decide +kernel
theorem dF12_copyAll_3 : decode cX12_copyAll 3 = .ok (.sipush 600, 3) := by decide +kernel
theorem dF12_copyAll_6 : decode cX12_copyAll 6 = .ok (.if_icmp .ge 33, 3) := by decide +kernel
theorem dF12_copyAll_9 : decode cX12_copyAll 9 = .ok (.aload_n 0, 1) := by decide +kernel
theorem dF12_copyAll_10 : decode cX12_copyAll 10 = .ok (.getfield 7, 3) := by decide +kernel
theorem dF12_copyAll_13 : decode cX12_copyAll 13 = .ok (.sipush 600, 3) := by decide +kernel
theorem dF12_copyAll_16 : decode cX12_copyAll 16 = .ok (.iload_n 2, 1) := by decide +kernel
theorem dF12_copyAll_17 : decode cX12_copyAll 17 = .ok (.imul, 1) := by decide +kernel
theorem dF12_copyAll_18 : decode cX12_copyAll 18 = .ok (.iload_n 3, 1) := by decide +kernel
theorem dF12_copyAll_19 : decode cX12_copyAll 19 = .ok (.iadd, 1) := by decide +kernel
theorem dF12_copyAll_20 : decode cX12_copyAll 20 = .ok (.aload_n 0, 1) := by decide +kernel
theorem dF12_copyAll_21 : decode cX12_copyAll 21 = .ok (.getfield 7, 3) := by decide +kernel
theorem dF12_copyAll_24 : decode cX12_copyAll 24 = .ok (.sipush 600, 3) := by decide +kernel
theorem dF12_copyAll_27 : decode cX12_copyAll 27 = .ok (.iload_n 1, 1) := by decide +kernel
theorem dF12_copyAll_28 : decode cX12_copyAll 28 = .ok (.imul, 1) := by decide +kernel
theorem dF12_copyAll_29 : decode cX12_copyAll 29 = .ok (.iload_n 3, 1) := by decide +kernel
theorem dF12_copyAll_30 : decode cX12_copyAll 30 = .ok (.iadd, 1) := by decide +kernel
theorem dF12_copyAll_31 : decode cX12_copyAll 31 = .ok (.baload, 1) := by decide +kernel
theorem dF12_copyAll_32 : decode cX12_copyAll 32 = .ok (.bastore, 1) := by decide +kernel
theorem dF12_copyAll_33 : decode cX12_copyAll 33 = .ok (.iinc 3 1, 3) := by decide +kernel
theorem dF12_copyAll_36 : decode cX12_copyAll 36 = .ok (.goto (-34), 3) := by decide +kernel
theorem dF12_copyAll_39 : decode cX12_copyAll 39 = .ok (.aload_n 0, 1) := by decide +kernel
theorem dF12_copyAll_40 : decode cX12_copyAll 40 = .ok (.getfield 13, 3) := by decide +kernel
theorem dF12_copyAll_43 : decode cX12_copyAll 43 = .ok (.iconst 1, 1) := by decide +kernel
theorem dF12_copyAll_44 : decode cX12_copyAll 44 = .ok (.iload_n 1, 1) := by decide +kernel
theorem dF12_copyAll_45 : decode cX12_copyAll 45 = .ok (.iload_n 2, 1) := by decide +kernel
theorem dF12_copyAll_46 : decode cX12_copyAll 46 = .ok (.invokestatic 96, 3) := by decide +kernel
theorem dF12_copyAll_49 : decode cX12_copyAll 49 = .ok (.aload_n 0, 1) := by decide +kernel
theorem dF12_copyAll_50 : decode cX12_copyAll 50 = .ok (.getfield 17, 3) := by decide +kernel
theorem dF12_copyAll_53 : decode cX12_copyAll 53 = .ok (.iconst 1, 1) := by decide +kernel
theorem dF12_copyAll_54 : decode cX12_copyAll 54 = .ok (.iload_n 1, 1) := by decide +kernel
theorem dF12_copyAll_55 : decode cX12_copyAll 55 = .ok (.iload_n 2, 1) := by decide +kernel
theorem dF12_copyAll_56 : decode cX12_copyAll 56 = .ok (.invokestatic 96, 3) := by decide +kernel
theorem dF12_copyAll_59 : decode cX12_copyAll 59 = .ok (.aload_n 0, 1) := by decide +kernel
theorem dF12_copyAll_60 : decode cX12_copyAll 60 = .ok (.getfield 20, 3) := by decide +kernel
theorem dF12_copyAll_63 : decode cX12_copyAll 63 = .ok (.iconst 1, 1) := by decide +kernel
theorem dF12_copyAll_64 : decode cX12_copyAll 64 = .ok (.iload_n 1, 1) := by decide +kernel
theorem dF12_copyAll_65 : decode cX12_copyAll 65 = .ok (.iload_n 2, 1) := by decide +kernel
theorem dF12_copyAll_66 : decode cX12_copyAll 66 = .ok (.invokestatic 96, 3) := by decide +kernel
theorem dF12_copyAll_69 : decode cX12_copyAll 69 = .ok (.aload_n 0, 1) := by decide +kernel
theorem dF12_copyAll_70 : decode cX12_copyAll 70 = .ok (.getfield 23, 3) := by decide +kernel
theorem dF12_copyAll_73 : decode cX12_copyAll 73 = .ok (.iconst 4, 1) := by decide +kernel
theorem dF12_copyAll_74 : decode cX12_copyAll 74 = .ok (.iload_n 1, 1) := by decide +kernel
theorem dF12_copyAll_75 : decode cX12_copyAll 75 = .ok (.iload_n 2, 1) := by decide +kernel
theorem dF12_copyAll_76 : decode cX12_copyAll 76 = .ok (.invokestatic 96, 3) := by decide +kernel
theorem dF12_copyAll_79 : decode cX12_copyAll 79 = .ok (.aload_n 0, 1) := by decide +kernel
theorem dF12_copyAll_80 : decode cX12_copyAll 80 = .ok (.getfield 26, 3) := by decide +kernel
theorem dF12_copyAll_83 : decode cX12_copyAll 83 = .ok (.sipush 150, 3) := by decide +kernel
theorem dF12_copyAll_86 : decode cX12_copyAll 86 = .ok (.iload_n 1, 1) := by decide +kernel
theorem dF12_copyAll_87 : decode cX12_copyAll 87 = .ok (.iload_n 2, 1) := by decide +kernel
theorem dF12_copyAll_88 : decode cX12_copyAll 88 = .ok (.invokestatic 96, 3) := by decide +kernel
theorem dF12_copyAll_91 : decode cX12_copyAll 91 = .ok (.aload_n 0, 1) := by decide +kernel
theorem dF12_copyAll_92 : decode cX12_copyAll 92 = .ok (.getfield 29, 3) := by decide +kernel
theorem dF12_copyAll_95 : decode cX12_copyAll 95 = .ok (.sipush 322, 3) := by decide +kernel
theorem dF12_copyAll_98 : decode cX12_copyAll 98 = .ok (.iload_n 1, 1) := by decide +kernel
theorem dF12_copyAll_99 : decode cX12_copyAll 99 = .ok (.iload_n 2, 1) := by decide +kernel
theorem dF12_copyAll_100 : decode cX12_copyAll 100 = .ok (.invokestatic 96, 3) := by decide +kernel
theorem dF12_copyAll_103 : decode cX12_copyAll 103 = .ok (.aload_n 0, 1) := by decide +kernel
theorem dF12_copyAll_104 : decode cX12_copyAll 104 = .ok (.getfield 32, 3) := by decide +kernel
theorem dF12_copyAll_107 : decode cX12_copyAll 107 = .ok (.bipush 18, 2) := by decide +kernel
theorem dF12_copyAll_109 : decode cX12_copyAll 109 = .ok (.iload_n 1, 1) := by decide +kernel
theorem dF12_copyAll_110 : decode cX12_copyAll 110 = .ok (.iload_n 2, 1) := by decide +kernel
theorem dF12_copyAll_111 : decode cX12_copyAll 111 = .ok (.invokestatic 96, 3) := by decide +kernel
theorem dF12_copyAll_114 : decode cX12_copyAll 114 = .ok (.aload_n 0, 1) := by decide +kernel
theorem dF12_copyAll_115 : decode cX12_copyAll 115 = .ok (.getfield 35, 3) := by decide +kernel
theorem dF12_copyAll_118 : decode cX12_copyAll 118 = .ok (.bipush 42, 2) := by decide +kernel
theorem dF12_copyAll_120 : decode cX12_copyAll 120 = .ok (.iload_n 1, 1) := by decide +kernel
theorem dF12_copyAll_121 : decode cX12_copyAll 121 = .ok (.iload_n 2, 1) := by decide +kernel
theorem dF12_copyAll_122 : decode cX12_copyAll 122 = .ok (.invokestatic 96, 3) := by decide +kernel
theorem dF12_copyAll_125 : decode cX12_copyAll 125 = .ok (.return_, 1) := by decide +kernel
def is_F12_copyAll : Nat → List Nat := fun d => if d = 2 then [0, 1, 2, 3] else []
set_option maxRecDepth 100000 in
def b_F12_copyAll_86 (J : Nat → List qV → List qV → qW → Prop) (Q : qR) : qK := x_iload 1 (x_iload 2 (x_call none 4 sp_X12_copyRow150 (x_nw (x_aload 0 (x_get 12 7 (x_int 322 (x_iload 1 (x_iload 2 (x_call none 4 sp_X12_copyRow322 (x_nw (x_aload 0 (x_get 12 8 (x_int 18 (x_iload 1 (x_iload 2 (x_call none 4 sp_X12_copyRow18 (x_nw (x_aload 0 (x_get 12 9 (x_int 42 (x_iload 1 (x_iload 2 (x_call none 4 sp_X12_copyRow42 (x_nw (x_vret Q)))))))))))))))))))))))))
set_option maxRecDepth 100000 in
theorem s_F12_copyAll_86 {p : Program} {l : Launch} {e : Env} {R : Room} {s : State} {m : MethodId} {args : Array Value} {below : List Frame} {meth : Method} {c : Code} {nW : Nat} {dC : Nat → ClassId} {dI : Nat → Nat → Nat} {k : Nat → ClassId} {g : Nat → Nat} {A : Nat → Prop} {J : Nat → List qV → List qV → qW → Prop} {Q : qR} (X : q_X p R s m args meth c cX12_copyAll 4 nW 1 24 RX12 none dC dI k g A) (hJ : ∀ d : Nat, q_Sd p l e R s m args below meth c 4 nW dC dI k g A (MQ below (q_post (dC, dI) k g nW Q A) args s 0 0 A) d (x_cut (is_F12_copyAll d) (J d))) : q_Sd p l e R s m args below meth c 4 nW dC dI k g A (MQ below (q_post (dC, dI) k g nW Q A) args s 0 0 A) 86 (b_F12_copyAll_86 J Q) := by
  unfold b_F12_copyAll_86
  refine s_iload_n X rfl dF12_copyAll_86 ?_
  refine s_iload_n X rfl dF12_copyAll_87 ?_
  refine s_callS X (m_X12_copyRow150 l) tw_1476 tw_1477 tw_134 tw_1478 (by decide +kernel) ⟨by decide, by decide⟩ dF12_copyAll_88 ?_
  refine s_nw ?_
  refine s_aload_n X rfl dF12_copyAll_91 ?_
  refine s_get X (T := TX12) (C := RX12) (N := 45) tu_X12 rfl (by decide) tw_1004 dF12_copyAll_92 ?_
  refine s_sipush X ⟨by decide, by decide⟩ (by decide) dF12_copyAll_95 ?_
  refine s_iload_n X rfl dF12_copyAll_98 ?_
  refine s_iload_n X rfl dF12_copyAll_99 ?_
  refine s_callS X (m_X12_copyRow322 l) tw_1476 tw_1477 tw_134 tw_1478 (by decide +kernel) ⟨by decide, by decide⟩ dF12_copyAll_100 ?_
  refine s_nw ?_
  refine s_aload_n X rfl dF12_copyAll_103 ?_
  refine s_get X (T := TX12) (C := RX12) (N := 45) tu_X12 rfl (by decide) tw_1005 dF12_copyAll_104 ?_
  refine s_bipush X ⟨by decide, by decide⟩ (by decide) dF12_copyAll_107 ?_
  refine s_iload_n X rfl dF12_copyAll_109 ?_
  refine s_iload_n X rfl dF12_copyAll_110 ?_
  refine s_callS X (m_X12_copyRow18 l) tw_1476 tw_1477 tw_134 tw_1478 (by decide +kernel) ⟨by decide, by decide⟩ dF12_copyAll_111 ?_
  refine s_nw ?_
  refine s_aload_n X rfl dF12_copyAll_114 ?_
  refine s_get X (T := TX12) (C := RX12) (N := 45) tu_X12 rfl (by decide) tw_1006 dF12_copyAll_115 ?_
  refine s_bipush X ⟨by decide, by decide⟩ (by decide) dF12_copyAll_118 ?_
  refine s_iload_n X rfl dF12_copyAll_120 ?_
  refine s_iload_n X rfl dF12_copyAll_121 ?_
  refine s_callS X (m_X12_copyRow42 l) tw_1476 tw_1477 tw_134 tw_1478 (by decide +kernel) ⟨by decide, by decide⟩ dF12_copyAll_122 ?_
  refine s_nw ?_
  exact s_vret X dF12_copyAll_125
set_option maxRecDepth 100000 in
def b_F12_copyAll_44 (J : Nat → List qV → List qV → qW → Prop) (Q : qR) : qK := x_iload 1 (x_iload 2 (x_call none 4 sp_X12_copyRow1 (x_nw (x_aload 0 (x_get 12 3 (x_int 1 (x_iload 1 (x_iload 2 (x_call none 4 sp_X12_copyRow1 (x_nw (x_aload 0 (x_get 12 4 (x_int 1 (x_iload 1 (x_iload 2 (x_call none 4 sp_X12_copyRow1 (x_nw (x_aload 0 (x_get 12 5 (x_int 4 (x_iload 1 (x_iload 2 (x_call none 4 sp_X12_copyRow4 (x_nw (x_aload 0 (x_get 12 6 (x_int 150 (b_F12_copyAll_86 J Q))))))))))))))))))))))))))))
set_option maxRecDepth 100000 in
theorem s_F12_copyAll_44 {p : Program} {l : Launch} {e : Env} {R : Room} {s : State} {m : MethodId} {args : Array Value} {below : List Frame} {meth : Method} {c : Code} {nW : Nat} {dC : Nat → ClassId} {dI : Nat → Nat → Nat} {k : Nat → ClassId} {g : Nat → Nat} {A : Nat → Prop} {J : Nat → List qV → List qV → qW → Prop} {Q : qR} (X : q_X p R s m args meth c cX12_copyAll 4 nW 1 24 RX12 none dC dI k g A) (hJ : ∀ d : Nat, q_Sd p l e R s m args below meth c 4 nW dC dI k g A (MQ below (q_post (dC, dI) k g nW Q A) args s 0 0 A) d (x_cut (is_F12_copyAll d) (J d))) : q_Sd p l e R s m args below meth c 4 nW dC dI k g A (MQ below (q_post (dC, dI) k g nW Q A) args s 0 0 A) 44 (b_F12_copyAll_44 J Q) := by
  unfold b_F12_copyAll_44
  refine s_iload_n X rfl dF12_copyAll_44 ?_
  refine s_iload_n X rfl dF12_copyAll_45 ?_
  refine s_callS X (m_X12_copyRow1 l) tw_1476 tw_1477 tw_134 tw_1478 (by decide +kernel) ⟨by decide, by decide⟩ dF12_copyAll_46 ?_
  refine s_nw ?_
  refine s_aload_n X rfl dF12_copyAll_49 ?_
  refine s_get X (T := TX12) (C := RX12) (N := 45) tu_X12 rfl (by decide) tw_1000 dF12_copyAll_50 ?_
  refine s_iconst X ⟨by decide, by decide⟩ dF12_copyAll_53 ?_
  refine s_iload_n X rfl dF12_copyAll_54 ?_
  refine s_iload_n X rfl dF12_copyAll_55 ?_
  refine s_callS X (m_X12_copyRow1 l) tw_1476 tw_1477 tw_134 tw_1478 (by decide +kernel) ⟨by decide, by decide⟩ dF12_copyAll_56 ?_
  refine s_nw ?_
  refine s_aload_n X rfl dF12_copyAll_59 ?_
  refine s_get X (T := TX12) (C := RX12) (N := 45) tu_X12 rfl (by decide) tw_1001 dF12_copyAll_60 ?_
  refine s_iconst X ⟨by decide, by decide⟩ dF12_copyAll_63 ?_
  refine s_iload_n X rfl dF12_copyAll_64 ?_
  refine s_iload_n X rfl dF12_copyAll_65 ?_
  refine s_callS X (m_X12_copyRow1 l) tw_1476 tw_1477 tw_134 tw_1478 (by decide +kernel) ⟨by decide, by decide⟩ dF12_copyAll_66 ?_
  refine s_nw ?_
  refine s_aload_n X rfl dF12_copyAll_69 ?_
  refine s_get X (T := TX12) (C := RX12) (N := 45) tu_X12 rfl (by decide) tw_1002 dF12_copyAll_70 ?_
  refine s_iconst X ⟨by decide, by decide⟩ dF12_copyAll_73 ?_
  refine s_iload_n X rfl dF12_copyAll_74 ?_
  refine s_iload_n X rfl dF12_copyAll_75 ?_
  refine s_callS X (m_X12_copyRow4 l) tw_1476 tw_1477 tw_134 tw_1478 (by decide +kernel) ⟨by decide, by decide⟩ dF12_copyAll_76 ?_
  refine s_nw ?_
  refine s_aload_n X rfl dF12_copyAll_79 ?_
  refine s_get X (T := TX12) (C := RX12) (N := 45) tu_X12 rfl (by decide) tw_1003 dF12_copyAll_80 ?_
  refine s_sipush X ⟨by decide, by decide⟩ (by decide) dF12_copyAll_83 ?_
  exact s_F12_copyAll_86 X hJ
set_option maxRecDepth 100000 in
def b_F12_copyAll_2 (J : Nat → List qV → List qV → qW → Prop) (Q : qR) : qK := x_iload 3 (x_int 600 (x_icmp_ge (x_aload 0 (x_get 12 2 (x_int 1 (b_F12_copyAll_44 J Q)))) (x_aload 0 (x_get 12 1 (x_int 600 (x_iload 2 (x_imul (x_iload 3 (x_iadd (x_aload 0 (x_get 12 1 (x_int 600 (x_iload 1 (x_imul (x_iload 3 (x_iadd (x_bald (x_bast (x_nw (x_iinc 3 1 (x_cut [0, 1, 2, 3] (J 2))))))))))))))))))))))
set_option maxRecDepth 100000 in
theorem s_F12_copyAll_2 {p : Program} {l : Launch} {e : Env} {R : Room} {s : State} {m : MethodId} {args : Array Value} {below : List Frame} {meth : Method} {c : Code} {nW : Nat} {dC : Nat → ClassId} {dI : Nat → Nat → Nat} {k : Nat → ClassId} {g : Nat → Nat} {A : Nat → Prop} {J : Nat → List qV → List qV → qW → Prop} {Q : qR} (X : q_X p R s m args meth c cX12_copyAll 4 nW 1 24 RX12 none dC dI k g A) (hJ : ∀ d : Nat, q_Sd p l e R s m args below meth c 4 nW dC dI k g A (MQ below (q_post (dC, dI) k g nW Q A) args s 0 0 A) d (x_cut (is_F12_copyAll d) (J d))) : q_Sd p l e R s m args below meth c 4 nW dC dI k g A (MQ below (q_post (dC, dI) k g nW Q A) args s 0 0 A) 2 (b_F12_copyAll_2 J Q) := by
  unfold b_F12_copyAll_2
  refine s_iload_n X rfl dF12_copyAll_2 ?_
  refine s_sipush X ⟨by decide, by decide⟩ (by decide) dF12_copyAll_3 ?_
  refine s_icmp_ge X (tgt := 39) dF12_copyAll_6 (by decide) ?_ ?_
  · refine s_aload_n X rfl dF12_copyAll_39 ?_
    refine s_get X (T := TX12) (C := RX12) (N := 45) tu_X12 rfl (by decide) tw_999 dF12_copyAll_40 ?_
    refine s_iconst X ⟨by decide, by decide⟩ dF12_copyAll_43 ?_
    exact s_F12_copyAll_44 X hJ
  · refine s_aload_n X rfl dF12_copyAll_9 ?_
    refine s_get X (T := TX12) (C := RX12) (N := 45) tu_X12 rfl (by decide) tw_998 dF12_copyAll_10 ?_
    refine s_sipush X ⟨by decide, by decide⟩ (by decide) dF12_copyAll_13 ?_
    refine s_iload_n X rfl dF12_copyAll_16 ?_
    refine s_imul X dF12_copyAll_17 ?_
    refine s_iload_n X rfl dF12_copyAll_18 ?_
    refine s_iadd X dF12_copyAll_19 ?_
    refine s_aload_n X rfl dF12_copyAll_20 ?_
    refine s_get X (T := TX12) (C := RX12) (N := 45) tu_X12 rfl (by decide) tw_998 dF12_copyAll_21 ?_
    refine s_sipush X ⟨by decide, by decide⟩ (by decide) dF12_copyAll_24 ?_
    refine s_iload_n X rfl dF12_copyAll_27 ?_
    refine s_imul X dF12_copyAll_28 ?_
    refine s_iload_n X rfl dF12_copyAll_29 ?_
    refine s_iadd X dF12_copyAll_30 ?_
    refine s_bald X dF12_copyAll_31 ?_
    refine s_bast X dF12_copyAll_32 ?_
    refine s_nw ?_
    refine s_iinc X (by decide) dF12_copyAll_33 ?_
    refine s_goto X (tgt := 2) dF12_copyAll_36 (by decide) ?_
    exact hJ 2
set_option maxRecDepth 100000 in
def b_F12_copyAll_0 (J : Nat → List qV → List qV → qW → Prop) (Q : qR) : qK := x_int 0 (x_istore 3 (x_cut [0, 1, 2, 3] (J 2)))
set_option maxRecDepth 100000 in
theorem s_F12_copyAll_0 {p : Program} {l : Launch} {e : Env} {R : Room} {s : State} {m : MethodId} {args : Array Value} {below : List Frame} {meth : Method} {c : Code} {nW : Nat} {dC : Nat → ClassId} {dI : Nat → Nat → Nat} {k : Nat → ClassId} {g : Nat → Nat} {A : Nat → Prop} {J : Nat → List qV → List qV → qW → Prop} {Q : qR} (X : q_X p R s m args meth c cX12_copyAll 4 nW 1 24 RX12 none dC dI k g A) (hJ : ∀ d : Nat, q_Sd p l e R s m args below meth c 4 nW dC dI k g A (MQ below (q_post (dC, dI) k g nW Q A) args s 0 0 A) d (x_cut (is_F12_copyAll d) (J d))) : q_Sd p l e R s m args below meth c 4 nW dC dI k g A (MQ below (q_post (dC, dI) k g nW Q A) args s 0 0 A) 0 (b_F12_copyAll_0 J Q) := by
  unfold b_F12_copyAll_0
  refine s_iconst X ⟨by decide, by decide⟩ dF12_copyAll_0 ?_
  refine s_istore_n X rfl (by decide) dF12_copyAll_1 ?_
  exact hJ 2

def sp_F12_copyAll : qS := fun av w Q => ∃ (mco : Int) (mre : Int) (mle : Int) (mbe : Int) (mso : Int) (mva : Int) (mwo : Int) (mwr : Int) (mlf : Int) (mlp : Int) (mfp : Int) (mfd : Int) (mgo : Int) (mbo : Int) (mpe : Int) (mye : Int) (mpr : Int) (mld : Int) (msi : Int) (mse : Int) (tp : Nat → Int) (siz : Nat → Int) (fa : Nat → Int) (fpl : Nat → Int) (mn : Nat → Int) (bs : Nat → Int) (ys : Nat → Int) (ls : Nat → Int) (ss : Nat → Int) (a : Int) (b : Int), av = [q2 0, q1 a, q1 b] ∧ w = [.inr (12, [q1 mco, q2 1, q2 2, q2 3, q2 4, q2 5, q2 6, q2 7, q2 8, q2 9, q1 mre, q1 mle, q1 mbe, q1 mso, q1 mva, q3 mwo, q1 mwr, q1 mlf, q1 mlp, q2 10, q2 11, q1 mfp, q1 mfd, q1 mgo, q1 mbo, q1 mpe, q1 mye, q2 12, q1 mpr, q2 13, q2 14, q2 15, q2 16, q1 mld, q2 17, q1 msi, q2 18, q2 19, q2 20, q2 21, q2 22, q1 mse, q2 23, q2 24, q2 25]), .inl (1, 2400, .inl tp), .inl (0, 4, .inl siz), .inl (0, 4, .inl fa), .inl (0, 4, .inl fpl), .inl (0, 16, .inl mn), .inl (0, 600, .inl bs), .inl (0, 1288, .inl ys), .inl (0, 72, .inl ls), .inl (0, 168, .inl ss)] ∧ (0 ≤ a ∧ a ≤ 3 ∧ 0 ≤ b ∧ b ≤ 3 ∧ ¬ a = b) ∧ (BI bs) ∧ (YI ys) ∧ (SI ss) ∧ (q_rg 0 2 mn) ∧ (q_rg 0 600 siz) ∧ (∀ (x_tp : Nat → Int) (x_siz : Nat → Int) (x_fa : Nat → Int) (x_fpl : Nat → Int) (x_mn : Nat → Int) (x_bs : Nat → Int) (x_ys : Nat → Int) (x_ls : Nat → Int) (x_ss : Nat → Int), ((BI x_bs ∧ YI x_ys ∧ SI x_ss ∧ q_rg 0 2 x_mn ∧ q_rg 0 600 x_siz) ∧ CpA a b tp siz fa fpl mn bs ys ls ss x_tp x_siz x_fa x_fpl x_mn x_bs x_ys x_ls x_ss) → Q none ([.inr (12, [q1 mco, q2 1, q2 2, q2 3, q2 4, q2 5, q2 6, q2 7, q2 8, q2 9, q1 mre, q1 mle, q1 mbe, q1 mso, q1 mva, q3 mwo, q1 mwr, q1 mlf, q1 mlp, q2 10, q2 11, q1 mfp, q1 mfd, q1 mgo, q1 mbo, q1 mpe, q1 mye, q2 12, q1 mpr, q2 13, q2 14, q2 15, q2 16, q1 mld, q2 17, q1 msi, q2 18, q2 19, q2 20, q2 21, q2 22, q1 mse, q2 23, q2 24, q2 25]), .inl (1, 2400, .inl x_tp), .inl (0, 4, .inl x_siz), .inl (0, 4, .inl x_fa), .inl (0, 4, .inl x_fpl), .inl (0, 16, .inl x_mn), .inl (0, 600, .inl x_bs), .inl (0, 1288, .inl x_ys), .inl (0, 72, .inl x_ls), .inl (0, 168, .inl x_ss)]))
def I_F12_copyAll (mco : Int) (mre : Int) (mle : Int) (mbe : Int) (mso : Int) (mva : Int) (mwo : Int) (mwr : Int) (mlf : Int) (mlp : Int) (mfp : Int) (mfd : Int) (mgo : Int) (mbo : Int) (mpe : Int) (mye : Int) (mpr : Int) (mld : Int) (msi : Int) (mse : Int) (tp : Nat → Int) (siz : Nat → Int) (fa : Nat → Int) (fpl : Nat → Int) (mn : Nat → Int) (bs : Nat → Int) (ys : Nat → Int) (ls : Nat → Int) (ss : Nat → Int) (a : Int) (b : Int) : Nat → Nat → List qV → List qV → qW → Prop := fun dz mz vz sz wz => if dz = 2 then (∃ (y_tp : Nat → Int) (v3 : Int), vz = [q2 0, q1 a, q1 b, q1 v3] ∧ sz = [] ∧ wz = [.inr (12, [q1 mco, q2 1, q2 2, q2 3, q2 4, q2 5, q2 6, q2 7, q2 8, q2 9, q1 mre, q1 mle, q1 mbe, q1 mso, q1 mva, q3 mwo, q1 mwr, q1 mlf, q1 mlp, q2 10, q2 11, q1 mfp, q1 mfd, q1 mgo, q1 mbo, q1 mpe, q1 mye, q2 12, q1 mpr, q2 13, q2 14, q2 15, q2 16, q1 mld, q2 17, q1 msi, q2 18, q2 19, q2 20, q2 21, q2 22, q1 mse, q2 23, q2 24, q2 25]), .inl (1, 2400, .inl y_tp), .inl (0, 4, .inl siz), .inl (0, 4, .inl fa), .inl (0, 4, .inl fpl), .inl (0, 16, .inl mn), .inl (0, 600, .inl bs), .inl (0, 1288, .inl ys), .inl (0, 72, .inl ls), .inl (0, 168, .inl ss)] ∧ mz = (600 - v3).toNat ∧ (0 ≤ v3 ∧ v3 ≤ 600) ∧ (∀ j : Nat, y_tp j = if (600 : Int) * b ≤ j ∧ (j : Int) < 600 * b + v3 then tp (j - (600 : Int) * b + 600 * a).toNat else tp j)) else False
set_option maxHeartbeats 4000000 in
set_option maxRecDepth 100000 in
theorem m_F12_copyAll (l : Launch) : q_M l yX12_copyAll cX12_copyAll 4 none 1 24 sp_F12_copyAll := by
  refine q_meth (by decide) (fun av w Q h => by obtain ⟨mco, mre, mle, mbe, mso, mva, mwo, mwr, mlf, mlp, mfp, mfd, mgo, mbo, mpe, mye, mpr, mld, msi, mse, tp, siz, fa, fpl, mn, bs, ys, ls, ss, a, b, rfl, rfl, ha, hbi, hyi, hsi, hmn, hsz, hQ⟩ := h; exact Nat.le_of_ble_eq_true rfl) ?_
  intro p e R s m args below meth c dC dI k g A av w Q hsp oka okw X
  obtain ⟨mco, mre, mle, mbe, mso, mva, mwo, mwr, mlf, mlp, mfp, mfd, mgo, mbo, mpe, mye, mpr, mld, msi, mse, tp, siz, fa, fpl, mn, bs, ys, ls, ss, a, b, rfl, rfl, ha, hbi, hyi, hsi, hmn, hsz, hQ⟩ := hsp
  have o_a : -2147483648 ≤ a ∧ a ≤ 2147483647 := oka _ (List.mem_of_getElem? (i := 1) rfl)
  have o_b : -2147483648 ≤ b ∧ b ≤ 2147483647 := oka _ (List.mem_of_getElem? (i := 2) rfl)
  refine s_mono (s_F12_copyAll_0 X (J := fun dz vz sz wz => ∃ mz, I_F12_copyAll mco mre mle mbe mso mva mwo mwr mlf mlp mfp mfd mgo mbo mpe mye mpr mld msi mse tp siz fa fpl mn bs ys ls ss a b dz mz vz sz wz) (q_loopn (I_F12_copyAll mco mre mle mbe mso mva mwo mwr mlf mlp mfp mfd mgo mbo mpe mye mpr mld msi mse tp siz fa fpl mn bs ys ls ss a b) (fun dz J => if dz = 2 then b_F12_copyAll_2 J Q else q_F) ?hs ?hv)) ?_
  case hs =>
    intro d J hJ
    by_cases hq_2 : d = 2
    · subst hq_2; exact s_F12_copyAll_2 X hJ
    simp only [hq_2, if_false]
    exact s_F
  case hv =>
    intro dz mz vz sz wz hI okv oks okw hlen
    by_cases hq_2 : dz = 2
    · subst hq_2
      obtain ⟨y_tp, v3, rfl, rfl, rfl, hn, hp, hh⟩ := hI
      have dq_9 := (okw _ (List.mem_of_getElem? (i := 1) rfl)).2 rfl
      apply And.intro
      · intro hq_6
        refine Exists.intro [2] (Exists.intro [q2 0, q1 1, q1 _, q1 _] (Exists.intro ([.inl (0, 4, .inl _)]) (And.intro rfl (And.intro rfl (And.intro rfl (And.intro trivial ?_))))))
        refine Exists.intro _ (Exists.intro _ (Exists.intro _ (And.intro rfl (And.intro rfl (And.intro (by first | omega | assumption | exact q_rg_up (by assumption) (by omega) | exact q_rg_up (q_rg_up (by assumption) (by omega)) (by omega) | exact q_rg_cpy (by assumption) (by assumption)) (?_))))))
        intro g_46 hq_46
        refine Exists.intro [3] (Exists.intro [q2 0, q1 1, q1 _, q1 _] (Exists.intro ([.inl (0, 4, .inl _)]) (And.intro rfl (And.intro rfl (And.intro rfl (And.intro trivial ?_))))))
        refine Exists.intro _ (Exists.intro _ (Exists.intro _ (And.intro rfl (And.intro rfl (And.intro (by first | omega | assumption | exact q_rg_up (by assumption) (by omega) | exact q_rg_up (q_rg_up (by assumption) (by omega)) (by omega) | exact q_rg_cpy (by assumption) (by assumption)) (?_))))))
        intro g_56 hq_56
        refine Exists.intro [4] (Exists.intro [q2 0, q1 1, q1 _, q1 _] (Exists.intro ([.inl (0, 4, .inl _)]) (And.intro rfl (And.intro rfl (And.intro rfl (And.intro trivial ?_))))))
        refine Exists.intro _ (Exists.intro _ (Exists.intro _ (And.intro rfl (And.intro rfl (And.intro (by first | omega | assumption | exact q_rg_up (by assumption) (by omega) | exact q_rg_up (q_rg_up (by assumption) (by omega)) (by omega) | exact q_rg_cpy (by assumption) (by assumption)) (?_))))))
        intro g_66 hq_66
        refine Exists.intro [5] (Exists.intro [q2 0, q1 4, q1 _, q1 _] (Exists.intro ([.inl (0, 16, .inl _)]) (And.intro rfl (And.intro rfl (And.intro rfl (And.intro trivial ?_))))))
        refine Exists.intro _ (Exists.intro _ (Exists.intro _ (And.intro rfl (And.intro rfl (And.intro (by first | omega | assumption | exact q_rg_up (by assumption) (by omega) | exact q_rg_up (q_rg_up (by assumption) (by omega)) (by omega) | exact q_rg_cpy (by assumption) (by assumption)) (?_))))))
        intro g_76 hq_76
        refine Exists.intro [6] (Exists.intro [q2 0, q1 150, q1 _, q1 _] (Exists.intro ([.inl (0, 600, .inl _)]) (And.intro rfl (And.intro rfl (And.intro rfl (And.intro trivial ?_))))))
        refine Exists.intro _ (Exists.intro _ (Exists.intro _ (And.intro rfl (And.intro rfl (And.intro (by first | omega | assumption | exact q_rg_up (by assumption) (by omega) | exact q_rg_up (q_rg_up (by assumption) (by omega)) (by omega) | exact q_rg_cpy (by assumption) (by assumption)) (?_))))))
        intro g_88 hq_88
        refine Exists.intro [7] (Exists.intro [q2 0, q1 322, q1 _, q1 _] (Exists.intro ([.inl (0, 1288, .inl _)]) (And.intro rfl (And.intro rfl (And.intro rfl (And.intro trivial ?_))))))
        refine Exists.intro _ (Exists.intro _ (Exists.intro _ (And.intro rfl (And.intro rfl (And.intro (by first | omega | assumption | exact q_rg_up (by assumption) (by omega) | exact q_rg_up (q_rg_up (by assumption) (by omega)) (by omega) | exact q_rg_cpy (by assumption) (by assumption)) (?_))))))
        intro g_100 hq_100
        refine Exists.intro [8] (Exists.intro [q2 0, q1 18, q1 _, q1 _] (Exists.intro ([.inl (0, 72, .inl _)]) (And.intro rfl (And.intro rfl (And.intro rfl (And.intro trivial ?_))))))
        refine Exists.intro _ (Exists.intro _ (Exists.intro _ (And.intro rfl (And.intro rfl (And.intro (by first | omega | assumption | exact q_rg_up (by assumption) (by omega) | exact q_rg_up (q_rg_up (by assumption) (by omega)) (by omega) | exact q_rg_cpy (by assumption) (by assumption)) (?_))))))
        intro g_111 hq_111
        refine Exists.intro [9] (Exists.intro [q2 0, q1 42, q1 _, q1 _] (Exists.intro ([.inl (0, 168, .inl _)]) (And.intro rfl (And.intro rfl (And.intro rfl (And.intro trivial ?_))))))
        refine Exists.intro _ (Exists.intro _ (Exists.intro _ (And.intro rfl (And.intro rfl (And.intro (by first | omega | assumption | exact q_rg_up (by assumption) (by omega) | exact q_rg_up (q_rg_up (by assumption) (by omega)) (by omega) | exact q_rg_cpy (by assumption) (by assumption)) (?_))))))
        intro g_122 hq_122
        exact hQ _ _ _ _ _ _ _ _ _ ⟨⟨cpR_BI (by omega) (by omega) hbi hq_88, cpR_YI (by omega) (by omega) hyi hq_100, cpR_SI (by omega) (by omega) hsi hq_122, cpR_rg hmn hq_76, cpR_rg hsz hq_46⟩, ⟨(by intro j; rw [hh j, show v3 = (600 : Int) by omega]; rfl), hq_46, hq_56, hq_66, hq_76, hq_88, hq_100, hq_111, hq_122⟩⟩
      · intro hq_6
        intro zq_17 hq_17
        first | replace hq_17 := e_mul hq_17 (by omega) | replace hq_17 := e_rng hq_17
        intro zq_19 hq_19
        first | replace hq_19 := e_add hq_19 (by omega) | replace hq_19 := e_rng hq_19
        intro zq_28 hq_28
        first | replace hq_28 := e_mul hq_28 (by omega) | replace hq_28 := e_rng hq_28
        intro zq_30 hq_30
        first | replace hq_30 := e_add hq_30 (by omega) | replace hq_30 := e_rng hq_30
        apply And.intro
        · exact ⟨by omega, by omega⟩
        intro zq_31 hq_31
        have e31 : -128 ≤ zq_31 ∧ zq_31 ≤ 127 := by rw [hq_31]; exact dq_9 _
        apply And.intro
        · exact ⟨by omega, by omega⟩
        apply And.intro
        · first | omega | exact Or.inr rfl | exact Or.inl rfl
        intro zq_33 hq_33
        first | replace hq_33 := e_add hq_33 (by omega) | replace hq_33 := e_rng hq_33
        exact ⟨_, ⟨_, _, rfl, rfl, rfl, rfl, (by first | omega | assumption | exact q_rg_up (by assumption) (by omega) | exact q_rg_up (q_rg_up (by assumption) (by omega)) (by omega) | exact q_rg_cpy (by assumption) (by assumption)), (by first | exact cpR_s hh (by omega) hq_31 (by omega) (by omega) (by omega) (by omega) | (intro j; rw [if_neg (by omega)]))⟩, by omega⟩
    simp only [I_F12_copyAll, hq_2, if_false] at hI
  rintro lv st w' ⟨rfl, rfl, rfl⟩
  exact ⟨_, _, _, rfl, rfl, rfl, rfl, (by first | omega | assumption | exact q_rg_up (by assumption) (by omega) | exact q_rg_up (q_rg_up (by assumption) (by omega)) (by omega) | exact q_rg_cpy (by assumption) (by assumption)), (by first | exact cpR_s hh (by omega) hq_31 (by omega) (by omega) (by omega) (by omega) | (intro j; rw [if_neg (by omega)]))⟩

theorem dF12_image_0 : decode cX12_image 0 = .ok (.aload_n 0, 1) := by decide +kernel
theorem dF12_image_1 : decode cX12_image 1 = .ok (.iconst 0, 1) := by decide +kernel
theorem dF12_image_2 : decode cX12_image 2 = .ok (.putfield 88, 3) := by decide +kernel
theorem dF12_image_5 : decode cX12_image 5 = .ok (.iload_n 1, 1) := by decide +kernel
theorem dF12_image_6 : decode cX12_image 6 = .ok (.iconst 0, 1) := by decide +kernel
theorem dF12_image_7 : decode cX12_image 7 = .ok (.iconst 2, 1) := by decide +kernel
theorem dF12_image_8 : decode cX12_image 8 = .ok (.invokestatic 100, 3) := by decide +kernel
theorem dF12_image_11 : decode cX12_image 11 = .ok (.ifCond .ne 5, 3) := by decide +kernel
theorem dF12_image_14 : decode cX12_image 14 = .ok (.iconst 0, 1) := by decide +kernel
theorem dF12_image_15 : decode cX12_image 15 = .ok (.ireturn, 1) := by decide +kernel
theorem dF12_image_16 : decode cX12_image 16 = .ok (.aload_n 0, 1) := by decide +kernel
theorem dF12_image_17 : decode cX12_image 17 = .ok (.iconst 0, 1) := by decide +kernel
theorem dF12_image_18 : decode cX12_image 18 = .ok (.iload_n 1, 1) := by decide +kernel
theorem dF12_image_19 : decode cX12_image 19 = .ok (.iconst 1, 1) := by decide +kernel
theorem dF12_image_20 : decode cX12_image 20 = .ok (.iadd, 1) := by decide +kernel
theorem dF12_image_21 : decode cX12_image 21 = .ok (.invokevirtual 516, 3) := by decide +kernel
theorem dF12_image_24 : decode cX12_image 24 = .ok (.aload_n 0, 1) := by decide +kernel
theorem dF12_image_25 : decode cX12_image 25 = .ok (.getfield 84, 3) := by decide +kernel
theorem dF12_image_28 : decode cX12_image 28 = .ok (.iload_n 1, 1) := by decide +kernel
theorem dF12_image_29 : decode cX12_image 29 = .ok (.iconst 1, 1) := by decide +kernel
theorem dF12_image_30 : decode cX12_image 30 = .ok (.bastore, 1) := by decide +kernel
theorem dF12_image_31 : decode cX12_image 31 = .ok (.iconst 1, 1) := by decide +kernel
theorem dF12_image_32 : decode cX12_image 32 = .ok (.ireturn, 1) := by decide +kernel
def is_F12_image : Nat → List Nat := fun d => []
set_option maxRecDepth 100000 in
def b_F12_image_0 (J : Nat → List qV → List qV → qW → Prop) (Q : qR) : qK := x_aload 0 (x_int 0 (x_put 12 0 q_oki (x_nw (x_iload 1 (x_int 0 (x_int 2 (x_callr none 3 spr_X12_in (x_if_ne (x_aload 0 (x_int 0 (x_iload 1 (x_int 1 (x_iadd (x_call (some 12) 3 sp_F12_copyAll (x_nw (x_aload 0 (x_get 12 44 (x_iload 1 (x_int 1 (x_zast (x_nw (x_int 1 (x_zret Q))))))))))))))) (x_int 0 (x_zret Q))))))))))
set_option maxRecDepth 100000 in
theorem s_F12_image_0 {p : Program} {l : Launch} {e : Env} {R : Room} {s : State} {m : MethodId} {args : Array Value} {below : List Frame} {meth : Method} {c : Code} {nW : Nat} {dC : Nat → ClassId} {dI : Nat → Nat → Nat} {k : Nat → ClassId} {g : Nat → Nat} {A : Nat → Prop} {J : Nat → List qV → List qV → qW → Prop} {Q : qR} (X : q_X p R s m args meth c cX12_image 2 nW 2 47 RX12 (some .boolean) dC dI k g A) (hJ : ∀ d : Nat, q_Sd p l e R s m args below meth c 2 nW dC dI k g A (MQ below (q_post (dC, dI) k g nW Q A) args s 0 0 A) d (x_cut (is_F12_image d) (J d))) : q_Sd p l e R s m args below meth c 2 nW dC dI k g A (MQ below (q_post (dC, dI) k g nW Q A) args s 0 0 A) 0 (b_F12_image_0 J Q) := by
  unfold b_F12_image_0
  refine s_aload_n X rfl dF12_image_0 ?_
  refine s_iconst X ⟨by decide, by decide⟩ dF12_image_1 ?_
  refine s_put X (T := TX12) (C := RX12) (N := 45) tu_X12 tyX12_ok nmX12 rfl (by decide) tw_997 rfl (by decide +kernel) q_oki_t dF12_image_2 ?_
  refine s_nw ?_
  refine s_iload_n X rfl dF12_image_5 ?_
  refine s_iconst X ⟨by decide, by decide⟩ dF12_image_6 ?_
  refine s_iconst X ⟨by decide, by decide⟩ dF12_image_7 ?_
  refine s_callSr X (m_X12_in l) tw_1054 tw_1055 tw_134 tw_1056 (by decide +kernel) ⟨by decide, by decide⟩ dF12_image_8 ?_
  refine s_if_ne X (tgt := 16) dF12_image_11 (by decide) ?_ ?_
  · refine s_aload_n X rfl dF12_image_16 ?_
    refine s_iconst X ⟨by decide, by decide⟩ dF12_image_17 ?_
    refine s_iload_n X rfl dF12_image_18 ?_
    refine s_iconst X ⟨by decide, by decide⟩ dF12_image_19 ?_
    refine s_iadd X dF12_image_20 ?_
    refine s_callV X (m_F12_copyAll l) tw_1473 tw_1474 tw_1554 tw_134 tw_1475 rfl (by decide +kernel) ⟨by decide, by decide⟩ dF12_image_21 ?_
    refine s_nw ?_
    refine s_aload_n X rfl dF12_image_24 ?_
    refine s_get X (T := TX12) (C := RX12) (N := 45) tu_X12 rfl (by decide) tw_1041 dF12_image_25 ?_
    refine s_iload_n X rfl dF12_image_28 ?_
    refine s_iconst X ⟨by decide, by decide⟩ dF12_image_29 ?_
    refine s_zast X dF12_image_30 ?_
    refine s_nw ?_
    refine s_iconst X ⟨by decide, by decide⟩ dF12_image_31 ?_
    exact s_zret X dF12_image_32
  · refine s_iconst X ⟨by decide, by decide⟩ dF12_image_14 ?_
    exact s_zret X dF12_image_15

def sp_F12_image : qS := fun av w Q => ∃ (mco : Int) (mre : Int) (mle : Int) (mbe : Int) (mso : Int) (mva : Int) (mwo : Int) (mwr : Int) (mlf : Int) (mlp : Int) (mfp : Int) (mfd : Int) (mgo : Int) (mbo : Int) (mpe : Int) (mye : Int) (mpr : Int) (mld : Int) (msi : Int) (mse : Int) (tp : Nat → Int) (siz : Nat → Int) (fa : Nat → Int) (fpl : Nat → Int) (mn : Nat → Int) (bs : Nat → Int) (ys : Nat → Int) (ls : Nat → Int) (ss : Nat → Int) (kp : Nat → Int) (a : Int), av = [q2 0, q1 a] ∧ w = [.inr (12, [q1 mco, q2 1, q2 2, q2 3, q2 4, q2 5, q2 6, q2 7, q2 8, q2 9, q1 mre, q1 mle, q1 mbe, q1 mso, q1 mva, q3 mwo, q1 mwr, q1 mlf, q1 mlp, q2 11, q2 12, q1 mfp, q1 mfd, q1 mgo, q1 mbo, q1 mpe, q1 mye, q2 13, q1 mpr, q2 14, q2 15, q2 16, q2 17, q1 mld, q2 18, q1 msi, q2 19, q2 20, q2 21, q2 22, q2 23, q1 mse, q2 24, q2 25, q2 10]), .inl (1, 2400, .inl tp), .inl (0, 4, .inl siz), .inl (0, 4, .inl fa), .inl (0, 4, .inl fpl), .inl (0, 16, .inl mn), .inl (0, 600, .inl bs), .inl (0, 1288, .inl ys), .inl (0, 72, .inl ls), .inl (0, 168, .inl ss), .inl (2, 3, .inl kp)] ∧ (BI bs) ∧ (YI ys) ∧ (SI ss) ∧ (q_rg 0 2 mn) ∧ (q_rg 0 600 siz) ∧ (∀ (r : Int) (x_mco : Int) (x_tp : Nat → Int) (x_siz : Nat → Int) (x_fa : Nat → Int) (x_fpl : Nat → Int) (x_mn : Nat → Int) (x_bs : Nat → Int) (x_ys : Nat → Int) (x_ls : Nat → Int) (x_ss : Nat → Int) (x_kp : Nat → Int), ((BI x_bs ∧ YI x_ys ∧ SI x_ss ∧ q_rg 0 2 x_mn ∧ q_rg 0 600 x_siz) ∧ ImM a r kp x_kp tp siz fa fpl mn bs ys ls ss x_tp x_siz x_fa x_fpl x_mn x_bs x_ys x_ls x_ss) → Q (some (q1 r)) ([.inr (12, [q1 x_mco, q2 1, q2 2, q2 3, q2 4, q2 5, q2 6, q2 7, q2 8, q2 9, q1 mre, q1 mle, q1 mbe, q1 mso, q1 mva, q3 mwo, q1 mwr, q1 mlf, q1 mlp, q2 11, q2 12, q1 mfp, q1 mfd, q1 mgo, q1 mbo, q1 mpe, q1 mye, q2 13, q1 mpr, q2 14, q2 15, q2 16, q2 17, q1 mld, q2 18, q1 msi, q2 19, q2 20, q2 21, q2 22, q2 23, q1 mse, q2 24, q2 25, q2 10]), .inl (1, 2400, .inl x_tp), .inl (0, 4, .inl x_siz), .inl (0, 4, .inl x_fa), .inl (0, 4, .inl x_fpl), .inl (0, 16, .inl x_mn), .inl (0, 600, .inl x_bs), .inl (0, 1288, .inl x_ys), .inl (0, 72, .inl x_ls), .inl (0, 168, .inl x_ss), .inl (2, 3, .inl x_kp)]))
set_option maxHeartbeats 4000000 in
set_option maxRecDepth 100000 in
theorem m_F12_image (l : Launch) : q_M l yX12_image cX12_image 2 (some .boolean) 2 47 sp_F12_image := by
  refine q_meth (by decide) (fun av w Q h => by obtain ⟨mco, mre, mle, mbe, mso, mva, mwo, mwr, mlf, mlp, mfp, mfd, mgo, mbo, mpe, mye, mpr, mld, msi, mse, tp, siz, fa, fpl, mn, bs, ys, ls, ss, kp, a, rfl, rfl, hbi, hyi, hsi, hmn, hsz, hQ⟩ := h; exact Nat.le_of_ble_eq_true rfl) ?_
  intro p e R s m args below meth c dC dI k g A av w Q hsp oka okw X
  obtain ⟨mco, mre, mle, mbe, mso, mva, mwo, mwr, mlf, mlp, mfp, mfd, mgo, mbo, mpe, mye, mpr, mld, msi, mse, tp, siz, fa, fpl, mn, bs, ys, ls, ss, kp, a, rfl, rfl, hbi, hyi, hsi, hmn, hsz, hQ⟩ := hsp
  have o_a : -2147483648 ≤ a ∧ a ≤ 2147483647 := oka _ (List.mem_of_getElem? (i := 1) rfl)
  refine s_mono (s_F12_image_0 X (J := fun _ _ _ _ => False) (fun d => s_cutF)) ?_
  rintro lv st w' ⟨rfl, rfl, rfl⟩
  apply And.intro
  · exact trivial
  refine Exists.intro [] (Exists.intro [q1 _, q1 _, q1 _] (Exists.intro [] (And.intro rfl (And.intro rfl (And.intro rfl (And.intro trivial ?_))))))
  refine Exists.intro _ (Exists.intro _ (Exists.intro _ (And.intro rfl (And.intro rfl (?_)))))
  intro zq_8 hq_8
  apply And.intro
  · intro hq_11
    first | replace hq_8 := dj1 hq_8 hq_11 | replace hq_8 := dj0 hq_8 hq_11
    intro zq_20 hq_20
    first | replace hq_20 := e_add hq_20 (by omega) | replace hq_20 := e_rng hq_20
    refine Exists.intro [0, 1, 2, 3, 4, 5, 6, 7, 8, 9, 11, 12, 13, 14, 15, 16, 17, 18, 19, 20, 21, 22, 23, 24, 25, 10] (Exists.intro [q2 0, q1 _, q1 _] (Exists.intro ([.inr (12, [q1 _, q2 1, q2 2, q2 3, q2 4, q2 5, q2 6, q2 7, q2 8, q2 9, q1 _, q1 _, q1 _, q1 _, q1 _, q3 _, q1 _, q1 _, q1 _, q2 10, q2 11, q1 _, q1 _, q1 _, q1 _, q1 _, q1 _, q2 12, q1 _, q2 13, q2 14, q2 15, q2 16, q1 _, q2 17, q1 _, q2 18, q2 19, q2 20, q2 21, q2 22, q1 _, q2 23, q2 24, q2 25]), .inl (1, 2400, .inl _), .inl (0, 4, .inl _), .inl (0, 4, .inl _), .inl (0, 4, .inl _), .inl (0, 16, .inl _), .inl (0, 600, .inl _), .inl (0, 1288, .inl _), .inl (0, 72, .inl _), .inl (0, 168, .inl _)]) (And.intro rfl (And.intro rfl (And.intro rfl (And.intro ⟨⟨_, rfl⟩, rfl⟩ ?_))))))
    refine Exists.intro _ (Exists.intro _ (Exists.intro _ (Exists.intro _ (Exists.intro _ (Exists.intro _ (Exists.intro _ (Exists.intro _ (Exists.intro _ (Exists.intro _ (Exists.intro _ (Exists.intro _ (Exists.intro _ (Exists.intro _ (Exists.intro _ (Exists.intro _ (Exists.intro _ (Exists.intro _ (Exists.intro _ (Exists.intro _ (Exists.intro _ (Exists.intro _ (Exists.intro _ (Exists.intro _ (Exists.intro _ (Exists.intro _ (Exists.intro _ (Exists.intro _ (Exists.intro _ (Exists.intro _ (Exists.intro _ (And.intro rfl (And.intro rfl (And.intro (by first | omega | assumption | exact q_rg_up (by assumption) (by omega) | exact q_rg_up (q_rg_up (by assumption) (by omega)) (by omega) | exact q_rg_cpy (by assumption) (by assumption)) (And.intro (by first | omega | assumption | exact q_rg_up (by assumption) (by omega) | exact q_rg_up (q_rg_up (by assumption) (by omega)) (by omega) | exact q_rg_cpy (by assumption) (by assumption)) (And.intro (by first | omega | assumption | exact q_rg_up (by assumption) (by omega) | exact q_rg_up (q_rg_up (by assumption) (by omega)) (by omega) | exact q_rg_cpy (by assumption) (by assumption)) (And.intro (by first | omega | assumption | exact q_rg_up (by assumption) (by omega) | exact q_rg_up (q_rg_up (by assumption) (by omega)) (by omega) | exact q_rg_cpy (by assumption) (by assumption)) (And.intro (by first | omega | assumption | exact q_rg_up (by assumption) (by omega) | exact q_rg_up (q_rg_up (by assumption) (by omega)) (by omega) | exact q_rg_cpy (by assumption) (by assumption)) (And.intro (by first | omega | assumption | exact q_rg_up (by assumption) (by omega) | exact q_rg_up (q_rg_up (by assumption) (by omega)) (by omega) | exact q_rg_cpy (by assumption) (by assumption)) (?_)))))))))))))))))))))))))))))))))))))))
    intro x_tp_21 x_siz_21 x_fa_21 x_fpl_21 x_mn_21 x_bs_21 x_ys_21 x_ls_21 x_ss_21 hq_21
    apply And.intro
    · exact ⟨by omega, by omega⟩
    apply And.intro
    · first | omega | exact Or.inr rfl | exact Or.inl rfl
    apply And.intro
    · first | exact Or.inl rfl | exact Or.inr rfl | omega
    exact hQ _ _ _ _ _ _ _ _ _ _ _ _ (by first | exact ⟨hq_21.1, Or.inl ⟨rfl, ⟨by omega, by omega⟩, rfl, (by rw [show a + 1 = zq_20 by omega]; exact hq_21.2)⟩⟩ | exact ⟨⟨hbi, hyi, hsi, hmn, hsz⟩, Or.inr ⟨rfl, by omega, rfl, rfl, rfl, rfl, rfl, rfl, rfl, rfl, rfl, rfl⟩⟩)
  · intro hq_11
    first | replace hq_8 := dj1 hq_8 hq_11 | replace hq_8 := dj0 hq_8 hq_11
    apply And.intro
    · first | exact Or.inl rfl | exact Or.inr rfl | omega
    exact hQ _ _ _ _ _ _ _ _ _ _ _ _ (by first | exact ⟨hq_21.1, Or.inl ⟨rfl, ⟨by omega, by omega⟩, rfl, (by rw [show a + 1 = zq_20 by omega]; exact hq_21.2)⟩⟩ | exact ⟨⟨hbi, hyi, hsi, hmn, hsz⟩, Or.inr ⟨rfl, by omega, rfl, rfl, rfl, rfl, rfl, rfl, rfl, rfl, rfl, rfl⟩⟩)

theorem dF12_again_0 : decode cX12_again 0 = .ok (.aload_n 0, 1) := by decide +kernel
theorem dF12_again_1 : decode cX12_again 1 = .ok (.iconst 0, 1) := by decide +kernel
theorem dF12_again_2 : decode cX12_again 2 = .ok (.putfield 88, 3) := by decide +kernel
theorem dF12_again_5 : decode cX12_again 5 = .ok (.iload_n 1, 1) := by decide +kernel
theorem dF12_again_6 : decode cX12_again 6 = .ok (.iconst 0, 1) := by decide +kernel
theorem dF12_again_7 : decode cX12_again 7 = .ok (.iconst 2, 1) := by decide +kernel
theorem dF12_again_8 : decode cX12_again 8 = .ok (.invokestatic 100, 3) := by decide +kernel
theorem dF12_again_11 : decode cX12_again 11 = .ok (.ifCond .eq 12, 3) := by decide +kernel
theorem dF12_again_14 : decode cX12_again 14 = .ok (.aload_n 0, 1) := by decide +kernel
theorem dF12_again_15 : decode cX12_again 15 = .ok (.getfield 84, 3) := by decide +kernel
theorem dF12_again_18 : decode cX12_again 18 = .ok (.iload_n 1, 1) := by decide +kernel
theorem dF12_again_19 : decode cX12_again 19 = .ok (.baload, 1) := by decide +kernel
theorem dF12_again_20 : decode cX12_again 20 = .ok (.ifCond .ne 5, 3) := by decide +kernel
theorem dF12_again_23 : decode cX12_again 23 = .ok (.iconst 0, 1) := by decide +kernel
theorem dF12_again_24 : decode cX12_again 24 = .ok (.ireturn, 1) := by decide +kernel
theorem dF12_again_25 : decode cX12_again 25 = .ok (.aload_n 0, 1) := by decide +kernel
theorem dF12_again_26 : decode cX12_again 26 = .ok (.iload_n 1, 1) := by decide +kernel
theorem dF12_again_27 : decode cX12_again 27 = .ok (.iconst 1, 1) := by decide +kernel
theorem dF12_again_28 : decode cX12_again 28 = .ok (.iadd, 1) := by decide +kernel
theorem dF12_again_29 : decode cX12_again 29 = .ok (.iconst 0, 1) := by decide +kernel
theorem dF12_again_30 : decode cX12_again 30 = .ok (.invokevirtual 516, 3) := by decide +kernel
theorem dF12_again_33 : decode cX12_again 33 = .ok (.iconst 1, 1) := by decide +kernel
theorem dF12_again_34 : decode cX12_again 34 = .ok (.ireturn, 1) := by decide +kernel
def is_F12_again : Nat → List Nat := fun d => []
set_option maxRecDepth 100000 in
def b_F12_again_23 (J : Nat → List qV → List qV → qW → Prop) (Q : qR) : qK := x_int 0 (x_zret Q)
set_option maxRecDepth 100000 in
theorem s_F12_again_23 {p : Program} {l : Launch} {e : Env} {R : Room} {s : State} {m : MethodId} {args : Array Value} {below : List Frame} {meth : Method} {c : Code} {nW : Nat} {dC : Nat → ClassId} {dI : Nat → Nat → Nat} {k : Nat → ClassId} {g : Nat → Nat} {A : Nat → Prop} {J : Nat → List qV → List qV → qW → Prop} {Q : qR} (X : q_X p R s m args meth c cX12_again 2 nW 2 47 RX12 (some .boolean) dC dI k g A) (hJ : ∀ d : Nat, q_Sd p l e R s m args below meth c 2 nW dC dI k g A (MQ below (q_post (dC, dI) k g nW Q A) args s 0 0 A) d (x_cut (is_F12_again d) (J d))) : q_Sd p l e R s m args below meth c 2 nW dC dI k g A (MQ below (q_post (dC, dI) k g nW Q A) args s 0 0 A) 23 (b_F12_again_23 J Q) := by
  unfold b_F12_again_23
  refine s_iconst X ⟨by decide, by decide⟩ dF12_again_23 ?_
  exact s_zret X dF12_again_24
set_option maxRecDepth 100000 in
def b_F12_again_0 (J : Nat → List qV → List qV → qW → Prop) (Q : qR) : qK := x_aload 0 (x_int 0 (x_put 12 0 q_oki (x_nw (x_iload 1 (x_int 0 (x_int 2 (x_callr none 3 spr_X12_in (x_if_eq (b_F12_again_23 J Q) (x_aload 0 (x_get 12 44 (x_iload 1 (x_zald (x_if_ne (x_aload 0 (x_iload 1 (x_int 1 (x_iadd (x_int 0 (x_call (some 12) 3 sp_F12_copyAll (x_nw (x_int 1 (x_zret Q))))))))) (b_F12_again_23 J Q))))))))))))))
set_option maxRecDepth 100000 in
theorem s_F12_again_0 {p : Program} {l : Launch} {e : Env} {R : Room} {s : State} {m : MethodId} {args : Array Value} {below : List Frame} {meth : Method} {c : Code} {nW : Nat} {dC : Nat → ClassId} {dI : Nat → Nat → Nat} {k : Nat → ClassId} {g : Nat → Nat} {A : Nat → Prop} {J : Nat → List qV → List qV → qW → Prop} {Q : qR} (X : q_X p R s m args meth c cX12_again 2 nW 2 47 RX12 (some .boolean) dC dI k g A) (hJ : ∀ d : Nat, q_Sd p l e R s m args below meth c 2 nW dC dI k g A (MQ below (q_post (dC, dI) k g nW Q A) args s 0 0 A) d (x_cut (is_F12_again d) (J d))) : q_Sd p l e R s m args below meth c 2 nW dC dI k g A (MQ below (q_post (dC, dI) k g nW Q A) args s 0 0 A) 0 (b_F12_again_0 J Q) := by
  unfold b_F12_again_0
  refine s_aload_n X rfl dF12_again_0 ?_
  refine s_iconst X ⟨by decide, by decide⟩ dF12_again_1 ?_
  refine s_put X (T := TX12) (C := RX12) (N := 45) tu_X12 tyX12_ok nmX12 rfl (by decide) tw_997 rfl (by decide +kernel) q_oki_t dF12_again_2 ?_
  refine s_nw ?_
  refine s_iload_n X rfl dF12_again_5 ?_
  refine s_iconst X ⟨by decide, by decide⟩ dF12_again_6 ?_
  refine s_iconst X ⟨by decide, by decide⟩ dF12_again_7 ?_
  refine s_callSr X (m_X12_in l) tw_1054 tw_1055 tw_134 tw_1056 (by decide +kernel) ⟨by decide, by decide⟩ dF12_again_8 ?_
  refine s_if_eq X (tgt := 23) dF12_again_11 (by decide) ?_ ?_
  · exact s_F12_again_23 X hJ
  · refine s_aload_n X rfl dF12_again_14 ?_
    refine s_get X (T := TX12) (C := RX12) (N := 45) tu_X12 rfl (by decide) tw_1041 dF12_again_15 ?_
    refine s_iload_n X rfl dF12_again_18 ?_
    refine s_zald X dF12_again_19 ?_
    refine s_if_ne X (tgt := 25) dF12_again_20 (by decide) ?_ ?_
    · refine s_aload_n X rfl dF12_again_25 ?_
      refine s_iload_n X rfl dF12_again_26 ?_
      refine s_iconst X ⟨by decide, by decide⟩ dF12_again_27 ?_
      refine s_iadd X dF12_again_28 ?_
      refine s_iconst X ⟨by decide, by decide⟩ dF12_again_29 ?_
      refine s_callV X (m_F12_copyAll l) tw_1473 tw_1474 tw_1554 tw_134 tw_1475 rfl (by decide +kernel) ⟨by decide, by decide⟩ dF12_again_30 ?_
      refine s_nw ?_
      refine s_iconst X ⟨by decide, by decide⟩ dF12_again_33 ?_
      exact s_zret X dF12_again_34
    · exact s_F12_again_23 X hJ

def sp_F12_again : qS := fun av w Q => ∃ (mco : Int) (mre : Int) (mle : Int) (mbe : Int) (mso : Int) (mva : Int) (mwo : Int) (mwr : Int) (mlf : Int) (mlp : Int) (mfp : Int) (mfd : Int) (mgo : Int) (mbo : Int) (mpe : Int) (mye : Int) (mpr : Int) (mld : Int) (msi : Int) (mse : Int) (tp : Nat → Int) (siz : Nat → Int) (fa : Nat → Int) (fpl : Nat → Int) (mn : Nat → Int) (bs : Nat → Int) (ys : Nat → Int) (ls : Nat → Int) (ss : Nat → Int) (kp : Nat → Int) (a : Int), av = [q2 0, q1 a] ∧ w = [.inr (12, [q1 mco, q2 1, q2 2, q2 3, q2 4, q2 5, q2 6, q2 7, q2 8, q2 9, q1 mre, q1 mle, q1 mbe, q1 mso, q1 mva, q3 mwo, q1 mwr, q1 mlf, q1 mlp, q2 11, q2 12, q1 mfp, q1 mfd, q1 mgo, q1 mbo, q1 mpe, q1 mye, q2 13, q1 mpr, q2 14, q2 15, q2 16, q2 17, q1 mld, q2 18, q1 msi, q2 19, q2 20, q2 21, q2 22, q2 23, q1 mse, q2 24, q2 25, q2 10]), .inl (1, 2400, .inl tp), .inl (0, 4, .inl siz), .inl (0, 4, .inl fa), .inl (0, 4, .inl fpl), .inl (0, 16, .inl mn), .inl (0, 600, .inl bs), .inl (0, 1288, .inl ys), .inl (0, 72, .inl ls), .inl (0, 168, .inl ss), .inl (2, 3, .inl kp)] ∧ (BI bs) ∧ (YI ys) ∧ (SI ss) ∧ (q_rg 0 2 mn) ∧ (q_rg 0 600 siz) ∧ (∀ (r : Int) (x_mco : Int) (x_tp : Nat → Int) (x_siz : Nat → Int) (x_fa : Nat → Int) (x_fpl : Nat → Int) (x_mn : Nat → Int) (x_bs : Nat → Int) (x_ys : Nat → Int) (x_ls : Nat → Int) (x_ss : Nat → Int), ((BI x_bs ∧ YI x_ys ∧ SI x_ss ∧ q_rg 0 2 x_mn ∧ q_rg 0 600 x_siz) ∧ AgM a r kp tp siz fa fpl mn bs ys ls ss x_tp x_siz x_fa x_fpl x_mn x_bs x_ys x_ls x_ss) → Q (some (q1 r)) ([.inr (12, [q1 x_mco, q2 1, q2 2, q2 3, q2 4, q2 5, q2 6, q2 7, q2 8, q2 9, q1 mre, q1 mle, q1 mbe, q1 mso, q1 mva, q3 mwo, q1 mwr, q1 mlf, q1 mlp, q2 11, q2 12, q1 mfp, q1 mfd, q1 mgo, q1 mbo, q1 mpe, q1 mye, q2 13, q1 mpr, q2 14, q2 15, q2 16, q2 17, q1 mld, q2 18, q1 msi, q2 19, q2 20, q2 21, q2 22, q2 23, q1 mse, q2 24, q2 25, q2 10]), .inl (1, 2400, .inl x_tp), .inl (0, 4, .inl x_siz), .inl (0, 4, .inl x_fa), .inl (0, 4, .inl x_fpl), .inl (0, 16, .inl x_mn), .inl (0, 600, .inl x_bs), .inl (0, 1288, .inl x_ys), .inl (0, 72, .inl x_ls), .inl (0, 168, .inl x_ss), .inl (2, 3, .inl kp)]))
set_option maxHeartbeats 4000000 in
set_option maxRecDepth 100000 in
theorem m_F12_again (l : Launch) : q_M l yX12_again cX12_again 2 (some .boolean) 2 47 sp_F12_again := by
  refine q_meth (by decide) (fun av w Q h => by obtain ⟨mco, mre, mle, mbe, mso, mva, mwo, mwr, mlf, mlp, mfp, mfd, mgo, mbo, mpe, mye, mpr, mld, msi, mse, tp, siz, fa, fpl, mn, bs, ys, ls, ss, kp, a, rfl, rfl, hbi, hyi, hsi, hmn, hsz, hQ⟩ := h; exact Nat.le_of_ble_eq_true rfl) ?_
  intro p e R s m args below meth c dC dI k g A av w Q hsp oka okw X
  obtain ⟨mco, mre, mle, mbe, mso, mva, mwo, mwr, mlf, mlp, mfp, mfd, mgo, mbo, mpe, mye, mpr, mld, msi, mse, tp, siz, fa, fpl, mn, bs, ys, ls, ss, kp, a, rfl, rfl, hbi, hyi, hsi, hmn, hsz, hQ⟩ := hsp
  have o_a : -2147483648 ≤ a ∧ a ≤ 2147483647 := oka _ (List.mem_of_getElem? (i := 1) rfl)
  refine s_mono (s_F12_again_0 X (J := fun _ _ _ _ => False) (fun d => s_cutF)) ?_
  rintro lv st w' ⟨rfl, rfl, rfl⟩
  apply And.intro
  · exact trivial
  refine Exists.intro [] (Exists.intro [q1 _, q1 _, q1 _] (Exists.intro [] (And.intro rfl (And.intro rfl (And.intro rfl (And.intro trivial ?_))))))
  refine Exists.intro _ (Exists.intro _ (Exists.intro _ (And.intro rfl (And.intro rfl (?_)))))
  intro zq_8 hq_8
  apply And.intro
  · intro hq_11
    first | replace hq_8 := dj1 hq_8 hq_11 | replace hq_8 := dj0 hq_8 hq_11
    apply And.intro
    · first | exact Or.inl rfl | exact Or.inr rfl | omega
    exact hQ _ _ _ _ _ _ _ _ _ _ _ (by first | exact ⟨hq_30.1, Or.inl ⟨rfl, ⟨⟨by omega, by omega⟩, (by rw [← hq_19]; exact hq_20)⟩, (by rw [show a + 1 = zq_28 by omega]; exact hq_30.2)⟩⟩ | exact ⟨⟨hbi, hyi, hsi, hmn, hsz⟩, Or.inr ⟨rfl, (fun hq_9 => hq_9.2 (by rw [← hq_19]; omega)), rfl, rfl, rfl, rfl, rfl, rfl, rfl, rfl, rfl⟩⟩ | exact ⟨⟨hbi, hyi, hsi, hmn, hsz⟩, Or.inr ⟨rfl, (fun hq_9 => by omega), rfl, rfl, rfl, rfl, rfl, rfl, rfl, rfl, rfl⟩⟩)
  · intro hq_11
    first | replace hq_8 := dj1 hq_8 hq_11 | replace hq_8 := dj0 hq_8 hq_11
    apply And.intro
    · exact ⟨by omega, by omega⟩
    intro zq_19 hq_19
    apply And.intro
    · intro hq_20
      intro zq_28 hq_28
      first | replace hq_28 := e_add hq_28 (by omega) | replace hq_28 := e_rng hq_28
      refine Exists.intro [0, 1, 2, 3, 4, 5, 6, 7, 8, 9, 11, 12, 13, 14, 15, 16, 17, 18, 19, 20, 21, 22, 23, 24, 25, 10] (Exists.intro [q2 0, q1 _, q1 _] (Exists.intro ([.inr (12, [q1 _, q2 1, q2 2, q2 3, q2 4, q2 5, q2 6, q2 7, q2 8, q2 9, q1 _, q1 _, q1 _, q1 _, q1 _, q3 _, q1 _, q1 _, q1 _, q2 10, q2 11, q1 _, q1 _, q1 _, q1 _, q1 _, q1 _, q2 12, q1 _, q2 13, q2 14, q2 15, q2 16, q1 _, q2 17, q1 _, q2 18, q2 19, q2 20, q2 21, q2 22, q1 _, q2 23, q2 24, q2 25]), .inl (1, 2400, .inl _), .inl (0, 4, .inl _), .inl (0, 4, .inl _), .inl (0, 4, .inl _), .inl (0, 16, .inl _), .inl (0, 600, .inl _), .inl (0, 1288, .inl _), .inl (0, 72, .inl _), .inl (0, 168, .inl _)]) (And.intro rfl (And.intro rfl (And.intro rfl (And.intro ⟨⟨_, rfl⟩, rfl⟩ ?_))))))
      refine Exists.intro _ (Exists.intro _ (Exists.intro _ (Exists.intro _ (Exists.intro _ (Exists.intro _ (Exists.intro _ (Exists.intro _ (Exists.intro _ (Exists.intro _ (Exists.intro _ (Exists.intro _ (Exists.intro _ (Exists.intro _ (Exists.intro _ (Exists.intro _ (Exists.intro _ (Exists.intro _ (Exists.intro _ (Exists.intro _ (Exists.intro _ (Exists.intro _ (Exists.intro _ (Exists.intro _ (Exists.intro _ (Exists.intro _ (Exists.intro _ (Exists.intro _ (Exists.intro _ (Exists.intro _ (Exists.intro _ (And.intro rfl (And.intro rfl (And.intro (by first | omega | assumption | exact q_rg_up (by assumption) (by omega) | exact q_rg_up (q_rg_up (by assumption) (by omega)) (by omega) | exact q_rg_cpy (by assumption) (by assumption)) (And.intro (by first | omega | assumption | exact q_rg_up (by assumption) (by omega) | exact q_rg_up (q_rg_up (by assumption) (by omega)) (by omega) | exact q_rg_cpy (by assumption) (by assumption)) (And.intro (by first | omega | assumption | exact q_rg_up (by assumption) (by omega) | exact q_rg_up (q_rg_up (by assumption) (by omega)) (by omega) | exact q_rg_cpy (by assumption) (by assumption)) (And.intro (by first | omega | assumption | exact q_rg_up (by assumption) (by omega) | exact q_rg_up (q_rg_up (by assumption) (by omega)) (by omega) | exact q_rg_cpy (by assumption) (by assumption)) (And.intro (by first | omega | assumption | exact q_rg_up (by assumption) (by omega) | exact q_rg_up (q_rg_up (by assumption) (by omega)) (by omega) | exact q_rg_cpy (by assumption) (by assumption)) (And.intro (by first | omega | assumption | exact q_rg_up (by assumption) (by omega) | exact q_rg_up (q_rg_up (by assumption) (by omega)) (by omega) | exact q_rg_cpy (by assumption) (by assumption)) (?_)))))))))))))))))))))))))))))))))))))))
      intro x_tp_30 x_siz_30 x_fa_30 x_fpl_30 x_mn_30 x_bs_30 x_ys_30 x_ls_30 x_ss_30 hq_30
      apply And.intro
      · first | exact Or.inl rfl | exact Or.inr rfl | omega
      exact hQ _ _ _ _ _ _ _ _ _ _ _ (by first | exact ⟨hq_30.1, Or.inl ⟨rfl, ⟨⟨by omega, by omega⟩, (by rw [← hq_19]; exact hq_20)⟩, (by rw [show a + 1 = zq_28 by omega]; exact hq_30.2)⟩⟩ | exact ⟨⟨hbi, hyi, hsi, hmn, hsz⟩, Or.inr ⟨rfl, (fun hq_9 => hq_9.2 (by rw [← hq_19]; omega)), rfl, rfl, rfl, rfl, rfl, rfl, rfl, rfl, rfl⟩⟩ | exact ⟨⟨hbi, hyi, hsi, hmn, hsz⟩, Or.inr ⟨rfl, (fun hq_9 => by omega), rfl, rfl, rfl, rfl, rfl, rfl, rfl, rfl, rfl⟩⟩)
    · intro hq_20
      apply And.intro
      · first | exact Or.inl rfl | exact Or.inr rfl | omega
      exact hQ _ _ _ _ _ _ _ _ _ _ _ (by first | exact ⟨hq_30.1, Or.inl ⟨rfl, ⟨⟨by omega, by omega⟩, (by rw [← hq_19]; exact hq_20)⟩, (by rw [show a + 1 = zq_28 by omega]; exact hq_30.2)⟩⟩ | exact ⟨⟨hbi, hyi, hsi, hmn, hsz⟩, Or.inr ⟨rfl, (fun hq_9 => hq_9.2 (by rw [← hq_19]; omega)), rfl, rfl, rfl, rfl, rfl, rfl, rfl, rfl, rfl⟩⟩ | exact ⟨⟨hbi, hyi, hsi, hmn, hsz⟩, Or.inr ⟨rfl, (fun hq_9 => by omega), rfl, rfl, rfl, rfl, rfl, rfl, rfl, rfl, rfl⟩⟩)
