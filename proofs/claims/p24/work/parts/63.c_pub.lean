theorem dX12_four_0 : decode cX12_four 0 = .ok (.bipush 24, 2) := by decide +kernel
theorem dX12_four_2 : decode cX12_four 2 = .ok (.istore_n 2, 1) := by decide +kernel
theorem dX12_four_3 : decode cX12_four 3 = .ok (.iload_n 2, 1) := by decide +kernel
theorem dX12_four_4 : decode cX12_four 4 = .ok (.ifCond .lt 34, 3) := by decide +kernel
theorem dX12_four_7 : decode cX12_four 7 = .ok (.aload_n 0, 1) := by decide +kernel
theorem dX12_four_8 : decode cX12_four 8 = .ok (.getfield 7, 3) := by decide +kernel
theorem dX12_four_11 : decode cX12_four 11 = .ok (.aload_n 0, 1) := by decide +kernel
theorem dX12_four_12 : decode cX12_four 12 = .ok (.getfield 13, 3) := by decide +kernel
theorem dX12_four_15 : decode cX12_four 15 = .ok (.iconst 0, 1) := by decide +kernel
theorem dX12_four_16 : decode cX12_four 16 = .ok (.iaload, 1) := by decide +kernel
theorem dX12_four_17 : decode cX12_four 17 = .ok (.iload_n 1, 1) := by decide +kernel
theorem dX12_four_18 : decode cX12_four 18 = .ok (.iload_n 2, 1) := by decide +kernel
theorem dX12_four_19 : decode cX12_four 19 = .ok (.ishr, 1) := by decide +kernel
theorem dX12_four_20 : decode cX12_four 20 = .ok (.i2b, 1) := by decide +kernel
theorem dX12_four_21 : decode cX12_four 21 = .ok (.bastore, 1) := by decide +kernel
theorem dX12_four_22 : decode cX12_four 22 = .ok (.aload_n 0, 1) := by decide +kernel
theorem dX12_four_23 : decode cX12_four 23 = .ok (.getfield 13, 3) := by decide +kernel
theorem dX12_four_26 : decode cX12_four 26 = .ok (.iconst 0, 1) := by decide +kernel
theorem dX12_four_27 : decode cX12_four 27 = .ok (.dup2, 1) := by decide +kernel
theorem dX12_four_28 : decode cX12_four 28 = .ok (.iaload, 1) := by decide +kernel
theorem dX12_four_29 : decode cX12_four 29 = .ok (.iconst 1, 1) := by decide +kernel
theorem dX12_four_30 : decode cX12_four 30 = .ok (.iadd, 1) := by decide +kernel
theorem dX12_four_31 : decode cX12_four 31 = .ok (.iastore, 1) := by decide +kernel
theorem dX12_four_32 : decode cX12_four 32 = .ok (.iinc 2 (-8), 3) := by decide +kernel
theorem dX12_four_35 : decode cX12_four 35 = .ok (.goto (-32), 3) := by decide +kernel
theorem dX12_four_38 : decode cX12_four 38 = .ok (.return_, 1) := by decide +kernel
def is_X12_four : Nat → List Nat := fun d => if d = 3 then [0, 1, 2] else []
set_option maxRecDepth 100000 in
def b_X12_four_3 (J : Nat → List qV → List qV → qW → Prop) (Q : qR) : qK := x_iload 2 (x_if_lt (x_vret Q) (x_aload 0 (x_get 12 1 (x_aload 0 (x_get 12 2 (x_int 0 (x_iald (x_iload 1 (x_iload 2 (x_ishr (x_i2b (x_bast (x_nw (x_aload 0 (x_get 12 2 (x_int 0 (x_dup2 (x_iald (x_int 1 (x_iadd (x_iast (x_nw (x_iinc 2 (-8) (x_cut [0, 1, 2] (J 3)))))))))))))))))))))))))
set_option maxRecDepth 100000 in
theorem s_X12_four_3 {p : Program} {l : Launch} {e : Env} {R : Room} {s : State} {m : MethodId} {args : Array Value} {below : List Frame} {meth : Method} {c : Code} {nW : Nat} {dC : Nat → ClassId} {dI : Nat → Nat → Nat} {k : Nat → ClassId} {g : Nat → Nat} {A : Nat → Prop} {J : Nat → List qV → List qV → qW → Prop} {Q : qR} (X : q_X p R s m args meth c cX12_four 3 nW 0 0 RX12 none dC dI k g A) (hJ : ∀ d : Nat, q_Sd p l e R s m args below meth c 3 nW dC dI k g A (MQ below (q_post (dC, dI) k g nW Q A) args s 0 0 A) d (x_cut (is_X12_four d) (J d))) : q_Sd p l e R s m args below meth c 3 nW dC dI k g A (MQ below (q_post (dC, dI) k g nW Q A) args s 0 0 A) 3 (b_X12_four_3 J Q) := by
  unfold b_X12_four_3
  refine s_iload_n X rfl dX12_four_3 ?_
  refine s_if_lt X (tgt := 38) dX12_four_4 (by decide) ?_ ?_
  · exact s_vret X dX12_four_38
  · refine s_aload_n X rfl dX12_four_7 ?_
    refine s_get X (T := TX12) (C := RX12) (N := 45) tu_X12 rfl (by decide) tw_998 dX12_four_8 ?_
    refine s_aload_n X rfl dX12_four_11 ?_
    refine s_get X (T := TX12) (C := RX12) (N := 45) tu_X12 rfl (by decide) tw_999 dX12_four_12 ?_
    refine s_iconst X ⟨by decide, by decide⟩ dX12_four_15 ?_
    refine s_iald X dX12_four_16 ?_
    refine s_iload_n X rfl dX12_four_17 ?_
    refine s_iload_n X rfl dX12_four_18 ?_
    refine s_ishr X dX12_four_19 ?_
    refine s_i2b X dX12_four_20 ?_
    refine s_bast X dX12_four_21 ?_
    refine s_nw ?_
    refine s_aload_n X rfl dX12_four_22 ?_
    refine s_get X (T := TX12) (C := RX12) (N := 45) tu_X12 rfl (by decide) tw_999 dX12_four_23 ?_
    refine s_iconst X ⟨by decide, by decide⟩ dX12_four_26 ?_
    refine s_dup2 X dX12_four_27 ?_
    refine s_iald X dX12_four_28 ?_
    refine s_iconst X ⟨by decide, by decide⟩ dX12_four_29 ?_
    refine s_iadd X dX12_four_30 ?_
    refine s_iast X dX12_four_31 ?_
    refine s_nw ?_
    refine s_iinc X (by decide) dX12_four_32 ?_
    refine s_goto X (tgt := 3) dX12_four_35 (by decide) ?_
    exact hJ 3
set_option maxRecDepth 100000 in
def b_X12_four_0 (J : Nat → List qV → List qV → qW → Prop) (Q : qR) : qK := x_int 24 (x_istore 2 (x_cut [0, 1, 2] (J 3)))
set_option maxRecDepth 100000 in
theorem s_X12_four_0 {p : Program} {l : Launch} {e : Env} {R : Room} {s : State} {m : MethodId} {args : Array Value} {below : List Frame} {meth : Method} {c : Code} {nW : Nat} {dC : Nat → ClassId} {dI : Nat → Nat → Nat} {k : Nat → ClassId} {g : Nat → Nat} {A : Nat → Prop} {J : Nat → List qV → List qV → qW → Prop} {Q : qR} (X : q_X p R s m args meth c cX12_four 3 nW 0 0 RX12 none dC dI k g A) (hJ : ∀ d : Nat, q_Sd p l e R s m args below meth c 3 nW dC dI k g A (MQ below (q_post (dC, dI) k g nW Q A) args s 0 0 A) d (x_cut (is_X12_four d) (J d))) : q_Sd p l e R s m args below meth c 3 nW dC dI k g A (MQ below (q_post (dC, dI) k g nW Q A) args s 0 0 A) 0 (b_X12_four_0 J Q) := by
  unfold b_X12_four_0
  refine s_bipush X ⟨by decide, by decide⟩ (by decide) dX12_four_0 ?_
  refine s_istore_n X rfl (by decide) dX12_four_2 ?_
  exact hJ 3

def sp_X12_four : qS := fun av w Q => ∃ (mco : Int) (mre : Int) (mle : Int) (mbe : Int) (mso : Int) (mva : Int) (mwo : Int) (mwr : Int) (mlf : Int) (mlp : Int) (mfp : Int) (mfd : Int) (mgo : Int) (mbo : Int) (mpe : Int) (mye : Int) (mpr : Int) (mld : Int) (msi : Int) (mse : Int) (tp : Nat → Int) (siz : Nat → Int) (a : Int), av = [q2 0, q1 a] ∧ w = [.inr (12, [q1 mco, q2 1, q2 2, q2 3, q2 4, q2 5, q2 6, q2 7, q2 8, q2 9, q1 mre, q1 mle, q1 mbe, q1 mso, q1 mva, q3 mwo, q1 mwr, q1 mlf, q1 mlp, q2 10, q2 11, q1 mfp, q1 mfd, q1 mgo, q1 mbo, q1 mpe, q1 mye, q2 12, q1 mpr, q2 13, q2 14, q2 15, q2 16, q1 mld, q2 17, q1 msi, q2 18, q2 19, q2 20, q2 21, q2 22, q1 mse, q2 23, q2 24, q2 25]), .inl (1, 2400, .inl tp), .inl (0, 4, .inl siz)] ∧ (q_rg 0 600 siz) ∧ (siz 0 ≤ 596) ∧ (∀ (x_tp : Nat → Int) (x_siz : Nat → Int), (q_rg 0 600 x_siz ∧ x_siz 0 = siz 0 + 4 ∧ szK siz x_siz) → Q none ([.inr (12, [q1 mco, q2 1, q2 2, q2 3, q2 4, q2 5, q2 6, q2 7, q2 8, q2 9, q1 mre, q1 mle, q1 mbe, q1 mso, q1 mva, q3 mwo, q1 mwr, q1 mlf, q1 mlp, q2 10, q2 11, q1 mfp, q1 mfd, q1 mgo, q1 mbo, q1 mpe, q1 mye, q2 12, q1 mpr, q2 13, q2 14, q2 15, q2 16, q1 mld, q2 17, q1 msi, q2 18, q2 19, q2 20, q2 21, q2 22, q1 mse, q2 23, q2 24, q2 25]), .inl (1, 2400, .inl x_tp), .inl (0, 4, .inl x_siz)]))
def I_X12_four (mco : Int) (mre : Int) (mle : Int) (mbe : Int) (mso : Int) (mva : Int) (mwo : Int) (mwr : Int) (mlf : Int) (mlp : Int) (mfp : Int) (mfd : Int) (mgo : Int) (mbo : Int) (mpe : Int) (mye : Int) (mpr : Int) (mld : Int) (msi : Int) (mse : Int) (tp : Nat → Int) (siz : Nat → Int) (a : Int) : Nat → Nat → List qV → List qV → qW → Prop := fun dz mz vz sz wz => if dz = 3 then (∃ (y_tp : Nat → Int) (y_siz : Nat → Int) (v2 : Int), vz = [q2 0, q1 a, q1 v2] ∧ sz = [] ∧ wz = [.inr (12, [q1 mco, q2 1, q2 2, q2 3, q2 4, q2 5, q2 6, q2 7, q2 8, q2 9, q1 mre, q1 mle, q1 mbe, q1 mso, q1 mva, q3 mwo, q1 mwr, q1 mlf, q1 mlp, q2 10, q2 11, q1 mfp, q1 mfd, q1 mgo, q1 mbo, q1 mpe, q1 mye, q2 12, q1 mpr, q2 13, q2 14, q2 15, q2 16, q1 mld, q2 17, q1 msi, q2 18, q2 19, q2 20, q2 21, q2 22, q1 mse, q2 23, q2 24, q2 25]), .inl (1, 2400, .inl y_tp), .inl (0, 4, .inl y_siz)] ∧ mz = (v2 + 8).toNat ∧ (-8 ≤ v2 ∧ v2 ≤ 24 ∧ 8 * (y_siz 0 - siz 0) = 24 - v2 ∧ v2 % 8 = 0) ∧ (q_rg 0 600 y_siz) ∧ (szK siz y_siz)) else False
set_option maxHeartbeats 4000000 in
set_option maxRecDepth 100000 in
theorem m_X12_four (l : Launch) : q_M l yX12_four cX12_four 3 none 0 0 sp_X12_four := by
  refine q_meth (by decide) (fun av w Q h => by obtain ⟨mco, mre, mle, mbe, mso, mva, mwo, mwr, mlf, mlp, mfp, mfd, mgo, mbo, mpe, mye, mpr, mld, msi, mse, tp, siz, a, rfl, rfl, hsz, hz0, hQ⟩ := h; exact Nat.le_of_ble_eq_true rfl) ?_
  intro p e R s m args below meth c dC dI k g A av w Q hsp oka okw X
  obtain ⟨mco, mre, mle, mbe, mso, mva, mwo, mwr, mlf, mlp, mfp, mfd, mgo, mbo, mpe, mye, mpr, mld, msi, mse, tp, siz, a, rfl, rfl, hsz, hz0, hQ⟩ := hsp
  have o_a : -2147483648 ≤ a ∧ a ≤ 2147483647 := oka _ (List.mem_of_getElem? (i := 1) rfl)
  refine s_mono (s_X12_four_0 X (J := fun dz vz sz wz => ∃ mz, I_X12_four mco mre mle mbe mso mva mwo mwr mlf mlp mfp mfd mgo mbo mpe mye mpr mld msi mse tp siz a dz mz vz sz wz) (q_loopn (I_X12_four mco mre mle mbe mso mva mwo mwr mlf mlp mfp mfd mgo mbo mpe mye mpr mld msi mse tp siz a) (fun dz J => if dz = 3 then b_X12_four_3 J Q else q_F) ?hs ?hv)) ?_
  case hs =>
    intro d J hJ
    by_cases h3 : d = 3
    · subst h3; exact s_X12_four_3 X hJ
    simp only [h3, if_false]
    exact s_F
  case hv =>
    intro dz mz vz sz wz hI okv oks okw hlen
    by_cases h3 : dz = 3
    · subst h3
      obtain ⟨y_tp, y_siz, v2, rfl, rfl, rfl, hn, hp, hsy, hk9⟩ := hI
      have b0 := hsy 0
      apply And.intro
      · intro h4
        exact hQ _ _ ⟨hsy, by omega, hk9⟩
      · intro h4
        apply And.intro
        · exact ⟨by omega, by omega⟩
        intro z16 h16
        have b16 : z16 = y_siz 0 := h16
        intro z19 h19
        replace h19 := e_rng h19
        intro z20 h20
        replace h20 := e_i2b h20
        apply And.intro
        · exact ⟨by omega, by omega⟩
        apply And.intro
        · first | omega | exact Or.inr rfl | exact Or.inl rfl
        apply And.intro
        · exact ⟨by omega, by omega⟩
        intro z28 h28
        have b28 : z28 = y_siz 0 := h28
        intro z30 h30
        first | replace h30 := e_add h30 (by omega) | replace h30 := e_rng h30
        apply And.intro
        · exact ⟨by omega, by omega⟩
        intro z32 h32
        first | replace h32 := e_add h32 (by omega) | replace h32 := e_rng h32
        exact ⟨_, ⟨_, _, _, rfl, rfl, rfl, rfl, (by first | omega | (rw [show ∀ (f : Nat → Int) (v : Int), q_up f (0 : Int).toNat v 0 = v from fun f v => q_up_s]; omega)), (by first | assumption | exact q_rg_up (by assumption) (by omega)), (by first | exact szK_r | exact szK_u hk9)⟩, by omega⟩
    simp only [I_X12_four, h3, if_false] at hI
  rintro lv st w' ⟨rfl, rfl, rfl⟩
  have b0 := hsz 0
  exact ⟨_, _, _, _, rfl, rfl, rfl, rfl, (by first | omega | (rw [show ∀ (f : Nat → Int) (v : Int), q_up f (0 : Int).toNat v 0 = v from fun f v => q_up_s]; omega)), (by first | assumption | exact q_rg_up (by assumption) (by omega)), (by first | exact szK_r | exact szK_u hk9)⟩

theorem dX12_feed_0 : decode cX12_feed 0 = .ok (.aload_n 0, 1) := by decide +kernel
theorem dX12_feed_1 : decode cX12_feed 1 = .ok (.iconst 0, 1) := by decide +kernel
theorem dX12_feed_2 : decode cX12_feed 2 = .ok (.putfield 88, 3) := by decide +kernel
theorem dX12_feed_5 : decode cX12_feed 5 = .ok (.aload_n 0, 1) := by decide +kernel
theorem dX12_feed_6 : decode cX12_feed 6 = .ok (.getfield 13, 3) := by decide +kernel
theorem dX12_feed_9 : decode cX12_feed 9 = .ok (.iconst 0, 1) := by decide +kernel
theorem dX12_feed_10 : decode cX12_feed 10 = .ok (.iaload, 1) := by decide +kernel
theorem dX12_feed_11 : decode cX12_feed 11 = .ok (.bipush 20, 2) := by decide +kernel
theorem dX12_feed_13 : decode cX12_feed 13 = .ok (.iadd, 1) := by decide +kernel
theorem dX12_feed_14 : decode cX12_feed 14 = .ok (.sipush 600, 3) := by decide +kernel
theorem dX12_feed_17 : decode cX12_feed 17 = .ok (.if_icmp .le 5, 3) := by decide +kernel
theorem dX12_feed_20 : decode cX12_feed 20 = .ok (.iconst (-1), 1) := by decide +kernel
theorem dX12_feed_21 : decode cX12_feed 21 = .ok (.ireturn, 1) := by decide +kernel
theorem dX12_feed_22 : decode cX12_feed 22 = .ok (.aload_n 0, 1) := by decide +kernel
theorem dX12_feed_23 : decode cX12_feed 23 = .ok (.iload_n 1, 1) := by decide +kernel
theorem dX12_feed_24 : decode cX12_feed 24 = .ok (.invokevirtual 104, 3) := by decide +kernel
theorem dX12_feed_27 : decode cX12_feed 27 = .ok (.aload_n 0, 1) := by decide +kernel
theorem dX12_feed_28 : decode cX12_feed 28 = .ok (.iload_n 2, 1) := by decide +kernel
theorem dX12_feed_29 : decode cX12_feed 29 = .ok (.invokevirtual 104, 3) := by decide +kernel
theorem dX12_feed_32 : decode cX12_feed 32 = .ok (.aload_n 0, 1) := by decide +kernel
theorem dX12_feed_33 : decode cX12_feed 33 = .ok (.iload_n 3, 1) := by decide +kernel
theorem dX12_feed_34 : decode cX12_feed 34 = .ok (.invokevirtual 104, 3) := by decide +kernel
theorem dX12_feed_37 : decode cX12_feed 37 = .ok (.aload_n 0, 1) := by decide +kernel
theorem dX12_feed_38 : decode cX12_feed 38 = .ok (.iload 4, 2) := by decide +kernel
theorem dX12_feed_40 : decode cX12_feed 40 = .ok (.invokevirtual 104, 3) := by decide +kernel
theorem dX12_feed_43 : decode cX12_feed 43 = .ok (.aload_n 0, 1) := by decide +kernel
theorem dX12_feed_44 : decode cX12_feed 44 = .ok (.iload 5, 2) := by decide +kernel
theorem dX12_feed_46 : decode cX12_feed 46 = .ok (.invokevirtual 104, 3) := by decide +kernel
theorem dX12_feed_49 : decode cX12_feed 49 = .ok (.aload_n 0, 1) := by decide +kernel
theorem dX12_feed_50 : decode cX12_feed 50 = .ok (.getfield 13, 3) := by decide +kernel
theorem dX12_feed_53 : decode cX12_feed 53 = .ok (.iconst 0, 1) := by decide +kernel
theorem dX12_feed_54 : decode cX12_feed 54 = .ok (.iaload, 1) := by decide +kernel
theorem dX12_feed_55 : decode cX12_feed 55 = .ok (.ireturn, 1) := by decide +kernel
def is_X12_feed : Nat → List Nat := fun d => []
set_option maxRecDepth 100000 in
def b_X12_feed_40 (J : Nat → List qV → List qV → qW → Prop) (Q : qR) : qK := x_call (some 12) 2 sp_X12_four (x_nw (x_aload 0 (x_iload 5 (x_call (some 12) 2 sp_X12_four (x_nw (x_aload 0 (x_get 12 2 (x_int 0 (x_iald (x_iret Q))))))))))
set_option maxRecDepth 100000 in
theorem s_X12_feed_40 {p : Program} {l : Launch} {e : Env} {R : Room} {s : State} {m : MethodId} {args : Array Value} {below : List Frame} {meth : Method} {c : Code} {nW : Nat} {dC : Nat → ClassId} {dI : Nat → Nat → Nat} {k : Nat → ClassId} {g : Nat → Nat} {A : Nat → Prop} {J : Nat → List qV → List qV → qW → Prop} {Q : qR} (X : q_X p R s m args meth c cX12_feed 6 nW 1 22 RX12 (some .int) dC dI k g A) (hJ : ∀ d : Nat, q_Sd p l e R s m args below meth c 6 nW dC dI k g A (MQ below (q_post (dC, dI) k g nW Q A) args s 0 0 A) d (x_cut (is_X12_feed d) (J d))) : q_Sd p l e R s m args below meth c 6 nW dC dI k g A (MQ below (q_post (dC, dI) k g nW Q A) args s 0 0 A) 40 (b_X12_feed_40 J Q) := by
  unfold b_X12_feed_40
  refine s_callV X (m_X12_four l) tw_1047 tw_1048 tw_1577 tw_134 tw_1049 rfl (by decide +kernel) ⟨by decide, by decide⟩ dX12_feed_40 ?_
  refine s_nw ?_
  refine s_aload_n X rfl dX12_feed_43 ?_
  refine s_iload X dX12_feed_44 ?_
  refine s_callV X (m_X12_four l) tw_1047 tw_1048 tw_1577 tw_134 tw_1049 rfl (by decide +kernel) ⟨by decide, by decide⟩ dX12_feed_46 ?_
  refine s_nw ?_
  refine s_aload_n X rfl dX12_feed_49 ?_
  refine s_get X (T := TX12) (C := RX12) (N := 45) tu_X12 rfl (by decide) tw_999 dX12_feed_50 ?_
  refine s_iconst X ⟨by decide, by decide⟩ dX12_feed_53 ?_
  refine s_iald X dX12_feed_54 ?_
  exact s_iret X dX12_feed_55
set_option maxRecDepth 100000 in
def b_X12_feed_0 (J : Nat → List qV → List qV → qW → Prop) (Q : qR) : qK := x_aload 0 (x_int 0 (x_put 12 0 q_oki (x_nw (x_aload 0 (x_get 12 2 (x_int 0 (x_iald (x_int 20 (x_iadd (x_int 600 (x_icmp_le (x_aload 0 (x_iload 1 (x_call (some 12) 2 sp_X12_four (x_nw (x_aload 0 (x_iload 2 (x_call (some 12) 2 sp_X12_four (x_nw (x_aload 0 (x_iload 3 (x_call (some 12) 2 sp_X12_four (x_nw (x_aload 0 (x_iload 4 (b_X12_feed_40 J Q))))))))))))))) (x_int (-1) (x_iret Q)))))))))))))
set_option maxRecDepth 100000 in
theorem s_X12_feed_0 {p : Program} {l : Launch} {e : Env} {R : Room} {s : State} {m : MethodId} {args : Array Value} {below : List Frame} {meth : Method} {c : Code} {nW : Nat} {dC : Nat → ClassId} {dI : Nat → Nat → Nat} {k : Nat → ClassId} {g : Nat → Nat} {A : Nat → Prop} {J : Nat → List qV → List qV → qW → Prop} {Q : qR} (X : q_X p R s m args meth c cX12_feed 6 nW 1 22 RX12 (some .int) dC dI k g A) (hJ : ∀ d : Nat, q_Sd p l e R s m args below meth c 6 nW dC dI k g A (MQ below (q_post (dC, dI) k g nW Q A) args s 0 0 A) d (x_cut (is_X12_feed d) (J d))) : q_Sd p l e R s m args below meth c 6 nW dC dI k g A (MQ below (q_post (dC, dI) k g nW Q A) args s 0 0 A) 0 (b_X12_feed_0 J Q) := by
  unfold b_X12_feed_0
  refine s_aload_n X rfl dX12_feed_0 ?_
  refine s_iconst X ⟨by decide, by decide⟩ dX12_feed_1 ?_
  refine s_put X (T := TX12) (C := RX12) (N := 45) tu_X12 tyX12_ok nmX12 rfl (by decide) tw_997 rfl (by decide +kernel) q_oki_t dX12_feed_2 ?_
  refine s_nw ?_
  refine s_aload_n X rfl dX12_feed_5 ?_
  refine s_get X (T := TX12) (C := RX12) (N := 45) tu_X12 rfl (by decide) tw_999 dX12_feed_6 ?_
  refine s_iconst X ⟨by decide, by decide⟩ dX12_feed_9 ?_
  refine s_iald X dX12_feed_10 ?_
  refine s_bipush X ⟨by decide, by decide⟩ (by decide) dX12_feed_11 ?_
  refine s_iadd X dX12_feed_13 ?_
  refine s_sipush X ⟨by decide, by decide⟩ (by decide) dX12_feed_14 ?_
  refine s_icmp_le X (tgt := 22) dX12_feed_17 (by decide) ?_ ?_
  · refine s_aload_n X rfl dX12_feed_22 ?_
    refine s_iload_n X rfl dX12_feed_23 ?_
    refine s_callV X (m_X12_four l) tw_1047 tw_1048 tw_1577 tw_134 tw_1049 rfl (by decide +kernel) ⟨by decide, by decide⟩ dX12_feed_24 ?_
    refine s_nw ?_
    refine s_aload_n X rfl dX12_feed_27 ?_
    refine s_iload_n X rfl dX12_feed_28 ?_
    refine s_callV X (m_X12_four l) tw_1047 tw_1048 tw_1577 tw_134 tw_1049 rfl (by decide +kernel) ⟨by decide, by decide⟩ dX12_feed_29 ?_
    refine s_nw ?_
    refine s_aload_n X rfl dX12_feed_32 ?_
    refine s_iload_n X rfl dX12_feed_33 ?_
    refine s_callV X (m_X12_four l) tw_1047 tw_1048 tw_1577 tw_134 tw_1049 rfl (by decide +kernel) ⟨by decide, by decide⟩ dX12_feed_34 ?_
    refine s_nw ?_
    refine s_aload_n X rfl dX12_feed_37 ?_
    refine s_iload X dX12_feed_38 ?_
    exact s_X12_feed_40 X hJ
  · refine s_iconst X ⟨by decide, by decide⟩ dX12_feed_20 ?_
    exact s_iret X dX12_feed_21

def sp_X12_feed : qS := fun av w Q => ∃ (mco : Int) (mre : Int) (mle : Int) (mbe : Int) (mso : Int) (mva : Int) (mwo : Int) (mwr : Int) (mlf : Int) (mlp : Int) (mfp : Int) (mfd : Int) (mgo : Int) (mbo : Int) (mpe : Int) (mye : Int) (mpr : Int) (mld : Int) (msi : Int) (mse : Int) (tp : Nat → Int) (siz : Nat → Int) (a : Int) (b : Int) (cc : Int) (dd : Int) (ee : Int), av = [q2 0, q1 a, q1 b, q1 cc, q1 dd, q1 ee] ∧ w = [.inr (12, [q1 mco, q2 1, q2 2, q2 3, q2 4, q2 5, q2 6, q2 7, q2 8, q2 9, q1 mre, q1 mle, q1 mbe, q1 mso, q1 mva, q3 mwo, q1 mwr, q1 mlf, q1 mlp, q2 10, q2 11, q1 mfp, q1 mfd, q1 mgo, q1 mbo, q1 mpe, q1 mye, q2 12, q1 mpr, q2 13, q2 14, q2 15, q2 16, q1 mld, q2 17, q1 msi, q2 18, q2 19, q2 20, q2 21, q2 22, q1 mse, q2 23, q2 24, q2 25]), .inl (1, 2400, .inl tp), .inl (0, 4, .inl siz)] ∧ (q_rg 0 600 siz) ∧ (∀ (r : Int) (x_mco : Int) (x_tp : Nat → Int) (x_siz : Nat → Int), (q_rg 0 600 x_siz ∧ ((580 < siz 0 ∧ r = -1 ∧ x_siz 0 = siz 0) ∨ (siz 0 ≤ 580 ∧ r = siz 0 + 20 ∧ x_siz 0 = siz 0 + 20)) ∧ szK siz x_siz) → Q (some (q1 r)) ([.inr (12, [q1 x_mco, q2 1, q2 2, q2 3, q2 4, q2 5, q2 6, q2 7, q2 8, q2 9, q1 mre, q1 mle, q1 mbe, q1 mso, q1 mva, q3 mwo, q1 mwr, q1 mlf, q1 mlp, q2 10, q2 11, q1 mfp, q1 mfd, q1 mgo, q1 mbo, q1 mpe, q1 mye, q2 12, q1 mpr, q2 13, q2 14, q2 15, q2 16, q1 mld, q2 17, q1 msi, q2 18, q2 19, q2 20, q2 21, q2 22, q1 mse, q2 23, q2 24, q2 25]), .inl (1, 2400, .inl x_tp), .inl (0, 4, .inl x_siz)]))
set_option maxHeartbeats 4000000 in
set_option maxRecDepth 100000 in
theorem m_X12_feed (l : Launch) : q_M l yX12_feed cX12_feed 6 (some .int) 1 22 sp_X12_feed := by
  refine q_meth (by decide) (fun av w Q h => by obtain ⟨mco, mre, mle, mbe, mso, mva, mwo, mwr, mlf, mlp, mfp, mfd, mgo, mbo, mpe, mye, mpr, mld, msi, mse, tp, siz, a, b, cc, dd, ee, rfl, rfl, hsz, hQ⟩ := h; exact Nat.le_of_ble_eq_true rfl) ?_
  intro p e R s m args below meth c dC dI k g A av w Q hsp oka okw X
  obtain ⟨mco, mre, mle, mbe, mso, mva, mwo, mwr, mlf, mlp, mfp, mfd, mgo, mbo, mpe, mye, mpr, mld, msi, mse, tp, siz, a, b, cc, dd, ee, rfl, rfl, hsz, hQ⟩ := hsp
  have o_a : -2147483648 ≤ a ∧ a ≤ 2147483647 := oka _ (List.mem_of_getElem? (i := 1) rfl)
  have o_b : -2147483648 ≤ b ∧ b ≤ 2147483647 := oka _ (List.mem_of_getElem? (i := 2) rfl)
  have o_cc : -2147483648 ≤ cc ∧ cc ≤ 2147483647 := oka _ (List.mem_of_getElem? (i := 3) rfl)
  have o_dd : -2147483648 ≤ dd ∧ dd ≤ 2147483647 := oka _ (List.mem_of_getElem? (i := 4) rfl)
  have o_ee : -2147483648 ≤ ee ∧ ee ≤ 2147483647 := oka _ (List.mem_of_getElem? (i := 5) rfl)
  refine s_mono (s_X12_feed_0 X (J := fun _ _ _ _ => False) (fun d => s_cutF)) ?_
  rintro lv st w' ⟨rfl, rfl, rfl⟩
  apply And.intro
  · exact trivial
  apply And.intro
  · exact ⟨by omega, by omega⟩
  intro z10 h10
  have b10 : z10 = siz 0 := h10
  have c10 := hsz 0
  intro z13 h13
  first | replace h13 := e_add h13 (by omega) | replace h13 := e_rng h13
  apply And.intro
  · intro h17
    refine Exists.intro [0, 1, 2, 3, 4, 5, 6, 7, 8, 9, 10, 11, 12, 13, 14, 15, 16, 17, 18, 19, 20, 21, 22, 23, 24, 25] (Exists.intro [q2 0, q1 _] (Exists.intro ([.inr (12, [q1 _, q2 1, q2 2, q2 3, q2 4, q2 5, q2 6, q2 7, q2 8, q2 9, q1 _, q1 _, q1 _, q1 _, q1 _, q3 _, q1 _, q1 _, q1 _, q2 10, q2 11, q1 _, q1 _, q1 _, q1 _, q1 _, q1 _, q2 12, q1 _, q2 13, q2 14, q2 15, q2 16, q1 _, q2 17, q1 _, q2 18, q2 19, q2 20, q2 21, q2 22, q1 _, q2 23, q2 24, q2 25]), .inl (1, 2400, .inl _), .inl (0, 4, .inl _)]) (And.intro rfl (And.intro rfl (And.intro rfl (And.intro ⟨⟨_, rfl⟩, rfl⟩ ?_))))))
    refine Exists.intro _ (Exists.intro _ (Exists.intro _ (Exists.intro _ (Exists.intro _ (Exists.intro _ (Exists.intro _ (Exists.intro _ (Exists.intro _ (Exists.intro _ (Exists.intro _ (Exists.intro _ (Exists.intro _ (Exists.intro _ (Exists.intro _ (Exists.intro _ (Exists.intro _ (Exists.intro _ (Exists.intro _ (Exists.intro _ (Exists.intro _ (Exists.intro _ (Exists.intro _ (And.intro rfl (And.intro rfl (And.intro (by first | assumption | exact h24.1 | exact h29.1 | exact h34.1 | exact h40.1) (And.intro (by first | omega | assumption | exact q_rg_up (by assumption) (by omega) | exact q_rg_up (q_rg_up (by assumption) (by omega)) (by omega) | exact q_rg_cpy (by assumption) (by assumption)) (?_)))))))))))))))))))))))))))
    intro x_tp_24 x_siz_24 h24
    refine Exists.intro [0, 1, 2, 3, 4, 5, 6, 7, 8, 9, 10, 11, 12, 13, 14, 15, 16, 17, 18, 19, 20, 21, 22, 23, 24, 25] (Exists.intro [q2 0, q1 _] (Exists.intro ([.inr (12, [q1 _, q2 1, q2 2, q2 3, q2 4, q2 5, q2 6, q2 7, q2 8, q2 9, q1 _, q1 _, q1 _, q1 _, q1 _, q3 _, q1 _, q1 _, q1 _, q2 10, q2 11, q1 _, q1 _, q1 _, q1 _, q1 _, q1 _, q2 12, q1 _, q2 13, q2 14, q2 15, q2 16, q1 _, q2 17, q1 _, q2 18, q2 19, q2 20, q2 21, q2 22, q1 _, q2 23, q2 24, q2 25]), .inl (1, 2400, .inl _), .inl (0, 4, .inl _)]) (And.intro rfl (And.intro rfl (And.intro rfl (And.intro ⟨⟨_, rfl⟩, rfl⟩ ?_))))))
    refine Exists.intro _ (Exists.intro _ (Exists.intro _ (Exists.intro _ (Exists.intro _ (Exists.intro _ (Exists.intro _ (Exists.intro _ (Exists.intro _ (Exists.intro _ (Exists.intro _ (Exists.intro _ (Exists.intro _ (Exists.intro _ (Exists.intro _ (Exists.intro _ (Exists.intro _ (Exists.intro _ (Exists.intro _ (Exists.intro _ (Exists.intro _ (Exists.intro _ (Exists.intro _ (And.intro rfl (And.intro rfl (And.intro (by first | assumption | exact h24.1 | exact h29.1 | exact h34.1 | exact h40.1) (And.intro (by first | omega | assumption | exact q_rg_up (by assumption) (by omega) | exact q_rg_up (q_rg_up (by assumption) (by omega)) (by omega) | exact q_rg_cpy (by assumption) (by assumption)) (?_)))))))))))))))))))))))))))
    intro x_tp_29 x_siz_29 h29
    refine Exists.intro [0, 1, 2, 3, 4, 5, 6, 7, 8, 9, 10, 11, 12, 13, 14, 15, 16, 17, 18, 19, 20, 21, 22, 23, 24, 25] (Exists.intro [q2 0, q1 _] (Exists.intro ([.inr (12, [q1 _, q2 1, q2 2, q2 3, q2 4, q2 5, q2 6, q2 7, q2 8, q2 9, q1 _, q1 _, q1 _, q1 _, q1 _, q3 _, q1 _, q1 _, q1 _, q2 10, q2 11, q1 _, q1 _, q1 _, q1 _, q1 _, q1 _, q2 12, q1 _, q2 13, q2 14, q2 15, q2 16, q1 _, q2 17, q1 _, q2 18, q2 19, q2 20, q2 21, q2 22, q1 _, q2 23, q2 24, q2 25]), .inl (1, 2400, .inl _), .inl (0, 4, .inl _)]) (And.intro rfl (And.intro rfl (And.intro rfl (And.intro ⟨⟨_, rfl⟩, rfl⟩ ?_))))))
    refine Exists.intro _ (Exists.intro _ (Exists.intro _ (Exists.intro _ (Exists.intro _ (Exists.intro _ (Exists.intro _ (Exists.intro _ (Exists.intro _ (Exists.intro _ (Exists.intro _ (Exists.intro _ (Exists.intro _ (Exists.intro _ (Exists.intro _ (Exists.intro _ (Exists.intro _ (Exists.intro _ (Exists.intro _ (Exists.intro _ (Exists.intro _ (Exists.intro _ (Exists.intro _ (And.intro rfl (And.intro rfl (And.intro (by first | assumption | exact h24.1 | exact h29.1 | exact h34.1 | exact h40.1) (And.intro (by first | omega | assumption | exact q_rg_up (by assumption) (by omega) | exact q_rg_up (q_rg_up (by assumption) (by omega)) (by omega) | exact q_rg_cpy (by assumption) (by assumption)) (?_)))))))))))))))))))))))))))
    intro x_tp_34 x_siz_34 h34
    refine Exists.intro [0, 1, 2, 3, 4, 5, 6, 7, 8, 9, 10, 11, 12, 13, 14, 15, 16, 17, 18, 19, 20, 21, 22, 23, 24, 25] (Exists.intro [q2 0, q1 _] (Exists.intro ([.inr (12, [q1 _, q2 1, q2 2, q2 3, q2 4, q2 5, q2 6, q2 7, q2 8, q2 9, q1 _, q1 _, q1 _, q1 _, q1 _, q3 _, q1 _, q1 _, q1 _, q2 10, q2 11, q1 _, q1 _, q1 _, q1 _, q1 _, q1 _, q2 12, q1 _, q2 13, q2 14, q2 15, q2 16, q1 _, q2 17, q1 _, q2 18, q2 19, q2 20, q2 21, q2 22, q1 _, q2 23, q2 24, q2 25]), .inl (1, 2400, .inl _), .inl (0, 4, .inl _)]) (And.intro rfl (And.intro rfl (And.intro rfl (And.intro ⟨⟨_, rfl⟩, rfl⟩ ?_))))))
    refine Exists.intro _ (Exists.intro _ (Exists.intro _ (Exists.intro _ (Exists.intro _ (Exists.intro _ (Exists.intro _ (Exists.intro _ (Exists.intro _ (Exists.intro _ (Exists.intro _ (Exists.intro _ (Exists.intro _ (Exists.intro _ (Exists.intro _ (Exists.intro _ (Exists.intro _ (Exists.intro _ (Exists.intro _ (Exists.intro _ (Exists.intro _ (Exists.intro _ (Exists.intro _ (And.intro rfl (And.intro rfl (And.intro (by first | assumption | exact h24.1 | exact h29.1 | exact h34.1 | exact h40.1) (And.intro (by first | omega | assumption | exact q_rg_up (by assumption) (by omega) | exact q_rg_up (q_rg_up (by assumption) (by omega)) (by omega) | exact q_rg_cpy (by assumption) (by assumption)) (?_)))))))))))))))))))))))))))
    intro x_tp_40 x_siz_40 h40
    refine Exists.intro [0, 1, 2, 3, 4, 5, 6, 7, 8, 9, 10, 11, 12, 13, 14, 15, 16, 17, 18, 19, 20, 21, 22, 23, 24, 25] (Exists.intro [q2 0, q1 _] (Exists.intro ([.inr (12, [q1 _, q2 1, q2 2, q2 3, q2 4, q2 5, q2 6, q2 7, q2 8, q2 9, q1 _, q1 _, q1 _, q1 _, q1 _, q3 _, q1 _, q1 _, q1 _, q2 10, q2 11, q1 _, q1 _, q1 _, q1 _, q1 _, q1 _, q2 12, q1 _, q2 13, q2 14, q2 15, q2 16, q1 _, q2 17, q1 _, q2 18, q2 19, q2 20, q2 21, q2 22, q1 _, q2 23, q2 24, q2 25]), .inl (1, 2400, .inl _), .inl (0, 4, .inl _)]) (And.intro rfl (And.intro rfl (And.intro rfl (And.intro ⟨⟨_, rfl⟩, rfl⟩ ?_))))))
    refine Exists.intro _ (Exists.intro _ (Exists.intro _ (Exists.intro _ (Exists.intro _ (Exists.intro _ (Exists.intro _ (Exists.intro _ (Exists.intro _ (Exists.intro _ (Exists.intro _ (Exists.intro _ (Exists.intro _ (Exists.intro _ (Exists.intro _ (Exists.intro _ (Exists.intro _ (Exists.intro _ (Exists.intro _ (Exists.intro _ (Exists.intro _ (Exists.intro _ (Exists.intro _ (And.intro rfl (And.intro rfl (And.intro (by first | assumption | exact h24.1 | exact h29.1 | exact h34.1 | exact h40.1) (And.intro (by first | omega | assumption | exact q_rg_up (by assumption) (by omega) | exact q_rg_up (q_rg_up (by assumption) (by omega)) (by omega) | exact q_rg_cpy (by assumption) (by assumption)) (?_)))))))))))))))))))))))))))
    intro x_tp_46 x_siz_46 h46
    apply And.intro
    · exact ⟨by omega, by omega⟩
    intro z54 h54
    have b54 : z54 = x_siz_46 0 := h54
    exact hQ _ _ _ _ ⟨(by first | assumption | exact h46.1), by omega, (by first | exact szK_r | exact szK_t (szK_t (szK_t (szK_t h24.2.2 h29.2.2) h34.2.2) h40.2.2) h46.2.2)⟩
  · intro h17
    exact hQ _ _ _ _ ⟨(by first | assumption | exact h46.1), by omega, (by first | exact szK_r | exact szK_t (szK_t (szK_t (szK_t h24.2.2 h29.2.2) h34.2.2) h40.2.2) h46.2.2)⟩

theorem dX12_end_0 : decode cX12_end 0 = .ok (.aload_n 0, 1) := by decide +kernel
theorem dX12_end_1 : decode cX12_end 1 = .ok (.iconst 0, 1) := by decide +kernel
theorem dX12_end_2 : decode cX12_end 2 = .ok (.putfield 88, 3) := by decide +kernel
theorem dX12_end_5 : decode cX12_end 5 = .ok (.iload_n 1, 1) := by decide +kernel
theorem dX12_end_6 : decode cX12_end 6 = .ok (.iconst 0, 1) := by decide +kernel
theorem dX12_end_7 : decode cX12_end 7 = .ok (.aload_n 0, 1) := by decide +kernel
theorem dX12_end_8 : decode cX12_end 8 = .ok (.getfield 13, 3) := by decide +kernel
theorem dX12_end_11 : decode cX12_end 11 = .ok (.iconst 0, 1) := by decide +kernel
theorem dX12_end_12 : decode cX12_end 12 = .ok (.iaload, 1) := by decide +kernel
theorem dX12_end_13 : decode cX12_end 13 = .ok (.invokestatic 100, 3) := by decide +kernel
theorem dX12_end_16 : decode cX12_end 16 = .ok (.ifCond .ne 5, 3) := by decide +kernel
theorem dX12_end_19 : decode cX12_end 19 = .ok (.iconst (-1), 1) := by decide +kernel
theorem dX12_end_20 : decode cX12_end 20 = .ok (.ireturn, 1) := by decide +kernel
theorem dX12_end_21 : decode cX12_end 21 = .ok (.aload_n 0, 1) := by decide +kernel
theorem dX12_end_22 : decode cX12_end 22 = .ok (.getfield 13, 3) := by decide +kernel
theorem dX12_end_25 : decode cX12_end 25 = .ok (.iconst 0, 1) := by decide +kernel
theorem dX12_end_26 : decode cX12_end 26 = .ok (.iload_n 1, 1) := by decide +kernel
theorem dX12_end_27 : decode cX12_end 27 = .ok (.iastore, 1) := by decide +kernel
theorem dX12_end_28 : decode cX12_end 28 = .ok (.iload_n 1, 1) := by decide +kernel
theorem dX12_end_29 : decode cX12_end 29 = .ok (.ireturn, 1) := by decide +kernel
def is_X12_end : Nat → List Nat := fun d => []
set_option maxRecDepth 100000 in
def b_X12_end_0 (J : Nat → List qV → List qV → qW → Prop) (Q : qR) : qK := x_aload 0 (x_int 0 (x_put 12 0 q_oki (x_nw (x_iload 1 (x_int 0 (x_aload 0 (x_get 12 2 (x_int 0 (x_iald (x_callr none 3 spr_X12_in (x_if_ne (x_aload 0 (x_get 12 2 (x_int 0 (x_iload 1 (x_iast (x_nw (x_iload 1 (x_iret Q)))))))) (x_int (-1) (x_iret Q)))))))))))))
set_option maxRecDepth 100000 in
theorem s_X12_end_0 {p : Program} {l : Launch} {e : Env} {R : Room} {s : State} {m : MethodId} {args : Array Value} {below : List Frame} {meth : Method} {c : Code} {nW : Nat} {dC : Nat → ClassId} {dI : Nat → Nat → Nat} {k : Nat → ClassId} {g : Nat → Nat} {A : Nat → Prop} {J : Nat → List qV → List qV → qW → Prop} {Q : qR} (X : q_X p R s m args meth c cX12_end 2 nW 1 22 RX12 (some .int) dC dI k g A) (hJ : ∀ d : Nat, q_Sd p l e R s m args below meth c 2 nW dC dI k g A (MQ below (q_post (dC, dI) k g nW Q A) args s 0 0 A) d (x_cut (is_X12_end d) (J d))) : q_Sd p l e R s m args below meth c 2 nW dC dI k g A (MQ below (q_post (dC, dI) k g nW Q A) args s 0 0 A) 0 (b_X12_end_0 J Q) := by
  unfold b_X12_end_0
  refine s_aload_n X rfl dX12_end_0 ?_
  refine s_iconst X ⟨by decide, by decide⟩ dX12_end_1 ?_
  refine s_put X (T := TX12) (C := RX12) (N := 45) tu_X12 tyX12_ok nmX12 rfl (by decide) tw_997 rfl (by decide +kernel) q_oki_t dX12_end_2 ?_
  refine s_nw ?_
  refine s_iload_n X rfl dX12_end_5 ?_
  refine s_iconst X ⟨by decide, by decide⟩ dX12_end_6 ?_
  refine s_aload_n X rfl dX12_end_7 ?_
  refine s_get X (T := TX12) (C := RX12) (N := 45) tu_X12 rfl (by decide) tw_999 dX12_end_8 ?_
  refine s_iconst X ⟨by decide, by decide⟩ dX12_end_11 ?_
  refine s_iald X dX12_end_12 ?_
  refine s_callSr X (m_X12_in l) tw_1054 tw_1055 tw_134 tw_1056 (by decide +kernel) ⟨by decide, by decide⟩ dX12_end_13 ?_
  refine s_if_ne X (tgt := 21) dX12_end_16 (by decide) ?_ ?_
  · refine s_aload_n X rfl dX12_end_21 ?_
    refine s_get X (T := TX12) (C := RX12) (N := 45) tu_X12 rfl (by decide) tw_999 dX12_end_22 ?_
    refine s_iconst X ⟨by decide, by decide⟩ dX12_end_25 ?_
    refine s_iload_n X rfl dX12_end_26 ?_
    refine s_iast X dX12_end_27 ?_
    refine s_nw ?_
    refine s_iload_n X rfl dX12_end_28 ?_
    exact s_iret X dX12_end_29
  · refine s_iconst X ⟨by decide, by decide⟩ dX12_end_19 ?_
    exact s_iret X dX12_end_20

def sp_X12_end : qS := fun av w Q => ∃ (mco : Int) (mre : Int) (mle : Int) (mbe : Int) (mso : Int) (mva : Int) (mwo : Int) (mwr : Int) (mlf : Int) (mlp : Int) (mfp : Int) (mfd : Int) (mgo : Int) (mbo : Int) (mpe : Int) (mye : Int) (mpr : Int) (mld : Int) (msi : Int) (mse : Int) (siz : Nat → Int) (a : Int), av = [q2 0, q1 a] ∧ w = [.inr (12, [q1 mco, q2 2, q2 1, q2 3, q2 4, q2 5, q2 6, q2 7, q2 8, q2 9, q1 mre, q1 mle, q1 mbe, q1 mso, q1 mva, q3 mwo, q1 mwr, q1 mlf, q1 mlp, q2 10, q2 11, q1 mfp, q1 mfd, q1 mgo, q1 mbo, q1 mpe, q1 mye, q2 12, q1 mpr, q2 13, q2 14, q2 15, q2 16, q1 mld, q2 17, q1 msi, q2 18, q2 19, q2 20, q2 21, q2 22, q1 mse, q2 23, q2 24, q2 25]), .inl (0, 4, .inl siz)] ∧ (q_rg 0 600 siz) ∧ (∀ (r : Int) (x_mco : Int) (x_siz : Nat → Int), (q_rg 0 600 x_siz ∧ (((a < 0 ∨ siz 0 < a) ∧ r = -1 ∧ x_siz 0 = siz 0) ∨ (0 ≤ a ∧ a ≤ siz 0 ∧ r = a ∧ x_siz 0 = a)) ∧ szK siz x_siz) → Q (some (q1 r)) ([.inr (12, [q1 x_mco, q2 2, q2 1, q2 3, q2 4, q2 5, q2 6, q2 7, q2 8, q2 9, q1 mre, q1 mle, q1 mbe, q1 mso, q1 mva, q3 mwo, q1 mwr, q1 mlf, q1 mlp, q2 10, q2 11, q1 mfp, q1 mfd, q1 mgo, q1 mbo, q1 mpe, q1 mye, q2 12, q1 mpr, q2 13, q2 14, q2 15, q2 16, q1 mld, q2 17, q1 msi, q2 18, q2 19, q2 20, q2 21, q2 22, q1 mse, q2 23, q2 24, q2 25]), .inl (0, 4, .inl x_siz)]))
set_option maxHeartbeats 4000000 in
set_option maxRecDepth 100000 in
theorem m_X12_end (l : Launch) : q_M l yX12_end cX12_end 2 (some .int) 1 22 sp_X12_end := by
  refine q_meth (by decide) (fun av w Q h => by obtain ⟨mco, mre, mle, mbe, mso, mva, mwo, mwr, mlf, mlp, mfp, mfd, mgo, mbo, mpe, mye, mpr, mld, msi, mse, siz, a, rfl, rfl, hsz, hQ⟩ := h; exact Nat.le_of_ble_eq_true rfl) ?_
  intro p e R s m args below meth c dC dI k g A av w Q hsp oka okw X
  obtain ⟨mco, mre, mle, mbe, mso, mva, mwo, mwr, mlf, mlp, mfp, mfd, mgo, mbo, mpe, mye, mpr, mld, msi, mse, siz, a, rfl, rfl, hsz, hQ⟩ := hsp
  have o_a : -2147483648 ≤ a ∧ a ≤ 2147483647 := oka _ (List.mem_of_getElem? (i := 1) rfl)
  refine s_mono (s_X12_end_0 X (J := fun _ _ _ _ => False) (fun d => s_cutF)) ?_
  rintro lv st w' ⟨rfl, rfl, rfl⟩
  apply And.intro
  · exact trivial
  apply And.intro
  · exact ⟨by omega, by omega⟩
  intro z12 h12
  have b12 : z12 = siz 0 := h12
  have c12 := hsz 0
  refine Exists.intro [] (Exists.intro [q1 _, q1 _, q1 _] (Exists.intro [] (And.intro rfl (And.intro rfl (And.intro rfl (And.intro trivial ?_))))))
  refine Exists.intro _ (Exists.intro _ (Exists.intro _ (And.intro rfl (And.intro rfl (?_)))))
  intro z13 h13
  apply And.intro
  · intro h16
    first | replace h13 := dj1 h13 h16 | replace h13 := dj0 h13 h16
    apply And.intro
    · exact ⟨by omega, by omega⟩
    exact hQ _ _ _ ⟨(by first | assumption | exact q_rg_up (by assumption) (by omega)), (by first | omega | (rw [show ∀ (f : Nat → Int) (v : Int), q_up f (0 : Int).toNat v 0 = v from fun f v => q_up_s]; omega)), (by first | exact szK_r | exact szK_u szK_r)⟩
  · intro h16
    first | replace h13 := dj1 h13 h16 | replace h13 := dj0 h13 h16
    exact hQ _ _ _ ⟨(by first | assumption | exact q_rg_up (by assumption) (by omega)), (by first | omega | (rw [show ∀ (f : Nat → Int) (v : Int), q_up f (0 : Int).toNat v 0 = v from fun f v => q_up_s]; omega)), (by first | exact szK_r | exact szK_u szK_r)⟩

theorem dX12_fault_0 : decode cX12_fault 0 = .ok (.aload_n 0, 1) := by decide +kernel
theorem dX12_fault_1 : decode cX12_fault 1 = .ok (.iconst 0, 1) := by decide +kernel
theorem dX12_fault_2 : decode cX12_fault 2 = .ok (.putfield 88, 3) := by decide +kernel
theorem dX12_fault_5 : decode cX12_fault 5 = .ok (.iload_n 1, 1) := by decide +kernel
theorem dX12_fault_6 : decode cX12_fault 6 = .ok (.ifCond .ne 12, 3) := by decide +kernel
theorem dX12_fault_9 : decode cX12_fault 9 = .ok (.aload_n 0, 1) := by decide +kernel
theorem dX12_fault_10 : decode cX12_fault 10 = .ok (.getfield 17, 3) := by decide +kernel
theorem dX12_fault_13 : decode cX12_fault 13 = .ok (.iconst 0, 1) := by decide +kernel
theorem dX12_fault_14 : decode cX12_fault 14 = .ok (.iaload, 1) := by decide +kernel
theorem dX12_fault_15 : decode cX12_fault 15 = .ok (.goto 18, 3) := by decide +kernel
theorem dX12_fault_18 : decode cX12_fault 18 = .ok (.iload_n 1, 1) := by decide +kernel
theorem dX12_fault_19 : decode cX12_fault 19 = .ok (.iconst 1, 1) := by decide +kernel
theorem dX12_fault_20 : decode cX12_fault 20 = .ok (.if_icmp .ne 12, 3) := by decide +kernel
theorem dX12_fault_23 : decode cX12_fault 23 = .ok (.aload_n 0, 1) := by decide +kernel
theorem dX12_fault_24 : decode cX12_fault 24 = .ok (.getfield 20, 3) := by decide +kernel
theorem dX12_fault_27 : decode cX12_fault 27 = .ok (.iconst 0, 1) := by decide +kernel
theorem dX12_fault_28 : decode cX12_fault 28 = .ok (.iaload, 1) := by decide +kernel
theorem dX12_fault_29 : decode cX12_fault 29 = .ok (.goto 4, 3) := by decide +kernel
theorem dX12_fault_32 : decode cX12_fault 32 = .ok (.iconst (-1), 1) := by decide +kernel
theorem dX12_fault_33 : decode cX12_fault 33 = .ok (.ireturn, 1) := by decide +kernel
def is_X12_fault : Nat → List Nat := fun d => []
set_option maxRecDepth 100000 in
def b_X12_fault_33 (J : Nat → List qV → List qV → qW → Prop) (Q : qR) : qK := x_iret Q
set_option maxRecDepth 100000 in
theorem s_X12_fault_33 {p : Program} {l : Launch} {e : Env} {R : Room} {s : State} {m : MethodId} {args : Array Value} {below : List Frame} {meth : Method} {c : Code} {nW : Nat} {dC : Nat → ClassId} {dI : Nat → Nat → Nat} {k : Nat → ClassId} {g : Nat → Nat} {A : Nat → Prop} {J : Nat → List qV → List qV → qW → Prop} {Q : qR} (X : q_X p R s m args meth c cX12_fault 2 nW 0 0 RX12 (some .int) dC dI k g A) (hJ : ∀ d : Nat, q_Sd p l e R s m args below meth c 2 nW dC dI k g A (MQ below (q_post (dC, dI) k g nW Q A) args s 0 0 A) d (x_cut (is_X12_fault d) (J d))) : q_Sd p l e R s m args below meth c 2 nW dC dI k g A (MQ below (q_post (dC, dI) k g nW Q A) args s 0 0 A) 33 (b_X12_fault_33 J Q) := by
  unfold b_X12_fault_33
  exact s_iret X dX12_fault_33
set_option maxRecDepth 100000 in
def b_X12_fault_0 (J : Nat → List qV → List qV → qW → Prop) (Q : qR) : qK := x_aload 0 (x_int 0 (x_put 12 0 q_oki (x_nw (x_iload 1 (x_if_ne (x_iload 1 (x_int 1 (x_icmp_ne (x_int (-1) (b_X12_fault_33 J Q)) (x_aload 0 (x_get 12 4 (x_int 0 (x_iald (b_X12_fault_33 J Q)))))))) (x_aload 0 (x_get 12 3 (x_int 0 (x_iald (b_X12_fault_33 J Q))))))))))
set_option maxRecDepth 100000 in
theorem s_X12_fault_0 {p : Program} {l : Launch} {e : Env} {R : Room} {s : State} {m : MethodId} {args : Array Value} {below : List Frame} {meth : Method} {c : Code} {nW : Nat} {dC : Nat → ClassId} {dI : Nat → Nat → Nat} {k : Nat → ClassId} {g : Nat → Nat} {A : Nat → Prop} {J : Nat → List qV → List qV → qW → Prop} {Q : qR} (X : q_X p R s m args meth c cX12_fault 2 nW 0 0 RX12 (some .int) dC dI k g A) (hJ : ∀ d : Nat, q_Sd p l e R s m args below meth c 2 nW dC dI k g A (MQ below (q_post (dC, dI) k g nW Q A) args s 0 0 A) d (x_cut (is_X12_fault d) (J d))) : q_Sd p l e R s m args below meth c 2 nW dC dI k g A (MQ below (q_post (dC, dI) k g nW Q A) args s 0 0 A) 0 (b_X12_fault_0 J Q) := by
  unfold b_X12_fault_0
  refine s_aload_n X rfl dX12_fault_0 ?_
  refine s_iconst X ⟨by decide, by decide⟩ dX12_fault_1 ?_
  refine s_put X (T := TX12) (C := RX12) (N := 45) tu_X12 tyX12_ok nmX12 rfl (by decide) tw_997 rfl (by decide +kernel) q_oki_t dX12_fault_2 ?_
  refine s_nw ?_
  refine s_iload_n X rfl dX12_fault_5 ?_
  refine s_if_ne X (tgt := 18) dX12_fault_6 (by decide) ?_ ?_
  · refine s_iload_n X rfl dX12_fault_18 ?_
    refine s_iconst X ⟨by decide, by decide⟩ dX12_fault_19 ?_
    refine s_icmp_ne X (tgt := 32) dX12_fault_20 (by decide) ?_ ?_
    · refine s_iconst X ⟨by decide, by decide⟩ dX12_fault_32 ?_
      exact s_X12_fault_33 X hJ
    · refine s_aload_n X rfl dX12_fault_23 ?_
      refine s_get X (T := TX12) (C := RX12) (N := 45) tu_X12 rfl (by decide) tw_1001 dX12_fault_24 ?_
      refine s_iconst X ⟨by decide, by decide⟩ dX12_fault_27 ?_
      refine s_iald X dX12_fault_28 ?_
      refine s_goto X (tgt := 33) dX12_fault_29 (by decide) ?_
      exact s_X12_fault_33 X hJ
  · refine s_aload_n X rfl dX12_fault_9 ?_
    refine s_get X (T := TX12) (C := RX12) (N := 45) tu_X12 rfl (by decide) tw_1000 dX12_fault_10 ?_
    refine s_iconst X ⟨by decide, by decide⟩ dX12_fault_13 ?_
    refine s_iald X dX12_fault_14 ?_
    refine s_goto X (tgt := 33) dX12_fault_15 (by decide) ?_
    exact s_X12_fault_33 X hJ

def sp_X12_fault : qS := fun av w Q => ∃ (mco : Int) (mre : Int) (mle : Int) (mbe : Int) (mso : Int) (mva : Int) (mwo : Int) (mwr : Int) (mlf : Int) (mlp : Int) (mfp : Int) (mfd : Int) (mgo : Int) (mbo : Int) (mpe : Int) (mye : Int) (mpr : Int) (mld : Int) (msi : Int) (mse : Int) (fa : Nat → Int) (fpl : Nat → Int) (a : Int), av = [q2 0, q1 a] ∧ w = [.inr (12, [q1 mco, q2 3, q2 4, q2 1, q2 2, q2 5, q2 6, q2 7, q2 8, q2 9, q1 mre, q1 mle, q1 mbe, q1 mso, q1 mva, q3 mwo, q1 mwr, q1 mlf, q1 mlp, q2 10, q2 11, q1 mfp, q1 mfd, q1 mgo, q1 mbo, q1 mpe, q1 mye, q2 12, q1 mpr, q2 13, q2 14, q2 15, q2 16, q1 mld, q2 17, q1 msi, q2 18, q2 19, q2 20, q2 21, q2 22, q1 mse, q2 23, q2 24, q2 25]), .inl (0, 4, .inl fa), .inl (0, 4, .inl fpl)] ∧ (∀ (r : Int) (x_mco : Int), Q (some (q1 r)) ([.inr (12, [q1 x_mco, q2 3, q2 4, q2 1, q2 2, q2 5, q2 6, q2 7, q2 8, q2 9, q1 mre, q1 mle, q1 mbe, q1 mso, q1 mva, q3 mwo, q1 mwr, q1 mlf, q1 mlp, q2 10, q2 11, q1 mfp, q1 mfd, q1 mgo, q1 mbo, q1 mpe, q1 mye, q2 12, q1 mpr, q2 13, q2 14, q2 15, q2 16, q1 mld, q2 17, q1 msi, q2 18, q2 19, q2 20, q2 21, q2 22, q1 mse, q2 23, q2 24, q2 25]), .inl (0, 4, .inl fa), .inl (0, 4, .inl fpl)]))
set_option maxHeartbeats 4000000 in
set_option maxRecDepth 100000 in
theorem m_X12_fault (l : Launch) : q_M l yX12_fault cX12_fault 2 (some .int) 0 0 sp_X12_fault := by
  refine q_meth (by decide) (fun av w Q h => by obtain ⟨mco, mre, mle, mbe, mso, mva, mwo, mwr, mlf, mlp, mfp, mfd, mgo, mbo, mpe, mye, mpr, mld, msi, mse, fa, fpl, a, rfl, rfl, hQ⟩ := h; exact Nat.le_of_ble_eq_true rfl) ?_
  intro p e R s m args below meth c dC dI k g A av w Q hsp oka okw X
  obtain ⟨mco, mre, mle, mbe, mso, mva, mwo, mwr, mlf, mlp, mfp, mfd, mgo, mbo, mpe, mye, mpr, mld, msi, mse, fa, fpl, a, rfl, rfl, hQ⟩ := hsp
  have o_a : -2147483648 ≤ a ∧ a ≤ 2147483647 := oka _ (List.mem_of_getElem? (i := 1) rfl)
  refine s_mono (s_X12_fault_0 X (J := fun _ _ _ _ => False) (fun d => s_cutF)) ?_
  rintro lv st w' ⟨rfl, rfl, rfl⟩
  apply And.intro
  · exact trivial
  apply And.intro
  · intro h6
    apply And.intro
    · intro h20
      exact hQ _ _
    · intro h20
      apply And.intro
      · exact ⟨by omega, by omega⟩
      intro z28 h28
      exact hQ _ _
  · intro h6
    apply And.intro
    · exact ⟨by omega, by omega⟩
    intro z14 h14
    exact hQ _ _

theorem dX12_count_0 : decode cX12_count 0 = .ok (.aload_n 0, 1) := by decide +kernel
theorem dX12_count_1 : decode cX12_count 1 = .ok (.iconst 0, 1) := by decide +kernel
theorem dX12_count_2 : decode cX12_count 2 = .ok (.putfield 88, 3) := by decide +kernel
theorem dX12_count_5 : decode cX12_count 5 = .ok (.iload_n 1, 1) := by decide +kernel
theorem dX12_count_6 : decode cX12_count 6 = .ok (.iconst 0, 1) := by decide +kernel
theorem dX12_count_7 : decode cX12_count 7 = .ok (.iconst 3, 1) := by decide +kernel
theorem dX12_count_8 : decode cX12_count 8 = .ok (.invokestatic 100, 3) := by decide +kernel
theorem dX12_count_11 : decode cX12_count 11 = .ok (.ifCond .eq 12, 3) := by decide +kernel
theorem dX12_count_14 : decode cX12_count 14 = .ok (.aload_n 0, 1) := by decide +kernel
theorem dX12_count_15 : decode cX12_count 15 = .ok (.getfield 23, 3) := by decide +kernel
theorem dX12_count_18 : decode cX12_count 18 = .ok (.iload_n 1, 1) := by decide +kernel
theorem dX12_count_19 : decode cX12_count 19 = .ok (.iaload, 1) := by decide +kernel
theorem dX12_count_20 : decode cX12_count 20 = .ok (.goto 5, 3) := by decide +kernel
theorem dX12_count_23 : decode cX12_count 23 = .ok (.bipush (-2), 2) := by decide +kernel
theorem dX12_count_25 : decode cX12_count 25 = .ok (.ireturn, 1) := by decide +kernel
def is_X12_count : Nat → List Nat := fun d => []
set_option maxRecDepth 100000 in
def b_X12_count_25 (J : Nat → List qV → List qV → qW → Prop) (Q : qR) : qK := x_iret Q
set_option maxRecDepth 100000 in
theorem s_X12_count_25 {p : Program} {l : Launch} {e : Env} {R : Room} {s : State} {m : MethodId} {args : Array Value} {below : List Frame} {meth : Method} {c : Code} {nW : Nat} {dC : Nat → ClassId} {dI : Nat → Nat → Nat} {k : Nat → ClassId} {g : Nat → Nat} {A : Nat → Prop} {J : Nat → List qV → List qV → qW → Prop} {Q : qR} (X : q_X p R s m args meth c cX12_count 2 nW 1 22 RX12 (some .int) dC dI k g A) (hJ : ∀ d : Nat, q_Sd p l e R s m args below meth c 2 nW dC dI k g A (MQ below (q_post (dC, dI) k g nW Q A) args s 0 0 A) d (x_cut (is_X12_count d) (J d))) : q_Sd p l e R s m args below meth c 2 nW dC dI k g A (MQ below (q_post (dC, dI) k g nW Q A) args s 0 0 A) 25 (b_X12_count_25 J Q) := by
  unfold b_X12_count_25
  exact s_iret X dX12_count_25
set_option maxRecDepth 100000 in
def b_X12_count_0 (J : Nat → List qV → List qV → qW → Prop) (Q : qR) : qK := x_aload 0 (x_int 0 (x_put 12 0 q_oki (x_nw (x_iload 1 (x_int 0 (x_int 3 (x_callr none 3 spr_X12_in (x_if_eq (x_int (-2) (b_X12_count_25 J Q)) (x_aload 0 (x_get 12 5 (x_iload 1 (x_iald (b_X12_count_25 J Q)))))))))))))
set_option maxRecDepth 100000 in
theorem s_X12_count_0 {p : Program} {l : Launch} {e : Env} {R : Room} {s : State} {m : MethodId} {args : Array Value} {below : List Frame} {meth : Method} {c : Code} {nW : Nat} {dC : Nat → ClassId} {dI : Nat → Nat → Nat} {k : Nat → ClassId} {g : Nat → Nat} {A : Nat → Prop} {J : Nat → List qV → List qV → qW → Prop} {Q : qR} (X : q_X p R s m args meth c cX12_count 2 nW 1 22 RX12 (some .int) dC dI k g A) (hJ : ∀ d : Nat, q_Sd p l e R s m args below meth c 2 nW dC dI k g A (MQ below (q_post (dC, dI) k g nW Q A) args s 0 0 A) d (x_cut (is_X12_count d) (J d))) : q_Sd p l e R s m args below meth c 2 nW dC dI k g A (MQ below (q_post (dC, dI) k g nW Q A) args s 0 0 A) 0 (b_X12_count_0 J Q) := by
  unfold b_X12_count_0
  refine s_aload_n X rfl dX12_count_0 ?_
  refine s_iconst X ⟨by decide, by decide⟩ dX12_count_1 ?_
  refine s_put X (T := TX12) (C := RX12) (N := 45) tu_X12 tyX12_ok nmX12 rfl (by decide) tw_997 rfl (by decide +kernel) q_oki_t dX12_count_2 ?_
  refine s_nw ?_
  refine s_iload_n X rfl dX12_count_5 ?_
  refine s_iconst X ⟨by decide, by decide⟩ dX12_count_6 ?_
  refine s_iconst X ⟨by decide, by decide⟩ dX12_count_7 ?_
  refine s_callSr X (m_X12_in l) tw_1054 tw_1055 tw_134 tw_1056 (by decide +kernel) ⟨by decide, by decide⟩ dX12_count_8 ?_
  refine s_if_eq X (tgt := 23) dX12_count_11 (by decide) ?_ ?_
  · refine s_bipush X ⟨by decide, by decide⟩ (by decide) dX12_count_23 ?_
    exact s_X12_count_25 X hJ
  · refine s_aload_n X rfl dX12_count_14 ?_
    refine s_get X (T := TX12) (C := RX12) (N := 45) tu_X12 rfl (by decide) tw_1002 dX12_count_15 ?_
    refine s_iload_n X rfl dX12_count_18 ?_
    refine s_iald X dX12_count_19 ?_
    refine s_goto X (tgt := 25) dX12_count_20 (by decide) ?_
    exact s_X12_count_25 X hJ

def sp_X12_count : qS := fun av w Q => ∃ (mco : Int) (mre : Int) (mle : Int) (mbe : Int) (mso : Int) (mva : Int) (mwo : Int) (mwr : Int) (mlf : Int) (mlp : Int) (mfp : Int) (mfd : Int) (mgo : Int) (mbo : Int) (mpe : Int) (mye : Int) (mpr : Int) (mld : Int) (msi : Int) (mse : Int) (mn : Nat → Int) (a : Int), av = [q2 0, q1 a] ∧ w = [.inr (12, [q1 mco, q2 2, q2 3, q2 4, q2 5, q2 1, q2 6, q2 7, q2 8, q2 9, q1 mre, q1 mle, q1 mbe, q1 mso, q1 mva, q3 mwo, q1 mwr, q1 mlf, q1 mlp, q2 10, q2 11, q1 mfp, q1 mfd, q1 mgo, q1 mbo, q1 mpe, q1 mye, q2 12, q1 mpr, q2 13, q2 14, q2 15, q2 16, q1 mld, q2 17, q1 msi, q2 18, q2 19, q2 20, q2 21, q2 22, q1 mse, q2 23, q2 24, q2 25]), .inl (0, 16, .inl mn)] ∧ (q_rg 0 2 mn) ∧ (∀ (r : Int) (x_mco : Int), Q (some (q1 r)) ([.inr (12, [q1 x_mco, q2 2, q2 3, q2 4, q2 5, q2 1, q2 6, q2 7, q2 8, q2 9, q1 mre, q1 mle, q1 mbe, q1 mso, q1 mva, q3 mwo, q1 mwr, q1 mlf, q1 mlp, q2 10, q2 11, q1 mfp, q1 mfd, q1 mgo, q1 mbo, q1 mpe, q1 mye, q2 12, q1 mpr, q2 13, q2 14, q2 15, q2 16, q1 mld, q2 17, q1 msi, q2 18, q2 19, q2 20, q2 21, q2 22, q1 mse, q2 23, q2 24, q2 25]), .inl (0, 16, .inl mn)]))
set_option maxHeartbeats 4000000 in
set_option maxRecDepth 100000 in
theorem m_X12_count (l : Launch) : q_M l yX12_count cX12_count 2 (some .int) 1 22 sp_X12_count := by
  refine q_meth (by decide) (fun av w Q h => by obtain ⟨mco, mre, mle, mbe, mso, mva, mwo, mwr, mlf, mlp, mfp, mfd, mgo, mbo, mpe, mye, mpr, mld, msi, mse, mn, a, rfl, rfl, hmn, hQ⟩ := h; exact Nat.le_of_ble_eq_true rfl) ?_
  intro p e R s m args below meth c dC dI k g A av w Q hsp oka okw X
  obtain ⟨mco, mre, mle, mbe, mso, mva, mwo, mwr, mlf, mlp, mfp, mfd, mgo, mbo, mpe, mye, mpr, mld, msi, mse, mn, a, rfl, rfl, hmn, hQ⟩ := hsp
  have o_a : -2147483648 ≤ a ∧ a ≤ 2147483647 := oka _ (List.mem_of_getElem? (i := 1) rfl)
  refine s_mono (s_X12_count_0 X (J := fun _ _ _ _ => False) (fun d => s_cutF)) ?_
  rintro lv st w' ⟨rfl, rfl, rfl⟩
  apply And.intro
  · exact trivial
  refine Exists.intro [] (Exists.intro [q1 _, q1 _, q1 _] (Exists.intro [] (And.intro rfl (And.intro rfl (And.intro rfl (And.intro trivial ?_))))))
  refine Exists.intro _ (Exists.intro _ (Exists.intro _ (And.intro rfl (And.intro rfl (?_)))))
  intro z8 h8
  apply And.intro
  · intro h11
    first | replace h8 := dj1 h8 h11 | replace h8 := dj0 h8 h11
    exact hQ _ _
  · intro h11
    first | replace h8 := dj1 h8 h11 | replace h8 := dj0 h8 h11
    apply And.intro
    · exact ⟨by omega, by omega⟩
    intro z19 h19
    exact hQ _ _

theorem dX12_deeds_0 : decode cX12_deeds 0 = .ok (.aload_n 0, 1) := by decide +kernel
theorem dX12_deeds_1 : decode cX12_deeds 1 = .ok (.getfield 29, 3) := by decide +kernel
theorem dX12_deeds_4 : decode cX12_deeds 4 = .ok (.sipush 161, 3) := by decide +kernel
theorem dX12_deeds_7 : decode cX12_deeds 7 = .ok (.aload_n 0, 1) := by decide +kernel
theorem dX12_deeds_8 : decode cX12_deeds 8 = .ok (.getfield 312, 3) := by decide +kernel
theorem dX12_deeds_11 : decode cX12_deeds 11 = .ok (.imul, 1) := by decide +kernel
theorem dX12_deeds_12 : decode cX12_deeds 12 = .ok (.iaload, 1) := by decide +kernel
theorem dX12_deeds_13 : decode cX12_deeds 13 = .ok (.ireturn, 1) := by decide +kernel
def is_X12_deeds : Nat → List Nat := fun d => []
set_option maxRecDepth 100000 in
def b_X12_deeds_0 (J : Nat → List qV → List qV → qW → Prop) (Q : qR) : qK := x_aload 0 (x_get 12 7 (x_int 161 (x_aload 0 (x_get 12 26 (x_imul (x_iald (x_iret Q)))))))
set_option maxRecDepth 100000 in
theorem s_X12_deeds_0 {p : Program} {l : Launch} {e : Env} {R : Room} {s : State} {m : MethodId} {args : Array Value} {below : List Frame} {meth : Method} {c : Code} {nW : Nat} {dC : Nat → ClassId} {dI : Nat → Nat → Nat} {k : Nat → ClassId} {g : Nat → Nat} {A : Nat → Prop} {J : Nat → List qV → List qV → qW → Prop} {Q : qR} (X : q_X p R s m args meth c cX12_deeds 1 nW 0 0 RX12 (some .int) dC dI k g A) (hJ : ∀ d : Nat, q_Sd p l e R s m args below meth c 1 nW dC dI k g A (MQ below (q_post (dC, dI) k g nW Q A) args s 0 0 A) d (x_cut (is_X12_deeds d) (J d))) : q_Sd p l e R s m args below meth c 1 nW dC dI k g A (MQ below (q_post (dC, dI) k g nW Q A) args s 0 0 A) 0 (b_X12_deeds_0 J Q) := by
  unfold b_X12_deeds_0
  refine s_aload_n X rfl dX12_deeds_0 ?_
  refine s_get X (T := TX12) (C := RX12) (N := 45) tu_X12 rfl (by decide) tw_1004 dX12_deeds_1 ?_
  refine s_sipush X ⟨by decide, by decide⟩ (by decide) dX12_deeds_4 ?_
  refine s_aload_n X rfl dX12_deeds_7 ?_
  refine s_get X (T := TX12) (C := RX12) (N := 45) tu_X12 rfl (by decide) tw_1023 dX12_deeds_8 ?_
  refine s_imul X dX12_deeds_11 ?_
  refine s_iald X dX12_deeds_12 ?_
  exact s_iret X dX12_deeds_13

def spr_X12_deeds : List qV → qW → (Option qV → Prop) → Prop := fun av w Q => ∃ (mco : Int) (mre : Int) (mle : Int) (mbe : Int) (mso : Int) (mva : Int) (mwo : Int) (mwr : Int) (mlf : Int) (mlp : Int) (mfp : Int) (mfd : Int) (mgo : Int) (mbo : Int) (mpe : Int) (mye : Int) (mpr : Int) (mld : Int) (msi : Int) (mse : Int) (ys : Nat → Int), av = [q2 0] ∧ w = [.inr (12, [q1 mco, q2 2, q2 3, q2 4, q2 5, q2 6, q2 7, q2 1, q2 8, q2 9, q1 mre, q1 mle, q1 mbe, q1 mso, q1 mva, q3 mwo, q1 mwr, q1 mlf, q1 mlp, q2 10, q2 11, q1 mfp, q1 mfd, q1 mgo, q1 mbo, q1 mpe, q1 mye, q2 12, q1 mpr, q2 13, q2 14, q2 15, q2 16, q1 mld, q2 17, q1 msi, q2 18, q2 19, q2 20, q2 21, q2 22, q1 mse, q2 23, q2 24, q2 25]), .inl (0, 1288, .inl ys)] ∧ (YI ys) ∧ (0 ≤ mye ∧ mye ≤ 1) ∧ (∀ (r : Int) , (0 ≤ r ∧ r ≤ 40) → Q (some (q1 r)))
def sp_X12_deeds : qS := fun av w Q => spr_X12_deeds av w (fun r => Q r w)
set_option maxHeartbeats 4000000 in
set_option maxRecDepth 100000 in
theorem m_X12_deeds (l : Launch) : q_M l yX12_deeds cX12_deeds 1 (some .int) 0 0 sp_X12_deeds := by
  refine q_meth (by decide) (fun av w Q h => by obtain ⟨mco, mre, mle, mbe, mso, mva, mwo, mwr, mlf, mlp, mfp, mfd, mgo, mbo, mpe, mye, mpr, mld, msi, mse, ys, rfl, rfl, hyi, hye, hQ⟩ := h; exact Nat.le_of_ble_eq_true rfl) ?_
  intro p e R s m args below meth c dC dI k g A av w Q hsp oka okw X
  obtain ⟨mco, mre, mle, mbe, mso, mva, mwo, mwr, mlf, mlp, mfp, mfd, mgo, mbo, mpe, mye, mpr, mld, msi, mse, ys, rfl, rfl, hyi, hye, hQ⟩ := hsp
  refine s_mono (s_X12_deeds_0 X (J := fun _ _ _ _ => False) (fun d => s_cutF)) ?_
  rintro lv st w' ⟨rfl, rfl, rfl⟩
  intro z11 h11
  first | replace h11 := e_mul h11 (by omega) | replace h11 := e_rng h11
  apply And.intro
  · exact ⟨by omega, by omega⟩
  intro z12 h12
  exact hQ _ (YI_0 hyi hye h12 (by omega))

theorem dX12_deedOf_0 : decode cX12_deedOf 0 = .ok (.aload_n 0, 1) := by decide +kernel
theorem dX12_deedOf_1 : decode cX12_deedOf 1 = .ok (.getfield 29, 3) := by decide +kernel
theorem dX12_deedOf_4 : decode cX12_deedOf 4 = .ok (.sipush 161, 3) := by decide +kernel
theorem dX12_deedOf_7 : decode cX12_deedOf 7 = .ok (.aload_n 0, 1) := by decide +kernel
theorem dX12_deedOf_8 : decode cX12_deedOf 8 = .ok (.getfield 312, 3) := by decide +kernel
theorem dX12_deedOf_11 : decode cX12_deedOf 11 = .ok (.imul, 1) := by decide +kernel
theorem dX12_deedOf_12 : decode cX12_deedOf 12 = .ok (.iconst 1, 1) := by decide +kernel
theorem dX12_deedOf_13 : decode cX12_deedOf 13 = .ok (.iadd, 1) := by decide +kernel
theorem dX12_deedOf_14 : decode cX12_deedOf 14 = .ok (.iconst 4, 1) := by decide +kernel
theorem dX12_deedOf_15 : decode cX12_deedOf 15 = .ok (.iload_n 1, 1) := by decide +kernel
theorem dX12_deedOf_16 : decode cX12_deedOf 16 = .ok (.imul, 1) := by decide +kernel
theorem dX12_deedOf_17 : decode cX12_deedOf 17 = .ok (.iadd, 1) := by decide +kernel
theorem dX12_deedOf_18 : decode cX12_deedOf 18 = .ok (.iload_n 2, 1) := by decide +kernel
theorem dX12_deedOf_19 : decode cX12_deedOf 19 = .ok (.iadd, 1) := by decide +kernel
theorem dX12_deedOf_20 : decode cX12_deedOf 20 = .ok (.iaload, 1) := by decide +kernel
theorem dX12_deedOf_21 : decode cX12_deedOf 21 = .ok (.ireturn, 1) := by decide +kernel
def is_X12_deedOf : Nat → List Nat := fun d => []
set_option maxRecDepth 100000 in
def b_X12_deedOf_0 (J : Nat → List qV → List qV → qW → Prop) (Q : qR) : qK := x_aload 0 (x_get 12 7 (x_int 161 (x_aload 0 (x_get 12 26 (x_imul (x_int 1 (x_iadd (x_int 4 (x_iload 1 (x_imul (x_iadd (x_iload 2 (x_iadd (x_iald (x_iret Q)))))))))))))))
set_option maxRecDepth 100000 in
theorem s_X12_deedOf_0 {p : Program} {l : Launch} {e : Env} {R : Room} {s : State} {m : MethodId} {args : Array Value} {below : List Frame} {meth : Method} {c : Code} {nW : Nat} {dC : Nat → ClassId} {dI : Nat → Nat → Nat} {k : Nat → ClassId} {g : Nat → Nat} {A : Nat → Prop} {J : Nat → List qV → List qV → qW → Prop} {Q : qR} (X : q_X p R s m args meth c cX12_deedOf 3 nW 0 0 RX12 (some .int) dC dI k g A) (hJ : ∀ d : Nat, q_Sd p l e R s m args below meth c 3 nW dC dI k g A (MQ below (q_post (dC, dI) k g nW Q A) args s 0 0 A) d (x_cut (is_X12_deedOf d) (J d))) : q_Sd p l e R s m args below meth c 3 nW dC dI k g A (MQ below (q_post (dC, dI) k g nW Q A) args s 0 0 A) 0 (b_X12_deedOf_0 J Q) := by
  unfold b_X12_deedOf_0
  refine s_aload_n X rfl dX12_deedOf_0 ?_
  refine s_get X (T := TX12) (C := RX12) (N := 45) tu_X12 rfl (by decide) tw_1004 dX12_deedOf_1 ?_
  refine s_sipush X ⟨by decide, by decide⟩ (by decide) dX12_deedOf_4 ?_
  refine s_aload_n X rfl dX12_deedOf_7 ?_
  refine s_get X (T := TX12) (C := RX12) (N := 45) tu_X12 rfl (by decide) tw_1023 dX12_deedOf_8 ?_
  refine s_imul X dX12_deedOf_11 ?_
  refine s_iconst X ⟨by decide, by decide⟩ dX12_deedOf_12 ?_
  refine s_iadd X dX12_deedOf_13 ?_
  refine s_iconst X ⟨by decide, by decide⟩ dX12_deedOf_14 ?_
  refine s_iload_n X rfl dX12_deedOf_15 ?_
  refine s_imul X dX12_deedOf_16 ?_
  refine s_iadd X dX12_deedOf_17 ?_
  refine s_iload_n X rfl dX12_deedOf_18 ?_
  refine s_iadd X dX12_deedOf_19 ?_
  refine s_iald X dX12_deedOf_20 ?_
  exact s_iret X dX12_deedOf_21

def spr_X12_deedOf : List qV → qW → (Option qV → Prop) → Prop := fun av w Q => ∃ (mco : Int) (mre : Int) (mle : Int) (mbe : Int) (mso : Int) (mva : Int) (mwo : Int) (mwr : Int) (mlf : Int) (mlp : Int) (mfp : Int) (mfd : Int) (mgo : Int) (mbo : Int) (mpe : Int) (mye : Int) (mpr : Int) (mld : Int) (msi : Int) (mse : Int) (ys : Nat → Int) (a : Int) (b : Int), av = [q2 0, q1 a, q1 b] ∧ w = [.inr (12, [q1 mco, q2 2, q2 3, q2 4, q2 5, q2 6, q2 7, q2 1, q2 8, q2 9, q1 mre, q1 mle, q1 mbe, q1 mso, q1 mva, q3 mwo, q1 mwr, q1 mlf, q1 mlp, q2 10, q2 11, q1 mfp, q1 mfd, q1 mgo, q1 mbo, q1 mpe, q1 mye, q2 12, q1 mpr, q2 13, q2 14, q2 15, q2 16, q1 mld, q2 17, q1 msi, q2 18, q2 19, q2 20, q2 21, q2 22, q1 mse, q2 23, q2 24, q2 25]), .inl (0, 1288, .inl ys)] ∧ (0 ≤ mye ∧ mye ≤ 1) ∧ (0 ≤ a ∧ a ≤ 39 ∧ 0 ≤ b ∧ b ≤ 3) ∧ (∀ (r : Int) , r = ys (161 * mye + 1 + 4 * a + b).toNat → Q (some (q1 r)))
def sp_X12_deedOf : qS := fun av w Q => spr_X12_deedOf av w (fun r => Q r w)
set_option maxHeartbeats 4000000 in
set_option maxRecDepth 100000 in
theorem m_X12_deedOf (l : Launch) : q_M l yX12_deedOf cX12_deedOf 3 (some .int) 0 0 sp_X12_deedOf := by
  refine q_meth (by decide) (fun av w Q h => by obtain ⟨mco, mre, mle, mbe, mso, mva, mwo, mwr, mlf, mlp, mfp, mfd, mgo, mbo, mpe, mye, mpr, mld, msi, mse, ys, a, b, rfl, rfl, hye, ha, hQ⟩ := h; exact Nat.le_of_ble_eq_true rfl) ?_
  intro p e R s m args below meth c dC dI k g A av w Q hsp oka okw X
  obtain ⟨mco, mre, mle, mbe, mso, mva, mwo, mwr, mlf, mlp, mfp, mfd, mgo, mbo, mpe, mye, mpr, mld, msi, mse, ys, a, b, rfl, rfl, hye, ha, hQ⟩ := hsp
  have o_a : -2147483648 ≤ a ∧ a ≤ 2147483647 := oka _ (List.mem_of_getElem? (i := 1) rfl)
  have o_b : -2147483648 ≤ b ∧ b ≤ 2147483647 := oka _ (List.mem_of_getElem? (i := 2) rfl)
  refine s_mono (s_X12_deedOf_0 X (J := fun _ _ _ _ => False) (fun d => s_cutF)) ?_
  rintro lv st w' ⟨rfl, rfl, rfl⟩
  intro z11 h11
  first | replace h11 := e_mul h11 (by omega) | replace h11 := e_rng h11
  intro z13 h13
  first | replace h13 := e_add h13 (by omega) | replace h13 := e_rng h13
  intro z16 h16
  first | replace h16 := e_mul h16 (by omega) | replace h16 := e_rng h16
  intro z17 h17
  first | replace h17 := e_add h17 (by omega) | replace h17 := e_rng h17
  intro z19 h19
  first | replace h19 := e_add h19 (by omega) | replace h19 := e_rng h19
  apply And.intro
  · exact ⟨by omega, by omega⟩
  intro z20 h20
  exact hQ _ (by rw [h20]; congr 2; omega)

theorem dX12_hasYear_0 : decode cX12_hasYear 0 = .ok (.aload_n 0, 1) := by decide +kernel
theorem dX12_hasYear_1 : decode cX12_hasYear 1 = .ok (.iload_n 1, 1) := by decide +kernel
theorem dX12_hasYear_2 : decode cX12_hasYear 2 = .ok (.putfield 312, 3) := by decide +kernel
theorem dX12_hasYear_5 : decode cX12_hasYear 5 = .ok (.aload_n 0, 1) := by decide +kernel
theorem dX12_hasYear_6 : decode cX12_hasYear 6 = .ok (.iconst 1, 1) := by decide +kernel
theorem dX12_hasYear_7 : decode cX12_hasYear 7 = .ok (.iload_n 1, 1) := by decide +kernel
theorem dX12_hasYear_8 : decode cX12_hasYear 8 = .ok (.invokevirtual 287, 3) := by decide +kernel
theorem dX12_hasYear_11 : decode cX12_hasYear 11 = .ok (.ireturn, 1) := by decide +kernel
def is_X12_hasYear : Nat → List Nat := fun d => []
set_option maxRecDepth 100000 in
def b_X12_hasYear_0 (J : Nat → List qV → List qV → qW → Prop) (Q : qR) : qK := x_aload 0 (x_iload 1 (x_put 12 26 q_oki (x_nw (x_aload 0 (x_int 1 (x_iload 1 (x_callr (some 12) 3 spr_X12_is (x_zret Q))))))))
set_option maxRecDepth 100000 in
theorem s_X12_hasYear_0 {p : Program} {l : Launch} {e : Env} {R : Room} {s : State} {m : MethodId} {args : Array Value} {below : List Frame} {meth : Method} {c : Code} {nW : Nat} {dC : Nat → ClassId} {dI : Nat → Nat → Nat} {k : Nat → ClassId} {g : Nat → Nat} {A : Nat → Prop} {J : Nat → List qV → List qV → qW → Prop} {Q : qR} (X : q_X p R s m args meth c cX12_hasYear 2 nW 2 44 RX12 (some .boolean) dC dI k g A) (hJ : ∀ d : Nat, q_Sd p l e R s m args below meth c 2 nW dC dI k g A (MQ below (q_post (dC, dI) k g nW Q A) args s 0 0 A) d (x_cut (is_X12_hasYear d) (J d))) : q_Sd p l e R s m args below meth c 2 nW dC dI k g A (MQ below (q_post (dC, dI) k g nW Q A) args s 0 0 A) 0 (b_X12_hasYear_0 J Q) := by
  unfold b_X12_hasYear_0
  refine s_aload_n X rfl dX12_hasYear_0 ?_
  refine s_iload_n X rfl dX12_hasYear_1 ?_
  refine s_put X (T := TX12) (C := RX12) (N := 45) tu_X12 tyX12_ok nmX12 rfl (by decide) tw_1023 rfl (by decide +kernel) q_oki_t dX12_hasYear_2 ?_
  refine s_nw ?_
  refine s_aload_n X rfl dX12_hasYear_5 ?_
  refine s_iconst X ⟨by decide, by decide⟩ dX12_hasYear_6 ?_
  refine s_iload_n X rfl dX12_hasYear_7 ?_
  refine s_callVr X (m_X12_is l) tw_1061 tw_1062 tw_1590 tw_134 tw_1063 rfl (by decide +kernel) ⟨by decide, by decide⟩ dX12_hasYear_8 ?_
  exact s_zret X dX12_hasYear_11

def sp_X12_hasYear : qS := fun av w Q => ∃ (mco : Int) (mre : Int) (mle : Int) (mbe : Int) (mso : Int) (mva : Int) (mwo : Int) (mwr : Int) (mlf : Int) (mlp : Int) (mfp : Int) (mfd : Int) (mgo : Int) (mbo : Int) (mpe : Int) (mye : Int) (mpr : Int) (mld : Int) (msi : Int) (mse : Int) (mn : Nat → Int) (a : Int), av = [q2 0, q1 a] ∧ w = [.inr (12, [q1 mco, q2 2, q2 3, q2 4, q2 5, q2 1, q2 6, q2 7, q2 8, q2 9, q1 mre, q1 mle, q1 mbe, q1 mso, q1 mva, q3 mwo, q1 mwr, q1 mlf, q1 mlp, q2 10, q2 11, q1 mfp, q1 mfd, q1 mgo, q1 mbo, q1 mpe, q1 mye, q2 12, q1 mpr, q2 13, q2 14, q2 15, q2 16, q1 mld, q2 17, q1 msi, q2 18, q2 19, q2 20, q2 21, q2 22, q1 mse, q2 23, q2 24, q2 25]), .inl (0, 16, .inl mn)] ∧ (q_rg 0 2 mn) ∧ (∀ (r : Int) (x_mye : Int), (r = 1 ∧ (x_mye = a ∧ 0 ≤ a ∧ a ≤ 1) ∨ r = 0 ∧ x_mye = a) → Q (some (q1 r)) ([.inr (12, [q1 mco, q2 2, q2 3, q2 4, q2 5, q2 1, q2 6, q2 7, q2 8, q2 9, q1 mre, q1 mle, q1 mbe, q1 mso, q1 mva, q3 mwo, q1 mwr, q1 mlf, q1 mlp, q2 10, q2 11, q1 mfp, q1 mfd, q1 mgo, q1 mbo, q1 mpe, q1 x_mye, q2 12, q1 mpr, q2 13, q2 14, q2 15, q2 16, q1 mld, q2 17, q1 msi, q2 18, q2 19, q2 20, q2 21, q2 22, q1 mse, q2 23, q2 24, q2 25]), .inl (0, 16, .inl mn)]))
set_option maxHeartbeats 4000000 in
set_option maxRecDepth 100000 in
theorem m_X12_hasYear (l : Launch) : q_M l yX12_hasYear cX12_hasYear 2 (some .boolean) 2 44 sp_X12_hasYear := by
  refine q_meth (by decide) (fun av w Q h => by obtain ⟨mco, mre, mle, mbe, mso, mva, mwo, mwr, mlf, mlp, mfp, mfd, mgo, mbo, mpe, mye, mpr, mld, msi, mse, mn, a, rfl, rfl, hmn, hQ⟩ := h; exact Nat.le_of_ble_eq_true rfl) ?_
  intro p e R s m args below meth c dC dI k g A av w Q hsp oka okw X
  obtain ⟨mco, mre, mle, mbe, mso, mva, mwo, mwr, mlf, mlp, mfp, mfd, mgo, mbo, mpe, mye, mpr, mld, msi, mse, mn, a, rfl, rfl, hmn, hQ⟩ := hsp
  have o_a : -2147483648 ≤ a ∧ a ≤ 2147483647 := oka _ (List.mem_of_getElem? (i := 1) rfl)
  refine s_mono (s_X12_hasYear_0 X (J := fun _ _ _ _ => False) (fun d => s_cutF)) ?_
  rintro lv st w' ⟨rfl, rfl, rfl⟩
  apply And.intro
  · exact trivial
  refine Exists.intro [0, 1, 2, 3, 4, 5, 6, 7, 8, 9, 10, 11, 12, 13, 14, 15, 16, 17, 18, 19, 20, 21, 22, 23, 24, 25] (Exists.intro [q2 0, q1 _, q1 _] (Exists.intro ([.inr (12, [q1 _, q2 2, q2 3, q2 4, q2 5, q2 1, q2 6, q2 7, q2 8, q2 9, q1 _, q1 _, q1 _, q1 _, q1 _, q3 _, q1 _, q1 _, q1 _, q2 10, q2 11, q1 _, q1 _, q1 _, q1 _, q1 _, q1 _, q2 12, q1 _, q2 13, q2 14, q2 15, q2 16, q1 _, q2 17, q1 _, q2 18, q2 19, q2 20, q2 21, q2 22, q1 _, q2 23, q2 24, q2 25]), .inl (0, 16, .inl _)]) (And.intro rfl (And.intro rfl (And.intro rfl (And.intro ⟨⟨_, rfl⟩, rfl⟩ ?_))))))
  refine Exists.intro _ (Exists.intro _ (Exists.intro _ (Exists.intro _ (Exists.intro _ (Exists.intro _ (Exists.intro _ (Exists.intro _ (Exists.intro _ (Exists.intro _ (Exists.intro _ (Exists.intro _ (Exists.intro _ (Exists.intro _ (Exists.intro _ (Exists.intro _ (Exists.intro _ (Exists.intro _ (Exists.intro _ (Exists.intro _ (Exists.intro _ (Exists.intro _ (Exists.intro _ (And.intro rfl (And.intro rfl (And.intro (by first | omega | assumption | exact q_rg_up (by assumption) (by omega) | exact q_rg_up (q_rg_up (by assumption) (by omega)) (by omega) | exact q_rg_cpy (by assumption) (by assumption)) (And.intro (by first | omega | assumption | exact q_rg_up (by assumption) (by omega) | exact q_rg_up (q_rg_up (by assumption) (by omega)) (by omega) | exact q_rg_cpy (by assumption) (by assumption)) (?_)))))))))))))))))))))))))))
  intro z8 h8
  apply And.intro
  · first | exact Or.inl rfl | exact Or.inr rfl | omega
  exact hQ _ _ (by first | omega | assumption | exact q_rg_up (by assumption) (by omega) | exact q_rg_up (q_rg_up (by assumption) (by omega)) (by omega) | exact q_rg_cpy (by assumption) (by assumption))

theorem dX12_deed_0 : decode cX12_deed 0 = .ok (.aload_n 0, 1) := by decide +kernel
theorem dX12_deed_1 : decode cX12_deed 1 = .ok (.iconst 0, 1) := by decide +kernel
theorem dX12_deed_2 : decode cX12_deed 2 = .ok (.putfield 88, 3) := by decide +kernel
theorem dX12_deed_5 : decode cX12_deed 5 = .ok (.aload_n 0, 1) := by decide +kernel
theorem dX12_deed_6 : decode cX12_deed 6 = .ok (.iload_n 1, 1) := by decide +kernel
theorem dX12_deed_7 : decode cX12_deed 7 = .ok (.invokevirtual 315, 3) := by decide +kernel
theorem dX12_deed_10 : decode cX12_deed 10 = .ok (.ifCond .ne 6, 3) := by decide +kernel
theorem dX12_deed_13 : decode cX12_deed 13 = .ok (.bipush (-2), 2) := by decide +kernel
theorem dX12_deed_15 : decode cX12_deed 15 = .ok (.ireturn, 1) := by decide +kernel
theorem dX12_deed_16 : decode cX12_deed 16 = .ok (.iload_n 2, 1) := by decide +kernel
theorem dX12_deed_17 : decode cX12_deed 17 = .ok (.iconst (-1), 1) := by decide +kernel
theorem dX12_deed_18 : decode cX12_deed 18 = .ok (.if_icmp .ne 17, 3) := by decide +kernel
theorem dX12_deed_21 : decode cX12_deed 21 = .ok (.iload_n 3, 1) := by decide +kernel
theorem dX12_deed_22 : decode cX12_deed 22 = .ok (.ifCond .ne 10, 3) := by decide +kernel
theorem dX12_deed_25 : decode cX12_deed 25 = .ok (.aload_n 0, 1) := by decide +kernel
theorem dX12_deed_26 : decode cX12_deed 26 = .ok (.invokevirtual 318, 3) := by decide +kernel
theorem dX12_deed_29 : decode cX12_deed 29 = .ok (.goto 5, 3) := by decide +kernel
theorem dX12_deed_32 : decode cX12_deed 32 = .ok (.bipush (-2), 2) := by decide +kernel
theorem dX12_deed_34 : decode cX12_deed 34 = .ok (.ireturn, 1) := by decide +kernel
theorem dX12_deed_35 : decode cX12_deed 35 = .ok (.iload_n 2, 1) := by decide +kernel
theorem dX12_deed_36 : decode cX12_deed 36 = .ok (.iconst 0, 1) := by decide +kernel
theorem dX12_deed_37 : decode cX12_deed 37 = .ok (.aload_n 0, 1) := by decide +kernel
theorem dX12_deed_38 : decode cX12_deed 38 = .ok (.invokevirtual 318, 3) := by decide +kernel
theorem dX12_deed_41 : decode cX12_deed 41 = .ok (.iconst 1, 1) := by decide +kernel
theorem dX12_deed_42 : decode cX12_deed 42 = .ok (.isub, 1) := by decide +kernel
theorem dX12_deed_43 : decode cX12_deed 43 = .ok (.invokestatic 100, 3) := by decide +kernel
theorem dX12_deed_46 : decode cX12_deed 46 = .ok (.ifCond .eq 21, 3) := by decide +kernel
theorem dX12_deed_49 : decode cX12_deed 49 = .ok (.iload_n 3, 1) := by decide +kernel
theorem dX12_deed_50 : decode cX12_deed 50 = .ok (.iconst 0, 1) := by decide +kernel
theorem dX12_deed_51 : decode cX12_deed 51 = .ok (.iconst 3, 1) := by decide +kernel
theorem dX12_deed_52 : decode cX12_deed 52 = .ok (.invokestatic 100, 3) := by decide +kernel
theorem dX12_deed_55 : decode cX12_deed 55 = .ok (.ifCond .eq 12, 3) := by decide +kernel
theorem dX12_deed_58 : decode cX12_deed 58 = .ok (.aload_n 0, 1) := by decide +kernel
theorem dX12_deed_59 : decode cX12_deed 59 = .ok (.iload_n 2, 1) := by decide +kernel
theorem dX12_deed_60 : decode cX12_deed 60 = .ok (.iload_n 3, 1) := by decide +kernel
theorem dX12_deed_61 : decode cX12_deed 61 = .ok (.invokevirtual 321, 3) := by decide +kernel
theorem dX12_deed_64 : decode cX12_deed 64 = .ok (.goto 5, 3) := by decide +kernel
theorem dX12_deed_67 : decode cX12_deed 67 = .ok (.bipush (-2), 2) := by decide +kernel
theorem dX12_deed_69 : decode cX12_deed 69 = .ok (.ireturn, 1) := by decide +kernel
def is_X12_deed : Nat → List Nat := fun d => []
set_option maxRecDepth 100000 in
def b_X12_deed_69 (J : Nat → List qV → List qV → qW → Prop) (Q : qR) : qK := x_iret Q
set_option maxRecDepth 100000 in
theorem s_X12_deed_69 {p : Program} {l : Launch} {e : Env} {R : Room} {s : State} {m : MethodId} {args : Array Value} {below : List Frame} {meth : Method} {c : Code} {nW : Nat} {dC : Nat → ClassId} {dI : Nat → Nat → Nat} {k : Nat → ClassId} {g : Nat → Nat} {A : Nat → Prop} {J : Nat → List qV → List qV → qW → Prop} {Q : qR} (X : q_X p R s m args meth c cX12_deed 4 nW 3 65 RX12 (some .int) dC dI k g A) (hJ : ∀ d : Nat, q_Sd p l e R s m args below meth c 4 nW dC dI k g A (MQ below (q_post (dC, dI) k g nW Q A) args s 0 0 A) d (x_cut (is_X12_deed d) (J d))) : q_Sd p l e R s m args below meth c 4 nW dC dI k g A (MQ below (q_post (dC, dI) k g nW Q A) args s 0 0 A) 69 (b_X12_deed_69 J Q) := by
  unfold b_X12_deed_69
  exact s_iret X dX12_deed_69
set_option maxRecDepth 100000 in
def b_X12_deed_67 (J : Nat → List qV → List qV → qW → Prop) (Q : qR) : qK := x_int (-2) (b_X12_deed_69 J Q)
set_option maxRecDepth 100000 in
theorem s_X12_deed_67 {p : Program} {l : Launch} {e : Env} {R : Room} {s : State} {m : MethodId} {args : Array Value} {below : List Frame} {meth : Method} {c : Code} {nW : Nat} {dC : Nat → ClassId} {dI : Nat → Nat → Nat} {k : Nat → ClassId} {g : Nat → Nat} {A : Nat → Prop} {J : Nat → List qV → List qV → qW → Prop} {Q : qR} (X : q_X p R s m args meth c cX12_deed 4 nW 3 65 RX12 (some .int) dC dI k g A) (hJ : ∀ d : Nat, q_Sd p l e R s m args below meth c 4 nW dC dI k g A (MQ below (q_post (dC, dI) k g nW Q A) args s 0 0 A) d (x_cut (is_X12_deed d) (J d))) : q_Sd p l e R s m args below meth c 4 nW dC dI k g A (MQ below (q_post (dC, dI) k g nW Q A) args s 0 0 A) 67 (b_X12_deed_67 J Q) := by
  unfold b_X12_deed_67
  refine s_bipush X ⟨by decide, by decide⟩ (by decide) dX12_deed_67 ?_
  exact s_X12_deed_69 X hJ
set_option maxRecDepth 100000 in
def b_X12_deed_34 (J : Nat → List qV → List qV → qW → Prop) (Q : qR) : qK := x_iret Q
set_option maxRecDepth 100000 in
theorem s_X12_deed_34 {p : Program} {l : Launch} {e : Env} {R : Room} {s : State} {m : MethodId} {args : Array Value} {below : List Frame} {meth : Method} {c : Code} {nW : Nat} {dC : Nat → ClassId} {dI : Nat → Nat → Nat} {k : Nat → ClassId} {g : Nat → Nat} {A : Nat → Prop} {J : Nat → List qV → List qV → qW → Prop} {Q : qR} (X : q_X p R s m args meth c cX12_deed 4 nW 3 65 RX12 (some .int) dC dI k g A) (hJ : ∀ d : Nat, q_Sd p l e R s m args below meth c 4 nW dC dI k g A (MQ below (q_post (dC, dI) k g nW Q A) args s 0 0 A) d (x_cut (is_X12_deed d) (J d))) : q_Sd p l e R s m args below meth c 4 nW dC dI k g A (MQ below (q_post (dC, dI) k g nW Q A) args s 0 0 A) 34 (b_X12_deed_34 J Q) := by
  unfold b_X12_deed_34
  exact s_iret X dX12_deed_34
set_option maxRecDepth 100000 in
def b_X12_deed_0 (J : Nat → List qV → List qV → qW → Prop) (Q : qR) : qK := x_aload 0 (x_int 0 (x_put 12 0 q_oki (x_nw (x_aload 0 (x_iload 1 (x_call (some 12) 2 sp_X12_hasYear (x_nw (x_if_ne (x_iload 2 (x_int (-1) (x_icmp_ne (x_iload 2 (x_int 0 (x_aload 0 (x_callr (some 12) 1 spr_X12_deeds (x_int 1 (x_isub (x_callr none 3 spr_X12_in (x_if_eq (b_X12_deed_67 J Q) (x_iload 3 (x_int 0 (x_int 3 (x_callr none 3 spr_X12_in (x_if_eq (b_X12_deed_67 J Q) (x_aload 0 (x_iload 2 (x_iload 3 (x_callr (some 12) 3 spr_X12_deedOf (b_X12_deed_69 J Q)))))))))))))))))) (x_iload 3 (x_if_ne (x_int (-2) (b_X12_deed_34 J Q)) (x_aload 0 (x_callr (some 12) 1 spr_X12_deeds (b_X12_deed_34 J Q)))))))) (x_int (-2) (x_iret Q))))))))))
set_option maxRecDepth 100000 in
theorem s_X12_deed_0 {p : Program} {l : Launch} {e : Env} {R : Room} {s : State} {m : MethodId} {args : Array Value} {below : List Frame} {meth : Method} {c : Code} {nW : Nat} {dC : Nat → ClassId} {dI : Nat → Nat → Nat} {k : Nat → ClassId} {g : Nat → Nat} {A : Nat → Prop} {J : Nat → List qV → List qV → qW → Prop} {Q : qR} (X : q_X p R s m args meth c cX12_deed 4 nW 3 65 RX12 (some .int) dC dI k g A) (hJ : ∀ d : Nat, q_Sd p l e R s m args below meth c 4 nW dC dI k g A (MQ below (q_post (dC, dI) k g nW Q A) args s 0 0 A) d (x_cut (is_X12_deed d) (J d))) : q_Sd p l e R s m args below meth c 4 nW dC dI k g A (MQ below (q_post (dC, dI) k g nW Q A) args s 0 0 A) 0 (b_X12_deed_0 J Q) := by
  unfold b_X12_deed_0
  refine s_aload_n X rfl dX12_deed_0 ?_
  refine s_iconst X ⟨by decide, by decide⟩ dX12_deed_1 ?_
  refine s_put X (T := TX12) (C := RX12) (N := 45) tu_X12 tyX12_ok nmX12 rfl (by decide) tw_997 rfl (by decide +kernel) q_oki_t dX12_deed_2 ?_
  refine s_nw ?_
  refine s_aload_n X rfl dX12_deed_5 ?_
  refine s_iload_n X rfl dX12_deed_6 ?_
  refine s_callV X (m_X12_hasYear l) tw_1199 tw_1200 tw_1589 tw_134 tw_1201 rfl (by decide +kernel) ⟨by decide, by decide⟩ dX12_deed_7 ?_
  refine s_nw ?_
  refine s_if_ne X (tgt := 16) dX12_deed_10 (by decide) ?_ ?_
  · refine s_iload_n X rfl dX12_deed_16 ?_
    refine s_iconst X ⟨by decide, by decide⟩ dX12_deed_17 ?_
    refine s_icmp_ne X (tgt := 35) dX12_deed_18 (by decide) ?_ ?_
    · refine s_iload_n X rfl dX12_deed_35 ?_
      refine s_iconst X ⟨by decide, by decide⟩ dX12_deed_36 ?_
      refine s_aload_n X rfl dX12_deed_37 ?_
      refine s_callVr X (m_X12_deeds l) tw_1202 tw_1203 tw_1559 tw_134 tw_1204 rfl (by decide +kernel) ⟨by decide, by decide⟩ dX12_deed_38 ?_
      refine s_iconst X ⟨by decide, by decide⟩ dX12_deed_41 ?_
      refine s_isub X dX12_deed_42 ?_
      refine s_callSr X (m_X12_in l) tw_1054 tw_1055 tw_134 tw_1056 (by decide +kernel) ⟨by decide, by decide⟩ dX12_deed_43 ?_
      refine s_if_eq X (tgt := 67) dX12_deed_46 (by decide) ?_ ?_
      · exact s_X12_deed_67 X hJ
      · refine s_iload_n X rfl dX12_deed_49 ?_
        refine s_iconst X ⟨by decide, by decide⟩ dX12_deed_50 ?_
        refine s_iconst X ⟨by decide, by decide⟩ dX12_deed_51 ?_
        refine s_callSr X (m_X12_in l) tw_1054 tw_1055 tw_134 tw_1056 (by decide +kernel) ⟨by decide, by decide⟩ dX12_deed_52 ?_
        refine s_if_eq X (tgt := 67) dX12_deed_55 (by decide) ?_ ?_
        · exact s_X12_deed_67 X hJ
        · refine s_aload_n X rfl dX12_deed_58 ?_
          refine s_iload_n X rfl dX12_deed_59 ?_
          refine s_iload_n X rfl dX12_deed_60 ?_
          refine s_callVr X (m_X12_deedOf l) tw_1205 tw_1206 tw_1558 tw_134 tw_1207 rfl (by decide +kernel) ⟨by decide, by decide⟩ dX12_deed_61 ?_
          refine s_goto X (tgt := 69) dX12_deed_64 (by decide) ?_
          exact s_X12_deed_69 X hJ
    · refine s_iload_n X rfl dX12_deed_21 ?_
      refine s_if_ne X (tgt := 32) dX12_deed_22 (by decide) ?_ ?_
      · refine s_bipush X ⟨by decide, by decide⟩ (by decide) dX12_deed_32 ?_
        exact s_X12_deed_34 X hJ
      · refine s_aload_n X rfl dX12_deed_25 ?_
        refine s_callVr X (m_X12_deeds l) tw_1202 tw_1203 tw_1559 tw_134 tw_1204 rfl (by decide +kernel) ⟨by decide, by decide⟩ dX12_deed_26 ?_
        refine s_goto X (tgt := 34) dX12_deed_29 (by decide) ?_
        exact s_X12_deed_34 X hJ
  · refine s_bipush X ⟨by decide, by decide⟩ (by decide) dX12_deed_13 ?_
    exact s_iret X dX12_deed_15

def sp_X12_deed : qS := fun av w Q => ∃ (mco : Int) (mre : Int) (mle : Int) (mbe : Int) (mso : Int) (mva : Int) (mwo : Int) (mwr : Int) (mlf : Int) (mlp : Int) (mfp : Int) (mfd : Int) (mgo : Int) (mbo : Int) (mpe : Int) (mye : Int) (mpr : Int) (mld : Int) (msi : Int) (mse : Int) (mn : Nat → Int) (ys : Nat → Int) (a : Int) (b : Int) (cc : Int), av = [q2 0, q1 a, q1 b, q1 cc] ∧ w = [.inr (12, [q1 mco, q2 3, q2 4, q2 5, q2 6, q2 1, q2 7, q2 2, q2 8, q2 9, q1 mre, q1 mle, q1 mbe, q1 mso, q1 mva, q3 mwo, q1 mwr, q1 mlf, q1 mlp, q2 10, q2 11, q1 mfp, q1 mfd, q1 mgo, q1 mbo, q1 mpe, q1 mye, q2 12, q1 mpr, q2 13, q2 14, q2 15, q2 16, q1 mld, q2 17, q1 msi, q2 18, q2 19, q2 20, q2 21, q2 22, q1 mse, q2 23, q2 24, q2 25]), .inl (0, 16, .inl mn), .inl (0, 1288, .inl ys)] ∧ (q_rg 0 2 mn) ∧ (YI ys) ∧ (∀ (r : Int) (x_mco : Int) (x_mye : Int), Q (some (q1 r)) ([.inr (12, [q1 x_mco, q2 3, q2 4, q2 5, q2 6, q2 1, q2 7, q2 2, q2 8, q2 9, q1 mre, q1 mle, q1 mbe, q1 mso, q1 mva, q3 mwo, q1 mwr, q1 mlf, q1 mlp, q2 10, q2 11, q1 mfp, q1 mfd, q1 mgo, q1 mbo, q1 mpe, q1 x_mye, q2 12, q1 mpr, q2 13, q2 14, q2 15, q2 16, q1 mld, q2 17, q1 msi, q2 18, q2 19, q2 20, q2 21, q2 22, q1 mse, q2 23, q2 24, q2 25]), .inl (0, 16, .inl mn), .inl (0, 1288, .inl ys)]))
set_option maxHeartbeats 4000000 in
set_option maxRecDepth 100000 in
theorem m_X12_deed (l : Launch) : q_M l yX12_deed cX12_deed 4 (some .int) 3 65 sp_X12_deed := by
  refine q_meth (by decide) (fun av w Q h => by obtain ⟨mco, mre, mle, mbe, mso, mva, mwo, mwr, mlf, mlp, mfp, mfd, mgo, mbo, mpe, mye, mpr, mld, msi, mse, mn, ys, a, b, cc, rfl, rfl, hmn, hyi, hQ⟩ := h; exact Nat.le_of_ble_eq_true rfl) ?_
  intro p e R s m args below meth c dC dI k g A av w Q hsp oka okw X
  obtain ⟨mco, mre, mle, mbe, mso, mva, mwo, mwr, mlf, mlp, mfp, mfd, mgo, mbo, mpe, mye, mpr, mld, msi, mse, mn, ys, a, b, cc, rfl, rfl, hmn, hyi, hQ⟩ := hsp
  have o_a : -2147483648 ≤ a ∧ a ≤ 2147483647 := oka _ (List.mem_of_getElem? (i := 1) rfl)
  have o_b : -2147483648 ≤ b ∧ b ≤ 2147483647 := oka _ (List.mem_of_getElem? (i := 2) rfl)
  have o_cc : -2147483648 ≤ cc ∧ cc ≤ 2147483647 := oka _ (List.mem_of_getElem? (i := 3) rfl)
  refine s_mono (s_X12_deed_0 X (J := fun _ _ _ _ => False) (fun d => s_cutF)) ?_
  rintro lv st w' ⟨rfl, rfl, rfl⟩
  apply And.intro
  · exact trivial
  refine Exists.intro [0, 1, 3, 4, 5, 6, 7, 2, 8, 9, 10, 11, 12, 13, 14, 15, 16, 17, 18, 19, 20, 21, 22, 23, 24, 25] (Exists.intro [q2 0, q1 _] (Exists.intro ([.inr (12, [q1 _, q2 2, q2 3, q2 4, q2 5, q2 1, q2 6, q2 7, q2 8, q2 9, q1 _, q1 _, q1 _, q1 _, q1 _, q3 _, q1 _, q1 _, q1 _, q2 10, q2 11, q1 _, q1 _, q1 _, q1 _, q1 _, q1 _, q2 12, q1 _, q2 13, q2 14, q2 15, q2 16, q1 _, q2 17, q1 _, q2 18, q2 19, q2 20, q2 21, q2 22, q1 _, q2 23, q2 24, q2 25]), .inl (0, 16, .inl _)]) (And.intro rfl (And.intro rfl (And.intro rfl (And.intro ⟨⟨_, rfl⟩, rfl⟩ ?_))))))
  refine Exists.intro _ (Exists.intro _ (Exists.intro _ (Exists.intro _ (Exists.intro _ (Exists.intro _ (Exists.intro _ (Exists.intro _ (Exists.intro _ (Exists.intro _ (Exists.intro _ (Exists.intro _ (Exists.intro _ (Exists.intro _ (Exists.intro _ (Exists.intro _ (Exists.intro _ (Exists.intro _ (Exists.intro _ (Exists.intro _ (Exists.intro _ (Exists.intro _ (And.intro rfl (And.intro rfl (And.intro (by first | omega | assumption | exact q_rg_up (by assumption) (by omega) | exact q_rg_up (q_rg_up (by assumption) (by omega)) (by omega) | exact q_rg_cpy (by assumption) (by assumption)) (?_)))))))))))))))))))))))))
  intro z7 x_mye_7 h7
  apply And.intro
  · intro h10
    first | replace h7 := dj1 h7 h10 | replace h7 := dj0 h7 h10
    apply And.intro
    · intro h18
      refine Exists.intro [0, 2, 3, 4, 5, 6, 1, 7, 8, 9, 10, 11, 12, 13, 14, 15, 16, 17, 18, 19, 20, 21, 22, 23, 24, 25] (Exists.intro [q2 0] (Exists.intro ([.inr (12, [q1 _, q2 2, q2 3, q2 4, q2 5, q2 6, q2 7, q2 1, q2 8, q2 9, q1 _, q1 _, q1 _, q1 _, q1 _, q3 _, q1 _, q1 _, q1 _, q2 10, q2 11, q1 _, q1 _, q1 _, q1 _, q1 _, q1 _, q2 12, q1 _, q2 13, q2 14, q2 15, q2 16, q1 _, q2 17, q1 _, q2 18, q2 19, q2 20, q2 21, q2 22, q1 _, q2 23, q2 24, q2 25]), .inl (0, 1288, .inl _)]) (And.intro rfl (And.intro rfl (And.intro rfl (And.intro ⟨⟨_, rfl⟩, rfl⟩ ?_))))))
      refine Exists.intro _ (Exists.intro _ (Exists.intro _ (Exists.intro _ (Exists.intro _ (Exists.intro _ (Exists.intro _ (Exists.intro _ (Exists.intro _ (Exists.intro _ (Exists.intro _ (Exists.intro _ (Exists.intro _ (Exists.intro _ (Exists.intro _ (Exists.intro _ (Exists.intro _ (Exists.intro _ (Exists.intro _ (Exists.intro _ (Exists.intro _ (And.intro rfl (And.intro rfl (And.intro (by first | omega | assumption | exact q_rg_up (by assumption) (by omega) | exact q_rg_up (q_rg_up (by assumption) (by omega)) (by omega) | exact q_rg_cpy (by assumption) (by assumption)) (And.intro (by first | omega | assumption | exact q_rg_up (by assumption) (by omega) | exact q_rg_up (q_rg_up (by assumption) (by omega)) (by omega) | exact q_rg_cpy (by assumption) (by assumption)) (?_)))))))))))))))))))))))))
      intro z38 h38
      intro z42 h42
      first | replace h42 := e_sub h42 (by omega) | replace h42 := e_rng h42
      refine Exists.intro [] (Exists.intro [q1 _, q1 _, q1 _] (Exists.intro [] (And.intro rfl (And.intro rfl (And.intro rfl (And.intro trivial ?_))))))
      refine Exists.intro _ (Exists.intro _ (Exists.intro _ (And.intro rfl (And.intro rfl (?_)))))
      intro z43 h43
      apply And.intro
      · intro h46
        first | replace h43 := dj1 h43 h46 | replace h43 := dj0 h43 h46
        exact hQ _ _ _
      · intro h46
        first | replace h43 := dj1 h43 h46 | replace h43 := dj0 h43 h46
        refine Exists.intro [] (Exists.intro [q1 _, q1 _, q1 _] (Exists.intro [] (And.intro rfl (And.intro rfl (And.intro rfl (And.intro trivial ?_))))))
        refine Exists.intro _ (Exists.intro _ (Exists.intro _ (And.intro rfl (And.intro rfl (?_)))))
        intro z52 h52
        apply And.intro
        · intro h55
          first | replace h52 := dj1 h52 h55 | replace h52 := dj0 h52 h55
          exact hQ _ _ _
        · intro h55
          first | replace h52 := dj1 h52 h55 | replace h52 := dj0 h52 h55
          refine Exists.intro [0, 2, 3, 4, 5, 6, 1, 7, 8, 9, 10, 11, 12, 13, 14, 15, 16, 17, 18, 19, 20, 21, 22, 23, 24, 25] (Exists.intro [q2 0, q1 _, q1 _] (Exists.intro ([.inr (12, [q1 _, q2 2, q2 3, q2 4, q2 5, q2 6, q2 7, q2 1, q2 8, q2 9, q1 _, q1 _, q1 _, q1 _, q1 _, q3 _, q1 _, q1 _, q1 _, q2 10, q2 11, q1 _, q1 _, q1 _, q1 _, q1 _, q1 _, q2 12, q1 _, q2 13, q2 14, q2 15, q2 16, q1 _, q2 17, q1 _, q2 18, q2 19, q2 20, q2 21, q2 22, q1 _, q2 23, q2 24, q2 25]), .inl (0, 1288, .inl _)]) (And.intro rfl (And.intro rfl (And.intro rfl (And.intro ⟨⟨_, rfl⟩, rfl⟩ ?_))))))
          refine Exists.intro _ (Exists.intro _ (Exists.intro _ (Exists.intro _ (Exists.intro _ (Exists.intro _ (Exists.intro _ (Exists.intro _ (Exists.intro _ (Exists.intro _ (Exists.intro _ (Exists.intro _ (Exists.intro _ (Exists.intro _ (Exists.intro _ (Exists.intro _ (Exists.intro _ (Exists.intro _ (Exists.intro _ (Exists.intro _ (Exists.intro _ (Exists.intro _ (Exists.intro _ (And.intro rfl (And.intro rfl (And.intro (by first | omega | assumption | exact q_rg_up (by assumption) (by omega) | exact q_rg_up (q_rg_up (by assumption) (by omega)) (by omega) | exact q_rg_cpy (by assumption) (by assumption)) (And.intro (by first | omega | assumption | exact q_rg_up (by assumption) (by omega) | exact q_rg_up (q_rg_up (by assumption) (by omega)) (by omega) | exact q_rg_cpy (by assumption) (by assumption)) (?_)))))))))))))))))))))))))))
          intro z61 h61
          exact hQ _ _ _
    · intro h18
      apply And.intro
      · intro h22
        exact hQ _ _ _
      · intro h22
        refine Exists.intro [0, 2, 3, 4, 5, 6, 1, 7, 8, 9, 10, 11, 12, 13, 14, 15, 16, 17, 18, 19, 20, 21, 22, 23, 24, 25] (Exists.intro [q2 0] (Exists.intro ([.inr (12, [q1 _, q2 2, q2 3, q2 4, q2 5, q2 6, q2 7, q2 1, q2 8, q2 9, q1 _, q1 _, q1 _, q1 _, q1 _, q3 _, q1 _, q1 _, q1 _, q2 10, q2 11, q1 _, q1 _, q1 _, q1 _, q1 _, q1 _, q2 12, q1 _, q2 13, q2 14, q2 15, q2 16, q1 _, q2 17, q1 _, q2 18, q2 19, q2 20, q2 21, q2 22, q1 _, q2 23, q2 24, q2 25]), .inl (0, 1288, .inl _)]) (And.intro rfl (And.intro rfl (And.intro rfl (And.intro ⟨⟨_, rfl⟩, rfl⟩ ?_))))))
        refine Exists.intro _ (Exists.intro _ (Exists.intro _ (Exists.intro _ (Exists.intro _ (Exists.intro _ (Exists.intro _ (Exists.intro _ (Exists.intro _ (Exists.intro _ (Exists.intro _ (Exists.intro _ (Exists.intro _ (Exists.intro _ (Exists.intro _ (Exists.intro _ (Exists.intro _ (Exists.intro _ (Exists.intro _ (Exists.intro _ (Exists.intro _ (And.intro rfl (And.intro rfl (And.intro (by first | omega | assumption | exact q_rg_up (by assumption) (by omega) | exact q_rg_up (q_rg_up (by assumption) (by omega)) (by omega) | exact q_rg_cpy (by assumption) (by assumption)) (And.intro (by first | omega | assumption | exact q_rg_up (by assumption) (by omega) | exact q_rg_up (q_rg_up (by assumption) (by omega)) (by omega) | exact q_rg_cpy (by assumption) (by assumption)) (?_)))))))))))))))))))))))))
        intro z26 h26
        exact hQ _ _ _
  · intro h10
    first | replace h7 := dj1 h7 h10 | replace h7 := dj0 h7 h10
    exact hQ _ _ _

theorem dX12_hasLedger_0 : decode cX12_hasLedger 0 = .ok (.aload_n 0, 1) := by decide +kernel
theorem dX12_hasLedger_1 : decode cX12_hasLedger 1 = .ok (.iload_n 1, 1) := by decide +kernel
theorem dX12_hasLedger_2 : decode cX12_hasLedger 2 = .ok (.putfield 428, 3) := by decide +kernel
theorem dX12_hasLedger_5 : decode cX12_hasLedger 5 = .ok (.aload_n 0, 1) := by decide +kernel
theorem dX12_hasLedger_6 : decode cX12_hasLedger 6 = .ok (.iconst 2, 1) := by decide +kernel
theorem dX12_hasLedger_7 : decode cX12_hasLedger 7 = .ok (.iload_n 1, 1) := by decide +kernel
theorem dX12_hasLedger_8 : decode cX12_hasLedger 8 = .ok (.invokevirtual 287, 3) := by decide +kernel
theorem dX12_hasLedger_11 : decode cX12_hasLedger 11 = .ok (.ireturn, 1) := by decide +kernel
def is_X12_hasLedger : Nat → List Nat := fun d => []
set_option maxRecDepth 100000 in
def b_X12_hasLedger_0 (J : Nat → List qV → List qV → qW → Prop) (Q : qR) : qK := x_aload 0 (x_iload 1 (x_put 12 33 q_oki (x_nw (x_aload 0 (x_int 2 (x_iload 1 (x_callr (some 12) 3 spr_X12_is (x_zret Q))))))))
set_option maxRecDepth 100000 in
theorem s_X12_hasLedger_0 {p : Program} {l : Launch} {e : Env} {R : Room} {s : State} {m : MethodId} {args : Array Value} {below : List Frame} {meth : Method} {c : Code} {nW : Nat} {dC : Nat → ClassId} {dI : Nat → Nat → Nat} {k : Nat → ClassId} {g : Nat → Nat} {A : Nat → Prop} {J : Nat → List qV → List qV → qW → Prop} {Q : qR} (X : q_X p R s m args meth c cX12_hasLedger 2 nW 2 44 RX12 (some .boolean) dC dI k g A) (hJ : ∀ d : Nat, q_Sd p l e R s m args below meth c 2 nW dC dI k g A (MQ below (q_post (dC, dI) k g nW Q A) args s 0 0 A) d (x_cut (is_X12_hasLedger d) (J d))) : q_Sd p l e R s m args below meth c 2 nW dC dI k g A (MQ below (q_post (dC, dI) k g nW Q A) args s 0 0 A) 0 (b_X12_hasLedger_0 J Q) := by
  unfold b_X12_hasLedger_0
  refine s_aload_n X rfl dX12_hasLedger_0 ?_
  refine s_iload_n X rfl dX12_hasLedger_1 ?_
  refine s_put X (T := TX12) (C := RX12) (N := 45) tu_X12 tyX12_ok nmX12 rfl (by decide) tw_1030 rfl (by decide +kernel) q_oki_t dX12_hasLedger_2 ?_
  refine s_nw ?_
  refine s_aload_n X rfl dX12_hasLedger_5 ?_
  refine s_iconst X ⟨by decide, by decide⟩ dX12_hasLedger_6 ?_
  refine s_iload_n X rfl dX12_hasLedger_7 ?_
  refine s_callVr X (m_X12_is l) tw_1061 tw_1062 tw_1590 tw_134 tw_1063 rfl (by decide +kernel) ⟨by decide, by decide⟩ dX12_hasLedger_8 ?_
  exact s_zret X dX12_hasLedger_11

def sp_X12_hasLedger : qS := fun av w Q => ∃ (mco : Int) (mre : Int) (mle : Int) (mbe : Int) (mso : Int) (mva : Int) (mwo : Int) (mwr : Int) (mlf : Int) (mlp : Int) (mfp : Int) (mfd : Int) (mgo : Int) (mbo : Int) (mpe : Int) (mye : Int) (mpr : Int) (mld : Int) (msi : Int) (mse : Int) (mn : Nat → Int) (a : Int), av = [q2 0, q1 a] ∧ w = [.inr (12, [q1 mco, q2 2, q2 3, q2 4, q2 5, q2 1, q2 6, q2 7, q2 8, q2 9, q1 mre, q1 mle, q1 mbe, q1 mso, q1 mva, q3 mwo, q1 mwr, q1 mlf, q1 mlp, q2 10, q2 11, q1 mfp, q1 mfd, q1 mgo, q1 mbo, q1 mpe, q1 mye, q2 12, q1 mpr, q2 13, q2 14, q2 15, q2 16, q1 mld, q2 17, q1 msi, q2 18, q2 19, q2 20, q2 21, q2 22, q1 mse, q2 23, q2 24, q2 25]), .inl (0, 16, .inl mn)] ∧ (q_rg 0 2 mn) ∧ (∀ (r : Int) (x_mld : Int), (r = 1 ∧ (x_mld = a ∧ 0 ≤ a ∧ a ≤ 1) ∨ r = 0 ∧ x_mld = a) → Q (some (q1 r)) ([.inr (12, [q1 mco, q2 2, q2 3, q2 4, q2 5, q2 1, q2 6, q2 7, q2 8, q2 9, q1 mre, q1 mle, q1 mbe, q1 mso, q1 mva, q3 mwo, q1 mwr, q1 mlf, q1 mlp, q2 10, q2 11, q1 mfp, q1 mfd, q1 mgo, q1 mbo, q1 mpe, q1 mye, q2 12, q1 mpr, q2 13, q2 14, q2 15, q2 16, q1 x_mld, q2 17, q1 msi, q2 18, q2 19, q2 20, q2 21, q2 22, q1 mse, q2 23, q2 24, q2 25]), .inl (0, 16, .inl mn)]))
set_option maxHeartbeats 4000000 in
set_option maxRecDepth 100000 in
theorem m_X12_hasLedger (l : Launch) : q_M l yX12_hasLedger cX12_hasLedger 2 (some .boolean) 2 44 sp_X12_hasLedger := by
  refine q_meth (by decide) (fun av w Q h => by obtain ⟨mco, mre, mle, mbe, mso, mva, mwo, mwr, mlf, mlp, mfp, mfd, mgo, mbo, mpe, mye, mpr, mld, msi, mse, mn, a, rfl, rfl, hmn, hQ⟩ := h; exact Nat.le_of_ble_eq_true rfl) ?_
  intro p e R s m args below meth c dC dI k g A av w Q hsp oka okw X
  obtain ⟨mco, mre, mle, mbe, mso, mva, mwo, mwr, mlf, mlp, mfp, mfd, mgo, mbo, mpe, mye, mpr, mld, msi, mse, mn, a, rfl, rfl, hmn, hQ⟩ := hsp
  have o_a : -2147483648 ≤ a ∧ a ≤ 2147483647 := oka _ (List.mem_of_getElem? (i := 1) rfl)
  refine s_mono (s_X12_hasLedger_0 X (J := fun _ _ _ _ => False) (fun d => s_cutF)) ?_
  rintro lv st w' ⟨rfl, rfl, rfl⟩
  apply And.intro
  · exact trivial
  refine Exists.intro [0, 1, 2, 3, 4, 5, 6, 7, 8, 9, 10, 11, 12, 13, 14, 15, 16, 17, 18, 19, 20, 21, 22, 23, 24, 25] (Exists.intro [q2 0, q1 _, q1 _] (Exists.intro ([.inr (12, [q1 _, q2 2, q2 3, q2 4, q2 5, q2 1, q2 6, q2 7, q2 8, q2 9, q1 _, q1 _, q1 _, q1 _, q1 _, q3 _, q1 _, q1 _, q1 _, q2 10, q2 11, q1 _, q1 _, q1 _, q1 _, q1 _, q1 _, q2 12, q1 _, q2 13, q2 14, q2 15, q2 16, q1 _, q2 17, q1 _, q2 18, q2 19, q2 20, q2 21, q2 22, q1 _, q2 23, q2 24, q2 25]), .inl (0, 16, .inl _)]) (And.intro rfl (And.intro rfl (And.intro rfl (And.intro ⟨⟨_, rfl⟩, rfl⟩ ?_))))))
  refine Exists.intro _ (Exists.intro _ (Exists.intro _ (Exists.intro _ (Exists.intro _ (Exists.intro _ (Exists.intro _ (Exists.intro _ (Exists.intro _ (Exists.intro _ (Exists.intro _ (Exists.intro _ (Exists.intro _ (Exists.intro _ (Exists.intro _ (Exists.intro _ (Exists.intro _ (Exists.intro _ (Exists.intro _ (Exists.intro _ (Exists.intro _ (Exists.intro _ (Exists.intro _ (And.intro rfl (And.intro rfl (And.intro (by first | omega | assumption | exact q_rg_up (by assumption) (by omega) | exact q_rg_up (q_rg_up (by assumption) (by omega)) (by omega) | exact q_rg_cpy (by assumption) (by assumption)) (And.intro (by first | omega | assumption | exact q_rg_up (by assumption) (by omega) | exact q_rg_up (q_rg_up (by assumption) (by omega)) (by omega) | exact q_rg_cpy (by assumption) (by assumption)) (?_)))))))))))))))))))))))))))
  intro z8 h8
  apply And.intro
  · first | exact Or.inl rfl | exact Or.inr rfl | omega
  exact hQ _ _ (by first | omega | assumption | exact q_rg_up (by assumption) (by omega) | exact q_rg_up (q_rg_up (by assumption) (by omega)) (by omega) | exact q_rg_cpy (by assumption) (by assumption))

theorem dX12_hasSight_0 : decode cX12_hasSight 0 = .ok (.aload_n 0, 1) := by decide +kernel
theorem dX12_hasSight_1 : decode cX12_hasSight 1 = .ok (.iload_n 1, 1) := by decide +kernel
theorem dX12_hasSight_2 : decode cX12_hasSight 2 = .ok (.putfield 456, 3) := by decide +kernel
theorem dX12_hasSight_5 : decode cX12_hasSight 5 = .ok (.aload_n 0, 1) := by decide +kernel
theorem dX12_hasSight_6 : decode cX12_hasSight 6 = .ok (.iconst 3, 1) := by decide +kernel
theorem dX12_hasSight_7 : decode cX12_hasSight 7 = .ok (.iload_n 1, 1) := by decide +kernel
theorem dX12_hasSight_8 : decode cX12_hasSight 8 = .ok (.invokevirtual 287, 3) := by decide +kernel
theorem dX12_hasSight_11 : decode cX12_hasSight 11 = .ok (.ireturn, 1) := by decide +kernel
def is_X12_hasSight : Nat → List Nat := fun d => []
set_option maxRecDepth 100000 in
def b_X12_hasSight_0 (J : Nat → List qV → List qV → qW → Prop) (Q : qR) : qK := x_aload 0 (x_iload 1 (x_put 12 35 q_oki (x_nw (x_aload 0 (x_int 3 (x_iload 1 (x_callr (some 12) 3 spr_X12_is (x_zret Q))))))))
set_option maxRecDepth 100000 in
theorem s_X12_hasSight_0 {p : Program} {l : Launch} {e : Env} {R : Room} {s : State} {m : MethodId} {args : Array Value} {below : List Frame} {meth : Method} {c : Code} {nW : Nat} {dC : Nat → ClassId} {dI : Nat → Nat → Nat} {k : Nat → ClassId} {g : Nat → Nat} {A : Nat → Prop} {J : Nat → List qV → List qV → qW → Prop} {Q : qR} (X : q_X p R s m args meth c cX12_hasSight 2 nW 2 44 RX12 (some .boolean) dC dI k g A) (hJ : ∀ d : Nat, q_Sd p l e R s m args below meth c 2 nW dC dI k g A (MQ below (q_post (dC, dI) k g nW Q A) args s 0 0 A) d (x_cut (is_X12_hasSight d) (J d))) : q_Sd p l e R s m args below meth c 2 nW dC dI k g A (MQ below (q_post (dC, dI) k g nW Q A) args s 0 0 A) 0 (b_X12_hasSight_0 J Q) := by
  unfold b_X12_hasSight_0
  refine s_aload_n X rfl dX12_hasSight_0 ?_
  refine s_iload_n X rfl dX12_hasSight_1 ?_
  refine s_put X (T := TX12) (C := RX12) (N := 45) tu_X12 tyX12_ok nmX12 rfl (by decide) tw_1032 rfl (by decide +kernel) q_oki_t dX12_hasSight_2 ?_
  refine s_nw ?_
  refine s_aload_n X rfl dX12_hasSight_5 ?_
  refine s_iconst X ⟨by decide, by decide⟩ dX12_hasSight_6 ?_
  refine s_iload_n X rfl dX12_hasSight_7 ?_
  refine s_callVr X (m_X12_is l) tw_1061 tw_1062 tw_1590 tw_134 tw_1063 rfl (by decide +kernel) ⟨by decide, by decide⟩ dX12_hasSight_8 ?_
  exact s_zret X dX12_hasSight_11

def sp_X12_hasSight : qS := fun av w Q => ∃ (mco : Int) (mre : Int) (mle : Int) (mbe : Int) (mso : Int) (mva : Int) (mwo : Int) (mwr : Int) (mlf : Int) (mlp : Int) (mfp : Int) (mfd : Int) (mgo : Int) (mbo : Int) (mpe : Int) (mye : Int) (mpr : Int) (mld : Int) (msi : Int) (mse : Int) (mn : Nat → Int) (a : Int), av = [q2 0, q1 a] ∧ w = [.inr (12, [q1 mco, q2 2, q2 3, q2 4, q2 5, q2 1, q2 6, q2 7, q2 8, q2 9, q1 mre, q1 mle, q1 mbe, q1 mso, q1 mva, q3 mwo, q1 mwr, q1 mlf, q1 mlp, q2 10, q2 11, q1 mfp, q1 mfd, q1 mgo, q1 mbo, q1 mpe, q1 mye, q2 12, q1 mpr, q2 13, q2 14, q2 15, q2 16, q1 mld, q2 17, q1 msi, q2 18, q2 19, q2 20, q2 21, q2 22, q1 mse, q2 23, q2 24, q2 25]), .inl (0, 16, .inl mn)] ∧ (q_rg 0 2 mn) ∧ (∀ (r : Int) (x_msi : Int), (r = 1 ∧ (x_msi = a ∧ 0 ≤ a ∧ a ≤ 1) ∨ r = 0 ∧ x_msi = a) → Q (some (q1 r)) ([.inr (12, [q1 mco, q2 2, q2 3, q2 4, q2 5, q2 1, q2 6, q2 7, q2 8, q2 9, q1 mre, q1 mle, q1 mbe, q1 mso, q1 mva, q3 mwo, q1 mwr, q1 mlf, q1 mlp, q2 10, q2 11, q1 mfp, q1 mfd, q1 mgo, q1 mbo, q1 mpe, q1 mye, q2 12, q1 mpr, q2 13, q2 14, q2 15, q2 16, q1 mld, q2 17, q1 x_msi, q2 18, q2 19, q2 20, q2 21, q2 22, q1 mse, q2 23, q2 24, q2 25]), .inl (0, 16, .inl mn)]))
set_option maxHeartbeats 4000000 in
set_option maxRecDepth 100000 in
theorem m_X12_hasSight (l : Launch) : q_M l yX12_hasSight cX12_hasSight 2 (some .boolean) 2 44 sp_X12_hasSight := by
  refine q_meth (by decide) (fun av w Q h => by obtain ⟨mco, mre, mle, mbe, mso, mva, mwo, mwr, mlf, mlp, mfp, mfd, mgo, mbo, mpe, mye, mpr, mld, msi, mse, mn, a, rfl, rfl, hmn, hQ⟩ := h; exact Nat.le_of_ble_eq_true rfl) ?_
  intro p e R s m args below meth c dC dI k g A av w Q hsp oka okw X
  obtain ⟨mco, mre, mle, mbe, mso, mva, mwo, mwr, mlf, mlp, mfp, mfd, mgo, mbo, mpe, mye, mpr, mld, msi, mse, mn, a, rfl, rfl, hmn, hQ⟩ := hsp
  have o_a : -2147483648 ≤ a ∧ a ≤ 2147483647 := oka _ (List.mem_of_getElem? (i := 1) rfl)
  refine s_mono (s_X12_hasSight_0 X (J := fun _ _ _ _ => False) (fun d => s_cutF)) ?_
  rintro lv st w' ⟨rfl, rfl, rfl⟩
  apply And.intro
  · exact trivial
  refine Exists.intro [0, 1, 2, 3, 4, 5, 6, 7, 8, 9, 10, 11, 12, 13, 14, 15, 16, 17, 18, 19, 20, 21, 22, 23, 24, 25] (Exists.intro [q2 0, q1 _, q1 _] (Exists.intro ([.inr (12, [q1 _, q2 2, q2 3, q2 4, q2 5, q2 1, q2 6, q2 7, q2 8, q2 9, q1 _, q1 _, q1 _, q1 _, q1 _, q3 _, q1 _, q1 _, q1 _, q2 10, q2 11, q1 _, q1 _, q1 _, q1 _, q1 _, q1 _, q2 12, q1 _, q2 13, q2 14, q2 15, q2 16, q1 _, q2 17, q1 _, q2 18, q2 19, q2 20, q2 21, q2 22, q1 _, q2 23, q2 24, q2 25]), .inl (0, 16, .inl _)]) (And.intro rfl (And.intro rfl (And.intro rfl (And.intro ⟨⟨_, rfl⟩, rfl⟩ ?_))))))
  refine Exists.intro _ (Exists.intro _ (Exists.intro _ (Exists.intro _ (Exists.intro _ (Exists.intro _ (Exists.intro _ (Exists.intro _ (Exists.intro _ (Exists.intro _ (Exists.intro _ (Exists.intro _ (Exists.intro _ (Exists.intro _ (Exists.intro _ (Exists.intro _ (Exists.intro _ (Exists.intro _ (Exists.intro _ (Exists.intro _ (Exists.intro _ (Exists.intro _ (Exists.intro _ (And.intro rfl (And.intro rfl (And.intro (by first | omega | assumption | exact q_rg_up (by assumption) (by omega) | exact q_rg_up (q_rg_up (by assumption) (by omega)) (by omega) | exact q_rg_cpy (by assumption) (by assumption)) (And.intro (by first | omega | assumption | exact q_rg_up (by assumption) (by omega) | exact q_rg_up (q_rg_up (by assumption) (by omega)) (by omega) | exact q_rg_cpy (by assumption) (by assumption)) (?_)))))))))))))))))))))))))))
  intro z8 h8
  apply And.intro
  · first | exact Or.inl rfl | exact Or.inr rfl | omega
  exact hQ _ _ (by first | omega | assumption | exact q_rg_up (by assumption) (by omega) | exact q_rg_up (q_rg_up (by assumption) (by omega)) (by omega) | exact q_rg_cpy (by assumption) (by assumption))

theorem dX12_facts_0 : decode cX12_facts 0 = .ok (.aload_n 0, 1) := by decide +kernel
theorem dX12_facts_1 : decode cX12_facts 1 = .ok (.getfield 35, 3) := by decide +kernel
theorem dX12_facts_4 : decode cX12_facts 4 = .ok (.bipush 21, 2) := by decide +kernel
theorem dX12_facts_6 : decode cX12_facts 6 = .ok (.aload_n 0, 1) := by decide +kernel
theorem dX12_facts_7 : decode cX12_facts 7 = .ok (.getfield 456, 3) := by decide +kernel
theorem dX12_facts_10 : decode cX12_facts 10 = .ok (.imul, 1) := by decide +kernel
theorem dX12_facts_11 : decode cX12_facts 11 = .ok (.iaload, 1) := by decide +kernel
theorem dX12_facts_12 : decode cX12_facts 12 = .ok (.ireturn, 1) := by decide +kernel
def is_X12_facts : Nat → List Nat := fun d => []
set_option maxRecDepth 100000 in
def b_X12_facts_0 (J : Nat → List qV → List qV → qW → Prop) (Q : qR) : qK := x_aload 0 (x_get 12 9 (x_int 21 (x_aload 0 (x_get 12 35 (x_imul (x_iald (x_iret Q)))))))
set_option maxRecDepth 100000 in
theorem s_X12_facts_0 {p : Program} {l : Launch} {e : Env} {R : Room} {s : State} {m : MethodId} {args : Array Value} {below : List Frame} {meth : Method} {c : Code} {nW : Nat} {dC : Nat → ClassId} {dI : Nat → Nat → Nat} {k : Nat → ClassId} {g : Nat → Nat} {A : Nat → Prop} {J : Nat → List qV → List qV → qW → Prop} {Q : qR} (X : q_X p R s m args meth c cX12_facts 1 nW 0 0 RX12 (some .int) dC dI k g A) (hJ : ∀ d : Nat, q_Sd p l e R s m args below meth c 1 nW dC dI k g A (MQ below (q_post (dC, dI) k g nW Q A) args s 0 0 A) d (x_cut (is_X12_facts d) (J d))) : q_Sd p l e R s m args below meth c 1 nW dC dI k g A (MQ below (q_post (dC, dI) k g nW Q A) args s 0 0 A) 0 (b_X12_facts_0 J Q) := by
  unfold b_X12_facts_0
  refine s_aload_n X rfl dX12_facts_0 ?_
  refine s_get X (T := TX12) (C := RX12) (N := 45) tu_X12 rfl (by decide) tw_1006 dX12_facts_1 ?_
  refine s_bipush X ⟨by decide, by decide⟩ (by decide) dX12_facts_4 ?_
  refine s_aload_n X rfl dX12_facts_6 ?_
  refine s_get X (T := TX12) (C := RX12) (N := 45) tu_X12 rfl (by decide) tw_1032 dX12_facts_7 ?_
  refine s_imul X dX12_facts_10 ?_
  refine s_iald X dX12_facts_11 ?_
  exact s_iret X dX12_facts_12

def spr_X12_facts : List qV → qW → (Option qV → Prop) → Prop := fun av w Q => ∃ (mco : Int) (mre : Int) (mle : Int) (mbe : Int) (mso : Int) (mva : Int) (mwo : Int) (mwr : Int) (mlf : Int) (mlp : Int) (mfp : Int) (mfd : Int) (mgo : Int) (mbo : Int) (mpe : Int) (mye : Int) (mpr : Int) (mld : Int) (msi : Int) (mse : Int) (ss : Nat → Int), av = [q2 0] ∧ w = [.inr (12, [q1 mco, q2 2, q2 3, q2 4, q2 5, q2 6, q2 7, q2 8, q2 9, q2 1, q1 mre, q1 mle, q1 mbe, q1 mso, q1 mva, q3 mwo, q1 mwr, q1 mlf, q1 mlp, q2 10, q2 11, q1 mfp, q1 mfd, q1 mgo, q1 mbo, q1 mpe, q1 mye, q2 12, q1 mpr, q2 13, q2 14, q2 15, q2 16, q1 mld, q2 17, q1 msi, q2 18, q2 19, q2 20, q2 21, q2 22, q1 mse, q2 23, q2 24, q2 25]), .inl (0, 168, .inl ss)] ∧ (SI ss) ∧ (0 ≤ msi ∧ msi ≤ 1) ∧ (∀ (r : Int) , (0 ≤ r ∧ r ≤ 10) → Q (some (q1 r)))
def sp_X12_facts : qS := fun av w Q => spr_X12_facts av w (fun r => Q r w)
set_option maxHeartbeats 4000000 in
set_option maxRecDepth 100000 in
theorem m_X12_facts (l : Launch) : q_M l yX12_facts cX12_facts 1 (some .int) 0 0 sp_X12_facts := by
  refine q_meth (by decide) (fun av w Q h => by obtain ⟨mco, mre, mle, mbe, mso, mva, mwo, mwr, mlf, mlp, mfp, mfd, mgo, mbo, mpe, mye, mpr, mld, msi, mse, ss, rfl, rfl, hsi, hsg, hQ⟩ := h; exact Nat.le_of_ble_eq_true rfl) ?_
  intro p e R s m args below meth c dC dI k g A av w Q hsp oka okw X
  obtain ⟨mco, mre, mle, mbe, mso, mva, mwo, mwr, mlf, mlp, mfp, mfd, mgo, mbo, mpe, mye, mpr, mld, msi, mse, ss, rfl, rfl, hsi, hsg, hQ⟩ := hsp
  refine s_mono (s_X12_facts_0 X (J := fun _ _ _ _ => False) (fun d => s_cutF)) ?_
  rintro lv st w' ⟨rfl, rfl, rfl⟩
  intro z10 h10
  first | replace h10 := e_mul h10 (by omega) | replace h10 := e_rng h10
  apply And.intro
  · exact ⟨by omega, by omega⟩
  intro z11 h11
  exact hQ _ (SI_0 hsi hsg h11 (by omega))

theorem dX12_factOf_0 : decode cX12_factOf 0 = .ok (.aload_n 0, 1) := by decide +kernel
theorem dX12_factOf_1 : decode cX12_factOf 1 = .ok (.getfield 35, 3) := by decide +kernel
theorem dX12_factOf_4 : decode cX12_factOf 4 = .ok (.bipush 21, 2) := by decide +kernel
theorem dX12_factOf_6 : decode cX12_factOf 6 = .ok (.aload_n 0, 1) := by decide +kernel
theorem dX12_factOf_7 : decode cX12_factOf 7 = .ok (.getfield 456, 3) := by decide +kernel
theorem dX12_factOf_10 : decode cX12_factOf 10 = .ok (.imul, 1) := by decide +kernel
theorem dX12_factOf_11 : decode cX12_factOf 11 = .ok (.iconst 1, 1) := by decide +kernel
theorem dX12_factOf_12 : decode cX12_factOf 12 = .ok (.iadd, 1) := by decide +kernel
theorem dX12_factOf_13 : decode cX12_factOf 13 = .ok (.iconst 2, 1) := by decide +kernel
theorem dX12_factOf_14 : decode cX12_factOf 14 = .ok (.iload_n 1, 1) := by decide +kernel
theorem dX12_factOf_15 : decode cX12_factOf 15 = .ok (.imul, 1) := by decide +kernel
theorem dX12_factOf_16 : decode cX12_factOf 16 = .ok (.iadd, 1) := by decide +kernel
theorem dX12_factOf_17 : decode cX12_factOf 17 = .ok (.iload_n 2, 1) := by decide +kernel
theorem dX12_factOf_18 : decode cX12_factOf 18 = .ok (.iadd, 1) := by decide +kernel
theorem dX12_factOf_19 : decode cX12_factOf 19 = .ok (.iaload, 1) := by decide +kernel
theorem dX12_factOf_20 : decode cX12_factOf 20 = .ok (.ireturn, 1) := by decide +kernel
def is_X12_factOf : Nat → List Nat := fun d => []
set_option maxRecDepth 100000 in
def b_X12_factOf_0 (J : Nat → List qV → List qV → qW → Prop) (Q : qR) : qK := x_aload 0 (x_get 12 9 (x_int 21 (x_aload 0 (x_get 12 35 (x_imul (x_int 1 (x_iadd (x_int 2 (x_iload 1 (x_imul (x_iadd (x_iload 2 (x_iadd (x_iald (x_iret Q)))))))))))))))
set_option maxRecDepth 100000 in
theorem s_X12_factOf_0 {p : Program} {l : Launch} {e : Env} {R : Room} {s : State} {m : MethodId} {args : Array Value} {below : List Frame} {meth : Method} {c : Code} {nW : Nat} {dC : Nat → ClassId} {dI : Nat → Nat → Nat} {k : Nat → ClassId} {g : Nat → Nat} {A : Nat → Prop} {J : Nat → List qV → List qV → qW → Prop} {Q : qR} (X : q_X p R s m args meth c cX12_factOf 3 nW 0 0 RX12 (some .int) dC dI k g A) (hJ : ∀ d : Nat, q_Sd p l e R s m args below meth c 3 nW dC dI k g A (MQ below (q_post (dC, dI) k g nW Q A) args s 0 0 A) d (x_cut (is_X12_factOf d) (J d))) : q_Sd p l e R s m args below meth c 3 nW dC dI k g A (MQ below (q_post (dC, dI) k g nW Q A) args s 0 0 A) 0 (b_X12_factOf_0 J Q) := by
  unfold b_X12_factOf_0
  refine s_aload_n X rfl dX12_factOf_0 ?_
  refine s_get X (T := TX12) (C := RX12) (N := 45) tu_X12 rfl (by decide) tw_1006 dX12_factOf_1 ?_
  refine s_bipush X ⟨by decide, by decide⟩ (by decide) dX12_factOf_4 ?_
  refine s_aload_n X rfl dX12_factOf_6 ?_
  refine s_get X (T := TX12) (C := RX12) (N := 45) tu_X12 rfl (by decide) tw_1032 dX12_factOf_7 ?_
  refine s_imul X dX12_factOf_10 ?_
  refine s_iconst X ⟨by decide, by decide⟩ dX12_factOf_11 ?_
  refine s_iadd X dX12_factOf_12 ?_
  refine s_iconst X ⟨by decide, by decide⟩ dX12_factOf_13 ?_
  refine s_iload_n X rfl dX12_factOf_14 ?_
  refine s_imul X dX12_factOf_15 ?_
  refine s_iadd X dX12_factOf_16 ?_
  refine s_iload_n X rfl dX12_factOf_17 ?_
  refine s_iadd X dX12_factOf_18 ?_
  refine s_iald X dX12_factOf_19 ?_
  exact s_iret X dX12_factOf_20

def spr_X12_factOf : List qV → qW → (Option qV → Prop) → Prop := fun av w Q => ∃ (mco : Int) (mre : Int) (mle : Int) (mbe : Int) (mso : Int) (mva : Int) (mwo : Int) (mwr : Int) (mlf : Int) (mlp : Int) (mfp : Int) (mfd : Int) (mgo : Int) (mbo : Int) (mpe : Int) (mye : Int) (mpr : Int) (mld : Int) (msi : Int) (mse : Int) (ss : Nat → Int) (a : Int) (b : Int), av = [q2 0, q1 a, q1 b] ∧ w = [.inr (12, [q1 mco, q2 2, q2 3, q2 4, q2 5, q2 6, q2 7, q2 8, q2 9, q2 1, q1 mre, q1 mle, q1 mbe, q1 mso, q1 mva, q3 mwo, q1 mwr, q1 mlf, q1 mlp, q2 10, q2 11, q1 mfp, q1 mfd, q1 mgo, q1 mbo, q1 mpe, q1 mye, q2 12, q1 mpr, q2 13, q2 14, q2 15, q2 16, q1 mld, q2 17, q1 msi, q2 18, q2 19, q2 20, q2 21, q2 22, q1 mse, q2 23, q2 24, q2 25]), .inl (0, 168, .inl ss)] ∧ (0 ≤ msi ∧ msi ≤ 1) ∧ (0 ≤ a ∧ a ≤ 9 ∧ 0 ≤ b ∧ b ≤ 1) ∧ (∀ (r : Int) , Q (some (q1 r)))
def sp_X12_factOf : qS := fun av w Q => spr_X12_factOf av w (fun r => Q r w)
set_option maxHeartbeats 4000000 in
set_option maxRecDepth 100000 in
theorem m_X12_factOf (l : Launch) : q_M l yX12_factOf cX12_factOf 3 (some .int) 0 0 sp_X12_factOf := by
  refine q_meth (by decide) (fun av w Q h => by obtain ⟨mco, mre, mle, mbe, mso, mva, mwo, mwr, mlf, mlp, mfp, mfd, mgo, mbo, mpe, mye, mpr, mld, msi, mse, ss, a, b, rfl, rfl, hsg, ha, hQ⟩ := h; exact Nat.le_of_ble_eq_true rfl) ?_
  intro p e R s m args below meth c dC dI k g A av w Q hsp oka okw X
  obtain ⟨mco, mre, mle, mbe, mso, mva, mwo, mwr, mlf, mlp, mfp, mfd, mgo, mbo, mpe, mye, mpr, mld, msi, mse, ss, a, b, rfl, rfl, hsg, ha, hQ⟩ := hsp
  have o_a : -2147483648 ≤ a ∧ a ≤ 2147483647 := oka _ (List.mem_of_getElem? (i := 1) rfl)
  have o_b : -2147483648 ≤ b ∧ b ≤ 2147483647 := oka _ (List.mem_of_getElem? (i := 2) rfl)
  refine s_mono (s_X12_factOf_0 X (J := fun _ _ _ _ => False) (fun d => s_cutF)) ?_
  rintro lv st w' ⟨rfl, rfl, rfl⟩
  intro z10 h10
  first | replace h10 := e_mul h10 (by omega) | replace h10 := e_rng h10
  intro z12 h12
  first | replace h12 := e_add h12 (by omega) | replace h12 := e_rng h12
  intro z15 h15
  first | replace h15 := e_mul h15 (by omega) | replace h15 := e_rng h15
  intro z16 h16
  first | replace h16 := e_add h16 (by omega) | replace h16 := e_rng h16
  intro z18 h18
  first | replace h18 := e_add h18 (by omega) | replace h18 := e_rng h18
  apply And.intro
  · exact ⟨by omega, by omega⟩
  intro z19 h19
  exact hQ _

theorem dX12_fact_0 : decode cX12_fact 0 = .ok (.aload_n 0, 1) := by decide +kernel
theorem dX12_fact_1 : decode cX12_fact 1 = .ok (.iconst 0, 1) := by decide +kernel
theorem dX12_fact_2 : decode cX12_fact 2 = .ok (.putfield 88, 3) := by decide +kernel
theorem dX12_fact_5 : decode cX12_fact 5 = .ok (.aload_n 0, 1) := by decide +kernel
theorem dX12_fact_6 : decode cX12_fact 6 = .ok (.iload_n 1, 1) := by decide +kernel
theorem dX12_fact_7 : decode cX12_fact 7 = .ok (.invokevirtual 459, 3) := by decide +kernel
theorem dX12_fact_10 : decode cX12_fact 10 = .ok (.ifCond .ne 6, 3) := by decide +kernel
theorem dX12_fact_13 : decode cX12_fact 13 = .ok (.bipush (-2), 2) := by decide +kernel
theorem dX12_fact_15 : decode cX12_fact 15 = .ok (.ireturn, 1) := by decide +kernel
theorem dX12_fact_16 : decode cX12_fact 16 = .ok (.iload_n 2, 1) := by decide +kernel
theorem dX12_fact_17 : decode cX12_fact 17 = .ok (.iconst (-1), 1) := by decide +kernel
theorem dX12_fact_18 : decode cX12_fact 18 = .ok (.if_icmp .ne 17, 3) := by decide +kernel
theorem dX12_fact_21 : decode cX12_fact 21 = .ok (.iload_n 3, 1) := by decide +kernel
theorem dX12_fact_22 : decode cX12_fact 22 = .ok (.ifCond .ne 10, 3) := by decide +kernel
theorem dX12_fact_25 : decode cX12_fact 25 = .ok (.aload_n 0, 1) := by decide +kernel
theorem dX12_fact_26 : decode cX12_fact 26 = .ok (.invokevirtual 462, 3) := by decide +kernel
theorem dX12_fact_29 : decode cX12_fact 29 = .ok (.goto 5, 3) := by decide +kernel
theorem dX12_fact_32 : decode cX12_fact 32 = .ok (.bipush (-2), 2) := by decide +kernel
theorem dX12_fact_34 : decode cX12_fact 34 = .ok (.ireturn, 1) := by decide +kernel
theorem dX12_fact_35 : decode cX12_fact 35 = .ok (.iload_n 2, 1) := by decide +kernel
theorem dX12_fact_36 : decode cX12_fact 36 = .ok (.iconst 0, 1) := by decide +kernel
theorem dX12_fact_37 : decode cX12_fact 37 = .ok (.aload_n 0, 1) := by decide +kernel
theorem dX12_fact_38 : decode cX12_fact 38 = .ok (.invokevirtual 462, 3) := by decide +kernel
theorem dX12_fact_41 : decode cX12_fact 41 = .ok (.iconst 1, 1) := by decide +kernel
theorem dX12_fact_42 : decode cX12_fact 42 = .ok (.isub, 1) := by decide +kernel
theorem dX12_fact_43 : decode cX12_fact 43 = .ok (.invokestatic 100, 3) := by decide +kernel
theorem dX12_fact_46 : decode cX12_fact 46 = .ok (.ifCond .eq 21, 3) := by decide +kernel
theorem dX12_fact_49 : decode cX12_fact 49 = .ok (.iload_n 3, 1) := by decide +kernel
theorem dX12_fact_50 : decode cX12_fact 50 = .ok (.iconst 0, 1) := by decide +kernel
theorem dX12_fact_51 : decode cX12_fact 51 = .ok (.iconst 1, 1) := by decide +kernel
theorem dX12_fact_52 : decode cX12_fact 52 = .ok (.invokestatic 100, 3) := by decide +kernel
theorem dX12_fact_55 : decode cX12_fact 55 = .ok (.ifCond .eq 12, 3) := by decide +kernel
theorem dX12_fact_58 : decode cX12_fact 58 = .ok (.aload_n 0, 1) := by decide +kernel
theorem dX12_fact_59 : decode cX12_fact 59 = .ok (.iload_n 2, 1) := by decide +kernel
theorem dX12_fact_60 : decode cX12_fact 60 = .ok (.iload_n 3, 1) := by decide +kernel
theorem dX12_fact_61 : decode cX12_fact 61 = .ok (.invokevirtual 465, 3) := by decide +kernel
theorem dX12_fact_64 : decode cX12_fact 64 = .ok (.goto 5, 3) := by decide +kernel
theorem dX12_fact_67 : decode cX12_fact 67 = .ok (.bipush (-2), 2) := by decide +kernel
theorem dX12_fact_69 : decode cX12_fact 69 = .ok (.ireturn, 1) := by decide +kernel
def is_X12_fact : Nat → List Nat := fun d => []
set_option maxRecDepth 100000 in
def b_X12_fact_69 (J : Nat → List qV → List qV → qW → Prop) (Q : qR) : qK := x_iret Q
set_option maxRecDepth 100000 in
theorem s_X12_fact_69 {p : Program} {l : Launch} {e : Env} {R : Room} {s : State} {m : MethodId} {args : Array Value} {below : List Frame} {meth : Method} {c : Code} {nW : Nat} {dC : Nat → ClassId} {dI : Nat → Nat → Nat} {k : Nat → ClassId} {g : Nat → Nat} {A : Nat → Prop} {J : Nat → List qV → List qV → qW → Prop} {Q : qR} (X : q_X p R s m args meth c cX12_fact 4 nW 3 65 RX12 (some .int) dC dI k g A) (hJ : ∀ d : Nat, q_Sd p l e R s m args below meth c 4 nW dC dI k g A (MQ below (q_post (dC, dI) k g nW Q A) args s 0 0 A) d (x_cut (is_X12_fact d) (J d))) : q_Sd p l e R s m args below meth c 4 nW dC dI k g A (MQ below (q_post (dC, dI) k g nW Q A) args s 0 0 A) 69 (b_X12_fact_69 J Q) := by
  unfold b_X12_fact_69
  exact s_iret X dX12_fact_69
set_option maxRecDepth 100000 in
def b_X12_fact_67 (J : Nat → List qV → List qV → qW → Prop) (Q : qR) : qK := x_int (-2) (b_X12_fact_69 J Q)
set_option maxRecDepth 100000 in
theorem s_X12_fact_67 {p : Program} {l : Launch} {e : Env} {R : Room} {s : State} {m : MethodId} {args : Array Value} {below : List Frame} {meth : Method} {c : Code} {nW : Nat} {dC : Nat → ClassId} {dI : Nat → Nat → Nat} {k : Nat → ClassId} {g : Nat → Nat} {A : Nat → Prop} {J : Nat → List qV → List qV → qW → Prop} {Q : qR} (X : q_X p R s m args meth c cX12_fact 4 nW 3 65 RX12 (some .int) dC dI k g A) (hJ : ∀ d : Nat, q_Sd p l e R s m args below meth c 4 nW dC dI k g A (MQ below (q_post (dC, dI) k g nW Q A) args s 0 0 A) d (x_cut (is_X12_fact d) (J d))) : q_Sd p l e R s m args below meth c 4 nW dC dI k g A (MQ below (q_post (dC, dI) k g nW Q A) args s 0 0 A) 67 (b_X12_fact_67 J Q) := by
  unfold b_X12_fact_67
  refine s_bipush X ⟨by decide, by decide⟩ (by decide) dX12_fact_67 ?_
  exact s_X12_fact_69 X hJ
set_option maxRecDepth 100000 in
def b_X12_fact_34 (J : Nat → List qV → List qV → qW → Prop) (Q : qR) : qK := x_iret Q
set_option maxRecDepth 100000 in
theorem s_X12_fact_34 {p : Program} {l : Launch} {e : Env} {R : Room} {s : State} {m : MethodId} {args : Array Value} {below : List Frame} {meth : Method} {c : Code} {nW : Nat} {dC : Nat → ClassId} {dI : Nat → Nat → Nat} {k : Nat → ClassId} {g : Nat → Nat} {A : Nat → Prop} {J : Nat → List qV → List qV → qW → Prop} {Q : qR} (X : q_X p R s m args meth c cX12_fact 4 nW 3 65 RX12 (some .int) dC dI k g A) (hJ : ∀ d : Nat, q_Sd p l e R s m args below meth c 4 nW dC dI k g A (MQ below (q_post (dC, dI) k g nW Q A) args s 0 0 A) d (x_cut (is_X12_fact d) (J d))) : q_Sd p l e R s m args below meth c 4 nW dC dI k g A (MQ below (q_post (dC, dI) k g nW Q A) args s 0 0 A) 34 (b_X12_fact_34 J Q) := by
  unfold b_X12_fact_34
  exact s_iret X dX12_fact_34
set_option maxRecDepth 100000 in
def b_X12_fact_0 (J : Nat → List qV → List qV → qW → Prop) (Q : qR) : qK := x_aload 0 (x_int 0 (x_put 12 0 q_oki (x_nw (x_aload 0 (x_iload 1 (x_call (some 12) 2 sp_X12_hasSight (x_nw (x_if_ne (x_iload 2 (x_int (-1) (x_icmp_ne (x_iload 2 (x_int 0 (x_aload 0 (x_callr (some 12) 1 spr_X12_facts (x_int 1 (x_isub (x_callr none 3 spr_X12_in (x_if_eq (b_X12_fact_67 J Q) (x_iload 3 (x_int 0 (x_int 1 (x_callr none 3 spr_X12_in (x_if_eq (b_X12_fact_67 J Q) (x_aload 0 (x_iload 2 (x_iload 3 (x_callr (some 12) 3 spr_X12_factOf (b_X12_fact_69 J Q)))))))))))))))))) (x_iload 3 (x_if_ne (x_int (-2) (b_X12_fact_34 J Q)) (x_aload 0 (x_callr (some 12) 1 spr_X12_facts (b_X12_fact_34 J Q)))))))) (x_int (-2) (x_iret Q))))))))))
set_option maxRecDepth 100000 in
theorem s_X12_fact_0 {p : Program} {l : Launch} {e : Env} {R : Room} {s : State} {m : MethodId} {args : Array Value} {below : List Frame} {meth : Method} {c : Code} {nW : Nat} {dC : Nat → ClassId} {dI : Nat → Nat → Nat} {k : Nat → ClassId} {g : Nat → Nat} {A : Nat → Prop} {J : Nat → List qV → List qV → qW → Prop} {Q : qR} (X : q_X p R s m args meth c cX12_fact 4 nW 3 65 RX12 (some .int) dC dI k g A) (hJ : ∀ d : Nat, q_Sd p l e R s m args below meth c 4 nW dC dI k g A (MQ below (q_post (dC, dI) k g nW Q A) args s 0 0 A) d (x_cut (is_X12_fact d) (J d))) : q_Sd p l e R s m args below meth c 4 nW dC dI k g A (MQ below (q_post (dC, dI) k g nW Q A) args s 0 0 A) 0 (b_X12_fact_0 J Q) := by
  unfold b_X12_fact_0
  refine s_aload_n X rfl dX12_fact_0 ?_
  refine s_iconst X ⟨by decide, by decide⟩ dX12_fact_1 ?_
  refine s_put X (T := TX12) (C := RX12) (N := 45) tu_X12 tyX12_ok nmX12 rfl (by decide) tw_997 rfl (by decide +kernel) q_oki_t dX12_fact_2 ?_
  refine s_nw ?_
  refine s_aload_n X rfl dX12_fact_5 ?_
  refine s_iload_n X rfl dX12_fact_6 ?_
  refine s_callV X (m_X12_hasSight l) tw_1375 tw_1376 tw_1588 tw_134 tw_1377 rfl (by decide +kernel) ⟨by decide, by decide⟩ dX12_fact_7 ?_
  refine s_nw ?_
  refine s_if_ne X (tgt := 16) dX12_fact_10 (by decide) ?_ ?_
  · refine s_iload_n X rfl dX12_fact_16 ?_
    refine s_iconst X ⟨by decide, by decide⟩ dX12_fact_17 ?_
    refine s_icmp_ne X (tgt := 35) dX12_fact_18 (by decide) ?_ ?_
    · refine s_iload_n X rfl dX12_fact_35 ?_
      refine s_iconst X ⟨by decide, by decide⟩ dX12_fact_36 ?_
      refine s_aload_n X rfl dX12_fact_37 ?_
      refine s_callVr X (m_X12_facts l) tw_1378 tw_1379 tw_1567 tw_134 tw_1380 rfl (by decide +kernel) ⟨by decide, by decide⟩ dX12_fact_38 ?_
      refine s_iconst X ⟨by decide, by decide⟩ dX12_fact_41 ?_
      refine s_isub X dX12_fact_42 ?_
      refine s_callSr X (m_X12_in l) tw_1054 tw_1055 tw_134 tw_1056 (by decide +kernel) ⟨by decide, by decide⟩ dX12_fact_43 ?_
      refine s_if_eq X (tgt := 67) dX12_fact_46 (by decide) ?_ ?_
      · exact s_X12_fact_67 X hJ
      · refine s_iload_n X rfl dX12_fact_49 ?_
        refine s_iconst X ⟨by decide, by decide⟩ dX12_fact_50 ?_
        refine s_iconst X ⟨by decide, by decide⟩ dX12_fact_51 ?_
        refine s_callSr X (m_X12_in l) tw_1054 tw_1055 tw_134 tw_1056 (by decide +kernel) ⟨by decide, by decide⟩ dX12_fact_52 ?_
        refine s_if_eq X (tgt := 67) dX12_fact_55 (by decide) ?_ ?_
        · exact s_X12_fact_67 X hJ
        · refine s_aload_n X rfl dX12_fact_58 ?_
          refine s_iload_n X rfl dX12_fact_59 ?_
          refine s_iload_n X rfl dX12_fact_60 ?_
          refine s_callVr X (m_X12_factOf l) tw_1381 tw_1382 tw_1566 tw_134 tw_1383 rfl (by decide +kernel) ⟨by decide, by decide⟩ dX12_fact_61 ?_
          refine s_goto X (tgt := 69) dX12_fact_64 (by decide) ?_
          exact s_X12_fact_69 X hJ
    · refine s_iload_n X rfl dX12_fact_21 ?_
      refine s_if_ne X (tgt := 32) dX12_fact_22 (by decide) ?_ ?_
      · refine s_bipush X ⟨by decide, by decide⟩ (by decide) dX12_fact_32 ?_
        exact s_X12_fact_34 X hJ
      · refine s_aload_n X rfl dX12_fact_25 ?_
        refine s_callVr X (m_X12_facts l) tw_1378 tw_1379 tw_1567 tw_134 tw_1380 rfl (by decide +kernel) ⟨by decide, by decide⟩ dX12_fact_26 ?_
        refine s_goto X (tgt := 34) dX12_fact_29 (by decide) ?_
        exact s_X12_fact_34 X hJ
  · refine s_bipush X ⟨by decide, by decide⟩ (by decide) dX12_fact_13 ?_
    exact s_iret X dX12_fact_15

def sp_X12_fact : qS := fun av w Q => ∃ (mco : Int) (mre : Int) (mle : Int) (mbe : Int) (mso : Int) (mva : Int) (mwo : Int) (mwr : Int) (mlf : Int) (mlp : Int) (mfp : Int) (mfd : Int) (mgo : Int) (mbo : Int) (mpe : Int) (mye : Int) (mpr : Int) (mld : Int) (msi : Int) (mse : Int) (mn : Nat → Int) (ss : Nat → Int) (a : Int) (b : Int) (cc : Int), av = [q2 0, q1 a, q1 b, q1 cc] ∧ w = [.inr (12, [q1 mco, q2 3, q2 4, q2 5, q2 6, q2 1, q2 7, q2 8, q2 9, q2 2, q1 mre, q1 mle, q1 mbe, q1 mso, q1 mva, q3 mwo, q1 mwr, q1 mlf, q1 mlp, q2 10, q2 11, q1 mfp, q1 mfd, q1 mgo, q1 mbo, q1 mpe, q1 mye, q2 12, q1 mpr, q2 13, q2 14, q2 15, q2 16, q1 mld, q2 17, q1 msi, q2 18, q2 19, q2 20, q2 21, q2 22, q1 mse, q2 23, q2 24, q2 25]), .inl (0, 16, .inl mn), .inl (0, 168, .inl ss)] ∧ (q_rg 0 2 mn) ∧ (SI ss) ∧ (∀ (r : Int) (x_mco : Int) (x_msi : Int), Q (some (q1 r)) ([.inr (12, [q1 x_mco, q2 3, q2 4, q2 5, q2 6, q2 1, q2 7, q2 8, q2 9, q2 2, q1 mre, q1 mle, q1 mbe, q1 mso, q1 mva, q3 mwo, q1 mwr, q1 mlf, q1 mlp, q2 10, q2 11, q1 mfp, q1 mfd, q1 mgo, q1 mbo, q1 mpe, q1 mye, q2 12, q1 mpr, q2 13, q2 14, q2 15, q2 16, q1 mld, q2 17, q1 x_msi, q2 18, q2 19, q2 20, q2 21, q2 22, q1 mse, q2 23, q2 24, q2 25]), .inl (0, 16, .inl mn), .inl (0, 168, .inl ss)]))
set_option maxHeartbeats 4000000 in
set_option maxRecDepth 100000 in
theorem m_X12_fact (l : Launch) : q_M l yX12_fact cX12_fact 4 (some .int) 3 65 sp_X12_fact := by
  refine q_meth (by decide) (fun av w Q h => by obtain ⟨mco, mre, mle, mbe, mso, mva, mwo, mwr, mlf, mlp, mfp, mfd, mgo, mbo, mpe, mye, mpr, mld, msi, mse, mn, ss, a, b, cc, rfl, rfl, hmn, hsi, hQ⟩ := h; exact Nat.le_of_ble_eq_true rfl) ?_
  intro p e R s m args below meth c dC dI k g A av w Q hsp oka okw X
  obtain ⟨mco, mre, mle, mbe, mso, mva, mwo, mwr, mlf, mlp, mfp, mfd, mgo, mbo, mpe, mye, mpr, mld, msi, mse, mn, ss, a, b, cc, rfl, rfl, hmn, hsi, hQ⟩ := hsp
  have o_a : -2147483648 ≤ a ∧ a ≤ 2147483647 := oka _ (List.mem_of_getElem? (i := 1) rfl)
  have o_b : -2147483648 ≤ b ∧ b ≤ 2147483647 := oka _ (List.mem_of_getElem? (i := 2) rfl)
  have o_cc : -2147483648 ≤ cc ∧ cc ≤ 2147483647 := oka _ (List.mem_of_getElem? (i := 3) rfl)
  refine s_mono (s_X12_fact_0 X (J := fun _ _ _ _ => False) (fun d => s_cutF)) ?_
  rintro lv st w' ⟨rfl, rfl, rfl⟩
  apply And.intro
  · exact trivial
  refine Exists.intro [0, 1, 3, 4, 5, 6, 7, 8, 9, 2, 10, 11, 12, 13, 14, 15, 16, 17, 18, 19, 20, 21, 22, 23, 24, 25] (Exists.intro [q2 0, q1 _] (Exists.intro ([.inr (12, [q1 _, q2 2, q2 3, q2 4, q2 5, q2 1, q2 6, q2 7, q2 8, q2 9, q1 _, q1 _, q1 _, q1 _, q1 _, q3 _, q1 _, q1 _, q1 _, q2 10, q2 11, q1 _, q1 _, q1 _, q1 _, q1 _, q1 _, q2 12, q1 _, q2 13, q2 14, q2 15, q2 16, q1 _, q2 17, q1 _, q2 18, q2 19, q2 20, q2 21, q2 22, q1 _, q2 23, q2 24, q2 25]), .inl (0, 16, .inl _)]) (And.intro rfl (And.intro rfl (And.intro rfl (And.intro ⟨⟨_, rfl⟩, rfl⟩ ?_))))))
  refine Exists.intro _ (Exists.intro _ (Exists.intro _ (Exists.intro _ (Exists.intro _ (Exists.intro _ (Exists.intro _ (Exists.intro _ (Exists.intro _ (Exists.intro _ (Exists.intro _ (Exists.intro _ (Exists.intro _ (Exists.intro _ (Exists.intro _ (Exists.intro _ (Exists.intro _ (Exists.intro _ (Exists.intro _ (Exists.intro _ (Exists.intro _ (Exists.intro _ (And.intro rfl (And.intro rfl (And.intro (by first | omega | assumption | exact q_rg_up (by assumption) (by omega) | exact q_rg_up (q_rg_up (by assumption) (by omega)) (by omega) | exact q_rg_cpy (by assumption) (by assumption)) (?_)))))))))))))))))))))))))
  intro z7 x_msi_7 h7
  apply And.intro
  · intro h10
    first | replace h7 := dj1 h7 h10 | replace h7 := dj0 h7 h10
    apply And.intro
    · intro h18
      refine Exists.intro [0, 2, 3, 4, 5, 6, 1, 7, 8, 9, 10, 11, 12, 13, 14, 15, 16, 17, 18, 19, 20, 21, 22, 23, 24, 25] (Exists.intro [q2 0] (Exists.intro ([.inr (12, [q1 _, q2 2, q2 3, q2 4, q2 5, q2 6, q2 7, q2 8, q2 9, q2 1, q1 _, q1 _, q1 _, q1 _, q1 _, q3 _, q1 _, q1 _, q1 _, q2 10, q2 11, q1 _, q1 _, q1 _, q1 _, q1 _, q1 _, q2 12, q1 _, q2 13, q2 14, q2 15, q2 16, q1 _, q2 17, q1 _, q2 18, q2 19, q2 20, q2 21, q2 22, q1 _, q2 23, q2 24, q2 25]), .inl (0, 168, .inl _)]) (And.intro rfl (And.intro rfl (And.intro rfl (And.intro ⟨⟨_, rfl⟩, rfl⟩ ?_))))))
      refine Exists.intro _ (Exists.intro _ (Exists.intro _ (Exists.intro _ (Exists.intro _ (Exists.intro _ (Exists.intro _ (Exists.intro _ (Exists.intro _ (Exists.intro _ (Exists.intro _ (Exists.intro _ (Exists.intro _ (Exists.intro _ (Exists.intro _ (Exists.intro _ (Exists.intro _ (Exists.intro _ (Exists.intro _ (Exists.intro _ (Exists.intro _ (And.intro rfl (And.intro rfl (And.intro (by first | omega | assumption | exact q_rg_up (by assumption) (by omega) | exact q_rg_up (q_rg_up (by assumption) (by omega)) (by omega) | exact q_rg_cpy (by assumption) (by assumption)) (And.intro (by first | omega | assumption | exact q_rg_up (by assumption) (by omega) | exact q_rg_up (q_rg_up (by assumption) (by omega)) (by omega) | exact q_rg_cpy (by assumption) (by assumption)) (?_)))))))))))))))))))))))))
      intro z38 h38
      intro z42 h42
      first | replace h42 := e_sub h42 (by omega) | replace h42 := e_rng h42
      refine Exists.intro [] (Exists.intro [q1 _, q1 _, q1 _] (Exists.intro [] (And.intro rfl (And.intro rfl (And.intro rfl (And.intro trivial ?_))))))
      refine Exists.intro _ (Exists.intro _ (Exists.intro _ (And.intro rfl (And.intro rfl (?_)))))
      intro z43 h43
      apply And.intro
      · intro h46
        first | replace h43 := dj1 h43 h46 | replace h43 := dj0 h43 h46
        exact hQ _ _ _
      · intro h46
        first | replace h43 := dj1 h43 h46 | replace h43 := dj0 h43 h46
        refine Exists.intro [] (Exists.intro [q1 _, q1 _, q1 _] (Exists.intro [] (And.intro rfl (And.intro rfl (And.intro rfl (And.intro trivial ?_))))))
        refine Exists.intro _ (Exists.intro _ (Exists.intro _ (And.intro rfl (And.intro rfl (?_)))))
        intro z52 h52
        apply And.intro
        · intro h55
          first | replace h52 := dj1 h52 h55 | replace h52 := dj0 h52 h55
          exact hQ _ _ _
        · intro h55
          first | replace h52 := dj1 h52 h55 | replace h52 := dj0 h52 h55
          refine Exists.intro [0, 2, 3, 4, 5, 6, 1, 7, 8, 9, 10, 11, 12, 13, 14, 15, 16, 17, 18, 19, 20, 21, 22, 23, 24, 25] (Exists.intro [q2 0, q1 _, q1 _] (Exists.intro ([.inr (12, [q1 _, q2 2, q2 3, q2 4, q2 5, q2 6, q2 7, q2 8, q2 9, q2 1, q1 _, q1 _, q1 _, q1 _, q1 _, q3 _, q1 _, q1 _, q1 _, q2 10, q2 11, q1 _, q1 _, q1 _, q1 _, q1 _, q1 _, q2 12, q1 _, q2 13, q2 14, q2 15, q2 16, q1 _, q2 17, q1 _, q2 18, q2 19, q2 20, q2 21, q2 22, q1 _, q2 23, q2 24, q2 25]), .inl (0, 168, .inl _)]) (And.intro rfl (And.intro rfl (And.intro rfl (And.intro ⟨⟨_, rfl⟩, rfl⟩ ?_))))))
          refine Exists.intro _ (Exists.intro _ (Exists.intro _ (Exists.intro _ (Exists.intro _ (Exists.intro _ (Exists.intro _ (Exists.intro _ (Exists.intro _ (Exists.intro _ (Exists.intro _ (Exists.intro _ (Exists.intro _ (Exists.intro _ (Exists.intro _ (Exists.intro _ (Exists.intro _ (Exists.intro _ (Exists.intro _ (Exists.intro _ (Exists.intro _ (Exists.intro _ (Exists.intro _ (And.intro rfl (And.intro rfl (And.intro (by first | omega | assumption | exact q_rg_up (by assumption) (by omega) | exact q_rg_up (q_rg_up (by assumption) (by omega)) (by omega) | exact q_rg_cpy (by assumption) (by assumption)) (And.intro (by first | omega | assumption | exact q_rg_up (by assumption) (by omega) | exact q_rg_up (q_rg_up (by assumption) (by omega)) (by omega) | exact q_rg_cpy (by assumption) (by assumption)) (?_)))))))))))))))))))))))))))
          intro z61
          exact hQ _ _ _
    · intro h18
      apply And.intro
      · intro h22
        exact hQ _ _ _
      · intro h22
        refine Exists.intro [0, 2, 3, 4, 5, 6, 1, 7, 8, 9, 10, 11, 12, 13, 14, 15, 16, 17, 18, 19, 20, 21, 22, 23, 24, 25] (Exists.intro [q2 0] (Exists.intro ([.inr (12, [q1 _, q2 2, q2 3, q2 4, q2 5, q2 6, q2 7, q2 8, q2 9, q2 1, q1 _, q1 _, q1 _, q1 _, q1 _, q3 _, q1 _, q1 _, q1 _, q2 10, q2 11, q1 _, q1 _, q1 _, q1 _, q1 _, q1 _, q2 12, q1 _, q2 13, q2 14, q2 15, q2 16, q1 _, q2 17, q1 _, q2 18, q2 19, q2 20, q2 21, q2 22, q1 _, q2 23, q2 24, q2 25]), .inl (0, 168, .inl _)]) (And.intro rfl (And.intro rfl (And.intro rfl (And.intro ⟨⟨_, rfl⟩, rfl⟩ ?_))))))
        refine Exists.intro _ (Exists.intro _ (Exists.intro _ (Exists.intro _ (Exists.intro _ (Exists.intro _ (Exists.intro _ (Exists.intro _ (Exists.intro _ (Exists.intro _ (Exists.intro _ (Exists.intro _ (Exists.intro _ (Exists.intro _ (Exists.intro _ (Exists.intro _ (Exists.intro _ (Exists.intro _ (Exists.intro _ (Exists.intro _ (Exists.intro _ (And.intro rfl (And.intro rfl (And.intro (by first | omega | assumption | exact q_rg_up (by assumption) (by omega) | exact q_rg_up (q_rg_up (by assumption) (by omega)) (by omega) | exact q_rg_cpy (by assumption) (by assumption)) (And.intro (by first | omega | assumption | exact q_rg_up (by assumption) (by omega) | exact q_rg_up (q_rg_up (by assumption) (by omega)) (by omega) | exact q_rg_cpy (by assumption) (by assumption)) (?_)))))))))))))))))))))))))
        intro z26 h26
        exact hQ _ _ _
  · intro h10
    first | replace h7 := dj1 h7 h10 | replace h7 := dj0 h7 h10
    exact hQ _ _ _
