theorem bg_s {f D : Nat → Int} {v x z : Int} (h : ∀ i : Nat, (i : Int) < v → f i = D (5 + i)) (hx : x = D (5 + v.toNat)) (hv : 0 ≤ v) (e : z = v + 1) : ∀ i : Nat, (i : Int) < z → q_up f v.toNat x i = D (5 + i) := fun i hi => by
  by_cases c : i = v.toNat
  · rw [c, q_up_s]; exact hx
  · rw [q_up_n c]; exact h i (by omega)

theorem dG12_begin_0 : decode cX12_begin 0 = .ok (.iconst 0, 1) := by decide +kernel
theorem dG12_begin_1 : decode cX12_begin 1 = .ok (.istore_n 1, 1) := by decide +kernel
theorem dG12_begin_2 : decode cX12_begin 2 = .ok (.iload_n 1, 1) := by decide +kernel
theorem dG12_begin_3 : decode cX12_begin 3 = .ok (.bipush 8, 2) := by decide +kernel
theorem dG12_begin_5 : decode cX12_begin 5 = .ok (.if_icmp .ge 22, 3) := by decide +kernel
theorem dG12_begin_8 : decode cX12_begin 8 = .ok (.aload_n 0, 1) := by decide +kernel
theorem dG12_begin_9 : decode cX12_begin 9 = .ok (.getfield 44, 3) := by decide +kernel
theorem dG12_begin_12 : decode cX12_begin 12 = .ok (.iload_n 1, 1) := by decide +kernel
theorem dG12_begin_13 : decode cX12_begin 13 = .ok (.aload_n 0, 1) := by decide +kernel
theorem dG12_begin_14 : decode cX12_begin 14 = .ok (.iconst 5, 1) := by decide +kernel
theorem dG12_begin_15 : decode cX12_begin 15 = .ok (.iload_n 1, 1) := by decide +kernel
theorem dG12_begin_16 : decode cX12_begin 16 = .ok (.iadd, 1) := by decide +kernel
theorem dG12_begin_17 : decode cX12_begin 17 = .ok (.invokevirtual 299, 3) := by decide +kernel
theorem dG12_begin_20 : decode cX12_begin 20 = .ok (.iastore, 1) := by decide +kernel
theorem dG12_begin_21 : decode cX12_begin 21 = .ok (.iinc 1 1, 3) := by decide +kernel
theorem dG12_begin_24 : decode cX12_begin 24 = .ok (.goto (-22), 3) := by decide +kernel
theorem dG12_begin_27 : decode cX12_begin 27 = .ok (.aload_n 0, 1) := by decide +kernel
theorem dG12_begin_28 : decode cX12_begin 28 = .ok (.iconst 0, 1) := by decide +kernel
theorem dG12_begin_29 : decode cX12_begin 29 = .ok (.putfield 324, 3) := by decide +kernel
theorem dG12_begin_32 : decode cX12_begin 32 = .ok (.return_, 1) := by decide +kernel
def is_G12_begin : Nat → List Nat := fun d => if d = 2 then [0, 1] else []
set_option maxRecDepth 100000 in
def b_G12_begin_2 (J : Nat → List qV → List qV → qW → Prop) (Q : qR) : qK := x_iload 1 (x_int 8 (x_icmp_ge (x_aload 0 (x_int 0 (x_put 12 28 q_oki (x_nw (x_vret Q))))) (x_aload 0 (x_get 12 27 (x_iload 1 (x_aload 0 (x_int 5 (x_iload 1 (x_iadd (x_callr (some 12) 2 spr_X12_of (x_iast (x_nw (x_iinc 1 1 (x_cut [0, 1] (J 2)))))))))))))))
set_option maxRecDepth 100000 in
theorem s_G12_begin_2 {p : Program} {l : Launch} {e : Env} {R : Room} {s : State} {m : MethodId} {args : Array Value} {below : List Frame} {meth : Method} {c : Code} {nW : Nat} {dC : Nat → ClassId} {dI : Nat → Nat → Nat} {k : Nat → ClassId} {g : Nat → Nat} {A : Nat → Prop} {J : Nat → List qV → List qV → qW → Prop} {Q : qR} (X : q_X p R s m args meth c cX12_begin 2 nW 1 21 RX12 none dC dI k g A) (hJ : ∀ d : Nat, q_Sd p l e R s m args below meth c 2 nW dC dI k g A (MQ below (q_post (dC, dI) k g nW Q A) args s 0 0 A) d (x_cut (is_G12_begin d) (J d))) : q_Sd p l e R s m args below meth c 2 nW dC dI k g A (MQ below (q_post (dC, dI) k g nW Q A) args s 0 0 A) 2 (b_G12_begin_2 J Q) := by
  unfold b_G12_begin_2
  refine s_iload_n X rfl dG12_begin_2 ?_
  refine s_bipush X ⟨by decide, by decide⟩ (by decide) dG12_begin_3 ?_
  refine s_icmp_ge X (tgt := 27) dG12_begin_5 (by decide) ?_ ?_
  · refine s_aload_n X rfl dG12_begin_27 ?_
    refine s_iconst X ⟨by decide, by decide⟩ dG12_begin_28 ?_
    refine s_put X (T := TX12) (C := RX12) (N := 45) tu_X12 tyX12_ok nmX12 rfl (by decide) tw_1025 rfl (by decide +kernel) q_oki_t dG12_begin_29 ?_
    refine s_nw ?_
    exact s_vret X dG12_begin_32
  · refine s_aload_n X rfl dG12_begin_8 ?_
    refine s_get X (T := TX12) (C := RX12) (N := 45) tu_X12 rfl (by decide) tw_1024 dG12_begin_9 ?_
    refine s_iload_n X rfl dG12_begin_12 ?_
    refine s_aload_n X rfl dG12_begin_13 ?_
    refine s_iconst X ⟨by decide, by decide⟩ dG12_begin_14 ?_
    refine s_iload_n X rfl dG12_begin_15 ?_
    refine s_iadd X dG12_begin_16 ?_
    refine s_callVr X (m_X12_of l) tw_1189 tw_1190 tw_1603 tw_134 tw_1191 rfl (by decide +kernel) ⟨by decide, by decide⟩ dG12_begin_17 ?_
    refine s_iast X dG12_begin_20 ?_
    refine s_nw ?_
    refine s_iinc X (by decide) dG12_begin_21 ?_
    refine s_goto X (tgt := 2) dG12_begin_24 (by decide) ?_
    exact hJ 2
set_option maxRecDepth 100000 in
def b_G12_begin_0 (J : Nat → List qV → List qV → qW → Prop) (Q : qR) : qK := x_int 0 (x_istore 1 (x_cut [0, 1] (J 2)))
set_option maxRecDepth 100000 in
theorem s_G12_begin_0 {p : Program} {l : Launch} {e : Env} {R : Room} {s : State} {m : MethodId} {args : Array Value} {below : List Frame} {meth : Method} {c : Code} {nW : Nat} {dC : Nat → ClassId} {dI : Nat → Nat → Nat} {k : Nat → ClassId} {g : Nat → Nat} {A : Nat → Prop} {J : Nat → List qV → List qV → qW → Prop} {Q : qR} (X : q_X p R s m args meth c cX12_begin 2 nW 1 21 RX12 none dC dI k g A) (hJ : ∀ d : Nat, q_Sd p l e R s m args below meth c 2 nW dC dI k g A (MQ below (q_post (dC, dI) k g nW Q A) args s 0 0 A) d (x_cut (is_G12_begin d) (J d))) : q_Sd p l e R s m args below meth c 2 nW dC dI k g A (MQ below (q_post (dC, dI) k g nW Q A) args s 0 0 A) 0 (b_G12_begin_0 J Q) := by
  unfold b_G12_begin_0
  refine s_iconst X ⟨by decide, by decide⟩ dG12_begin_0 ?_
  refine s_istore_n X rfl (by decide) dG12_begin_1 ?_
  exact hJ 2

def sp_G12_begin : qS := fun av w Q => ∃ (mco : Int) (mre : Int) (mle : Int) (mbe : Int) (mso : Int) (mva : Int) (mwo : Int) (mwr : Int) (mlf : Int) (mlp : Int) (mfp : Int) (mfd : Int) (mgo : Int) (mbo : Int) (mpe : Int) (mye : Int) (mpr : Int) (mld : Int) (msi : Int) (mse : Int) (tl : Nat → Int) (bs : Nat → Int) (D : Nat → Int), av = [q2 0] ∧ w = [.inr (12, [q1 mco, q2 3, q2 4, q2 5, q2 6, q2 7, q2 2, q2 8, q2 9, q2 10, q1 mre, q1 mle, q1 mbe, q1 mso, q1 mva, q3 mwo, q1 mwr, q1 mlf, q1 mlp, q2 11, q2 12, q1 mfp, q1 mfd, q1 mgo, q1 mbo, q1 mpe, q1 mye, q2 1, q1 mpr, q2 13, q2 14, q2 15, q2 16, q1 mld, q2 17, q1 msi, q2 18, q2 19, q2 20, q2 21, q2 22, q1 mse, q2 23, q2 24, q2 25]), .inl (0, 8, .inl tl), .inl (0, 600, .inl bs)] ∧ (0 ≤ mbo ∧ mbo ≤ 1) ∧ (BI bs) ∧ (D = rwD bs (75 * mbo).toNat) ∧ (BK D) ∧ (∀ (x_tl : Nat → Int) (x_mpr : Int), ((∀ i : Nat, i < 8 → x_tl i = D (5 + i)) ∧ x_mpr = 0) → Q none ([.inr (12, [q1 mco, q2 3, q2 4, q2 5, q2 6, q2 7, q2 2, q2 8, q2 9, q2 10, q1 mre, q1 mle, q1 mbe, q1 mso, q1 mva, q3 mwo, q1 mwr, q1 mlf, q1 mlp, q2 11, q2 12, q1 mfp, q1 mfd, q1 mgo, q1 mbo, q1 mpe, q1 mye, q2 1, q1 x_mpr, q2 13, q2 14, q2 15, q2 16, q1 mld, q2 17, q1 msi, q2 18, q2 19, q2 20, q2 21, q2 22, q1 mse, q2 23, q2 24, q2 25]), .inl (0, 8, .inl x_tl), .inl (0, 600, .inl bs)]))
def I_G12_begin (mco : Int) (mre : Int) (mle : Int) (mbe : Int) (mso : Int) (mva : Int) (mwo : Int) (mwr : Int) (mlf : Int) (mlp : Int) (mfp : Int) (mfd : Int) (mgo : Int) (mbo : Int) (mpe : Int) (mye : Int) (mpr : Int) (mld : Int) (msi : Int) (mse : Int) (tl : Nat → Int) (bs : Nat → Int) (D : Nat → Int) : Nat → Nat → List qV → List qV → qW → Prop := fun dz mz vz sz wz => if dz = 2 then (∃ (y_tl : Nat → Int) (v1 : Int), vz = [q2 0, q1 v1] ∧ sz = [] ∧ wz = [.inr (12, [q1 mco, q2 3, q2 4, q2 5, q2 6, q2 7, q2 2, q2 8, q2 9, q2 10, q1 mre, q1 mle, q1 mbe, q1 mso, q1 mva, q3 mwo, q1 mwr, q1 mlf, q1 mlp, q2 11, q2 12, q1 mfp, q1 mfd, q1 mgo, q1 mbo, q1 mpe, q1 mye, q2 1, q1 mpr, q2 13, q2 14, q2 15, q2 16, q1 mld, q2 17, q1 msi, q2 18, q2 19, q2 20, q2 21, q2 22, q1 mse, q2 23, q2 24, q2 25]), .inl (0, 8, .inl y_tl), .inl (0, 600, .inl bs)] ∧ mz = (8 - v1).toNat ∧ (0 ≤ v1 ∧ v1 ≤ 8) ∧ (∀ i : Nat, (i : Int) < v1 → y_tl i = D (5 + i))) else False
set_option maxHeartbeats 4000000 in
set_option maxRecDepth 100000 in
theorem m_G12_begin (l : Launch) : q_M l yX12_begin cX12_begin 2 none 1 21 sp_G12_begin := by
  refine q_meth (by decide) (fun av w Q h => by obtain ⟨mco, mre, mle, mbe, mso, mva, mwo, mwr, mlf, mlp, mfp, mfd, mgo, mbo, mpe, mye, mpr, mld, msi, mse, tl, bs, D, rfl, rfl, hbo, hbi, hD, hK, hQ⟩ := h; exact Nat.le_of_ble_eq_true rfl) ?_
  intro p e R s m args below meth c dC dI k g A av w Q hsp oka okw X
  obtain ⟨mco, mre, mle, mbe, mso, mva, mwo, mwr, mlf, mlp, mfp, mfd, mgo, mbo, mpe, mye, mpr, mld, msi, mse, tl, bs, D, rfl, rfl, hbo, hbi, hD, hK, hQ⟩ := hsp
  refine s_mono (s_G12_begin_0 X (J := fun dz vz sz wz => ∃ mz, I_G12_begin mco mre mle mbe mso mva mwo mwr mlf mlp mfp mfd mgo mbo mpe mye mpr mld msi mse tl bs D dz mz vz sz wz) (q_loopn (I_G12_begin mco mre mle mbe mso mva mwo mwr mlf mlp mfp mfd mgo mbo mpe mye mpr mld msi mse tl bs D) (fun dz J => if dz = 2 then b_G12_begin_2 J Q else q_F) ?hs ?hv)) ?_
  case hs =>
    intro d J hJ
    by_cases h2 : d = 2
    · subst h2; exact s_G12_begin_2 X hJ
    simp only [h2, if_false]
    exact s_F
  case hv =>
    intro dz mz vz sz wz hI okv oks okw hlen
    by_cases h2 : dz = 2
    · subst h2
      obtain ⟨y_tl, v1, rfl, rfl, rfl, hn, hp, hz⟩ := hI
      apply And.intro
      · intro h5
        apply And.intro
        · exact trivial
        exact hQ _ _ ⟨fun i hi => hz i (by omega), rfl⟩
      · intro h5
        intro z16 h16
        first | replace h16 := e_add h16 (by omega) | replace h16 := e_rng h16
        refine Exists.intro [0, 2, 3, 4, 5, 6, 7, 8, 9, 10, 11, 12, 1, 13, 14, 15, 16, 17, 18, 19, 20, 21, 22, 23, 24, 25] (Exists.intro [q2 0, q1 _] (Exists.intro ([.inr (12, [q1 _, q2 2, q2 3, q2 4, q2 5, q2 6, q2 1, q2 7, q2 8, q2 9, q1 _, q1 _, q1 _, q1 _, q1 _, q3 _, q1 _, q1 _, q1 _, q2 10, q2 11, q1 _, q1 _, q1 _, q1 _, q1 _, q1 _, q2 12, q1 _, q2 13, q2 14, q2 15, q2 16, q1 _, q2 17, q1 _, q2 18, q2 19, q2 20, q2 21, q2 22, q1 _, q2 23, q2 24, q2 25]), .inl (0, 600, .inl _)]) (And.intro rfl (And.intro rfl (And.intro rfl (And.intro ⟨⟨_, rfl⟩, rfl⟩ ?_))))))
        refine Exists.intro _ (Exists.intro _ (Exists.intro _ (Exists.intro _ (Exists.intro _ (Exists.intro _ (Exists.intro _ (Exists.intro _ (Exists.intro _ (Exists.intro _ (Exists.intro _ (Exists.intro _ (Exists.intro _ (Exists.intro _ (Exists.intro _ (Exists.intro _ (Exists.intro _ (Exists.intro _ (Exists.intro _ (Exists.intro _ (Exists.intro _ (Exists.intro _ (And.intro rfl (And.intro rfl (And.intro (by first | omega | assumption | exact q_rg_up (by assumption) (by omega) | exact q_rg_up (q_rg_up (by assumption) (by omega)) (by omega) | exact q_rg_cpy (by assumption) (by assumption)) (And.intro (by first | omega | assumption | exact q_rg_up (by assumption) (by omega) | exact q_rg_up (q_rg_up (by assumption) (by omega)) (by omega) | exact q_rg_cpy (by assumption) (by assumption)) (And.intro (by first | omega | assumption | exact q_rg_up (by assumption) (by omega) | exact q_rg_up (q_rg_up (by assumption) (by omega)) (by omega) | exact q_rg_cpy (by assumption) (by assumption)) (?_)))))))))))))))))))))))))))
        intro z17 h17
        obtain ⟨h17, k17⟩ := h17
        first | replace k17 := OFQ_13 k17 (by omega) | replace k17 := OFQ_21 k17 (by omega) | clear k17
        have q17 := ob_k 5 hD hbo h17 (show z16 = 5 + v1 by omega) (by omega)
        apply And.intro
        · exact ⟨by omega, by omega⟩
        intro z21 h21
        first | replace h21 := e_add h21 (by omega) | replace h21 := e_rng h21
        exact ⟨_, ⟨_, _, rfl, rfl, rfl, rfl, (by first | omega | assumption | exact q_rg_up (by assumption) (by omega) | exact q_rg_up (q_rg_up (by assumption) (by omega)) (by omega) | exact q_rg_cpy (by assumption) (by assumption)), (by first | (intro j hj; exfalso; omega) | exact bg_s hz q17 (by omega) (by omega))⟩, by omega⟩
    simp only [I_G12_begin, h2, if_false] at hI
  rintro lv st w' ⟨rfl, rfl, rfl⟩
  exact ⟨_, _, _, rfl, rfl, rfl, rfl, (by first | omega | assumption | exact q_rg_up (by assumption) (by omega) | exact q_rg_up (q_rg_up (by assumption) (by omega)) (by omega) | exact q_rg_cpy (by assumption) (by assumption)), (by first | (intro j hj; exfalso; omega) | exact bg_s hz q17 (by omega) (by omega))⟩

theorem dG12_ranked_0 : decode cX12_ranked 0 = .ok (.iconst 0, 1) := by decide +kernel
theorem dG12_ranked_1 : decode cX12_ranked 1 = .ok (.istore_n 2, 1) := by decide +kernel
theorem dG12_ranked_2 : decode cX12_ranked 2 = .ok (.iload_n 2, 1) := by decide +kernel
theorem dG12_ranked_3 : decode cX12_ranked 3 = .ok (.aload_n 0, 1) := by decide +kernel
theorem dG12_ranked_4 : decode cX12_ranked 4 = .ok (.getfield 303, 3) := by decide +kernel
theorem dG12_ranked_7 : decode cX12_ranked 7 = .ok (.if_icmp .ge 82, 3) := by decide +kernel
theorem dG12_ranked_10 : decode cX12_ranked 10 = .ok (.iconst 0, 1) := by decide +kernel
theorem dG12_ranked_11 : decode cX12_ranked 11 = .ok (.istore_n 3, 1) := by decide +kernel
theorem dG12_ranked_12 : decode cX12_ranked 12 = .ok (.iconst 0, 1) := by decide +kernel
theorem dG12_ranked_13 : decode cX12_ranked 13 = .ok (.istore 4, 2) := by decide +kernel
theorem dG12_ranked_15 : decode cX12_ranked 15 = .ok (.iload 4, 2) := by decide +kernel
theorem dG12_ranked_17 : decode cX12_ranked 17 = .ok (.aload_n 0, 1) := by decide +kernel
theorem dG12_ranked_18 : decode cX12_ranked 18 = .ok (.getfield 303, 3) := by decide +kernel
theorem dG12_ranked_21 : decode cX12_ranked 21 = .ok (.if_icmp .ge 55, 3) := by decide +kernel
theorem dG12_ranked_24 : decode cX12_ranked 24 = .ok (.iload_n 3, 1) := by decide +kernel
theorem dG12_ranked_25 : decode cX12_ranked 25 = .ok (.aload_n 0, 1) := by decide +kernel
theorem dG12_ranked_26 : decode cX12_ranked 26 = .ok (.getfield 44, 3) := by decide +kernel
theorem dG12_ranked_29 : decode cX12_ranked 29 = .ok (.iload 4, 2) := by decide +kernel
theorem dG12_ranked_31 : decode cX12_ranked 31 = .ok (.iaload, 1) := by decide +kernel
theorem dG12_ranked_32 : decode cX12_ranked 32 = .ok (.aload_n 0, 1) := by decide +kernel
theorem dG12_ranked_33 : decode cX12_ranked 33 = .ok (.getfield 44, 3) := by decide +kernel
theorem dG12_ranked_36 : decode cX12_ranked 36 = .ok (.iload_n 2, 1) := by decide +kernel
theorem dG12_ranked_37 : decode cX12_ranked 37 = .ok (.iaload, 1) := by decide +kernel
theorem dG12_ranked_38 : decode cX12_ranked 38 = .ok (.if_icmp .gt 25, 3) := by decide +kernel
theorem dG12_ranked_41 : decode cX12_ranked 41 = .ok (.aload_n 0, 1) := by decide +kernel
theorem dG12_ranked_42 : decode cX12_ranked 42 = .ok (.getfield 44, 3) := by decide +kernel
theorem dG12_ranked_45 : decode cX12_ranked 45 = .ok (.iload 4, 2) := by decide +kernel
theorem dG12_ranked_47 : decode cX12_ranked 47 = .ok (.iaload, 1) := by decide +kernel
theorem dG12_ranked_48 : decode cX12_ranked 48 = .ok (.aload_n 0, 1) := by decide +kernel
theorem dG12_ranked_49 : decode cX12_ranked 49 = .ok (.getfield 44, 3) := by decide +kernel
theorem dG12_ranked_52 : decode cX12_ranked 52 = .ok (.iload_n 2, 1) := by decide +kernel
theorem dG12_ranked_53 : decode cX12_ranked 53 = .ok (.iaload, 1) := by decide +kernel
theorem dG12_ranked_54 : decode cX12_ranked 54 = .ok (.if_icmp .ne 13, 3) := by decide +kernel
theorem dG12_ranked_57 : decode cX12_ranked 57 = .ok (.iload 4, 2) := by decide +kernel
theorem dG12_ranked_59 : decode cX12_ranked 59 = .ok (.iload_n 2, 1) := by decide +kernel
theorem dG12_ranked_60 : decode cX12_ranked 60 = .ok (.if_icmp .ge 7, 3) := by decide +kernel
theorem dG12_ranked_63 : decode cX12_ranked 63 = .ok (.iconst 1, 1) := by decide +kernel
theorem dG12_ranked_64 : decode cX12_ranked 64 = .ok (.goto 4, 3) := by decide +kernel
theorem dG12_ranked_67 : decode cX12_ranked 67 = .ok (.iconst 0, 1) := by decide +kernel
theorem dG12_ranked_68 : decode cX12_ranked 68 = .ok (.iadd, 1) := by decide +kernel
theorem dG12_ranked_69 : decode cX12_ranked 69 = .ok (.istore_n 3, 1) := by decide +kernel
theorem dG12_ranked_70 : decode cX12_ranked 70 = .ok (.iinc 4 1, 3) := by decide +kernel
theorem dG12_ranked_73 : decode cX12_ranked 73 = .ok (.goto (-58), 3) := by decide +kernel
theorem dG12_ranked_76 : decode cX12_ranked 76 = .ok (.iload_n 3, 1) := by decide +kernel
theorem dG12_ranked_77 : decode cX12_ranked 77 = .ok (.iload_n 1, 1) := by decide +kernel
theorem dG12_ranked_78 : decode cX12_ranked 78 = .ok (.if_icmp .ne 5, 3) := by decide +kernel
theorem dG12_ranked_81 : decode cX12_ranked 81 = .ok (.iload_n 2, 1) := by decide +kernel
theorem dG12_ranked_82 : decode cX12_ranked 82 = .ok (.ireturn, 1) := by decide +kernel
theorem dG12_ranked_83 : decode cX12_ranked 83 = .ok (.iinc 2 1, 3) := by decide +kernel
theorem dG12_ranked_86 : decode cX12_ranked 86 = .ok (.goto (-84), 3) := by decide +kernel
theorem dG12_ranked_89 : decode cX12_ranked 89 = .ok (.bipush (-2), 2) := by decide +kernel
theorem dG12_ranked_91 : decode cX12_ranked 91 = .ok (.ireturn, 1) := by decide +kernel
def is_G12_ranked : Nat → List Nat := fun d => if d = 2 then [0, 1, 2] else if d = 15 then [0, 1, 2, 3, 4] else []
set_option maxRecDepth 100000 in
def b_G12_ranked_68 (J : Nat → List qV → List qV → qW → Prop) (Q : qR) : qK := x_iadd (x_istore 3 (x_iinc 4 1 (x_cut [0, 1, 2, 3, 4] (J 15))))
set_option maxRecDepth 100000 in
theorem s_G12_ranked_68 {p : Program} {l : Launch} {e : Env} {R : Room} {s : State} {m : MethodId} {args : Array Value} {below : List Frame} {meth : Method} {c : Code} {nW : Nat} {dC : Nat → ClassId} {dI : Nat → Nat → Nat} {k : Nat → ClassId} {g : Nat → Nat} {A : Nat → Prop} {J : Nat → List qV → List qV → qW → Prop} {Q : qR} (X : q_X p R s m args meth c cX12_ranked 5 nW 0 0 RX12 (some .int) dC dI k g A) (hJ : ∀ d : Nat, q_Sd p l e R s m args below meth c 5 nW dC dI k g A (MQ below (q_post (dC, dI) k g nW Q A) args s 0 0 A) d (x_cut (is_G12_ranked d) (J d))) : q_Sd p l e R s m args below meth c 5 nW dC dI k g A (MQ below (q_post (dC, dI) k g nW Q A) args s 0 0 A) 68 (b_G12_ranked_68 J Q) := by
  unfold b_G12_ranked_68
  refine s_iadd X dG12_ranked_68 ?_
  refine s_istore_n X rfl (by decide) dG12_ranked_69 ?_
  refine s_iinc X (by decide) dG12_ranked_70 ?_
  refine s_goto X (tgt := 15) dG12_ranked_73 (by decide) ?_
  exact hJ 15
set_option maxRecDepth 100000 in
def b_G12_ranked_67 (J : Nat → List qV → List qV → qW → Prop) (Q : qR) : qK := x_int 0 (b_G12_ranked_68 J Q)
set_option maxRecDepth 100000 in
theorem s_G12_ranked_67 {p : Program} {l : Launch} {e : Env} {R : Room} {s : State} {m : MethodId} {args : Array Value} {below : List Frame} {meth : Method} {c : Code} {nW : Nat} {dC : Nat → ClassId} {dI : Nat → Nat → Nat} {k : Nat → ClassId} {g : Nat → Nat} {A : Nat → Prop} {J : Nat → List qV → List qV → qW → Prop} {Q : qR} (X : q_X p R s m args meth c cX12_ranked 5 nW 0 0 RX12 (some .int) dC dI k g A) (hJ : ∀ d : Nat, q_Sd p l e R s m args below meth c 5 nW dC dI k g A (MQ below (q_post (dC, dI) k g nW Q A) args s 0 0 A) d (x_cut (is_G12_ranked d) (J d))) : q_Sd p l e R s m args below meth c 5 nW dC dI k g A (MQ below (q_post (dC, dI) k g nW Q A) args s 0 0 A) 67 (b_G12_ranked_67 J Q) := by
  unfold b_G12_ranked_67
  refine s_iconst X ⟨by decide, by decide⟩ dG12_ranked_67 ?_
  exact s_G12_ranked_68 X hJ
set_option maxRecDepth 100000 in
def b_G12_ranked_63 (J : Nat → List qV → List qV → qW → Prop) (Q : qR) : qK := x_int 1 (b_G12_ranked_68 J Q)
set_option maxRecDepth 100000 in
theorem s_G12_ranked_63 {p : Program} {l : Launch} {e : Env} {R : Room} {s : State} {m : MethodId} {args : Array Value} {below : List Frame} {meth : Method} {c : Code} {nW : Nat} {dC : Nat → ClassId} {dI : Nat → Nat → Nat} {k : Nat → ClassId} {g : Nat → Nat} {A : Nat → Prop} {J : Nat → List qV → List qV → qW → Prop} {Q : qR} (X : q_X p R s m args meth c cX12_ranked 5 nW 0 0 RX12 (some .int) dC dI k g A) (hJ : ∀ d : Nat, q_Sd p l e R s m args below meth c 5 nW dC dI k g A (MQ below (q_post (dC, dI) k g nW Q A) args s 0 0 A) d (x_cut (is_G12_ranked d) (J d))) : q_Sd p l e R s m args below meth c 5 nW dC dI k g A (MQ below (q_post (dC, dI) k g nW Q A) args s 0 0 A) 63 (b_G12_ranked_63 J Q) := by
  unfold b_G12_ranked_63
  refine s_iconst X ⟨by decide, by decide⟩ dG12_ranked_63 ?_
  refine s_goto X (tgt := 68) dG12_ranked_64 (by decide) ?_
  exact s_G12_ranked_68 X hJ
set_option maxRecDepth 100000 in
def b_G12_ranked_59 (J : Nat → List qV → List qV → qW → Prop) (Q : qR) : qK := x_iload 2 (x_icmp_ge (b_G12_ranked_67 J Q) (b_G12_ranked_63 J Q))
set_option maxRecDepth 100000 in
theorem s_G12_ranked_59 {p : Program} {l : Launch} {e : Env} {R : Room} {s : State} {m : MethodId} {args : Array Value} {below : List Frame} {meth : Method} {c : Code} {nW : Nat} {dC : Nat → ClassId} {dI : Nat → Nat → Nat} {k : Nat → ClassId} {g : Nat → Nat} {A : Nat → Prop} {J : Nat → List qV → List qV → qW → Prop} {Q : qR} (X : q_X p R s m args meth c cX12_ranked 5 nW 0 0 RX12 (some .int) dC dI k g A) (hJ : ∀ d : Nat, q_Sd p l e R s m args below meth c 5 nW dC dI k g A (MQ below (q_post (dC, dI) k g nW Q A) args s 0 0 A) d (x_cut (is_G12_ranked d) (J d))) : q_Sd p l e R s m args below meth c 5 nW dC dI k g A (MQ below (q_post (dC, dI) k g nW Q A) args s 0 0 A) 59 (b_G12_ranked_59 J Q) := by
  unfold b_G12_ranked_59
  refine s_iload_n X rfl dG12_ranked_59 ?_
  refine s_icmp_ge X (tgt := 67) dG12_ranked_60 (by decide) ?_ ?_
  · exact s_G12_ranked_67 X hJ
  · exact s_G12_ranked_63 X hJ
set_option maxRecDepth 100000 in
def b_G12_ranked_15 (J : Nat → List qV → List qV → qW → Prop) (Q : qR) : qK := x_iload 4 (x_aload 0 (x_get 12 25 (x_icmp_ge (x_iload 3 (x_iload 1 (x_icmp_ne (x_iinc 2 1 (x_cut [0, 1, 2] (J 2))) (x_iload 2 (x_iret Q))))) (x_iload 3 (x_aload 0 (x_get 12 27 (x_iload 4 (x_iald (x_aload 0 (x_get 12 27 (x_iload 2 (x_iald (x_icmp_gt (b_G12_ranked_63 J Q) (x_aload 0 (x_get 12 27 (x_iload 4 (x_iald (x_aload 0 (x_get 12 27 (x_iload 2 (x_iald (x_icmp_ne (b_G12_ranked_67 J Q) (x_iload 4 (b_G12_ranked_59 J Q))))))))))))))))))))))))
set_option maxRecDepth 100000 in
theorem s_G12_ranked_15 {p : Program} {l : Launch} {e : Env} {R : Room} {s : State} {m : MethodId} {args : Array Value} {below : List Frame} {meth : Method} {c : Code} {nW : Nat} {dC : Nat → ClassId} {dI : Nat → Nat → Nat} {k : Nat → ClassId} {g : Nat → Nat} {A : Nat → Prop} {J : Nat → List qV → List qV → qW → Prop} {Q : qR} (X : q_X p R s m args meth c cX12_ranked 5 nW 0 0 RX12 (some .int) dC dI k g A) (hJ : ∀ d : Nat, q_Sd p l e R s m args below meth c 5 nW dC dI k g A (MQ below (q_post (dC, dI) k g nW Q A) args s 0 0 A) d (x_cut (is_G12_ranked d) (J d))) : q_Sd p l e R s m args below meth c 5 nW dC dI k g A (MQ below (q_post (dC, dI) k g nW Q A) args s 0 0 A) 15 (b_G12_ranked_15 J Q) := by
  unfold b_G12_ranked_15
  refine s_iload X dG12_ranked_15 ?_
  refine s_aload_n X rfl dG12_ranked_17 ?_
  refine s_get X (T := TX12) (C := RX12) (N := 45) tu_X12 rfl (by decide) tw_1022 dG12_ranked_18 ?_
  refine s_icmp_ge X (tgt := 76) dG12_ranked_21 (by decide) ?_ ?_
  · refine s_iload_n X rfl dG12_ranked_76 ?_
    refine s_iload_n X rfl dG12_ranked_77 ?_
    refine s_icmp_ne X (tgt := 83) dG12_ranked_78 (by decide) ?_ ?_
    · refine s_iinc X (by decide) dG12_ranked_83 ?_
      refine s_goto X (tgt := 2) dG12_ranked_86 (by decide) ?_
      exact hJ 2
    · refine s_iload_n X rfl dG12_ranked_81 ?_
      exact s_iret X dG12_ranked_82
  · refine s_iload_n X rfl dG12_ranked_24 ?_
    refine s_aload_n X rfl dG12_ranked_25 ?_
    refine s_get X (T := TX12) (C := RX12) (N := 45) tu_X12 rfl (by decide) tw_1024 dG12_ranked_26 ?_
    refine s_iload X dG12_ranked_29 ?_
    refine s_iald X dG12_ranked_31 ?_
    refine s_aload_n X rfl dG12_ranked_32 ?_
    refine s_get X (T := TX12) (C := RX12) (N := 45) tu_X12 rfl (by decide) tw_1024 dG12_ranked_33 ?_
    refine s_iload_n X rfl dG12_ranked_36 ?_
    refine s_iald X dG12_ranked_37 ?_
    refine s_icmp_gt X (tgt := 63) dG12_ranked_38 (by decide) ?_ ?_
    · exact s_G12_ranked_63 X hJ
    · refine s_aload_n X rfl dG12_ranked_41 ?_
      refine s_get X (T := TX12) (C := RX12) (N := 45) tu_X12 rfl (by decide) tw_1024 dG12_ranked_42 ?_
      refine s_iload X dG12_ranked_45 ?_
      refine s_iald X dG12_ranked_47 ?_
      refine s_aload_n X rfl dG12_ranked_48 ?_
      refine s_get X (T := TX12) (C := RX12) (N := 45) tu_X12 rfl (by decide) tw_1024 dG12_ranked_49 ?_
      refine s_iload_n X rfl dG12_ranked_52 ?_
      refine s_iald X dG12_ranked_53 ?_
      refine s_icmp_ne X (tgt := 67) dG12_ranked_54 (by decide) ?_ ?_
      · exact s_G12_ranked_67 X hJ
      · refine s_iload X dG12_ranked_57 ?_
        exact s_G12_ranked_59 X hJ
set_option maxRecDepth 100000 in
def b_G12_ranked_2 (J : Nat → List qV → List qV → qW → Prop) (Q : qR) : qK := x_iload 2 (x_aload 0 (x_get 12 25 (x_icmp_ge (x_int (-2) (x_iret Q)) (x_int 0 (x_istore 3 (x_int 0 (x_istore 4 (x_cut [0, 1, 2, 3, 4] (J 15)))))))))
set_option maxRecDepth 100000 in
theorem s_G12_ranked_2 {p : Program} {l : Launch} {e : Env} {R : Room} {s : State} {m : MethodId} {args : Array Value} {below : List Frame} {meth : Method} {c : Code} {nW : Nat} {dC : Nat → ClassId} {dI : Nat → Nat → Nat} {k : Nat → ClassId} {g : Nat → Nat} {A : Nat → Prop} {J : Nat → List qV → List qV → qW → Prop} {Q : qR} (X : q_X p R s m args meth c cX12_ranked 5 nW 0 0 RX12 (some .int) dC dI k g A) (hJ : ∀ d : Nat, q_Sd p l e R s m args below meth c 5 nW dC dI k g A (MQ below (q_post (dC, dI) k g nW Q A) args s 0 0 A) d (x_cut (is_G12_ranked d) (J d))) : q_Sd p l e R s m args below meth c 5 nW dC dI k g A (MQ below (q_post (dC, dI) k g nW Q A) args s 0 0 A) 2 (b_G12_ranked_2 J Q) := by
  unfold b_G12_ranked_2
  refine s_iload_n X rfl dG12_ranked_2 ?_
  refine s_aload_n X rfl dG12_ranked_3 ?_
  refine s_get X (T := TX12) (C := RX12) (N := 45) tu_X12 rfl (by decide) tw_1022 dG12_ranked_4 ?_
  refine s_icmp_ge X (tgt := 89) dG12_ranked_7 (by decide) ?_ ?_
  · refine s_bipush X ⟨by decide, by decide⟩ (by decide) dG12_ranked_89 ?_
    exact s_iret X dG12_ranked_91
  · refine s_iconst X ⟨by decide, by decide⟩ dG12_ranked_10 ?_
    refine s_istore_n X rfl (by decide) dG12_ranked_11 ?_
    refine s_iconst X ⟨by decide, by decide⟩ dG12_ranked_12 ?_
    refine s_istore X (by decide) dG12_ranked_13 ?_
    exact hJ 15
set_option maxRecDepth 100000 in
def b_G12_ranked_0 (J : Nat → List qV → List qV → qW → Prop) (Q : qR) : qK := x_int 0 (x_istore 2 (x_cut [0, 1, 2] (J 2)))
set_option maxRecDepth 100000 in
theorem s_G12_ranked_0 {p : Program} {l : Launch} {e : Env} {R : Room} {s : State} {m : MethodId} {args : Array Value} {below : List Frame} {meth : Method} {c : Code} {nW : Nat} {dC : Nat → ClassId} {dI : Nat → Nat → Nat} {k : Nat → ClassId} {g : Nat → Nat} {A : Nat → Prop} {J : Nat → List qV → List qV → qW → Prop} {Q : qR} (X : q_X p R s m args meth c cX12_ranked 5 nW 0 0 RX12 (some .int) dC dI k g A) (hJ : ∀ d : Nat, q_Sd p l e R s m args below meth c 5 nW dC dI k g A (MQ below (q_post (dC, dI) k g nW Q A) args s 0 0 A) d (x_cut (is_G12_ranked d) (J d))) : q_Sd p l e R s m args below meth c 5 nW dC dI k g A (MQ below (q_post (dC, dI) k g nW Q A) args s 0 0 A) 0 (b_G12_ranked_0 J Q) := by
  unfold b_G12_ranked_0
  refine s_iconst X ⟨by decide, by decide⟩ dG12_ranked_0 ?_
  refine s_istore_n X rfl (by decide) dG12_ranked_1 ?_
  exact hJ 2

def spr_G12_ranked : List qV → qW → (Option qV → Prop) → Prop := fun av w Q => ∃ (mco : Int) (mre : Int) (mle : Int) (mbe : Int) (mso : Int) (mva : Int) (mwo : Int) (mwr : Int) (mlf : Int) (mlp : Int) (mfp : Int) (mfd : Int) (mgo : Int) (mbo : Int) (mpe : Int) (mye : Int) (mpr : Int) (mld : Int) (msi : Int) (mse : Int) (tl : Nat → Int) (a : Int), av = [q2 0, q1 a] ∧ w = [.inr (12, [q1 mco, q2 2, q2 3, q2 4, q2 5, q2 6, q2 7, q2 8, q2 9, q2 10, q1 mre, q1 mle, q1 mbe, q1 mso, q1 mva, q3 mwo, q1 mwr, q1 mlf, q1 mlp, q2 11, q2 12, q1 mfp, q1 mfd, q1 mgo, q1 mbo, q1 mpe, q1 mye, q2 1, q1 mpr, q2 13, q2 14, q2 15, q2 16, q1 mld, q2 17, q1 msi, q2 18, q2 19, q2 20, q2 21, q2 22, q1 mse, q2 23, q2 24, q2 25]), .inl (0, 8, .inl tl)] ∧ (0 ≤ mpe ∧ mpe ≤ 8) ∧ (∀ (r : Int) , RkT tl mpe a r → Q (some (q1 r)))
def sp_G12_ranked : qS := fun av w Q => spr_G12_ranked av w (fun r => Q r w)
def I_G12_ranked (mco : Int) (mre : Int) (mle : Int) (mbe : Int) (mso : Int) (mva : Int) (mwo : Int) (mwr : Int) (mlf : Int) (mlp : Int) (mfp : Int) (mfd : Int) (mgo : Int) (mbo : Int) (mpe : Int) (mye : Int) (mpr : Int) (mld : Int) (msi : Int) (mse : Int) (tl : Nat → Int) (a : Int) : Nat → Nat → List qV → List qV → qW → Prop := fun dz mz vz sz wz => if dz = 2 then (∃ (v2 : Int), vz = [q2 0, q1 a, q1 v2] ∧ sz = [] ∧ wz = [.inr (12, [q1 mco, q2 2, q2 3, q2 4, q2 5, q2 6, q2 7, q2 8, q2 9, q2 10, q1 mre, q1 mle, q1 mbe, q1 mso, q1 mva, q3 mwo, q1 mwr, q1 mlf, q1 mlp, q2 11, q2 12, q1 mfp, q1 mfd, q1 mgo, q1 mbo, q1 mpe, q1 mye, q2 1, q1 mpr, q2 13, q2 14, q2 15, q2 16, q1 mld, q2 17, q1 msi, q2 18, q2 19, q2 20, q2 21, q2 22, q1 mse, q2 23, q2 24, q2 25]), .inl (0, 8, .inl tl)] ∧ mz = 100 * (mpe - v2).toNat ∧ (0 ≤ v2 ∧ v2 ≤ mpe) ∧ (∀ p : Nat, (p : Int) < v2 → ¬ cnA tl p mpe.toNat = a)) else if dz = 15 then (∃ (v2 : Int) (v3 : Int) (v4 : Int), vz = [q2 0, q1 a, q1 v2, q1 v3, q1 v4] ∧ sz = [] ∧ wz = [.inr (12, [q1 mco, q2 2, q2 3, q2 4, q2 5, q2 6, q2 7, q2 8, q2 9, q2 10, q1 mre, q1 mle, q1 mbe, q1 mso, q1 mva, q3 mwo, q1 mwr, q1 mlf, q1 mlp, q2 11, q2 12, q1 mfp, q1 mfd, q1 mgo, q1 mbo, q1 mpe, q1 mye, q2 1, q1 mpr, q2 13, q2 14, q2 15, q2 16, q1 mld, q2 17, q1 msi, q2 18, q2 19, q2 20, q2 21, q2 22, q1 mse, q2 23, q2 24, q2 25]), .inl (0, 8, .inl tl)] ∧ mz = 100 * (mpe - v2).toNat - 50 + (mpe - v4).toNat ∧ (0 ≤ v2 ∧ v2 < mpe ∧ 0 ≤ v4 ∧ v4 ≤ mpe) ∧ (v3 = cnA tl v2 v4.toNat) ∧ (∀ p : Nat, (p : Int) < v2 → ¬ cnA tl p mpe.toNat = a)) else False
set_option maxHeartbeats 4000000 in
set_option maxRecDepth 100000 in
theorem m_G12_ranked (l : Launch) : q_M l yX12_ranked cX12_ranked 5 (some .int) 0 0 sp_G12_ranked := by
  refine q_meth (by decide) (fun av w Q h => by obtain ⟨mco, mre, mle, mbe, mso, mva, mwo, mwr, mlf, mlp, mfp, mfd, mgo, mbo, mpe, mye, mpr, mld, msi, mse, tl, a, rfl, rfl, hpe, hQ⟩ := h; exact Nat.le_of_ble_eq_true rfl) ?_
  intro p e R s m args below meth c dC dI k g A av w Q hsp oka okw X
  obtain ⟨mco, mre, mle, mbe, mso, mva, mwo, mwr, mlf, mlp, mfp, mfd, mgo, mbo, mpe, mye, mpr, mld, msi, mse, tl, a, rfl, rfl, hpe, hQ⟩ := hsp
  have o_a : -2147483648 ≤ a ∧ a ≤ 2147483647 := oka _ (List.mem_of_getElem? (i := 1) rfl)
  refine s_mono (s_G12_ranked_0 X (J := fun dz vz sz wz => ∃ mz, I_G12_ranked mco mre mle mbe mso mva mwo mwr mlf mlp mfp mfd mgo mbo mpe mye mpr mld msi mse tl a dz mz vz sz wz) (q_loopn (I_G12_ranked mco mre mle mbe mso mva mwo mwr mlf mlp mfp mfd mgo mbo mpe mye mpr mld msi mse tl a) (fun dz J => if dz = 2 then b_G12_ranked_2 J Q else if dz = 15 then b_G12_ranked_15 J Q else q_F) ?hs ?hv)) ?_
  case hs =>
    intro d J hJ
    by_cases h2 : d = 2
    · subst h2; exact s_G12_ranked_2 X hJ
    by_cases h15 : d = 15
    · subst h15; exact s_G12_ranked_15 X hJ
    simp only [h2, h15, if_false]
    exact s_F
  case hv =>
    intro dz mz vz sz wz hI okv oks okw hlen
    by_cases h2 : dz = 2
    · subst h2
      obtain ⟨v2, rfl, rfl, rfl, hn, hp, hq⟩ := hI
      apply And.intro
      · intro h7
        exact hQ _ (by first | exact RkT_y hq (show v3 = cnA tl v2 mpe.toNat by rw [show mpe = v4 by omega]; exact hc) (by omega) (by omega) | exact RkT_n hq (by omega))
      · intro h7
        exact ⟨_, ⟨_, _, _, rfl, rfl, rfl, rfl, (by first | omega | assumption | exact q_rg_up (by assumption) (by omega) | exact q_rg_up (q_rg_up (by assumption) (by omega)) (by omega) | exact q_rg_cpy (by assumption) (by assumption)), (by first | exact rk_s hc (by omega) (by omega) h68 (by rw [if_pos (by omega)]) | exact rk_s hc (by omega) (by omega) h68 (by rw [if_neg (by omega)]) | rfl), (by first | omega | assumption | exact q_rg_up (by assumption) (by omega) | exact q_rg_up (q_rg_up (by assumption) (by omega)) (by omega) | exact q_rg_cpy (by assumption) (by assumption))⟩, by omega⟩
    by_cases h15 : dz = 15
    · subst h15
      obtain ⟨v2, v3, v4, rfl, rfl, rfl, hn, hp, hc, hq⟩ := hI
      have d9 := cnA_rg (t := tl) (p := v2.toNat) v4.toNat
      rw [show ((v2.toNat : Nat) : Int) = v2 by omega, ← hc] at d9
      apply And.intro
      · intro h21
        apply And.intro
        · intro h78
          intro z83 h83
          first | replace h83 := e_add h83 (by omega) | replace h83 := e_rng h83
          exact ⟨_, ⟨_, rfl, rfl, rfl, rfl, (by first | omega | assumption | exact q_rg_up (by assumption) (by omega) | exact q_rg_up (q_rg_up (by assumption) (by omega)) (by omega) | exact q_rg_cpy (by assumption) (by assumption)), (by first | exact rk_q hq hc (by omega) (by omega) (by omega) (by omega) | (intro p hp9; exfalso; omega))⟩, by omega⟩
        · intro h78
          exact hQ _ (by first | exact RkT_y hq (show v3 = cnA tl v2 mpe.toNat by rw [show mpe = v4 by omega]; exact hc) (by omega) (by omega) | exact RkT_n hq (by omega))
      · intro h21
        apply And.intro
        · exact ⟨by omega, by omega⟩
        intro z31 h31
        apply And.intro
        · exact ⟨by omega, by omega⟩
        intro z37 h37
        apply And.intro
        · intro h38
          intro z68 h68
          first | replace h68 := e_add h68 (by omega) | replace h68 := e_rng h68
          intro z70 h70
          first | replace h70 := e_add h70 (by omega) | replace h70 := e_rng h70
          exact ⟨_, ⟨_, _, _, rfl, rfl, rfl, rfl, (by first | omega | assumption | exact q_rg_up (by assumption) (by omega) | exact q_rg_up (q_rg_up (by assumption) (by omega)) (by omega) | exact q_rg_cpy (by assumption) (by assumption)), (by first | exact rk_s hc (by omega) (by omega) h68 (by rw [if_pos (by omega)]) | exact rk_s hc (by omega) (by omega) h68 (by rw [if_neg (by omega)]) | rfl), (by first | omega | assumption | exact q_rg_up (by assumption) (by omega) | exact q_rg_up (q_rg_up (by assumption) (by omega)) (by omega) | exact q_rg_cpy (by assumption) (by assumption))⟩, by omega⟩
        · intro h38
          apply And.intro
          · exact ⟨by omega, by omega⟩
          intro z47 h47
          apply And.intro
          · exact ⟨by omega, by omega⟩
          intro z53 h53
          apply And.intro
          · intro h54
            intro z68 h68
            first | replace h68 := e_add h68 (by omega) | replace h68 := e_rng h68
            intro z70 h70
            first | replace h70 := e_add h70 (by omega) | replace h70 := e_rng h70
            exact ⟨_, ⟨_, _, _, rfl, rfl, rfl, rfl, (by first | omega | assumption | exact q_rg_up (by assumption) (by omega) | exact q_rg_up (q_rg_up (by assumption) (by omega)) (by omega) | exact q_rg_cpy (by assumption) (by assumption)), (by first | exact rk_s hc (by omega) (by omega) h68 (by rw [if_pos (by omega)]) | exact rk_s hc (by omega) (by omega) h68 (by rw [if_neg (by omega)]) | rfl), (by first | omega | assumption | exact q_rg_up (by assumption) (by omega) | exact q_rg_up (q_rg_up (by assumption) (by omega)) (by omega) | exact q_rg_cpy (by assumption) (by assumption))⟩, by omega⟩
          · intro h54
            apply And.intro
            · intro h60
              intro z68 h68
              first | replace h68 := e_add h68 (by omega) | replace h68 := e_rng h68
              intro z70 h70
              first | replace h70 := e_add h70 (by omega) | replace h70 := e_rng h70
              exact ⟨_, ⟨_, _, _, rfl, rfl, rfl, rfl, (by first | omega | assumption | exact q_rg_up (by assumption) (by omega) | exact q_rg_up (q_rg_up (by assumption) (by omega)) (by omega) | exact q_rg_cpy (by assumption) (by assumption)), (by first | exact rk_s hc (by omega) (by omega) h68 (by rw [if_pos (by omega)]) | exact rk_s hc (by omega) (by omega) h68 (by rw [if_neg (by omega)]) | rfl), (by first | omega | assumption | exact q_rg_up (by assumption) (by omega) | exact q_rg_up (q_rg_up (by assumption) (by omega)) (by omega) | exact q_rg_cpy (by assumption) (by assumption))⟩, by omega⟩
            · intro h60
              intro z68 h68
              first | replace h68 := e_add h68 (by omega) | replace h68 := e_rng h68
              intro z70 h70
              first | replace h70 := e_add h70 (by omega) | replace h70 := e_rng h70
              exact ⟨_, ⟨_, _, _, rfl, rfl, rfl, rfl, (by first | omega | assumption | exact q_rg_up (by assumption) (by omega) | exact q_rg_up (q_rg_up (by assumption) (by omega)) (by omega) | exact q_rg_cpy (by assumption) (by assumption)), (by first | exact rk_s hc (by omega) (by omega) h68 (by rw [if_pos (by omega)]) | exact rk_s hc (by omega) (by omega) h68 (by rw [if_neg (by omega)]) | rfl), (by first | omega | assumption | exact q_rg_up (by assumption) (by omega) | exact q_rg_up (q_rg_up (by assumption) (by omega)) (by omega) | exact q_rg_cpy (by assumption) (by assumption))⟩, by omega⟩
    simp only [I_G12_ranked, h2, h15, if_false] at hI
  rintro lv st w' ⟨rfl, rfl, rfl⟩
  exact ⟨_, _, rfl, rfl, rfl, rfl, (by first | omega | assumption | exact q_rg_up (by assumption) (by omega) | exact q_rg_up (q_rg_up (by assumption) (by omega)) (by omega) | exact q_rg_cpy (by assumption) (by assumption)), (by first | exact rk_q hq hc (by omega) (by omega) (by omega) (by omega) | (intro p hp9; exfalso; omega))⟩

theorem dG12_hats_0 : decode cX12_hats 0 = .ok (.aload_n 0, 1) := by decide +kernel
theorem dG12_hats_1 : decode cX12_hats 1 = .ok (.iconst 0, 1) := by decide +kernel
theorem dG12_hats_2 : decode cX12_hats 2 = .ok (.putfield 88, 3) := by decide +kernel
theorem dG12_hats_5 : decode cX12_hats 5 = .ok (.aload_n 0, 1) := by decide +kernel
theorem dG12_hats_6 : decode cX12_hats 6 = .ok (.iload_n 1, 1) := by decide +kernel
theorem dG12_hats_7 : decode cX12_hats 7 = .ok (.invokevirtual 306, 3) := by decide +kernel
theorem dG12_hats_10 : decode cX12_hats 10 = .ok (.ifCond .ne 5, 3) := by decide +kernel
theorem dG12_hats_13 : decode cX12_hats 13 = .ok (.iconst (-1), 1) := by decide +kernel
theorem dG12_hats_14 : decode cX12_hats 14 = .ok (.ireturn, 1) := by decide +kernel
theorem dG12_hats_15 : decode cX12_hats 15 = .ok (.aload_n 0, 1) := by decide +kernel
theorem dG12_hats_16 : decode cX12_hats 16 = .ok (.invokevirtual 345, 3) := by decide +kernel
theorem dG12_hats_19 : decode cX12_hats 19 = .ok (.iconst 0, 1) := by decide +kernel
theorem dG12_hats_20 : decode cX12_hats 20 = .ok (.istore_n 3, 1) := by decide +kernel
theorem dG12_hats_21 : decode cX12_hats 21 = .ok (.iconst 0, 1) := by decide +kernel
theorem dG12_hats_22 : decode cX12_hats 22 = .ok (.istore 4, 2) := by decide +kernel
theorem dG12_hats_24 : decode cX12_hats 24 = .ok (.aload_n 0, 1) := by decide +kernel
theorem dG12_hats_25 : decode cX12_hats 25 = .ok (.getfield 303, 3) := by decide +kernel
theorem dG12_hats_28 : decode cX12_hats 28 = .ok (.iconst 1, 1) := by decide +kernel
theorem dG12_hats_29 : decode cX12_hats 29 = .ok (.isub, 1) := by decide +kernel
theorem dG12_hats_30 : decode cX12_hats 30 = .ok (.istore 5, 2) := by decide +kernel
theorem dG12_hats_32 : decode cX12_hats 32 = .ok (.iload 5, 2) := by decide +kernel
theorem dG12_hats_34 : decode cX12_hats 34 = .ok (.ifCond .lt 50, 3) := by decide +kernel
theorem dG12_hats_37 : decode cX12_hats 37 = .ok (.aload_n 0, 1) := by decide +kernel
theorem dG12_hats_38 : decode cX12_hats 38 = .ok (.getfield 44, 3) := by decide +kernel
theorem dG12_hats_41 : decode cX12_hats 41 = .ok (.aload_n 0, 1) := by decide +kernel
theorem dG12_hats_42 : decode cX12_hats 42 = .ok (.iload 5, 2) := by decide +kernel
theorem dG12_hats_44 : decode cX12_hats 44 = .ok (.invokevirtual 357, 3) := by decide +kernel
theorem dG12_hats_47 : decode cX12_hats 47 = .ok (.iaload, 1) := by decide +kernel
theorem dG12_hats_48 : decode cX12_hats 48 = .ok (.iload 4, 2) := by decide +kernel
theorem dG12_hats_50 : decode cX12_hats 50 = .ok (.iconst 1, 1) := by decide +kernel
theorem dG12_hats_51 : decode cX12_hats 51 = .ok (.iadd, 1) := by decide +kernel
theorem dG12_hats_52 : decode cX12_hats 52 = .ok (.invokestatic 162, 3) := by decide +kernel
theorem dG12_hats_55 : decode cX12_hats 55 = .ok (.istore 6, 2) := by decide +kernel
theorem dG12_hats_57 : decode cX12_hats 57 = .ok (.iload_n 3, 1) := by decide +kernel
theorem dG12_hats_58 : decode cX12_hats 58 = .ok (.iload 6, 2) := by decide +kernel
theorem dG12_hats_60 : decode cX12_hats 60 = .ok (.aload_n 0, 1) := by decide +kernel
theorem dG12_hats_61 : decode cX12_hats 61 = .ok (.getfield 44, 3) := by decide +kernel
theorem dG12_hats_64 : decode cX12_hats 64 = .ok (.aload_n 0, 1) := by decide +kernel
theorem dG12_hats_65 : decode cX12_hats 65 = .ok (.iload 5, 2) := by decide +kernel
theorem dG12_hats_67 : decode cX12_hats 67 = .ok (.invokevirtual 357, 3) := by decide +kernel
theorem dG12_hats_70 : decode cX12_hats 70 = .ok (.iaload, 1) := by decide +kernel
theorem dG12_hats_71 : decode cX12_hats 71 = .ok (.isub, 1) := by decide +kernel
theorem dG12_hats_72 : decode cX12_hats 72 = .ok (.iadd, 1) := by decide +kernel
theorem dG12_hats_73 : decode cX12_hats 73 = .ok (.istore_n 3, 1) := by decide +kernel
theorem dG12_hats_74 : decode cX12_hats 74 = .ok (.iload 6, 2) := by decide +kernel
theorem dG12_hats_76 : decode cX12_hats 76 = .ok (.istore 4, 2) := by decide +kernel
theorem dG12_hats_78 : decode cX12_hats 78 = .ok (.iinc 5 (-1), 3) := by decide +kernel
theorem dG12_hats_81 : decode cX12_hats 81 = .ok (.goto (-49), 3) := by decide +kernel
theorem dG12_hats_84 : decode cX12_hats 84 = .ok (.iload_n 2, 1) := by decide +kernel
theorem dG12_hats_85 : decode cX12_hats 85 = .ok (.ifCond .eq 8, 3) := by decide +kernel
theorem dG12_hats_88 : decode cX12_hats 88 = .ok (.iload 4, 2) := by decide +kernel
theorem dG12_hats_90 : decode cX12_hats 90 = .ok (.goto 4, 3) := by decide +kernel
theorem dG12_hats_93 : decode cX12_hats 93 = .ok (.iload_n 3, 1) := by decide +kernel
theorem dG12_hats_94 : decode cX12_hats 94 = .ok (.ireturn, 1) := by decide +kernel
def is_G12_hats : Nat → List Nat := fun d => if d = 32 then [0, 2, 3, 4, 5] else []
set_option maxRecDepth 100000 in
def b_G12_hats_94 (J : Nat → List qV → List qV → qW → Prop) (Q : qR) : qK := x_iret Q
set_option maxRecDepth 100000 in
theorem s_G12_hats_94 {p : Program} {l : Launch} {e : Env} {R : Room} {s : State} {m : MethodId} {args : Array Value} {below : List Frame} {meth : Method} {c : Code} {nW : Nat} {dC : Nat → ClassId} {dI : Nat → Nat → Nat} {k : Nat → ClassId} {g : Nat → Nat} {A : Nat → Prop} {J : Nat → List qV → List qV → qW → Prop} {Q : qR} (X : q_X p R s m args meth c cX12_hats 7 nW 3 65 RX12 (some .int) dC dI k g A) (hJ : ∀ d : Nat, q_Sd p l e R s m args below meth c 7 nW dC dI k g A (MQ below (q_post (dC, dI) k g nW Q A) args s 0 0 A) d (x_cut (is_G12_hats d) (J d))) : q_Sd p l e R s m args below meth c 7 nW dC dI k g A (MQ below (q_post (dC, dI) k g nW Q A) args s 0 0 A) 94 (b_G12_hats_94 J Q) := by
  unfold b_G12_hats_94
  exact s_iret X dG12_hats_94
set_option maxRecDepth 100000 in
def b_G12_hats_74 (J : Nat → List qV → List qV → qW → Prop) (Q : qR) : qK := x_iload 6 (x_istore 4 (x_iinc 5 (-1) (x_cut [0, 2, 3, 4, 5] (J 32))))
set_option maxRecDepth 100000 in
theorem s_G12_hats_74 {p : Program} {l : Launch} {e : Env} {R : Room} {s : State} {m : MethodId} {args : Array Value} {below : List Frame} {meth : Method} {c : Code} {nW : Nat} {dC : Nat → ClassId} {dI : Nat → Nat → Nat} {k : Nat → ClassId} {g : Nat → Nat} {A : Nat → Prop} {J : Nat → List qV → List qV → qW → Prop} {Q : qR} (X : q_X p R s m args meth c cX12_hats 7 nW 3 65 RX12 (some .int) dC dI k g A) (hJ : ∀ d : Nat, q_Sd p l e R s m args below meth c 7 nW dC dI k g A (MQ below (q_post (dC, dI) k g nW Q A) args s 0 0 A) d (x_cut (is_G12_hats d) (J d))) : q_Sd p l e R s m args below meth c 7 nW dC dI k g A (MQ below (q_post (dC, dI) k g nW Q A) args s 0 0 A) 74 (b_G12_hats_74 J Q) := by
  unfold b_G12_hats_74
  refine s_iload X dG12_hats_74 ?_
  refine s_istore X (by decide) dG12_hats_76 ?_
  refine s_iinc X (by decide) dG12_hats_78 ?_
  refine s_goto X (tgt := 32) dG12_hats_81 (by decide) ?_
  exact hJ 32
set_option maxRecDepth 100000 in
def b_G12_hats_32 (J : Nat → List qV → List qV → qW → Prop) (Q : qR) : qK := x_iload 5 (x_if_lt (x_iload 2 (x_if_eq (x_iload 3 (b_G12_hats_94 J Q)) (x_iload 4 (b_G12_hats_94 J Q)))) (x_aload 0 (x_get 12 27 (x_aload 0 (x_iload 5 (x_callr (some 12) 2 spr_G12_ranked (x_iald (x_iload 4 (x_int 1 (x_iadd (x_callr none 2 spr_X12_greater (x_istore 6 (x_iload 3 (x_iload 6 (x_aload 0 (x_get 12 27 (x_aload 0 (x_iload 5 (x_callr (some 12) 2 spr_G12_ranked (x_iald (x_isub (x_iadd (x_istore 3 (b_G12_hats_74 J Q))))))))))))))))))))))))
set_option maxRecDepth 100000 in
theorem s_G12_hats_32 {p : Program} {l : Launch} {e : Env} {R : Room} {s : State} {m : MethodId} {args : Array Value} {below : List Frame} {meth : Method} {c : Code} {nW : Nat} {dC : Nat → ClassId} {dI : Nat → Nat → Nat} {k : Nat → ClassId} {g : Nat → Nat} {A : Nat → Prop} {J : Nat → List qV → List qV → qW → Prop} {Q : qR} (X : q_X p R s m args meth c cX12_hats 7 nW 3 65 RX12 (some .int) dC dI k g A) (hJ : ∀ d : Nat, q_Sd p l e R s m args below meth c 7 nW dC dI k g A (MQ below (q_post (dC, dI) k g nW Q A) args s 0 0 A) d (x_cut (is_G12_hats d) (J d))) : q_Sd p l e R s m args below meth c 7 nW dC dI k g A (MQ below (q_post (dC, dI) k g nW Q A) args s 0 0 A) 32 (b_G12_hats_32 J Q) := by
  unfold b_G12_hats_32
  refine s_iload X dG12_hats_32 ?_
  refine s_if_lt X (tgt := 84) dG12_hats_34 (by decide) ?_ ?_
  · refine s_iload_n X rfl dG12_hats_84 ?_
    refine s_if_eq X (tgt := 93) dG12_hats_85 (by decide) ?_ ?_
    · refine s_iload_n X rfl dG12_hats_93 ?_
      exact s_G12_hats_94 X hJ
    · refine s_iload X dG12_hats_88 ?_
      refine s_goto X (tgt := 94) dG12_hats_90 (by decide) ?_
      exact s_G12_hats_94 X hJ
  · refine s_aload_n X rfl dG12_hats_37 ?_
    refine s_get X (T := TX12) (C := RX12) (N := 45) tu_X12 rfl (by decide) tw_1024 dG12_hats_38 ?_
    refine s_aload_n X rfl dG12_hats_41 ?_
    refine s_iload X dG12_hats_42 ?_
    refine s_callVr X (m_G12_ranked l) tw_1252 tw_1253 tw_1611 tw_134 tw_1254 rfl (by decide +kernel) ⟨by decide, by decide⟩ dG12_hats_44 ?_
    refine s_iald X dG12_hats_47 ?_
    refine s_iload X dG12_hats_48 ?_
    refine s_iconst X ⟨by decide, by decide⟩ dG12_hats_50 ?_
    refine s_iadd X dG12_hats_51 ?_
    refine s_callSr X (m_X12_greater l) tw_1118 tw_1119 tw_134 tw_1120 (by decide +kernel) ⟨by decide, by decide⟩ dG12_hats_52 ?_
    refine s_istore X (by decide) dG12_hats_55 ?_
    refine s_iload_n X rfl dG12_hats_57 ?_
    refine s_iload X dG12_hats_58 ?_
    refine s_aload_n X rfl dG12_hats_60 ?_
    refine s_get X (T := TX12) (C := RX12) (N := 45) tu_X12 rfl (by decide) tw_1024 dG12_hats_61 ?_
    refine s_aload_n X rfl dG12_hats_64 ?_
    refine s_iload X dG12_hats_65 ?_
    refine s_callVr X (m_G12_ranked l) tw_1252 tw_1253 tw_1611 tw_134 tw_1254 rfl (by decide +kernel) ⟨by decide, by decide⟩ dG12_hats_67 ?_
    refine s_iald X dG12_hats_70 ?_
    refine s_isub X dG12_hats_71 ?_
    refine s_iadd X dG12_hats_72 ?_
    refine s_istore_n X rfl (by decide) dG12_hats_73 ?_
    exact s_G12_hats_74 X hJ
set_option maxRecDepth 100000 in
def b_G12_hats_0 (J : Nat → List qV → List qV → qW → Prop) (Q : qR) : qK := x_aload 0 (x_int 0 (x_put 12 0 q_oki (x_nw (x_aload 0 (x_iload 1 (x_call (some 12) 2 sp_G12_hand (x_nw (x_if_ne (x_aload 0 (x_call (some 12) 1 sp_G12_begin (x_nw (x_int 0 (x_istore 3 (x_int 0 (x_istore 4 (x_aload 0 (x_get 12 25 (x_int 1 (x_isub (x_istore 5 (x_cut [0, 2, 3, 4, 5] (J 32)))))))))))))) (x_int (-1) (x_iret Q))))))))))
set_option maxRecDepth 100000 in
theorem s_G12_hats_0 {p : Program} {l : Launch} {e : Env} {R : Room} {s : State} {m : MethodId} {args : Array Value} {below : List Frame} {meth : Method} {c : Code} {nW : Nat} {dC : Nat → ClassId} {dI : Nat → Nat → Nat} {k : Nat → ClassId} {g : Nat → Nat} {A : Nat → Prop} {J : Nat → List qV → List qV → qW → Prop} {Q : qR} (X : q_X p R s m args meth c cX12_hats 7 nW 3 65 RX12 (some .int) dC dI k g A) (hJ : ∀ d : Nat, q_Sd p l e R s m args below meth c 7 nW dC dI k g A (MQ below (q_post (dC, dI) k g nW Q A) args s 0 0 A) d (x_cut (is_G12_hats d) (J d))) : q_Sd p l e R s m args below meth c 7 nW dC dI k g A (MQ below (q_post (dC, dI) k g nW Q A) args s 0 0 A) 0 (b_G12_hats_0 J Q) := by
  unfold b_G12_hats_0
  refine s_aload_n X rfl dG12_hats_0 ?_
  refine s_iconst X ⟨by decide, by decide⟩ dG12_hats_1 ?_
  refine s_put X (T := TX12) (C := RX12) (N := 45) tu_X12 tyX12_ok nmX12 rfl (by decide) tw_997 rfl (by decide +kernel) q_oki_t dG12_hats_2 ?_
  refine s_nw ?_
  refine s_aload_n X rfl dG12_hats_5 ?_
  refine s_iload_n X rfl dG12_hats_6 ?_
  refine s_callV X (m_G12_hand l) tw_1186 tw_1187 tw_1585 tw_134 tw_1188 rfl (by decide +kernel) ⟨by decide, by decide⟩ dG12_hats_7 ?_
  refine s_nw ?_
  refine s_if_ne X (tgt := 15) dG12_hats_10 (by decide) ?_ ?_
  · refine s_aload_n X rfl dG12_hats_15 ?_
    refine s_callV X (m_G12_begin l) tw_1218 tw_1219 tw_1549 tw_134 tw_1220 rfl (by decide +kernel) ⟨by decide, by decide⟩ dG12_hats_16 ?_
    refine s_nw ?_
    refine s_iconst X ⟨by decide, by decide⟩ dG12_hats_19 ?_
    refine s_istore_n X rfl (by decide) dG12_hats_20 ?_
    refine s_iconst X ⟨by decide, by decide⟩ dG12_hats_21 ?_
    refine s_istore X (by decide) dG12_hats_22 ?_
    refine s_aload_n X rfl dG12_hats_24 ?_
    refine s_get X (T := TX12) (C := RX12) (N := 45) tu_X12 rfl (by decide) tw_1022 dG12_hats_25 ?_
    refine s_iconst X ⟨by decide, by decide⟩ dG12_hats_28 ?_
    refine s_isub X dG12_hats_29 ?_
    refine s_istore X (by decide) dG12_hats_30 ?_
    exact hJ 32
  · refine s_iconst X ⟨by decide, by decide⟩ dG12_hats_13 ?_
    exact s_iret X dG12_hats_14

def sp_G12_hats : qS := fun av w Q => ∃ (mco : Int) (mre : Int) (mle : Int) (mbe : Int) (mso : Int) (mva : Int) (mwo : Int) (mwr : Int) (mlf : Int) (mlp : Int) (mfp : Int) (mfd : Int) (mgo : Int) (mbo : Int) (mpe : Int) (mye : Int) (mpr : Int) (mld : Int) (msi : Int) (mse : Int) (mn : Nat → Int) (bs : Nat → Int) (tl : Nat → Int) (a : Int) (b : Int), av = [q2 0, q1 a, q1 b] ∧ w = [.inr (12, [q1 mco, q2 4, q2 5, q2 6, q2 7, q2 1, q2 2, q2 8, q2 9, q2 10, q1 mre, q1 mle, q1 mbe, q1 mso, q1 mva, q3 mwo, q1 mwr, q1 mlf, q1 mlp, q2 11, q2 12, q1 mfp, q1 mfd, q1 mgo, q1 mbo, q1 mpe, q1 mye, q2 3, q1 mpr, q2 13, q2 14, q2 15, q2 16, q1 mld, q2 17, q1 msi, q2 18, q2 19, q2 20, q2 21, q2 22, q1 mse, q2 23, q2 24, q2 25]), .inl (0, 16, .inl mn), .inl (0, 600, .inl bs), .inl (0, 8, .inl tl)] ∧ (q_rg 0 2 mn) ∧ (BI bs) ∧ (RGM bs (mn (0 : Int).toNat)) ∧ (∀ (r : Int) (x_mco : Int) (x_mbo : Int) (x_mpe : Int) (x_tl : Nat → Int) (x_mpr : Int), (bM (mn (0 : Int).toNat) bs a (-1) r (fun D z => HtA D b z)) → Q (some (q1 r)) ([.inr (12, [q1 x_mco, q2 4, q2 5, q2 6, q2 7, q2 1, q2 2, q2 8, q2 9, q2 10, q1 mre, q1 mle, q1 mbe, q1 mso, q1 mva, q3 mwo, q1 mwr, q1 mlf, q1 mlp, q2 11, q2 12, q1 mfp, q1 mfd, q1 mgo, q1 x_mbo, q1 x_mpe, q1 mye, q2 3, q1 x_mpr, q2 13, q2 14, q2 15, q2 16, q1 mld, q2 17, q1 msi, q2 18, q2 19, q2 20, q2 21, q2 22, q1 mse, q2 23, q2 24, q2 25]), .inl (0, 16, .inl mn), .inl (0, 600, .inl bs), .inl (0, 8, .inl x_tl)]))
def I_G12_hats (mco : Int) (mre : Int) (mle : Int) (mbe : Int) (mso : Int) (mva : Int) (mwo : Int) (mwr : Int) (mlf : Int) (mlp : Int) (mfp : Int) (mfd : Int) (mgo : Int) (mbo : Int) (mpe : Int) (mye : Int) (mpr : Int) (mld : Int) (msi : Int) (mse : Int) (mn : Nat → Int) (bs : Nat → Int) (tl : Nat → Int) (a : Int) (b : Int) : Nat → Nat → List qV → List qV → qW → Prop := fun dz mz vz sz wz => if dz = 32 then (∃ (y_mco : Int) (y_mbo : Int) (y_mpe : Int) (y_tl : Nat → Int) (y_mpr : Int) (v3 : Int) (v4 : Int) (v5 : Int), vz = [q2 0, q1 b, q1 v3, q1 v4, q1 v5] ∧ sz = [] ∧ wz = [.inr (12, [q1 y_mco, q2 4, q2 5, q2 6, q2 7, q2 1, q2 2, q2 8, q2 9, q2 10, q1 mre, q1 mle, q1 mbe, q1 mso, q1 mva, q3 mwo, q1 mwr, q1 mlf, q1 mlp, q2 11, q2 12, q1 mfp, q1 mfd, q1 mgo, q1 y_mbo, q1 y_mpe, q1 mye, q2 3, q1 y_mpr, q2 13, q2 14, q2 15, q2 16, q1 mld, q2 17, q1 msi, q2 18, q2 19, q2 20, q2 21, q2 22, q1 mse, q2 23, q2 24, q2 25]), .inl (0, 16, .inl mn), .inl (0, 600, .inl bs), .inl (0, 8, .inl y_tl)] ∧ mz = (v5 + 1).toNat ∧ (0 ≤ y_mbo ∧ y_mbo ≤ 1 ∧ 0 ≤ y_mpe ∧ y_mpe ≤ 8) ∧ (-1 ≤ v5 ∧ v5 < y_mpe) ∧ (y_mbo = a ∧ 0 ≤ a ∧ a < mn (0 : Int).toNat) ∧ (y_mpe = (rwD bs (75 * a).toNat) 0) ∧ (∀ i : Nat, i < 8 → y_tl i = (inW (rwD bs (75 * a).toNat)) i) ∧ (HtI (inW (rwD bs (75 * a).toNat)) y_mpe.toNat (y_mpe - 1 - v5) v4 v3)) else False
set_option maxHeartbeats 4000000 in
set_option maxRecDepth 100000 in
theorem m_G12_hats (l : Launch) : q_M l yX12_hats cX12_hats 7 (some .int) 3 65 sp_G12_hats := by
  refine q_meth (by decide) (fun av w Q h => by obtain ⟨mco, mre, mle, mbe, mso, mva, mwo, mwr, mlf, mlp, mfp, mfd, mgo, mbo, mpe, mye, mpr, mld, msi, mse, mn, bs, tl, a, b, rfl, rfl, hmn, hbi, hrg, hQ⟩ := h; exact Nat.le_of_ble_eq_true rfl) ?_
  intro p e R s m args below meth c dC dI k g A av w Q hsp oka okw X
  obtain ⟨mco, mre, mle, mbe, mso, mva, mwo, mwr, mlf, mlp, mfp, mfd, mgo, mbo, mpe, mye, mpr, mld, msi, mse, mn, bs, tl, a, b, rfl, rfl, hmn, hbi, hrg, hQ⟩ := hsp
  have o_a : -2147483648 ≤ a ∧ a ≤ 2147483647 := oka _ (List.mem_of_getElem? (i := 1) rfl)
  have o_b : -2147483648 ≤ b ∧ b ≤ 2147483647 := oka _ (List.mem_of_getElem? (i := 2) rfl)
  refine s_mono (s_G12_hats_0 X (J := fun dz vz sz wz => ∃ mz, I_G12_hats mco mre mle mbe mso mva mwo mwr mlf mlp mfp mfd mgo mbo mpe mye mpr mld msi mse mn bs tl a b dz mz vz sz wz) (q_loopn (I_G12_hats mco mre mle mbe mso mva mwo mwr mlf mlp mfp mfd mgo mbo mpe mye mpr mld msi mse mn bs tl a b) (fun dz J => if dz = 32 then b_G12_hats_32 J Q else q_F) ?hs ?hv)) ?_
  case hs =>
    intro d J hJ
    by_cases h32 : d = 32
    · subst h32; exact s_G12_hats_32 X hJ
    simp only [h32, if_false]
    exact s_F
  case hv =>
    intro dz mz vz sz wz hI okv oks okw hlen
    by_cases h32 : dz = 32
    · subst h32
      obtain ⟨y_mco, y_mbo, y_mpe, y_tl, y_mpr, v3, v4, v5, rfl, rfl, rfl, hn, hyb, hp, hya, hyd, htl, hs9⟩ := hI
      have rg9 := HtI_rg hs9 (by omega)
      apply And.intro
      · intro h34
        apply And.intro
        · intro h85
          exact hQ _ _ _ _ _ _ (by first | exact Or.inr ⟨h7, rfl⟩ | exact Or.inl ⟨⟨hya.2.1, hya.2.2⟩, v4, v3, by rw [← hyd]; have g9 := hs9; rw [show y_mpe - 1 - v5 = y_mpe by omega] at g9; exact g9, by first | exact Or.inl ⟨by omega, rfl⟩ | exact Or.inr ⟨by omega, rfl⟩⟩)
        · intro h85
          exact hQ _ _ _ _ _ _ (by first | exact Or.inr ⟨h7, rfl⟩ | exact Or.inl ⟨⟨hya.2.1, hya.2.2⟩, v4, v3, by rw [← hyd]; have g9 := hs9; rw [show y_mpe - 1 - v5 = y_mpe by omega] at g9; exact g9, by first | exact Or.inl ⟨by omega, rfl⟩ | exact Or.inr ⟨by omega, rfl⟩⟩)
      · intro h34
        refine Exists.intro [0, 3, 4, 5, 6, 7, 1, 2, 8, 9, 10, 11, 12, 13, 14, 15, 16, 17, 18, 19, 20, 21, 22, 23, 24, 25] (Exists.intro [q2 0, q1 _] (Exists.intro ([.inr (12, [q1 _, q2 2, q2 3, q2 4, q2 5, q2 6, q2 7, q2 8, q2 9, q2 10, q1 _, q1 _, q1 _, q1 _, q1 _, q3 _, q1 _, q1 _, q1 _, q2 11, q2 12, q1 _, q1 _, q1 _, q1 _, q1 _, q1 _, q2 1, q1 _, q2 13, q2 14, q2 15, q2 16, q1 _, q2 17, q1 _, q2 18, q2 19, q2 20, q2 21, q2 22, q1 _, q2 23, q2 24, q2 25]), .inl (0, 8, .inl _)]) (And.intro rfl (And.intro rfl (And.intro rfl (And.intro ⟨⟨_, rfl⟩, rfl⟩ ?_))))))
        refine Exists.intro _ (Exists.intro _ (Exists.intro _ (Exists.intro _ (Exists.intro _ (Exists.intro _ (Exists.intro _ (Exists.intro _ (Exists.intro _ (Exists.intro _ (Exists.intro _ (Exists.intro _ (Exists.intro _ (Exists.intro _ (Exists.intro _ (Exists.intro _ (Exists.intro _ (Exists.intro _ (Exists.intro _ (Exists.intro _ (Exists.intro _ (Exists.intro _ (And.intro rfl (And.intro rfl (And.intro (by first | omega | assumption | exact q_rg_up (by assumption) (by omega) | exact q_rg_up (q_rg_up (by assumption) (by omega)) (by omega) | exact q_rg_cpy (by assumption) (by assumption)) (?_)))))))))))))))))))))))))
        intro z44 h44
        have g44 := RkT_0 h44 (by omega)
        apply And.intro
        · exact ⟨by omega, by omega⟩
        intro z47 h47
        have s47 := rk_So (T := (inW (rwD bs (75 * a).toNat))) (p := y_mpe - 1 - v5) htl (by omega) (show (0 ≤ z44 ∧ z44 < ((y_mpe.toNat : Nat) : Int)) ∧ cnA y_tl z44 y_mpe.toNat = v5 from ⟨by omega, g44.2⟩) (by omega) h47
        have r47 := SoP_rg (inW_rg (RGM_a (m := a) hrg (by omega)) (by omega)) s47 (by omega)
        intro z51 h51
        first | replace h51 := e_add h51 (by omega) | replace h51 := e_rng h51
        refine Exists.intro [] (Exists.intro [q1 _, q1 _] (Exists.intro [] (And.intro rfl (And.intro rfl (And.intro rfl (And.intro trivial ?_))))))
        refine Exists.intro _ (Exists.intro _ (And.intro rfl (And.intro rfl (?_))))
        intro z52 h52
        refine Exists.intro [0, 3, 4, 5, 6, 7, 1, 2, 8, 9, 10, 11, 12, 13, 14, 15, 16, 17, 18, 19, 20, 21, 22, 23, 24, 25] (Exists.intro [q2 0, q1 _] (Exists.intro ([.inr (12, [q1 _, q2 2, q2 3, q2 4, q2 5, q2 6, q2 7, q2 8, q2 9, q2 10, q1 _, q1 _, q1 _, q1 _, q1 _, q3 _, q1 _, q1 _, q1 _, q2 11, q2 12, q1 _, q1 _, q1 _, q1 _, q1 _, q1 _, q2 1, q1 _, q2 13, q2 14, q2 15, q2 16, q1 _, q2 17, q1 _, q2 18, q2 19, q2 20, q2 21, q2 22, q1 _, q2 23, q2 24, q2 25]), .inl (0, 8, .inl _)]) (And.intro rfl (And.intro rfl (And.intro rfl (And.intro ⟨⟨_, rfl⟩, rfl⟩ ?_))))))
        refine Exists.intro _ (Exists.intro _ (Exists.intro _ (Exists.intro _ (Exists.intro _ (Exists.intro _ (Exists.intro _ (Exists.intro _ (Exists.intro _ (Exists.intro _ (Exists.intro _ (Exists.intro _ (Exists.intro _ (Exists.intro _ (Exists.intro _ (Exists.intro _ (Exists.intro _ (Exists.intro _ (Exists.intro _ (Exists.intro _ (Exists.intro _ (Exists.intro _ (And.intro rfl (And.intro rfl (And.intro (by first | omega | assumption | exact q_rg_up (by assumption) (by omega) | exact q_rg_up (q_rg_up (by assumption) (by omega)) (by omega) | exact q_rg_cpy (by assumption) (by assumption)) (?_)))))))))))))))))))))))))
        intro z67 h67
        have e67 := RkT_u h67 h44
        apply And.intro
        · exact ⟨by omega, by omega⟩
        intro z70 h70
        have e70 : z70 = z47 := by rw [h70, h47, e67]
        intro z71 h71
        first | replace h71 := e_sub h71 (by omega) | replace h71 := e_rng h71
        intro z72 h72
        first | replace h72 := e_add h72 (by omega) | replace h72 := e_rng h72
        intro z78 h78
        first | replace h78 := e_add h78 (by omega) | replace h78 := e_rng h78
        exact ⟨_, ⟨_, _, _, _, _, _, _, _, rfl, rfl, rfl, rfl, (by first | omega | assumption | exact q_rg_up (by assumption) (by omega) | exact q_rg_up (q_rg_up (by assumption) (by omega)) (by omega) | exact q_rg_cpy (by assumption) (by assumption)), (by first | omega | assumption | exact q_rg_up (by assumption) (by omega) | exact q_rg_up (q_rg_up (by assumption) (by omega)) (by omega) | exact q_rg_cpy (by assumption) (by assumption)), (by first | assumption | exact ⟨h7.1, h7.2.1.1, h7.2.1.2⟩), (by first | assumption | exact hu7), (by first | assumption | exact fun i hi => h16.1 i hi), (by first | (rw [show x_mpe_7 - 1 - z29 = 0 by omega]; exact HtI_0) | exact HtI_s hs9 (by omega) s47 r47 (by omega) (by omega) (by omega))⟩, by omega⟩
    simp only [I_G12_hats, h32, if_false] at hI
  rintro lv st w' ⟨rfl, rfl, rfl⟩
  apply And.intro
  · exact trivial
  refine Exists.intro [0, 1, 2, 4, 5, 6, 7, 8, 9, 10, 11, 12, 3, 13, 14, 15, 16, 17, 18, 19, 20, 21, 22, 23, 24, 25] (Exists.intro [q2 0, q1 _] (Exists.intro ([.inr (12, [q1 _, q2 3, q2 4, q2 5, q2 6, q2 1, q2 2, q2 7, q2 8, q2 9, q1 _, q1 _, q1 _, q1 _, q1 _, q3 _, q1 _, q1 _, q1 _, q2 10, q2 11, q1 _, q1 _, q1 _, q1 _, q1 _, q1 _, q2 12, q1 _, q2 13, q2 14, q2 15, q2 16, q1 _, q2 17, q1 _, q2 18, q2 19, q2 20, q2 21, q2 22, q1 _, q2 23, q2 24, q2 25]), .inl (0, 16, .inl _), .inl (0, 600, .inl _)]) (And.intro rfl (And.intro rfl (And.intro rfl (And.intro ⟨⟨_, rfl⟩, rfl⟩ ?_))))))
  refine Exists.intro _ (Exists.intro _ (Exists.intro _ (Exists.intro _ (Exists.intro _ (Exists.intro _ (Exists.intro _ (Exists.intro _ (Exists.intro _ (Exists.intro _ (Exists.intro _ (Exists.intro _ (Exists.intro _ (Exists.intro _ (Exists.intro _ (Exists.intro _ (Exists.intro _ (Exists.intro _ (Exists.intro _ (Exists.intro _ (Exists.intro _ (Exists.intro _ (Exists.intro _ (And.intro rfl (And.intro rfl (And.intro (by first | omega | assumption | exact q_rg_up (by assumption) (by omega) | exact q_rg_up (q_rg_up (by assumption) (by omega)) (by omega) | exact q_rg_cpy (by assumption) (by assumption)) (And.intro (by first | omega | assumption | exact q_rg_up (by assumption) (by omega) | exact q_rg_up (q_rg_up (by assumption) (by omega)) (by omega) | exact q_rg_cpy (by assumption) (by assumption)) (?_)))))))))))))))))))))))))))
  intro z7 x_mbo_7 x_mpe_7 h7
  apply And.intro
  · intro h10
    first | replace h7 := dj1 h7 h10 | replace h7 := dj0 h7 h10
    have hu7 : x_mpe_7 = rwD bs (75 * x_mbo_7).toNat 0 := ob (y := 0) rfl (by omega) h7.2.2.2.2.2 (by decide)
    rw [show x_mbo_7 = a by omega] at hu7
    refine Exists.intro [0, 3, 2, 4, 5, 6, 7, 1, 8, 9, 10, 11, 12, 13, 14, 15, 16, 17, 18, 19, 20, 21, 22, 23, 24, 25] (Exists.intro [q2 0] (Exists.intro ([.inr (12, [q1 _, q2 3, q2 4, q2 5, q2 6, q2 7, q2 2, q2 8, q2 9, q2 10, q1 _, q1 _, q1 _, q1 _, q1 _, q3 _, q1 _, q1 _, q1 _, q2 11, q2 12, q1 _, q1 _, q1 _, q1 _, q1 _, q1 _, q2 1, q1 _, q2 13, q2 14, q2 15, q2 16, q1 _, q2 17, q1 _, q2 18, q2 19, q2 20, q2 21, q2 22, q1 _, q2 23, q2 24, q2 25]), .inl (0, 8, .inl _), .inl (0, 600, .inl _)]) (And.intro rfl (And.intro rfl (And.intro rfl (And.intro ⟨⟨_, rfl⟩, rfl⟩ ?_))))))
    refine Exists.intro _ (Exists.intro _ (Exists.intro _ (Exists.intro _ (Exists.intro _ (Exists.intro _ (Exists.intro _ (Exists.intro _ (Exists.intro _ (Exists.intro _ (Exists.intro _ (Exists.intro _ (Exists.intro _ (Exists.intro _ (Exists.intro _ (Exists.intro _ (Exists.intro _ (Exists.intro _ (Exists.intro _ (Exists.intro _ (Exists.intro _ (Exists.intro _ (Exists.intro _ (And.intro rfl (And.intro rfl (And.intro (by first | omega | assumption | exact q_rg_up (by assumption) (by omega) | exact q_rg_up (q_rg_up (by assumption) (by omega)) (by omega) | exact q_rg_cpy (by assumption) (by assumption)) (And.intro (by first | omega | assumption | exact q_rg_up (by assumption) (by omega) | exact q_rg_up (q_rg_up (by assumption) (by omega)) (by omega) | exact q_rg_cpy (by assumption) (by assumption)) (And.intro rfl (And.intro (RGM_a hrg (by omega)) (?_)))))))))))))))))))))))))))))
    intro x_tl_16 x_mpr_16 h16
    rw [show x_mbo_7 = a by omega] at h16
    intro z29 h29
    first | replace h29 := e_sub h29 (by omega) | replace h29 := e_rng h29
    exact ⟨_, _, _, _, _, _, _, _, _, rfl, rfl, rfl, rfl, (by first | omega | assumption | exact q_rg_up (by assumption) (by omega) | exact q_rg_up (q_rg_up (by assumption) (by omega)) (by omega) | exact q_rg_cpy (by assumption) (by assumption)), (by first | omega | assumption | exact q_rg_up (by assumption) (by omega) | exact q_rg_up (q_rg_up (by assumption) (by omega)) (by omega) | exact q_rg_cpy (by assumption) (by assumption)), (by first | assumption | exact ⟨h7.1, h7.2.1.1, h7.2.1.2⟩), (by first | assumption | exact hu7), (by first | assumption | exact fun i hi => h16.1 i hi), (by first | (rw [show x_mpe_7 - 1 - z29 = 0 by omega]; exact HtI_0) | exact HtI_s hs9 (by omega) s47 r47 (by omega) (by omega) (by omega))⟩
  · intro h10
    first | replace h7 := dj1 h7 h10 | replace h7 := dj0 h7 h10
    exact hQ _ _ _ _ _ _ (by first | exact Or.inr ⟨h7, rfl⟩ | exact Or.inl ⟨⟨hya.2.1, hya.2.2⟩, v4, v3, by rw [← hyd]; have g9 := hs9; rw [show y_mpe - 1 - v5 = y_mpe by omega] at g9; exact g9, by first | exact Or.inl ⟨by omega, rfl⟩ | exact Or.inr ⟨by omega, rfl⟩⟩)
