theorem stR_s {f h t : Nat → Int} {n b v z i2 v2 : Int} (hh : ∀ j : Nat, h j = if n * b ≤ j ∧ (j : Int) < n * b + v then t (j - n * b).toNat else f j) (hv : 0 ≤ v) (hz : z = t v.toNat) (hi2 : i2 = n * b + v ∧ 0 ≤ n * b) (e2 : v2 = v + 1) : ∀ j : Nat, q_up h i2.toNat z j = if n * b ≤ j ∧ (j : Int) < n * b + v2 then t (j - n * b).toNat else f j := by
  intro j
  subst e2
  obtain ⟨rfl, h1⟩ := hi2
  by_cases e : (j : Int) = n * b + v
  · rw [show (n * b + v).toNat = j by omega, q_up_s, hz, if_pos (by omega)]
    congr 1; omega
  · rw [q_up_n (by omega), hh]
    by_cases h3 : n * b ≤ j ∧ (j : Int) < n * b + v
    · rw [if_pos h3, if_pos (by omega)]
    · rw [if_neg h3, if_neg (by omega)]
def szK (f h : Nat → Int) : Prop := ∀ j : Nat, ¬ j = 0 → h j = f j
theorem szK_r {f : Nat → Int} : szK f f := fun _ _ => rfl
theorem szK_u {f h : Nat → Int} {v : Int} (hk : szK f h) : szK f (q_up h (0 : Int).toNat v) := fun j hj => by
  rw [q_up_n (show j ≠ (0 : Int).toNat from hj)]
  exact hk j hj
theorem szK_t {f h k : Nat → Int} (h1 : szK f h) (h2 : szK h k) : szK f k := fun j hj => by rw [h2 j hj, h1 j hj]
def imR (a r : Int) (f h kp kq : Nat → Int) : Prop := (r = 1 ∧ (0 ≤ a ∧ a ≤ 2) ∧ cpR 1 f h 0 (a + 1) ∧ kq = q_up kp a.toNat 1) ∨ (r = 0 ∧ ¬ (0 ≤ a ∧ a ≤ 2) ∧ h = f ∧ kq = kp)
def agR (a r : Int) (kp f h : Nat → Int) : Prop := (r = 1 ∧ (0 ≤ a ∧ a ≤ 2) ∧ ¬ kp a.toNat = 0 ∧ cpR 1 f h (a + 1) 0) ∨ (r = 0 ∧ ¬ ((0 ≤ a ∧ a ≤ 2) ∧ ¬ kp a.toNat = 0) ∧ h = f)

theorem dX12_store75_0 : decode cX12_store 0 = .ok (.iconst 0, 1) := by decide +kernel
theorem dX12_store75_1 : decode cX12_store 1 = .ok (.istore 4, 2) := by decide +kernel
theorem dX12_store75_3 : decode cX12_store 3 = .ok (.iload 4, 2) := by decide +kernel
theorem dX12_store75_5 : decode cX12_store 5 = .ok (.iload_n 2, 1) := by decide +kernel
theorem dX12_store75_6 : decode cX12_store 6 = .ok (.if_icmp .ge 24, 3) := by decide +kernel
theorem dX12_store75_9 : decode cX12_store 9 = .ok (.aload_n 1, 1) := by decide +kernel
theorem dX12_store75_10 : decode cX12_store 10 = .ok (.iload_n 2, 1) := by decide +kernel
theorem dX12_store75_11 : decode cX12_store 11 = .ok (.iload_n 3, 1) := by decide +kernel
theorem dX12_store75_12 : decode cX12_store 12 = .ok (.imul, 1) := by decide +kernel
theorem dX12_store75_13 : decode cX12_store 13 = .ok (.iload 4, 2) := by decide +kernel
theorem dX12_store75_15 : decode cX12_store 15 = .ok (.iadd, 1) := by decide +kernel
theorem dX12_store75_16 : decode cX12_store 16 = .ok (.aload_n 0, 1) := by decide +kernel
theorem dX12_store75_17 : decode cX12_store 17 = .ok (.getfield 38, 3) := by decide +kernel
theorem dX12_store75_20 : decode cX12_store 20 = .ok (.iload 4, 2) := by decide +kernel
theorem dX12_store75_22 : decode cX12_store 22 = .ok (.iaload, 1) := by decide +kernel
theorem dX12_store75_23 : decode cX12_store 23 = .ok (.iastore, 1) := by decide +kernel
theorem dX12_store75_24 : decode cX12_store 24 = .ok (.iinc 4 1, 3) := by decide +kernel
theorem dX12_store75_27 : decode cX12_store 27 = .ok (.goto (-24), 3) := by decide +kernel
theorem dX12_store75_30 : decode cX12_store 30 = .ok (.return_, 1) := by decide +kernel
def is_X12_store75 : Nat → List Nat := fun d => if d = 3 then [0, 1, 2, 3, 4] else []
set_option maxRecDepth 100000 in
def b_X12_store75_3 (J : Nat → List qV → List qV → qW → Prop) (Q : qR) : qK := x_iload 4 (x_iload 2 (x_icmp_ge (x_vret Q) (x_aload 1 (x_iload 2 (x_iload 3 (x_imul (x_iload 4 (x_iadd (x_aload 0 (x_get 12 19 (x_iload 4 (x_iald (x_iast (x_nw (x_iinc 4 1 (x_cut [0, 1, 2, 3, 4] (J 3)))))))))))))))))
set_option maxRecDepth 100000 in
theorem s_X12_store75_3 {p : Program} {l : Launch} {e : Env} {R : Room} {s : State} {m : MethodId} {args : Array Value} {below : List Frame} {meth : Method} {c : Code} {nW : Nat} {dC : Nat → ClassId} {dI : Nat → Nat → Nat} {k : Nat → ClassId} {g : Nat → Nat} {A : Nat → Prop} {J : Nat → List qV → List qV → qW → Prop} {Q : qR} (X : q_X p R s m args meth c cX12_store 5 nW 0 0 RX12 none dC dI k g A) (hJ : ∀ d : Nat, q_Sd p l e R s m args below meth c 5 nW dC dI k g A (MQ below (q_post (dC, dI) k g nW Q A) args s 0 0 A) d (x_cut (is_X12_store75 d) (J d))) : q_Sd p l e R s m args below meth c 5 nW dC dI k g A (MQ below (q_post (dC, dI) k g nW Q A) args s 0 0 A) 3 (b_X12_store75_3 J Q) := by
  unfold b_X12_store75_3
  refine s_iload X dX12_store75_3 ?_
  refine s_iload_n X rfl dX12_store75_5 ?_
  refine s_icmp_ge X (tgt := 30) dX12_store75_6 (by decide) ?_ ?_
  · exact s_vret X dX12_store75_30
  · refine s_aload_n X rfl dX12_store75_9 ?_
    refine s_iload_n X rfl dX12_store75_10 ?_
    refine s_iload_n X rfl dX12_store75_11 ?_
    refine s_imul X dX12_store75_12 ?_
    refine s_iload X dX12_store75_13 ?_
    refine s_iadd X dX12_store75_15 ?_
    refine s_aload_n X rfl dX12_store75_16 ?_
    refine s_get X (T := TX12) (C := RX12) (N := 45) tu_X12 rfl (by decide) tw_1016 dX12_store75_17 ?_
    refine s_iload X dX12_store75_20 ?_
    refine s_iald X dX12_store75_22 ?_
    refine s_iast X dX12_store75_23 ?_
    refine s_nw ?_
    refine s_iinc X (by decide) dX12_store75_24 ?_
    refine s_goto X (tgt := 3) dX12_store75_27 (by decide) ?_
    exact hJ 3
set_option maxRecDepth 100000 in
def b_X12_store75_0 (J : Nat → List qV → List qV → qW → Prop) (Q : qR) : qK := x_int 0 (x_istore 4 (x_cut [0, 1, 2, 3, 4] (J 3)))
set_option maxRecDepth 100000 in
theorem s_X12_store75_0 {p : Program} {l : Launch} {e : Env} {R : Room} {s : State} {m : MethodId} {args : Array Value} {below : List Frame} {meth : Method} {c : Code} {nW : Nat} {dC : Nat → ClassId} {dI : Nat → Nat → Nat} {k : Nat → ClassId} {g : Nat → Nat} {A : Nat → Prop} {J : Nat → List qV → List qV → qW → Prop} {Q : qR} (X : q_X p R s m args meth c cX12_store 5 nW 0 0 RX12 none dC dI k g A) (hJ : ∀ d : Nat, q_Sd p l e R s m args below meth c 5 nW dC dI k g A (MQ below (q_post (dC, dI) k g nW Q A) args s 0 0 A) d (x_cut (is_X12_store75 d) (J d))) : q_Sd p l e R s m args below meth c 5 nW dC dI k g A (MQ below (q_post (dC, dI) k g nW Q A) args s 0 0 A) 0 (b_X12_store75_0 J Q) := by
  unfold b_X12_store75_0
  refine s_iconst X ⟨by decide, by decide⟩ dX12_store75_0 ?_
  refine s_istore X (by decide) dX12_store75_1 ?_
  exact hJ 3

def sp_X12_store75 : qS := fun av w Q => ∃ (mco : Int) (mre : Int) (mle : Int) (mbe : Int) (mso : Int) (mva : Int) (mwo : Int) (mwr : Int) (mlf : Int) (mlp : Int) (mfp : Int) (mfd : Int) (mgo : Int) (mbo : Int) (mpe : Int) (mye : Int) (mpr : Int) (mld : Int) (msi : Int) (mse : Int) (td : Nat → Int) (bs : Nat → Int) (a : Int), av = [q2 0, q2 2, q1 75, q1 a] ∧ w = [.inr (12, [q1 mco, q2 3, q2 4, q2 5, q2 6, q2 7, q2 2, q2 8, q2 9, q2 10, q1 mre, q1 mle, q1 mbe, q1 mso, q1 mva, q3 mwo, q1 mwr, q1 mlf, q1 mlp, q2 1, q2 11, q1 mfp, q1 mfd, q1 mgo, q1 mbo, q1 mpe, q1 mye, q2 12, q1 mpr, q2 13, q2 14, q2 15, q2 16, q1 mld, q2 17, q1 msi, q2 18, q2 19, q2 20, q2 21, q2 22, q1 mse, q2 23, q2 24, q2 25]), .inl (0, 161, .inl td), .inl (0, 600, .inl bs)] ∧ (0 ≤ a ∧ a ≤ 1) ∧ (∀ (x_bs : Nat → Int), stR 75 td bs x_bs a → Q none ([.inr (12, [q1 mco, q2 3, q2 4, q2 5, q2 6, q2 7, q2 2, q2 8, q2 9, q2 10, q1 mre, q1 mle, q1 mbe, q1 mso, q1 mva, q3 mwo, q1 mwr, q1 mlf, q1 mlp, q2 1, q2 11, q1 mfp, q1 mfd, q1 mgo, q1 mbo, q1 mpe, q1 mye, q2 12, q1 mpr, q2 13, q2 14, q2 15, q2 16, q1 mld, q2 17, q1 msi, q2 18, q2 19, q2 20, q2 21, q2 22, q1 mse, q2 23, q2 24, q2 25]), .inl (0, 161, .inl td), .inl (0, 600, .inl x_bs)]))
def I_X12_store75 (mco : Int) (mre : Int) (mle : Int) (mbe : Int) (mso : Int) (mva : Int) (mwo : Int) (mwr : Int) (mlf : Int) (mlp : Int) (mfp : Int) (mfd : Int) (mgo : Int) (mbo : Int) (mpe : Int) (mye : Int) (mpr : Int) (mld : Int) (msi : Int) (mse : Int) (td : Nat → Int) (bs : Nat → Int) (a : Int) : Nat → Nat → List qV → List qV → qW → Prop := fun dz mz vz sz wz => if dz = 3 then (∃ (y_bs : Nat → Int) (v4 : Int), vz = [q2 0, q2 2, q1 75, q1 a, q1 v4] ∧ sz = [] ∧ wz = [.inr (12, [q1 mco, q2 3, q2 4, q2 5, q2 6, q2 7, q2 2, q2 8, q2 9, q2 10, q1 mre, q1 mle, q1 mbe, q1 mso, q1 mva, q3 mwo, q1 mwr, q1 mlf, q1 mlp, q2 1, q2 11, q1 mfp, q1 mfd, q1 mgo, q1 mbo, q1 mpe, q1 mye, q2 12, q1 mpr, q2 13, q2 14, q2 15, q2 16, q1 mld, q2 17, q1 msi, q2 18, q2 19, q2 20, q2 21, q2 22, q1 mse, q2 23, q2 24, q2 25]), .inl (0, 161, .inl td), .inl (0, 600, .inl y_bs)] ∧ mz = (75 - v4).toNat ∧ (0 ≤ v4 ∧ v4 ≤ 75) ∧ (∀ j : Nat, y_bs j = if (75 : Int) * a ≤ j ∧ (j : Int) < 75 * a + v4 then td (j - (75 : Int) * a).toNat else bs j)) else False
set_option maxHeartbeats 4000000 in
set_option maxRecDepth 100000 in
theorem m_X12_store75 (l : Launch) : q_M l yX12_store cX12_store 5 none 0 0 sp_X12_store75 := by
  refine q_meth (by decide) (fun av w Q h => by obtain ⟨mco, mre, mle, mbe, mso, mva, mwo, mwr, mlf, mlp, mfp, mfd, mgo, mbo, mpe, mye, mpr, mld, msi, mse, td, bs, a, rfl, rfl, ha, hQ⟩ := h; exact Nat.le_of_ble_eq_true rfl) ?_
  intro p e R s m args below meth c dC dI k g A av w Q hsp oka okw X
  obtain ⟨mco, mre, mle, mbe, mso, mva, mwo, mwr, mlf, mlp, mfp, mfd, mgo, mbo, mpe, mye, mpr, mld, msi, mse, td, bs, a, rfl, rfl, ha, hQ⟩ := hsp
  have o_a : -2147483648 ≤ a ∧ a ≤ 2147483647 := oka _ (List.mem_of_getElem? (i := 3) rfl)
  refine s_mono (s_X12_store75_0 X (J := fun dz vz sz wz => ∃ mz, I_X12_store75 mco mre mle mbe mso mva mwo mwr mlf mlp mfp mfd mgo mbo mpe mye mpr mld msi mse td bs a dz mz vz sz wz) (q_loopn (I_X12_store75 mco mre mle mbe mso mva mwo mwr mlf mlp mfp mfd mgo mbo mpe mye mpr mld msi mse td bs a) (fun dz J => if dz = 3 then b_X12_store75_3 J Q else q_F) ?hs ?hv)) ?_
  case hs =>
    intro d J hJ
    by_cases h3 : d = 3
    · subst h3; exact s_X12_store75_3 X hJ
    simp only [h3, if_false]
    exact s_F
  case hv =>
    intro dz mz vz sz wz hI okv oks okw hlen
    by_cases h3 : dz = 3
    · subst h3
      obtain ⟨y_bs, v4, rfl, rfl, rfl, hn, hp, hh⟩ := hI
      apply And.intro
      · intro h6
        exact hQ _ (by intro j; rw [hh j, show v4 = (75 : Int) by omega]; rfl)
      · intro h6
        intro z12 h12
        first | replace h12 := e_mul h12 (by omega) | replace h12 := e_rng h12
        intro z15 h15
        first | replace h15 := e_add h15 (by omega) | replace h15 := e_rng h15
        apply And.intro
        · exact ⟨by omega, by omega⟩
        intro z22 h22
        apply And.intro
        · exact ⟨by omega, by omega⟩
        intro z24 h24
        first | replace h24 := e_add h24 (by omega) | replace h24 := e_rng h24
        exact ⟨_, ⟨_, _, rfl, rfl, rfl, rfl, (by first | omega | assumption | exact q_rg_up (by assumption) (by omega) | exact q_rg_up (q_rg_up (by assumption) (by omega)) (by omega) | exact q_rg_cpy (by assumption) (by assumption)), (by first | exact stR_s hh (by omega) h22 (by omega) (by omega) | (intro j; rw [if_neg (by omega)]))⟩, by omega⟩
    simp only [I_X12_store75, h3, if_false] at hI
  rintro lv st w' ⟨rfl, rfl, rfl⟩
  exact ⟨_, _, _, rfl, rfl, rfl, rfl, (by first | omega | assumption | exact q_rg_up (by assumption) (by omega) | exact q_rg_up (q_rg_up (by assumption) (by omega)) (by omega) | exact q_rg_cpy (by assumption) (by assumption)), (by first | exact stR_s hh (by omega) h22 (by omega) (by omega) | (intro j; rw [if_neg (by omega)]))⟩

theorem dX12_store161_0 : decode cX12_store 0 = .ok (.iconst 0, 1) := by decide +kernel
theorem dX12_store161_1 : decode cX12_store 1 = .ok (.istore 4, 2) := by decide +kernel
theorem dX12_store161_3 : decode cX12_store 3 = .ok (.iload 4, 2) := by decide +kernel
theorem dX12_store161_5 : decode cX12_store 5 = .ok (.iload_n 2, 1) := by decide +kernel
theorem dX12_store161_6 : decode cX12_store 6 = .ok (.if_icmp .ge 24, 3) := by decide +kernel
theorem dX12_store161_9 : decode cX12_store 9 = .ok (.aload_n 1, 1) := by decide +kernel
theorem dX12_store161_10 : decode cX12_store 10 = .ok (.iload_n 2, 1) := by decide +kernel
theorem dX12_store161_11 : decode cX12_store 11 = .ok (.iload_n 3, 1) := by decide +kernel
theorem dX12_store161_12 : decode cX12_store 12 = .ok (.imul, 1) := by decide +kernel
theorem dX12_store161_13 : decode cX12_store 13 = .ok (.iload 4, 2) := by decide +kernel
theorem dX12_store161_15 : decode cX12_store 15 = .ok (.iadd, 1) := by decide +kernel
theorem dX12_store161_16 : decode cX12_store 16 = .ok (.aload_n 0, 1) := by decide +kernel
theorem dX12_store161_17 : decode cX12_store 17 = .ok (.getfield 38, 3) := by decide +kernel
theorem dX12_store161_20 : decode cX12_store 20 = .ok (.iload 4, 2) := by decide +kernel
theorem dX12_store161_22 : decode cX12_store 22 = .ok (.iaload, 1) := by decide +kernel
theorem dX12_store161_23 : decode cX12_store 23 = .ok (.iastore, 1) := by decide +kernel
theorem dX12_store161_24 : decode cX12_store 24 = .ok (.iinc 4 1, 3) := by decide +kernel
theorem dX12_store161_27 : decode cX12_store 27 = .ok (.goto (-24), 3) := by decide +kernel
theorem dX12_store161_30 : decode cX12_store 30 = .ok (.return_, 1) := by decide +kernel
def is_X12_store161 : Nat → List Nat := fun d => if d = 3 then [0, 1, 2, 3, 4] else []
set_option maxRecDepth 100000 in
def b_X12_store161_3 (J : Nat → List qV → List qV → qW → Prop) (Q : qR) : qK := x_iload 4 (x_iload 2 (x_icmp_ge (x_vret Q) (x_aload 1 (x_iload 2 (x_iload 3 (x_imul (x_iload 4 (x_iadd (x_aload 0 (x_get 12 19 (x_iload 4 (x_iald (x_iast (x_nw (x_iinc 4 1 (x_cut [0, 1, 2, 3, 4] (J 3)))))))))))))))))
set_option maxRecDepth 100000 in
theorem s_X12_store161_3 {p : Program} {l : Launch} {e : Env} {R : Room} {s : State} {m : MethodId} {args : Array Value} {below : List Frame} {meth : Method} {c : Code} {nW : Nat} {dC : Nat → ClassId} {dI : Nat → Nat → Nat} {k : Nat → ClassId} {g : Nat → Nat} {A : Nat → Prop} {J : Nat → List qV → List qV → qW → Prop} {Q : qR} (X : q_X p R s m args meth c cX12_store 5 nW 0 0 RX12 none dC dI k g A) (hJ : ∀ d : Nat, q_Sd p l e R s m args below meth c 5 nW dC dI k g A (MQ below (q_post (dC, dI) k g nW Q A) args s 0 0 A) d (x_cut (is_X12_store161 d) (J d))) : q_Sd p l e R s m args below meth c 5 nW dC dI k g A (MQ below (q_post (dC, dI) k g nW Q A) args s 0 0 A) 3 (b_X12_store161_3 J Q) := by
  unfold b_X12_store161_3
  refine s_iload X dX12_store161_3 ?_
  refine s_iload_n X rfl dX12_store161_5 ?_
  refine s_icmp_ge X (tgt := 30) dX12_store161_6 (by decide) ?_ ?_
  · exact s_vret X dX12_store161_30
  · refine s_aload_n X rfl dX12_store161_9 ?_
    refine s_iload_n X rfl dX12_store161_10 ?_
    refine s_iload_n X rfl dX12_store161_11 ?_
    refine s_imul X dX12_store161_12 ?_
    refine s_iload X dX12_store161_13 ?_
    refine s_iadd X dX12_store161_15 ?_
    refine s_aload_n X rfl dX12_store161_16 ?_
    refine s_get X (T := TX12) (C := RX12) (N := 45) tu_X12 rfl (by decide) tw_1016 dX12_store161_17 ?_
    refine s_iload X dX12_store161_20 ?_
    refine s_iald X dX12_store161_22 ?_
    refine s_iast X dX12_store161_23 ?_
    refine s_nw ?_
    refine s_iinc X (by decide) dX12_store161_24 ?_
    refine s_goto X (tgt := 3) dX12_store161_27 (by decide) ?_
    exact hJ 3
set_option maxRecDepth 100000 in
def b_X12_store161_0 (J : Nat → List qV → List qV → qW → Prop) (Q : qR) : qK := x_int 0 (x_istore 4 (x_cut [0, 1, 2, 3, 4] (J 3)))
set_option maxRecDepth 100000 in
theorem s_X12_store161_0 {p : Program} {l : Launch} {e : Env} {R : Room} {s : State} {m : MethodId} {args : Array Value} {below : List Frame} {meth : Method} {c : Code} {nW : Nat} {dC : Nat → ClassId} {dI : Nat → Nat → Nat} {k : Nat → ClassId} {g : Nat → Nat} {A : Nat → Prop} {J : Nat → List qV → List qV → qW → Prop} {Q : qR} (X : q_X p R s m args meth c cX12_store 5 nW 0 0 RX12 none dC dI k g A) (hJ : ∀ d : Nat, q_Sd p l e R s m args below meth c 5 nW dC dI k g A (MQ below (q_post (dC, dI) k g nW Q A) args s 0 0 A) d (x_cut (is_X12_store161 d) (J d))) : q_Sd p l e R s m args below meth c 5 nW dC dI k g A (MQ below (q_post (dC, dI) k g nW Q A) args s 0 0 A) 0 (b_X12_store161_0 J Q) := by
  unfold b_X12_store161_0
  refine s_iconst X ⟨by decide, by decide⟩ dX12_store161_0 ?_
  refine s_istore X (by decide) dX12_store161_1 ?_
  exact hJ 3

def sp_X12_store161 : qS := fun av w Q => ∃ (mco : Int) (mre : Int) (mle : Int) (mbe : Int) (mso : Int) (mva : Int) (mwo : Int) (mwr : Int) (mlf : Int) (mlp : Int) (mfp : Int) (mfd : Int) (mgo : Int) (mbo : Int) (mpe : Int) (mye : Int) (mpr : Int) (mld : Int) (msi : Int) (mse : Int) (td : Nat → Int) (ys : Nat → Int) (a : Int), av = [q2 0, q2 2, q1 161, q1 a] ∧ w = [.inr (12, [q1 mco, q2 3, q2 4, q2 5, q2 6, q2 7, q2 8, q2 2, q2 9, q2 10, q1 mre, q1 mle, q1 mbe, q1 mso, q1 mva, q3 mwo, q1 mwr, q1 mlf, q1 mlp, q2 1, q2 11, q1 mfp, q1 mfd, q1 mgo, q1 mbo, q1 mpe, q1 mye, q2 12, q1 mpr, q2 13, q2 14, q2 15, q2 16, q1 mld, q2 17, q1 msi, q2 18, q2 19, q2 20, q2 21, q2 22, q1 mse, q2 23, q2 24, q2 25]), .inl (0, 161, .inl td), .inl (0, 1288, .inl ys)] ∧ (0 ≤ a ∧ a ≤ 1) ∧ (∀ (x_ys : Nat → Int), stR 161 td ys x_ys a → Q none ([.inr (12, [q1 mco, q2 3, q2 4, q2 5, q2 6, q2 7, q2 8, q2 2, q2 9, q2 10, q1 mre, q1 mle, q1 mbe, q1 mso, q1 mva, q3 mwo, q1 mwr, q1 mlf, q1 mlp, q2 1, q2 11, q1 mfp, q1 mfd, q1 mgo, q1 mbo, q1 mpe, q1 mye, q2 12, q1 mpr, q2 13, q2 14, q2 15, q2 16, q1 mld, q2 17, q1 msi, q2 18, q2 19, q2 20, q2 21, q2 22, q1 mse, q2 23, q2 24, q2 25]), .inl (0, 161, .inl td), .inl (0, 1288, .inl x_ys)]))
def I_X12_store161 (mco : Int) (mre : Int) (mle : Int) (mbe : Int) (mso : Int) (mva : Int) (mwo : Int) (mwr : Int) (mlf : Int) (mlp : Int) (mfp : Int) (mfd : Int) (mgo : Int) (mbo : Int) (mpe : Int) (mye : Int) (mpr : Int) (mld : Int) (msi : Int) (mse : Int) (td : Nat → Int) (ys : Nat → Int) (a : Int) : Nat → Nat → List qV → List qV → qW → Prop := fun dz mz vz sz wz => if dz = 3 then (∃ (y_ys : Nat → Int) (v4 : Int), vz = [q2 0, q2 2, q1 161, q1 a, q1 v4] ∧ sz = [] ∧ wz = [.inr (12, [q1 mco, q2 3, q2 4, q2 5, q2 6, q2 7, q2 8, q2 2, q2 9, q2 10, q1 mre, q1 mle, q1 mbe, q1 mso, q1 mva, q3 mwo, q1 mwr, q1 mlf, q1 mlp, q2 1, q2 11, q1 mfp, q1 mfd, q1 mgo, q1 mbo, q1 mpe, q1 mye, q2 12, q1 mpr, q2 13, q2 14, q2 15, q2 16, q1 mld, q2 17, q1 msi, q2 18, q2 19, q2 20, q2 21, q2 22, q1 mse, q2 23, q2 24, q2 25]), .inl (0, 161, .inl td), .inl (0, 1288, .inl y_ys)] ∧ mz = (161 - v4).toNat ∧ (0 ≤ v4 ∧ v4 ≤ 161) ∧ (∀ j : Nat, y_ys j = if (161 : Int) * a ≤ j ∧ (j : Int) < 161 * a + v4 then td (j - (161 : Int) * a).toNat else ys j)) else False
set_option maxHeartbeats 4000000 in
set_option maxRecDepth 100000 in
theorem m_X12_store161 (l : Launch) : q_M l yX12_store cX12_store 5 none 0 0 sp_X12_store161 := by
  refine q_meth (by decide) (fun av w Q h => by obtain ⟨mco, mre, mle, mbe, mso, mva, mwo, mwr, mlf, mlp, mfp, mfd, mgo, mbo, mpe, mye, mpr, mld, msi, mse, td, ys, a, rfl, rfl, ha, hQ⟩ := h; exact Nat.le_of_ble_eq_true rfl) ?_
  intro p e R s m args below meth c dC dI k g A av w Q hsp oka okw X
  obtain ⟨mco, mre, mle, mbe, mso, mva, mwo, mwr, mlf, mlp, mfp, mfd, mgo, mbo, mpe, mye, mpr, mld, msi, mse, td, ys, a, rfl, rfl, ha, hQ⟩ := hsp
  have o_a : -2147483648 ≤ a ∧ a ≤ 2147483647 := oka _ (List.mem_of_getElem? (i := 3) rfl)
  refine s_mono (s_X12_store161_0 X (J := fun dz vz sz wz => ∃ mz, I_X12_store161 mco mre mle mbe mso mva mwo mwr mlf mlp mfp mfd mgo mbo mpe mye mpr mld msi mse td ys a dz mz vz sz wz) (q_loopn (I_X12_store161 mco mre mle mbe mso mva mwo mwr mlf mlp mfp mfd mgo mbo mpe mye mpr mld msi mse td ys a) (fun dz J => if dz = 3 then b_X12_store161_3 J Q else q_F) ?hs ?hv)) ?_
  case hs =>
    intro d J hJ
    by_cases h3 : d = 3
    · subst h3; exact s_X12_store161_3 X hJ
    simp only [h3, if_false]
    exact s_F
  case hv =>
    intro dz mz vz sz wz hI okv oks okw hlen
    by_cases h3 : dz = 3
    · subst h3
      obtain ⟨y_ys, v4, rfl, rfl, rfl, hn, hp, hh⟩ := hI
      apply And.intro
      · intro h6
        exact hQ _ (by intro j; rw [hh j, show v4 = (161 : Int) by omega]; rfl)
      · intro h6
        intro z12 h12
        first | replace h12 := e_mul h12 (by omega) | replace h12 := e_rng h12
        intro z15 h15
        first | replace h15 := e_add h15 (by omega) | replace h15 := e_rng h15
        apply And.intro
        · exact ⟨by omega, by omega⟩
        intro z22 h22
        apply And.intro
        · exact ⟨by omega, by omega⟩
        intro z24 h24
        first | replace h24 := e_add h24 (by omega) | replace h24 := e_rng h24
        exact ⟨_, ⟨_, _, rfl, rfl, rfl, rfl, (by first | omega | assumption | exact q_rg_up (by assumption) (by omega) | exact q_rg_up (q_rg_up (by assumption) (by omega)) (by omega) | exact q_rg_cpy (by assumption) (by assumption)), (by first | exact stR_s hh (by omega) h22 (by omega) (by omega) | (intro j; rw [if_neg (by omega)]))⟩, by omega⟩
    simp only [I_X12_store161, h3, if_false] at hI
  rintro lv st w' ⟨rfl, rfl, rfl⟩
  exact ⟨_, _, _, rfl, rfl, rfl, rfl, (by first | omega | assumption | exact q_rg_up (by assumption) (by omega) | exact q_rg_up (q_rg_up (by assumption) (by omega)) (by omega) | exact q_rg_cpy (by assumption) (by assumption)), (by first | exact stR_s hh (by omega) h22 (by omega) (by omega) | (intro j; rw [if_neg (by omega)]))⟩

theorem dX12_store9_0 : decode cX12_store 0 = .ok (.iconst 0, 1) := by decide +kernel
theorem dX12_store9_1 : decode cX12_store 1 = .ok (.istore 4, 2) := by decide +kernel
theorem dX12_store9_3 : decode cX12_store 3 = .ok (.iload 4, 2) := by decide +kernel
theorem dX12_store9_5 : decode cX12_store 5 = .ok (.iload_n 2, 1) := by decide +kernel
theorem dX12_store9_6 : decode cX12_store 6 = .ok (.if_icmp .ge 24, 3) := by decide +kernel
theorem dX12_store9_9 : decode cX12_store 9 = .ok (.aload_n 1, 1) := by decide +kernel
theorem dX12_store9_10 : decode cX12_store 10 = .ok (.iload_n 2, 1) := by decide +kernel
theorem dX12_store9_11 : decode cX12_store 11 = .ok (.iload_n 3, 1) := by decide +kernel
theorem dX12_store9_12 : decode cX12_store 12 = .ok (.imul, 1) := by decide +kernel
theorem dX12_store9_13 : decode cX12_store 13 = .ok (.iload 4, 2) := by decide +kernel
theorem dX12_store9_15 : decode cX12_store 15 = .ok (.iadd, 1) := by decide +kernel
theorem dX12_store9_16 : decode cX12_store 16 = .ok (.aload_n 0, 1) := by decide +kernel
theorem dX12_store9_17 : decode cX12_store 17 = .ok (.getfield 38, 3) := by decide +kernel
theorem dX12_store9_20 : decode cX12_store 20 = .ok (.iload 4, 2) := by decide +kernel
theorem dX12_store9_22 : decode cX12_store 22 = .ok (.iaload, 1) := by decide +kernel
theorem dX12_store9_23 : decode cX12_store 23 = .ok (.iastore, 1) := by decide +kernel
theorem dX12_store9_24 : decode cX12_store 24 = .ok (.iinc 4 1, 3) := by decide +kernel
theorem dX12_store9_27 : decode cX12_store 27 = .ok (.goto (-24), 3) := by decide +kernel
theorem dX12_store9_30 : decode cX12_store 30 = .ok (.return_, 1) := by decide +kernel
def is_X12_store9 : Nat → List Nat := fun d => if d = 3 then [0, 1, 2, 3, 4] else []
set_option maxRecDepth 100000 in
def b_X12_store9_3 (J : Nat → List qV → List qV → qW → Prop) (Q : qR) : qK := x_iload 4 (x_iload 2 (x_icmp_ge (x_vret Q) (x_aload 1 (x_iload 2 (x_iload 3 (x_imul (x_iload 4 (x_iadd (x_aload 0 (x_get 12 19 (x_iload 4 (x_iald (x_iast (x_nw (x_iinc 4 1 (x_cut [0, 1, 2, 3, 4] (J 3)))))))))))))))))
set_option maxRecDepth 100000 in
theorem s_X12_store9_3 {p : Program} {l : Launch} {e : Env} {R : Room} {s : State} {m : MethodId} {args : Array Value} {below : List Frame} {meth : Method} {c : Code} {nW : Nat} {dC : Nat → ClassId} {dI : Nat → Nat → Nat} {k : Nat → ClassId} {g : Nat → Nat} {A : Nat → Prop} {J : Nat → List qV → List qV → qW → Prop} {Q : qR} (X : q_X p R s m args meth c cX12_store 5 nW 0 0 RX12 none dC dI k g A) (hJ : ∀ d : Nat, q_Sd p l e R s m args below meth c 5 nW dC dI k g A (MQ below (q_post (dC, dI) k g nW Q A) args s 0 0 A) d (x_cut (is_X12_store9 d) (J d))) : q_Sd p l e R s m args below meth c 5 nW dC dI k g A (MQ below (q_post (dC, dI) k g nW Q A) args s 0 0 A) 3 (b_X12_store9_3 J Q) := by
  unfold b_X12_store9_3
  refine s_iload X dX12_store9_3 ?_
  refine s_iload_n X rfl dX12_store9_5 ?_
  refine s_icmp_ge X (tgt := 30) dX12_store9_6 (by decide) ?_ ?_
  · exact s_vret X dX12_store9_30
  · refine s_aload_n X rfl dX12_store9_9 ?_
    refine s_iload_n X rfl dX12_store9_10 ?_
    refine s_iload_n X rfl dX12_store9_11 ?_
    refine s_imul X dX12_store9_12 ?_
    refine s_iload X dX12_store9_13 ?_
    refine s_iadd X dX12_store9_15 ?_
    refine s_aload_n X rfl dX12_store9_16 ?_
    refine s_get X (T := TX12) (C := RX12) (N := 45) tu_X12 rfl (by decide) tw_1016 dX12_store9_17 ?_
    refine s_iload X dX12_store9_20 ?_
    refine s_iald X dX12_store9_22 ?_
    refine s_iast X dX12_store9_23 ?_
    refine s_nw ?_
    refine s_iinc X (by decide) dX12_store9_24 ?_
    refine s_goto X (tgt := 3) dX12_store9_27 (by decide) ?_
    exact hJ 3
set_option maxRecDepth 100000 in
def b_X12_store9_0 (J : Nat → List qV → List qV → qW → Prop) (Q : qR) : qK := x_int 0 (x_istore 4 (x_cut [0, 1, 2, 3, 4] (J 3)))
set_option maxRecDepth 100000 in
theorem s_X12_store9_0 {p : Program} {l : Launch} {e : Env} {R : Room} {s : State} {m : MethodId} {args : Array Value} {below : List Frame} {meth : Method} {c : Code} {nW : Nat} {dC : Nat → ClassId} {dI : Nat → Nat → Nat} {k : Nat → ClassId} {g : Nat → Nat} {A : Nat → Prop} {J : Nat → List qV → List qV → qW → Prop} {Q : qR} (X : q_X p R s m args meth c cX12_store 5 nW 0 0 RX12 none dC dI k g A) (hJ : ∀ d : Nat, q_Sd p l e R s m args below meth c 5 nW dC dI k g A (MQ below (q_post (dC, dI) k g nW Q A) args s 0 0 A) d (x_cut (is_X12_store9 d) (J d))) : q_Sd p l e R s m args below meth c 5 nW dC dI k g A (MQ below (q_post (dC, dI) k g nW Q A) args s 0 0 A) 0 (b_X12_store9_0 J Q) := by
  unfold b_X12_store9_0
  refine s_iconst X ⟨by decide, by decide⟩ dX12_store9_0 ?_
  refine s_istore X (by decide) dX12_store9_1 ?_
  exact hJ 3

def sp_X12_store9 : qS := fun av w Q => ∃ (mco : Int) (mre : Int) (mle : Int) (mbe : Int) (mso : Int) (mva : Int) (mwo : Int) (mwr : Int) (mlf : Int) (mlp : Int) (mfp : Int) (mfd : Int) (mgo : Int) (mbo : Int) (mpe : Int) (mye : Int) (mpr : Int) (mld : Int) (msi : Int) (mse : Int) (td : Nat → Int) (ls : Nat → Int) (a : Int), av = [q2 0, q2 2, q1 9, q1 a] ∧ w = [.inr (12, [q1 mco, q2 3, q2 4, q2 5, q2 6, q2 7, q2 8, q2 9, q2 2, q2 10, q1 mre, q1 mle, q1 mbe, q1 mso, q1 mva, q3 mwo, q1 mwr, q1 mlf, q1 mlp, q2 1, q2 11, q1 mfp, q1 mfd, q1 mgo, q1 mbo, q1 mpe, q1 mye, q2 12, q1 mpr, q2 13, q2 14, q2 15, q2 16, q1 mld, q2 17, q1 msi, q2 18, q2 19, q2 20, q2 21, q2 22, q1 mse, q2 23, q2 24, q2 25]), .inl (0, 161, .inl td), .inl (0, 72, .inl ls)] ∧ (0 ≤ a ∧ a ≤ 1) ∧ (∀ (x_ls : Nat → Int), stR 9 td ls x_ls a → Q none ([.inr (12, [q1 mco, q2 3, q2 4, q2 5, q2 6, q2 7, q2 8, q2 9, q2 2, q2 10, q1 mre, q1 mle, q1 mbe, q1 mso, q1 mva, q3 mwo, q1 mwr, q1 mlf, q1 mlp, q2 1, q2 11, q1 mfp, q1 mfd, q1 mgo, q1 mbo, q1 mpe, q1 mye, q2 12, q1 mpr, q2 13, q2 14, q2 15, q2 16, q1 mld, q2 17, q1 msi, q2 18, q2 19, q2 20, q2 21, q2 22, q1 mse, q2 23, q2 24, q2 25]), .inl (0, 161, .inl td), .inl (0, 72, .inl x_ls)]))
def I_X12_store9 (mco : Int) (mre : Int) (mle : Int) (mbe : Int) (mso : Int) (mva : Int) (mwo : Int) (mwr : Int) (mlf : Int) (mlp : Int) (mfp : Int) (mfd : Int) (mgo : Int) (mbo : Int) (mpe : Int) (mye : Int) (mpr : Int) (mld : Int) (msi : Int) (mse : Int) (td : Nat → Int) (ls : Nat → Int) (a : Int) : Nat → Nat → List qV → List qV → qW → Prop := fun dz mz vz sz wz => if dz = 3 then (∃ (y_ls : Nat → Int) (v4 : Int), vz = [q2 0, q2 2, q1 9, q1 a, q1 v4] ∧ sz = [] ∧ wz = [.inr (12, [q1 mco, q2 3, q2 4, q2 5, q2 6, q2 7, q2 8, q2 9, q2 2, q2 10, q1 mre, q1 mle, q1 mbe, q1 mso, q1 mva, q3 mwo, q1 mwr, q1 mlf, q1 mlp, q2 1, q2 11, q1 mfp, q1 mfd, q1 mgo, q1 mbo, q1 mpe, q1 mye, q2 12, q1 mpr, q2 13, q2 14, q2 15, q2 16, q1 mld, q2 17, q1 msi, q2 18, q2 19, q2 20, q2 21, q2 22, q1 mse, q2 23, q2 24, q2 25]), .inl (0, 161, .inl td), .inl (0, 72, .inl y_ls)] ∧ mz = (9 - v4).toNat ∧ (0 ≤ v4 ∧ v4 ≤ 9) ∧ (∀ j : Nat, y_ls j = if (9 : Int) * a ≤ j ∧ (j : Int) < 9 * a + v4 then td (j - (9 : Int) * a).toNat else ls j)) else False
set_option maxHeartbeats 4000000 in
set_option maxRecDepth 100000 in
theorem m_X12_store9 (l : Launch) : q_M l yX12_store cX12_store 5 none 0 0 sp_X12_store9 := by
  refine q_meth (by decide) (fun av w Q h => by obtain ⟨mco, mre, mle, mbe, mso, mva, mwo, mwr, mlf, mlp, mfp, mfd, mgo, mbo, mpe, mye, mpr, mld, msi, mse, td, ls, a, rfl, rfl, ha, hQ⟩ := h; exact Nat.le_of_ble_eq_true rfl) ?_
  intro p e R s m args below meth c dC dI k g A av w Q hsp oka okw X
  obtain ⟨mco, mre, mle, mbe, mso, mva, mwo, mwr, mlf, mlp, mfp, mfd, mgo, mbo, mpe, mye, mpr, mld, msi, mse, td, ls, a, rfl, rfl, ha, hQ⟩ := hsp
  have o_a : -2147483648 ≤ a ∧ a ≤ 2147483647 := oka _ (List.mem_of_getElem? (i := 3) rfl)
  refine s_mono (s_X12_store9_0 X (J := fun dz vz sz wz => ∃ mz, I_X12_store9 mco mre mle mbe mso mva mwo mwr mlf mlp mfp mfd mgo mbo mpe mye mpr mld msi mse td ls a dz mz vz sz wz) (q_loopn (I_X12_store9 mco mre mle mbe mso mva mwo mwr mlf mlp mfp mfd mgo mbo mpe mye mpr mld msi mse td ls a) (fun dz J => if dz = 3 then b_X12_store9_3 J Q else q_F) ?hs ?hv)) ?_
  case hs =>
    intro d J hJ
    by_cases h3 : d = 3
    · subst h3; exact s_X12_store9_3 X hJ
    simp only [h3, if_false]
    exact s_F
  case hv =>
    intro dz mz vz sz wz hI okv oks okw hlen
    by_cases h3 : dz = 3
    · subst h3
      obtain ⟨y_ls, v4, rfl, rfl, rfl, hn, hp, hh⟩ := hI
      apply And.intro
      · intro h6
        exact hQ _ (by intro j; rw [hh j, show v4 = (9 : Int) by omega]; rfl)
      · intro h6
        intro z12 h12
        first | replace h12 := e_mul h12 (by omega) | replace h12 := e_rng h12
        intro z15 h15
        first | replace h15 := e_add h15 (by omega) | replace h15 := e_rng h15
        apply And.intro
        · exact ⟨by omega, by omega⟩
        intro z22 h22
        apply And.intro
        · exact ⟨by omega, by omega⟩
        intro z24 h24
        first | replace h24 := e_add h24 (by omega) | replace h24 := e_rng h24
        exact ⟨_, ⟨_, _, rfl, rfl, rfl, rfl, (by first | omega | assumption | exact q_rg_up (by assumption) (by omega) | exact q_rg_up (q_rg_up (by assumption) (by omega)) (by omega) | exact q_rg_cpy (by assumption) (by assumption)), (by first | exact stR_s hh (by omega) h22 (by omega) (by omega) | (intro j; rw [if_neg (by omega)]))⟩, by omega⟩
    simp only [I_X12_store9, h3, if_false] at hI
  rintro lv st w' ⟨rfl, rfl, rfl⟩
  exact ⟨_, _, _, rfl, rfl, rfl, rfl, (by first | omega | assumption | exact q_rg_up (by assumption) (by omega) | exact q_rg_up (q_rg_up (by assumption) (by omega)) (by omega) | exact q_rg_cpy (by assumption) (by assumption)), (by first | exact stR_s hh (by omega) h22 (by omega) (by omega) | (intro j; rw [if_neg (by omega)]))⟩

theorem dX12_store21_0 : decode cX12_store 0 = .ok (.iconst 0, 1) := by decide +kernel
theorem dX12_store21_1 : decode cX12_store 1 = .ok (.istore 4, 2) := by decide +kernel
theorem dX12_store21_3 : decode cX12_store 3 = .ok (.iload 4, 2) := by decide +kernel
theorem dX12_store21_5 : decode cX12_store 5 = .ok (.iload_n 2, 1) := by decide +kernel
theorem dX12_store21_6 : decode cX12_store 6 = .ok (.if_icmp .ge 24, 3) := by decide +kernel
theorem dX12_store21_9 : decode cX12_store 9 = .ok (.aload_n 1, 1) := by decide +kernel
theorem dX12_store21_10 : decode cX12_store 10 = .ok (.iload_n 2, 1) := by decide +kernel
theorem dX12_store21_11 : decode cX12_store 11 = .ok (.iload_n 3, 1) := by decide +kernel
theorem dX12_store21_12 : decode cX12_store 12 = .ok (.imul, 1) := by decide +kernel
theorem dX12_store21_13 : decode cX12_store 13 = .ok (.iload 4, 2) := by decide +kernel
theorem dX12_store21_15 : decode cX12_store 15 = .ok (.iadd, 1) := by decide +kernel
theorem dX12_store21_16 : decode cX12_store 16 = .ok (.aload_n 0, 1) := by decide +kernel
theorem dX12_store21_17 : decode cX12_store 17 = .ok (.getfield 38, 3) := by decide +kernel
theorem dX12_store21_20 : decode cX12_store 20 = .ok (.iload 4, 2) := by decide +kernel
theorem dX12_store21_22 : decode cX12_store 22 = .ok (.iaload, 1) := by decide +kernel
theorem dX12_store21_23 : decode cX12_store 23 = .ok (.iastore, 1) := by decide +kernel
theorem dX12_store21_24 : decode cX12_store 24 = .ok (.iinc 4 1, 3) := by decide +kernel
theorem dX12_store21_27 : decode cX12_store 27 = .ok (.goto (-24), 3) := by decide +kernel
theorem dX12_store21_30 : decode cX12_store 30 = .ok (.return_, 1) := by decide +kernel
def is_X12_store21 : Nat → List Nat := fun d => if d = 3 then [0, 1, 2, 3, 4] else []
set_option maxRecDepth 100000 in
def b_X12_store21_3 (J : Nat → List qV → List qV → qW → Prop) (Q : qR) : qK := x_iload 4 (x_iload 2 (x_icmp_ge (x_vret Q) (x_aload 1 (x_iload 2 (x_iload 3 (x_imul (x_iload 4 (x_iadd (x_aload 0 (x_get 12 19 (x_iload 4 (x_iald (x_iast (x_nw (x_iinc 4 1 (x_cut [0, 1, 2, 3, 4] (J 3)))))))))))))))))
set_option maxRecDepth 100000 in
theorem s_X12_store21_3 {p : Program} {l : Launch} {e : Env} {R : Room} {s : State} {m : MethodId} {args : Array Value} {below : List Frame} {meth : Method} {c : Code} {nW : Nat} {dC : Nat → ClassId} {dI : Nat → Nat → Nat} {k : Nat → ClassId} {g : Nat → Nat} {A : Nat → Prop} {J : Nat → List qV → List qV → qW → Prop} {Q : qR} (X : q_X p R s m args meth c cX12_store 5 nW 0 0 RX12 none dC dI k g A) (hJ : ∀ d : Nat, q_Sd p l e R s m args below meth c 5 nW dC dI k g A (MQ below (q_post (dC, dI) k g nW Q A) args s 0 0 A) d (x_cut (is_X12_store21 d) (J d))) : q_Sd p l e R s m args below meth c 5 nW dC dI k g A (MQ below (q_post (dC, dI) k g nW Q A) args s 0 0 A) 3 (b_X12_store21_3 J Q) := by
  unfold b_X12_store21_3
  refine s_iload X dX12_store21_3 ?_
  refine s_iload_n X rfl dX12_store21_5 ?_
  refine s_icmp_ge X (tgt := 30) dX12_store21_6 (by decide) ?_ ?_
  · exact s_vret X dX12_store21_30
  · refine s_aload_n X rfl dX12_store21_9 ?_
    refine s_iload_n X rfl dX12_store21_10 ?_
    refine s_iload_n X rfl dX12_store21_11 ?_
    refine s_imul X dX12_store21_12 ?_
    refine s_iload X dX12_store21_13 ?_
    refine s_iadd X dX12_store21_15 ?_
    refine s_aload_n X rfl dX12_store21_16 ?_
    refine s_get X (T := TX12) (C := RX12) (N := 45) tu_X12 rfl (by decide) tw_1016 dX12_store21_17 ?_
    refine s_iload X dX12_store21_20 ?_
    refine s_iald X dX12_store21_22 ?_
    refine s_iast X dX12_store21_23 ?_
    refine s_nw ?_
    refine s_iinc X (by decide) dX12_store21_24 ?_
    refine s_goto X (tgt := 3) dX12_store21_27 (by decide) ?_
    exact hJ 3
set_option maxRecDepth 100000 in
def b_X12_store21_0 (J : Nat → List qV → List qV → qW → Prop) (Q : qR) : qK := x_int 0 (x_istore 4 (x_cut [0, 1, 2, 3, 4] (J 3)))
set_option maxRecDepth 100000 in
theorem s_X12_store21_0 {p : Program} {l : Launch} {e : Env} {R : Room} {s : State} {m : MethodId} {args : Array Value} {below : List Frame} {meth : Method} {c : Code} {nW : Nat} {dC : Nat → ClassId} {dI : Nat → Nat → Nat} {k : Nat → ClassId} {g : Nat → Nat} {A : Nat → Prop} {J : Nat → List qV → List qV → qW → Prop} {Q : qR} (X : q_X p R s m args meth c cX12_store 5 nW 0 0 RX12 none dC dI k g A) (hJ : ∀ d : Nat, q_Sd p l e R s m args below meth c 5 nW dC dI k g A (MQ below (q_post (dC, dI) k g nW Q A) args s 0 0 A) d (x_cut (is_X12_store21 d) (J d))) : q_Sd p l e R s m args below meth c 5 nW dC dI k g A (MQ below (q_post (dC, dI) k g nW Q A) args s 0 0 A) 0 (b_X12_store21_0 J Q) := by
  unfold b_X12_store21_0
  refine s_iconst X ⟨by decide, by decide⟩ dX12_store21_0 ?_
  refine s_istore X (by decide) dX12_store21_1 ?_
  exact hJ 3

def sp_X12_store21 : qS := fun av w Q => ∃ (mco : Int) (mre : Int) (mle : Int) (mbe : Int) (mso : Int) (mva : Int) (mwo : Int) (mwr : Int) (mlf : Int) (mlp : Int) (mfp : Int) (mfd : Int) (mgo : Int) (mbo : Int) (mpe : Int) (mye : Int) (mpr : Int) (mld : Int) (msi : Int) (mse : Int) (td : Nat → Int) (ss : Nat → Int) (a : Int), av = [q2 0, q2 2, q1 21, q1 a] ∧ w = [.inr (12, [q1 mco, q2 3, q2 4, q2 5, q2 6, q2 7, q2 8, q2 9, q2 10, q2 2, q1 mre, q1 mle, q1 mbe, q1 mso, q1 mva, q3 mwo, q1 mwr, q1 mlf, q1 mlp, q2 1, q2 11, q1 mfp, q1 mfd, q1 mgo, q1 mbo, q1 mpe, q1 mye, q2 12, q1 mpr, q2 13, q2 14, q2 15, q2 16, q1 mld, q2 17, q1 msi, q2 18, q2 19, q2 20, q2 21, q2 22, q1 mse, q2 23, q2 24, q2 25]), .inl (0, 161, .inl td), .inl (0, 168, .inl ss)] ∧ (0 ≤ a ∧ a ≤ 1) ∧ (∀ (x_ss : Nat → Int), stR 21 td ss x_ss a → Q none ([.inr (12, [q1 mco, q2 3, q2 4, q2 5, q2 6, q2 7, q2 8, q2 9, q2 10, q2 2, q1 mre, q1 mle, q1 mbe, q1 mso, q1 mva, q3 mwo, q1 mwr, q1 mlf, q1 mlp, q2 1, q2 11, q1 mfp, q1 mfd, q1 mgo, q1 mbo, q1 mpe, q1 mye, q2 12, q1 mpr, q2 13, q2 14, q2 15, q2 16, q1 mld, q2 17, q1 msi, q2 18, q2 19, q2 20, q2 21, q2 22, q1 mse, q2 23, q2 24, q2 25]), .inl (0, 161, .inl td), .inl (0, 168, .inl x_ss)]))
def I_X12_store21 (mco : Int) (mre : Int) (mle : Int) (mbe : Int) (mso : Int) (mva : Int) (mwo : Int) (mwr : Int) (mlf : Int) (mlp : Int) (mfp : Int) (mfd : Int) (mgo : Int) (mbo : Int) (mpe : Int) (mye : Int) (mpr : Int) (mld : Int) (msi : Int) (mse : Int) (td : Nat → Int) (ss : Nat → Int) (a : Int) : Nat → Nat → List qV → List qV → qW → Prop := fun dz mz vz sz wz => if dz = 3 then (∃ (y_ss : Nat → Int) (v4 : Int), vz = [q2 0, q2 2, q1 21, q1 a, q1 v4] ∧ sz = [] ∧ wz = [.inr (12, [q1 mco, q2 3, q2 4, q2 5, q2 6, q2 7, q2 8, q2 9, q2 10, q2 2, q1 mre, q1 mle, q1 mbe, q1 mso, q1 mva, q3 mwo, q1 mwr, q1 mlf, q1 mlp, q2 1, q2 11, q1 mfp, q1 mfd, q1 mgo, q1 mbo, q1 mpe, q1 mye, q2 12, q1 mpr, q2 13, q2 14, q2 15, q2 16, q1 mld, q2 17, q1 msi, q2 18, q2 19, q2 20, q2 21, q2 22, q1 mse, q2 23, q2 24, q2 25]), .inl (0, 161, .inl td), .inl (0, 168, .inl y_ss)] ∧ mz = (21 - v4).toNat ∧ (0 ≤ v4 ∧ v4 ≤ 21) ∧ (∀ j : Nat, y_ss j = if (21 : Int) * a ≤ j ∧ (j : Int) < 21 * a + v4 then td (j - (21 : Int) * a).toNat else ss j)) else False
set_option maxHeartbeats 4000000 in
set_option maxRecDepth 100000 in
theorem m_X12_store21 (l : Launch) : q_M l yX12_store cX12_store 5 none 0 0 sp_X12_store21 := by
  refine q_meth (by decide) (fun av w Q h => by obtain ⟨mco, mre, mle, mbe, mso, mva, mwo, mwr, mlf, mlp, mfp, mfd, mgo, mbo, mpe, mye, mpr, mld, msi, mse, td, ss, a, rfl, rfl, ha, hQ⟩ := h; exact Nat.le_of_ble_eq_true rfl) ?_
  intro p e R s m args below meth c dC dI k g A av w Q hsp oka okw X
  obtain ⟨mco, mre, mle, mbe, mso, mva, mwo, mwr, mlf, mlp, mfp, mfd, mgo, mbo, mpe, mye, mpr, mld, msi, mse, td, ss, a, rfl, rfl, ha, hQ⟩ := hsp
  have o_a : -2147483648 ≤ a ∧ a ≤ 2147483647 := oka _ (List.mem_of_getElem? (i := 3) rfl)
  refine s_mono (s_X12_store21_0 X (J := fun dz vz sz wz => ∃ mz, I_X12_store21 mco mre mle mbe mso mva mwo mwr mlf mlp mfp mfd mgo mbo mpe mye mpr mld msi mse td ss a dz mz vz sz wz) (q_loopn (I_X12_store21 mco mre mle mbe mso mva mwo mwr mlf mlp mfp mfd mgo mbo mpe mye mpr mld msi mse td ss a) (fun dz J => if dz = 3 then b_X12_store21_3 J Q else q_F) ?hs ?hv)) ?_
  case hs =>
    intro d J hJ
    by_cases h3 : d = 3
    · subst h3; exact s_X12_store21_3 X hJ
    simp only [h3, if_false]
    exact s_F
  case hv =>
    intro dz mz vz sz wz hI okv oks okw hlen
    by_cases h3 : dz = 3
    · subst h3
      obtain ⟨y_ss, v4, rfl, rfl, rfl, hn, hp, hh⟩ := hI
      apply And.intro
      · intro h6
        exact hQ _ (by intro j; rw [hh j, show v4 = (21 : Int) by omega]; rfl)
      · intro h6
        intro z12 h12
        first | replace h12 := e_mul h12 (by omega) | replace h12 := e_rng h12
        intro z15 h15
        first | replace h15 := e_add h15 (by omega) | replace h15 := e_rng h15
        apply And.intro
        · exact ⟨by omega, by omega⟩
        intro z22 h22
        apply And.intro
        · exact ⟨by omega, by omega⟩
        intro z24 h24
        first | replace h24 := e_add h24 (by omega) | replace h24 := e_rng h24
        exact ⟨_, ⟨_, _, rfl, rfl, rfl, rfl, (by first | omega | assumption | exact q_rg_up (by assumption) (by omega) | exact q_rg_up (q_rg_up (by assumption) (by omega)) (by omega) | exact q_rg_cpy (by assumption) (by assumption)), (by first | exact stR_s hh (by omega) h22 (by omega) (by omega) | (intro j; rw [if_neg (by omega)]))⟩, by omega⟩
    simp only [I_X12_store21, h3, if_false] at hI
  rintro lv st w' ⟨rfl, rfl, rfl⟩
  exact ⟨_, _, _, rfl, rfl, rfl, rfl, (by first | omega | assumption | exact q_rg_up (by assumption) (by omega) | exact q_rg_up (q_rg_up (by assumption) (by omega)) (by omega) | exact q_rg_cpy (by assumption) (by assumption)), (by first | exact stR_s hh (by omega) h22 (by omega) (by omega) | (intro j; rw [if_neg (by omega)]))⟩

theorem dX12_storeAll_0 : decode cX12_storeAll 0 = .ok (.iload_n 1, 1) := by decide +kernel
theorem dX12_storeAll_1 : decode cX12_storeAll 1 = .ok (.tableswitch 64 0 2 #[27, 39, 52], 27) := by decide +kernel
theorem dX12_storeAll_28 : decode cX12_storeAll 28 = .ok (.aload_n 0, 1) := by decide +kernel
theorem dX12_storeAll_29 : decode cX12_storeAll 29 = .ok (.aload_n 0, 1) := by decide +kernel
theorem dX12_storeAll_30 : decode cX12_storeAll 30 = .ok (.getfield 26, 3) := by decide +kernel
theorem dX12_storeAll_33 : decode cX12_storeAll 33 = .ok (.bipush 75, 2) := by decide +kernel
theorem dX12_storeAll_35 : decode cX12_storeAll 35 = .ok (.iload_n 2, 1) := by decide +kernel
theorem dX12_storeAll_36 : decode cX12_storeAll 36 = .ok (.invokevirtual 283, 3) := by decide +kernel
theorem dX12_storeAll_39 : decode cX12_storeAll 39 = .ok (.return_, 1) := by decide +kernel
theorem dX12_storeAll_40 : decode cX12_storeAll 40 = .ok (.aload_n 0, 1) := by decide +kernel
theorem dX12_storeAll_41 : decode cX12_storeAll 41 = .ok (.aload_n 0, 1) := by decide +kernel
theorem dX12_storeAll_42 : decode cX12_storeAll 42 = .ok (.getfield 29, 3) := by decide +kernel
theorem dX12_storeAll_45 : decode cX12_storeAll 45 = .ok (.sipush 161, 3) := by decide +kernel
theorem dX12_storeAll_48 : decode cX12_storeAll 48 = .ok (.iload_n 2, 1) := by decide +kernel
theorem dX12_storeAll_49 : decode cX12_storeAll 49 = .ok (.invokevirtual 283, 3) := by decide +kernel
theorem dX12_storeAll_52 : decode cX12_storeAll 52 = .ok (.return_, 1) := by decide +kernel
theorem dX12_storeAll_53 : decode cX12_storeAll 53 = .ok (.aload_n 0, 1) := by decide +kernel
theorem dX12_storeAll_54 : decode cX12_storeAll 54 = .ok (.aload_n 0, 1) := by decide +kernel
theorem dX12_storeAll_55 : decode cX12_storeAll 55 = .ok (.getfield 32, 3) := by decide +kernel
theorem dX12_storeAll_58 : decode cX12_storeAll 58 = .ok (.bipush 9, 2) := by decide +kernel
theorem dX12_storeAll_60 : decode cX12_storeAll 60 = .ok (.iload_n 2, 1) := by decide +kernel
theorem dX12_storeAll_61 : decode cX12_storeAll 61 = .ok (.invokevirtual 283, 3) := by decide +kernel
theorem dX12_storeAll_64 : decode cX12_storeAll 64 = .ok (.return_, 1) := by decide +kernel
theorem dX12_storeAll_65 : decode cX12_storeAll 65 = .ok (.aload_n 0, 1) := by decide +kernel
theorem dX12_storeAll_66 : decode cX12_storeAll 66 = .ok (.aload_n 0, 1) := by decide +kernel
theorem dX12_storeAll_67 : decode cX12_storeAll 67 = .ok (.getfield 35, 3) := by decide +kernel
theorem dX12_storeAll_70 : decode cX12_storeAll 70 = .ok (.bipush 21, 2) := by decide +kernel
theorem dX12_storeAll_72 : decode cX12_storeAll 72 = .ok (.iload_n 2, 1) := by decide +kernel
theorem dX12_storeAll_73 : decode cX12_storeAll 73 = .ok (.invokevirtual 283, 3) := by decide +kernel
theorem dX12_storeAll_76 : decode cX12_storeAll 76 = .ok (.return_, 1) := by decide +kernel
def is_X12_storeAll : Nat → List Nat := fun d => []
set_option maxRecDepth 100000 in
def b_X12_storeAll_66 (J : Nat → List qV → List qV → qW → Prop) (Q : qR) : qK := x_aload 0 (x_get 12 9 (x_int 21 (x_iload 2 (x_call (some 12) 4 sp_X12_store21 (x_nw (x_vret Q))))))
set_option maxRecDepth 100000 in
theorem s_X12_storeAll_66 {p : Program} {l : Launch} {e : Env} {R : Room} {s : State} {m : MethodId} {args : Array Value} {below : List Frame} {meth : Method} {c : Code} {nW : Nat} {dC : Nat → ClassId} {dI : Nat → Nat → Nat} {k : Nat → ClassId} {g : Nat → Nat} {A : Nat → Prop} {J : Nat → List qV → List qV → qW → Prop} {Q : qR} (X : q_X p R s m args meth c cX12_storeAll 3 nW 1 24 RX12 none dC dI k g A) (hJ : ∀ d : Nat, q_Sd p l e R s m args below meth c 3 nW dC dI k g A (MQ below (q_post (dC, dI) k g nW Q A) args s 0 0 A) d (x_cut (is_X12_storeAll d) (J d))) : q_Sd p l e R s m args below meth c 3 nW dC dI k g A (MQ below (q_post (dC, dI) k g nW Q A) args s 0 0 A) 66 (b_X12_storeAll_66 J Q) := by
  unfold b_X12_storeAll_66
  refine s_aload_n X rfl dX12_storeAll_66 ?_
  refine s_get X (T := TX12) (C := RX12) (N := 45) tu_X12 rfl (by decide) tw_1006 dX12_storeAll_67 ?_
  refine s_bipush X ⟨by decide, by decide⟩ (by decide) dX12_storeAll_70 ?_
  refine s_iload_n X rfl dX12_storeAll_72 ?_
  refine s_callV X (m_X12_store21 l) tw_1175 tw_1176 tw_1617 tw_134 tw_1177 rfl (by decide +kernel) ⟨by decide, by decide⟩ dX12_storeAll_73 ?_
  refine s_nw ?_
  exact s_vret X dX12_storeAll_76
set_option maxRecDepth 100000 in
def b_X12_storeAll_0 (J : Nat → List qV → List qV → qW → Prop) (Q : qR) : qK := x_iload 1 (x_sw 0 2 [x_aload 0 (x_aload 0 (x_get 12 6 (x_int 75 (x_iload 2 (x_call (some 12) 4 sp_X12_store75 (x_nw (x_vret Q))))))), x_aload 0 (x_aload 0 (x_get 12 7 (x_int 161 (x_iload 2 (x_call (some 12) 4 sp_X12_store161 (x_nw (x_vret Q))))))), x_aload 0 (x_aload 0 (x_get 12 8 (x_int 9 (x_iload 2 (x_call (some 12) 4 sp_X12_store9 (x_nw (x_vret Q)))))))] (x_aload 0 (b_X12_storeAll_66 J Q)))
set_option maxRecDepth 100000 in
theorem s_X12_storeAll_0 {p : Program} {l : Launch} {e : Env} {R : Room} {s : State} {m : MethodId} {args : Array Value} {below : List Frame} {meth : Method} {c : Code} {nW : Nat} {dC : Nat → ClassId} {dI : Nat → Nat → Nat} {k : Nat → ClassId} {g : Nat → Nat} {A : Nat → Prop} {J : Nat → List qV → List qV → qW → Prop} {Q : qR} (X : q_X p R s m args meth c cX12_storeAll 3 nW 1 24 RX12 none dC dI k g A) (hJ : ∀ d : Nat, q_Sd p l e R s m args below meth c 3 nW dC dI k g A (MQ below (q_post (dC, dI) k g nW Q A) args s 0 0 A) d (x_cut (is_X12_storeAll d) (J d))) : q_Sd p l e R s m args below meth c 3 nW dC dI k g A (MQ below (q_post (dC, dI) k g nW Q A) args s 0 0 A) 0 (b_X12_storeAll_0 J Q) := by
  unfold b_X12_storeAll_0
  refine s_iload_n X rfl dX12_storeAll_0 ?_
  refine s_sw X (ts := [28, 40, 53]) (td := 65) dX12_storeAll_1 (by decide) (by decide) (by decide) rfl ?_ ?_
  · intro i t K ht hK
    match i, ht, hK with
    | 0, ht, hK =>
      cases ht
      cases hK
      refine s_aload_n X rfl dX12_storeAll_28 ?_
      refine s_aload_n X rfl dX12_storeAll_29 ?_
      refine s_get X (T := TX12) (C := RX12) (N := 45) tu_X12 rfl (by decide) tw_1003 dX12_storeAll_30 ?_
      refine s_bipush X ⟨by decide, by decide⟩ (by decide) dX12_storeAll_33 ?_
      refine s_iload_n X rfl dX12_storeAll_35 ?_
      refine s_callV X (m_X12_store75 l) tw_1175 tw_1176 tw_1617 tw_134 tw_1177 rfl (by decide +kernel) ⟨by decide, by decide⟩ dX12_storeAll_36 ?_
      refine s_nw ?_
      exact s_vret X dX12_storeAll_39
    | 1, ht, hK =>
      cases ht
      cases hK
      refine s_aload_n X rfl dX12_storeAll_40 ?_
      refine s_aload_n X rfl dX12_storeAll_41 ?_
      refine s_get X (T := TX12) (C := RX12) (N := 45) tu_X12 rfl (by decide) tw_1004 dX12_storeAll_42 ?_
      refine s_sipush X ⟨by decide, by decide⟩ (by decide) dX12_storeAll_45 ?_
      refine s_iload_n X rfl dX12_storeAll_48 ?_
      refine s_callV X (m_X12_store161 l) tw_1175 tw_1176 tw_1617 tw_134 tw_1177 rfl (by decide +kernel) ⟨by decide, by decide⟩ dX12_storeAll_49 ?_
      refine s_nw ?_
      exact s_vret X dX12_storeAll_52
    | 2, ht, hK =>
      cases ht
      cases hK
      refine s_aload_n X rfl dX12_storeAll_53 ?_
      refine s_aload_n X rfl dX12_storeAll_54 ?_
      refine s_get X (T := TX12) (C := RX12) (N := 45) tu_X12 rfl (by decide) tw_1005 dX12_storeAll_55 ?_
      refine s_bipush X ⟨by decide, by decide⟩ (by decide) dX12_storeAll_58 ?_
      refine s_iload_n X rfl dX12_storeAll_60 ?_
      refine s_callV X (m_X12_store9 l) tw_1175 tw_1176 tw_1617 tw_134 tw_1177 rfl (by decide +kernel) ⟨by decide, by decide⟩ dX12_storeAll_61 ?_
      refine s_nw ?_
      exact s_vret X dX12_storeAll_64
    | i + 3, ht, hK => exact absurd ht (by simp)
  · refine s_aload_n X rfl dX12_storeAll_65 ?_
    exact s_X12_storeAll_66 X hJ

def sp_X12_storeAll : qS := fun av w Q => ∃ (mco : Int) (mre : Int) (mle : Int) (mbe : Int) (mso : Int) (mva : Int) (mwo : Int) (mwr : Int) (mlf : Int) (mlp : Int) (mfp : Int) (mfd : Int) (mgo : Int) (mbo : Int) (mpe : Int) (mye : Int) (mpr : Int) (mld : Int) (msi : Int) (mse : Int) (td : Nat → Int) (bs : Nat → Int) (ys : Nat → Int) (ls : Nat → Int) (ss : Nat → Int) (a : Int) (b : Int), av = [q2 0, q1 a, q1 b] ∧ w = [.inr (12, [q1 mco, q2 6, q2 7, q2 8, q2 9, q2 10, q2 2, q2 3, q2 4, q2 5, q1 mre, q1 mle, q1 mbe, q1 mso, q1 mva, q3 mwo, q1 mwr, q1 mlf, q1 mlp, q2 1, q2 11, q1 mfp, q1 mfd, q1 mgo, q1 mbo, q1 mpe, q1 mye, q2 12, q1 mpr, q2 13, q2 14, q2 15, q2 16, q1 mld, q2 17, q1 msi, q2 18, q2 19, q2 20, q2 21, q2 22, q1 mse, q2 23, q2 24, q2 25]), .inl (0, 161, .inl td), .inl (0, 600, .inl bs), .inl (0, 1288, .inl ys), .inl (0, 72, .inl ls), .inl (0, 168, .inl ss)] ∧ (0 ≤ a ∧ a ≤ 3 ∧ 0 ≤ b ∧ b ≤ 1) ∧ (TI a td) ∧ (a = 0 → AC td 0) ∧ (BI bs) ∧ (YI ys) ∧ (SI ss) ∧ (∀ (x_bs : Nat → Int) (x_ys : Nat → Int) (x_ls : Nat → Int) (x_ss : Nat → Int), (BI x_bs ∧ YI x_ys ∧ SI x_ss) → Q none ([.inr (12, [q1 mco, q2 6, q2 7, q2 8, q2 9, q2 10, q2 2, q2 3, q2 4, q2 5, q1 mre, q1 mle, q1 mbe, q1 mso, q1 mva, q3 mwo, q1 mwr, q1 mlf, q1 mlp, q2 1, q2 11, q1 mfp, q1 mfd, q1 mgo, q1 mbo, q1 mpe, q1 mye, q2 12, q1 mpr, q2 13, q2 14, q2 15, q2 16, q1 mld, q2 17, q1 msi, q2 18, q2 19, q2 20, q2 21, q2 22, q1 mse, q2 23, q2 24, q2 25]), .inl (0, 161, .inl td), .inl (0, 600, .inl x_bs), .inl (0, 1288, .inl x_ys), .inl (0, 72, .inl x_ls), .inl (0, 168, .inl x_ss)]))
set_option maxHeartbeats 4000000 in
set_option maxRecDepth 100000 in
theorem m_X12_storeAll (l : Launch) : q_M l yX12_storeAll cX12_storeAll 3 none 1 24 sp_X12_storeAll := by
  refine q_meth (by decide) (fun av w Q h => by obtain ⟨mco, mre, mle, mbe, mso, mva, mwo, mwr, mlf, mlp, mfp, mfd, mgo, mbo, mpe, mye, mpr, mld, msi, mse, td, bs, ys, ls, ss, a, b, rfl, rfl, ha, hti, hta, hbi, hyi, hsi, hQ⟩ := h; exact Nat.le_of_ble_eq_true rfl) ?_
  intro p e R s m args below meth c dC dI k g A av w Q hsp oka okw X
  obtain ⟨mco, mre, mle, mbe, mso, mva, mwo, mwr, mlf, mlp, mfp, mfd, mgo, mbo, mpe, mye, mpr, mld, msi, mse, td, bs, ys, ls, ss, a, b, rfl, rfl, ha, hti, hta, hbi, hyi, hsi, hQ⟩ := hsp
  have o_a : -2147483648 ≤ a ∧ a ≤ 2147483647 := oka _ (List.mem_of_getElem? (i := 1) rfl)
  have o_b : -2147483648 ≤ b ∧ b ≤ 2147483647 := oka _ (List.mem_of_getElem? (i := 2) rfl)
  refine s_mono (s_X12_storeAll_0 X (J := fun _ _ _ _ => False) (fun d => s_cutF)) ?_
  rintro lv st w' ⟨rfl, rfl, rfl⟩
  apply And.intro
  · apply And.intro
    · intro h1
      refine Exists.intro [0, 1, 2, 6, 7, 8, 9, 10, 3, 4, 5, 11, 12, 13, 14, 15, 16, 17, 18, 19, 20, 21, 22, 23, 24, 25] (Exists.intro [q2 0, q2 2, q1 75, q1 _] (Exists.intro ([.inr (12, [q1 _, q2 3, q2 4, q2 5, q2 6, q2 7, q2 2, q2 8, q2 9, q2 10, q1 _, q1 _, q1 _, q1 _, q1 _, q3 _, q1 _, q1 _, q1 _, q2 1, q2 11, q1 _, q1 _, q1 _, q1 _, q1 _, q1 _, q2 12, q1 _, q2 13, q2 14, q2 15, q2 16, q1 _, q2 17, q1 _, q2 18, q2 19, q2 20, q2 21, q2 22, q1 _, q2 23, q2 24, q2 25]), .inl (0, 161, .inl _), .inl (0, 600, .inl _)]) (And.intro rfl (And.intro rfl (And.intro rfl (And.intro ⟨⟨_, rfl⟩, rfl⟩ ?_))))))
      refine Exists.intro _ (Exists.intro _ (Exists.intro _ (Exists.intro _ (Exists.intro _ (Exists.intro _ (Exists.intro _ (Exists.intro _ (Exists.intro _ (Exists.intro _ (Exists.intro _ (Exists.intro _ (Exists.intro _ (Exists.intro _ (Exists.intro _ (Exists.intro _ (Exists.intro _ (Exists.intro _ (Exists.intro _ (Exists.intro _ (Exists.intro _ (Exists.intro _ (Exists.intro _ (And.intro rfl (And.intro rfl (And.intro (by first | omega | assumption | exact q_rg_up (by assumption) (by omega) | exact q_rg_up (q_rg_up (by assumption) (by omega)) (by omega) | exact q_rg_cpy (by assumption) (by assumption)) (?_))))))))))))))))))))))))))
      intro x_bs_36 h36
      exact hQ _ _ _ _ ⟨(by first | assumption | exact stR_BI (by omega) hbi (hti.1 (by omega)) (hta (by omega)) h36), (by first | assumption | exact stR_YI (by omega) hyi (hti.2.1 (by omega)) h49), (by first | assumption | exact stR_SI (by omega) hsi (hti.2.2 (by omega)) h73)⟩
    apply And.intro
    · intro h1
      refine Exists.intro [0, 1, 3, 6, 7, 8, 9, 10, 2, 4, 5, 11, 12, 13, 14, 15, 16, 17, 18, 19, 20, 21, 22, 23, 24, 25] (Exists.intro [q2 0, q2 2, q1 161, q1 _] (Exists.intro ([.inr (12, [q1 _, q2 3, q2 4, q2 5, q2 6, q2 7, q2 8, q2 2, q2 9, q2 10, q1 _, q1 _, q1 _, q1 _, q1 _, q3 _, q1 _, q1 _, q1 _, q2 1, q2 11, q1 _, q1 _, q1 _, q1 _, q1 _, q1 _, q2 12, q1 _, q2 13, q2 14, q2 15, q2 16, q1 _, q2 17, q1 _, q2 18, q2 19, q2 20, q2 21, q2 22, q1 _, q2 23, q2 24, q2 25]), .inl (0, 161, .inl _), .inl (0, 1288, .inl _)]) (And.intro rfl (And.intro rfl (And.intro rfl (And.intro ⟨⟨_, rfl⟩, rfl⟩ ?_))))))
      refine Exists.intro _ (Exists.intro _ (Exists.intro _ (Exists.intro _ (Exists.intro _ (Exists.intro _ (Exists.intro _ (Exists.intro _ (Exists.intro _ (Exists.intro _ (Exists.intro _ (Exists.intro _ (Exists.intro _ (Exists.intro _ (Exists.intro _ (Exists.intro _ (Exists.intro _ (Exists.intro _ (Exists.intro _ (Exists.intro _ (Exists.intro _ (Exists.intro _ (Exists.intro _ (And.intro rfl (And.intro rfl (And.intro (by first | omega | assumption | exact q_rg_up (by assumption) (by omega) | exact q_rg_up (q_rg_up (by assumption) (by omega)) (by omega) | exact q_rg_cpy (by assumption) (by assumption)) (?_))))))))))))))))))))))))))
      intro x_ys_49 h49
      exact hQ _ _ _ _ ⟨(by first | assumption | exact stR_BI (by omega) hbi (hti.1 (by omega)) (hta (by omega)) h36), (by first | assumption | exact stR_YI (by omega) hyi (hti.2.1 (by omega)) h49), (by first | assumption | exact stR_SI (by omega) hsi (hti.2.2 (by omega)) h73)⟩
    apply And.intro
    · intro h1
      refine Exists.intro [0, 1, 4, 6, 7, 8, 9, 10, 2, 3, 5, 11, 12, 13, 14, 15, 16, 17, 18, 19, 20, 21, 22, 23, 24, 25] (Exists.intro [q2 0, q2 2, q1 9, q1 _] (Exists.intro ([.inr (12, [q1 _, q2 3, q2 4, q2 5, q2 6, q2 7, q2 8, q2 9, q2 2, q2 10, q1 _, q1 _, q1 _, q1 _, q1 _, q3 _, q1 _, q1 _, q1 _, q2 1, q2 11, q1 _, q1 _, q1 _, q1 _, q1 _, q1 _, q2 12, q1 _, q2 13, q2 14, q2 15, q2 16, q1 _, q2 17, q1 _, q2 18, q2 19, q2 20, q2 21, q2 22, q1 _, q2 23, q2 24, q2 25]), .inl (0, 161, .inl _), .inl (0, 72, .inl _)]) (And.intro rfl (And.intro rfl (And.intro rfl (And.intro ⟨⟨_, rfl⟩, rfl⟩ ?_))))))
      refine Exists.intro _ (Exists.intro _ (Exists.intro _ (Exists.intro _ (Exists.intro _ (Exists.intro _ (Exists.intro _ (Exists.intro _ (Exists.intro _ (Exists.intro _ (Exists.intro _ (Exists.intro _ (Exists.intro _ (Exists.intro _ (Exists.intro _ (Exists.intro _ (Exists.intro _ (Exists.intro _ (Exists.intro _ (Exists.intro _ (Exists.intro _ (Exists.intro _ (Exists.intro _ (And.intro rfl (And.intro rfl (And.intro (by first | omega | assumption | exact q_rg_up (by assumption) (by omega) | exact q_rg_up (q_rg_up (by assumption) (by omega)) (by omega) | exact q_rg_cpy (by assumption) (by assumption)) (?_))))))))))))))))))))))))))
      intro x_ls_61 h61
      exact hQ _ _ _ _ ⟨(by first | assumption | exact stR_BI (by omega) hbi (hti.1 (by omega)) (hta (by omega)) h36), (by first | assumption | exact stR_YI (by omega) hyi (hti.2.1 (by omega)) h49), (by first | assumption | exact stR_SI (by omega) hsi (hti.2.2 (by omega)) h73)⟩
    exact trivial
  · intro h1
    refine Exists.intro [0, 1, 5, 6, 7, 8, 9, 10, 2, 3, 4, 11, 12, 13, 14, 15, 16, 17, 18, 19, 20, 21, 22, 23, 24, 25] (Exists.intro [q2 0, q2 2, q1 21, q1 _] (Exists.intro ([.inr (12, [q1 _, q2 3, q2 4, q2 5, q2 6, q2 7, q2 8, q2 9, q2 10, q2 2, q1 _, q1 _, q1 _, q1 _, q1 _, q3 _, q1 _, q1 _, q1 _, q2 1, q2 11, q1 _, q1 _, q1 _, q1 _, q1 _, q1 _, q2 12, q1 _, q2 13, q2 14, q2 15, q2 16, q1 _, q2 17, q1 _, q2 18, q2 19, q2 20, q2 21, q2 22, q1 _, q2 23, q2 24, q2 25]), .inl (0, 161, .inl _), .inl (0, 168, .inl _)]) (And.intro rfl (And.intro rfl (And.intro rfl (And.intro ⟨⟨_, rfl⟩, rfl⟩ ?_))))))
    refine Exists.intro _ (Exists.intro _ (Exists.intro _ (Exists.intro _ (Exists.intro _ (Exists.intro _ (Exists.intro _ (Exists.intro _ (Exists.intro _ (Exists.intro _ (Exists.intro _ (Exists.intro _ (Exists.intro _ (Exists.intro _ (Exists.intro _ (Exists.intro _ (Exists.intro _ (Exists.intro _ (Exists.intro _ (Exists.intro _ (Exists.intro _ (Exists.intro _ (Exists.intro _ (And.intro rfl (And.intro rfl (And.intro (by first | omega | assumption | exact q_rg_up (by assumption) (by omega) | exact q_rg_up (q_rg_up (by assumption) (by omega)) (by omega) | exact q_rg_cpy (by assumption) (by assumption)) (?_))))))))))))))))))))))))))
    intro x_ss_73 h73
    exact hQ _ _ _ _ ⟨(by first | assumption | exact stR_BI (by omega) hbi (hti.1 (by omega)) (hta (by omega)) h36), (by first | assumption | exact stR_YI (by omega) hyi (hti.2.1 (by omega)) h49), (by first | assumption | exact stR_SI (by omega) hsi (hti.2.2 (by omega)) h73)⟩
