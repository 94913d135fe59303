def wCo (b : Nat) (c1 c2 c3 : Nat → Int) : qW := [.inr (1, [q2 (b + 1), q2 (b + 2), q2 (b + 3)]), .inl (0, 8, .inl c1), .inl (0, 256, .inl c2), .inl (3, 9, .inr (.inl c3))]
theorem q4_all : ∀ i : Fin 9, 1 ≤ qs_4.getD i.val 0 ∧ qs_4.getD i.val 0 ≤ 40320 := by decide +kernel
theorem q4_pos {z i : Int} (h : z = qs_4.getD i.toNat 0) (hi : 0 ≤ i ∧ i < 9) : 1 ≤ z ∧ z ≤ 40320 := by
  rw [h]
  exact q4_all ⟨i.toNat, by omega⟩
theorem e_mul4 {z x y : Int} (h : z = (Int32.ofInt x * Int32.ofInt y).toInt) (hx : 1 ≤ x ∧ x ≤ 40320) (hy : 1 ≤ y ∧ y ≤ 40320) : 1 ≤ z ∧ z ≤ 1625702400 := by
  have h1 : x * y ≤ 40320 * 40320 := Int.mul_le_mul hx.2 hy.2 (by omega) (by omega)
  have h2 : 1 * 1 ≤ x * y := Int.mul_le_mul hx.1 hy.1 (by omega) (by omega)
  have h3 := e_mul h ⟨by omega, by omega⟩
  omega

theorem dX1_lineUp_0 : decode cX1_lineUp 0 = .ok (.iconst 0, 1) := by decide +kernel
theorem dX1_lineUp_1 : decode cX1_lineUp 1 = .ok (.istore_n 2, 1) := by decide +kernel
theorem dX1_lineUp_2 : decode cX1_lineUp 2 = .ok (.iload_n 2, 1) := by decide +kernel
theorem dX1_lineUp_3 : decode cX1_lineUp 3 = .ok (.aload_n 1, 1) := by decide +kernel
theorem dX1_lineUp_4 : decode cX1_lineUp 4 = .ok (.getfield 22, 3) := by decide +kernel
theorem dX1_lineUp_7 : decode cX1_lineUp 7 = .ok (.if_icmp .ge 64, 3) := by decide +kernel
theorem dX1_lineUp_10 : decode cX1_lineUp 10 = .ok (.iload_n 2, 1) := by decide +kernel
theorem dX1_lineUp_11 : decode cX1_lineUp 11 = .ok (.istore_n 3, 1) := by decide +kernel
theorem dX1_lineUp_12 : decode cX1_lineUp 12 = .ok (.iload_n 3, 1) := by decide +kernel
theorem dX1_lineUp_13 : decode cX1_lineUp 13 = .ok (.ifCond .le 40, 3) := by decide +kernel
theorem dX1_lineUp_16 : decode cX1_lineUp 16 = .ok (.aload_n 0, 1) := by decide +kernel
theorem dX1_lineUp_17 : decode cX1_lineUp 17 = .ok (.getfield 9, 3) := by decide +kernel
theorem dX1_lineUp_20 : decode cX1_lineUp 20 = .ok (.iload_n 3, 1) := by decide +kernel
theorem dX1_lineUp_21 : decode cX1_lineUp 21 = .ok (.iconst 1, 1) := by decide +kernel
theorem dX1_lineUp_22 : decode cX1_lineUp 22 = .ok (.isub, 1) := by decide +kernel
theorem dX1_lineUp_23 : decode cX1_lineUp 23 = .ok (.iaload, 1) := by decide +kernel
theorem dX1_lineUp_24 : decode cX1_lineUp 24 = .ok (.aload_n 1, 1) := by decide +kernel
theorem dX1_lineUp_25 : decode cX1_lineUp 25 = .ok (.getfield 28, 3) := by decide +kernel
theorem dX1_lineUp_28 : decode cX1_lineUp 28 = .ok (.iload_n 2, 1) := by decide +kernel
theorem dX1_lineUp_29 : decode cX1_lineUp 29 = .ok (.iaload, 1) := by decide +kernel
theorem dX1_lineUp_30 : decode cX1_lineUp 30 = .ok (.if_icmp .le 23, 3) := by decide +kernel
theorem dX1_lineUp_33 : decode cX1_lineUp 33 = .ok (.aload_n 0, 1) := by decide +kernel
theorem dX1_lineUp_34 : decode cX1_lineUp 34 = .ok (.getfield 9, 3) := by decide +kernel
theorem dX1_lineUp_37 : decode cX1_lineUp 37 = .ok (.iload_n 3, 1) := by decide +kernel
theorem dX1_lineUp_38 : decode cX1_lineUp 38 = .ok (.aload_n 0, 1) := by decide +kernel
theorem dX1_lineUp_39 : decode cX1_lineUp 39 = .ok (.getfield 9, 3) := by decide +kernel
theorem dX1_lineUp_42 : decode cX1_lineUp 42 = .ok (.iload_n 3, 1) := by decide +kernel
theorem dX1_lineUp_43 : decode cX1_lineUp 43 = .ok (.iconst 1, 1) := by decide +kernel
theorem dX1_lineUp_44 : decode cX1_lineUp 44 = .ok (.isub, 1) := by decide +kernel
theorem dX1_lineUp_45 : decode cX1_lineUp 45 = .ok (.iaload, 1) := by decide +kernel
theorem dX1_lineUp_46 : decode cX1_lineUp 46 = .ok (.iastore, 1) := by decide +kernel
theorem dX1_lineUp_47 : decode cX1_lineUp 47 = .ok (.iinc 3 (-1), 3) := by decide +kernel
theorem dX1_lineUp_50 : decode cX1_lineUp 50 = .ok (.goto (-38), 3) := by decide +kernel
theorem dX1_lineUp_53 : decode cX1_lineUp 53 = .ok (.aload_n 0, 1) := by decide +kernel
theorem dX1_lineUp_54 : decode cX1_lineUp 54 = .ok (.getfield 9, 3) := by decide +kernel
theorem dX1_lineUp_57 : decode cX1_lineUp 57 = .ok (.iload_n 3, 1) := by decide +kernel
theorem dX1_lineUp_58 : decode cX1_lineUp 58 = .ok (.aload_n 1, 1) := by decide +kernel
theorem dX1_lineUp_59 : decode cX1_lineUp 59 = .ok (.getfield 28, 3) := by decide +kernel
theorem dX1_lineUp_62 : decode cX1_lineUp 62 = .ok (.iload_n 2, 1) := by decide +kernel
theorem dX1_lineUp_63 : decode cX1_lineUp 63 = .ok (.iaload, 1) := by decide +kernel
theorem dX1_lineUp_64 : decode cX1_lineUp 64 = .ok (.iastore, 1) := by decide +kernel
theorem dX1_lineUp_65 : decode cX1_lineUp 65 = .ok (.iinc 2 1, 3) := by decide +kernel
theorem dX1_lineUp_68 : decode cX1_lineUp 68 = .ok (.goto (-66), 3) := by decide +kernel
theorem dX1_lineUp_71 : decode cX1_lineUp 71 = .ok (.return_, 1) := by decide +kernel
def is_X1_lineUp : Nat → List Nat := fun d => if d = 2 then [0, 1, 2] else if d = 12 then [0, 1, 2, 3] else []
set_option maxRecDepth 100000 in
def b_X1_lineUp_53 (J : Nat → List qV → List qV → qW → Prop) (Q : qR) : qK := x_aload 0 (x_get 1 0 (x_iload 3 (x_aload 1 (x_get 0 0 (x_iload 2 (x_iald (x_iast (x_nw (x_iinc 2 1 (x_cut [0, 1, 2] (J 2)))))))))))
set_option maxRecDepth 100000 in
theorem s_X1_lineUp_53 {p : Program} {l : Launch} {e : Env} {R : Room} {s : State} {m : MethodId} {args : Array Value} {below : List Frame} {meth : Method} {c : Code} {nW : Nat} {dC : Nat → ClassId} {dI : Nat → Nat → Nat} {k : Nat → ClassId} {g : Nat → Nat} {A : Nat → Prop} {J : Nat → List qV → List qV → qW → Prop} {Q : qR} (X : q_X p R s m args meth c cX1_lineUp 4 nW 0 0 RX1 none dC dI k g A) (hJ : ∀ d : Nat, q_Sd p l e R s m args below meth c 4 nW dC dI k g A (MQ below (q_post (dC, dI) k g nW Q A) args s 0 0 A) d (x_cut (is_X1_lineUp d) (J d))) : q_Sd p l e R s m args below meth c 4 nW dC dI k g A (MQ below (q_post (dC, dI) k g nW Q A) args s 0 0 A) 53 (b_X1_lineUp_53 J Q) := by
  unfold b_X1_lineUp_53
  refine s_aload_n X rfl dX1_lineUp_53 ?_
  refine s_get X (T := TX1) (C := RX1) (N := 3) tu_X1 rfl (by decide) tw_323 dX1_lineUp_54 ?_
  refine s_iload_n X rfl dX1_lineUp_57 ?_
  refine s_aload_n X rfl dX1_lineUp_58 ?_
  refine s_get X (T := TX0) (C := RX0) (N := 12) tu_X0 rfl (by decide) tw_166 dX1_lineUp_59 ?_
  refine s_iload_n X rfl dX1_lineUp_62 ?_
  refine s_iald X dX1_lineUp_63 ?_
  refine s_iast X dX1_lineUp_64 ?_
  refine s_nw ?_
  refine s_iinc X (by decide) dX1_lineUp_65 ?_
  refine s_goto X (tgt := 2) dX1_lineUp_68 (by decide) ?_
  exact hJ 2
set_option maxRecDepth 100000 in
def b_X1_lineUp_50 (J : Nat → List qV → List qV → qW → Prop) (Q : qR) : qK := x_cut [0, 1, 2, 3] (J 12)
set_option maxRecDepth 100000 in
theorem s_X1_lineUp_50 {p : Program} {l : Launch} {e : Env} {R : Room} {s : State} {m : MethodId} {args : Array Value} {below : List Frame} {meth : Method} {c : Code} {nW : Nat} {dC : Nat → ClassId} {dI : Nat → Nat → Nat} {k : Nat → ClassId} {g : Nat → Nat} {A : Nat → Prop} {J : Nat → List qV → List qV → qW → Prop} {Q : qR} (X : q_X p R s m args meth c cX1_lineUp 4 nW 0 0 RX1 none dC dI k g A) (hJ : ∀ d : Nat, q_Sd p l e R s m args below meth c 4 nW dC dI k g A (MQ below (q_post (dC, dI) k g nW Q A) args s 0 0 A) d (x_cut (is_X1_lineUp d) (J d))) : q_Sd p l e R s m args below meth c 4 nW dC dI k g A (MQ below (q_post (dC, dI) k g nW Q A) args s 0 0 A) 50 (b_X1_lineUp_50 J Q) := by
  unfold b_X1_lineUp_50
  refine s_goto X (tgt := 12) dX1_lineUp_50 (by decide) ?_
  exact hJ 12
set_option maxRecDepth 100000 in
def b_X1_lineUp_12 (J : Nat → List qV → List qV → qW → Prop) (Q : qR) : qK := x_iload 3 (x_if_le (b_X1_lineUp_53 J Q) (x_aload 0 (x_get 1 0 (x_iload 3 (x_int 1 (x_isub (x_iald (x_aload 1 (x_get 0 0 (x_iload 2 (x_iald (x_icmp_le (b_X1_lineUp_53 J Q) (x_aload 0 (x_get 1 0 (x_iload 3 (x_aload 0 (x_get 1 0 (x_iload 3 (x_int 1 (x_isub (x_iald (x_iast (x_nw (x_iinc 3 (-1) (b_X1_lineUp_50 J Q)))))))))))))))))))))))))
set_option maxRecDepth 100000 in
theorem s_X1_lineUp_12 {p : Program} {l : Launch} {e : Env} {R : Room} {s : State} {m : MethodId} {args : Array Value} {below : List Frame} {meth : Method} {c : Code} {nW : Nat} {dC : Nat → ClassId} {dI : Nat → Nat → Nat} {k : Nat → ClassId} {g : Nat → Nat} {A : Nat → Prop} {J : Nat → List qV → List qV → qW → Prop} {Q : qR} (X : q_X p R s m args meth c cX1_lineUp 4 nW 0 0 RX1 none dC dI k g A) (hJ : ∀ d : Nat, q_Sd p l e R s m args below meth c 4 nW dC dI k g A (MQ below (q_post (dC, dI) k g nW Q A) args s 0 0 A) d (x_cut (is_X1_lineUp d) (J d))) : q_Sd p l e R s m args below meth c 4 nW dC dI k g A (MQ below (q_post (dC, dI) k g nW Q A) args s 0 0 A) 12 (b_X1_lineUp_12 J Q) := by
  unfold b_X1_lineUp_12
  refine s_iload_n X rfl dX1_lineUp_12 ?_
  refine s_if_le X (tgt := 53) dX1_lineUp_13 (by decide) ?_ ?_
  · exact s_X1_lineUp_53 X hJ
  · refine s_aload_n X rfl dX1_lineUp_16 ?_
    refine s_get X (T := TX1) (C := RX1) (N := 3) tu_X1 rfl (by decide) tw_323 dX1_lineUp_17 ?_
    refine s_iload_n X rfl dX1_lineUp_20 ?_
    refine s_iconst X ⟨by decide, by decide⟩ dX1_lineUp_21 ?_
    refine s_isub X dX1_lineUp_22 ?_
    refine s_iald X dX1_lineUp_23 ?_
    refine s_aload_n X rfl dX1_lineUp_24 ?_
    refine s_get X (T := TX0) (C := RX0) (N := 12) tu_X0 rfl (by decide) tw_166 dX1_lineUp_25 ?_
    refine s_iload_n X rfl dX1_lineUp_28 ?_
    refine s_iald X dX1_lineUp_29 ?_
    refine s_icmp_le X (tgt := 53) dX1_lineUp_30 (by decide) ?_ ?_
    · exact s_X1_lineUp_53 X hJ
    · refine s_aload_n X rfl dX1_lineUp_33 ?_
      refine s_get X (T := TX1) (C := RX1) (N := 3) tu_X1 rfl (by decide) tw_323 dX1_lineUp_34 ?_
      refine s_iload_n X rfl dX1_lineUp_37 ?_
      refine s_aload_n X rfl dX1_lineUp_38 ?_
      refine s_get X (T := TX1) (C := RX1) (N := 3) tu_X1 rfl (by decide) tw_323 dX1_lineUp_39 ?_
      refine s_iload_n X rfl dX1_lineUp_42 ?_
      refine s_iconst X ⟨by decide, by decide⟩ dX1_lineUp_43 ?_
      refine s_isub X dX1_lineUp_44 ?_
      refine s_iald X dX1_lineUp_45 ?_
      refine s_iast X dX1_lineUp_46 ?_
      refine s_nw ?_
      refine s_iinc X (by decide) dX1_lineUp_47 ?_
      exact s_X1_lineUp_50 X hJ
set_option maxRecDepth 100000 in
def b_X1_lineUp_2 (J : Nat → List qV → List qV → qW → Prop) (Q : qR) : qK := x_iload 2 (x_aload 1 (x_get 0 7 (x_icmp_ge (x_vret Q) (x_iload 2 (x_istore 3 (x_cut [0, 1, 2, 3] (J 12)))))))
set_option maxRecDepth 100000 in
theorem s_X1_lineUp_2 {p : Program} {l : Launch} {e : Env} {R : Room} {s : State} {m : MethodId} {args : Array Value} {below : List Frame} {meth : Method} {c : Code} {nW : Nat} {dC : Nat → ClassId} {dI : Nat → Nat → Nat} {k : Nat → ClassId} {g : Nat → Nat} {A : Nat → Prop} {J : Nat → List qV → List qV → qW → Prop} {Q : qR} (X : q_X p R s m args meth c cX1_lineUp 4 nW 0 0 RX1 none dC dI k g A) (hJ : ∀ d : Nat, q_Sd p l e R s m args below meth c 4 nW dC dI k g A (MQ below (q_post (dC, dI) k g nW Q A) args s 0 0 A) d (x_cut (is_X1_lineUp d) (J d))) : q_Sd p l e R s m args below meth c 4 nW dC dI k g A (MQ below (q_post (dC, dI) k g nW Q A) args s 0 0 A) 2 (b_X1_lineUp_2 J Q) := by
  unfold b_X1_lineUp_2
  refine s_iload_n X rfl dX1_lineUp_2 ?_
  refine s_aload_n X rfl dX1_lineUp_3 ?_
  refine s_get X (T := TX0) (C := RX0) (N := 12) tu_X0 rfl (by decide) tw_192 dX1_lineUp_4 ?_
  refine s_icmp_ge X (tgt := 71) dX1_lineUp_7 (by decide) ?_ ?_
  · exact s_vret X dX1_lineUp_71
  · refine s_iload_n X rfl dX1_lineUp_10 ?_
    refine s_istore_n X rfl (by decide) dX1_lineUp_11 ?_
    exact hJ 12
set_option maxRecDepth 100000 in
def b_X1_lineUp_0 (J : Nat → List qV → List qV → qW → Prop) (Q : qR) : qK := x_int 0 (x_istore 2 (x_cut [0, 1, 2] (J 2)))
set_option maxRecDepth 100000 in
theorem s_X1_lineUp_0 {p : Program} {l : Launch} {e : Env} {R : Room} {s : State} {m : MethodId} {args : Array Value} {below : List Frame} {meth : Method} {c : Code} {nW : Nat} {dC : Nat → ClassId} {dI : Nat → Nat → Nat} {k : Nat → ClassId} {g : Nat → Nat} {A : Nat → Prop} {J : Nat → List qV → List qV → qW → Prop} {Q : qR} (X : q_X p R s m args meth c cX1_lineUp 4 nW 0 0 RX1 none dC dI k g A) (hJ : ∀ d : Nat, q_Sd p l e R s m args below meth c 4 nW dC dI k g A (MQ below (q_post (dC, dI) k g nW Q A) args s 0 0 A) d (x_cut (is_X1_lineUp d) (J d))) : q_Sd p l e R s m args below meth c 4 nW dC dI k g A (MQ below (q_post (dC, dI) k g nW Q A) args s 0 0 A) 0 (b_X1_lineUp_0 J Q) := by
  unfold b_X1_lineUp_0
  refine s_iconst X ⟨by decide, by decide⟩ dX1_lineUp_0 ?_
  refine s_istore_n X rfl (by decide) dX1_lineUp_1 ?_
  exact hJ 2

def sp_X1_lineUp : qS := fun av w Q => ∃ (c1 : Nat → Int) (c2 : Nat → Int) (c3 : Nat → Int) (f1 : Nat → Int) (f2 : Nat → Int) (f3 : Nat → Int) (f4 : Nat → Int) (f5 : Nat → Int) (f6 : Nat → Int) (f7 : Nat → Int) (u0 : Int) (u1 : Int) (u2 : Int) (u3 : Int) (u4 : Int), av = [q2 0, q2 4] ∧ w = (wCo 0 c1 c2 c3 ++ wBo 4 f1 f2 f3 f4 f5 f6 f7 u0 u1 u2 u3 u4) ∧ (0 ≤ u0 ∧ u0 ≤ 8) ∧ (∀ (x1 : Nat → Int), Q none ((wCo 0 x1 c2 c3 ++ wBo 4 f1 f2 f3 f4 f5 f6 f7 u0 u1 u2 u3 u4)))
def I_X1_lineUp (c1 : Nat → Int) (c2 : Nat → Int) (c3 : Nat → Int) (f1 : Nat → Int) (f2 : Nat → Int) (f3 : Nat → Int) (f4 : Nat → Int) (f5 : Nat → Int) (f6 : Nat → Int) (f7 : Nat → Int) (u0 : Int) (u1 : Int) (u2 : Int) (u3 : Int) (u4 : Int) : Nat → Nat → List qV → List qV → qW → Prop := fun dz mz vz sz wz => if dz = 2 then (∃ (y1 : Nat → Int) (v2 : Int), vz = [q2 0, q2 4, q1 v2] ∧ sz = [] ∧ wz = (wCo 0 y1 c2 c3 ++ wBo 4 f1 f2 f3 f4 f5 f6 f7 u0 u1 u2 u3 u4) ∧ mz = 100 * (u0 - v2).toNat ∧ (0 ≤ v2 ∧ v2 ≤ u0)) else if dz = 12 then (∃ (y1 : Nat → Int) (v2 : Int) (v3 : Int), vz = [q2 0, q2 4, q1 v2, q1 v3] ∧ sz = [] ∧ wz = (wCo 0 y1 c2 c3 ++ wBo 4 f1 f2 f3 f4 f5 f6 f7 u0 u1 u2 u3 u4) ∧ mz = 100 * (u0 - v2).toNat - 50 + v3.toNat ∧ (0 ≤ v2 ∧ v2 < u0 ∧ 0 ≤ v3 ∧ v3 ≤ v2)) else False
set_option maxHeartbeats 4000000 in
set_option maxRecDepth 100000 in
theorem m_X1_lineUp (l : Launch) : q_M l yX1_lineUp cX1_lineUp 4 none 0 0 sp_X1_lineUp := by
  refine q_meth (by decide) (fun av w Q h => by obtain ⟨c1, c2, c3, f1, f2, f3, f4, f5, f6, f7, u0, u1, u2, u3, u4, rfl, rfl, hu0, hQ⟩ := h; exact Nat.le_of_ble_eq_true rfl) ?_
  intro p e R s m args below meth c dC dI k g A av w Q hsp oka okw X
  obtain ⟨c1, c2, c3, f1, f2, f3, f4, f5, f6, f7, u0, u1, u2, u3, u4, rfl, rfl, hu0, hQ⟩ := hsp
  refine s_mono (s_X1_lineUp_0 X (J := fun dz vz sz wz => ∃ mz, I_X1_lineUp c1 c2 c3 f1 f2 f3 f4 f5 f6 f7 u0 u1 u2 u3 u4 dz mz vz sz wz) (q_loopn (I_X1_lineUp c1 c2 c3 f1 f2 f3 f4 f5 f6 f7 u0 u1 u2 u3 u4) (fun dz J => if dz = 2 then b_X1_lineUp_2 J Q else if dz = 12 then b_X1_lineUp_12 J Q else q_F) ?hs ?hv)) ?_
  case hs =>
    intro d J hJ
    by_cases h2 : d = 2
    · subst h2; exact s_X1_lineUp_2 X hJ
    by_cases h12 : d = 12
    · subst h12; exact s_X1_lineUp_12 X hJ
    simp only [h2, h12, if_false]
    exact s_F
  case hv =>
    intro dz mz vz sz wz hI okv oks okw hlen
    by_cases h2 : dz = 2
    · subst h2
      obtain ⟨y1, v2, rfl, rfl, rfl, hn, hp⟩ := hI
      apply And.intro
      · intro h7
        exact hQ _
      · intro h7
        exact ⟨_, ⟨_, _, _, rfl, rfl, rfl, rfl, (by first | omega | assumption | exact q_rg_up (by assumption) (by omega) | exact q_rg_up (q_rg_up (by assumption) (by omega)) (by omega) | exact q_rg_cpy (by assumption) (by assumption))⟩, by omega⟩
    by_cases h12 : dz = 12
    · subst h12
      obtain ⟨y1, v2, v3, rfl, rfl, rfl, hn, hp⟩ := hI
      apply And.intro
      · intro h13
        apply And.intro
        · exact ⟨by omega, by omega⟩
        intro z63 h63
        apply And.intro
        · exact ⟨by omega, by omega⟩
        intro z65 h65
        first | replace h65 := e_add h65 (by omega) | replace h65 := e_rng h65
        exact ⟨_, ⟨_, _, rfl, rfl, rfl, rfl, (by first | omega | assumption | exact q_rg_up (by assumption) (by omega) | exact q_rg_up (q_rg_up (by assumption) (by omega)) (by omega) | exact q_rg_cpy (by assumption) (by assumption))⟩, by omega⟩
      · intro h13
        intro z22 h22
        first | replace h22 := e_sub h22 (by omega) | replace h22 := e_rng h22
        apply And.intro
        · exact ⟨by omega, by omega⟩
        intro z23 h23
        apply And.intro
        · exact ⟨by omega, by omega⟩
        intro z29 h29
        apply And.intro
        · intro h30
          apply And.intro
          · exact ⟨by omega, by omega⟩
          intro z63 h63
          apply And.intro
          · exact ⟨by omega, by omega⟩
          intro z65 h65
          first | replace h65 := e_add h65 (by omega) | replace h65 := e_rng h65
          exact ⟨_, ⟨_, _, rfl, rfl, rfl, rfl, (by first | omega | assumption | exact q_rg_up (by assumption) (by omega) | exact q_rg_up (q_rg_up (by assumption) (by omega)) (by omega) | exact q_rg_cpy (by assumption) (by assumption))⟩, by omega⟩
        · intro h30
          intro z44 h44
          first | replace h44 := e_sub h44 (by omega) | replace h44 := e_rng h44
          apply And.intro
          · exact ⟨by omega, by omega⟩
          intro z45 h45
          apply And.intro
          · exact ⟨by omega, by omega⟩
          intro z47 h47
          first | replace h47 := e_add h47 (by omega) | replace h47 := e_rng h47
          exact ⟨_, ⟨_, _, _, rfl, rfl, rfl, rfl, (by first | omega | assumption | exact q_rg_up (by assumption) (by omega) | exact q_rg_up (q_rg_up (by assumption) (by omega)) (by omega) | exact q_rg_cpy (by assumption) (by assumption))⟩, by omega⟩
    simp only [I_X1_lineUp, h2, h12, if_false] at hI
  rintro lv st w' ⟨rfl, rfl, rfl⟩
  exact ⟨_, _, _, rfl, rfl, rfl, rfl, (by first | omega | assumption | exact q_rg_up (by assumption) (by omega) | exact q_rg_up (q_rg_up (by assumption) (by omega)) (by omega) | exact q_rg_cpy (by assumption) (by assumption))⟩

theorem dX1_couples_0 : decode cX1_couples 0 = .ok (.aload_n 0, 1) := by decide +kernel
theorem dX1_couples_1 : decode cX1_couples 1 = .ok (.aload_n 1, 1) := by decide +kernel
theorem dX1_couples_2 : decode cX1_couples 2 = .ok (.invokevirtual 31, 3) := by decide +kernel
theorem dX1_couples_5 : decode cX1_couples 5 = .ok (.iconst 0, 1) := by decide +kernel
theorem dX1_couples_6 : decode cX1_couples 6 = .ok (.istore_n 3, 1) := by decide +kernel
theorem dX1_couples_7 : decode cX1_couples 7 = .ok (.iconst 0, 1) := by decide +kernel
theorem dX1_couples_8 : decode cX1_couples 8 = .ok (.istore 4, 2) := by decide +kernel
theorem dX1_couples_10 : decode cX1_couples 10 = .ok (.iload 4, 2) := by decide +kernel
theorem dX1_couples_12 : decode cX1_couples 12 = .ok (.iconst 1, 1) := by decide +kernel
theorem dX1_couples_13 : decode cX1_couples 13 = .ok (.iadd, 1) := by decide +kernel
theorem dX1_couples_14 : decode cX1_couples 14 = .ok (.aload_n 1, 1) := by decide +kernel
theorem dX1_couples_15 : decode cX1_couples 15 = .ok (.getfield 22, 3) := by decide +kernel
theorem dX1_couples_18 : decode cX1_couples 18 = .ok (.if_icmp .ge 62, 3) := by decide +kernel
theorem dX1_couples_21 : decode cX1_couples 21 = .ok (.aload_n 0, 1) := by decide +kernel
theorem dX1_couples_22 : decode cX1_couples 22 = .ok (.getfield 9, 3) := by decide +kernel
theorem dX1_couples_25 : decode cX1_couples 25 = .ok (.iload 4, 2) := by decide +kernel
theorem dX1_couples_27 : decode cX1_couples 27 = .ok (.iconst 1, 1) := by decide +kernel
theorem dX1_couples_28 : decode cX1_couples 28 = .ok (.iadd, 1) := by decide +kernel
theorem dX1_couples_29 : decode cX1_couples 29 = .ok (.iaload, 1) := by decide +kernel
theorem dX1_couples_30 : decode cX1_couples 30 = .ok (.aload_n 0, 1) := by decide +kernel
theorem dX1_couples_31 : decode cX1_couples 31 = .ok (.getfield 9, 3) := by decide +kernel
theorem dX1_couples_34 : decode cX1_couples 34 = .ok (.iload 4, 2) := by decide +kernel
theorem dX1_couples_36 : decode cX1_couples 36 = .ok (.iaload, 1) := by decide +kernel
theorem dX1_couples_37 : decode cX1_couples 37 = .ok (.isub, 1) := by decide +kernel
theorem dX1_couples_38 : decode cX1_couples 38 = .ok (.iload_n 2, 1) := by decide +kernel
theorem dX1_couples_39 : decode cX1_couples 39 = .ok (.if_icmp .gt 7, 3) := by decide +kernel
theorem dX1_couples_42 : decode cX1_couples 42 = .ok (.iconst 1, 1) := by decide +kernel
theorem dX1_couples_43 : decode cX1_couples 43 = .ok (.goto 4, 3) := by decide +kernel
theorem dX1_couples_46 : decode cX1_couples 46 = .ok (.iconst 0, 1) := by decide +kernel
theorem dX1_couples_47 : decode cX1_couples 47 = .ok (.istore 5, 2) := by decide +kernel
theorem dX1_couples_49 : decode cX1_couples 49 = .ok (.iload_n 3, 1) := by decide +kernel
theorem dX1_couples_50 : decode cX1_couples 50 = .ok (.iload 5, 2) := by decide +kernel
theorem dX1_couples_52 : decode cX1_couples 52 = .ok (.ifCond .eq 7, 3) := by decide +kernel
theorem dX1_couples_55 : decode cX1_couples 55 = .ok (.iconst 1, 1) := by decide +kernel
theorem dX1_couples_56 : decode cX1_couples 56 = .ok (.goto 4, 3) := by decide +kernel
theorem dX1_couples_59 : decode cX1_couples 59 = .ok (.iconst 0, 1) := by decide +kernel
theorem dX1_couples_60 : decode cX1_couples 60 = .ok (.iadd, 1) := by decide +kernel
theorem dX1_couples_61 : decode cX1_couples 61 = .ok (.istore_n 3, 1) := by decide +kernel
theorem dX1_couples_62 : decode cX1_couples 62 = .ok (.iload 4, 2) := by decide +kernel
theorem dX1_couples_64 : decode cX1_couples 64 = .ok (.iload 5, 2) := by decide +kernel
theorem dX1_couples_66 : decode cX1_couples 66 = .ok (.ifCond .eq 7, 3) := by decide +kernel
theorem dX1_couples_69 : decode cX1_couples 69 = .ok (.iconst 2, 1) := by decide +kernel
theorem dX1_couples_70 : decode cX1_couples 70 = .ok (.goto 4, 3) := by decide +kernel
theorem dX1_couples_73 : decode cX1_couples 73 = .ok (.iconst 1, 1) := by decide +kernel
theorem dX1_couples_74 : decode cX1_couples 74 = .ok (.iadd, 1) := by decide +kernel
theorem dX1_couples_75 : decode cX1_couples 75 = .ok (.istore 4, 2) := by decide +kernel
theorem dX1_couples_77 : decode cX1_couples 77 = .ok (.goto (-67), 3) := by decide +kernel
theorem dX1_couples_80 : decode cX1_couples 80 = .ok (.iload_n 3, 1) := by decide +kernel
theorem dX1_couples_81 : decode cX1_couples 81 = .ok (.ireturn, 1) := by decide +kernel
def is_X1_couples : Nat → List Nat := fun d => if d = 10 then [0, 1, 2, 3, 4] else []
set_option maxRecDepth 100000 in
def b_X1_couples_74 (J : Nat → List qV → List qV → qW → Prop) (Q : qR) : qK := x_iadd (x_istore 4 (x_cut [0, 1, 2, 3, 4] (J 10)))
set_option maxRecDepth 100000 in
theorem s_X1_couples_74 {p : Program} {l : Launch} {e : Env} {R : Room} {s : State} {m : MethodId} {args : Array Value} {below : List Frame} {meth : Method} {c : Code} {nW : Nat} {dC : Nat → ClassId} {dI : Nat → Nat → Nat} {k : Nat → ClassId} {g : Nat → Nat} {A : Nat → Prop} {J : Nat → List qV → List qV → qW → Prop} {Q : qR} (X : q_X p R s m args meth c cX1_couples 6 nW 1 23 RX1 (some .int) dC dI k g A) (hJ : ∀ d : Nat, q_Sd p l e R s m args below meth c 6 nW dC dI k g A (MQ below (q_post (dC, dI) k g nW Q A) args s 0 0 A) d (x_cut (is_X1_couples d) (J d))) : q_Sd p l e R s m args below meth c 6 nW dC dI k g A (MQ below (q_post (dC, dI) k g nW Q A) args s 0 0 A) 74 (b_X1_couples_74 J Q) := by
  unfold b_X1_couples_74
  refine s_iadd X dX1_couples_74 ?_
  refine s_istore X (by decide) dX1_couples_75 ?_
  refine s_goto X (tgt := 10) dX1_couples_77 (by decide) ?_
  exact hJ 10
set_option maxRecDepth 100000 in
def b_X1_couples_60 (J : Nat → List qV → List qV → qW → Prop) (Q : qR) : qK := x_iadd (x_istore 3 (x_iload 4 (x_iload 5 (x_if_eq (x_int 1 (b_X1_couples_74 J Q)) (x_int 2 (b_X1_couples_74 J Q))))))
set_option maxRecDepth 100000 in
theorem s_X1_couples_60 {p : Program} {l : Launch} {e : Env} {R : Room} {s : State} {m : MethodId} {args : Array Value} {below : List Frame} {meth : Method} {c : Code} {nW : Nat} {dC : Nat → ClassId} {dI : Nat → Nat → Nat} {k : Nat → ClassId} {g : Nat → Nat} {A : Nat → Prop} {J : Nat → List qV → List qV → qW → Prop} {Q : qR} (X : q_X p R s m args meth c cX1_couples 6 nW 1 23 RX1 (some .int) dC dI k g A) (hJ : ∀ d : Nat, q_Sd p l e R s m args below meth c 6 nW dC dI k g A (MQ below (q_post (dC, dI) k g nW Q A) args s 0 0 A) d (x_cut (is_X1_couples d) (J d))) : q_Sd p l e R s m args below meth c 6 nW dC dI k g A (MQ below (q_post (dC, dI) k g nW Q A) args s 0 0 A) 60 (b_X1_couples_60 J Q) := by
  unfold b_X1_couples_60
  refine s_iadd X dX1_couples_60 ?_
  refine s_istore_n X rfl (by decide) dX1_couples_61 ?_
  refine s_iload X dX1_couples_62 ?_
  refine s_iload X dX1_couples_64 ?_
  refine s_if_eq X (tgt := 73) dX1_couples_66 (by decide) ?_ ?_
  · refine s_iconst X ⟨by decide, by decide⟩ dX1_couples_73 ?_
    exact s_X1_couples_74 X hJ
  · refine s_iconst X ⟨by decide, by decide⟩ dX1_couples_69 ?_
    refine s_goto X (tgt := 74) dX1_couples_70 (by decide) ?_
    exact s_X1_couples_74 X hJ
set_option maxRecDepth 100000 in
def b_X1_couples_47 (J : Nat → List qV → List qV → qW → Prop) (Q : qR) : qK := x_istore 5 (x_iload 3 (x_iload 5 (x_if_eq (x_int 0 (b_X1_couples_60 J Q)) (x_int 1 (b_X1_couples_60 J Q)))))
set_option maxRecDepth 100000 in
theorem s_X1_couples_47 {p : Program} {l : Launch} {e : Env} {R : Room} {s : State} {m : MethodId} {args : Array Value} {below : List Frame} {meth : Method} {c : Code} {nW : Nat} {dC : Nat → ClassId} {dI : Nat → Nat → Nat} {k : Nat → ClassId} {g : Nat → Nat} {A : Nat → Prop} {J : Nat → List qV → List qV → qW → Prop} {Q : qR} (X : q_X p R s m args meth c cX1_couples 6 nW 1 23 RX1 (some .int) dC dI k g A) (hJ : ∀ d : Nat, q_Sd p l e R s m args below meth c 6 nW dC dI k g A (MQ below (q_post (dC, dI) k g nW Q A) args s 0 0 A) d (x_cut (is_X1_couples d) (J d))) : q_Sd p l e R s m args below meth c 6 nW dC dI k g A (MQ below (q_post (dC, dI) k g nW Q A) args s 0 0 A) 47 (b_X1_couples_47 J Q) := by
  unfold b_X1_couples_47
  refine s_istore X (by decide) dX1_couples_47 ?_
  refine s_iload_n X rfl dX1_couples_49 ?_
  refine s_iload X dX1_couples_50 ?_
  refine s_if_eq X (tgt := 59) dX1_couples_52 (by decide) ?_ ?_
  · refine s_iconst X ⟨by decide, by decide⟩ dX1_couples_59 ?_
    exact s_X1_couples_60 X hJ
  · refine s_iconst X ⟨by decide, by decide⟩ dX1_couples_55 ?_
    refine s_goto X (tgt := 60) dX1_couples_56 (by decide) ?_
    exact s_X1_couples_60 X hJ
set_option maxRecDepth 100000 in
def b_X1_couples_10 (J : Nat → List qV → List qV → qW → Prop) (Q : qR) : qK := x_iload 4 (x_int 1 (x_iadd (x_aload 1 (x_get 0 7 (x_icmp_ge (x_iload 3 (x_iret Q)) (x_aload 0 (x_get 1 0 (x_iload 4 (x_int 1 (x_iadd (x_iald (x_aload 0 (x_get 1 0 (x_iload 4 (x_iald (x_isub (x_iload 2 (x_icmp_gt (x_int 0 (b_X1_couples_47 J Q)) (x_int 1 (b_X1_couples_47 J Q))))))))))))))))))))
set_option maxRecDepth 100000 in
theorem s_X1_couples_10 {p : Program} {l : Launch} {e : Env} {R : Room} {s : State} {m : MethodId} {args : Array Value} {below : List Frame} {meth : Method} {c : Code} {nW : Nat} {dC : Nat → ClassId} {dI : Nat → Nat → Nat} {k : Nat → ClassId} {g : Nat → Nat} {A : Nat → Prop} {J : Nat → List qV → List qV → qW → Prop} {Q : qR} (X : q_X p R s m args meth c cX1_couples 6 nW 1 23 RX1 (some .int) dC dI k g A) (hJ : ∀ d : Nat, q_Sd p l e R s m args below meth c 6 nW dC dI k g A (MQ below (q_post (dC, dI) k g nW Q A) args s 0 0 A) d (x_cut (is_X1_couples d) (J d))) : q_Sd p l e R s m args below meth c 6 nW dC dI k g A (MQ below (q_post (dC, dI) k g nW Q A) args s 0 0 A) 10 (b_X1_couples_10 J Q) := by
  unfold b_X1_couples_10
  refine s_iload X dX1_couples_10 ?_
  refine s_iconst X ⟨by decide, by decide⟩ dX1_couples_12 ?_
  refine s_iadd X dX1_couples_13 ?_
  refine s_aload_n X rfl dX1_couples_14 ?_
  refine s_get X (T := TX0) (C := RX0) (N := 12) tu_X0 rfl (by decide) tw_192 dX1_couples_15 ?_
  refine s_icmp_ge X (tgt := 80) dX1_couples_18 (by decide) ?_ ?_
  · refine s_iload_n X rfl dX1_couples_80 ?_
    exact s_iret X dX1_couples_81
  · refine s_aload_n X rfl dX1_couples_21 ?_
    refine s_get X (T := TX1) (C := RX1) (N := 3) tu_X1 rfl (by decide) tw_323 dX1_couples_22 ?_
    refine s_iload X dX1_couples_25 ?_
    refine s_iconst X ⟨by decide, by decide⟩ dX1_couples_27 ?_
    refine s_iadd X dX1_couples_28 ?_
    refine s_iald X dX1_couples_29 ?_
    refine s_aload_n X rfl dX1_couples_30 ?_
    refine s_get X (T := TX1) (C := RX1) (N := 3) tu_X1 rfl (by decide) tw_323 dX1_couples_31 ?_
    refine s_iload X dX1_couples_34 ?_
    refine s_iald X dX1_couples_36 ?_
    refine s_isub X dX1_couples_37 ?_
    refine s_iload_n X rfl dX1_couples_38 ?_
    refine s_icmp_gt X (tgt := 46) dX1_couples_39 (by decide) ?_ ?_
    · refine s_iconst X ⟨by decide, by decide⟩ dX1_couples_46 ?_
      exact s_X1_couples_47 X hJ
    · refine s_iconst X ⟨by decide, by decide⟩ dX1_couples_42 ?_
      refine s_goto X (tgt := 47) dX1_couples_43 (by decide) ?_
      exact s_X1_couples_47 X hJ
set_option maxRecDepth 100000 in
def b_X1_couples_0 (J : Nat → List qV → List qV → qW → Prop) (Q : qR) : qK := x_aload 0 (x_aload 1 (x_call (some 1) 2 sp_X1_lineUp (x_nw (x_int 0 (x_istore 3 (x_int 0 (x_istore 4 (x_cut [0, 1, 2, 3, 4] (J 10)))))))))
set_option maxRecDepth 100000 in
theorem s_X1_couples_0 {p : Program} {l : Launch} {e : Env} {R : Room} {s : State} {m : MethodId} {args : Array Value} {below : List Frame} {meth : Method} {c : Code} {nW : Nat} {dC : Nat → ClassId} {dI : Nat → Nat → Nat} {k : Nat → ClassId} {g : Nat → Nat} {A : Nat → Prop} {J : Nat → List qV → List qV → qW → Prop} {Q : qR} (X : q_X p R s m args meth c cX1_couples 6 nW 1 23 RX1 (some .int) dC dI k g A) (hJ : ∀ d : Nat, q_Sd p l e R s m args below meth c 6 nW dC dI k g A (MQ below (q_post (dC, dI) k g nW Q A) args s 0 0 A) d (x_cut (is_X1_couples d) (J d))) : q_Sd p l e R s m args below meth c 6 nW dC dI k g A (MQ below (q_post (dC, dI) k g nW Q A) args s 0 0 A) 0 (b_X1_couples_0 J Q) := by
  unfold b_X1_couples_0
  refine s_aload_n X rfl dX1_couples_0 ?_
  refine s_aload_n X rfl dX1_couples_1 ?_
  refine s_callV X (m_X1_lineUp l) tw_708 tw_709 tw_1491 tw_133 tw_710 rfl (by decide +kernel) ⟨by decide, by decide⟩ dX1_couples_2 ?_
  refine s_nw ?_
  refine s_iconst X ⟨by decide, by decide⟩ dX1_couples_5 ?_
  refine s_istore_n X rfl (by decide) dX1_couples_6 ?_
  refine s_iconst X ⟨by decide, by decide⟩ dX1_couples_7 ?_
  refine s_istore X (by decide) dX1_couples_8 ?_
  exact hJ 10

def sp_X1_couples : qS := fun av w Q => ∃ (c1 : Nat → Int) (c2 : Nat → Int) (c3 : Nat → Int) (f1 : Nat → Int) (f2 : Nat → Int) (f3 : Nat → Int) (f4 : Nat → Int) (f5 : Nat → Int) (f6 : Nat → Int) (f7 : Nat → Int) (u0 : Int) (u1 : Int) (u2 : Int) (u3 : Int) (u4 : Int) (a : Int), av = [q2 0, q2 4, q1 a] ∧ w = (wCo 0 c1 c2 c3 ++ wBo 4 f1 f2 f3 f4 f5 f6 f7 u0 u1 u2 u3 u4) ∧ (0 ≤ u0 ∧ u0 ≤ 8) ∧ (∀ (r : Int) (x1 : Nat → Int), Q (some (q1 r)) ((wCo 0 x1 c2 c3 ++ wBo 4 f1 f2 f3 f4 f5 f6 f7 u0 u1 u2 u3 u4)))
def I_X1_couples (c1 : Nat → Int) (c2 : Nat → Int) (c3 : Nat → Int) (f1 : Nat → Int) (f2 : Nat → Int) (f3 : Nat → Int) (f4 : Nat → Int) (f5 : Nat → Int) (f6 : Nat → Int) (f7 : Nat → Int) (u0 : Int) (u1 : Int) (u2 : Int) (u3 : Int) (u4 : Int) (a : Int) : Nat → Nat → List qV → List qV → qW → Prop := fun dz mz vz sz wz => if dz = 10 then (∃ (y1 : Nat → Int) (v3 : Int) (v4 : Int), vz = [q2 0, q2 4, q1 a, q1 v3, q1 v4] ∧ sz = [] ∧ wz = (wCo 0 y1 c2 c3 ++ wBo 4 f1 f2 f3 f4 f5 f6 f7 u0 u1 u2 u3 u4) ∧ mz = (10 - v4).toNat ∧ (0 ≤ v4 ∧ v4 ≤ 9)) else False
set_option maxHeartbeats 4000000 in
set_option maxRecDepth 100000 in
theorem m_X1_couples (l : Launch) : q_M l yX1_couples cX1_couples 6 (some .int) 1 23 sp_X1_couples := by
  refine q_meth (by decide) (fun av w Q h => by obtain ⟨c1, c2, c3, f1, f2, f3, f4, f5, f6, f7, u0, u1, u2, u3, u4, a, rfl, rfl, hu0, hQ⟩ := h; exact Nat.le_of_ble_eq_true rfl) ?_
  intro p e R s m args below meth c dC dI k g A av w Q hsp oka okw X
  obtain ⟨c1, c2, c3, f1, f2, f3, f4, f5, f6, f7, u0, u1, u2, u3, u4, a, rfl, rfl, hu0, hQ⟩ := hsp
  have o_a : -2147483648 ≤ a ∧ a ≤ 2147483647 := oka _ (List.mem_of_getElem? (i := 2) rfl)
  refine s_mono (s_X1_couples_0 X (J := fun dz vz sz wz => ∃ mz, I_X1_couples c1 c2 c3 f1 f2 f3 f4 f5 f6 f7 u0 u1 u2 u3 u4 a dz mz vz sz wz) (q_loopn (I_X1_couples c1 c2 c3 f1 f2 f3 f4 f5 f6 f7 u0 u1 u2 u3 u4 a) (fun dz J => if dz = 10 then b_X1_couples_10 J Q else q_F) ?hs ?hv)) ?_
  case hs =>
    intro d J hJ
    by_cases h10 : d = 10
    · subst h10; exact s_X1_couples_10 X hJ
    simp only [h10, if_false]
    exact s_F
  case hv =>
    intro dz mz vz sz wz hI okv oks okw hlen
    by_cases h10 : dz = 10
    · subst h10
      obtain ⟨y1, v3, v4, rfl, rfl, rfl, hn, hp⟩ := hI
      intro z13 h13
      first | replace h13 := e_add h13 (by omega) | replace h13 := e_rng h13
      apply And.intro
      · intro h18
        exact hQ _ _
      · intro h18
        intro z28 h28
        first | replace h28 := e_add h28 (by omega) | replace h28 := e_rng h28
        apply And.intro
        · exact ⟨by omega, by omega⟩
        intro z29 h29
        apply And.intro
        · exact ⟨by omega, by omega⟩
        intro z36 h36
        intro z37 h37
        first | replace h37 := e_sub h37 (by omega) | replace h37 := e_rng h37
        apply And.intro
        · intro h39
          apply And.intro
          · intro h52
            intro z60 h60
            first | replace h60 := e_add h60 (by omega) | replace h60 := e_rng h60
            apply And.intro
            · intro h66
              intro z74 h74
              first | replace h74 := e_add h74 (by omega) | replace h74 := e_rng h74
              exact ⟨_, ⟨_, _, _, rfl, rfl, rfl, rfl, (by first | omega | assumption | exact q_rg_up (by assumption) (by omega) | exact q_rg_up (q_rg_up (by assumption) (by omega)) (by omega) | exact q_rg_cpy (by assumption) (by assumption))⟩, by omega⟩
            · intro h66
              intro z74 h74
              first | replace h74 := e_add h74 (by omega) | replace h74 := e_rng h74
              exact ⟨_, ⟨_, _, _, rfl, rfl, rfl, rfl, (by first | omega | assumption | exact q_rg_up (by assumption) (by omega) | exact q_rg_up (q_rg_up (by assumption) (by omega)) (by omega) | exact q_rg_cpy (by assumption) (by assumption))⟩, by omega⟩
          · intro h52
            intro z60 h60
            first | replace h60 := e_add h60 (by omega) | replace h60 := e_rng h60
            apply And.intro
            · intro h66
              intro z74 h74
              first | replace h74 := e_add h74 (by omega) | replace h74 := e_rng h74
              exact ⟨_, ⟨_, _, _, rfl, rfl, rfl, rfl, (by first | omega | assumption | exact q_rg_up (by assumption) (by omega) | exact q_rg_up (q_rg_up (by assumption) (by omega)) (by omega) | exact q_rg_cpy (by assumption) (by assumption))⟩, by omega⟩
            · intro h66
              intro z74 h74
              first | replace h74 := e_add h74 (by omega) | replace h74 := e_rng h74
              exact ⟨_, ⟨_, _, _, rfl, rfl, rfl, rfl, (by first | omega | assumption | exact q_rg_up (by assumption) (by omega) | exact q_rg_up (q_rg_up (by assumption) (by omega)) (by omega) | exact q_rg_cpy (by assumption) (by assumption))⟩, by omega⟩
        · intro h39
          apply And.intro
          · intro h52
            intro z60 h60
            first | replace h60 := e_add h60 (by omega) | replace h60 := e_rng h60
            apply And.intro
            · intro h66
              intro z74 h74
              first | replace h74 := e_add h74 (by omega) | replace h74 := e_rng h74
              exact ⟨_, ⟨_, _, _, rfl, rfl, rfl, rfl, (by first | omega | assumption | exact q_rg_up (by assumption) (by omega) | exact q_rg_up (q_rg_up (by assumption) (by omega)) (by omega) | exact q_rg_cpy (by assumption) (by assumption))⟩, by omega⟩
            · intro h66
              intro z74 h74
              first | replace h74 := e_add h74 (by omega) | replace h74 := e_rng h74
              exact ⟨_, ⟨_, _, _, rfl, rfl, rfl, rfl, (by first | omega | assumption | exact q_rg_up (by assumption) (by omega) | exact q_rg_up (q_rg_up (by assumption) (by omega)) (by omega) | exact q_rg_cpy (by assumption) (by assumption))⟩, by omega⟩
          · intro h52
            intro z60 h60
            first | replace h60 := e_add h60 (by omega) | replace h60 := e_rng h60
            apply And.intro
            · intro h66
              intro z74 h74
              first | replace h74 := e_add h74 (by omega) | replace h74 := e_rng h74
              exact ⟨_, ⟨_, _, _, rfl, rfl, rfl, rfl, (by first | omega | assumption | exact q_rg_up (by assumption) (by omega) | exact q_rg_up (q_rg_up (by assumption) (by omega)) (by omega) | exact q_rg_cpy (by assumption) (by assumption))⟩, by omega⟩
            · intro h66
              intro z74 h74
              first | replace h74 := e_add h74 (by omega) | replace h74 := e_rng h74
              exact ⟨_, ⟨_, _, _, rfl, rfl, rfl, rfl, (by first | omega | assumption | exact q_rg_up (by assumption) (by omega) | exact q_rg_up (q_rg_up (by assumption) (by omega)) (by omega) | exact q_rg_cpy (by assumption) (by assumption))⟩, by omega⟩
    simp only [I_X1_couples, h10, if_false] at hI
  rintro lv st w' ⟨rfl, rfl, rfl⟩
  refine Exists.intro [0, 1, 2, 3, 4, 5, 6, 7, 8, 9, 10, 11] (Exists.intro [q2 0, q2 4] (Exists.intro ((wCo 0 _ _ _ ++ wBo 4 _ _ _ _ _ _ _ _ _ _ _ _)) (And.intro rfl (And.intro rfl (And.intro rfl (And.intro ⟨⟨_, rfl⟩, rfl⟩ ?_))))))
  refine Exists.intro _ (Exists.intro _ (Exists.intro _ (Exists.intro _ (Exists.intro _ (Exists.intro _ (Exists.intro _ (Exists.intro _ (Exists.intro _ (Exists.intro _ (Exists.intro _ (Exists.intro _ (Exists.intro _ (Exists.intro _ (Exists.intro _ (And.intro rfl (And.intro rfl (And.intro (by first | omega | assumption | exact q_rg_up (by assumption) (by omega) | exact q_rg_up (q_rg_up (by assumption) (by omega)) (by omega) | exact q_rg_cpy (by assumption) (by assumption)) (?_))))))))))))))))))
  intro x1_2
  exact ⟨_, _, _, _, rfl, rfl, rfl, rfl, (by first | omega | assumption | exact q_rg_up (by assumption) (by omega) | exact q_rg_up (q_rg_up (by assumption) (by omega)) (by omega) | exact q_rg_cpy (by assumption) (by assumption))⟩

theorem dX1_movedInto_0 : decode cX1_movedInto 0 = .ok (.iconst 0, 1) := by decide +kernel
theorem dX1_movedInto_1 : decode cX1_movedInto 1 = .ok (.istore_n 3, 1) := by decide +kernel
theorem dX1_movedInto_2 : decode cX1_movedInto 2 = .ok (.iconst 0, 1) := by decide +kernel
theorem dX1_movedInto_3 : decode cX1_movedInto 3 = .ok (.istore 4, 2) := by decide +kernel
theorem dX1_movedInto_5 : decode cX1_movedInto 5 = .ok (.iconst 0, 1) := by decide +kernel
theorem dX1_movedInto_6 : decode cX1_movedInto 6 = .ok (.istore 5, 2) := by decide +kernel
theorem dX1_movedInto_8 : decode cX1_movedInto 8 = .ok (.iload 5, 2) := by decide +kernel
theorem dX1_movedInto_10 : decode cX1_movedInto 10 = .ok (.aload_n 0, 1) := by decide +kernel
theorem dX1_movedInto_11 : decode cX1_movedInto 11 = .ok (.getfield 22, 3) := by decide +kernel
theorem dX1_movedInto_14 : decode cX1_movedInto 14 = .ok (.if_icmp .ge 43, 3) := by decide +kernel
theorem dX1_movedInto_17 : decode cX1_movedInto 17 = .ok (.iload_n 3, 1) := by decide +kernel
theorem dX1_movedInto_18 : decode cX1_movedInto 18 = .ok (.iconst 0, 1) := by decide +kernel
theorem dX1_movedInto_19 : decode cX1_movedInto 19 = .ok (.aload_n 0, 1) := by decide +kernel
theorem dX1_movedInto_20 : decode cX1_movedInto 20 = .ok (.getfield 28, 3) := by decide +kernel
theorem dX1_movedInto_23 : decode cX1_movedInto 23 = .ok (.iload 5, 2) := by decide +kernel
theorem dX1_movedInto_25 : decode cX1_movedInto 25 = .ok (.iaload, 1) := by decide +kernel
theorem dX1_movedInto_26 : decode cX1_movedInto 26 = .ok (.iload_n 2, 1) := by decide +kernel
theorem dX1_movedInto_27 : decode cX1_movedInto 27 = .ok (.isub, 1) := by decide +kernel
theorem dX1_movedInto_28 : decode cX1_movedInto 28 = .ok (.invokestatic 45, 3) := by decide +kernel
theorem dX1_movedInto_31 : decode cX1_movedInto 31 = .ok (.iadd, 1) := by decide +kernel
theorem dX1_movedInto_32 : decode cX1_movedInto 32 = .ok (.istore_n 3, 1) := by decide +kernel
theorem dX1_movedInto_33 : decode cX1_movedInto 33 = .ok (.iload 4, 2) := by decide +kernel
theorem dX1_movedInto_35 : decode cX1_movedInto 35 = .ok (.iconst 0, 1) := by decide +kernel
theorem dX1_movedInto_36 : decode cX1_movedInto 36 = .ok (.iload_n 1, 1) := by decide +kernel
theorem dX1_movedInto_37 : decode cX1_movedInto 37 = .ok (.aload_n 0, 1) := by decide +kernel
theorem dX1_movedInto_38 : decode cX1_movedInto 38 = .ok (.getfield 28, 3) := by decide +kernel
theorem dX1_movedInto_41 : decode cX1_movedInto 41 = .ok (.iload 5, 2) := by decide +kernel
theorem dX1_movedInto_43 : decode cX1_movedInto 43 = .ok (.iaload, 1) := by decide +kernel
theorem dX1_movedInto_44 : decode cX1_movedInto 44 = .ok (.isub, 1) := by decide +kernel
theorem dX1_movedInto_45 : decode cX1_movedInto 45 = .ok (.invokestatic 45, 3) := by decide +kernel
theorem dX1_movedInto_48 : decode cX1_movedInto 48 = .ok (.iadd, 1) := by decide +kernel
theorem dX1_movedInto_49 : decode cX1_movedInto 49 = .ok (.istore 4, 2) := by decide +kernel
theorem dX1_movedInto_51 : decode cX1_movedInto 51 = .ok (.iinc 5 1, 3) := by decide +kernel
theorem dX1_movedInto_54 : decode cX1_movedInto 54 = .ok (.goto (-46), 3) := by decide +kernel
theorem dX1_movedInto_57 : decode cX1_movedInto 57 = .ok (.iload_n 3, 1) := by decide +kernel
theorem dX1_movedInto_58 : decode cX1_movedInto 58 = .ok (.iload 4, 2) := by decide +kernel
theorem dX1_movedInto_60 : decode cX1_movedInto 60 = .ok (.invokestatic 45, 3) := by decide +kernel
theorem dX1_movedInto_63 : decode cX1_movedInto 63 = .ok (.ireturn, 1) := by decide +kernel
def is_X1_movedInto : Nat → List Nat := fun d => if d = 8 then [0, 1, 2, 3, 4, 5] else []
set_option maxRecDepth 100000 in
def b_X1_movedInto_48 (J : Nat → List qV → List qV → qW → Prop) (Q : qR) : qK := x_iadd (x_istore 4 (x_iinc 5 1 (x_cut [0, 1, 2, 3, 4, 5] (J 8))))
set_option maxRecDepth 100000 in
theorem s_X1_movedInto_48 {p : Program} {l : Launch} {e : Env} {R : Room} {s : State} {m : MethodId} {args : Array Value} {below : List Frame} {meth : Method} {c : Code} {nW : Nat} {dC : Nat → ClassId} {dI : Nat → Nat → Nat} {k : Nat → ClassId} {g : Nat → Nat} {A : Nat → Prop} {J : Nat → List qV → List qV → qW → Prop} {Q : qR} (X : q_X p R s m args meth c cX1_movedInto 6 nW 1 21 RX1 (some .int) dC dI k g A) (hJ : ∀ d : Nat, q_Sd p l e R s m args below meth c 6 nW dC dI k g A (MQ below (q_post (dC, dI) k g nW Q A) args s 0 0 A) d (x_cut (is_X1_movedInto d) (J d))) : q_Sd p l e R s m args below meth c 6 nW dC dI k g A (MQ below (q_post (dC, dI) k g nW Q A) args s 0 0 A) 48 (b_X1_movedInto_48 J Q) := by
  unfold b_X1_movedInto_48
  refine s_iadd X dX1_movedInto_48 ?_
  refine s_istore X (by decide) dX1_movedInto_49 ?_
  refine s_iinc X (by decide) dX1_movedInto_51 ?_
  refine s_goto X (tgt := 8) dX1_movedInto_54 (by decide) ?_
  exact hJ 8
set_option maxRecDepth 100000 in
def b_X1_movedInto_8 (J : Nat → List qV → List qV → qW → Prop) (Q : qR) : qK := x_iload 5 (x_aload 0 (x_get 0 7 (x_icmp_ge (x_iload 3 (x_iload 4 (x_max (x_iret Q)))) (x_iload 3 (x_int 0 (x_aload 0 (x_get 0 0 (x_iload 5 (x_iald (x_iload 2 (x_isub (x_max (x_iadd (x_istore 3 (x_iload 4 (x_int 0 (x_iload 1 (x_aload 0 (x_get 0 0 (x_iload 5 (x_iald (x_isub (x_max (b_X1_movedInto_48 J Q))))))))))))))))))))))))
set_option maxRecDepth 100000 in
theorem s_X1_movedInto_8 {p : Program} {l : Launch} {e : Env} {R : Room} {s : State} {m : MethodId} {args : Array Value} {below : List Frame} {meth : Method} {c : Code} {nW : Nat} {dC : Nat → ClassId} {dI : Nat → Nat → Nat} {k : Nat → ClassId} {g : Nat → Nat} {A : Nat → Prop} {J : Nat → List qV → List qV → qW → Prop} {Q : qR} (X : q_X p R s m args meth c cX1_movedInto 6 nW 1 21 RX1 (some .int) dC dI k g A) (hJ : ∀ d : Nat, q_Sd p l e R s m args below meth c 6 nW dC dI k g A (MQ below (q_post (dC, dI) k g nW Q A) args s 0 0 A) d (x_cut (is_X1_movedInto d) (J d))) : q_Sd p l e R s m args below meth c 6 nW dC dI k g A (MQ below (q_post (dC, dI) k g nW Q A) args s 0 0 A) 8 (b_X1_movedInto_8 J Q) := by
  unfold b_X1_movedInto_8
  refine s_iload X dX1_movedInto_8 ?_
  refine s_aload_n X rfl dX1_movedInto_10 ?_
  refine s_get X (T := TX0) (C := RX0) (N := 12) tu_X0 rfl (by decide) tw_192 dX1_movedInto_11 ?_
  refine s_icmp_ge X (tgt := 57) dX1_movedInto_14 (by decide) ?_ ?_
  · refine s_iload_n X rfl dX1_movedInto_57 ?_
    refine s_iload X dX1_movedInto_58 ?_
    refine s_max X tw_703 tw_531 tw_135 tw_532 ⟨by decide, by decide⟩ dX1_movedInto_60 ?_
    exact s_iret X dX1_movedInto_63
  · refine s_iload_n X rfl dX1_movedInto_17 ?_
    refine s_iconst X ⟨by decide, by decide⟩ dX1_movedInto_18 ?_
    refine s_aload_n X rfl dX1_movedInto_19 ?_
    refine s_get X (T := TX0) (C := RX0) (N := 12) tu_X0 rfl (by decide) tw_166 dX1_movedInto_20 ?_
    refine s_iload X dX1_movedInto_23 ?_
    refine s_iald X dX1_movedInto_25 ?_
    refine s_iload_n X rfl dX1_movedInto_26 ?_
    refine s_isub X dX1_movedInto_27 ?_
    refine s_max X tw_703 tw_531 tw_135 tw_532 ⟨by decide, by decide⟩ dX1_movedInto_28 ?_
    refine s_iadd X dX1_movedInto_31 ?_
    refine s_istore_n X rfl (by decide) dX1_movedInto_32 ?_
    refine s_iload X dX1_movedInto_33 ?_
    refine s_iconst X ⟨by decide, by decide⟩ dX1_movedInto_35 ?_
    refine s_iload_n X rfl dX1_movedInto_36 ?_
    refine s_aload_n X rfl dX1_movedInto_37 ?_
    refine s_get X (T := TX0) (C := RX0) (N := 12) tu_X0 rfl (by decide) tw_166 dX1_movedInto_38 ?_
    refine s_iload X dX1_movedInto_41 ?_
    refine s_iald X dX1_movedInto_43 ?_
    refine s_isub X dX1_movedInto_44 ?_
    refine s_max X tw_703 tw_531 tw_135 tw_532 ⟨by decide, by decide⟩ dX1_movedInto_45 ?_
    exact s_X1_movedInto_48 X hJ
set_option maxRecDepth 100000 in
def b_X1_movedInto_0 (J : Nat → List qV → List qV → qW → Prop) (Q : qR) : qK := x_int 0 (x_istore 3 (x_int 0 (x_istore 4 (x_int 0 (x_istore 5 (x_cut [0, 1, 2, 3, 4, 5] (J 8)))))))
set_option maxRecDepth 100000 in
theorem s_X1_movedInto_0 {p : Program} {l : Launch} {e : Env} {R : Room} {s : State} {m : MethodId} {args : Array Value} {below : List Frame} {meth : Method} {c : Code} {nW : Nat} {dC : Nat → ClassId} {dI : Nat → Nat → Nat} {k : Nat → ClassId} {g : Nat → Nat} {A : Nat → Prop} {J : Nat → List qV → List qV → qW → Prop} {Q : qR} (X : q_X p R s m args meth c cX1_movedInto 6 nW 1 21 RX1 (some .int) dC dI k g A) (hJ : ∀ d : Nat, q_Sd p l e R s m args below meth c 6 nW dC dI k g A (MQ below (q_post (dC, dI) k g nW Q A) args s 0 0 A) d (x_cut (is_X1_movedInto d) (J d))) : q_Sd p l e R s m args below meth c 6 nW dC dI k g A (MQ below (q_post (dC, dI) k g nW Q A) args s 0 0 A) 0 (b_X1_movedInto_0 J Q) := by
  unfold b_X1_movedInto_0
  refine s_iconst X ⟨by decide, by decide⟩ dX1_movedInto_0 ?_
  refine s_istore_n X rfl (by decide) dX1_movedInto_1 ?_
  refine s_iconst X ⟨by decide, by decide⟩ dX1_movedInto_2 ?_
  refine s_istore X (by decide) dX1_movedInto_3 ?_
  refine s_iconst X ⟨by decide, by decide⟩ dX1_movedInto_5 ?_
  refine s_istore X (by decide) dX1_movedInto_6 ?_
  exact hJ 8

def spr_X1_movedInto : List qV → qW → (Option qV → Prop) → Prop := fun av w Q => ∃ (f1 : Nat → Int) (f2 : Nat → Int) (f3 : Nat → Int) (f4 : Nat → Int) (f5 : Nat → Int) (f6 : Nat → Int) (f7 : Nat → Int) (u0 : Int) (u1 : Int) (u2 : Int) (u3 : Int) (u4 : Int) (a : Int) (b : Int), av = [q2 0, q1 a, q1 b] ∧ w = wB f1 f2 f3 f4 f5 f6 f7 u0 u1 u2 u3 u4 ∧ (0 ≤ u0 ∧ u0 ≤ 8) ∧ (∀ (r : Int) , Q (some (q1 r)))
def sp_X1_movedInto : qS := fun av w Q => spr_X1_movedInto av w (fun r => Q r w)
def I_X1_movedInto (f1 : Nat → Int) (f2 : Nat → Int) (f3 : Nat → Int) (f4 : Nat → Int) (f5 : Nat → Int) (f6 : Nat → Int) (f7 : Nat → Int) (u0 : Int) (u1 : Int) (u2 : Int) (u3 : Int) (u4 : Int) (a : Int) (b : Int) : Nat → Nat → List qV → List qV → qW → Prop := fun dz mz vz sz wz => if dz = 8 then (∃ (v3 : Int) (v4 : Int) (v5 : Int), vz = [q2 0, q1 a, q1 b, q1 v3, q1 v4, q1 v5] ∧ sz = [] ∧ wz = wB f1 f2 f3 f4 f5 f6 f7 u0 u1 u2 u3 u4 ∧ mz = (u0 - v5).toNat ∧ (0 ≤ v5 ∧ v5 ≤ u0)) else False
set_option maxHeartbeats 4000000 in
set_option maxRecDepth 100000 in
theorem m_X1_movedInto (l : Launch) : q_M l yX1_movedInto cX1_movedInto 6 (some .int) 1 21 sp_X1_movedInto := by
  refine q_meth (by decide) (fun av w Q h => by obtain ⟨f1, f2, f3, f4, f5, f6, f7, u0, u1, u2, u3, u4, a, b, rfl, rfl, hu0, hQ⟩ := h; exact Nat.le_of_ble_eq_true rfl) ?_
  intro p e R s m args below meth c dC dI k g A av w Q hsp oka okw X
  obtain ⟨f1, f2, f3, f4, f5, f6, f7, u0, u1, u2, u3, u4, a, b, rfl, rfl, hu0, hQ⟩ := hsp
  have o_a : -2147483648 ≤ a ∧ a ≤ 2147483647 := oka _ (List.mem_of_getElem? (i := 1) rfl)
  have o_b : -2147483648 ≤ b ∧ b ≤ 2147483647 := oka _ (List.mem_of_getElem? (i := 2) rfl)
  refine s_mono (s_X1_movedInto_0 X (J := fun dz vz sz wz => ∃ mz, I_X1_movedInto f1 f2 f3 f4 f5 f6 f7 u0 u1 u2 u3 u4 a b dz mz vz sz wz) (q_loopn (I_X1_movedInto f1 f2 f3 f4 f5 f6 f7 u0 u1 u2 u3 u4 a b) (fun dz J => if dz = 8 then b_X1_movedInto_8 J Q else q_F) ?hs ?hv)) ?_
  case hs =>
    intro d J hJ
    by_cases h8 : d = 8
    · subst h8; exact s_X1_movedInto_8 X hJ
    simp only [h8, if_false]
    exact s_F
  case hv =>
    intro dz mz vz sz wz hI okv oks okw hlen
    by_cases h8 : dz = 8
    · subst h8
      obtain ⟨v3, v4, v5, rfl, rfl, rfl, hn, hp⟩ := hI
      apply And.intro
      · intro h14
        intro z60 h60
        exact hQ _
      · intro h14
        apply And.intro
        · exact ⟨by omega, by omega⟩
        intro z25 h25
        intro z27 h27
        first | replace h27 := e_sub h27 (by omega) | replace h27 := e_rng h27
        intro z28 h28
        intro z31 h31
        first | replace h31 := e_add h31 (by omega) | replace h31 := e_rng h31
        apply And.intro
        · exact ⟨by omega, by omega⟩
        intro z43 h43
        intro z44 h44
        first | replace h44 := e_sub h44 (by omega) | replace h44 := e_rng h44
        intro z45 h45
        intro z48 h48
        first | replace h48 := e_add h48 (by omega) | replace h48 := e_rng h48
        intro z51 h51
        first | replace h51 := e_add h51 (by omega) | replace h51 := e_rng h51
        exact ⟨_, ⟨_, _, _, rfl, rfl, rfl, rfl, (by first | omega | assumption | exact q_rg_up (by assumption) (by omega) | exact q_rg_up (q_rg_up (by assumption) (by omega)) (by omega) | exact q_rg_cpy (by assumption) (by assumption))⟩, by omega⟩
    simp only [I_X1_movedInto, h8, if_false] at hI
  rintro lv st w' ⟨rfl, rfl, rfl⟩
  exact ⟨_, _, _, _, rfl, rfl, rfl, rfl, (by first | omega | assumption | exact q_rg_up (by assumption) (by omega) | exact q_rg_up (q_rg_up (by assumption) (by omega)) (by omega) | exact q_rg_cpy (by assumption) (by assumption))⟩

theorem dX1_fewestMoved_0 : decode cX1_fewestMoved 0 = .ok (.iconst 0, 1) := by decide +kernel
theorem dX1_fewestMoved_1 : decode cX1_fewestMoved 1 = .ok (.istore_n 3, 1) := by decide +kernel
theorem dX1_fewestMoved_2 : decode cX1_fewestMoved 2 = .ok (.iconst 0, 1) := by decide +kernel
theorem dX1_fewestMoved_3 : decode cX1_fewestMoved 3 = .ok (.istore 4, 2) := by decide +kernel
theorem dX1_fewestMoved_5 : decode cX1_fewestMoved 5 = .ok (.iload 4, 2) := by decide +kernel
theorem dX1_fewestMoved_7 : decode cX1_fewestMoved 7 = .ok (.aload_n 1, 1) := by decide +kernel
theorem dX1_fewestMoved_8 : decode cX1_fewestMoved 8 = .ok (.getfield 22, 3) := by decide +kernel
theorem dX1_fewestMoved_11 : decode cX1_fewestMoved 11 = .ok (.if_icmp .ge 19, 3) := by decide +kernel
theorem dX1_fewestMoved_14 : decode cX1_fewestMoved 14 = .ok (.iload_n 3, 1) := by decide +kernel
theorem dX1_fewestMoved_15 : decode cX1_fewestMoved 15 = .ok (.aload_n 1, 1) := by decide +kernel
theorem dX1_fewestMoved_16 : decode cX1_fewestMoved 16 = .ok (.getfield 28, 3) := by decide +kernel
theorem dX1_fewestMoved_19 : decode cX1_fewestMoved 19 = .ok (.iload 4, 2) := by decide +kernel
theorem dX1_fewestMoved_21 : decode cX1_fewestMoved 21 = .ok (.iaload, 1) := by decide +kernel
theorem dX1_fewestMoved_22 : decode cX1_fewestMoved 22 = .ok (.iadd, 1) := by decide +kernel
theorem dX1_fewestMoved_23 : decode cX1_fewestMoved 23 = .ok (.istore_n 3, 1) := by decide +kernel
theorem dX1_fewestMoved_24 : decode cX1_fewestMoved 24 = .ok (.iinc 4 1, 3) := by decide +kernel
theorem dX1_fewestMoved_27 : decode cX1_fewestMoved 27 = .ok (.goto (-22), 3) := by decide +kernel
theorem dX1_fewestMoved_30 : decode cX1_fewestMoved 30 = .ok (.aload_n 1, 1) := by decide +kernel
theorem dX1_fewestMoved_31 : decode cX1_fewestMoved 31 = .ok (.getfield 22, 3) := by decide +kernel
theorem dX1_fewestMoved_34 : decode cX1_fewestMoved 34 = .ok (.ifCond .ne 7, 3) := by decide +kernel
theorem dX1_fewestMoved_37 : decode cX1_fewestMoved 37 = .ok (.iconst 0, 1) := by decide +kernel
theorem dX1_fewestMoved_38 : decode cX1_fewestMoved 38 = .ok (.goto 4, 3) := by decide +kernel
theorem dX1_fewestMoved_41 : decode cX1_fewestMoved 41 = .ok (.iconst (-1), 1) := by decide +kernel
theorem dX1_fewestMoved_42 : decode cX1_fewestMoved 42 = .ok (.istore 4, 2) := by decide +kernel
theorem dX1_fewestMoved_44 : decode cX1_fewestMoved 44 = .ok (.iconst 1, 1) := by decide +kernel
theorem dX1_fewestMoved_45 : decode cX1_fewestMoved 45 = .ok (.istore 5, 2) := by decide +kernel
theorem dX1_fewestMoved_47 : decode cX1_fewestMoved 47 = .ok (.iload 5, 2) := by decide +kernel
theorem dX1_fewestMoved_49 : decode cX1_fewestMoved 49 = .ok (.bipush 99, 2) := by decide +kernel
theorem dX1_fewestMoved_51 : decode cX1_fewestMoved 51 = .ok (.if_icmp .gt 72, 3) := by decide +kernel
theorem dX1_fewestMoved_54 : decode cX1_fewestMoved 54 = .ok (.iload 5, 2) := by decide +kernel
theorem dX1_fewestMoved_56 : decode cX1_fewestMoved 56 = .ok (.iload_n 2, 1) := by decide +kernel
theorem dX1_fewestMoved_57 : decode cX1_fewestMoved 57 = .ok (.iadd, 1) := by decide +kernel
theorem dX1_fewestMoved_58 : decode cX1_fewestMoved 58 = .ok (.bipush 99, 2) := by decide +kernel
theorem dX1_fewestMoved_60 : decode cX1_fewestMoved 60 = .ok (.invokestatic 35, 3) := by decide +kernel
theorem dX1_fewestMoved_63 : decode cX1_fewestMoved 63 = .ok (.istore 6, 2) := by decide +kernel
theorem dX1_fewestMoved_65 : decode cX1_fewestMoved 65 = .ok (.aload_n 1, 1) := by decide +kernel
theorem dX1_fewestMoved_66 : decode cX1_fewestMoved 66 = .ok (.getfield 22, 3) := by decide +kernel
theorem dX1_fewestMoved_69 : decode cX1_fewestMoved 69 = .ok (.iload 5, 2) := by decide +kernel
theorem dX1_fewestMoved_71 : decode cX1_fewestMoved 71 = .ok (.imul, 1) := by decide +kernel
theorem dX1_fewestMoved_72 : decode cX1_fewestMoved 72 = .ok (.iload_n 3, 1) := by decide +kernel
theorem dX1_fewestMoved_73 : decode cX1_fewestMoved 73 = .ok (.if_icmp .gt 44, 3) := by decide +kernel
theorem dX1_fewestMoved_76 : decode cX1_fewestMoved 76 = .ok (.iload_n 3, 1) := by decide +kernel
theorem dX1_fewestMoved_77 : decode cX1_fewestMoved 77 = .ok (.aload_n 1, 1) := by decide +kernel
theorem dX1_fewestMoved_78 : decode cX1_fewestMoved 78 = .ok (.getfield 22, 3) := by decide +kernel
theorem dX1_fewestMoved_81 : decode cX1_fewestMoved 81 = .ok (.iload 6, 2) := by decide +kernel
theorem dX1_fewestMoved_83 : decode cX1_fewestMoved 83 = .ok (.imul, 1) := by decide +kernel
theorem dX1_fewestMoved_84 : decode cX1_fewestMoved 84 = .ok (.if_icmp .gt 33, 3) := by decide +kernel
theorem dX1_fewestMoved_87 : decode cX1_fewestMoved 87 = .ok (.aload_n 1, 1) := by decide +kernel
theorem dX1_fewestMoved_88 : decode cX1_fewestMoved 88 = .ok (.iload 5, 2) := by decide +kernel
theorem dX1_fewestMoved_90 : decode cX1_fewestMoved 90 = .ok (.iload 6, 2) := by decide +kernel
theorem dX1_fewestMoved_92 : decode cX1_fewestMoved 92 = .ok (.invokestatic 41, 3) := by decide +kernel
theorem dX1_fewestMoved_95 : decode cX1_fewestMoved 95 = .ok (.istore 7, 2) := by decide +kernel
theorem dX1_fewestMoved_97 : decode cX1_fewestMoved 97 = .ok (.iload 4, 2) := by decide +kernel
theorem dX1_fewestMoved_99 : decode cX1_fewestMoved 99 = .ok (.iconst (-1), 1) := by decide +kernel
theorem dX1_fewestMoved_100 : decode cX1_fewestMoved 100 = .ok (.if_icmp .ne 8, 3) := by decide +kernel
theorem dX1_fewestMoved_103 : decode cX1_fewestMoved 103 = .ok (.iload 7, 2) := by decide +kernel
theorem dX1_fewestMoved_105 : decode cX1_fewestMoved 105 = .ok (.goto 10, 3) := by decide +kernel
theorem dX1_fewestMoved_108 : decode cX1_fewestMoved 108 = .ok (.iload 4, 2) := by decide +kernel
theorem dX1_fewestMoved_110 : decode cX1_fewestMoved 110 = .ok (.iload 7, 2) := by decide +kernel
theorem dX1_fewestMoved_112 : decode cX1_fewestMoved 112 = .ok (.invokestatic 35, 3) := by decide +kernel
theorem dX1_fewestMoved_115 : decode cX1_fewestMoved 115 = .ok (.istore 4, 2) := by decide +kernel
theorem dX1_fewestMoved_117 : decode cX1_fewestMoved 117 = .ok (.iinc 5 1, 3) := by decide +kernel
theorem dX1_fewestMoved_120 : decode cX1_fewestMoved 120 = .ok (.goto (-73), 3) := by decide +kernel
theorem dX1_fewestMoved_123 : decode cX1_fewestMoved 123 = .ok (.iload 4, 2) := by decide +kernel
theorem dX1_fewestMoved_125 : decode cX1_fewestMoved 125 = .ok (.ireturn, 1) := by decide +kernel
def is_X1_fewestMoved : Nat → List Nat := fun d => if d = 5 then [1, 2, 3, 4] else if d = 47 then [1, 2, 3, 4, 5] else []
set_option maxRecDepth 100000 in
def b_X1_fewestMoved_117 (J : Nat → List qV → List qV → qW → Prop) (Q : qR) : qK := x_iinc 5 1 (x_cut [1, 2, 3, 4, 5] (J 47))
set_option maxRecDepth 100000 in
theorem s_X1_fewestMoved_117 {p : Program} {l : Launch} {e : Env} {R : Room} {s : State} {m : MethodId} {args : Array Value} {below : List Frame} {meth : Method} {c : Code} {nW : Nat} {dC : Nat → ClassId} {dI : Nat → Nat → Nat} {k : Nat → ClassId} {g : Nat → Nat} {A : Nat → Prop} {J : Nat → List qV → List qV → qW → Prop} {Q : qR} (X : q_X p R s m args meth c cX1_fewestMoved 8 nW 2 46 RX1 (some .int) dC dI k g A) (hJ : ∀ d : Nat, q_Sd p l e R s m args below meth c 8 nW dC dI k g A (MQ below (q_post (dC, dI) k g nW Q A) args s 0 0 A) d (x_cut (is_X1_fewestMoved d) (J d))) : q_Sd p l e R s m args below meth c 8 nW dC dI k g A (MQ below (q_post (dC, dI) k g nW Q A) args s 0 0 A) 117 (b_X1_fewestMoved_117 J Q) := by
  unfold b_X1_fewestMoved_117
  refine s_iinc X (by decide) dX1_fewestMoved_117 ?_
  refine s_goto X (tgt := 47) dX1_fewestMoved_120 (by decide) ?_
  exact hJ 47
set_option maxRecDepth 100000 in
def b_X1_fewestMoved_115 (J : Nat → List qV → List qV → qW → Prop) (Q : qR) : qK := x_istore 4 (b_X1_fewestMoved_117 J Q)
set_option maxRecDepth 100000 in
theorem s_X1_fewestMoved_115 {p : Program} {l : Launch} {e : Env} {R : Room} {s : State} {m : MethodId} {args : Array Value} {below : List Frame} {meth : Method} {c : Code} {nW : Nat} {dC : Nat → ClassId} {dI : Nat → Nat → Nat} {k : Nat → ClassId} {g : Nat → Nat} {A : Nat → Prop} {J : Nat → List qV → List qV → qW → Prop} {Q : qR} (X : q_X p R s m args meth c cX1_fewestMoved 8 nW 2 46 RX1 (some .int) dC dI k g A) (hJ : ∀ d : Nat, q_Sd p l e R s m args below meth c 8 nW dC dI k g A (MQ below (q_post (dC, dI) k g nW Q A) args s 0 0 A) d (x_cut (is_X1_fewestMoved d) (J d))) : q_Sd p l e R s m args below meth c 8 nW dC dI k g A (MQ below (q_post (dC, dI) k g nW Q A) args s 0 0 A) 115 (b_X1_fewestMoved_115 J Q) := by
  unfold b_X1_fewestMoved_115
  refine s_istore X (by decide) dX1_fewestMoved_115 ?_
  exact s_X1_fewestMoved_117 X hJ
set_option maxRecDepth 100000 in
def b_X1_fewestMoved_92 (J : Nat → List qV → List qV → qW → Prop) (Q : qR) : qK := x_callr none 3 spr_X1_movedInto (x_istore 7 (x_iload 4 (x_int (-1) (x_icmp_ne (x_iload 4 (x_iload 7 (x_min (b_X1_fewestMoved_115 J Q)))) (x_iload 7 (b_X1_fewestMoved_115 J Q))))))
set_option maxRecDepth 100000 in
theorem s_X1_fewestMoved_92 {p : Program} {l : Launch} {e : Env} {R : Room} {s : State} {m : MethodId} {args : Array Value} {below : List Frame} {meth : Method} {c : Code} {nW : Nat} {dC : Nat → ClassId} {dI : Nat → Nat → Nat} {k : Nat → ClassId} {g : Nat → Nat} {A : Nat → Prop} {J : Nat → List qV → List qV → qW → Prop} {Q : qR} (X : q_X p R s m args meth c cX1_fewestMoved 8 nW 2 46 RX1 (some .int) dC dI k g A) (hJ : ∀ d : Nat, q_Sd p l e R s m args below meth c 8 nW dC dI k g A (MQ below (q_post (dC, dI) k g nW Q A) args s 0 0 A) d (x_cut (is_X1_fewestMoved d) (J d))) : q_Sd p l e R s m args below meth c 8 nW dC dI k g A (MQ below (q_post (dC, dI) k g nW Q A) args s 0 0 A) 92 (b_X1_fewestMoved_92 J Q) := by
  unfold b_X1_fewestMoved_92
  refine s_callSr X (m_X1_movedInto l) tw_700 tw_701 tw_133 tw_702 (by decide +kernel) ⟨by decide, by decide⟩ dX1_fewestMoved_92 ?_
  refine s_istore X (by decide) dX1_fewestMoved_95 ?_
  refine s_iload X dX1_fewestMoved_97 ?_
  refine s_iconst X ⟨by decide, by decide⟩ dX1_fewestMoved_99 ?_
  refine s_icmp_ne X (tgt := 108) dX1_fewestMoved_100 (by decide) ?_ ?_
  · refine s_iload X dX1_fewestMoved_108 ?_
    refine s_iload X dX1_fewestMoved_110 ?_
    refine s_min X tw_699 tw_365 tw_135 tw_366 ⟨by decide, by decide⟩ dX1_fewestMoved_112 ?_
    exact s_X1_fewestMoved_115 X hJ
  · refine s_iload X dX1_fewestMoved_103 ?_
    refine s_goto X (tgt := 115) dX1_fewestMoved_105 (by decide) ?_
    exact s_X1_fewestMoved_115 X hJ
set_option maxRecDepth 100000 in
def b_X1_fewestMoved_47 (J : Nat → List qV → List qV → qW → Prop) (Q : qR) : qK := x_iload 5 (x_int 99 (x_icmp_gt (x_iload 4 (x_iret Q)) (x_iload 5 (x_iload 2 (x_iadd (x_int 99 (x_min (x_istore 6 (x_aload 1 (x_get 0 7 (x_iload 5 (x_imul (x_iload 3 (x_icmp_gt (b_X1_fewestMoved_117 J Q) (x_iload 3 (x_aload 1 (x_get 0 7 (x_iload 6 (x_imul (x_icmp_gt (b_X1_fewestMoved_117 J Q) (x_aload 1 (x_iload 5 (x_iload 6 (b_X1_fewestMoved_92 J Q))))))))))))))))))))))))
set_option maxRecDepth 100000 in
theorem s_X1_fewestMoved_47 {p : Program} {l : Launch} {e : Env} {R : Room} {s : State} {m : MethodId} {args : Array Value} {below : List Frame} {meth : Method} {c : Code} {nW : Nat} {dC : Nat → ClassId} {dI : Nat → Nat → Nat} {k : Nat → ClassId} {g : Nat → Nat} {A : Nat → Prop} {J : Nat → List qV → List qV → qW → Prop} {Q : qR} (X : q_X p R s m args meth c cX1_fewestMoved 8 nW 2 46 RX1 (some .int) dC dI k g A) (hJ : ∀ d : Nat, q_Sd p l e R s m args below meth c 8 nW dC dI k g A (MQ below (q_post (dC, dI) k g nW Q A) args s 0 0 A) d (x_cut (is_X1_fewestMoved d) (J d))) : q_Sd p l e R s m args below meth c 8 nW dC dI k g A (MQ below (q_post (dC, dI) k g nW Q A) args s 0 0 A) 47 (b_X1_fewestMoved_47 J Q) := by
  unfold b_X1_fewestMoved_47
  refine s_iload X dX1_fewestMoved_47 ?_
  refine s_bipush X ⟨by decide, by decide⟩ (by decide) dX1_fewestMoved_49 ?_
  refine s_icmp_gt X (tgt := 123) dX1_fewestMoved_51 (by decide) ?_ ?_
  · refine s_iload X dX1_fewestMoved_123 ?_
    exact s_iret X dX1_fewestMoved_125
  · refine s_iload X dX1_fewestMoved_54 ?_
    refine s_iload_n X rfl dX1_fewestMoved_56 ?_
    refine s_iadd X dX1_fewestMoved_57 ?_
    refine s_bipush X ⟨by decide, by decide⟩ (by decide) dX1_fewestMoved_58 ?_
    refine s_min X tw_699 tw_365 tw_135 tw_366 ⟨by decide, by decide⟩ dX1_fewestMoved_60 ?_
    refine s_istore X (by decide) dX1_fewestMoved_63 ?_
    refine s_aload_n X rfl dX1_fewestMoved_65 ?_
    refine s_get X (T := TX0) (C := RX0) (N := 12) tu_X0 rfl (by decide) tw_192 dX1_fewestMoved_66 ?_
    refine s_iload X dX1_fewestMoved_69 ?_
    refine s_imul X dX1_fewestMoved_71 ?_
    refine s_iload_n X rfl dX1_fewestMoved_72 ?_
    refine s_icmp_gt X (tgt := 117) dX1_fewestMoved_73 (by decide) ?_ ?_
    · exact s_X1_fewestMoved_117 X hJ
    · refine s_iload_n X rfl dX1_fewestMoved_76 ?_
      refine s_aload_n X rfl dX1_fewestMoved_77 ?_
      refine s_get X (T := TX0) (C := RX0) (N := 12) tu_X0 rfl (by decide) tw_192 dX1_fewestMoved_78 ?_
      refine s_iload X dX1_fewestMoved_81 ?_
      refine s_imul X dX1_fewestMoved_83 ?_
      refine s_icmp_gt X (tgt := 117) dX1_fewestMoved_84 (by decide) ?_ ?_
      · exact s_X1_fewestMoved_117 X hJ
      · refine s_aload_n X rfl dX1_fewestMoved_87 ?_
        refine s_iload X dX1_fewestMoved_88 ?_
        refine s_iload X dX1_fewestMoved_90 ?_
        exact s_X1_fewestMoved_92 X hJ
set_option maxRecDepth 100000 in
def b_X1_fewestMoved_42 (J : Nat → List qV → List qV → qW → Prop) (Q : qR) : qK := x_istore 4 (x_int 1 (x_istore 5 (x_cut [1, 2, 3, 4, 5] (J 47))))
set_option maxRecDepth 100000 in
theorem s_X1_fewestMoved_42 {p : Program} {l : Launch} {e : Env} {R : Room} {s : State} {m : MethodId} {args : Array Value} {below : List Frame} {meth : Method} {c : Code} {nW : Nat} {dC : Nat → ClassId} {dI : Nat → Nat → Nat} {k : Nat → ClassId} {g : Nat → Nat} {A : Nat → Prop} {J : Nat → List qV → List qV → qW → Prop} {Q : qR} (X : q_X p R s m args meth c cX1_fewestMoved 8 nW 2 46 RX1 (some .int) dC dI k g A) (hJ : ∀ d : Nat, q_Sd p l e R s m args below meth c 8 nW dC dI k g A (MQ below (q_post (dC, dI) k g nW Q A) args s 0 0 A) d (x_cut (is_X1_fewestMoved d) (J d))) : q_Sd p l e R s m args below meth c 8 nW dC dI k g A (MQ below (q_post (dC, dI) k g nW Q A) args s 0 0 A) 42 (b_X1_fewestMoved_42 J Q) := by
  unfold b_X1_fewestMoved_42
  refine s_istore X (by decide) dX1_fewestMoved_42 ?_
  refine s_iconst X ⟨by decide, by decide⟩ dX1_fewestMoved_44 ?_
  refine s_istore X (by decide) dX1_fewestMoved_45 ?_
  exact hJ 47
set_option maxRecDepth 100000 in
def b_X1_fewestMoved_5 (J : Nat → List qV → List qV → qW → Prop) (Q : qR) : qK := x_iload 4 (x_aload 1 (x_get 0 7 (x_icmp_ge (x_aload 1 (x_get 0 7 (x_if_ne (x_int (-1) (b_X1_fewestMoved_42 J Q)) (x_int 0 (b_X1_fewestMoved_42 J Q))))) (x_iload 3 (x_aload 1 (x_get 0 0 (x_iload 4 (x_iald (x_iadd (x_istore 3 (x_iinc 4 1 (x_cut [1, 2, 3, 4] (J 5)))))))))))))
set_option maxRecDepth 100000 in
theorem s_X1_fewestMoved_5 {p : Program} {l : Launch} {e : Env} {R : Room} {s : State} {m : MethodId} {args : Array Value} {below : List Frame} {meth : Method} {c : Code} {nW : Nat} {dC : Nat → ClassId} {dI : Nat → Nat → Nat} {k : Nat → ClassId} {g : Nat → Nat} {A : Nat → Prop} {J : Nat → List qV → List qV → qW → Prop} {Q : qR} (X : q_X p R s m args meth c cX1_fewestMoved 8 nW 2 46 RX1 (some .int) dC dI k g A) (hJ : ∀ d : Nat, q_Sd p l e R s m args below meth c 8 nW dC dI k g A (MQ below (q_post (dC, dI) k g nW Q A) args s 0 0 A) d (x_cut (is_X1_fewestMoved d) (J d))) : q_Sd p l e R s m args below meth c 8 nW dC dI k g A (MQ below (q_post (dC, dI) k g nW Q A) args s 0 0 A) 5 (b_X1_fewestMoved_5 J Q) := by
  unfold b_X1_fewestMoved_5
  refine s_iload X dX1_fewestMoved_5 ?_
  refine s_aload_n X rfl dX1_fewestMoved_7 ?_
  refine s_get X (T := TX0) (C := RX0) (N := 12) tu_X0 rfl (by decide) tw_192 dX1_fewestMoved_8 ?_
  refine s_icmp_ge X (tgt := 30) dX1_fewestMoved_11 (by decide) ?_ ?_
  · refine s_aload_n X rfl dX1_fewestMoved_30 ?_
    refine s_get X (T := TX0) (C := RX0) (N := 12) tu_X0 rfl (by decide) tw_192 dX1_fewestMoved_31 ?_
    refine s_if_ne X (tgt := 41) dX1_fewestMoved_34 (by decide) ?_ ?_
    · refine s_iconst X ⟨by decide, by decide⟩ dX1_fewestMoved_41 ?_
      exact s_X1_fewestMoved_42 X hJ
    · refine s_iconst X ⟨by decide, by decide⟩ dX1_fewestMoved_37 ?_
      refine s_goto X (tgt := 42) dX1_fewestMoved_38 (by decide) ?_
      exact s_X1_fewestMoved_42 X hJ
  · refine s_iload_n X rfl dX1_fewestMoved_14 ?_
    refine s_aload_n X rfl dX1_fewestMoved_15 ?_
    refine s_get X (T := TX0) (C := RX0) (N := 12) tu_X0 rfl (by decide) tw_166 dX1_fewestMoved_16 ?_
    refine s_iload X dX1_fewestMoved_19 ?_
    refine s_iald X dX1_fewestMoved_21 ?_
    refine s_iadd X dX1_fewestMoved_22 ?_
    refine s_istore_n X rfl (by decide) dX1_fewestMoved_23 ?_
    refine s_iinc X (by decide) dX1_fewestMoved_24 ?_
    refine s_goto X (tgt := 5) dX1_fewestMoved_27 (by decide) ?_
    exact hJ 5
set_option maxRecDepth 100000 in
def b_X1_fewestMoved_0 (J : Nat → List qV → List qV → qW → Prop) (Q : qR) : qK := x_int 0 (x_istore 3 (x_int 0 (x_istore 4 (x_cut [1, 2, 3, 4] (J 5)))))
set_option maxRecDepth 100000 in
theorem s_X1_fewestMoved_0 {p : Program} {l : Launch} {e : Env} {R : Room} {s : State} {m : MethodId} {args : Array Value} {below : List Frame} {meth : Method} {c : Code} {nW : Nat} {dC : Nat → ClassId} {dI : Nat → Nat → Nat} {k : Nat → ClassId} {g : Nat → Nat} {A : Nat → Prop} {J : Nat → List qV → List qV → qW → Prop} {Q : qR} (X : q_X p R s m args meth c cX1_fewestMoved 8 nW 2 46 RX1 (some .int) dC dI k g A) (hJ : ∀ d : Nat, q_Sd p l e R s m args below meth c 8 nW dC dI k g A (MQ below (q_post (dC, dI) k g nW Q A) args s 0 0 A) d (x_cut (is_X1_fewestMoved d) (J d))) : q_Sd p l e R s m args below meth c 8 nW dC dI k g A (MQ below (q_post (dC, dI) k g nW Q A) args s 0 0 A) 0 (b_X1_fewestMoved_0 J Q) := by
  unfold b_X1_fewestMoved_0
  refine s_iconst X ⟨by decide, by decide⟩ dX1_fewestMoved_0 ?_
  refine s_istore_n X rfl (by decide) dX1_fewestMoved_1 ?_
  refine s_iconst X ⟨by decide, by decide⟩ dX1_fewestMoved_2 ?_
  refine s_istore X (by decide) dX1_fewestMoved_3 ?_
  exact hJ 5

def spr_X1_fewestMoved : List qV → qW → (Option qV → Prop) → Prop := fun av w Q => ∃ (c1 : Nat → Int) (c2 : Nat → Int) (c3 : Nat → Int) (f1 : Nat → Int) (f2 : Nat → Int) (f3 : Nat → Int) (f4 : Nat → Int) (f5 : Nat → Int) (f6 : Nat → Int) (f7 : Nat → Int) (u0 : Int) (u1 : Int) (u2 : Int) (u3 : Int) (u4 : Int) (a : Int), av = [q2 0, q2 4, q1 a] ∧ w = (wCo 0 c1 c2 c3 ++ wBo 4 f1 f2 f3 f4 f5 f6 f7 u0 u1 u2 u3 u4) ∧ (0 ≤ u0 ∧ u0 ≤ 8) ∧ (∀ (r : Int) , Q (some (q1 r)))
def sp_X1_fewestMoved : qS := fun av w Q => spr_X1_fewestMoved av w (fun r => Q r w)
def I_X1_fewestMoved (c1 : Nat → Int) (c2 : Nat → Int) (c3 : Nat → Int) (f1 : Nat → Int) (f2 : Nat → Int) (f3 : Nat → Int) (f4 : Nat → Int) (f5 : Nat → Int) (f6 : Nat → Int) (f7 : Nat → Int) (u0 : Int) (u1 : Int) (u2 : Int) (u3 : Int) (u4 : Int) (a : Int) : Nat → Nat → List qV → List qV → qW → Prop := fun dz mz vz sz wz => if dz = 5 then (∃ (v3 : Int) (v4 : Int), vz = [q2 4, q1 a, q1 v3, q1 v4] ∧ sz = [] ∧ wz = (wCo 0 c1 c2 c3 ++ wBo 4 f1 f2 f3 f4 f5 f6 f7 u0 u1 u2 u3 u4) ∧ mz = 1000 + (u0 - v4).toNat ∧ (0 ≤ v4 ∧ v4 ≤ u0)) else if dz = 47 then (∃ (v3 : Int) (v4 : Int) (v5 : Int), vz = [q2 4, q1 a, q1 v3, q1 v4, q1 v5] ∧ sz = [] ∧ wz = (wCo 0 c1 c2 c3 ++ wBo 4 f1 f2 f3 f4 f5 f6 f7 u0 u1 u2 u3 u4) ∧ mz = (100 - v5).toNat ∧ (1 ≤ v5 ∧ v5 ≤ 100)) else False
set_option maxHeartbeats 4000000 in
set_option maxRecDepth 100000 in
theorem m_X1_fewestMoved (l : Launch) : q_M l yX1_fewestMoved cX1_fewestMoved 8 (some .int) 2 46 sp_X1_fewestMoved := by
  refine q_meth (by decide) (fun av w Q h => by obtain ⟨c1, c2, c3, f1, f2, f3, f4, f5, f6, f7, u0, u1, u2, u3, u4, a, rfl, rfl, hu0, hQ⟩ := h; exact Nat.le_of_ble_eq_true rfl) ?_
  intro p e R s m args below meth c dC dI k g A av w Q hsp oka okw X
  obtain ⟨c1, c2, c3, f1, f2, f3, f4, f5, f6, f7, u0, u1, u2, u3, u4, a, rfl, rfl, hu0, hQ⟩ := hsp
  have o_a : -2147483648 ≤ a ∧ a ≤ 2147483647 := oka _ (List.mem_of_getElem? (i := 2) rfl)
  refine s_mono (s_X1_fewestMoved_0 X (J := fun dz vz sz wz => ∃ mz, I_X1_fewestMoved c1 c2 c3 f1 f2 f3 f4 f5 f6 f7 u0 u1 u2 u3 u4 a dz mz vz sz wz) (q_loopn (I_X1_fewestMoved c1 c2 c3 f1 f2 f3 f4 f5 f6 f7 u0 u1 u2 u3 u4 a) (fun dz J => if dz = 5 then b_X1_fewestMoved_5 J Q else if dz = 47 then b_X1_fewestMoved_47 J Q else q_F) ?hs ?hv)) ?_
  case hs =>
    intro d J hJ
    by_cases h5 : d = 5
    · subst h5; exact s_X1_fewestMoved_5 X hJ
    by_cases h47 : d = 47
    · subst h47; exact s_X1_fewestMoved_47 X hJ
    simp only [h5, h47, if_false]
    exact s_F
  case hv =>
    intro dz mz vz sz wz hI okv oks okw hlen
    by_cases h5 : dz = 5
    · subst h5
      obtain ⟨v3, v4, rfl, rfl, rfl, hn, hp⟩ := hI
      apply And.intro
      · intro h11
        apply And.intro
        · intro h34
          exact ⟨_, ⟨_, _, _, rfl, rfl, rfl, rfl, (by first | omega | assumption | exact q_rg_up (by assumption) (by omega) | exact q_rg_up (q_rg_up (by assumption) (by omega)) (by omega) | exact q_rg_cpy (by assumption) (by assumption))⟩, by omega⟩
        · intro h34
          exact ⟨_, ⟨_, _, _, rfl, rfl, rfl, rfl, (by first | omega | assumption | exact q_rg_up (by assumption) (by omega) | exact q_rg_up (q_rg_up (by assumption) (by omega)) (by omega) | exact q_rg_cpy (by assumption) (by assumption))⟩, by omega⟩
      · intro h11
        apply And.intro
        · exact ⟨by omega, by omega⟩
        intro z21 h21
        intro z22 h22
        first | replace h22 := e_add h22 (by omega) | replace h22 := e_rng h22
        intro z24 h24
        first | replace h24 := e_add h24 (by omega) | replace h24 := e_rng h24
        exact ⟨_, ⟨_, _, rfl, rfl, rfl, rfl, (by first | omega | assumption | exact q_rg_up (by assumption) (by omega) | exact q_rg_up (q_rg_up (by assumption) (by omega)) (by omega) | exact q_rg_cpy (by assumption) (by assumption))⟩, by omega⟩
    by_cases h47 : dz = 47
    · subst h47
      obtain ⟨v3, v4, v5, rfl, rfl, rfl, hn, hp⟩ := hI
      apply And.intro
      · intro h51
        exact hQ _
      · intro h51
        intro z57 h57
        first | replace h57 := e_add h57 (by omega) | replace h57 := e_rng h57
        intro z60 h60
        intro z71 h71
        first | replace h71 := e_mul h71 (by omega) | replace h71 := e_rng h71
        apply And.intro
        · intro h73
          intro z117 h117
          first | replace h117 := e_add h117 (by omega) | replace h117 := e_rng h117
          exact ⟨_, ⟨_, _, _, rfl, rfl, rfl, rfl, (by first | omega | assumption | exact q_rg_up (by assumption) (by omega) | exact q_rg_up (q_rg_up (by assumption) (by omega)) (by omega) | exact q_rg_cpy (by assumption) (by assumption))⟩, by omega⟩
        · intro h73
          intro z83 h83
          first | replace h83 := e_mul h83 (by omega) | replace h83 := e_rng h83
          apply And.intro
          · intro h84
            intro z117 h117
            first | replace h117 := e_add h117 (by omega) | replace h117 := e_rng h117
            exact ⟨_, ⟨_, _, _, rfl, rfl, rfl, rfl, (by first | omega | assumption | exact q_rg_up (by assumption) (by omega) | exact q_rg_up (q_rg_up (by assumption) (by omega)) (by omega) | exact q_rg_cpy (by assumption) (by assumption))⟩, by omega⟩
          · intro h84
            refine Exists.intro [4, 5, 6, 7, 8, 9, 10, 11] (Exists.intro [q2 0, q1 _, q1 _] (Exists.intro (wB _ _ _ _ _ _ _ _ _ _ _ _) (And.intro rfl (And.intro rfl (And.intro rfl (And.intro trivial ?_))))))
            refine Exists.intro _ (Exists.intro _ (Exists.intro _ (Exists.intro _ (Exists.intro _ (Exists.intro _ (Exists.intro _ (Exists.intro _ (Exists.intro _ (Exists.intro _ (Exists.intro _ (Exists.intro _ (Exists.intro _ (Exists.intro _ (And.intro rfl (And.intro rfl (And.intro (by first | omega | assumption | exact q_rg_up (by assumption) (by omega) | exact q_rg_up (q_rg_up (by assumption) (by omega)) (by omega) | exact q_rg_cpy (by assumption) (by assumption)) (?_)))))))))))))))))
            intro z92
            apply And.intro
            · intro h100
              intro z112 h112
              intro z117 h117
              first | replace h117 := e_add h117 (by omega) | replace h117 := e_rng h117
              exact ⟨_, ⟨_, _, _, rfl, rfl, rfl, rfl, (by first | omega | assumption | exact q_rg_up (by assumption) (by omega) | exact q_rg_up (q_rg_up (by assumption) (by omega)) (by omega) | exact q_rg_cpy (by assumption) (by assumption))⟩, by omega⟩
            · intro h100
              intro z117 h117
              first | replace h117 := e_add h117 (by omega) | replace h117 := e_rng h117
              exact ⟨_, ⟨_, _, _, rfl, rfl, rfl, rfl, (by first | omega | assumption | exact q_rg_up (by assumption) (by omega) | exact q_rg_up (q_rg_up (by assumption) (by omega)) (by omega) | exact q_rg_cpy (by assumption) (by assumption))⟩, by omega⟩
    simp only [I_X1_fewestMoved, h5, h47, if_false] at hI
  rintro lv st w' ⟨rfl, rfl, rfl⟩
  exact ⟨_, _, _, rfl, rfl, rfl, rfl, (by first | omega | assumption | exact q_rg_up (by assumption) (by omega) | exact q_rg_up (q_rg_up (by assumption) (by omega)) (by omega) | exact q_rg_cpy (by assumption) (by assumption))⟩

theorem dX1_hatInches_0 : decode cX1_hatInches 0 = .ok (.aload_n 0, 1) := by decide +kernel
theorem dX1_hatInches_1 : decode cX1_hatInches 1 = .ok (.aload_n 1, 1) := by decide +kernel
theorem dX1_hatInches_2 : decode cX1_hatInches 2 = .ok (.invokevirtual 31, 3) := by decide +kernel
theorem dX1_hatInches_5 : decode cX1_hatInches 5 = .ok (.iconst 0, 1) := by decide +kernel
theorem dX1_hatInches_6 : decode cX1_hatInches 6 = .ok (.istore_n 2, 1) := by decide +kernel
theorem dX1_hatInches_7 : decode cX1_hatInches 7 = .ok (.iconst 0, 1) := by decide +kernel
theorem dX1_hatInches_8 : decode cX1_hatInches 8 = .ok (.istore_n 3, 1) := by decide +kernel
theorem dX1_hatInches_9 : decode cX1_hatInches 9 = .ok (.iconst 0, 1) := by decide +kernel
theorem dX1_hatInches_10 : decode cX1_hatInches 10 = .ok (.istore 4, 2) := by decide +kernel
theorem dX1_hatInches_12 : decode cX1_hatInches 12 = .ok (.iload 4, 2) := by decide +kernel
theorem dX1_hatInches_14 : decode cX1_hatInches 14 = .ok (.aload_n 1, 1) := by decide +kernel
theorem dX1_hatInches_15 : decode cX1_hatInches 15 = .ok (.getfield 22, 3) := by decide +kernel
theorem dX1_hatInches_18 : decode cX1_hatInches 18 = .ok (.if_icmp .ge 35, 3) := by decide +kernel
theorem dX1_hatInches_21 : decode cX1_hatInches 21 = .ok (.iload_n 3, 1) := by decide +kernel
theorem dX1_hatInches_22 : decode cX1_hatInches 22 = .ok (.iconst 1, 1) := by decide +kernel
theorem dX1_hatInches_23 : decode cX1_hatInches 23 = .ok (.iadd, 1) := by decide +kernel
theorem dX1_hatInches_24 : decode cX1_hatInches 24 = .ok (.aload_n 0, 1) := by decide +kernel
theorem dX1_hatInches_25 : decode cX1_hatInches 25 = .ok (.getfield 9, 3) := by decide +kernel
theorem dX1_hatInches_28 : decode cX1_hatInches 28 = .ok (.iload 4, 2) := by decide +kernel
theorem dX1_hatInches_30 : decode cX1_hatInches 30 = .ok (.iaload, 1) := by decide +kernel
theorem dX1_hatInches_31 : decode cX1_hatInches 31 = .ok (.invokestatic 45, 3) := by decide +kernel
theorem dX1_hatInches_34 : decode cX1_hatInches 34 = .ok (.istore_n 3, 1) := by decide +kernel
theorem dX1_hatInches_35 : decode cX1_hatInches 35 = .ok (.iload_n 2, 1) := by decide +kernel
theorem dX1_hatInches_36 : decode cX1_hatInches 36 = .ok (.iload_n 3, 1) := by decide +kernel
theorem dX1_hatInches_37 : decode cX1_hatInches 37 = .ok (.aload_n 0, 1) := by decide +kernel
theorem dX1_hatInches_38 : decode cX1_hatInches 38 = .ok (.getfield 9, 3) := by decide +kernel
theorem dX1_hatInches_41 : decode cX1_hatInches 41 = .ok (.iload 4, 2) := by decide +kernel
theorem dX1_hatInches_43 : decode cX1_hatInches 43 = .ok (.iaload, 1) := by decide +kernel
theorem dX1_hatInches_44 : decode cX1_hatInches 44 = .ok (.isub, 1) := by decide +kernel
theorem dX1_hatInches_45 : decode cX1_hatInches 45 = .ok (.iadd, 1) := by decide +kernel
theorem dX1_hatInches_46 : decode cX1_hatInches 46 = .ok (.istore_n 2, 1) := by decide +kernel
theorem dX1_hatInches_47 : decode cX1_hatInches 47 = .ok (.iinc 4 1, 3) := by decide +kernel
theorem dX1_hatInches_50 : decode cX1_hatInches 50 = .ok (.goto (-38), 3) := by decide +kernel
theorem dX1_hatInches_53 : decode cX1_hatInches 53 = .ok (.iload_n 2, 1) := by decide +kernel
theorem dX1_hatInches_54 : decode cX1_hatInches 54 = .ok (.ireturn, 1) := by decide +kernel
def is_X1_hatInches : Nat → List Nat := fun d => if d = 12 then [0, 1, 2, 3, 4] else []
set_option maxRecDepth 100000 in
def b_X1_hatInches_53 (J : Nat → List qV → List qV → qW → Prop) (Q : qR) : qK := x_iload 2 (x_iret Q)
set_option maxRecDepth 100000 in
theorem s_X1_hatInches_53 {p : Program} {l : Launch} {e : Env} {R : Room} {s : State} {m : MethodId} {args : Array Value} {below : List Frame} {meth : Method} {c : Code} {nW : Nat} {dC : Nat → ClassId} {dI : Nat → Nat → Nat} {k : Nat → ClassId} {g : Nat → Nat} {A : Nat → Prop} {J : Nat → List qV → List qV → qW → Prop} {Q : qR} (X : q_X p R s m args meth c cX1_hatInches 5 nW 1 23 RX1 (some .int) dC dI k g A) (hJ : ∀ d : Nat, q_Sd p l e R s m args below meth c 5 nW dC dI k g A (MQ below (q_post (dC, dI) k g nW Q A) args s 0 0 A) d (x_cut (is_X1_hatInches d) (J d))) : q_Sd p l e R s m args below meth c 5 nW dC dI k g A (MQ below (q_post (dC, dI) k g nW Q A) args s 0 0 A) 53 (b_X1_hatInches_53 J Q) := by
  unfold b_X1_hatInches_53
  refine s_iload_n X rfl dX1_hatInches_53 ?_
  exact s_iret X dX1_hatInches_54
set_option maxRecDepth 100000 in
def b_X1_hatInches_12 (J : Nat → List qV → List qV → qW → Prop) (Q : qR) : qK := x_iload 4 (x_aload 1 (x_get 0 7 (x_icmp_ge (b_X1_hatInches_53 J Q) (x_iload 3 (x_int 1 (x_iadd (x_aload 0 (x_get 1 0 (x_iload 4 (x_iald (x_max (x_istore 3 (x_iload 2 (x_iload 3 (x_aload 0 (x_get 1 0 (x_iload 4 (x_iald (x_isub (x_iadd (x_istore 2 (x_iinc 4 1 (x_cut [0, 1, 2, 3, 4] (J 12))))))))))))))))))))))))
set_option maxRecDepth 100000 in
theorem s_X1_hatInches_12 {p : Program} {l : Launch} {e : Env} {R : Room} {s : State} {m : MethodId} {args : Array Value} {below : List Frame} {meth : Method} {c : Code} {nW : Nat} {dC : Nat → ClassId} {dI : Nat → Nat → Nat} {k : Nat → ClassId} {g : Nat → Nat} {A : Nat → Prop} {J : Nat → List qV → List qV → qW → Prop} {Q : qR} (X : q_X p R s m args meth c cX1_hatInches 5 nW 1 23 RX1 (some .int) dC dI k g A) (hJ : ∀ d : Nat, q_Sd p l e R s m args below meth c 5 nW dC dI k g A (MQ below (q_post (dC, dI) k g nW Q A) args s 0 0 A) d (x_cut (is_X1_hatInches d) (J d))) : q_Sd p l e R s m args below meth c 5 nW dC dI k g A (MQ below (q_post (dC, dI) k g nW Q A) args s 0 0 A) 12 (b_X1_hatInches_12 J Q) := by
  unfold b_X1_hatInches_12
  refine s_iload X dX1_hatInches_12 ?_
  refine s_aload_n X rfl dX1_hatInches_14 ?_
  refine s_get X (T := TX0) (C := RX0) (N := 12) tu_X0 rfl (by decide) tw_192 dX1_hatInches_15 ?_
  refine s_icmp_ge X (tgt := 53) dX1_hatInches_18 (by decide) ?_ ?_
  · exact s_X1_hatInches_53 X hJ
  · refine s_iload_n X rfl dX1_hatInches_21 ?_
    refine s_iconst X ⟨by decide, by decide⟩ dX1_hatInches_22 ?_
    refine s_iadd X dX1_hatInches_23 ?_
    refine s_aload_n X rfl dX1_hatInches_24 ?_
    refine s_get X (T := TX1) (C := RX1) (N := 3) tu_X1 rfl (by decide) tw_323 dX1_hatInches_25 ?_
    refine s_iload X dX1_hatInches_28 ?_
    refine s_iald X dX1_hatInches_30 ?_
    refine s_max X tw_703 tw_531 tw_135 tw_532 ⟨by decide, by decide⟩ dX1_hatInches_31 ?_
    refine s_istore_n X rfl (by decide) dX1_hatInches_34 ?_
    refine s_iload_n X rfl dX1_hatInches_35 ?_
    refine s_iload_n X rfl dX1_hatInches_36 ?_
    refine s_aload_n X rfl dX1_hatInches_37 ?_
    refine s_get X (T := TX1) (C := RX1) (N := 3) tu_X1 rfl (by decide) tw_323 dX1_hatInches_38 ?_
    refine s_iload X dX1_hatInches_41 ?_
    refine s_iald X dX1_hatInches_43 ?_
    refine s_isub X dX1_hatInches_44 ?_
    refine s_iadd X dX1_hatInches_45 ?_
    refine s_istore_n X rfl (by decide) dX1_hatInches_46 ?_
    refine s_iinc X (by decide) dX1_hatInches_47 ?_
    refine s_goto X (tgt := 12) dX1_hatInches_50 (by decide) ?_
    exact hJ 12
set_option maxRecDepth 100000 in
def b_X1_hatInches_0 (J : Nat → List qV → List qV → qW → Prop) (Q : qR) : qK := x_aload 0 (x_aload 1 (x_call (some 1) 2 sp_X1_lineUp (x_nw (x_int 0 (x_istore 2 (x_int 0 (x_istore 3 (x_int 0 (x_istore 4 (x_cut [0, 1, 2, 3, 4] (J 12)))))))))))
set_option maxRecDepth 100000 in
theorem s_X1_hatInches_0 {p : Program} {l : Launch} {e : Env} {R : Room} {s : State} {m : MethodId} {args : Array Value} {below : List Frame} {meth : Method} {c : Code} {nW : Nat} {dC : Nat → ClassId} {dI : Nat → Nat → Nat} {k : Nat → ClassId} {g : Nat → Nat} {A : Nat → Prop} {J : Nat → List qV → List qV → qW → Prop} {Q : qR} (X : q_X p R s m args meth c cX1_hatInches 5 nW 1 23 RX1 (some .int) dC dI k g A) (hJ : ∀ d : Nat, q_Sd p l e R s m args below meth c 5 nW dC dI k g A (MQ below (q_post (dC, dI) k g nW Q A) args s 0 0 A) d (x_cut (is_X1_hatInches d) (J d))) : q_Sd p l e R s m args below meth c 5 nW dC dI k g A (MQ below (q_post (dC, dI) k g nW Q A) args s 0 0 A) 0 (b_X1_hatInches_0 J Q) := by
  unfold b_X1_hatInches_0
  refine s_aload_n X rfl dX1_hatInches_0 ?_
  refine s_aload_n X rfl dX1_hatInches_1 ?_
  refine s_callV X (m_X1_lineUp l) tw_708 tw_709 tw_1491 tw_133 tw_710 rfl (by decide +kernel) ⟨by decide, by decide⟩ dX1_hatInches_2 ?_
  refine s_nw ?_
  refine s_iconst X ⟨by decide, by decide⟩ dX1_hatInches_5 ?_
  refine s_istore_n X rfl (by decide) dX1_hatInches_6 ?_
  refine s_iconst X ⟨by decide, by decide⟩ dX1_hatInches_7 ?_
  refine s_istore_n X rfl (by decide) dX1_hatInches_8 ?_
  refine s_iconst X ⟨by decide, by decide⟩ dX1_hatInches_9 ?_
  refine s_istore X (by decide) dX1_hatInches_10 ?_
  exact hJ 12

def sp_X1_hatInches : qS := fun av w Q => ∃ (c1 : Nat → Int) (c2 : Nat → Int) (c3 : Nat → Int) (f1 : Nat → Int) (f2 : Nat → Int) (f3 : Nat → Int) (f4 : Nat → Int) (f5 : Nat → Int) (f6 : Nat → Int) (f7 : Nat → Int) (u0 : Int) (u1 : Int) (u2 : Int) (u3 : Int) (u4 : Int), av = [q2 0, q2 4] ∧ w = (wCo 0 c1 c2 c3 ++ wBo 4 f1 f2 f3 f4 f5 f6 f7 u0 u1 u2 u3 u4) ∧ (0 ≤ u0 ∧ u0 ≤ 8) ∧ (∀ (r : Int) (x1 : Nat → Int), Q (some (q1 r)) ((wCo 0 x1 c2 c3 ++ wBo 4 f1 f2 f3 f4 f5 f6 f7 u0 u1 u2 u3 u4)))
def I_X1_hatInches (c1 : Nat → Int) (c2 : Nat → Int) (c3 : Nat → Int) (f1 : Nat → Int) (f2 : Nat → Int) (f3 : Nat → Int) (f4 : Nat → Int) (f5 : Nat → Int) (f6 : Nat → Int) (f7 : Nat → Int) (u0 : Int) (u1 : Int) (u2 : Int) (u3 : Int) (u4 : Int) : Nat → Nat → List qV → List qV → qW → Prop := fun dz mz vz sz wz => if dz = 12 then (∃ (y1 : Nat → Int) (v2 : Int) (v3 : Int) (v4 : Int), vz = [q2 0, q2 4, q1 v2, q1 v3, q1 v4] ∧ sz = [] ∧ wz = (wCo 0 y1 c2 c3 ++ wBo 4 f1 f2 f3 f4 f5 f6 f7 u0 u1 u2 u3 u4) ∧ mz = (u0 - v4).toNat ∧ (0 ≤ v4 ∧ v4 ≤ u0)) else False
set_option maxHeartbeats 4000000 in
set_option maxRecDepth 100000 in
theorem m_X1_hatInches (l : Launch) : q_M l yX1_hatInches cX1_hatInches 5 (some .int) 1 23 sp_X1_hatInches := by
  refine q_meth (by decide) (fun av w Q h => by obtain ⟨c1, c2, c3, f1, f2, f3, f4, f5, f6, f7, u0, u1, u2, u3, u4, rfl, rfl, hu0, hQ⟩ := h; exact Nat.le_of_ble_eq_true rfl) ?_
  intro p e R s m args below meth c dC dI k g A av w Q hsp oka okw X
  obtain ⟨c1, c2, c3, f1, f2, f3, f4, f5, f6, f7, u0, u1, u2, u3, u4, rfl, rfl, hu0, hQ⟩ := hsp
  refine s_mono (s_X1_hatInches_0 X (J := fun dz vz sz wz => ∃ mz, I_X1_hatInches c1 c2 c3 f1 f2 f3 f4 f5 f6 f7 u0 u1 u2 u3 u4 dz mz vz sz wz) (q_loopn (I_X1_hatInches c1 c2 c3 f1 f2 f3 f4 f5 f6 f7 u0 u1 u2 u3 u4) (fun dz J => if dz = 12 then b_X1_hatInches_12 J Q else q_F) ?hs ?hv)) ?_
  case hs =>
    intro d J hJ
    by_cases h12 : d = 12
    · subst h12; exact s_X1_hatInches_12 X hJ
    simp only [h12, if_false]
    exact s_F
  case hv =>
    intro dz mz vz sz wz hI okv oks okw hlen
    by_cases h12 : dz = 12
    · subst h12
      obtain ⟨y1, v2, v3, v4, rfl, rfl, rfl, hn, hp⟩ := hI
      apply And.intro
      · intro h18
        exact hQ _ _
      · intro h18
        intro z23 h23
        first | replace h23 := e_add h23 (by omega) | replace h23 := e_rng h23
        apply And.intro
        · exact ⟨by omega, by omega⟩
        intro z30 h30
        intro z31 h31
        apply And.intro
        · exact ⟨by omega, by omega⟩
        intro z43 h43
        intro z44 h44
        first | replace h44 := e_sub h44 (by omega) | replace h44 := e_rng h44
        intro z45 h45
        first | replace h45 := e_add h45 (by omega) | replace h45 := e_rng h45
        intro z47 h47
        first | replace h47 := e_add h47 (by omega) | replace h47 := e_rng h47
        exact ⟨_, ⟨_, _, _, _, rfl, rfl, rfl, rfl, (by first | omega | assumption | exact q_rg_up (by assumption) (by omega) | exact q_rg_up (q_rg_up (by assumption) (by omega)) (by omega) | exact q_rg_cpy (by assumption) (by assumption))⟩, by omega⟩
    simp only [I_X1_hatInches, h12, if_false] at hI
  rintro lv st w' ⟨rfl, rfl, rfl⟩
  refine Exists.intro [0, 1, 2, 3, 4, 5, 6, 7, 8, 9, 10, 11] (Exists.intro [q2 0, q2 4] (Exists.intro ((wCo 0 _ _ _ ++ wBo 4 _ _ _ _ _ _ _ _ _ _ _ _)) (And.intro rfl (And.intro rfl (And.intro rfl (And.intro ⟨⟨_, rfl⟩, rfl⟩ ?_))))))
  refine Exists.intro _ (Exists.intro _ (Exists.intro _ (Exists.intro _ (Exists.intro _ (Exists.intro _ (Exists.intro _ (Exists.intro _ (Exists.intro _ (Exists.intro _ (Exists.intro _ (Exists.intro _ (Exists.intro _ (Exists.intro _ (Exists.intro _ (And.intro rfl (And.intro rfl (And.intro (by first | omega | assumption | exact q_rg_up (by assumption) (by omega) | exact q_rg_up (q_rg_up (by assumption) (by omega)) (by omega) | exact q_rg_cpy (by assumption) (by assumption)) (?_))))))))))))))))))
  intro x1_2
  exact ⟨_, _, _, _, _, rfl, rfl, rfl, rfl, (by first | omega | assumption | exact q_rg_up (by assumption) (by omega) | exact q_rg_up (q_rg_up (by assumption) (by omega)) (by omega) | exact q_rg_cpy (by assumption) (by assumption))⟩

theorem dX1_highestHat_0 : decode cX1_highestHat 0 = .ok (.aload_n 0, 1) := by decide +kernel
theorem dX1_highestHat_1 : decode cX1_highestHat 1 = .ok (.aload_n 1, 1) := by decide +kernel
theorem dX1_highestHat_2 : decode cX1_highestHat 2 = .ok (.invokevirtual 31, 3) := by decide +kernel
theorem dX1_highestHat_5 : decode cX1_highestHat 5 = .ok (.iconst 0, 1) := by decide +kernel
theorem dX1_highestHat_6 : decode cX1_highestHat 6 = .ok (.istore_n 2, 1) := by decide +kernel
theorem dX1_highestHat_7 : decode cX1_highestHat 7 = .ok (.iconst 0, 1) := by decide +kernel
theorem dX1_highestHat_8 : decode cX1_highestHat 8 = .ok (.istore_n 3, 1) := by decide +kernel
theorem dX1_highestHat_9 : decode cX1_highestHat 9 = .ok (.iload_n 3, 1) := by decide +kernel
theorem dX1_highestHat_10 : decode cX1_highestHat 10 = .ok (.aload_n 1, 1) := by decide +kernel
theorem dX1_highestHat_11 : decode cX1_highestHat 11 = .ok (.getfield 22, 3) := by decide +kernel
theorem dX1_highestHat_14 : decode cX1_highestHat 14 = .ok (.if_icmp .ge 22, 3) := by decide +kernel
theorem dX1_highestHat_17 : decode cX1_highestHat 17 = .ok (.iload_n 2, 1) := by decide +kernel
theorem dX1_highestHat_18 : decode cX1_highestHat 18 = .ok (.iconst 1, 1) := by decide +kernel
theorem dX1_highestHat_19 : decode cX1_highestHat 19 = .ok (.iadd, 1) := by decide +kernel
theorem dX1_highestHat_20 : decode cX1_highestHat 20 = .ok (.aload_n 0, 1) := by decide +kernel
theorem dX1_highestHat_21 : decode cX1_highestHat 21 = .ok (.getfield 9, 3) := by decide +kernel
theorem dX1_highestHat_24 : decode cX1_highestHat 24 = .ok (.iload_n 3, 1) := by decide +kernel
theorem dX1_highestHat_25 : decode cX1_highestHat 25 = .ok (.iaload, 1) := by decide +kernel
theorem dX1_highestHat_26 : decode cX1_highestHat 26 = .ok (.invokestatic 45, 3) := by decide +kernel
theorem dX1_highestHat_29 : decode cX1_highestHat 29 = .ok (.istore_n 2, 1) := by decide +kernel
theorem dX1_highestHat_30 : decode cX1_highestHat 30 = .ok (.iinc 3 1, 3) := by decide +kernel
theorem dX1_highestHat_33 : decode cX1_highestHat 33 = .ok (.goto (-24), 3) := by decide +kernel
theorem dX1_highestHat_36 : decode cX1_highestHat 36 = .ok (.iload_n 2, 1) := by decide +kernel
theorem dX1_highestHat_37 : decode cX1_highestHat 37 = .ok (.ireturn, 1) := by decide +kernel
def is_X1_highestHat : Nat → List Nat := fun d => if d = 9 then [0, 1, 2, 3] else []
set_option maxRecDepth 100000 in
def b_X1_highestHat_9 (J : Nat → List qV → List qV → qW → Prop) (Q : qR) : qK := x_iload 3 (x_aload 1 (x_get 0 7 (x_icmp_ge (x_iload 2 (x_iret Q)) (x_iload 2 (x_int 1 (x_iadd (x_aload 0 (x_get 1 0 (x_iload 3 (x_iald (x_max (x_istore 2 (x_iinc 3 1 (x_cut [0, 1, 2, 3] (J 9)))))))))))))))
set_option maxRecDepth 100000 in
theorem s_X1_highestHat_9 {p : Program} {l : Launch} {e : Env} {R : Room} {s : State} {m : MethodId} {args : Array Value} {below : List Frame} {meth : Method} {c : Code} {nW : Nat} {dC : Nat → ClassId} {dI : Nat → Nat → Nat} {k : Nat → ClassId} {g : Nat → Nat} {A : Nat → Prop} {J : Nat → List qV → List qV → qW → Prop} {Q : qR} (X : q_X p R s m args meth c cX1_highestHat 4 nW 1 23 RX1 (some .int) dC dI k g A) (hJ : ∀ d : Nat, q_Sd p l e R s m args below meth c 4 nW dC dI k g A (MQ below (q_post (dC, dI) k g nW Q A) args s 0 0 A) d (x_cut (is_X1_highestHat d) (J d))) : q_Sd p l e R s m args below meth c 4 nW dC dI k g A (MQ below (q_post (dC, dI) k g nW Q A) args s 0 0 A) 9 (b_X1_highestHat_9 J Q) := by
  unfold b_X1_highestHat_9
  refine s_iload_n X rfl dX1_highestHat_9 ?_
  refine s_aload_n X rfl dX1_highestHat_10 ?_
  refine s_get X (T := TX0) (C := RX0) (N := 12) tu_X0 rfl (by decide) tw_192 dX1_highestHat_11 ?_
  refine s_icmp_ge X (tgt := 36) dX1_highestHat_14 (by decide) ?_ ?_
  · refine s_iload_n X rfl dX1_highestHat_36 ?_
    exact s_iret X dX1_highestHat_37
  · refine s_iload_n X rfl dX1_highestHat_17 ?_
    refine s_iconst X ⟨by decide, by decide⟩ dX1_highestHat_18 ?_
    refine s_iadd X dX1_highestHat_19 ?_
    refine s_aload_n X rfl dX1_highestHat_20 ?_
    refine s_get X (T := TX1) (C := RX1) (N := 3) tu_X1 rfl (by decide) tw_323 dX1_highestHat_21 ?_
    refine s_iload_n X rfl dX1_highestHat_24 ?_
    refine s_iald X dX1_highestHat_25 ?_
    refine s_max X tw_703 tw_531 tw_135 tw_532 ⟨by decide, by decide⟩ dX1_highestHat_26 ?_
    refine s_istore_n X rfl (by decide) dX1_highestHat_29 ?_
    refine s_iinc X (by decide) dX1_highestHat_30 ?_
    refine s_goto X (tgt := 9) dX1_highestHat_33 (by decide) ?_
    exact hJ 9
set_option maxRecDepth 100000 in
def b_X1_highestHat_0 (J : Nat → List qV → List qV → qW → Prop) (Q : qR) : qK := x_aload 0 (x_aload 1 (x_call (some 1) 2 sp_X1_lineUp (x_nw (x_int 0 (x_istore 2 (x_int 0 (x_istore 3 (x_cut [0, 1, 2, 3] (J 9)))))))))
set_option maxRecDepth 100000 in
theorem s_X1_highestHat_0 {p : Program} {l : Launch} {e : Env} {R : Room} {s : State} {m : MethodId} {args : Array Value} {below : List Frame} {meth : Method} {c : Code} {nW : Nat} {dC : Nat → ClassId} {dI : Nat → Nat → Nat} {k : Nat → ClassId} {g : Nat → Nat} {A : Nat → Prop} {J : Nat → List qV → List qV → qW → Prop} {Q : qR} (X : q_X p R s m args meth c cX1_highestHat 4 nW 1 23 RX1 (some .int) dC dI k g A) (hJ : ∀ d : Nat, q_Sd p l e R s m args below meth c 4 nW dC dI k g A (MQ below (q_post (dC, dI) k g nW Q A) args s 0 0 A) d (x_cut (is_X1_highestHat d) (J d))) : q_Sd p l e R s m args below meth c 4 nW dC dI k g A (MQ below (q_post (dC, dI) k g nW Q A) args s 0 0 A) 0 (b_X1_highestHat_0 J Q) := by
  unfold b_X1_highestHat_0
  refine s_aload_n X rfl dX1_highestHat_0 ?_
  refine s_aload_n X rfl dX1_highestHat_1 ?_
  refine s_callV X (m_X1_lineUp l) tw_708 tw_709 tw_1491 tw_133 tw_710 rfl (by decide +kernel) ⟨by decide, by decide⟩ dX1_highestHat_2 ?_
  refine s_nw ?_
  refine s_iconst X ⟨by decide, by decide⟩ dX1_highestHat_5 ?_
  refine s_istore_n X rfl (by decide) dX1_highestHat_6 ?_
  refine s_iconst X ⟨by decide, by decide⟩ dX1_highestHat_7 ?_
  refine s_istore_n X rfl (by decide) dX1_highestHat_8 ?_
  exact hJ 9

def sp_X1_highestHat : qS := fun av w Q => ∃ (c1 : Nat → Int) (c2 : Nat → Int) (c3 : Nat → Int) (f1 : Nat → Int) (f2 : Nat → Int) (f3 : Nat → Int) (f4 : Nat → Int) (f5 : Nat → Int) (f6 : Nat → Int) (f7 : Nat → Int) (u0 : Int) (u1 : Int) (u2 : Int) (u3 : Int) (u4 : Int), av = [q2 0, q2 4] ∧ w = (wCo 0 c1 c2 c3 ++ wBo 4 f1 f2 f3 f4 f5 f6 f7 u0 u1 u2 u3 u4) ∧ (0 ≤ u0 ∧ u0 ≤ 8) ∧ (∀ (r : Int) (x1 : Nat → Int), Q (some (q1 r)) ((wCo 0 x1 c2 c3 ++ wBo 4 f1 f2 f3 f4 f5 f6 f7 u0 u1 u2 u3 u4)))
def I_X1_highestHat (c1 : Nat → Int) (c2 : Nat → Int) (c3 : Nat → Int) (f1 : Nat → Int) (f2 : Nat → Int) (f3 : Nat → Int) (f4 : Nat → Int) (f5 : Nat → Int) (f6 : Nat → Int) (f7 : Nat → Int) (u0 : Int) (u1 : Int) (u2 : Int) (u3 : Int) (u4 : Int) : Nat → Nat → List qV → List qV → qW → Prop := fun dz mz vz sz wz => if dz = 9 then (∃ (y1 : Nat → Int) (v2 : Int) (v3 : Int), vz = [q2 0, q2 4, q1 v2, q1 v3] ∧ sz = [] ∧ wz = (wCo 0 y1 c2 c3 ++ wBo 4 f1 f2 f3 f4 f5 f6 f7 u0 u1 u2 u3 u4) ∧ mz = (u0 - v3).toNat ∧ (0 ≤ v3 ∧ v3 ≤ u0)) else False
set_option maxHeartbeats 4000000 in
set_option maxRecDepth 100000 in
theorem m_X1_highestHat (l : Launch) : q_M l yX1_highestHat cX1_highestHat 4 (some .int) 1 23 sp_X1_highestHat := by
  refine q_meth (by decide) (fun av w Q h => by obtain ⟨c1, c2, c3, f1, f2, f3, f4, f5, f6, f7, u0, u1, u2, u3, u4, rfl, rfl, hu0, hQ⟩ := h; exact Nat.le_of_ble_eq_true rfl) ?_
  intro p e R s m args below meth c dC dI k g A av w Q hsp oka okw X
  obtain ⟨c1, c2, c3, f1, f2, f3, f4, f5, f6, f7, u0, u1, u2, u3, u4, rfl, rfl, hu0, hQ⟩ := hsp
  refine s_mono (s_X1_highestHat_0 X (J := fun dz vz sz wz => ∃ mz, I_X1_highestHat c1 c2 c3 f1 f2 f3 f4 f5 f6 f7 u0 u1 u2 u3 u4 dz mz vz sz wz) (q_loopn (I_X1_highestHat c1 c2 c3 f1 f2 f3 f4 f5 f6 f7 u0 u1 u2 u3 u4) (fun dz J => if dz = 9 then b_X1_highestHat_9 J Q else q_F) ?hs ?hv)) ?_
  case hs =>
    intro d J hJ
    by_cases h9 : d = 9
    · subst h9; exact s_X1_highestHat_9 X hJ
    simp only [h9, if_false]
    exact s_F
  case hv =>
    intro dz mz vz sz wz hI okv oks okw hlen
    by_cases h9 : dz = 9
    · subst h9
      obtain ⟨y1, v2, v3, rfl, rfl, rfl, hn, hp⟩ := hI
      apply And.intro
      · intro h14
        exact hQ _ _
      · intro h14
        intro z19 h19
        first | replace h19 := e_add h19 (by omega) | replace h19 := e_rng h19
        apply And.intro
        · exact ⟨by omega, by omega⟩
        intro z25 h25
        intro z26 h26
        intro z30 h30
        first | replace h30 := e_add h30 (by omega) | replace h30 := e_rng h30
        exact ⟨_, ⟨_, _, _, rfl, rfl, rfl, rfl, (by first | omega | assumption | exact q_rg_up (by assumption) (by omega) | exact q_rg_up (q_rg_up (by assumption) (by omega)) (by omega) | exact q_rg_cpy (by assumption) (by assumption))⟩, by omega⟩
    simp only [I_X1_highestHat, h9, if_false] at hI
  rintro lv st w' ⟨rfl, rfl, rfl⟩
  refine Exists.intro [0, 1, 2, 3, 4, 5, 6, 7, 8, 9, 10, 11] (Exists.intro [q2 0, q2 4] (Exists.intro ((wCo 0 _ _ _ ++ wBo 4 _ _ _ _ _ _ _ _ _ _ _ _)) (And.intro rfl (And.intro rfl (And.intro rfl (And.intro ⟨⟨_, rfl⟩, rfl⟩ ?_))))))
  refine Exists.intro _ (Exists.intro _ (Exists.intro _ (Exists.intro _ (Exists.intro _ (Exists.intro _ (Exists.intro _ (Exists.intro _ (Exists.intro _ (Exists.intro _ (Exists.intro _ (Exists.intro _ (Exists.intro _ (Exists.intro _ (Exists.intro _ (And.intro rfl (And.intro rfl (And.intro (by first | omega | assumption | exact q_rg_up (by assumption) (by omega) | exact q_rg_up (q_rg_up (by assumption) (by omega)) (by omega) | exact q_rg_cpy (by assumption) (by assumption)) (?_))))))))))))))))))
  intro x1_2
  exact ⟨_, _, _, _, rfl, rfl, rfl, rfl, (by first | omega | assumption | exact q_rg_up (by assumption) (by omega) | exact q_rg_up (q_rg_up (by assumption) (by omega)) (by omega) | exact q_rg_cpy (by assumption) (by assumption))⟩

theorem dX1_likeOnes_0 : decode cX1_likeOnes 0 = .ok (.iconst 1, 1) := by decide +kernel
theorem dX1_likeOnes_1 : decode cX1_likeOnes 1 = .ok (.istore_n 2, 1) := by decide +kernel
theorem dX1_likeOnes_2 : decode cX1_likeOnes 2 = .ok (.iload_n 2, 1) := by decide +kernel
theorem dX1_likeOnes_3 : decode cX1_likeOnes 3 = .ok (.iload_n 1, 1) := by decide +kernel
theorem dX1_likeOnes_4 : decode cX1_likeOnes 4 = .ok (.if_icmp .gt 26, 3) := by decide +kernel
theorem dX1_likeOnes_7 : decode cX1_likeOnes 7 = .ok (.aload_n 0, 1) := by decide +kernel
theorem dX1_likeOnes_8 : decode cX1_likeOnes 8 = .ok (.getfield 9, 3) := by decide +kernel
theorem dX1_likeOnes_11 : decode cX1_likeOnes 11 = .ok (.iload_n 1, 1) := by decide +kernel
theorem dX1_likeOnes_12 : decode cX1_likeOnes 12 = .ok (.iload_n 2, 1) := by decide +kernel
theorem dX1_likeOnes_13 : decode cX1_likeOnes 13 = .ok (.isub, 1) := by decide +kernel
theorem dX1_likeOnes_14 : decode cX1_likeOnes 14 = .ok (.iaload, 1) := by decide +kernel
theorem dX1_likeOnes_15 : decode cX1_likeOnes 15 = .ok (.aload_n 0, 1) := by decide +kernel
theorem dX1_likeOnes_16 : decode cX1_likeOnes 16 = .ok (.getfield 9, 3) := by decide +kernel
theorem dX1_likeOnes_19 : decode cX1_likeOnes 19 = .ok (.iload_n 1, 1) := by decide +kernel
theorem dX1_likeOnes_20 : decode cX1_likeOnes 20 = .ok (.iaload, 1) := by decide +kernel
theorem dX1_likeOnes_21 : decode cX1_likeOnes 21 = .ok (.if_icmp .ne 9, 3) := by decide +kernel
theorem dX1_likeOnes_24 : decode cX1_likeOnes 24 = .ok (.iinc 2 1, 3) := by decide +kernel
theorem dX1_likeOnes_27 : decode cX1_likeOnes 27 = .ok (.goto (-25), 3) := by decide +kernel
theorem dX1_likeOnes_30 : decode cX1_likeOnes 30 = .ok (.iload_n 2, 1) := by decide +kernel
theorem dX1_likeOnes_31 : decode cX1_likeOnes 31 = .ok (.ireturn, 1) := by decide +kernel
def is_X1_likeOnes : Nat → List Nat := fun d => if d = 2 then [0, 1, 2] else []
set_option maxRecDepth 100000 in
def b_X1_likeOnes_30 (J : Nat → List qV → List qV → qW → Prop) (Q : qR) : qK := x_iload 2 (x_iret Q)
set_option maxRecDepth 100000 in
theorem s_X1_likeOnes_30 {p : Program} {l : Launch} {e : Env} {R : Room} {s : State} {m : MethodId} {args : Array Value} {below : List Frame} {meth : Method} {c : Code} {nW : Nat} {dC : Nat → ClassId} {dI : Nat → Nat → Nat} {k : Nat → ClassId} {g : Nat → Nat} {A : Nat → Prop} {J : Nat → List qV → List qV → qW → Prop} {Q : qR} (X : q_X p R s m args meth c cX1_likeOnes 3 nW 0 0 RX1 (some .int) dC dI k g A) (hJ : ∀ d : Nat, q_Sd p l e R s m args below meth c 3 nW dC dI k g A (MQ below (q_post (dC, dI) k g nW Q A) args s 0 0 A) d (x_cut (is_X1_likeOnes d) (J d))) : q_Sd p l e R s m args below meth c 3 nW dC dI k g A (MQ below (q_post (dC, dI) k g nW Q A) args s 0 0 A) 30 (b_X1_likeOnes_30 J Q) := by
  unfold b_X1_likeOnes_30
  refine s_iload_n X rfl dX1_likeOnes_30 ?_
  exact s_iret X dX1_likeOnes_31
set_option maxRecDepth 100000 in
def b_X1_likeOnes_2 (J : Nat → List qV → List qV → qW → Prop) (Q : qR) : qK := x_iload 2 (x_iload 1 (x_icmp_gt (b_X1_likeOnes_30 J Q) (x_aload 0 (x_get 1 0 (x_iload 1 (x_iload 2 (x_isub (x_iald (x_aload 0 (x_get 1 0 (x_iload 1 (x_iald (x_icmp_ne (b_X1_likeOnes_30 J Q) (x_iinc 2 1 (x_cut [0, 1, 2] (J 2))))))))))))))))
set_option maxRecDepth 100000 in
theorem s_X1_likeOnes_2 {p : Program} {l : Launch} {e : Env} {R : Room} {s : State} {m : MethodId} {args : Array Value} {below : List Frame} {meth : Method} {c : Code} {nW : Nat} {dC : Nat → ClassId} {dI : Nat → Nat → Nat} {k : Nat → ClassId} {g : Nat → Nat} {A : Nat → Prop} {J : Nat → List qV → List qV → qW → Prop} {Q : qR} (X : q_X p R s m args meth c cX1_likeOnes 3 nW 0 0 RX1 (some .int) dC dI k g A) (hJ : ∀ d : Nat, q_Sd p l e R s m args below meth c 3 nW dC dI k g A (MQ below (q_post (dC, dI) k g nW Q A) args s 0 0 A) d (x_cut (is_X1_likeOnes d) (J d))) : q_Sd p l e R s m args below meth c 3 nW dC dI k g A (MQ below (q_post (dC, dI) k g nW Q A) args s 0 0 A) 2 (b_X1_likeOnes_2 J Q) := by
  unfold b_X1_likeOnes_2
  refine s_iload_n X rfl dX1_likeOnes_2 ?_
  refine s_iload_n X rfl dX1_likeOnes_3 ?_
  refine s_icmp_gt X (tgt := 30) dX1_likeOnes_4 (by decide) ?_ ?_
  · exact s_X1_likeOnes_30 X hJ
  · refine s_aload_n X rfl dX1_likeOnes_7 ?_
    refine s_get X (T := TX1) (C := RX1) (N := 3) tu_X1 rfl (by decide) tw_323 dX1_likeOnes_8 ?_
    refine s_iload_n X rfl dX1_likeOnes_11 ?_
    refine s_iload_n X rfl dX1_likeOnes_12 ?_
    refine s_isub X dX1_likeOnes_13 ?_
    refine s_iald X dX1_likeOnes_14 ?_
    refine s_aload_n X rfl dX1_likeOnes_15 ?_
    refine s_get X (T := TX1) (C := RX1) (N := 3) tu_X1 rfl (by decide) tw_323 dX1_likeOnes_16 ?_
    refine s_iload_n X rfl dX1_likeOnes_19 ?_
    refine s_iald X dX1_likeOnes_20 ?_
    refine s_icmp_ne X (tgt := 30) dX1_likeOnes_21 (by decide) ?_ ?_
    · exact s_X1_likeOnes_30 X hJ
    · refine s_iinc X (by decide) dX1_likeOnes_24 ?_
      refine s_goto X (tgt := 2) dX1_likeOnes_27 (by decide) ?_
      exact hJ 2
set_option maxRecDepth 100000 in
def b_X1_likeOnes_0 (J : Nat → List qV → List qV → qW → Prop) (Q : qR) : qK := x_int 1 (x_istore 2 (x_cut [0, 1, 2] (J 2)))
set_option maxRecDepth 100000 in
theorem s_X1_likeOnes_0 {p : Program} {l : Launch} {e : Env} {R : Room} {s : State} {m : MethodId} {args : Array Value} {below : List Frame} {meth : Method} {c : Code} {nW : Nat} {dC : Nat → ClassId} {dI : Nat → Nat → Nat} {k : Nat → ClassId} {g : Nat → Nat} {A : Nat → Prop} {J : Nat → List qV → List qV → qW → Prop} {Q : qR} (X : q_X p R s m args meth c cX1_likeOnes 3 nW 0 0 RX1 (some .int) dC dI k g A) (hJ : ∀ d : Nat, q_Sd p l e R s m args below meth c 3 nW dC dI k g A (MQ below (q_post (dC, dI) k g nW Q A) args s 0 0 A) d (x_cut (is_X1_likeOnes d) (J d))) : q_Sd p l e R s m args below meth c 3 nW dC dI k g A (MQ below (q_post (dC, dI) k g nW Q A) args s 0 0 A) 0 (b_X1_likeOnes_0 J Q) := by
  unfold b_X1_likeOnes_0
  refine s_iconst X ⟨by decide, by decide⟩ dX1_likeOnes_0 ?_
  refine s_istore_n X rfl (by decide) dX1_likeOnes_1 ?_
  exact hJ 2

def spr_X1_likeOnes : List qV → qW → (Option qV → Prop) → Prop := fun av w Q => ∃ (c1 : Nat → Int) (c2 : Nat → Int) (c3 : Nat → Int) (a : Int), av = [q2 0, q1 a] ∧ w = (wCo 0 c1 c2 c3) ∧ (0 ≤ a ∧ a ≤ 7) ∧ (∀ (r : Int) , 1 ≤ r ∧ r ≤ a + 1 → Q (some (q1 r)))
def sp_X1_likeOnes : qS := fun av w Q => spr_X1_likeOnes av w (fun r => Q r w)
def I_X1_likeOnes (c1 : Nat → Int) (c2 : Nat → Int) (c3 : Nat → Int) (a : Int) : Nat → Nat → List qV → List qV → qW → Prop := fun dz mz vz sz wz => if dz = 2 then (∃ (v2 : Int), vz = [q2 0, q1 a, q1 v2] ∧ sz = [] ∧ wz = (wCo 0 c1 c2 c3) ∧ mz = (a + 1 - v2).toNat ∧ (1 ≤ v2 ∧ v2 ≤ a + 1)) else False
set_option maxHeartbeats 4000000 in
set_option maxRecDepth 100000 in
theorem m_X1_likeOnes (l : Launch) : q_M l yX1_likeOnes cX1_likeOnes 3 (some .int) 0 0 sp_X1_likeOnes := by
  refine q_meth (by decide) (fun av w Q h => by obtain ⟨c1, c2, c3, a, rfl, rfl, ha, hQ⟩ := h; exact Nat.le_of_ble_eq_true rfl) ?_
  intro p e R s m args below meth c dC dI k g A av w Q hsp oka okw X
  obtain ⟨c1, c2, c3, a, rfl, rfl, ha, hQ⟩ := hsp
  have o_a : -2147483648 ≤ a ∧ a ≤ 2147483647 := oka _ (List.mem_of_getElem? (i := 1) rfl)
  refine s_mono (s_X1_likeOnes_0 X (J := fun dz vz sz wz => ∃ mz, I_X1_likeOnes c1 c2 c3 a dz mz vz sz wz) (q_loopn (I_X1_likeOnes c1 c2 c3 a) (fun dz J => if dz = 2 then b_X1_likeOnes_2 J Q else q_F) ?hs ?hv)) ?_
  case hs =>
    intro d J hJ
    by_cases h2 : d = 2
    · subst h2; exact s_X1_likeOnes_2 X hJ
    simp only [h2, if_false]
    exact s_F
  case hv =>
    intro dz mz vz sz wz hI okv oks okw hlen
    by_cases h2 : dz = 2
    · subst h2
      obtain ⟨v2, rfl, rfl, rfl, hn, hp⟩ := hI
      apply And.intro
      · intro h4
        exact hQ _ (by first | omega | assumption | exact q_rg_up (by assumption) (by omega) | exact q_rg_up (q_rg_up (by assumption) (by omega)) (by omega) | exact q_rg_cpy (by assumption) (by assumption))
      · intro h4
        intro z13 h13
        first | replace h13 := e_sub h13 (by omega) | replace h13 := e_rng h13
        apply And.intro
        · exact ⟨by omega, by omega⟩
        intro z14 h14
        apply And.intro
        · exact ⟨by omega, by omega⟩
        intro z20 h20
        apply And.intro
        · intro h21
          exact hQ _ (by first | omega | assumption | exact q_rg_up (by assumption) (by omega) | exact q_rg_up (q_rg_up (by assumption) (by omega)) (by omega) | exact q_rg_cpy (by assumption) (by assumption))
        · intro h21
          intro z24 h24
          first | replace h24 := e_add h24 (by omega) | replace h24 := e_rng h24
          exact ⟨_, ⟨_, rfl, rfl, rfl, rfl, (by first | omega | assumption | exact q_rg_up (by assumption) (by omega) | exact q_rg_up (q_rg_up (by assumption) (by omega)) (by omega) | exact q_rg_cpy (by assumption) (by assumption))⟩, by omega⟩
    simp only [I_X1_likeOnes, h2, if_false] at hI
  rintro lv st w' ⟨rfl, rfl, rfl⟩
  exact ⟨_, _, rfl, rfl, rfl, rfl, (by first | omega | assumption | exact q_rg_up (by assumption) (by omega) | exact q_rg_up (q_rg_up (by assumption) (by omega)) (by omega) | exact q_rg_cpy (by assumption) (by assumption))⟩

theorem dX1_orders_0 : decode cX1_orders 0 = .ok (.aload_n 0, 1) := by decide +kernel
theorem dX1_orders_1 : decode cX1_orders 1 = .ok (.aload_n 1, 1) := by decide +kernel
theorem dX1_orders_2 : decode cX1_orders 2 = .ok (.invokevirtual 31, 3) := by decide +kernel
theorem dX1_orders_5 : decode cX1_orders 5 = .ok (.aload_n 0, 1) := by decide +kernel
theorem dX1_orders_6 : decode cX1_orders 6 = .ok (.getfield 18, 3) := by decide +kernel
theorem dX1_orders_9 : decode cX1_orders 9 = .ok (.lconst 0, 1) := by decide +kernel
theorem dX1_orders_10 : decode cX1_orders 10 = .ok (.invokestatic 48, 3) := by decide +kernel
theorem dX1_orders_13 : decode cX1_orders 13 = .ok (.aload_n 0, 1) := by decide +kernel
theorem dX1_orders_14 : decode cX1_orders 14 = .ok (.getfield 18, 3) := by decide +kernel
theorem dX1_orders_17 : decode cX1_orders 17 = .ok (.iconst 0, 1) := by decide +kernel
theorem dX1_orders_18 : decode cX1_orders 18 = .ok (.lconst 1, 1) := by decide +kernel
theorem dX1_orders_19 : decode cX1_orders 19 = .ok (.lastore, 1) := by decide +kernel
theorem dX1_orders_20 : decode cX1_orders 20 = .ok (.iconst 0, 1) := by decide +kernel
theorem dX1_orders_21 : decode cX1_orders 21 = .ok (.istore_n 3, 1) := by decide +kernel
theorem dX1_orders_22 : decode cX1_orders 22 = .ok (.iconst 0, 1) := by decide +kernel
theorem dX1_orders_23 : decode cX1_orders 23 = .ok (.istore 4, 2) := by decide +kernel
theorem dX1_orders_25 : decode cX1_orders 25 = .ok (.iload 4, 2) := by decide +kernel
theorem dX1_orders_27 : decode cX1_orders 27 = .ok (.bipush 8, 2) := by decide +kernel
theorem dX1_orders_29 : decode cX1_orders 29 = .ok (.if_icmp .ge 121, 3) := by decide +kernel
theorem dX1_orders_32 : decode cX1_orders 32 = .ok (.iload_n 3, 1) := by decide +kernel
theorem dX1_orders_33 : decode cX1_orders 33 = .ok (.aload_n 1, 1) := by decide +kernel
theorem dX1_orders_34 : decode cX1_orders 34 = .ok (.getfield 22, 3) := by decide +kernel
theorem dX1_orders_37 : decode cX1_orders 37 = .ok (.if_icmp .ge 113, 3) := by decide +kernel
theorem dX1_orders_40 : decode cX1_orders 40 = .ok (.aload_n 0, 1) := by decide +kernel
theorem dX1_orders_41 : decode cX1_orders 41 = .ok (.aload_n 1, 1) := by decide +kernel
theorem dX1_orders_42 : decode cX1_orders 42 = .ok (.getfield 22, 3) := by decide +kernel
theorem dX1_orders_45 : decode cX1_orders 45 = .ok (.iload_n 3, 1) := by decide +kernel
theorem dX1_orders_46 : decode cX1_orders 46 = .ok (.isub, 1) := by decide +kernel
theorem dX1_orders_47 : decode cX1_orders 47 = .ok (.iconst 1, 1) := by decide +kernel
theorem dX1_orders_48 : decode cX1_orders 48 = .ok (.isub, 1) := by decide +kernel
theorem dX1_orders_49 : decode cX1_orders 49 = .ok (.invokevirtual 54, 3) := by decide +kernel
theorem dX1_orders_52 : decode cX1_orders 52 = .ok (.istore 5, 2) := by decide +kernel
theorem dX1_orders_54 : decode cX1_orders 54 = .ok (.getstatic 58, 3) := by decide +kernel
theorem dX1_orders_57 : decode cX1_orders 57 = .ok (.iload_n 3, 1) := by decide +kernel
theorem dX1_orders_58 : decode cX1_orders 58 = .ok (.iload 5, 2) := by decide +kernel
theorem dX1_orders_60 : decode cX1_orders 60 = .ok (.iadd, 1) := by decide +kernel
theorem dX1_orders_61 : decode cX1_orders 61 = .ok (.iconst 1, 1) := by decide +kernel
theorem dX1_orders_62 : decode cX1_orders 62 = .ok (.isub, 1) := by decide +kernel
theorem dX1_orders_63 : decode cX1_orders 63 = .ok (.iaload, 1) := by decide +kernel
theorem dX1_orders_64 : decode cX1_orders 64 = .ok (.getstatic 58, 3) := by decide +kernel
theorem dX1_orders_67 : decode cX1_orders 67 = .ok (.iload_n 3, 1) := by decide +kernel
theorem dX1_orders_68 : decode cX1_orders 68 = .ok (.iaload, 1) := by decide +kernel
theorem dX1_orders_69 : decode cX1_orders 69 = .ok (.idiv, 1) := by decide +kernel
theorem dX1_orders_70 : decode cX1_orders 70 = .ok (.istore 6, 2) := by decide +kernel
theorem dX1_orders_72 : decode cX1_orders 72 = .ok (.bipush 8, 2) := by decide +kernel
theorem dX1_orders_74 : decode cX1_orders 74 = .ok (.istore 7, 2) := by decide +kernel
theorem dX1_orders_76 : decode cX1_orders 76 = .ok (.iload 7, 2) := by decide +kernel
theorem dX1_orders_78 : decode cX1_orders 78 = .ok (.ifCond .lt 61, 3) := by decide +kernel
theorem dX1_orders_81 : decode cX1_orders 81 = .ok (.iload 7, 2) := by decide +kernel
theorem dX1_orders_83 : decode cX1_orders 83 = .ok (.ifCond .ne 7, 3) := by decide +kernel
theorem dX1_orders_86 : decode cX1_orders 86 = .ok (.lconst 0, 1) := by decide +kernel
theorem dX1_orders_87 : decode cX1_orders 87 = .ok (.goto 12, 3) := by decide +kernel
theorem dX1_orders_90 : decode cX1_orders 90 = .ok (.aload_n 0, 1) := by decide +kernel
theorem dX1_orders_91 : decode cX1_orders 91 = .ok (.getfield 18, 3) := by decide +kernel
theorem dX1_orders_94 : decode cX1_orders 94 = .ok (.iload 7, 2) := by decide +kernel
theorem dX1_orders_96 : decode cX1_orders 96 = .ok (.iconst 1, 1) := by decide +kernel
theorem dX1_orders_97 : decode cX1_orders 97 = .ok (.isub, 1) := by decide +kernel
theorem dX1_orders_98 : decode cX1_orders 98 = .ok (.laload, 1) := by decide +kernel
theorem dX1_orders_99 : decode cX1_orders 99 = .ok (.lstore 8, 2) := by decide +kernel
theorem dX1_orders_101 : decode cX1_orders 101 = .ok (.aload_n 0, 1) := by decide +kernel
theorem dX1_orders_102 : decode cX1_orders 102 = .ok (.getfield 18, 3) := by decide +kernel
theorem dX1_orders_105 : decode cX1_orders 105 = .ok (.iload 7, 2) := by decide +kernel
theorem dX1_orders_107 : decode cX1_orders 107 = .ok (.lload 8, 2) := by decide +kernel
theorem dX1_orders_109 : decode cX1_orders 109 = .ok (.iload 5, 2) := by decide +kernel
theorem dX1_orders_111 : decode cX1_orders 111 = .ok (.i2l, 1) := by decide +kernel
theorem dX1_orders_112 : decode cX1_orders 112 = .ok (.lmul, 1) := by decide +kernel
theorem dX1_orders_113 : decode cX1_orders 113 = .ok (.iload 6, 2) := by decide +kernel
theorem dX1_orders_115 : decode cX1_orders 115 = .ok (.i2l, 1) := by decide +kernel
theorem dX1_orders_116 : decode cX1_orders 116 = .ok (.lmul, 1) := by decide +kernel
theorem dX1_orders_117 : decode cX1_orders 117 = .ok (.aload_n 0, 1) := by decide +kernel
theorem dX1_orders_118 : decode cX1_orders 118 = .ok (.getfield 18, 3) := by decide +kernel
theorem dX1_orders_121 : decode cX1_orders 121 = .ok (.iload 7, 2) := by decide +kernel
theorem dX1_orders_123 : decode cX1_orders 123 = .ok (.laload, 1) := by decide +kernel
theorem dX1_orders_124 : decode cX1_orders 124 = .ok (.iload_n 3, 1) := by decide +kernel
theorem dX1_orders_125 : decode cX1_orders 125 = .ok (.i2l, 1) := by decide +kernel
theorem dX1_orders_126 : decode cX1_orders 126 = .ok (.lmul, 1) := by decide +kernel
theorem dX1_orders_127 : decode cX1_orders 127 = .ok (.iload 6, 2) := by decide +kernel
theorem dX1_orders_129 : decode cX1_orders 129 = .ok (.i2l, 1) := by decide +kernel
theorem dX1_orders_130 : decode cX1_orders 130 = .ok (.lmul, 1) := by decide +kernel
theorem dX1_orders_131 : decode cX1_orders 131 = .ok (.ladd, 1) := by decide +kernel
theorem dX1_orders_132 : decode cX1_orders 132 = .ok (.lastore, 1) := by decide +kernel
theorem dX1_orders_133 : decode cX1_orders 133 = .ok (.iinc 7 (-1), 3) := by decide +kernel
theorem dX1_orders_136 : decode cX1_orders 136 = .ok (.goto (-60), 3) := by decide +kernel
theorem dX1_orders_139 : decode cX1_orders 139 = .ok (.iload_n 3, 1) := by decide +kernel
theorem dX1_orders_140 : decode cX1_orders 140 = .ok (.iload 5, 2) := by decide +kernel
theorem dX1_orders_142 : decode cX1_orders 142 = .ok (.iadd, 1) := by decide +kernel
theorem dX1_orders_143 : decode cX1_orders 143 = .ok (.istore_n 3, 1) := by decide +kernel
theorem dX1_orders_144 : decode cX1_orders 144 = .ok (.iinc 4 1, 3) := by decide +kernel
theorem dX1_orders_147 : decode cX1_orders 147 = .ok (.goto (-122), 3) := by decide +kernel
theorem dX1_orders_150 : decode cX1_orders 150 = .ok (.iload_n 2, 1) := by decide +kernel
theorem dX1_orders_151 : decode cX1_orders 151 = .ok (.ifCond .lt 9, 3) := by decide +kernel
theorem dX1_orders_154 : decode cX1_orders 154 = .ok (.iload_n 2, 1) := by decide +kernel
theorem dX1_orders_155 : decode cX1_orders 155 = .ok (.bipush 8, 2) := by decide +kernel
theorem dX1_orders_157 : decode cX1_orders 157 = .ok (.if_icmp .le 7, 3) := by decide +kernel
theorem dX1_orders_160 : decode cX1_orders 160 = .ok (.lconst 0, 1) := by decide +kernel
theorem dX1_orders_161 : decode cX1_orders 161 = .ok (.goto 9, 3) := by decide +kernel
theorem dX1_orders_164 : decode cX1_orders 164 = .ok (.aload_n 0, 1) := by decide +kernel
theorem dX1_orders_165 : decode cX1_orders 165 = .ok (.getfield 18, 3) := by decide +kernel
theorem dX1_orders_168 : decode cX1_orders 168 = .ok (.iload_n 2, 1) := by decide +kernel
theorem dX1_orders_169 : decode cX1_orders 169 = .ok (.laload, 1) := by decide +kernel
theorem dX1_orders_170 : decode cX1_orders 170 = .ok (.lreturn, 1) := by decide +kernel
def is_X1_orders : Nat → List Nat := fun d => if d = 25 then [0, 1, 2, 3, 4] else if d = 76 then [0, 1, 2, 3, 4, 5, 6, 7] else []
set_option maxRecDepth 100000 in
def b_X1_orders_170 (J : Nat → List qV → List qV → qW → Prop) (Q : qR) : qK := x_lret Q
set_option maxRecDepth 100000 in
theorem s_X1_orders_170 {p : Program} {l : Launch} {e : Env} {R : Room} {s : State} {m : MethodId} {args : Array Value} {below : List Frame} {meth : Method} {c : Code} {nW : Nat} {dC : Nat → ClassId} {dI : Nat → Nat → Nat} {k : Nat → ClassId} {g : Nat → Nat} {A : Nat → Prop} {J : Nat → List qV → List qV → qW → Prop} {Q : qR} (X : q_X p R s m args meth c cX1_orders 10 nW 1 24 RX1 (some .long) dC dI k g A) (hJ : ∀ d : Nat, q_Sd p l e R s m args below meth c 10 nW dC dI k g A (MQ below (q_post (dC, dI) k g nW Q A) args s 0 0 A) d (x_cut (is_X1_orders d) (J d))) : q_Sd p l e R s m args below meth c 10 nW dC dI k g A (MQ below (q_post (dC, dI) k g nW Q A) args s 0 0 A) 170 (b_X1_orders_170 J Q) := by
  unfold b_X1_orders_170
  exact s_lret X dX1_orders_170
set_option maxRecDepth 100000 in
def b_X1_orders_160 (J : Nat → List qV → List qV → qW → Prop) (Q : qR) : qK := x_lng 0 (b_X1_orders_170 J Q)
set_option maxRecDepth 100000 in
theorem s_X1_orders_160 {p : Program} {l : Launch} {e : Env} {R : Room} {s : State} {m : MethodId} {args : Array Value} {below : List Frame} {meth : Method} {c : Code} {nW : Nat} {dC : Nat → ClassId} {dI : Nat → Nat → Nat} {k : Nat → ClassId} {g : Nat → Nat} {A : Nat → Prop} {J : Nat → List qV → List qV → qW → Prop} {Q : qR} (X : q_X p R s m args meth c cX1_orders 10 nW 1 24 RX1 (some .long) dC dI k g A) (hJ : ∀ d : Nat, q_Sd p l e R s m args below meth c 10 nW dC dI k g A (MQ below (q_post (dC, dI) k g nW Q A) args s 0 0 A) d (x_cut (is_X1_orders d) (J d))) : q_Sd p l e R s m args below meth c 10 nW dC dI k g A (MQ below (q_post (dC, dI) k g nW Q A) args s 0 0 A) 160 (b_X1_orders_160 J Q) := by
  unfold b_X1_orders_160
  refine s_lconst X ⟨by decide, by decide⟩ (by decide) dX1_orders_160 ?_
  refine s_goto X (tgt := 170) dX1_orders_161 (by decide) ?_
  exact s_X1_orders_170 X hJ
set_option maxRecDepth 100000 in
def b_X1_orders_150 (J : Nat → List qV → List qV → qW → Prop) (Q : qR) : qK := x_iload 2 (x_if_lt (b_X1_orders_160 J Q) (x_iload 2 (x_int 8 (x_icmp_le (x_aload 0 (x_get 1 2 (x_iload 2 (x_lald (b_X1_orders_170 J Q))))) (b_X1_orders_160 J Q)))))
set_option maxRecDepth 100000 in
theorem s_X1_orders_150 {p : Program} {l : Launch} {e : Env} {R : Room} {s : State} {m : MethodId} {args : Array Value} {below : List Frame} {meth : Method} {c : Code} {nW : Nat} {dC : Nat → ClassId} {dI : Nat → Nat → Nat} {k : Nat → ClassId} {g : Nat → Nat} {A : Nat → Prop} {J : Nat → List qV → List qV → qW → Prop} {Q : qR} (X : q_X p R s m args meth c cX1_orders 10 nW 1 24 RX1 (some .long) dC dI k g A) (hJ : ∀ d : Nat, q_Sd p l e R s m args below meth c 10 nW dC dI k g A (MQ below (q_post (dC, dI) k g nW Q A) args s 0 0 A) d (x_cut (is_X1_orders d) (J d))) : q_Sd p l e R s m args below meth c 10 nW dC dI k g A (MQ below (q_post (dC, dI) k g nW Q A) args s 0 0 A) 150 (b_X1_orders_150 J Q) := by
  unfold b_X1_orders_150
  refine s_iload_n X rfl dX1_orders_150 ?_
  refine s_if_lt X (tgt := 160) dX1_orders_151 (by decide) ?_ ?_
  · exact s_X1_orders_160 X hJ
  · refine s_iload_n X rfl dX1_orders_154 ?_
    refine s_bipush X ⟨by decide, by decide⟩ (by decide) dX1_orders_155 ?_
    refine s_icmp_le X (tgt := 164) dX1_orders_157 (by decide) ?_ ?_
    · refine s_aload_n X rfl dX1_orders_164 ?_
      refine s_get X (T := TX1) (C := RX1) (N := 3) tu_X1 rfl (by decide) tw_325 dX1_orders_165 ?_
      refine s_iload_n X rfl dX1_orders_168 ?_
      refine s_lald X dX1_orders_169 ?_
      exact s_X1_orders_170 X hJ
    · exact s_X1_orders_160 X hJ
set_option maxRecDepth 100000 in
def b_X1_orders_136 (J : Nat → List qV → List qV → qW → Prop) (Q : qR) : qK := x_cut [0, 1, 2, 3, 4, 5, 6, 7] (J 76)
set_option maxRecDepth 100000 in
theorem s_X1_orders_136 {p : Program} {l : Launch} {e : Env} {R : Room} {s : State} {m : MethodId} {args : Array Value} {below : List Frame} {meth : Method} {c : Code} {nW : Nat} {dC : Nat → ClassId} {dI : Nat → Nat → Nat} {k : Nat → ClassId} {g : Nat → Nat} {A : Nat → Prop} {J : Nat → List qV → List qV → qW → Prop} {Q : qR} (X : q_X p R s m args meth c cX1_orders 10 nW 1 24 RX1 (some .long) dC dI k g A) (hJ : ∀ d : Nat, q_Sd p l e R s m args below meth c 10 nW dC dI k g A (MQ below (q_post (dC, dI) k g nW Q A) args s 0 0 A) d (x_cut (is_X1_orders d) (J d))) : q_Sd p l e R s m args below meth c 10 nW dC dI k g A (MQ below (q_post (dC, dI) k g nW Q A) args s 0 0 A) 136 (b_X1_orders_136 J Q) := by
  unfold b_X1_orders_136
  refine s_goto X (tgt := 76) dX1_orders_136 (by decide) ?_
  exact hJ 76
set_option maxRecDepth 100000 in
def b_X1_orders_99 (J : Nat → List qV → List qV → qW → Prop) (Q : qR) : qK := x_lstore 8 (x_aload 0 (x_get 1 2 (x_iload 7 (x_lload 8 (x_iload 5 (x_i2l (x_lmul (x_iload 6 (x_i2l (x_lmul (x_aload 0 (x_get 1 2 (x_iload 7 (x_lald (x_iload 3 (x_i2l (x_lmul (x_iload 6 (x_i2l (x_lmul (x_ladd (x_last (x_nw (x_iinc 7 (-1) (b_X1_orders_136 J Q)))))))))))))))))))))))))
set_option maxRecDepth 100000 in
theorem s_X1_orders_99 {p : Program} {l : Launch} {e : Env} {R : Room} {s : State} {m : MethodId} {args : Array Value} {below : List Frame} {meth : Method} {c : Code} {nW : Nat} {dC : Nat → ClassId} {dI : Nat → Nat → Nat} {k : Nat → ClassId} {g : Nat → Nat} {A : Nat → Prop} {J : Nat → List qV → List qV → qW → Prop} {Q : qR} (X : q_X p R s m args meth c cX1_orders 10 nW 1 24 RX1 (some .long) dC dI k g A) (hJ : ∀ d : Nat, q_Sd p l e R s m args below meth c 10 nW dC dI k g A (MQ below (q_post (dC, dI) k g nW Q A) args s 0 0 A) d (x_cut (is_X1_orders d) (J d))) : q_Sd p l e R s m args below meth c 10 nW dC dI k g A (MQ below (q_post (dC, dI) k g nW Q A) args s 0 0 A) 99 (b_X1_orders_99 J Q) := by
  unfold b_X1_orders_99
  refine s_lstore X (by decide) dX1_orders_99 ?_
  refine s_aload_n X rfl dX1_orders_101 ?_
  refine s_get X (T := TX1) (C := RX1) (N := 3) tu_X1 rfl (by decide) tw_325 dX1_orders_102 ?_
  refine s_iload X dX1_orders_105 ?_
  refine s_lload X dX1_orders_107 ?_
  refine s_iload X dX1_orders_109 ?_
  refine s_i2l X dX1_orders_111 ?_
  refine s_lmul X dX1_orders_112 ?_
  refine s_iload X dX1_orders_113 ?_
  refine s_i2l X dX1_orders_115 ?_
  refine s_lmul X dX1_orders_116 ?_
  refine s_aload_n X rfl dX1_orders_117 ?_
  refine s_get X (T := TX1) (C := RX1) (N := 3) tu_X1 rfl (by decide) tw_325 dX1_orders_118 ?_
  refine s_iload X dX1_orders_121 ?_
  refine s_lald X dX1_orders_123 ?_
  refine s_iload_n X rfl dX1_orders_124 ?_
  refine s_i2l X dX1_orders_125 ?_
  refine s_lmul X dX1_orders_126 ?_
  refine s_iload X dX1_orders_127 ?_
  refine s_i2l X dX1_orders_129 ?_
  refine s_lmul X dX1_orders_130 ?_
  refine s_ladd X dX1_orders_131 ?_
  refine s_last X dX1_orders_132 ?_
  refine s_nw ?_
  refine s_iinc X (by decide) dX1_orders_133 ?_
  exact s_X1_orders_136 X hJ
set_option maxRecDepth 100000 in
def b_X1_orders_76 (J : Nat → List qV → List qV → qW → Prop) (Q : qR) : qK := x_iload 7 (x_if_lt (x_iload 3 (x_iload 5 (x_iadd (x_istore 3 (x_iinc 4 1 (x_cut [0, 1, 2, 3, 4] (J 25))))))) (x_iload 7 (x_if_ne (x_aload 0 (x_get 1 2 (x_iload 7 (x_int 1 (x_isub (x_lald (b_X1_orders_99 J Q))))))) (x_lng 0 (b_X1_orders_99 J Q)))))
set_option maxRecDepth 100000 in
theorem s_X1_orders_76 {p : Program} {l : Launch} {e : Env} {R : Room} {s : State} {m : MethodId} {args : Array Value} {below : List Frame} {meth : Method} {c : Code} {nW : Nat} {dC : Nat → ClassId} {dI : Nat → Nat → Nat} {k : Nat → ClassId} {g : Nat → Nat} {A : Nat → Prop} {J : Nat → List qV → List qV → qW → Prop} {Q : qR} (X : q_X p R s m args meth c cX1_orders 10 nW 1 24 RX1 (some .long) dC dI k g A) (hJ : ∀ d : Nat, q_Sd p l e R s m args below meth c 10 nW dC dI k g A (MQ below (q_post (dC, dI) k g nW Q A) args s 0 0 A) d (x_cut (is_X1_orders d) (J d))) : q_Sd p l e R s m args below meth c 10 nW dC dI k g A (MQ below (q_post (dC, dI) k g nW Q A) args s 0 0 A) 76 (b_X1_orders_76 J Q) := by
  unfold b_X1_orders_76
  refine s_iload X dX1_orders_76 ?_
  refine s_if_lt X (tgt := 139) dX1_orders_78 (by decide) ?_ ?_
  · refine s_iload_n X rfl dX1_orders_139 ?_
    refine s_iload X dX1_orders_140 ?_
    refine s_iadd X dX1_orders_142 ?_
    refine s_istore_n X rfl (by decide) dX1_orders_143 ?_
    refine s_iinc X (by decide) dX1_orders_144 ?_
    refine s_goto X (tgt := 25) dX1_orders_147 (by decide) ?_
    exact hJ 25
  · refine s_iload X dX1_orders_81 ?_
    refine s_if_ne X (tgt := 90) dX1_orders_83 (by decide) ?_ ?_
    · refine s_aload_n X rfl dX1_orders_90 ?_
      refine s_get X (T := TX1) (C := RX1) (N := 3) tu_X1 rfl (by decide) tw_325 dX1_orders_91 ?_
      refine s_iload X dX1_orders_94 ?_
      refine s_iconst X ⟨by decide, by decide⟩ dX1_orders_96 ?_
      refine s_isub X dX1_orders_97 ?_
      refine s_lald X dX1_orders_98 ?_
      exact s_X1_orders_99 X hJ
    · refine s_lconst X ⟨by decide, by decide⟩ (by decide) dX1_orders_86 ?_
      refine s_goto X (tgt := 99) dX1_orders_87 (by decide) ?_
      exact s_X1_orders_99 X hJ
set_option maxRecDepth 100000 in
def b_X1_orders_67 (J : Nat → List qV → List qV → qW → Prop) (Q : qR) : qK := x_iload 3 (x_sald 4 qs_4 (x_idiv (x_istore 6 (x_int 8 (x_istore 7 (x_cut [0, 1, 2, 3, 4, 5, 6, 7] (J 76)))))))
set_option maxRecDepth 100000 in
theorem s_X1_orders_67 {p : Program} {l : Launch} {e : Env} {R : Room} {s : State} {m : MethodId} {args : Array Value} {below : List Frame} {meth : Method} {c : Code} {nW : Nat} {dC : Nat → ClassId} {dI : Nat → Nat → Nat} {k : Nat → ClassId} {g : Nat → Nat} {A : Nat → Prop} {J : Nat → List qV → List qV → qW → Prop} {Q : qR} (X : q_X p R s m args meth c cX1_orders 10 nW 1 24 RX1 (some .long) dC dI k g A) (hJ : ∀ d : Nat, q_Sd p l e R s m args below meth c 10 nW dC dI k g A (MQ below (q_post (dC, dI) k g nW Q A) args s 0 0 A) d (x_cut (is_X1_orders d) (J d))) : q_Sd p l e R s m args below meth c 10 nW dC dI k g A (MQ below (q_post (dC, dI) k g nW Q A) args s 0 0 A) 67 (b_X1_orders_67 J Q) := by
  unfold b_X1_orders_67
  refine s_iload_n X rfl dX1_orders_67 ?_
  refine s_sald X (nm := _) rfl qs_4_ok dX1_orders_68 ?_
  refine s_idiv X dX1_orders_69 ?_
  refine s_istore X (by decide) dX1_orders_70 ?_
  refine s_bipush X ⟨by decide, by decide⟩ (by decide) dX1_orders_72 ?_
  refine s_istore X (by decide) dX1_orders_74 ?_
  exact hJ 76
set_option maxRecDepth 100000 in
def b_X1_orders_25 (J : Nat → List qV → List qV → qW → Prop) (Q : qR) : qK := x_iload 4 (x_int 8 (x_icmp_ge (b_X1_orders_150 J Q) (x_iload 3 (x_aload 1 (x_get 0 7 (x_icmp_ge (b_X1_orders_150 J Q) (x_aload 0 (x_aload 1 (x_get 0 7 (x_iload 3 (x_isub (x_int 1 (x_isub (x_callr (some 1) 2 spr_X1_likeOnes (x_istore 5 (x_stat 4 (x_iload 3 (x_iload 5 (x_iadd (x_int 1 (x_isub (x_sald 4 qs_4 (x_stat 4 (b_X1_orders_67 J Q))))))))))))))))))))))))
set_option maxRecDepth 100000 in
theorem s_X1_orders_25 {p : Program} {l : Launch} {e : Env} {R : Room} {s : State} {m : MethodId} {args : Array Value} {below : List Frame} {meth : Method} {c : Code} {nW : Nat} {dC : Nat → ClassId} {dI : Nat → Nat → Nat} {k : Nat → ClassId} {g : Nat → Nat} {A : Nat → Prop} {J : Nat → List qV → List qV → qW → Prop} {Q : qR} (X : q_X p R s m args meth c cX1_orders 10 nW 1 24 RX1 (some .long) dC dI k g A) (hJ : ∀ d : Nat, q_Sd p l e R s m args below meth c 10 nW dC dI k g A (MQ below (q_post (dC, dI) k g nW Q A) args s 0 0 A) d (x_cut (is_X1_orders d) (J d))) : q_Sd p l e R s m args below meth c 10 nW dC dI k g A (MQ below (q_post (dC, dI) k g nW Q A) args s 0 0 A) 25 (b_X1_orders_25 J Q) := by
  unfold b_X1_orders_25
  refine s_iload X dX1_orders_25 ?_
  refine s_bipush X ⟨by decide, by decide⟩ (by decide) dX1_orders_27 ?_
  refine s_icmp_ge X (tgt := 150) dX1_orders_29 (by decide) ?_ ?_
  · exact s_X1_orders_150 X hJ
  · refine s_iload_n X rfl dX1_orders_32 ?_
    refine s_aload_n X rfl dX1_orders_33 ?_
    refine s_get X (T := TX0) (C := RX0) (N := 12) tu_X0 rfl (by decide) tw_192 dX1_orders_34 ?_
    refine s_icmp_ge X (tgt := 150) dX1_orders_37 (by decide) ?_ ?_
    · exact s_X1_orders_150 X hJ
    · refine s_aload_n X rfl dX1_orders_40 ?_
      refine s_aload_n X rfl dX1_orders_41 ?_
      refine s_get X (T := TX0) (C := RX0) (N := 12) tu_X0 rfl (by decide) tw_192 dX1_orders_42 ?_
      refine s_iload_n X rfl dX1_orders_45 ?_
      refine s_isub X dX1_orders_46 ?_
      refine s_iconst X ⟨by decide, by decide⟩ dX1_orders_47 ?_
      refine s_isub X dX1_orders_48 ?_
      refine s_callVr X (m_X1_likeOnes l) tw_912 tw_913 tw_1490 tw_133 tw_914 rfl (by decide +kernel) ⟨by decide, by decide⟩ dX1_orders_49 ?_
      refine s_istore X (by decide) dX1_orders_52 ?_
      refine s_stat X (nm := _) (xs := qs_4) rfl (List.mem_of_getElem? (i := 4) rfl) dX1_orders_54 ?_
      refine s_iload_n X rfl dX1_orders_57 ?_
      refine s_iload X dX1_orders_58 ?_
      refine s_iadd X dX1_orders_60 ?_
      refine s_iconst X ⟨by decide, by decide⟩ dX1_orders_61 ?_
      refine s_isub X dX1_orders_62 ?_
      refine s_sald X (nm := _) rfl qs_4_ok dX1_orders_63 ?_
      refine s_stat X (nm := _) (xs := qs_4) rfl (List.mem_of_getElem? (i := 4) rfl) dX1_orders_64 ?_
      exact s_X1_orders_67 X hJ
set_option maxRecDepth 100000 in
def b_X1_orders_0 (J : Nat → List qV → List qV → qW → Prop) (Q : qR) : qK := x_aload 0 (x_aload 1 (x_call (some 1) 2 sp_X1_lineUp (x_nw (x_aload 0 (x_get 1 2 (x_lng 0 (x_call none 2 sp_J7_fill_d0a16 (x_nw (x_aload 0 (x_get 1 2 (x_int 0 (x_lng 1 (x_last (x_nw (x_int 0 (x_istore 3 (x_int 0 (x_istore 4 (x_cut [0, 1, 2, 3, 4] (J 25))))))))))))))))))))
set_option maxRecDepth 100000 in
theorem s_X1_orders_0 {p : Program} {l : Launch} {e : Env} {R : Room} {s : State} {m : MethodId} {args : Array Value} {below : List Frame} {meth : Method} {c : Code} {nW : Nat} {dC : Nat → ClassId} {dI : Nat → Nat → Nat} {k : Nat → ClassId} {g : Nat → Nat} {A : Nat → Prop} {J : Nat → List qV → List qV → qW → Prop} {Q : qR} (X : q_X p R s m args meth c cX1_orders 10 nW 1 24 RX1 (some .long) dC dI k g A) (hJ : ∀ d : Nat, q_Sd p l e R s m args below meth c 10 nW dC dI k g A (MQ below (q_post (dC, dI) k g nW Q A) args s 0 0 A) d (x_cut (is_X1_orders d) (J d))) : q_Sd p l e R s m args below meth c 10 nW dC dI k g A (MQ below (q_post (dC, dI) k g nW Q A) args s 0 0 A) 0 (b_X1_orders_0 J Q) := by
  unfold b_X1_orders_0
  refine s_aload_n X rfl dX1_orders_0 ?_
  refine s_aload_n X rfl dX1_orders_1 ?_
  refine s_callV X (m_X1_lineUp l) tw_708 tw_709 tw_1491 tw_133 tw_710 rfl (by decide +kernel) ⟨by decide, by decide⟩ dX1_orders_2 ?_
  refine s_nw ?_
  refine s_aload_n X rfl dX1_orders_5 ?_
  refine s_get X (T := TX1) (C := RX1) (N := 3) tu_X1 rfl (by decide) tw_325 dX1_orders_6 ?_
  refine s_lconst X ⟨by decide, by decide⟩ (by decide) dX1_orders_9 ?_
  refine s_callS X (m_J7_fill_d0a16 l) tw_911 tw_828 tw_123 tw_829 (by decide +kernel) ⟨by decide, by decide⟩ dX1_orders_10 ?_
  refine s_nw ?_
  refine s_aload_n X rfl dX1_orders_13 ?_
  refine s_get X (T := TX1) (C := RX1) (N := 3) tu_X1 rfl (by decide) tw_325 dX1_orders_14 ?_
  refine s_iconst X ⟨by decide, by decide⟩ dX1_orders_17 ?_
  refine s_lconst X ⟨by decide, by decide⟩ (by decide) dX1_orders_18 ?_
  refine s_last X dX1_orders_19 ?_
  refine s_nw ?_
  refine s_iconst X ⟨by decide, by decide⟩ dX1_orders_20 ?_
  refine s_istore_n X rfl (by decide) dX1_orders_21 ?_
  refine s_iconst X ⟨by decide, by decide⟩ dX1_orders_22 ?_
  refine s_istore X (by decide) dX1_orders_23 ?_
  exact hJ 25

def sp_X1_orders : qS := fun av w Q => ∃ (c1 : Nat → Int) (c2 : Nat → Int) (c3 : Nat → Int) (f1 : Nat → Int) (f2 : Nat → Int) (f3 : Nat → Int) (f4 : Nat → Int) (f5 : Nat → Int) (f6 : Nat → Int) (f7 : Nat → Int) (u0 : Int) (u1 : Int) (u2 : Int) (u3 : Int) (u4 : Int) (a : Int), av = [q2 0, q2 4, q1 a] ∧ w = (wCo 0 c1 c2 c3 ++ wBo 4 f1 f2 f3 f4 f5 f6 f7 u0 u1 u2 u3 u4) ∧ (0 ≤ u0 ∧ u0 ≤ 8) ∧ (∀ (r : Int) (x1 : Nat → Int) (x3 : Nat → Int), Q (some (q3 r)) ((wCo 0 x1 c2 x3 ++ wBo 4 f1 f2 f3 f4 f5 f6 f7 u0 u1 u2 u3 u4)))
def I_X1_orders (c1 : Nat → Int) (c2 : Nat → Int) (c3 : Nat → Int) (f1 : Nat → Int) (f2 : Nat → Int) (f3 : Nat → Int) (f4 : Nat → Int) (f5 : Nat → Int) (f6 : Nat → Int) (f7 : Nat → Int) (u0 : Int) (u1 : Int) (u2 : Int) (u3 : Int) (u4 : Int) (a : Int) : Nat → Nat → List qV → List qV → qW → Prop := fun dz mz vz sz wz => if dz = 25 then (∃ (y1 : Nat → Int) (y3 : Nat → Int) (v3 : Int) (v4 : Int), vz = [q2 0, q2 4, q1 a, q1 v3, q1 v4] ∧ sz = [] ∧ wz = (wCo 0 y1 c2 y3 ++ wBo 4 f1 f2 f3 f4 f5 f6 f7 u0 u1 u2 u3 u4) ∧ mz = 1000 * (8 - v4).toNat ∧ (0 ≤ v3 ∧ v3 ≤ u0 ∧ 0 ≤ v4 ∧ v4 ≤ 8)) else if dz = 76 then (∃ (y1 : Nat → Int) (y3 : Nat → Int) (v3 : Int) (v4 : Int) (v5 : Int) (v6 : Int) (v7 : Int), vz = [q2 0, q2 4, q1 a, q1 v3, q1 v4, q1 v5, q1 v6, q1 v7] ∧ sz = [] ∧ wz = (wCo 0 y1 c2 y3 ++ wBo 4 f1 f2 f3 f4 f5 f6 f7 u0 u1 u2 u3 u4) ∧ mz = 1000 * (8 - v4).toNat - 500 + (v7 + 1).toNat ∧ (0 ≤ v3 ∧ 1 ≤ v5 ∧ v3 + v5 ≤ u0 ∧ 0 ≤ v4 ∧ v4 ≤ 7 ∧ -1 ≤ v7 ∧ v7 ≤ 8)) else False
set_option maxHeartbeats 4000000 in
set_option maxRecDepth 100000 in
theorem m_X1_orders (l : Launch) : q_M l yX1_orders cX1_orders 10 (some .long) 1 24 sp_X1_orders := by
  refine q_meth (by decide) (fun av w Q h => by obtain ⟨c1, c2, c3, f1, f2, f3, f4, f5, f6, f7, u0, u1, u2, u3, u4, a, rfl, rfl, hu0, hQ⟩ := h; exact Nat.le_of_ble_eq_true rfl) ?_
  intro p e R s m args below meth c dC dI k g A av w Q hsp oka okw X
  obtain ⟨c1, c2, c3, f1, f2, f3, f4, f5, f6, f7, u0, u1, u2, u3, u4, a, rfl, rfl, hu0, hQ⟩ := hsp
  have o_a : -2147483648 ≤ a ∧ a ≤ 2147483647 := oka _ (List.mem_of_getElem? (i := 2) rfl)
  refine s_mono (s_X1_orders_0 X (J := fun dz vz sz wz => ∃ mz, I_X1_orders c1 c2 c3 f1 f2 f3 f4 f5 f6 f7 u0 u1 u2 u3 u4 a dz mz vz sz wz) (q_loopn (I_X1_orders c1 c2 c3 f1 f2 f3 f4 f5 f6 f7 u0 u1 u2 u3 u4 a) (fun dz J => if dz = 25 then b_X1_orders_25 J Q else if dz = 76 then b_X1_orders_76 J Q else q_F) ?hs ?hv)) ?_
  case hs =>
    intro d J hJ
    by_cases h25 : d = 25
    · subst h25; exact s_X1_orders_25 X hJ
    by_cases h76 : d = 76
    · subst h76; exact s_X1_orders_76 X hJ
    simp only [h25, h76, if_false]
    exact s_F
  case hv =>
    intro dz mz vz sz wz hI okv oks okw hlen
    by_cases h25 : dz = 25
    · subst h25
      obtain ⟨y1, y3, v3, v4, rfl, rfl, rfl, hn, hp⟩ := hI
      apply And.intro
      · intro h29
        apply And.intro
        · intro h151
          exact hQ _ _ _
        · intro h151
          apply And.intro
          · intro h157
            apply And.intro
            · exact ⟨by omega, by omega⟩
            intro z169 h169
            exact hQ _ _ _
          · intro h157
            exact hQ _ _ _
      · intro h29
        apply And.intro
        · intro h37
          apply And.intro
          · intro h151
            exact hQ _ _ _
          · intro h151
            apply And.intro
            · intro h157
              apply And.intro
              · exact ⟨by omega, by omega⟩
              intro z169 h169
              exact hQ _ _ _
            · intro h157
              exact hQ _ _ _
        · intro h37
          intro z46 h46
          first | replace h46 := e_sub h46 (by omega) | replace h46 := e_rng h46
          intro z48 h48
          first | replace h48 := e_sub h48 (by omega) | replace h48 := e_rng h48
          refine Exists.intro [0, 1, 2, 3] (Exists.intro [q2 0, q1 _] (Exists.intro ((wCo 0 _ _ _)) (And.intro rfl (And.intro rfl (And.intro rfl (And.intro ⟨⟨_, rfl⟩, rfl⟩ ?_))))))
          refine Exists.intro _ (Exists.intro _ (Exists.intro _ (Exists.intro _ (And.intro rfl (And.intro rfl (And.intro (by first | omega | assumption | exact q_rg_up (by assumption) (by omega) | exact q_rg_up (q_rg_up (by assumption) (by omega)) (by omega) | exact q_rg_cpy (by assumption) (by assumption)) (?_)))))))
          intro z49 h49
          intro z60 h60
          first | replace h60 := e_add h60 (by omega) | replace h60 := e_rng h60
          intro z62 h62
          first | replace h62 := e_sub h62 (by omega) | replace h62 := e_rng h62
          apply And.intro
          · exact ⟨by omega, by rw [show ((qs_4).length : Int) = 9 from rfl]; omega⟩
          intro z63 h63
          have a63 := q4_pos h63 (by omega)
          apply And.intro
          · exact ⟨by omega, by rw [show ((qs_4).length : Int) = 9 from rfl]; omega⟩
          intro z68 h68
          have a68 := q4_pos h68 (by omega)
          apply And.intro
          · first | omega | (intro e9; omega)
          intro z69 h69
          first | replace h69 := e_div h69 (by omega) (by omega) | replace h69 := e_rng h69
          exact ⟨_, ⟨_, _, _, _, _, _, _, rfl, rfl, rfl, rfl, (by first | omega | assumption | exact q_rg_up (by assumption) (by omega) | exact q_rg_up (q_rg_up (by assumption) (by omega)) (by omega) | exact q_rg_cpy (by assumption) (by assumption))⟩, by omega⟩
    by_cases h76 : dz = 76
    · subst h76
      obtain ⟨y1, y3, v3, v4, v5, v6, v7, rfl, rfl, rfl, hn, hp⟩ := hI
      apply And.intro
      · intro h78
        intro z142 h142
        first | replace h142 := e_add h142 (by omega) | replace h142 := e_rng h142
        intro z144 h144
        first | replace h144 := e_add h144 (by omega) | replace h144 := e_rng h144
        exact ⟨_, ⟨_, _, _, _, rfl, rfl, rfl, rfl, (by first | omega | assumption | exact q_rg_up (by assumption) (by omega) | exact q_rg_up (q_rg_up (by assumption) (by omega)) (by omega) | exact q_rg_cpy (by assumption) (by assumption))⟩, by omega⟩
      · intro h78
        apply And.intro
        · intro h83
          intro z97 h97
          first | replace h97 := e_sub h97 (by omega) | replace h97 := e_rng h97
          apply And.intro
          · exact ⟨by omega, by omega⟩
          intro z98 h98
          intro z112 h112
          replace h112 := e_rngl h112
          intro z116 h116
          replace h116 := e_rngl h116
          apply And.intro
          · exact ⟨by omega, by omega⟩
          intro z123 h123
          intro z126 h126
          replace h126 := e_rngl h126
          intro z130 h130
          replace h130 := e_rngl h130
          intro z131 h131
          replace h131 := e_rngl h131
          apply And.intro
          · exact ⟨by omega, by omega⟩
          intro z133 h133
          first | replace h133 := e_add h133 (by omega) | replace h133 := e_rng h133
          exact ⟨_, ⟨_, _, _, _, _, _, _, rfl, rfl, rfl, rfl, (by first | omega | assumption | exact q_rg_up (by assumption) (by omega) | exact q_rg_up (q_rg_up (by assumption) (by omega)) (by omega) | exact q_rg_cpy (by assumption) (by assumption))⟩, by omega⟩
        · intro h83
          intro z112 h112
          replace h112 := e_rngl h112
          intro z116 h116
          replace h116 := e_rngl h116
          apply And.intro
          · exact ⟨by omega, by omega⟩
          intro z123 h123
          intro z126 h126
          replace h126 := e_rngl h126
          intro z130 h130
          replace h130 := e_rngl h130
          intro z131 h131
          replace h131 := e_rngl h131
          apply And.intro
          · exact ⟨by omega, by omega⟩
          intro z133 h133
          first | replace h133 := e_add h133 (by omega) | replace h133 := e_rng h133
          exact ⟨_, ⟨_, _, _, _, _, _, _, rfl, rfl, rfl, rfl, (by first | omega | assumption | exact q_rg_up (by assumption) (by omega) | exact q_rg_up (q_rg_up (by assumption) (by omega)) (by omega) | exact q_rg_cpy (by assumption) (by assumption))⟩, by omega⟩
    simp only [I_X1_orders, h25, h76, if_false] at hI
  rintro lv st w' ⟨rfl, rfl, rfl⟩
  refine Exists.intro [0, 1, 2, 3, 4, 5, 6, 7, 8, 9, 10, 11] (Exists.intro [q2 0, q2 4] (Exists.intro ((wCo 0 _ _ _ ++ wBo 4 _ _ _ _ _ _ _ _ _ _ _ _)) (And.intro rfl (And.intro rfl (And.intro rfl (And.intro ⟨⟨_, rfl⟩, rfl⟩ ?_))))))
  refine Exists.intro _ (Exists.intro _ (Exists.intro _ (Exists.intro _ (Exists.intro _ (Exists.intro _ (Exists.intro _ (Exists.intro _ (Exists.intro _ (Exists.intro _ (Exists.intro _ (Exists.intro _ (Exists.intro _ (Exists.intro _ (Exists.intro _ (And.intro rfl (And.intro rfl (And.intro (by first | omega | assumption | exact q_rg_up (by assumption) (by omega) | exact q_rg_up (q_rg_up (by assumption) (by omega)) (by omega) | exact q_rg_cpy (by assumption) (by assumption)) (?_))))))))))))))))))
  intro x1_2
  refine Exists.intro [3] (Exists.intro [q2 0, q3 _] (Exists.intro ([.inl (3, _, .inr (.inl _))]) (And.intro rfl (And.intro rfl (And.intro rfl (And.intro trivial ?_))))))
  refine Exists.intro _ (Exists.intro _ (Exists.intro _ (And.intro rfl (And.intro rfl (And.intro (by first | omega | assumption | exact q_rg_up (by assumption) (by omega) | exact q_rg_up (q_rg_up (by assumption) (by omega)) (by omega) | exact q_rg_cpy (by assumption) (by assumption)) (?_))))))
  intro g_10 h10
  apply And.intro
  · exact ⟨by omega, by omega⟩
  exact ⟨_, _, _, _, _, rfl, rfl, rfl, rfl, (by first | omega | assumption | exact q_rg_up (by assumption) (by omega) | exact q_rg_up (q_rg_up (by assumption) (by omega)) (by omega) | exact q_rg_cpy (by assumption) (by assumption))⟩

theorem dX1_addUp_0 : decode cX1_addUp 0 = .ok (.aload_n 0, 1) := by decide +kernel
theorem dX1_addUp_1 : decode cX1_addUp 1 = .ok (.getfield 15, 3) := by decide +kernel
theorem dX1_addUp_4 : decode cX1_addUp 4 = .ok (.iconst 0, 1) := by decide +kernel
theorem dX1_addUp_5 : decode cX1_addUp 5 = .ok (.iconst 0, 1) := by decide +kernel
theorem dX1_addUp_6 : decode cX1_addUp 6 = .ok (.iastore, 1) := by decide +kernel
theorem dX1_addUp_7 : decode cX1_addUp 7 = .ok (.iconst 0, 1) := by decide +kernel
theorem dX1_addUp_8 : decode cX1_addUp 8 = .ok (.istore_n 3, 1) := by decide +kernel
theorem dX1_addUp_9 : decode cX1_addUp 9 = .ok (.iload_n 3, 1) := by decide +kernel
theorem dX1_addUp_10 : decode cX1_addUp 10 = .ok (.iload_n 2, 1) := by decide +kernel
theorem dX1_addUp_11 : decode cX1_addUp 11 = .ok (.if_icmp .ge 54, 3) := by decide +kernel
theorem dX1_addUp_14 : decode cX1_addUp 14 = .ok (.iload_n 3, 1) := by decide +kernel
theorem dX1_addUp_15 : decode cX1_addUp 15 = .ok (.bipush 8, 2) := by decide +kernel
theorem dX1_addUp_17 : decode cX1_addUp 17 = .ok (.if_icmp .ge 48, 3) := by decide +kernel
theorem dX1_addUp_20 : decode cX1_addUp 20 = .ok (.iconst 0, 1) := by decide +kernel
theorem dX1_addUp_21 : decode cX1_addUp 21 = .ok (.istore 4, 2) := by decide +kernel
theorem dX1_addUp_23 : decode cX1_addUp 23 = .ok (.iload 4, 2) := by decide +kernel
theorem dX1_addUp_25 : decode cX1_addUp 25 = .ok (.iconst 1, 1) := by decide +kernel
theorem dX1_addUp_26 : decode cX1_addUp 26 = .ok (.iload_n 3, 1) := by decide +kernel
theorem dX1_addUp_27 : decode cX1_addUp 27 = .ok (.ishl, 1) := by decide +kernel
theorem dX1_addUp_28 : decode cX1_addUp 28 = .ok (.if_icmp .ge 31, 3) := by decide +kernel
theorem dX1_addUp_31 : decode cX1_addUp 31 = .ok (.aload_n 0, 1) := by decide +kernel
theorem dX1_addUp_32 : decode cX1_addUp 32 = .ok (.getfield 15, 3) := by decide +kernel
theorem dX1_addUp_35 : decode cX1_addUp 35 = .ok (.iload 4, 2) := by decide +kernel
theorem dX1_addUp_37 : decode cX1_addUp 37 = .ok (.iconst 1, 1) := by decide +kernel
theorem dX1_addUp_38 : decode cX1_addUp 38 = .ok (.iload_n 3, 1) := by decide +kernel
theorem dX1_addUp_39 : decode cX1_addUp 39 = .ok (.ishl, 1) := by decide +kernel
theorem dX1_addUp_40 : decode cX1_addUp 40 = .ok (.ior, 1) := by decide +kernel
theorem dX1_addUp_41 : decode cX1_addUp 41 = .ok (.aload_n 0, 1) := by decide +kernel
theorem dX1_addUp_42 : decode cX1_addUp 42 = .ok (.getfield 15, 3) := by decide +kernel
theorem dX1_addUp_45 : decode cX1_addUp 45 = .ok (.iload 4, 2) := by decide +kernel
theorem dX1_addUp_47 : decode cX1_addUp 47 = .ok (.iaload, 1) := by decide +kernel
theorem dX1_addUp_48 : decode cX1_addUp 48 = .ok (.aload_n 1, 1) := by decide +kernel
theorem dX1_addUp_49 : decode cX1_addUp 49 = .ok (.iload_n 3, 1) := by decide +kernel
theorem dX1_addUp_50 : decode cX1_addUp 50 = .ok (.iaload, 1) := by decide +kernel
theorem dX1_addUp_51 : decode cX1_addUp 51 = .ok (.iadd, 1) := by decide +kernel
theorem dX1_addUp_52 : decode cX1_addUp 52 = .ok (.iastore, 1) := by decide +kernel
theorem dX1_addUp_53 : decode cX1_addUp 53 = .ok (.iinc 4 1, 3) := by decide +kernel
theorem dX1_addUp_56 : decode cX1_addUp 56 = .ok (.goto (-33), 3) := by decide +kernel
theorem dX1_addUp_59 : decode cX1_addUp 59 = .ok (.iinc 3 1, 3) := by decide +kernel
theorem dX1_addUp_62 : decode cX1_addUp 62 = .ok (.goto (-53), 3) := by decide +kernel
theorem dX1_addUp_65 : decode cX1_addUp 65 = .ok (.return_, 1) := by decide +kernel
def is_X1_addUp : Nat → List Nat := fun d => if d = 9 then [0, 1, 2, 3] else if d = 23 then [0, 1, 2, 3, 4] else []
set_option maxRecDepth 100000 in
def b_X1_addUp_65 (J : Nat → List qV → List qV → qW → Prop) (Q : qR) : qK := x_vret Q
set_option maxRecDepth 100000 in
theorem s_X1_addUp_65 {p : Program} {l : Launch} {e : Env} {R : Room} {s : State} {m : MethodId} {args : Array Value} {below : List Frame} {meth : Method} {c : Code} {nW : Nat} {dC : Nat → ClassId} {dI : Nat → Nat → Nat} {k : Nat → ClassId} {g : Nat → Nat} {A : Nat → Prop} {J : Nat → List qV → List qV → qW → Prop} {Q : qR} (X : q_X p R s m args meth c cX1_addUp 5 nW 0 0 RX1 none dC dI k g A) (hJ : ∀ d : Nat, q_Sd p l e R s m args below meth c 5 nW dC dI k g A (MQ below (q_post (dC, dI) k g nW Q A) args s 0 0 A) d (x_cut (is_X1_addUp d) (J d))) : q_Sd p l e R s m args below meth c 5 nW dC dI k g A (MQ below (q_post (dC, dI) k g nW Q A) args s 0 0 A) 65 (b_X1_addUp_65 J Q) := by
  unfold b_X1_addUp_65
  exact s_vret X dX1_addUp_65
set_option maxRecDepth 100000 in
def b_X1_addUp_62 (J : Nat → List qV → List qV → qW → Prop) (Q : qR) : qK := x_cut [0, 1, 2, 3] (J 9)
set_option maxRecDepth 100000 in
theorem s_X1_addUp_62 {p : Program} {l : Launch} {e : Env} {R : Room} {s : State} {m : MethodId} {args : Array Value} {below : List Frame} {meth : Method} {c : Code} {nW : Nat} {dC : Nat → ClassId} {dI : Nat → Nat → Nat} {k : Nat → ClassId} {g : Nat → Nat} {A : Nat → Prop} {J : Nat → List qV → List qV → qW → Prop} {Q : qR} (X : q_X p R s m args meth c cX1_addUp 5 nW 0 0 RX1 none dC dI k g A) (hJ : ∀ d : Nat, q_Sd p l e R s m args below meth c 5 nW dC dI k g A (MQ below (q_post (dC, dI) k g nW Q A) args s 0 0 A) d (x_cut (is_X1_addUp d) (J d))) : q_Sd p l e R s m args below meth c 5 nW dC dI k g A (MQ below (q_post (dC, dI) k g nW Q A) args s 0 0 A) 62 (b_X1_addUp_62 J Q) := by
  unfold b_X1_addUp_62
  refine s_goto X (tgt := 9) dX1_addUp_62 (by decide) ?_
  exact hJ 9
set_option maxRecDepth 100000 in
def b_X1_addUp_23 (J : Nat → List qV → List qV → qW → Prop) (Q : qR) : qK := x_iload 4 (x_int 1 (x_iload 3 (x_ishl (x_icmp_ge (x_iinc 3 1 (b_X1_addUp_62 J Q)) (x_aload 0 (x_get 1 1 (x_iload 4 (x_int 1 (x_iload 3 (x_ishl (x_ior (x_aload 0 (x_get 1 1 (x_iload 4 (x_iald (x_aload 1 (x_iload 3 (x_iald (x_iadd (x_iast (x_nw (x_iinc 4 1 (x_cut [0, 1, 2, 3, 4] (J 23))))))))))))))))))))))))
set_option maxRecDepth 100000 in
theorem s_X1_addUp_23 {p : Program} {l : Launch} {e : Env} {R : Room} {s : State} {m : MethodId} {args : Array Value} {below : List Frame} {meth : Method} {c : Code} {nW : Nat} {dC : Nat → ClassId} {dI : Nat → Nat → Nat} {k : Nat → ClassId} {g : Nat → Nat} {A : Nat → Prop} {J : Nat → List qV → List qV → qW → Prop} {Q : qR} (X : q_X p R s m args meth c cX1_addUp 5 nW 0 0 RX1 none dC dI k g A) (hJ : ∀ d : Nat, q_Sd p l e R s m args below meth c 5 nW dC dI k g A (MQ below (q_post (dC, dI) k g nW Q A) args s 0 0 A) d (x_cut (is_X1_addUp d) (J d))) : q_Sd p l e R s m args below meth c 5 nW dC dI k g A (MQ below (q_post (dC, dI) k g nW Q A) args s 0 0 A) 23 (b_X1_addUp_23 J Q) := by
  unfold b_X1_addUp_23
  refine s_iload X dX1_addUp_23 ?_
  refine s_iconst X ⟨by decide, by decide⟩ dX1_addUp_25 ?_
  refine s_iload_n X rfl dX1_addUp_26 ?_
  refine s_ishl X dX1_addUp_27 ?_
  refine s_icmp_ge X (tgt := 59) dX1_addUp_28 (by decide) ?_ ?_
  · refine s_iinc X (by decide) dX1_addUp_59 ?_
    exact s_X1_addUp_62 X hJ
  · refine s_aload_n X rfl dX1_addUp_31 ?_
    refine s_get X (T := TX1) (C := RX1) (N := 3) tu_X1 rfl (by decide) tw_324 dX1_addUp_32 ?_
    refine s_iload X dX1_addUp_35 ?_
    refine s_iconst X ⟨by decide, by decide⟩ dX1_addUp_37 ?_
    refine s_iload_n X rfl dX1_addUp_38 ?_
    refine s_ishl X dX1_addUp_39 ?_
    refine s_ior X dX1_addUp_40 ?_
    refine s_aload_n X rfl dX1_addUp_41 ?_
    refine s_get X (T := TX1) (C := RX1) (N := 3) tu_X1 rfl (by decide) tw_324 dX1_addUp_42 ?_
    refine s_iload X dX1_addUp_45 ?_
    refine s_iald X dX1_addUp_47 ?_
    refine s_aload_n X rfl dX1_addUp_48 ?_
    refine s_iload_n X rfl dX1_addUp_49 ?_
    refine s_iald X dX1_addUp_50 ?_
    refine s_iadd X dX1_addUp_51 ?_
    refine s_iast X dX1_addUp_52 ?_
    refine s_nw ?_
    refine s_iinc X (by decide) dX1_addUp_53 ?_
    refine s_goto X (tgt := 23) dX1_addUp_56 (by decide) ?_
    exact hJ 23
set_option maxRecDepth 100000 in
def b_X1_addUp_9 (J : Nat → List qV → List qV → qW → Prop) (Q : qR) : qK := x_iload 3 (x_iload 2 (x_icmp_ge (b_X1_addUp_65 J Q) (x_iload 3 (x_int 8 (x_icmp_ge (b_X1_addUp_65 J Q) (x_int 0 (x_istore 4 (x_cut [0, 1, 2, 3, 4] (J 23)))))))))
set_option maxRecDepth 100000 in
theorem s_X1_addUp_9 {p : Program} {l : Launch} {e : Env} {R : Room} {s : State} {m : MethodId} {args : Array Value} {below : List Frame} {meth : Method} {c : Code} {nW : Nat} {dC : Nat → ClassId} {dI : Nat → Nat → Nat} {k : Nat → ClassId} {g : Nat → Nat} {A : Nat → Prop} {J : Nat → List qV → List qV → qW → Prop} {Q : qR} (X : q_X p R s m args meth c cX1_addUp 5 nW 0 0 RX1 none dC dI k g A) (hJ : ∀ d : Nat, q_Sd p l e R s m args below meth c 5 nW dC dI k g A (MQ below (q_post (dC, dI) k g nW Q A) args s 0 0 A) d (x_cut (is_X1_addUp d) (J d))) : q_Sd p l e R s m args below meth c 5 nW dC dI k g A (MQ below (q_post (dC, dI) k g nW Q A) args s 0 0 A) 9 (b_X1_addUp_9 J Q) := by
  unfold b_X1_addUp_9
  refine s_iload_n X rfl dX1_addUp_9 ?_
  refine s_iload_n X rfl dX1_addUp_10 ?_
  refine s_icmp_ge X (tgt := 65) dX1_addUp_11 (by decide) ?_ ?_
  · exact s_X1_addUp_65 X hJ
  · refine s_iload_n X rfl dX1_addUp_14 ?_
    refine s_bipush X ⟨by decide, by decide⟩ (by decide) dX1_addUp_15 ?_
    refine s_icmp_ge X (tgt := 65) dX1_addUp_17 (by decide) ?_ ?_
    · exact s_X1_addUp_65 X hJ
    · refine s_iconst X ⟨by decide, by decide⟩ dX1_addUp_20 ?_
      refine s_istore X (by decide) dX1_addUp_21 ?_
      exact hJ 23
set_option maxRecDepth 100000 in
def b_X1_addUp_0 (J : Nat → List qV → List qV → qW → Prop) (Q : qR) : qK := x_aload 0 (x_get 1 1 (x_int 0 (x_int 0 (x_iast (x_nw (x_int 0 (x_istore 3 (x_cut [0, 1, 2, 3] (J 9)))))))))
set_option maxRecDepth 100000 in
theorem s_X1_addUp_0 {p : Program} {l : Launch} {e : Env} {R : Room} {s : State} {m : MethodId} {args : Array Value} {below : List Frame} {meth : Method} {c : Code} {nW : Nat} {dC : Nat → ClassId} {dI : Nat → Nat → Nat} {k : Nat → ClassId} {g : Nat → Nat} {A : Nat → Prop} {J : Nat → List qV → List qV → qW → Prop} {Q : qR} (X : q_X p R s m args meth c cX1_addUp 5 nW 0 0 RX1 none dC dI k g A) (hJ : ∀ d : Nat, q_Sd p l e R s m args below meth c 5 nW dC dI k g A (MQ below (q_post (dC, dI) k g nW Q A) args s 0 0 A) d (x_cut (is_X1_addUp d) (J d))) : q_Sd p l e R s m args below meth c 5 nW dC dI k g A (MQ below (q_post (dC, dI) k g nW Q A) args s 0 0 A) 0 (b_X1_addUp_0 J Q) := by
  unfold b_X1_addUp_0
  refine s_aload_n X rfl dX1_addUp_0 ?_
  refine s_get X (T := TX1) (C := RX1) (N := 3) tu_X1 rfl (by decide) tw_324 dX1_addUp_1 ?_
  refine s_iconst X ⟨by decide, by decide⟩ dX1_addUp_4 ?_
  refine s_iconst X ⟨by decide, by decide⟩ dX1_addUp_5 ?_
  refine s_iast X dX1_addUp_6 ?_
  refine s_nw ?_
  refine s_iconst X ⟨by decide, by decide⟩ dX1_addUp_7 ?_
  refine s_istore_n X rfl (by decide) dX1_addUp_8 ?_
  exact hJ 9

def sp_X1_addUp : qS := fun av w Q => ∃ (c1 : Nat → Int) (c2 : Nat → Int) (c3 : Nat → Int) (fw : Nat → Int) (a : Int), av = [q2 0, q2 4, q1 a] ∧ w = (wCo 0 c1 c2 c3 ++ [.inl (0, 8, .inl fw)]) ∧ (∀ (x2 : Nat → Int), Q none ((wCo 0 c1 x2 c3 ++ [.inl (0, 8, .inl fw)])))
def I_X1_addUp (c1 : Nat → Int) (c2 : Nat → Int) (c3 : Nat → Int) (fw : Nat → Int) (a : Int) : Nat → Nat → List qV → List qV → qW → Prop := fun dz mz vz sz wz => if dz = 9 then (∃ (y2 : Nat → Int) (v3 : Int), vz = [q2 0, q2 4, q1 a, q1 v3] ∧ sz = [] ∧ wz = (wCo 0 c1 y2 c3 ++ [.inl (0, 8, .inl fw)]) ∧ mz = 1000 * (8 - v3).toNat ∧ (0 ≤ v3 ∧ v3 ≤ 8)) else if dz = 23 then (∃ (y2 : Nat → Int) (v3 : Int) (v4 : Int), vz = [q2 0, q2 4, q1 a, q1 v3, q1 v4] ∧ sz = [] ∧ wz = (wCo 0 c1 y2 c3 ++ [.inl (0, 8, .inl fw)]) ∧ mz = 1000 * (8 - v3).toNat - 500 + (128 - v4).toNat ∧ (0 ≤ v3 ∧ v3 ≤ 7 ∧ 0 ≤ v4 ∧ v4 ≤ 128)) else False
set_option maxHeartbeats 4000000 in
set_option maxRecDepth 100000 in
theorem m_X1_addUp (l : Launch) : q_M l yX1_addUp cX1_addUp 5 none 0 0 sp_X1_addUp := by
  refine q_meth (by decide) (fun av w Q h => by obtain ⟨c1, c2, c3, fw, a, rfl, rfl, hQ⟩ := h; exact Nat.le_of_ble_eq_true rfl) ?_
  intro p e R s m args below meth c dC dI k g A av w Q hsp oka okw X
  obtain ⟨c1, c2, c3, fw, a, rfl, rfl, hQ⟩ := hsp
  have o_a : -2147483648 ≤ a ∧ a ≤ 2147483647 := oka _ (List.mem_of_getElem? (i := 2) rfl)
  refine s_mono (s_X1_addUp_0 X (J := fun dz vz sz wz => ∃ mz, I_X1_addUp c1 c2 c3 fw a dz mz vz sz wz) (q_loopn (I_X1_addUp c1 c2 c3 fw a) (fun dz J => if dz = 9 then b_X1_addUp_9 J Q else if dz = 23 then b_X1_addUp_23 J Q else q_F) ?hs ?hv)) ?_
  case hs =>
    intro d J hJ
    by_cases h9 : d = 9
    · subst h9; exact s_X1_addUp_9 X hJ
    by_cases h23 : d = 23
    · subst h23; exact s_X1_addUp_23 X hJ
    simp only [h9, h23, if_false]
    exact s_F
  case hv =>
    intro dz mz vz sz wz hI okv oks okw hlen
    by_cases h9 : dz = 9
    · subst h9
      obtain ⟨y2, v3, rfl, rfl, rfl, hn, hp⟩ := hI
      apply And.intro
      · intro h11
        exact hQ _
      · intro h11
        apply And.intro
        · intro h17
          exact hQ _
        · intro h17
          exact ⟨_, ⟨_, _, _, rfl, rfl, rfl, rfl, (by first | omega | assumption | exact q_rg_up (by assumption) (by omega) | exact q_rg_up (q_rg_up (by assumption) (by omega)) (by omega) | exact q_rg_cpy (by assumption) (by assumption))⟩, by omega⟩
    by_cases h23 : dz = 23
    · subst h23
      obtain ⟨y2, v3, v4, rfl, rfl, rfl, hn, hp⟩ := hI
      intro z27 h27
      first | replace h27 := e_shl h27 (by omega) | replace h27 := e_rng h27
      apply And.intro
      · intro h28
        intro z59 h59
        first | replace h59 := e_add h59 (by omega) | replace h59 := e_rng h59
        exact ⟨_, ⟨_, _, rfl, rfl, rfl, rfl, (by first | omega | assumption | exact q_rg_up (by assumption) (by omega) | exact q_rg_up (q_rg_up (by assumption) (by omega)) (by omega) | exact q_rg_cpy (by assumption) (by assumption))⟩, by omega⟩
      · intro h28
        intro z39 h39
        first | replace h39 := e_shl h39 (by omega) | replace h39 := e_rng h39
        intro z40 h40
        first | replace h40 := e_or8 h40 (by omega) (by omega) | replace h40 := e_or9 h40 (by omega) (by omega) | replace h40 := e_rng h40
        apply And.intro
        · exact ⟨by omega, by omega⟩
        intro z47 h47
        apply And.intro
        · exact ⟨by omega, by omega⟩
        intro z50 h50
        intro z51 h51
        first | replace h51 := e_add h51 (by omega) | replace h51 := e_rng h51
        apply And.intro
        · exact ⟨by omega, by omega⟩
        intro z53 h53
        first | replace h53 := e_add h53 (by omega) | replace h53 := e_rng h53
        exact ⟨_, ⟨_, _, _, rfl, rfl, rfl, rfl, (by first | omega | assumption | exact q_rg_up (by assumption) (by omega) | exact q_rg_up (q_rg_up (by assumption) (by omega)) (by omega) | exact q_rg_cpy (by assumption) (by assumption))⟩, by omega⟩
    simp only [I_X1_addUp, h9, h23, if_false] at hI
  rintro lv st w' ⟨rfl, rfl, rfl⟩
  apply And.intro
  · exact ⟨by omega, by omega⟩
  exact ⟨_, _, _, rfl, rfl, rfl, rfl, (by first | omega | assumption | exact q_rg_up (by assumption) (by omega) | exact q_rg_up (q_rg_up (by assumption) (by omega)) (by omega) | exact q_rg_cpy (by assumption) (by assumption))⟩

theorem dX1_fewest_0 : decode cX1_fewest 0 = .ok (.aload_n 0, 1) := by decide +kernel
theorem dX1_fewest_1 : decode cX1_fewest 1 = .ok (.aload_n 1, 1) := by decide +kernel
theorem dX1_fewest_2 : decode cX1_fewest 2 = .ok (.iload_n 2, 1) := by decide +kernel
theorem dX1_fewest_3 : decode cX1_fewest 3 = .ok (.invokevirtual 61, 3) := by decide +kernel
theorem dX1_fewest_6 : decode cX1_fewest 6 = .ok (.iconst (-1), 1) := by decide +kernel
theorem dX1_fewest_7 : decode cX1_fewest 7 = .ok (.istore 4, 2) := by decide +kernel
theorem dX1_fewest_9 : decode cX1_fewest 9 = .ok (.iconst 0, 1) := by decide +kernel
theorem dX1_fewest_10 : decode cX1_fewest 10 = .ok (.istore 5, 2) := by decide +kernel
theorem dX1_fewest_12 : decode cX1_fewest 12 = .ok (.iload 5, 2) := by decide +kernel
theorem dX1_fewest_14 : decode cX1_fewest 14 = .ok (.iconst 1, 1) := by decide +kernel
theorem dX1_fewest_15 : decode cX1_fewest 15 = .ok (.iload_n 2, 1) := by decide +kernel
theorem dX1_fewest_16 : decode cX1_fewest 16 = .ok (.ishl, 1) := by decide +kernel
theorem dX1_fewest_17 : decode cX1_fewest 17 = .ok (.if_icmp .ge 51, 3) := by decide +kernel
theorem dX1_fewest_20 : decode cX1_fewest 20 = .ok (.iload 5, 2) := by decide +kernel
theorem dX1_fewest_22 : decode cX1_fewest 22 = .ok (.sipush 256, 3) := by decide +kernel
theorem dX1_fewest_25 : decode cX1_fewest 25 = .ok (.if_icmp .ge 43, 3) := by decide +kernel
theorem dX1_fewest_28 : decode cX1_fewest 28 = .ok (.aload_n 0, 1) := by decide +kernel
theorem dX1_fewest_29 : decode cX1_fewest 29 = .ok (.getfield 15, 3) := by decide +kernel
theorem dX1_fewest_32 : decode cX1_fewest 32 = .ok (.iload 5, 2) := by decide +kernel
theorem dX1_fewest_34 : decode cX1_fewest 34 = .ok (.iaload, 1) := by decide +kernel
theorem dX1_fewest_35 : decode cX1_fewest 35 = .ok (.iload_n 3, 1) := by decide +kernel
theorem dX1_fewest_36 : decode cX1_fewest 36 = .ok (.if_icmp .lt 26, 3) := by decide +kernel
theorem dX1_fewest_39 : decode cX1_fewest 39 = .ok (.iload 4, 2) := by decide +kernel
theorem dX1_fewest_41 : decode cX1_fewest 41 = .ok (.iconst (-1), 1) := by decide +kernel
theorem dX1_fewest_42 : decode cX1_fewest 42 = .ok (.if_icmp .eq 16, 3) := by decide +kernel
theorem dX1_fewest_45 : decode cX1_fewest 45 = .ok (.iload 5, 2) := by decide +kernel
theorem dX1_fewest_47 : decode cX1_fewest 47 = .ok (.invokestatic 65, 3) := by decide +kernel
theorem dX1_fewest_50 : decode cX1_fewest 50 = .ok (.iload 4, 2) := by decide +kernel
theorem dX1_fewest_52 : decode cX1_fewest 52 = .ok (.invokestatic 65, 3) := by decide +kernel
theorem dX1_fewest_55 : decode cX1_fewest 55 = .ok (.if_icmp .ge 7, 3) := by decide +kernel
theorem dX1_fewest_58 : decode cX1_fewest 58 = .ok (.iload 5, 2) := by decide +kernel
theorem dX1_fewest_60 : decode cX1_fewest 60 = .ok (.istore 4, 2) := by decide +kernel
theorem dX1_fewest_62 : decode cX1_fewest 62 = .ok (.iinc 5 1, 3) := by decide +kernel
theorem dX1_fewest_65 : decode cX1_fewest 65 = .ok (.goto (-53), 3) := by decide +kernel
theorem dX1_fewest_68 : decode cX1_fewest 68 = .ok (.iload 4, 2) := by decide +kernel
theorem dX1_fewest_70 : decode cX1_fewest 70 = .ok (.ireturn, 1) := by decide +kernel
def is_X1_fewest : Nat → List Nat := fun d => if d = 12 then [0, 2, 3, 4, 5] else []
set_option maxRecDepth 100000 in
def b_X1_fewest_68 (J : Nat → List qV → List qV → qW → Prop) (Q : qR) : qK := x_iload 4 (x_iret Q)
set_option maxRecDepth 100000 in
theorem s_X1_fewest_68 {p : Program} {l : Launch} {e : Env} {R : Room} {s : State} {m : MethodId} {args : Array Value} {below : List Frame} {meth : Method} {c : Code} {nW : Nat} {dC : Nat → ClassId} {dI : Nat → Nat → Nat} {k : Nat → ClassId} {g : Nat → Nat} {A : Nat → Prop} {J : Nat → List qV → List qV → qW → Prop} {Q : qR} (X : q_X p R s m args meth c cX1_fewest 6 nW 1 24 RX1 (some .int) dC dI k g A) (hJ : ∀ d : Nat, q_Sd p l e R s m args below meth c 6 nW dC dI k g A (MQ below (q_post (dC, dI) k g nW Q A) args s 0 0 A) d (x_cut (is_X1_fewest d) (J d))) : q_Sd p l e R s m args below meth c 6 nW dC dI k g A (MQ below (q_post (dC, dI) k g nW Q A) args s 0 0 A) 68 (b_X1_fewest_68 J Q) := by
  unfold b_X1_fewest_68
  refine s_iload X dX1_fewest_68 ?_
  exact s_iret X dX1_fewest_70
set_option maxRecDepth 100000 in
def b_X1_fewest_62 (J : Nat → List qV → List qV → qW → Prop) (Q : qR) : qK := x_iinc 5 1 (x_cut [0, 2, 3, 4, 5] (J 12))
set_option maxRecDepth 100000 in
theorem s_X1_fewest_62 {p : Program} {l : Launch} {e : Env} {R : Room} {s : State} {m : MethodId} {args : Array Value} {below : List Frame} {meth : Method} {c : Code} {nW : Nat} {dC : Nat → ClassId} {dI : Nat → Nat → Nat} {k : Nat → ClassId} {g : Nat → Nat} {A : Nat → Prop} {J : Nat → List qV → List qV → qW → Prop} {Q : qR} (X : q_X p R s m args meth c cX1_fewest 6 nW 1 24 RX1 (some .int) dC dI k g A) (hJ : ∀ d : Nat, q_Sd p l e R s m args below meth c 6 nW dC dI k g A (MQ below (q_post (dC, dI) k g nW Q A) args s 0 0 A) d (x_cut (is_X1_fewest d) (J d))) : q_Sd p l e R s m args below meth c 6 nW dC dI k g A (MQ below (q_post (dC, dI) k g nW Q A) args s 0 0 A) 62 (b_X1_fewest_62 J Q) := by
  unfold b_X1_fewest_62
  refine s_iinc X (by decide) dX1_fewest_62 ?_
  refine s_goto X (tgt := 12) dX1_fewest_65 (by decide) ?_
  exact hJ 12
set_option maxRecDepth 100000 in
def b_X1_fewest_58 (J : Nat → List qV → List qV → qW → Prop) (Q : qR) : qK := x_iload 5 (x_istore 4 (b_X1_fewest_62 J Q))
set_option maxRecDepth 100000 in
theorem s_X1_fewest_58 {p : Program} {l : Launch} {e : Env} {R : Room} {s : State} {m : MethodId} {args : Array Value} {below : List Frame} {meth : Method} {c : Code} {nW : Nat} {dC : Nat → ClassId} {dI : Nat → Nat → Nat} {k : Nat → ClassId} {g : Nat → Nat} {A : Nat → Prop} {J : Nat → List qV → List qV → qW → Prop} {Q : qR} (X : q_X p R s m args meth c cX1_fewest 6 nW 1 24 RX1 (some .int) dC dI k g A) (hJ : ∀ d : Nat, q_Sd p l e R s m args below meth c 6 nW dC dI k g A (MQ below (q_post (dC, dI) k g nW Q A) args s 0 0 A) d (x_cut (is_X1_fewest d) (J d))) : q_Sd p l e R s m args below meth c 6 nW dC dI k g A (MQ below (q_post (dC, dI) k g nW Q A) args s 0 0 A) 58 (b_X1_fewest_58 J Q) := by
  unfold b_X1_fewest_58
  refine s_iload X dX1_fewest_58 ?_
  refine s_istore X (by decide) dX1_fewest_60 ?_
  exact s_X1_fewest_62 X hJ
set_option maxRecDepth 100000 in
def b_X1_fewest_12 (J : Nat → List qV → List qV → qW → Prop) (Q : qR) : qK := x_iload 5 (x_int 1 (x_iload 2 (x_ishl (x_icmp_ge (b_X1_fewest_68 J Q) (x_iload 5 (x_int 256 (x_icmp_ge (b_X1_fewest_68 J Q) (x_aload 0 (x_get 1 1 (x_iload 5 (x_iald (x_iload 3 (x_icmp_lt (b_X1_fewest_62 J Q) (x_iload 4 (x_int (-1) (x_icmp_eq (b_X1_fewest_58 J Q) (x_iload 5 (x_callr none 1 spr_J6_bitCount_0f7a4 (x_iload 4 (x_callr none 1 spr_J6_bitCount_0f7a4 (x_icmp_ge (b_X1_fewest_62 J Q) (b_X1_fewest_58 J Q))))))))))))))))))))))
set_option maxRecDepth 100000 in
theorem s_X1_fewest_12 {p : Program} {l : Launch} {e : Env} {R : Room} {s : State} {m : MethodId} {args : Array Value} {below : List Frame} {meth : Method} {c : Code} {nW : Nat} {dC : Nat → ClassId} {dI : Nat → Nat → Nat} {k : Nat → ClassId} {g : Nat → Nat} {A : Nat → Prop} {J : Nat → List qV → List qV → qW → Prop} {Q : qR} (X : q_X p R s m args meth c cX1_fewest 6 nW 1 24 RX1 (some .int) dC dI k g A) (hJ : ∀ d : Nat, q_Sd p l e R s m args below meth c 6 nW dC dI k g A (MQ below (q_post (dC, dI) k g nW Q A) args s 0 0 A) d (x_cut (is_X1_fewest d) (J d))) : q_Sd p l e R s m args below meth c 6 nW dC dI k g A (MQ below (q_post (dC, dI) k g nW Q A) args s 0 0 A) 12 (b_X1_fewest_12 J Q) := by
  unfold b_X1_fewest_12
  refine s_iload X dX1_fewest_12 ?_
  refine s_iconst X ⟨by decide, by decide⟩ dX1_fewest_14 ?_
  refine s_iload_n X rfl dX1_fewest_15 ?_
  refine s_ishl X dX1_fewest_16 ?_
  refine s_icmp_ge X (tgt := 68) dX1_fewest_17 (by decide) ?_ ?_
  · exact s_X1_fewest_68 X hJ
  · refine s_iload X dX1_fewest_20 ?_
    refine s_sipush X ⟨by decide, by decide⟩ (by decide) dX1_fewest_22 ?_
    refine s_icmp_ge X (tgt := 68) dX1_fewest_25 (by decide) ?_ ?_
    · exact s_X1_fewest_68 X hJ
    · refine s_aload_n X rfl dX1_fewest_28 ?_
      refine s_get X (T := TX1) (C := RX1) (N := 3) tu_X1 rfl (by decide) tw_324 dX1_fewest_29 ?_
      refine s_iload X dX1_fewest_32 ?_
      refine s_iald X dX1_fewest_34 ?_
      refine s_iload_n X rfl dX1_fewest_35 ?_
      refine s_icmp_lt X (tgt := 62) dX1_fewest_36 (by decide) ?_ ?_
      · exact s_X1_fewest_62 X hJ
      · refine s_iload X dX1_fewest_39 ?_
        refine s_iconst X ⟨by decide, by decide⟩ dX1_fewest_41 ?_
        refine s_icmp_eq X (tgt := 58) dX1_fewest_42 (by decide) ?_ ?_
        · exact s_X1_fewest_58 X hJ
        · refine s_iload X dX1_fewest_45 ?_
          refine s_callSr X (m_J6_bitCount_0f7a4 l) tw_781 tw_646 tw_140 tw_647 (by decide +kernel) ⟨by decide, by decide⟩ dX1_fewest_47 ?_
          refine s_iload X dX1_fewest_50 ?_
          refine s_callSr X (m_J6_bitCount_0f7a4 l) tw_781 tw_646 tw_140 tw_647 (by decide +kernel) ⟨by decide, by decide⟩ dX1_fewest_52 ?_
          refine s_icmp_ge X (tgt := 62) dX1_fewest_55 (by decide) ?_ ?_
          · exact s_X1_fewest_62 X hJ
          · exact s_X1_fewest_58 X hJ
set_option maxRecDepth 100000 in
def b_X1_fewest_0 (J : Nat → List qV → List qV → qW → Prop) (Q : qR) : qK := x_aload 0 (x_aload 1 (x_iload 2 (x_call (some 1) 3 sp_X1_addUp (x_nw (x_int (-1) (x_istore 4 (x_int 0 (x_istore 5 (x_cut [0, 2, 3, 4, 5] (J 12))))))))))
set_option maxRecDepth 100000 in
theorem s_X1_fewest_0 {p : Program} {l : Launch} {e : Env} {R : Room} {s : State} {m : MethodId} {args : Array Value} {below : List Frame} {meth : Method} {c : Code} {nW : Nat} {dC : Nat → ClassId} {dI : Nat → Nat → Nat} {k : Nat → ClassId} {g : Nat → Nat} {A : Nat → Prop} {J : Nat → List qV → List qV → qW → Prop} {Q : qR} (X : q_X p R s m args meth c cX1_fewest 6 nW 1 24 RX1 (some .int) dC dI k g A) (hJ : ∀ d : Nat, q_Sd p l e R s m args below meth c 6 nW dC dI k g A (MQ below (q_post (dC, dI) k g nW Q A) args s 0 0 A) d (x_cut (is_X1_fewest d) (J d))) : q_Sd p l e R s m args below meth c 6 nW dC dI k g A (MQ below (q_post (dC, dI) k g nW Q A) args s 0 0 A) 0 (b_X1_fewest_0 J Q) := by
  unfold b_X1_fewest_0
  refine s_aload_n X rfl dX1_fewest_0 ?_
  refine s_aload_n X rfl dX1_fewest_1 ?_
  refine s_iload_n X rfl dX1_fewest_2 ?_
  refine s_callV X (m_X1_addUp l) tw_778 tw_779 tw_1489 tw_133 tw_780 rfl (by decide +kernel) ⟨by decide, by decide⟩ dX1_fewest_3 ?_
  refine s_nw ?_
  refine s_iconst X ⟨by decide, by decide⟩ dX1_fewest_6 ?_
  refine s_istore X (by decide) dX1_fewest_7 ?_
  refine s_iconst X ⟨by decide, by decide⟩ dX1_fewest_9 ?_
  refine s_istore X (by decide) dX1_fewest_10 ?_
  exact hJ 12

def sp_X1_fewest : qS := fun av w Q => ∃ (c1 : Nat → Int) (c2 : Nat → Int) (c3 : Nat → Int) (fw : Nat → Int) (a : Int) (b : Int), av = [q2 0, q2 4, q1 a, q1 b] ∧ w = (wCo 0 c1 c2 c3 ++ [.inl (0, 8, .inl fw)]) ∧ (0 ≤ a ∧ a ≤ 8) ∧ (∀ (r : Int) (x2 : Nat → Int), Q (some (q1 r)) ((wCo 0 c1 x2 c3 ++ [.inl (0, 8, .inl fw)])))
def I_X1_fewest (c1 : Nat → Int) (c2 : Nat → Int) (c3 : Nat → Int) (fw : Nat → Int) (a : Int) (b : Int) : Nat → Nat → List qV → List qV → qW → Prop := fun dz mz vz sz wz => if dz = 12 then (∃ (y2 : Nat → Int) (v4 : Int) (v5 : Int), vz = [q2 0, q1 a, q1 b, q1 v4, q1 v5] ∧ sz = [] ∧ wz = (wCo 0 c1 y2 c3 ++ [.inl (0, 8, .inl fw)]) ∧ mz = (257 - v5).toNat ∧ (0 ≤ v5 ∧ v5 ≤ 256)) else False
set_option maxHeartbeats 4000000 in
set_option maxRecDepth 100000 in
theorem m_X1_fewest (l : Launch) : q_M l yX1_fewest cX1_fewest 6 (some .int) 1 24 sp_X1_fewest := by
  refine q_meth (by decide) (fun av w Q h => by obtain ⟨c1, c2, c3, fw, a, b, rfl, rfl, ha, hQ⟩ := h; exact Nat.le_of_ble_eq_true rfl) ?_
  intro p e R s m args below meth c dC dI k g A av w Q hsp oka okw X
  obtain ⟨c1, c2, c3, fw, a, b, rfl, rfl, ha, hQ⟩ := hsp
  have o_a : -2147483648 ≤ a ∧ a ≤ 2147483647 := oka _ (List.mem_of_getElem? (i := 2) rfl)
  have o_b : -2147483648 ≤ b ∧ b ≤ 2147483647 := oka _ (List.mem_of_getElem? (i := 3) rfl)
  refine s_mono (s_X1_fewest_0 X (J := fun dz vz sz wz => ∃ mz, I_X1_fewest c1 c2 c3 fw a b dz mz vz sz wz) (q_loopn (I_X1_fewest c1 c2 c3 fw a b) (fun dz J => if dz = 12 then b_X1_fewest_12 J Q else q_F) ?hs ?hv)) ?_
  case hs =>
    intro d J hJ
    by_cases h12 : d = 12
    · subst h12; exact s_X1_fewest_12 X hJ
    simp only [h12, if_false]
    exact s_F
  case hv =>
    intro dz mz vz sz wz hI okv oks okw hlen
    by_cases h12 : dz = 12
    · subst h12
      obtain ⟨y2, v4, v5, rfl, rfl, rfl, hn, hp⟩ := hI
      intro z16 h16
      first | replace h16 := e_shl h16 (by omega) | replace h16 := e_rng h16
      apply And.intro
      · intro h17
        exact hQ _ _
      · intro h17
        apply And.intro
        · intro h25
          exact hQ _ _
        · intro h25
          apply And.intro
          · exact ⟨by omega, by omega⟩
          intro z34 h34
          apply And.intro
          · intro h36
            intro z62 h62
            first | replace h62 := e_add h62 (by omega) | replace h62 := e_rng h62
            exact ⟨_, ⟨_, _, _, rfl, rfl, rfl, rfl, (by first | omega | assumption | exact q_rg_up (by assumption) (by omega) | exact q_rg_up (q_rg_up (by assumption) (by omega)) (by omega) | exact q_rg_cpy (by assumption) (by assumption))⟩, by omega⟩
          · intro h36
            apply And.intro
            · intro h42
              intro z62 h62
              first | replace h62 := e_add h62 (by omega) | replace h62 := e_rng h62
              exact ⟨_, ⟨_, _, _, rfl, rfl, rfl, rfl, (by first | omega | assumption | exact q_rg_up (by assumption) (by omega) | exact q_rg_up (q_rg_up (by assumption) (by omega)) (by omega) | exact q_rg_cpy (by assumption) (by assumption))⟩, by omega⟩
            · intro h42
              refine Exists.intro [] (Exists.intro [q1 _] (Exists.intro [] (And.intro rfl (And.intro rfl (And.intro rfl (And.intro trivial ?_))))))
              refine Exists.intro _ (And.intro rfl (And.intro rfl (?_)))
              intro z47 h47
              refine Exists.intro [] (Exists.intro [q1 _] (Exists.intro [] (And.intro rfl (And.intro rfl (And.intro rfl (And.intro trivial ?_))))))
              refine Exists.intro _ (And.intro rfl (And.intro rfl (?_)))
              intro z52 h52
              apply And.intro
              · intro h55
                intro z62 h62
                first | replace h62 := e_add h62 (by omega) | replace h62 := e_rng h62
                exact ⟨_, ⟨_, _, _, rfl, rfl, rfl, rfl, (by first | omega | assumption | exact q_rg_up (by assumption) (by omega) | exact q_rg_up (q_rg_up (by assumption) (by omega)) (by omega) | exact q_rg_cpy (by assumption) (by assumption))⟩, by omega⟩
              · intro h55
                intro z62 h62
                first | replace h62 := e_add h62 (by omega) | replace h62 := e_rng h62
                exact ⟨_, ⟨_, _, _, rfl, rfl, rfl, rfl, (by first | omega | assumption | exact q_rg_up (by assumption) (by omega) | exact q_rg_up (q_rg_up (by assumption) (by omega)) (by omega) | exact q_rg_cpy (by assumption) (by assumption))⟩, by omega⟩
    simp only [I_X1_fewest, h12, if_false] at hI
  rintro lv st w' ⟨rfl, rfl, rfl⟩
  refine Exists.intro [0, 1, 2, 3, 4] (Exists.intro [q2 0, q2 4, q1 _] (Exists.intro ((wCo 0 _ _ _ ++ [.inl (0, 8, .inl _)])) (And.intro rfl (And.intro rfl (And.intro rfl (And.intro ⟨⟨_, rfl⟩, rfl⟩ ?_))))))
  refine Exists.intro _ (Exists.intro _ (Exists.intro _ (Exists.intro _ (Exists.intro _ (And.intro rfl (And.intro rfl (?_)))))))
  intro x2_3
  exact ⟨_, _, _, _, rfl, rfl, rfl, rfl, (by first | omega | assumption | exact q_rg_up (by assumption) (by omega) | exact q_rg_up (q_rg_up (by assumption) (by omega)) (by omega) | exact q_rg_cpy (by assumption) (by assumption))⟩

theorem dX1_allGot_0 : decode cX1_allGot 0 = .ok (.iconst 0, 1) := by decide +kernel
theorem dX1_allGot_1 : decode cX1_allGot 1 = .ok (.istore_n 2, 1) := by decide +kernel
theorem dX1_allGot_2 : decode cX1_allGot 2 = .ok (.iload_n 2, 1) := by decide +kernel
theorem dX1_allGot_3 : decode cX1_allGot 3 = .ok (.bipush 8, 2) := by decide +kernel
theorem dX1_allGot_5 : decode cX1_allGot 5 = .ok (.if_icmp .ge 28, 3) := by decide +kernel
theorem dX1_allGot_8 : decode cX1_allGot 8 = .ok (.iload_n 1, 1) := by decide +kernel
theorem dX1_allGot_9 : decode cX1_allGot 9 = .ok (.iload_n 2, 1) := by decide +kernel
theorem dX1_allGot_10 : decode cX1_allGot 10 = .ok (.ishr, 1) := by decide +kernel
theorem dX1_allGot_11 : decode cX1_allGot 11 = .ok (.iconst 1, 1) := by decide +kernel
theorem dX1_allGot_12 : decode cX1_allGot 12 = .ok (.iand, 1) := by decide +kernel
theorem dX1_allGot_13 : decode cX1_allGot 13 = .ok (.ifCond .eq 14, 3) := by decide +kernel
theorem dX1_allGot_16 : decode cX1_allGot 16 = .ok (.aload_n 0, 1) := by decide +kernel
theorem dX1_allGot_17 : decode cX1_allGot 17 = .ok (.getfield 70, 3) := by decide +kernel
theorem dX1_allGot_20 : decode cX1_allGot 20 = .ok (.iload_n 2, 1) := by decide +kernel
theorem dX1_allGot_21 : decode cX1_allGot 21 = .ok (.iaload, 1) := by decide +kernel
theorem dX1_allGot_22 : decode cX1_allGot 22 = .ok (.ifCond .ne 5, 3) := by decide +kernel
theorem dX1_allGot_25 : decode cX1_allGot 25 = .ok (.iconst 0, 1) := by decide +kernel
theorem dX1_allGot_26 : decode cX1_allGot 26 = .ok (.ireturn, 1) := by decide +kernel
theorem dX1_allGot_27 : decode cX1_allGot 27 = .ok (.iinc 2 1, 3) := by decide +kernel
theorem dX1_allGot_30 : decode cX1_allGot 30 = .ok (.goto (-28), 3) := by decide +kernel
theorem dX1_allGot_33 : decode cX1_allGot 33 = .ok (.iconst 1, 1) := by decide +kernel
theorem dX1_allGot_34 : decode cX1_allGot 34 = .ok (.ireturn, 1) := by decide +kernel
def is_X1_allGot : Nat → List Nat := fun d => if d = 2 then [0, 1, 2] else []
set_option maxRecDepth 100000 in
def b_X1_allGot_27 (J : Nat → List qV → List qV → qW → Prop) (Q : qR) : qK := x_iinc 2 1 (x_cut [0, 1, 2] (J 2))
set_option maxRecDepth 100000 in
theorem s_X1_allGot_27 {p : Program} {l : Launch} {e : Env} {R : Room} {s : State} {m : MethodId} {args : Array Value} {below : List Frame} {meth : Method} {c : Code} {nW : Nat} {dC : Nat → ClassId} {dI : Nat → Nat → Nat} {k : Nat → ClassId} {g : Nat → Nat} {A : Nat → Prop} {J : Nat → List qV → List qV → qW → Prop} {Q : qR} (X : q_X p R s m args meth c cX1_allGot 3 nW 0 0 RX1 (some .boolean) dC dI k g A) (hJ : ∀ d : Nat, q_Sd p l e R s m args below meth c 3 nW dC dI k g A (MQ below (q_post (dC, dI) k g nW Q A) args s 0 0 A) d (x_cut (is_X1_allGot d) (J d))) : q_Sd p l e R s m args below meth c 3 nW dC dI k g A (MQ below (q_post (dC, dI) k g nW Q A) args s 0 0 A) 27 (b_X1_allGot_27 J Q) := by
  unfold b_X1_allGot_27
  refine s_iinc X (by decide) dX1_allGot_27 ?_
  refine s_goto X (tgt := 2) dX1_allGot_30 (by decide) ?_
  exact hJ 2
set_option maxRecDepth 100000 in
def b_X1_allGot_2 (J : Nat → List qV → List qV → qW → Prop) (Q : qR) : qK := x_iload 2 (x_int 8 (x_icmp_ge (x_int 1 (x_zret Q)) (x_iload 1 (x_iload 2 (x_ishr (x_int 1 (x_iand (x_if_eq (b_X1_allGot_27 J Q) (x_aload 0 (x_get 3 0 (x_iload 2 (x_iald (x_if_ne (b_X1_allGot_27 J Q) (x_int 0 (x_zret Q)))))))))))))))
set_option maxRecDepth 100000 in
theorem s_X1_allGot_2 {p : Program} {l : Launch} {e : Env} {R : Room} {s : State} {m : MethodId} {args : Array Value} {below : List Frame} {meth : Method} {c : Code} {nW : Nat} {dC : Nat → ClassId} {dI : Nat → Nat → Nat} {k : Nat → ClassId} {g : Nat → Nat} {A : Nat → Prop} {J : Nat → List qV → List qV → qW → Prop} {Q : qR} (X : q_X p R s m args meth c cX1_allGot 3 nW 0 0 RX1 (some .boolean) dC dI k g A) (hJ : ∀ d : Nat, q_Sd p l e R s m args below meth c 3 nW dC dI k g A (MQ below (q_post (dC, dI) k g nW Q A) args s 0 0 A) d (x_cut (is_X1_allGot d) (J d))) : q_Sd p l e R s m args below meth c 3 nW dC dI k g A (MQ below (q_post (dC, dI) k g nW Q A) args s 0 0 A) 2 (b_X1_allGot_2 J Q) := by
  unfold b_X1_allGot_2
  refine s_iload_n X rfl dX1_allGot_2 ?_
  refine s_bipush X ⟨by decide, by decide⟩ (by decide) dX1_allGot_3 ?_
  refine s_icmp_ge X (tgt := 33) dX1_allGot_5 (by decide) ?_ ?_
  · refine s_iconst X ⟨by decide, by decide⟩ dX1_allGot_33 ?_
    exact s_zret X dX1_allGot_34
  · refine s_iload_n X rfl dX1_allGot_8 ?_
    refine s_iload_n X rfl dX1_allGot_9 ?_
    refine s_ishr X dX1_allGot_10 ?_
    refine s_iconst X ⟨by decide, by decide⟩ dX1_allGot_11 ?_
    refine s_iand X dX1_allGot_12 ?_
    refine s_if_eq X (tgt := 27) dX1_allGot_13 (by decide) ?_ ?_
    · exact s_X1_allGot_27 X hJ
    · refine s_aload_n X rfl dX1_allGot_16 ?_
      refine s_get X (T := TX3) (C := RX3) (N := 2) tu_X3 rfl (by decide) tw_231 dX1_allGot_17 ?_
      refine s_iload_n X rfl dX1_allGot_20 ?_
      refine s_iald X dX1_allGot_21 ?_
      refine s_if_ne X (tgt := 27) dX1_allGot_22 (by decide) ?_ ?_
      · exact s_X1_allGot_27 X hJ
      · refine s_iconst X ⟨by decide, by decide⟩ dX1_allGot_25 ?_
        exact s_zret X dX1_allGot_26
set_option maxRecDepth 100000 in
def b_X1_allGot_0 (J : Nat → List qV → List qV → qW → Prop) (Q : qR) : qK := x_int 0 (x_istore 2 (x_cut [0, 1, 2] (J 2)))
set_option maxRecDepth 100000 in
theorem s_X1_allGot_0 {p : Program} {l : Launch} {e : Env} {R : Room} {s : State} {m : MethodId} {args : Array Value} {below : List Frame} {meth : Method} {c : Code} {nW : Nat} {dC : Nat → ClassId} {dI : Nat → Nat → Nat} {k : Nat → ClassId} {g : Nat → Nat} {A : Nat → Prop} {J : Nat → List qV → List qV → qW → Prop} {Q : qR} (X : q_X p R s m args meth c cX1_allGot 3 nW 0 0 RX1 (some .boolean) dC dI k g A) (hJ : ∀ d : Nat, q_Sd p l e R s m args below meth c 3 nW dC dI k g A (MQ below (q_post (dC, dI) k g nW Q A) args s 0 0 A) d (x_cut (is_X1_allGot d) (J d))) : q_Sd p l e R s m args below meth c 3 nW dC dI k g A (MQ below (q_post (dC, dI) k g nW Q A) args s 0 0 A) 0 (b_X1_allGot_0 J Q) := by
  unfold b_X1_allGot_0
  refine s_iconst X ⟨by decide, by decide⟩ dX1_allGot_0 ?_
  refine s_istore_n X rfl (by decide) dX1_allGot_1 ?_
  exact hJ 2

def spr_X1_allGot : List qV → qW → (Option qV → Prop) → Prop := fun av w Q => ∃ (g1 : Nat → Int) (o1 : Int) (a : Int), av = [q2 0, q1 a] ∧ w = (wLo 0 g1 o1) ∧ (∀ (r : Int) , (r = 0 ∨ r = 1) → Q (some (q1 r)))
def sp_X1_allGot : qS := fun av w Q => spr_X1_allGot av w (fun r => Q r w)
def I_X1_allGot (g1 : Nat → Int) (o1 : Int) (a : Int) : Nat → Nat → List qV → List qV → qW → Prop := fun dz mz vz sz wz => if dz = 2 then (∃ (v2 : Int), vz = [q2 0, q1 a, q1 v2] ∧ sz = [] ∧ wz = (wLo 0 g1 o1) ∧ mz = (8 - v2).toNat ∧ (0 ≤ v2 ∧ v2 ≤ 8)) else False
set_option maxHeartbeats 4000000 in
set_option maxRecDepth 100000 in
theorem m_X1_allGot (l : Launch) : q_M l yX1_allGot cX1_allGot 3 (some .boolean) 0 0 sp_X1_allGot := by
  refine q_meth (by decide) (fun av w Q h => by obtain ⟨g1, o1, a, rfl, rfl, hQ⟩ := h; exact Nat.le_of_ble_eq_true rfl) ?_
  intro p e R s m args below meth c dC dI k g A av w Q hsp oka okw X
  obtain ⟨g1, o1, a, rfl, rfl, hQ⟩ := hsp
  have o_a : -2147483648 ≤ a ∧ a ≤ 2147483647 := oka _ (List.mem_of_getElem? (i := 1) rfl)
  refine s_mono (s_X1_allGot_0 X (J := fun dz vz sz wz => ∃ mz, I_X1_allGot g1 o1 a dz mz vz sz wz) (q_loopn (I_X1_allGot g1 o1 a) (fun dz J => if dz = 2 then b_X1_allGot_2 J Q else q_F) ?hs ?hv)) ?_
  case hs =>
    intro d J hJ
    by_cases h2 : d = 2
    · subst h2; exact s_X1_allGot_2 X hJ
    simp only [h2, if_false]
    exact s_F
  case hv =>
    intro dz mz vz sz wz hI okv oks okw hlen
    by_cases h2 : dz = 2
    · subst h2
      obtain ⟨v2, rfl, rfl, rfl, hn, hp⟩ := hI
      apply And.intro
      · intro h5
        apply And.intro
        · first | exact Or.inl rfl | exact Or.inr rfl | omega
        exact hQ _ (by first | omega | assumption | exact q_rg_up (by assumption) (by omega) | exact q_rg_up (q_rg_up (by assumption) (by omega)) (by omega) | exact q_rg_cpy (by assumption) (by assumption))
      · intro h5
        intro z10 h10
        replace h10 := e_rng h10
        intro z12 h12
        first | replace h12 := e_and1 h12 | replace h12 := e_and255 h12 | replace h12 := e_and h12 (by omega) (by omega) | replace h12 := e_rng h12
        apply And.intro
        · intro h13
          intro z27 h27
          first | replace h27 := e_add h27 (by omega) | replace h27 := e_rng h27
          exact ⟨_, ⟨_, rfl, rfl, rfl, rfl, (by first | omega | assumption | exact q_rg_up (by assumption) (by omega) | exact q_rg_up (q_rg_up (by assumption) (by omega)) (by omega) | exact q_rg_cpy (by assumption) (by assumption))⟩, by omega⟩
        · intro h13
          apply And.intro
          · exact ⟨by omega, by omega⟩
          intro z21 h21
          apply And.intro
          · intro h22
            intro z27 h27
            first | replace h27 := e_add h27 (by omega) | replace h27 := e_rng h27
            exact ⟨_, ⟨_, rfl, rfl, rfl, rfl, (by first | omega | assumption | exact q_rg_up (by assumption) (by omega) | exact q_rg_up (q_rg_up (by assumption) (by omega)) (by omega) | exact q_rg_cpy (by assumption) (by assumption))⟩, by omega⟩
          · intro h22
            apply And.intro
            · first | exact Or.inl rfl | exact Or.inr rfl | omega
            exact hQ _ (by first | omega | assumption | exact q_rg_up (by assumption) (by omega) | exact q_rg_up (q_rg_up (by assumption) (by omega)) (by omega) | exact q_rg_cpy (by assumption) (by assumption))
    simp only [I_X1_allGot, h2, if_false] at hI
  rintro lv st w' ⟨rfl, rfl, rfl⟩
  exact ⟨_, _, rfl, rfl, rfl, rfl, (by first | omega | assumption | exact q_rg_up (by assumption) (by omega) | exact q_rg_up (q_rg_up (by assumption) (by omega)) (by omega) | exact q_rg_cpy (by assumption) (by assumption))⟩

theorem dX1_comesBefore_0 : decode cX1_comesBefore 0 = .ok (.iload_n 0, 1) := by decide +kernel
theorem dX1_comesBefore_1 : decode cX1_comesBefore 1 = .ok (.iload_n 1, 1) := by decide +kernel
theorem dX1_comesBefore_2 : decode cX1_comesBefore 2 = .ok (.ixor, 1) := by decide +kernel
theorem dX1_comesBefore_3 : decode cX1_comesBefore 3 = .ok (.istore_n 2, 1) := by decide +kernel
theorem dX1_comesBefore_4 : decode cX1_comesBefore 4 = .ok (.iload_n 0, 1) := by decide +kernel
theorem dX1_comesBefore_5 : decode cX1_comesBefore 5 = .ok (.iload_n 2, 1) := by decide +kernel
theorem dX1_comesBefore_6 : decode cX1_comesBefore 6 = .ok (.iand, 1) := by decide +kernel
theorem dX1_comesBefore_7 : decode cX1_comesBefore 7 = .ok (.iload_n 2, 1) := by decide +kernel
theorem dX1_comesBefore_8 : decode cX1_comesBefore 8 = .ok (.ineg, 1) := by decide +kernel
theorem dX1_comesBefore_9 : decode cX1_comesBefore 9 = .ok (.iand, 1) := by decide +kernel
theorem dX1_comesBefore_10 : decode cX1_comesBefore 10 = .ok (.ifCond .eq 7, 3) := by decide +kernel
theorem dX1_comesBefore_13 : decode cX1_comesBefore 13 = .ok (.iconst 1, 1) := by decide +kernel
theorem dX1_comesBefore_14 : decode cX1_comesBefore 14 = .ok (.goto 4, 3) := by decide +kernel
theorem dX1_comesBefore_17 : decode cX1_comesBefore 17 = .ok (.iconst 0, 1) := by decide +kernel
theorem dX1_comesBefore_18 : decode cX1_comesBefore 18 = .ok (.ireturn, 1) := by decide +kernel
def is_X1_comesBefore : Nat → List Nat := fun d => []
set_option maxRecDepth 100000 in
def b_X1_comesBefore_18 (J : Nat → List qV → List qV → qW → Prop) (Q : qR) : qK := x_zret Q
set_option maxRecDepth 100000 in
theorem s_X1_comesBefore_18 {p : Program} {l : Launch} {e : Env} {R : Room} {s : State} {m : MethodId} {args : Array Value} {below : List Frame} {meth : Method} {c : Code} {nW : Nat} {dC : Nat → ClassId} {dI : Nat → Nat → Nat} {k : Nat → ClassId} {g : Nat → Nat} {A : Nat → Prop} {J : Nat → List qV → List qV → qW → Prop} {Q : qR} (X : q_X p R s m args meth c cX1_comesBefore 3 nW 0 0 RX1 (some .boolean) dC dI k g A) (hJ : ∀ d : Nat, q_Sd p l e R s m args below meth c 3 nW dC dI k g A (MQ below (q_post (dC, dI) k g nW Q A) args s 0 0 A) d (x_cut (is_X1_comesBefore d) (J d))) : q_Sd p l e R s m args below meth c 3 nW dC dI k g A (MQ below (q_post (dC, dI) k g nW Q A) args s 0 0 A) 18 (b_X1_comesBefore_18 J Q) := by
  unfold b_X1_comesBefore_18
  exact s_zret X dX1_comesBefore_18
set_option maxRecDepth 100000 in
def b_X1_comesBefore_0 (J : Nat → List qV → List qV → qW → Prop) (Q : qR) : qK := x_iload 0 (x_iload 1 (x_ixor (x_istore 2 (x_iload 0 (x_iload 2 (x_iand (x_iload 2 (x_ineg (x_iand (x_if_eq (x_int 0 (b_X1_comesBefore_18 J Q)) (x_int 1 (b_X1_comesBefore_18 J Q))))))))))))
set_option maxRecDepth 100000 in
theorem s_X1_comesBefore_0 {p : Program} {l : Launch} {e : Env} {R : Room} {s : State} {m : MethodId} {args : Array Value} {below : List Frame} {meth : Method} {c : Code} {nW : Nat} {dC : Nat → ClassId} {dI : Nat → Nat → Nat} {k : Nat → ClassId} {g : Nat → Nat} {A : Nat → Prop} {J : Nat → List qV → List qV → qW → Prop} {Q : qR} (X : q_X p R s m args meth c cX1_comesBefore 3 nW 0 0 RX1 (some .boolean) dC dI k g A) (hJ : ∀ d : Nat, q_Sd p l e R s m args below meth c 3 nW dC dI k g A (MQ below (q_post (dC, dI) k g nW Q A) args s 0 0 A) d (x_cut (is_X1_comesBefore d) (J d))) : q_Sd p l e R s m args below meth c 3 nW dC dI k g A (MQ below (q_post (dC, dI) k g nW Q A) args s 0 0 A) 0 (b_X1_comesBefore_0 J Q) := by
  unfold b_X1_comesBefore_0
  refine s_iload_n X rfl dX1_comesBefore_0 ?_
  refine s_iload_n X rfl dX1_comesBefore_1 ?_
  refine s_ixor X dX1_comesBefore_2 ?_
  refine s_istore_n X rfl (by decide) dX1_comesBefore_3 ?_
  refine s_iload_n X rfl dX1_comesBefore_4 ?_
  refine s_iload_n X rfl dX1_comesBefore_5 ?_
  refine s_iand X dX1_comesBefore_6 ?_
  refine s_iload_n X rfl dX1_comesBefore_7 ?_
  refine s_ineg X dX1_comesBefore_8 ?_
  refine s_iand X dX1_comesBefore_9 ?_
  refine s_if_eq X (tgt := 17) dX1_comesBefore_10 (by decide) ?_ ?_
  · refine s_iconst X ⟨by decide, by decide⟩ dX1_comesBefore_17 ?_
    exact s_X1_comesBefore_18 X hJ
  · refine s_iconst X ⟨by decide, by decide⟩ dX1_comesBefore_13 ?_
    refine s_goto X (tgt := 18) dX1_comesBefore_14 (by decide) ?_
    exact s_X1_comesBefore_18 X hJ

def spr_X1_comesBefore : List qV → qW → (Option qV → Prop) → Prop := fun av w Q => ∃ (a : Int) (b : Int), av = [q1 a, q1 b] ∧ w = [] ∧ (∀ (r : Int) , (r = 0 ∨ r = 1) → Q (some (q1 r)))
def sp_X1_comesBefore : qS := fun av w Q => spr_X1_comesBefore av w (fun r => Q r w)
set_option maxHeartbeats 4000000 in
set_option maxRecDepth 100000 in
theorem m_X1_comesBefore (l : Launch) : q_M l yX1_comesBefore cX1_comesBefore 3 (some .boolean) 0 0 sp_X1_comesBefore := by
  refine q_meth (by decide) (fun av w Q h => by obtain ⟨a, b, rfl, rfl, hQ⟩ := h; exact Nat.le_of_ble_eq_true rfl) ?_
  intro p e R s m args below meth c dC dI k g A av w Q hsp oka okw X
  obtain ⟨a, b, rfl, rfl, hQ⟩ := hsp
  have o_a : -2147483648 ≤ a ∧ a ≤ 2147483647 := oka _ (List.mem_of_getElem? (i := 0) rfl)
  have o_b : -2147483648 ≤ b ∧ b ≤ 2147483647 := oka _ (List.mem_of_getElem? (i := 1) rfl)
  refine s_mono (s_X1_comesBefore_0 X (J := fun _ _ _ _ => False) (fun d => s_cutF)) ?_
  rintro lv st w' ⟨rfl, rfl, rfl⟩
  intro z2 h2
  first | replace h2 := e_xor8 h2 (by omega) (by omega) | replace h2 := e_xor9 h2 (by omega) (by omega) | replace h2 := e_rng h2
  intro z6 h6
  first | replace h6 := e_and1 h6 | replace h6 := e_and255 h6 | replace h6 := e_and h6 (by omega) (by omega) | replace h6 := e_rng h6
  intro z8 h8
  first | replace h8 := e_neg h8 (by omega) | replace h8 := e_rng h8
  intro z9 h9
  first | replace h9 := e_and1 h9 | replace h9 := e_and255 h9 | replace h9 := e_and h9 (by omega) (by omega) | replace h9 := e_rng h9
  apply And.intro
  · intro h10
    apply And.intro
    · first | exact Or.inl rfl | exact Or.inr rfl | omega
    exact hQ _ (by first | omega | assumption | exact q_rg_up (by assumption) (by omega) | exact q_rg_up (q_rg_up (by assumption) (by omega)) (by omega) | exact q_rg_cpy (by assumption) (by assumption))
  · intro h10
    apply And.intro
    · first | exact Or.inl rfl | exact Or.inr rfl | omega
    exact hQ _ (by first | omega | assumption | exact q_rg_up (by assumption) (by omega) | exact q_rg_up (q_rg_up (by assumption) (by omega)) (by omega) | exact q_rg_cpy (by assumption) (by assumption))

theorem dX1_exactWays_0 : decode cX1_exactWays 0 = .ok (.aload_n 0, 1) := by decide +kernel
theorem dX1_exactWays_1 : decode cX1_exactWays 1 = .ok (.aload_n 1, 1) := by decide +kernel
theorem dX1_exactWays_2 : decode cX1_exactWays 2 = .ok (.getfield 70, 3) := by decide +kernel
theorem dX1_exactWays_5 : decode cX1_exactWays 5 = .ok (.bipush 8, 2) := by decide +kernel
theorem dX1_exactWays_7 : decode cX1_exactWays 7 = .ok (.invokevirtual 61, 3) := by decide +kernel
theorem dX1_exactWays_10 : decode cX1_exactWays 10 = .ok (.iconst 0, 1) := by decide +kernel
theorem dX1_exactWays_11 : decode cX1_exactWays 11 = .ok (.istore_n 2, 1) := by decide +kernel
theorem dX1_exactWays_12 : decode cX1_exactWays 12 = .ok (.iconst 0, 1) := by decide +kernel
theorem dX1_exactWays_13 : decode cX1_exactWays 13 = .ok (.istore_n 3, 1) := by decide +kernel
theorem dX1_exactWays_14 : decode cX1_exactWays 14 = .ok (.iload_n 3, 1) := by decide +kernel
theorem dX1_exactWays_15 : decode cX1_exactWays 15 = .ok (.sipush 256, 3) := by decide +kernel
theorem dX1_exactWays_18 : decode cX1_exactWays 18 = .ok (.if_icmp .ge 33, 3) := by decide +kernel
theorem dX1_exactWays_21 : decode cX1_exactWays 21 = .ok (.aload_n 0, 1) := by decide +kernel
theorem dX1_exactWays_22 : decode cX1_exactWays 22 = .ok (.getfield 15, 3) := by decide +kernel
theorem dX1_exactWays_25 : decode cX1_exactWays 25 = .ok (.iload_n 3, 1) := by decide +kernel
theorem dX1_exactWays_26 : decode cX1_exactWays 26 = .ok (.iaload, 1) := by decide +kernel
theorem dX1_exactWays_27 : decode cX1_exactWays 27 = .ok (.aload_n 1, 1) := by decide +kernel
theorem dX1_exactWays_28 : decode cX1_exactWays 28 = .ok (.getfield 75, 3) := by decide +kernel
theorem dX1_exactWays_31 : decode cX1_exactWays 31 = .ok (.if_icmp .ne 14, 3) := by decide +kernel
theorem dX1_exactWays_34 : decode cX1_exactWays 34 = .ok (.aload_n 1, 1) := by decide +kernel
theorem dX1_exactWays_35 : decode cX1_exactWays 35 = .ok (.iload_n 3, 1) := by decide +kernel
theorem dX1_exactWays_36 : decode cX1_exactWays 36 = .ok (.invokestatic 78, 3) := by decide +kernel
theorem dX1_exactWays_39 : decode cX1_exactWays 39 = .ok (.ifCond .eq 6, 3) := by decide +kernel
theorem dX1_exactWays_42 : decode cX1_exactWays 42 = .ok (.iinc 2 1, 3) := by decide +kernel
theorem dX1_exactWays_45 : decode cX1_exactWays 45 = .ok (.iinc 3 1, 3) := by decide +kernel
theorem dX1_exactWays_48 : decode cX1_exactWays 48 = .ok (.goto (-34), 3) := by decide +kernel
theorem dX1_exactWays_51 : decode cX1_exactWays 51 = .ok (.iload_n 2, 1) := by decide +kernel
theorem dX1_exactWays_52 : decode cX1_exactWays 52 = .ok (.ireturn, 1) := by decide +kernel
def is_X1_exactWays : Nat → List Nat := fun d => if d = 14 then [0, 1, 2, 3] else []
set_option maxRecDepth 100000 in
def b_X1_exactWays_45 (J : Nat → List qV → List qV → qW → Prop) (Q : qR) : qK := x_iinc 3 1 (x_cut [0, 1, 2, 3] (J 14))
set_option maxRecDepth 100000 in
theorem s_X1_exactWays_45 {p : Program} {l : Launch} {e : Env} {R : Room} {s : State} {m : MethodId} {args : Array Value} {below : List Frame} {meth : Method} {c : Code} {nW : Nat} {dC : Nat → ClassId} {dI : Nat → Nat → Nat} {k : Nat → ClassId} {g : Nat → Nat} {A : Nat → Prop} {J : Nat → List qV → List qV → qW → Prop} {Q : qR} (X : q_X p R s m args meth c cX1_exactWays 4 nW 1 24 RX1 (some .int) dC dI k g A) (hJ : ∀ d : Nat, q_Sd p l e R s m args below meth c 4 nW dC dI k g A (MQ below (q_post (dC, dI) k g nW Q A) args s 0 0 A) d (x_cut (is_X1_exactWays d) (J d))) : q_Sd p l e R s m args below meth c 4 nW dC dI k g A (MQ below (q_post (dC, dI) k g nW Q A) args s 0 0 A) 45 (b_X1_exactWays_45 J Q) := by
  unfold b_X1_exactWays_45
  refine s_iinc X (by decide) dX1_exactWays_45 ?_
  refine s_goto X (tgt := 14) dX1_exactWays_48 (by decide) ?_
  exact hJ 14
set_option maxRecDepth 100000 in
def b_X1_exactWays_14 (J : Nat → List qV → List qV → qW → Prop) (Q : qR) : qK := x_iload 3 (x_int 256 (x_icmp_ge (x_iload 2 (x_iret Q)) (x_aload 0 (x_get 1 1 (x_iload 3 (x_iald (x_aload 1 (x_get 3 1 (x_icmp_ne (b_X1_exactWays_45 J Q) (x_aload 1 (x_iload 3 (x_callr none 2 spr_X1_allGot (x_if_eq (b_X1_exactWays_45 J Q) (x_iinc 2 1 (b_X1_exactWays_45 J Q)))))))))))))))
set_option maxRecDepth 100000 in
theorem s_X1_exactWays_14 {p : Program} {l : Launch} {e : Env} {R : Room} {s : State} {m : MethodId} {args : Array Value} {below : List Frame} {meth : Method} {c : Code} {nW : Nat} {dC : Nat → ClassId} {dI : Nat → Nat → Nat} {k : Nat → ClassId} {g : Nat → Nat} {A : Nat → Prop} {J : Nat → List qV → List qV → qW → Prop} {Q : qR} (X : q_X p R s m args meth c cX1_exactWays 4 nW 1 24 RX1 (some .int) dC dI k g A) (hJ : ∀ d : Nat, q_Sd p l e R s m args below meth c 4 nW dC dI k g A (MQ below (q_post (dC, dI) k g nW Q A) args s 0 0 A) d (x_cut (is_X1_exactWays d) (J d))) : q_Sd p l e R s m args below meth c 4 nW dC dI k g A (MQ below (q_post (dC, dI) k g nW Q A) args s 0 0 A) 14 (b_X1_exactWays_14 J Q) := by
  unfold b_X1_exactWays_14
  refine s_iload_n X rfl dX1_exactWays_14 ?_
  refine s_sipush X ⟨by decide, by decide⟩ (by decide) dX1_exactWays_15 ?_
  refine s_icmp_ge X (tgt := 51) dX1_exactWays_18 (by decide) ?_ ?_
  · refine s_iload_n X rfl dX1_exactWays_51 ?_
    exact s_iret X dX1_exactWays_52
  · refine s_aload_n X rfl dX1_exactWays_21 ?_
    refine s_get X (T := TX1) (C := RX1) (N := 3) tu_X1 rfl (by decide) tw_324 dX1_exactWays_22 ?_
    refine s_iload_n X rfl dX1_exactWays_25 ?_
    refine s_iald X dX1_exactWays_26 ?_
    refine s_aload_n X rfl dX1_exactWays_27 ?_
    refine s_get X (T := TX3) (C := RX3) (N := 2) tu_X3 rfl (by decide) tw_235 dX1_exactWays_28 ?_
    refine s_icmp_ne X (tgt := 45) dX1_exactWays_31 (by decide) ?_ ?_
    · exact s_X1_exactWays_45 X hJ
    · refine s_aload_n X rfl dX1_exactWays_34 ?_
      refine s_iload_n X rfl dX1_exactWays_35 ?_
      refine s_callSr X (m_X1_allGot l) tw_786 tw_787 tw_133 tw_788 (by decide +kernel) ⟨by decide, by decide⟩ dX1_exactWays_36 ?_
      refine s_if_eq X (tgt := 45) dX1_exactWays_39 (by decide) ?_ ?_
      · exact s_X1_exactWays_45 X hJ
      · refine s_iinc X (by decide) dX1_exactWays_42 ?_
        exact s_X1_exactWays_45 X hJ
set_option maxRecDepth 100000 in
def b_X1_exactWays_0 (J : Nat → List qV → List qV → qW → Prop) (Q : qR) : qK := x_aload 0 (x_aload 1 (x_get 3 0 (x_int 8 (x_call (some 1) 3 sp_X1_addUp (x_nw (x_int 0 (x_istore 2 (x_int 0 (x_istore 3 (x_cut [0, 1, 2, 3] (J 14)))))))))))
set_option maxRecDepth 100000 in
theorem s_X1_exactWays_0 {p : Program} {l : Launch} {e : Env} {R : Room} {s : State} {m : MethodId} {args : Array Value} {below : List Frame} {meth : Method} {c : Code} {nW : Nat} {dC : Nat → ClassId} {dI : Nat → Nat → Nat} {k : Nat → ClassId} {g : Nat → Nat} {A : Nat → Prop} {J : Nat → List qV → List qV → qW → Prop} {Q : qR} (X : q_X p R s m args meth c cX1_exactWays 4 nW 1 24 RX1 (some .int) dC dI k g A) (hJ : ∀ d : Nat, q_Sd p l e R s m args below meth c 4 nW dC dI k g A (MQ below (q_post (dC, dI) k g nW Q A) args s 0 0 A) d (x_cut (is_X1_exactWays d) (J d))) : q_Sd p l e R s m args below meth c 4 nW dC dI k g A (MQ below (q_post (dC, dI) k g nW Q A) args s 0 0 A) 0 (b_X1_exactWays_0 J Q) := by
  unfold b_X1_exactWays_0
  refine s_aload_n X rfl dX1_exactWays_0 ?_
  refine s_aload_n X rfl dX1_exactWays_1 ?_
  refine s_get X (T := TX3) (C := RX3) (N := 2) tu_X3 rfl (by decide) tw_231 dX1_exactWays_2 ?_
  refine s_bipush X ⟨by decide, by decide⟩ (by decide) dX1_exactWays_5 ?_
  refine s_callV X (m_X1_addUp l) tw_778 tw_779 tw_1489 tw_133 tw_780 rfl (by decide +kernel) ⟨by decide, by decide⟩ dX1_exactWays_7 ?_
  refine s_nw ?_
  refine s_iconst X ⟨by decide, by decide⟩ dX1_exactWays_10 ?_
  refine s_istore_n X rfl (by decide) dX1_exactWays_11 ?_
  refine s_iconst X ⟨by decide, by decide⟩ dX1_exactWays_12 ?_
  refine s_istore_n X rfl (by decide) dX1_exactWays_13 ?_
  exact hJ 14

def sp_X1_exactWays : qS := fun av w Q => ∃ (c1 : Nat → Int) (c2 : Nat → Int) (c3 : Nat → Int) (g1 : Nat → Int) (o1 : Int), av = [q2 0, q2 4] ∧ w = (wCo 0 c1 c2 c3 ++ wLo 4 g1 o1) ∧ (∀ (r : Int) (x2 : Nat → Int), Q (some (q1 r)) ((wCo 0 c1 x2 c3 ++ wLo 4 g1 o1)))
def I_X1_exactWays (c1 : Nat → Int) (c2 : Nat → Int) (c3 : Nat → Int) (g1 : Nat → Int) (o1 : Int) : Nat → Nat → List qV → List qV → qW → Prop := fun dz mz vz sz wz => if dz = 14 then (∃ (y2 : Nat → Int) (v2 : Int) (v3 : Int), vz = [q2 0, q2 4, q1 v2, q1 v3] ∧ sz = [] ∧ wz = (wCo 0 c1 y2 c3 ++ wLo 4 g1 o1) ∧ mz = (256 - v3).toNat ∧ (0 ≤ v3 ∧ v3 ≤ 256)) else False
set_option maxHeartbeats 4000000 in
set_option maxRecDepth 100000 in
theorem m_X1_exactWays (l : Launch) : q_M l yX1_exactWays cX1_exactWays 4 (some .int) 1 24 sp_X1_exactWays := by
  refine q_meth (by decide) (fun av w Q h => by obtain ⟨c1, c2, c3, g1, o1, rfl, rfl, hQ⟩ := h; exact Nat.le_of_ble_eq_true rfl) ?_
  intro p e R s m args below meth c dC dI k g A av w Q hsp oka okw X
  obtain ⟨c1, c2, c3, g1, o1, rfl, rfl, hQ⟩ := hsp
  refine s_mono (s_X1_exactWays_0 X (J := fun dz vz sz wz => ∃ mz, I_X1_exactWays c1 c2 c3 g1 o1 dz mz vz sz wz) (q_loopn (I_X1_exactWays c1 c2 c3 g1 o1) (fun dz J => if dz = 14 then b_X1_exactWays_14 J Q else q_F) ?hs ?hv)) ?_
  case hs =>
    intro d J hJ
    by_cases h14 : d = 14
    · subst h14; exact s_X1_exactWays_14 X hJ
    simp only [h14, if_false]
    exact s_F
  case hv =>
    intro dz mz vz sz wz hI okv oks okw hlen
    by_cases h14 : dz = 14
    · subst h14
      obtain ⟨y2, v2, v3, rfl, rfl, rfl, hn, hp⟩ := hI
      apply And.intro
      · intro h18
        exact hQ _ _
      · intro h18
        apply And.intro
        · exact ⟨by omega, by omega⟩
        intro z26 h26
        apply And.intro
        · intro h31
          intro z45 h45
          first | replace h45 := e_add h45 (by omega) | replace h45 := e_rng h45
          exact ⟨_, ⟨_, _, _, rfl, rfl, rfl, rfl, (by first | omega | assumption | exact q_rg_up (by assumption) (by omega) | exact q_rg_up (q_rg_up (by assumption) (by omega)) (by omega) | exact q_rg_cpy (by assumption) (by assumption))⟩, by omega⟩
        · intro h31
          refine Exists.intro [4, 5] (Exists.intro [q2 0, q1 _] (Exists.intro ((wLo 0 _ _)) (And.intro rfl (And.intro rfl (And.intro rfl (And.intro trivial ?_))))))
          refine Exists.intro _ (Exists.intro _ (Exists.intro _ (And.intro rfl (And.intro rfl (?_)))))
          intro z36 h36
          apply And.intro
          · intro h39
            intro z45 h45
            first | replace h45 := e_add h45 (by omega) | replace h45 := e_rng h45
            exact ⟨_, ⟨_, _, _, rfl, rfl, rfl, rfl, (by first | omega | assumption | exact q_rg_up (by assumption) (by omega) | exact q_rg_up (q_rg_up (by assumption) (by omega)) (by omega) | exact q_rg_cpy (by assumption) (by assumption))⟩, by omega⟩
          · intro h39
            intro z42 h42
            first | replace h42 := e_add h42 (by omega) | replace h42 := e_rng h42
            intro z45 h45
            first | replace h45 := e_add h45 (by omega) | replace h45 := e_rng h45
            exact ⟨_, ⟨_, _, _, rfl, rfl, rfl, rfl, (by first | omega | assumption | exact q_rg_up (by assumption) (by omega) | exact q_rg_up (q_rg_up (by assumption) (by omega)) (by omega) | exact q_rg_cpy (by assumption) (by assumption))⟩, by omega⟩
    simp only [I_X1_exactWays, h14, if_false] at hI
  rintro lv st w' ⟨rfl, rfl, rfl⟩
  refine Exists.intro [0, 1, 2, 3, 5] (Exists.intro [q2 0, q2 4, q1 _] (Exists.intro ((wCo 0 _ _ _ ++ [.inl (0, 8, .inl _)])) (And.intro rfl (And.intro rfl (And.intro rfl (And.intro ⟨⟨_, rfl⟩, rfl⟩ ?_))))))
  refine Exists.intro _ (Exists.intro _ (Exists.intro _ (Exists.intro _ (Exists.intro _ (And.intro rfl (And.intro rfl (?_)))))))
  intro x2_7
  exact ⟨_, _, _, _, rfl, rfl, rfl, rfl, (by first | omega | assumption | exact q_rg_up (by assumption) (by omega) | exact q_rg_up (q_rg_up (by assumption) (by omega)) (by omega) | exact q_rg_cpy (by assumption) (by assumption))⟩

theorem dX1_firstExact_0 : decode cX1_firstExact 0 = .ok (.aload_n 0, 1) := by decide +kernel
theorem dX1_firstExact_1 : decode cX1_firstExact 1 = .ok (.aload_n 1, 1) := by decide +kernel
theorem dX1_firstExact_2 : decode cX1_firstExact 2 = .ok (.getfield 70, 3) := by decide +kernel
theorem dX1_firstExact_5 : decode cX1_firstExact 5 = .ok (.bipush 8, 2) := by decide +kernel
theorem dX1_firstExact_7 : decode cX1_firstExact 7 = .ok (.invokevirtual 61, 3) := by decide +kernel
theorem dX1_firstExact_10 : decode cX1_firstExact 10 = .ok (.iconst (-1), 1) := by decide +kernel
theorem dX1_firstExact_11 : decode cX1_firstExact 11 = .ok (.istore_n 2, 1) := by decide +kernel
theorem dX1_firstExact_12 : decode cX1_firstExact 12 = .ok (.iconst 0, 1) := by decide +kernel
theorem dX1_firstExact_13 : decode cX1_firstExact 13 = .ok (.istore_n 3, 1) := by decide +kernel
theorem dX1_firstExact_14 : decode cX1_firstExact 14 = .ok (.iload_n 3, 1) := by decide +kernel
theorem dX1_firstExact_15 : decode cX1_firstExact 15 = .ok (.sipush 256, 3) := by decide +kernel
theorem dX1_firstExact_18 : decode cX1_firstExact 18 = .ok (.if_icmp .ge 45, 3) := by decide +kernel
theorem dX1_firstExact_21 : decode cX1_firstExact 21 = .ok (.aload_n 0, 1) := by decide +kernel
theorem dX1_firstExact_22 : decode cX1_firstExact 22 = .ok (.getfield 15, 3) := by decide +kernel
theorem dX1_firstExact_25 : decode cX1_firstExact 25 = .ok (.iload_n 3, 1) := by decide +kernel
theorem dX1_firstExact_26 : decode cX1_firstExact 26 = .ok (.iaload, 1) := by decide +kernel
theorem dX1_firstExact_27 : decode cX1_firstExact 27 = .ok (.aload_n 1, 1) := by decide +kernel
theorem dX1_firstExact_28 : decode cX1_firstExact 28 = .ok (.getfield 75, 3) := by decide +kernel
theorem dX1_firstExact_31 : decode cX1_firstExact 31 = .ok (.if_icmp .ne 26, 3) := by decide +kernel
theorem dX1_firstExact_34 : decode cX1_firstExact 34 = .ok (.aload_n 1, 1) := by decide +kernel
theorem dX1_firstExact_35 : decode cX1_firstExact 35 = .ok (.iload_n 3, 1) := by decide +kernel
theorem dX1_firstExact_36 : decode cX1_firstExact 36 = .ok (.invokestatic 78, 3) := by decide +kernel
theorem dX1_firstExact_39 : decode cX1_firstExact 39 = .ok (.ifCond .eq 18, 3) := by decide +kernel
theorem dX1_firstExact_42 : decode cX1_firstExact 42 = .ok (.iload_n 2, 1) := by decide +kernel
theorem dX1_firstExact_43 : decode cX1_firstExact 43 = .ok (.iconst (-1), 1) := by decide +kernel
theorem dX1_firstExact_44 : decode cX1_firstExact 44 = .ok (.if_icmp .eq 11, 3) := by decide +kernel
theorem dX1_firstExact_47 : decode cX1_firstExact 47 = .ok (.iload_n 3, 1) := by decide +kernel
theorem dX1_firstExact_48 : decode cX1_firstExact 48 = .ok (.iload_n 2, 1) := by decide +kernel
theorem dX1_firstExact_49 : decode cX1_firstExact 49 = .ok (.invokestatic 82, 3) := by decide +kernel
theorem dX1_firstExact_52 : decode cX1_firstExact 52 = .ok (.ifCond .eq 5, 3) := by decide +kernel
theorem dX1_firstExact_55 : decode cX1_firstExact 55 = .ok (.iload_n 3, 1) := by decide +kernel
theorem dX1_firstExact_56 : decode cX1_firstExact 56 = .ok (.istore_n 2, 1) := by decide +kernel
theorem dX1_firstExact_57 : decode cX1_firstExact 57 = .ok (.iinc 3 1, 3) := by decide +kernel
theorem dX1_firstExact_60 : decode cX1_firstExact 60 = .ok (.goto (-46), 3) := by decide +kernel
theorem dX1_firstExact_63 : decode cX1_firstExact 63 = .ok (.iload_n 2, 1) := by decide +kernel
theorem dX1_firstExact_64 : decode cX1_firstExact 64 = .ok (.ireturn, 1) := by decide +kernel
def is_X1_firstExact : Nat → List Nat := fun d => if d = 14 then [0, 1, 2, 3] else []
set_option maxRecDepth 100000 in
def b_X1_firstExact_57 (J : Nat → List qV → List qV → qW → Prop) (Q : qR) : qK := x_iinc 3 1 (x_cut [0, 1, 2, 3] (J 14))
set_option maxRecDepth 100000 in
theorem s_X1_firstExact_57 {p : Program} {l : Launch} {e : Env} {R : Room} {s : State} {m : MethodId} {args : Array Value} {below : List Frame} {meth : Method} {c : Code} {nW : Nat} {dC : Nat → ClassId} {dI : Nat → Nat → Nat} {k : Nat → ClassId} {g : Nat → Nat} {A : Nat → Prop} {J : Nat → List qV → List qV → qW → Prop} {Q : qR} (X : q_X p R s m args meth c cX1_firstExact 4 nW 1 24 RX1 (some .int) dC dI k g A) (hJ : ∀ d : Nat, q_Sd p l e R s m args below meth c 4 nW dC dI k g A (MQ below (q_post (dC, dI) k g nW Q A) args s 0 0 A) d (x_cut (is_X1_firstExact d) (J d))) : q_Sd p l e R s m args below meth c 4 nW dC dI k g A (MQ below (q_post (dC, dI) k g nW Q A) args s 0 0 A) 57 (b_X1_firstExact_57 J Q) := by
  unfold b_X1_firstExact_57
  refine s_iinc X (by decide) dX1_firstExact_57 ?_
  refine s_goto X (tgt := 14) dX1_firstExact_60 (by decide) ?_
  exact hJ 14
set_option maxRecDepth 100000 in
def b_X1_firstExact_55 (J : Nat → List qV → List qV → qW → Prop) (Q : qR) : qK := x_iload 3 (x_istore 2 (b_X1_firstExact_57 J Q))
set_option maxRecDepth 100000 in
theorem s_X1_firstExact_55 {p : Program} {l : Launch} {e : Env} {R : Room} {s : State} {m : MethodId} {args : Array Value} {below : List Frame} {meth : Method} {c : Code} {nW : Nat} {dC : Nat → ClassId} {dI : Nat → Nat → Nat} {k : Nat → ClassId} {g : Nat → Nat} {A : Nat → Prop} {J : Nat → List qV → List qV → qW → Prop} {Q : qR} (X : q_X p R s m args meth c cX1_firstExact 4 nW 1 24 RX1 (some .int) dC dI k g A) (hJ : ∀ d : Nat, q_Sd p l e R s m args below meth c 4 nW dC dI k g A (MQ below (q_post (dC, dI) k g nW Q A) args s 0 0 A) d (x_cut (is_X1_firstExact d) (J d))) : q_Sd p l e R s m args below meth c 4 nW dC dI k g A (MQ below (q_post (dC, dI) k g nW Q A) args s 0 0 A) 55 (b_X1_firstExact_55 J Q) := by
  unfold b_X1_firstExact_55
  refine s_iload_n X rfl dX1_firstExact_55 ?_
  refine s_istore_n X rfl (by decide) dX1_firstExact_56 ?_
  exact s_X1_firstExact_57 X hJ
set_option maxRecDepth 100000 in
def b_X1_firstExact_14 (J : Nat → List qV → List qV → qW → Prop) (Q : qR) : qK := x_iload 3 (x_int 256 (x_icmp_ge (x_iload 2 (x_iret Q)) (x_aload 0 (x_get 1 1 (x_iload 3 (x_iald (x_aload 1 (x_get 3 1 (x_icmp_ne (b_X1_firstExact_57 J Q) (x_aload 1 (x_iload 3 (x_callr none 2 spr_X1_allGot (x_if_eq (b_X1_firstExact_57 J Q) (x_iload 2 (x_int (-1) (x_icmp_eq (b_X1_firstExact_55 J Q) (x_iload 3 (x_iload 2 (x_callr none 2 spr_X1_comesBefore (x_if_eq (b_X1_firstExact_57 J Q) (b_X1_firstExact_55 J Q)))))))))))))))))))))
set_option maxRecDepth 100000 in
theorem s_X1_firstExact_14 {p : Program} {l : Launch} {e : Env} {R : Room} {s : State} {m : MethodId} {args : Array Value} {below : List Frame} {meth : Method} {c : Code} {nW : Nat} {dC : Nat → ClassId} {dI : Nat → Nat → Nat} {k : Nat → ClassId} {g : Nat → Nat} {A : Nat → Prop} {J : Nat → List qV → List qV → qW → Prop} {Q : qR} (X : q_X p R s m args meth c cX1_firstExact 4 nW 1 24 RX1 (some .int) dC dI k g A) (hJ : ∀ d : Nat, q_Sd p l e R s m args below meth c 4 nW dC dI k g A (MQ below (q_post (dC, dI) k g nW Q A) args s 0 0 A) d (x_cut (is_X1_firstExact d) (J d))) : q_Sd p l e R s m args below meth c 4 nW dC dI k g A (MQ below (q_post (dC, dI) k g nW Q A) args s 0 0 A) 14 (b_X1_firstExact_14 J Q) := by
  unfold b_X1_firstExact_14
  refine s_iload_n X rfl dX1_firstExact_14 ?_
  refine s_sipush X ⟨by decide, by decide⟩ (by decide) dX1_firstExact_15 ?_
  refine s_icmp_ge X (tgt := 63) dX1_firstExact_18 (by decide) ?_ ?_
  · refine s_iload_n X rfl dX1_firstExact_63 ?_
    exact s_iret X dX1_firstExact_64
  · refine s_aload_n X rfl dX1_firstExact_21 ?_
    refine s_get X (T := TX1) (C := RX1) (N := 3) tu_X1 rfl (by decide) tw_324 dX1_firstExact_22 ?_
    refine s_iload_n X rfl dX1_firstExact_25 ?_
    refine s_iald X dX1_firstExact_26 ?_
    refine s_aload_n X rfl dX1_firstExact_27 ?_
    refine s_get X (T := TX3) (C := RX3) (N := 2) tu_X3 rfl (by decide) tw_235 dX1_firstExact_28 ?_
    refine s_icmp_ne X (tgt := 57) dX1_firstExact_31 (by decide) ?_ ?_
    · exact s_X1_firstExact_57 X hJ
    · refine s_aload_n X rfl dX1_firstExact_34 ?_
      refine s_iload_n X rfl dX1_firstExact_35 ?_
      refine s_callSr X (m_X1_allGot l) tw_786 tw_787 tw_133 tw_788 (by decide +kernel) ⟨by decide, by decide⟩ dX1_firstExact_36 ?_
      refine s_if_eq X (tgt := 57) dX1_firstExact_39 (by decide) ?_ ?_
      · exact s_X1_firstExact_57 X hJ
      · refine s_iload_n X rfl dX1_firstExact_42 ?_
        refine s_iconst X ⟨by decide, by decide⟩ dX1_firstExact_43 ?_
        refine s_icmp_eq X (tgt := 55) dX1_firstExact_44 (by decide) ?_ ?_
        · exact s_X1_firstExact_55 X hJ
        · refine s_iload_n X rfl dX1_firstExact_47 ?_
          refine s_iload_n X rfl dX1_firstExact_48 ?_
          refine s_callSr X (m_X1_comesBefore l) tw_793 tw_794 tw_133 tw_795 (by decide +kernel) ⟨by decide, by decide⟩ dX1_firstExact_49 ?_
          refine s_if_eq X (tgt := 57) dX1_firstExact_52 (by decide) ?_ ?_
          · exact s_X1_firstExact_57 X hJ
          · exact s_X1_firstExact_55 X hJ
set_option maxRecDepth 100000 in
def b_X1_firstExact_0 (J : Nat → List qV → List qV → qW → Prop) (Q : qR) : qK := x_aload 0 (x_aload 1 (x_get 3 0 (x_int 8 (x_call (some 1) 3 sp_X1_addUp (x_nw (x_int (-1) (x_istore 2 (x_int 0 (x_istore 3 (x_cut [0, 1, 2, 3] (J 14)))))))))))
set_option maxRecDepth 100000 in
theorem s_X1_firstExact_0 {p : Program} {l : Launch} {e : Env} {R : Room} {s : State} {m : MethodId} {args : Array Value} {below : List Frame} {meth : Method} {c : Code} {nW : Nat} {dC : Nat → ClassId} {dI : Nat → Nat → Nat} {k : Nat → ClassId} {g : Nat → Nat} {A : Nat → Prop} {J : Nat → List qV → List qV → qW → Prop} {Q : qR} (X : q_X p R s m args meth c cX1_firstExact 4 nW 1 24 RX1 (some .int) dC dI k g A) (hJ : ∀ d : Nat, q_Sd p l e R s m args below meth c 4 nW dC dI k g A (MQ below (q_post (dC, dI) k g nW Q A) args s 0 0 A) d (x_cut (is_X1_firstExact d) (J d))) : q_Sd p l e R s m args below meth c 4 nW dC dI k g A (MQ below (q_post (dC, dI) k g nW Q A) args s 0 0 A) 0 (b_X1_firstExact_0 J Q) := by
  unfold b_X1_firstExact_0
  refine s_aload_n X rfl dX1_firstExact_0 ?_
  refine s_aload_n X rfl dX1_firstExact_1 ?_
  refine s_get X (T := TX3) (C := RX3) (N := 2) tu_X3 rfl (by decide) tw_231 dX1_firstExact_2 ?_
  refine s_bipush X ⟨by decide, by decide⟩ (by decide) dX1_firstExact_5 ?_
  refine s_callV X (m_X1_addUp l) tw_778 tw_779 tw_1489 tw_133 tw_780 rfl (by decide +kernel) ⟨by decide, by decide⟩ dX1_firstExact_7 ?_
  refine s_nw ?_
  refine s_iconst X ⟨by decide, by decide⟩ dX1_firstExact_10 ?_
  refine s_istore_n X rfl (by decide) dX1_firstExact_11 ?_
  refine s_iconst X ⟨by decide, by decide⟩ dX1_firstExact_12 ?_
  refine s_istore_n X rfl (by decide) dX1_firstExact_13 ?_
  exact hJ 14

def sp_X1_firstExact : qS := fun av w Q => ∃ (c1 : Nat → Int) (c2 : Nat → Int) (c3 : Nat → Int) (g1 : Nat → Int) (o1 : Int), av = [q2 0, q2 4] ∧ w = (wCo 0 c1 c2 c3 ++ wLo 4 g1 o1) ∧ (∀ (r : Int) (x2 : Nat → Int), Q (some (q1 r)) ((wCo 0 c1 x2 c3 ++ wLo 4 g1 o1)))
def I_X1_firstExact (c1 : Nat → Int) (c2 : Nat → Int) (c3 : Nat → Int) (g1 : Nat → Int) (o1 : Int) : Nat → Nat → List qV → List qV → qW → Prop := fun dz mz vz sz wz => if dz = 14 then (∃ (y2 : Nat → Int) (v2 : Int) (v3 : Int), vz = [q2 0, q2 4, q1 v2, q1 v3] ∧ sz = [] ∧ wz = (wCo 0 c1 y2 c3 ++ wLo 4 g1 o1) ∧ mz = (256 - v3).toNat ∧ (0 ≤ v3 ∧ v3 ≤ 256)) else False
set_option maxHeartbeats 4000000 in
set_option maxRecDepth 100000 in
theorem m_X1_firstExact (l : Launch) : q_M l yX1_firstExact cX1_firstExact 4 (some .int) 1 24 sp_X1_firstExact := by
  refine q_meth (by decide) (fun av w Q h => by obtain ⟨c1, c2, c3, g1, o1, rfl, rfl, hQ⟩ := h; exact Nat.le_of_ble_eq_true rfl) ?_
  intro p e R s m args below meth c dC dI k g A av w Q hsp oka okw X
  obtain ⟨c1, c2, c3, g1, o1, rfl, rfl, hQ⟩ := hsp
  refine s_mono (s_X1_firstExact_0 X (J := fun dz vz sz wz => ∃ mz, I_X1_firstExact c1 c2 c3 g1 o1 dz mz vz sz wz) (q_loopn (I_X1_firstExact c1 c2 c3 g1 o1) (fun dz J => if dz = 14 then b_X1_firstExact_14 J Q else q_F) ?hs ?hv)) ?_
  case hs =>
    intro d J hJ
    by_cases h14 : d = 14
    · subst h14; exact s_X1_firstExact_14 X hJ
    simp only [h14, if_false]
    exact s_F
  case hv =>
    intro dz mz vz sz wz hI okv oks okw hlen
    by_cases h14 : dz = 14
    · subst h14
      obtain ⟨y2, v2, v3, rfl, rfl, rfl, hn, hp⟩ := hI
      apply And.intro
      · intro h18
        exact hQ _ _
      · intro h18
        apply And.intro
        · exact ⟨by omega, by omega⟩
        intro z26 h26
        apply And.intro
        · intro h31
          intro z57 h57
          first | replace h57 := e_add h57 (by omega) | replace h57 := e_rng h57
          exact ⟨_, ⟨_, _, _, rfl, rfl, rfl, rfl, (by first | omega | assumption | exact q_rg_up (by assumption) (by omega) | exact q_rg_up (q_rg_up (by assumption) (by omega)) (by omega) | exact q_rg_cpy (by assumption) (by assumption))⟩, by omega⟩
        · intro h31
          refine Exists.intro [4, 5] (Exists.intro [q2 0, q1 _] (Exists.intro ((wLo 0 _ _)) (And.intro rfl (And.intro rfl (And.intro rfl (And.intro trivial ?_))))))
          refine Exists.intro _ (Exists.intro _ (Exists.intro _ (And.intro rfl (And.intro rfl (?_)))))
          intro z36 h36
          apply And.intro
          · intro h39
            intro z57 h57
            first | replace h57 := e_add h57 (by omega) | replace h57 := e_rng h57
            exact ⟨_, ⟨_, _, _, rfl, rfl, rfl, rfl, (by first | omega | assumption | exact q_rg_up (by assumption) (by omega) | exact q_rg_up (q_rg_up (by assumption) (by omega)) (by omega) | exact q_rg_cpy (by assumption) (by assumption))⟩, by omega⟩
          · intro h39
            apply And.intro
            · intro h44
              intro z57 h57
              first | replace h57 := e_add h57 (by omega) | replace h57 := e_rng h57
              exact ⟨_, ⟨_, _, _, rfl, rfl, rfl, rfl, (by first | omega | assumption | exact q_rg_up (by assumption) (by omega) | exact q_rg_up (q_rg_up (by assumption) (by omega)) (by omega) | exact q_rg_cpy (by assumption) (by assumption))⟩, by omega⟩
            · intro h44
              refine Exists.intro [] (Exists.intro [q1 _, q1 _] (Exists.intro ([]) (And.intro rfl (And.intro rfl (And.intro rfl (And.intro trivial ?_))))))
              refine Exists.intro _ (Exists.intro _ (And.intro rfl (And.intro rfl (?_))))
              intro z49 h49
              apply And.intro
              · intro h52
                intro z57 h57
                first | replace h57 := e_add h57 (by omega) | replace h57 := e_rng h57
                exact ⟨_, ⟨_, _, _, rfl, rfl, rfl, rfl, (by first | omega | assumption | exact q_rg_up (by assumption) (by omega) | exact q_rg_up (q_rg_up (by assumption) (by omega)) (by omega) | exact q_rg_cpy (by assumption) (by assumption))⟩, by omega⟩
              · intro h52
                intro z57 h57
                first | replace h57 := e_add h57 (by omega) | replace h57 := e_rng h57
                exact ⟨_, ⟨_, _, _, rfl, rfl, rfl, rfl, (by first | omega | assumption | exact q_rg_up (by assumption) (by omega) | exact q_rg_up (q_rg_up (by assumption) (by omega)) (by omega) | exact q_rg_cpy (by assumption) (by assumption))⟩, by omega⟩
    simp only [I_X1_firstExact, h14, if_false] at hI
  rintro lv st w' ⟨rfl, rfl, rfl⟩
  refine Exists.intro [0, 1, 2, 3, 5] (Exists.intro [q2 0, q2 4, q1 _] (Exists.intro ((wCo 0 _ _ _ ++ [.inl (0, 8, .inl _)])) (And.intro rfl (And.intro rfl (And.intro rfl (And.intro ⟨⟨_, rfl⟩, rfl⟩ ?_))))))
  refine Exists.intro _ (Exists.intro _ (Exists.intro _ (Exists.intro _ (Exists.intro _ (And.intro rfl (And.intro rfl (?_)))))))
  intro x2_7
  exact ⟨_, _, _, _, rfl, rfl, rfl, rfl, (by first | omega | assumption | exact q_rg_up (by assumption) (by omega) | exact q_rg_up (q_rg_up (by assumption) (by omega)) (by omega) | exact q_rg_cpy (by assumption) (by assumption))⟩

theorem dX1_difference_0 : decode cX1_difference 0 = .ok (.iconst 1, 1) := by decide +kernel
theorem dX1_difference_1 : decode cX1_difference 1 = .ok (.aload_n 1, 1) := by decide +kernel
theorem dX1_difference_2 : decode cX1_difference 2 = .ok (.getfield 22, 3) := by decide +kernel
theorem dX1_difference_5 : decode cX1_difference 5 = .ok (.ishl, 1) := by decide +kernel
theorem dX1_difference_6 : decode cX1_difference 6 = .ok (.iconst 1, 1) := by decide +kernel
theorem dX1_difference_7 : decode cX1_difference 7 = .ok (.isub, 1) := by decide +kernel
theorem dX1_difference_8 : decode cX1_difference 8 = .ok (.istore_n 3, 1) := by decide +kernel
theorem dX1_difference_9 : decode cX1_difference 9 = .ok (.iload_n 2, 1) := by decide +kernel
theorem dX1_difference_10 : decode cX1_difference 10 = .ok (.ifCond .lt 15, 3) := by decide +kernel
theorem dX1_difference_13 : decode cX1_difference 13 = .ok (.iload_n 2, 1) := by decide +kernel
theorem dX1_difference_14 : decode cX1_difference 14 = .ok (.iload_n 3, 1) := by decide +kernel
theorem dX1_difference_15 : decode cX1_difference 15 = .ok (.if_icmp .gt 10, 3) := by decide +kernel
theorem dX1_difference_18 : decode cX1_difference 18 = .ok (.iload_n 3, 1) := by decide +kernel
theorem dX1_difference_19 : decode cX1_difference 19 = .ok (.sipush 256, 3) := by decide +kernel
theorem dX1_difference_22 : decode cX1_difference 22 = .ok (.if_icmp .lt 5, 3) := by decide +kernel
theorem dX1_difference_25 : decode cX1_difference 25 = .ok (.iconst (-1), 1) := by decide +kernel
theorem dX1_difference_26 : decode cX1_difference 26 = .ok (.ireturn, 1) := by decide +kernel
theorem dX1_difference_27 : decode cX1_difference 27 = .ok (.aload_n 0, 1) := by decide +kernel
theorem dX1_difference_28 : decode cX1_difference 28 = .ok (.getfield 15, 3) := by decide +kernel
theorem dX1_difference_31 : decode cX1_difference 31 = .ok (.iload_n 3, 1) := by decide +kernel
theorem dX1_difference_32 : decode cX1_difference 32 = .ok (.iaload, 1) := by decide +kernel
theorem dX1_difference_33 : decode cX1_difference 33 = .ok (.iconst 2, 1) := by decide +kernel
theorem dX1_difference_34 : decode cX1_difference 34 = .ok (.aload_n 0, 1) := by decide +kernel
theorem dX1_difference_35 : decode cX1_difference 35 = .ok (.getfield 15, 3) := by decide +kernel
theorem dX1_difference_38 : decode cX1_difference 38 = .ok (.iload_n 2, 1) := by decide +kernel
theorem dX1_difference_39 : decode cX1_difference 39 = .ok (.iaload, 1) := by decide +kernel
theorem dX1_difference_40 : decode cX1_difference 40 = .ok (.imul, 1) := by decide +kernel
theorem dX1_difference_41 : decode cX1_difference 41 = .ok (.isub, 1) := by decide +kernel
theorem dX1_difference_42 : decode cX1_difference 42 = .ok (.invokestatic 86, 3) := by decide +kernel
theorem dX1_difference_45 : decode cX1_difference 45 = .ok (.ireturn, 1) := by decide +kernel
def is_X1_difference : Nat → List Nat := fun d => []
set_option maxRecDepth 100000 in
def b_X1_difference_25 (J : Nat → List qV → List qV → qW → Prop) (Q : qR) : qK := x_int (-1) (x_iret Q)
set_option maxRecDepth 100000 in
theorem s_X1_difference_25 {p : Program} {l : Launch} {e : Env} {R : Room} {s : State} {m : MethodId} {args : Array Value} {below : List Frame} {meth : Method} {c : Code} {nW : Nat} {dC : Nat → ClassId} {dI : Nat → Nat → Nat} {k : Nat → ClassId} {g : Nat → Nat} {A : Nat → Prop} {J : Nat → List qV → List qV → qW → Prop} {Q : qR} (X : q_X p R s m args meth c cX1_difference 4 nW 1 21 RX1 (some .int) dC dI k g A) (hJ : ∀ d : Nat, q_Sd p l e R s m args below meth c 4 nW dC dI k g A (MQ below (q_post (dC, dI) k g nW Q A) args s 0 0 A) d (x_cut (is_X1_difference d) (J d))) : q_Sd p l e R s m args below meth c 4 nW dC dI k g A (MQ below (q_post (dC, dI) k g nW Q A) args s 0 0 A) 25 (b_X1_difference_25 J Q) := by
  unfold b_X1_difference_25
  refine s_iconst X ⟨by decide, by decide⟩ dX1_difference_25 ?_
  exact s_iret X dX1_difference_26
set_option maxRecDepth 100000 in
def b_X1_difference_0 (J : Nat → List qV → List qV → qW → Prop) (Q : qR) : qK := x_int 1 (x_aload 1 (x_get 0 7 (x_ishl (x_int 1 (x_isub (x_istore 3 (x_iload 2 (x_if_lt (b_X1_difference_25 J Q) (x_iload 2 (x_iload 3 (x_icmp_gt (b_X1_difference_25 J Q) (x_iload 3 (x_int 256 (x_icmp_lt (x_aload 0 (x_get 1 1 (x_iload 3 (x_iald (x_int 2 (x_aload 0 (x_get 1 1 (x_iload 2 (x_iald (x_imul (x_isub (x_abs (x_iret Q))))))))))))) (b_X1_difference_25 J Q)))))))))))))))
set_option maxRecDepth 100000 in
theorem s_X1_difference_0 {p : Program} {l : Launch} {e : Env} {R : Room} {s : State} {m : MethodId} {args : Array Value} {below : List Frame} {meth : Method} {c : Code} {nW : Nat} {dC : Nat → ClassId} {dI : Nat → Nat → Nat} {k : Nat → ClassId} {g : Nat → Nat} {A : Nat → Prop} {J : Nat → List qV → List qV → qW → Prop} {Q : qR} (X : q_X p R s m args meth c cX1_difference 4 nW 1 21 RX1 (some .int) dC dI k g A) (hJ : ∀ d : Nat, q_Sd p l e R s m args below meth c 4 nW dC dI k g A (MQ below (q_post (dC, dI) k g nW Q A) args s 0 0 A) d (x_cut (is_X1_difference d) (J d))) : q_Sd p l e R s m args below meth c 4 nW dC dI k g A (MQ below (q_post (dC, dI) k g nW Q A) args s 0 0 A) 0 (b_X1_difference_0 J Q) := by
  unfold b_X1_difference_0
  refine s_iconst X ⟨by decide, by decide⟩ dX1_difference_0 ?_
  refine s_aload_n X rfl dX1_difference_1 ?_
  refine s_get X (T := TX0) (C := RX0) (N := 12) tu_X0 rfl (by decide) tw_192 dX1_difference_2 ?_
  refine s_ishl X dX1_difference_5 ?_
  refine s_iconst X ⟨by decide, by decide⟩ dX1_difference_6 ?_
  refine s_isub X dX1_difference_7 ?_
  refine s_istore_n X rfl (by decide) dX1_difference_8 ?_
  refine s_iload_n X rfl dX1_difference_9 ?_
  refine s_if_lt X (tgt := 25) dX1_difference_10 (by decide) ?_ ?_
  · exact s_X1_difference_25 X hJ
  · refine s_iload_n X rfl dX1_difference_13 ?_
    refine s_iload_n X rfl dX1_difference_14 ?_
    refine s_icmp_gt X (tgt := 25) dX1_difference_15 (by decide) ?_ ?_
    · exact s_X1_difference_25 X hJ
    · refine s_iload_n X rfl dX1_difference_18 ?_
      refine s_sipush X ⟨by decide, by decide⟩ (by decide) dX1_difference_19 ?_
      refine s_icmp_lt X (tgt := 27) dX1_difference_22 (by decide) ?_ ?_
      · refine s_aload_n X rfl dX1_difference_27 ?_
        refine s_get X (T := TX1) (C := RX1) (N := 3) tu_X1 rfl (by decide) tw_324 dX1_difference_28 ?_
        refine s_iload_n X rfl dX1_difference_31 ?_
        refine s_iald X dX1_difference_32 ?_
        refine s_iconst X ⟨by decide, by decide⟩ dX1_difference_33 ?_
        refine s_aload_n X rfl dX1_difference_34 ?_
        refine s_get X (T := TX1) (C := RX1) (N := 3) tu_X1 rfl (by decide) tw_324 dX1_difference_35 ?_
        refine s_iload_n X rfl dX1_difference_38 ?_
        refine s_iald X dX1_difference_39 ?_
        refine s_imul X dX1_difference_40 ?_
        refine s_isub X dX1_difference_41 ?_
        refine s_abs X tw_939 tw_940 tw_135 tw_941 ⟨by decide, by decide⟩ dX1_difference_42 ?_
        exact s_iret X dX1_difference_45
      · exact s_X1_difference_25 X hJ

def spr_X1_difference : List qV → qW → (Option qV → Prop) → Prop := fun av w Q => ∃ (c1 : Nat → Int) (c2 : Nat → Int) (c3 : Nat → Int) (f1 : Nat → Int) (f2 : Nat → Int) (f3 : Nat → Int) (f4 : Nat → Int) (f5 : Nat → Int) (f6 : Nat → Int) (f7 : Nat → Int) (u0 : Int) (u1 : Int) (u2 : Int) (u3 : Int) (u4 : Int) (a : Int), av = [q2 0, q2 4, q1 a] ∧ w = (wCo 0 c1 c2 c3 ++ wBo 4 f1 f2 f3 f4 f5 f6 f7 u0 u1 u2 u3 u4) ∧ (0 ≤ u0 ∧ u0 ≤ 8) ∧ (∀ (r : Int) , Q (some (q1 r)))
def sp_X1_difference : qS := fun av w Q => spr_X1_difference av w (fun r => Q r w)
set_option maxHeartbeats 4000000 in
set_option maxRecDepth 100000 in
theorem m_X1_difference (l : Launch) : q_M l yX1_difference cX1_difference 4 (some .int) 1 21 sp_X1_difference := by
  refine q_meth (by decide) (fun av w Q h => by obtain ⟨c1, c2, c3, f1, f2, f3, f4, f5, f6, f7, u0, u1, u2, u3, u4, a, rfl, rfl, hu0, hQ⟩ := h; exact Nat.le_of_ble_eq_true rfl) ?_
  intro p e R s m args below meth c dC dI k g A av w Q hsp oka okw X
  obtain ⟨c1, c2, c3, f1, f2, f3, f4, f5, f6, f7, u0, u1, u2, u3, u4, a, rfl, rfl, hu0, hQ⟩ := hsp
  have o_a : -2147483648 ≤ a ∧ a ≤ 2147483647 := oka _ (List.mem_of_getElem? (i := 2) rfl)
  refine s_mono (s_X1_difference_0 X (J := fun _ _ _ _ => False) (fun d => s_cutF)) ?_
  rintro lv st w' ⟨rfl, rfl, rfl⟩
  intro z5 h5
  first | replace h5 := e_shl h5 (by omega) | replace h5 := e_rng h5
  intro z7 h7
  first | replace h7 := e_sub h7 (by omega) | replace h7 := e_rng h7
  apply And.intro
  · intro h10
    exact hQ _
  · intro h10
    apply And.intro
    · intro h15
      exact hQ _
    · intro h15
      apply And.intro
      · intro h22
        apply And.intro
        · exact ⟨by omega, by omega⟩
        intro z32 h32
        apply And.intro
        · exact ⟨by omega, by omega⟩
        intro z39 h39
        intro z40 h40
        first | replace h40 := e_mul h40 (by omega) | replace h40 := e_rng h40
        intro z41 h41
        first | replace h41 := e_sub h41 (by omega) | replace h41 := e_rng h41
        intro z42 h42
        replace h42 := e_rng h42
        exact hQ _
      · intro h22
        exact hQ _

theorem dX1_team_0 : decode cX1_team 0 = .ok (.aload_n 0, 1) := by decide +kernel
theorem dX1_team_1 : decode cX1_team 1 = .ok (.aload_n 1, 1) := by decide +kernel
theorem dX1_team_2 : decode cX1_team 2 = .ok (.getfield 28, 3) := by decide +kernel
theorem dX1_team_5 : decode cX1_team 5 = .ok (.aload_n 1, 1) := by decide +kernel
theorem dX1_team_6 : decode cX1_team 6 = .ok (.getfield 22, 3) := by decide +kernel
theorem dX1_team_9 : decode cX1_team 9 = .ok (.invokevirtual 61, 3) := by decide +kernel
theorem dX1_team_12 : decode cX1_team 12 = .ok (.iconst (-1), 1) := by decide +kernel
theorem dX1_team_13 : decode cX1_team 13 = .ok (.istore_n 2, 1) := by decide +kernel
theorem dX1_team_14 : decode cX1_team 14 = .ok (.iconst 1, 1) := by decide +kernel
theorem dX1_team_15 : decode cX1_team 15 = .ok (.istore_n 3, 1) := by decide +kernel
theorem dX1_team_16 : decode cX1_team 16 = .ok (.iload_n 3, 1) := by decide +kernel
theorem dX1_team_17 : decode cX1_team 17 = .ok (.iconst 1, 1) := by decide +kernel
theorem dX1_team_18 : decode cX1_team 18 = .ok (.aload_n 1, 1) := by decide +kernel
theorem dX1_team_19 : decode cX1_team 19 = .ok (.getfield 22, 3) := by decide +kernel
theorem dX1_team_22 : decode cX1_team 22 = .ok (.ishl, 1) := by decide +kernel
theorem dX1_team_23 : decode cX1_team 23 = .ok (.if_icmp .ge 53, 3) := by decide +kernel
theorem dX1_team_26 : decode cX1_team 26 = .ok (.iload_n 3, 1) := by decide +kernel
theorem dX1_team_27 : decode cX1_team 27 = .ok (.invokestatic 65, 3) := by decide +kernel
theorem dX1_team_30 : decode cX1_team 30 = .ok (.istore 4, 2) := by decide +kernel
theorem dX1_team_32 : decode cX1_team 32 = .ok (.aload_n 1, 1) := by decide +kernel
theorem dX1_team_33 : decode cX1_team 33 = .ok (.getfield 22, 3) := by decide +kernel
theorem dX1_team_36 : decode cX1_team 36 = .ok (.iconst 2, 1) := by decide +kernel
theorem dX1_team_37 : decode cX1_team 37 = .ok (.iload 4, 2) := by decide +kernel
theorem dX1_team_39 : decode cX1_team 39 = .ok (.imul, 1) := by decide +kernel
theorem dX1_team_40 : decode cX1_team 40 = .ok (.isub, 1) := by decide +kernel
theorem dX1_team_41 : decode cX1_team 41 = .ok (.invokestatic 86, 3) := by decide +kernel
theorem dX1_team_44 : decode cX1_team 44 = .ok (.iconst 1, 1) := by decide +kernel
theorem dX1_team_45 : decode cX1_team 45 = .ok (.if_icmp .gt 25, 3) := by decide +kernel
theorem dX1_team_48 : decode cX1_team 48 = .ok (.iload_n 2, 1) := by decide +kernel
theorem dX1_team_49 : decode cX1_team 49 = .ok (.iconst (-1), 1) := by decide +kernel
theorem dX1_team_50 : decode cX1_team 50 = .ok (.if_icmp .eq 18, 3) := by decide +kernel
theorem dX1_team_53 : decode cX1_team 53 = .ok (.aload_n 0, 1) := by decide +kernel
theorem dX1_team_54 : decode cX1_team 54 = .ok (.aload_n 1, 1) := by decide +kernel
theorem dX1_team_55 : decode cX1_team 55 = .ok (.iload_n 3, 1) := by decide +kernel
theorem dX1_team_56 : decode cX1_team 56 = .ok (.invokevirtual 89, 3) := by decide +kernel
theorem dX1_team_59 : decode cX1_team 59 = .ok (.aload_n 0, 1) := by decide +kernel
theorem dX1_team_60 : decode cX1_team 60 = .ok (.aload_n 1, 1) := by decide +kernel
theorem dX1_team_61 : decode cX1_team 61 = .ok (.iload_n 2, 1) := by decide +kernel
theorem dX1_team_62 : decode cX1_team 62 = .ok (.invokevirtual 89, 3) := by decide +kernel
theorem dX1_team_65 : decode cX1_team 65 = .ok (.if_icmp .ge 5, 3) := by decide +kernel
theorem dX1_team_68 : decode cX1_team 68 = .ok (.iload_n 3, 1) := by decide +kernel
theorem dX1_team_69 : decode cX1_team 69 = .ok (.istore_n 2, 1) := by decide +kernel
theorem dX1_team_70 : decode cX1_team 70 = .ok (.iinc 3 2, 3) := by decide +kernel
theorem dX1_team_73 : decode cX1_team 73 = .ok (.goto (-57), 3) := by decide +kernel
theorem dX1_team_76 : decode cX1_team 76 = .ok (.iload_n 2, 1) := by decide +kernel
theorem dX1_team_77 : decode cX1_team 77 = .ok (.ireturn, 1) := by decide +kernel
def is_X1_team : Nat → List Nat := fun d => if d = 16 then [0, 1, 2, 3] else []
set_option maxRecDepth 100000 in
def b_X1_team_70 (J : Nat → List qV → List qV → qW → Prop) (Q : qR) : qK := x_iinc 3 2 (x_cut [0, 1, 2, 3] (J 16))
set_option maxRecDepth 100000 in
theorem s_X1_team_70 {p : Program} {l : Launch} {e : Env} {R : Room} {s : State} {m : MethodId} {args : Array Value} {below : List Frame} {meth : Method} {c : Code} {nW : Nat} {dC : Nat → ClassId} {dI : Nat → Nat → Nat} {k : Nat → ClassId} {g : Nat → Nat} {A : Nat → Prop} {J : Nat → List qV → List qV → qW → Prop} {Q : qR} (X : q_X p R s m args meth c cX1_team 5 nW 2 44 RX1 (some .int) dC dI k g A) (hJ : ∀ d : Nat, q_Sd p l e R s m args below meth c 5 nW dC dI k g A (MQ below (q_post (dC, dI) k g nW Q A) args s 0 0 A) d (x_cut (is_X1_team d) (J d))) : q_Sd p l e R s m args below meth c 5 nW dC dI k g A (MQ below (q_post (dC, dI) k g nW Q A) args s 0 0 A) 70 (b_X1_team_70 J Q) := by
  unfold b_X1_team_70
  refine s_iinc X (by decide) dX1_team_70 ?_
  refine s_goto X (tgt := 16) dX1_team_73 (by decide) ?_
  exact hJ 16
set_option maxRecDepth 100000 in
def b_X1_team_68 (J : Nat → List qV → List qV → qW → Prop) (Q : qR) : qK := x_iload 3 (x_istore 2 (b_X1_team_70 J Q))
set_option maxRecDepth 100000 in
theorem s_X1_team_68 {p : Program} {l : Launch} {e : Env} {R : Room} {s : State} {m : MethodId} {args : Array Value} {below : List Frame} {meth : Method} {c : Code} {nW : Nat} {dC : Nat → ClassId} {dI : Nat → Nat → Nat} {k : Nat → ClassId} {g : Nat → Nat} {A : Nat → Prop} {J : Nat → List qV → List qV → qW → Prop} {Q : qR} (X : q_X p R s m args meth c cX1_team 5 nW 2 44 RX1 (some .int) dC dI k g A) (hJ : ∀ d : Nat, q_Sd p l e R s m args below meth c 5 nW dC dI k g A (MQ below (q_post (dC, dI) k g nW Q A) args s 0 0 A) d (x_cut (is_X1_team d) (J d))) : q_Sd p l e R s m args below meth c 5 nW dC dI k g A (MQ below (q_post (dC, dI) k g nW Q A) args s 0 0 A) 68 (b_X1_team_68 J Q) := by
  unfold b_X1_team_68
  refine s_iload_n X rfl dX1_team_68 ?_
  refine s_istore_n X rfl (by decide) dX1_team_69 ?_
  exact s_X1_team_70 X hJ
set_option maxRecDepth 100000 in
def b_X1_team_56 (J : Nat → List qV → List qV → qW → Prop) (Q : qR) : qK := x_callr (some 1) 3 spr_X1_difference (x_aload 0 (x_aload 1 (x_iload 2 (x_callr (some 1) 3 spr_X1_difference (x_icmp_ge (b_X1_team_70 J Q) (b_X1_team_68 J Q))))))
set_option maxRecDepth 100000 in
theorem s_X1_team_56 {p : Program} {l : Launch} {e : Env} {R : Room} {s : State} {m : MethodId} {args : Array Value} {below : List Frame} {meth : Method} {c : Code} {nW : Nat} {dC : Nat → ClassId} {dI : Nat → Nat → Nat} {k : Nat → ClassId} {g : Nat → Nat} {A : Nat → Prop} {J : Nat → List qV → List qV → qW → Prop} {Q : qR} (X : q_X p R s m args meth c cX1_team 5 nW 2 44 RX1 (some .int) dC dI k g A) (hJ : ∀ d : Nat, q_Sd p l e R s m args below meth c 5 nW dC dI k g A (MQ below (q_post (dC, dI) k g nW Q A) args s 0 0 A) d (x_cut (is_X1_team d) (J d))) : q_Sd p l e R s m args below meth c 5 nW dC dI k g A (MQ below (q_post (dC, dI) k g nW Q A) args s 0 0 A) 56 (b_X1_team_56 J Q) := by
  unfold b_X1_team_56
  refine s_callVr X (m_X1_difference l) tw_942 tw_943 tw_944 tw_133 tw_945 rfl (by decide +kernel) ⟨by decide, by decide⟩ dX1_team_56 ?_
  refine s_aload_n X rfl dX1_team_59 ?_
  refine s_aload_n X rfl dX1_team_60 ?_
  refine s_iload_n X rfl dX1_team_61 ?_
  refine s_callVr X (m_X1_difference l) tw_942 tw_943 tw_944 tw_133 tw_945 rfl (by decide +kernel) ⟨by decide, by decide⟩ dX1_team_62 ?_
  refine s_icmp_ge X (tgt := 70) dX1_team_65 (by decide) ?_ ?_
  · exact s_X1_team_70 X hJ
  · exact s_X1_team_68 X hJ
set_option maxRecDepth 100000 in
def b_X1_team_16 (J : Nat → List qV → List qV → qW → Prop) (Q : qR) : qK := x_iload 3 (x_int 1 (x_aload 1 (x_get 0 7 (x_ishl (x_icmp_ge (x_iload 2 (x_iret Q)) (x_iload 3 (x_callr none 1 spr_J6_bitCount_0f7a4 (x_istore 4 (x_aload 1 (x_get 0 7 (x_int 2 (x_iload 4 (x_imul (x_isub (x_abs (x_int 1 (x_icmp_gt (b_X1_team_70 J Q) (x_iload 2 (x_int (-1) (x_icmp_eq (b_X1_team_68 J Q) (x_aload 0 (x_aload 1 (x_iload 3 (b_X1_team_56 J Q))))))))))))))))))))))))
set_option maxRecDepth 100000 in
theorem s_X1_team_16 {p : Program} {l : Launch} {e : Env} {R : Room} {s : State} {m : MethodId} {args : Array Value} {below : List Frame} {meth : Method} {c : Code} {nW : Nat} {dC : Nat → ClassId} {dI : Nat → Nat → Nat} {k : Nat → ClassId} {g : Nat → Nat} {A : Nat → Prop} {J : Nat → List qV → List qV → qW → Prop} {Q : qR} (X : q_X p R s m args meth c cX1_team 5 nW 2 44 RX1 (some .int) dC dI k g A) (hJ : ∀ d : Nat, q_Sd p l e R s m args below meth c 5 nW dC dI k g A (MQ below (q_post (dC, dI) k g nW Q A) args s 0 0 A) d (x_cut (is_X1_team d) (J d))) : q_Sd p l e R s m args below meth c 5 nW dC dI k g A (MQ below (q_post (dC, dI) k g nW Q A) args s 0 0 A) 16 (b_X1_team_16 J Q) := by
  unfold b_X1_team_16
  refine s_iload_n X rfl dX1_team_16 ?_
  refine s_iconst X ⟨by decide, by decide⟩ dX1_team_17 ?_
  refine s_aload_n X rfl dX1_team_18 ?_
  refine s_get X (T := TX0) (C := RX0) (N := 12) tu_X0 rfl (by decide) tw_192 dX1_team_19 ?_
  refine s_ishl X dX1_team_22 ?_
  refine s_icmp_ge X (tgt := 76) dX1_team_23 (by decide) ?_ ?_
  · refine s_iload_n X rfl dX1_team_76 ?_
    exact s_iret X dX1_team_77
  · refine s_iload_n X rfl dX1_team_26 ?_
    refine s_callSr X (m_J6_bitCount_0f7a4 l) tw_781 tw_646 tw_140 tw_647 (by decide +kernel) ⟨by decide, by decide⟩ dX1_team_27 ?_
    refine s_istore X (by decide) dX1_team_30 ?_
    refine s_aload_n X rfl dX1_team_32 ?_
    refine s_get X (T := TX0) (C := RX0) (N := 12) tu_X0 rfl (by decide) tw_192 dX1_team_33 ?_
    refine s_iconst X ⟨by decide, by decide⟩ dX1_team_36 ?_
    refine s_iload X dX1_team_37 ?_
    refine s_imul X dX1_team_39 ?_
    refine s_isub X dX1_team_40 ?_
    refine s_abs X tw_939 tw_940 tw_135 tw_941 ⟨by decide, by decide⟩ dX1_team_41 ?_
    refine s_iconst X ⟨by decide, by decide⟩ dX1_team_44 ?_
    refine s_icmp_gt X (tgt := 70) dX1_team_45 (by decide) ?_ ?_
    · exact s_X1_team_70 X hJ
    · refine s_iload_n X rfl dX1_team_48 ?_
      refine s_iconst X ⟨by decide, by decide⟩ dX1_team_49 ?_
      refine s_icmp_eq X (tgt := 68) dX1_team_50 (by decide) ?_ ?_
      · exact s_X1_team_68 X hJ
      · refine s_aload_n X rfl dX1_team_53 ?_
        refine s_aload_n X rfl dX1_team_54 ?_
        refine s_iload_n X rfl dX1_team_55 ?_
        exact s_X1_team_56 X hJ
set_option maxRecDepth 100000 in
def b_X1_team_0 (J : Nat → List qV → List qV → qW → Prop) (Q : qR) : qK := x_aload 0 (x_aload 1 (x_get 0 0 (x_aload 1 (x_get 0 7 (x_call (some 1) 3 sp_X1_addUp (x_nw (x_int (-1) (x_istore 2 (x_int 1 (x_istore 3 (x_cut [0, 1, 2, 3] (J 16))))))))))))
set_option maxRecDepth 100000 in
theorem s_X1_team_0 {p : Program} {l : Launch} {e : Env} {R : Room} {s : State} {m : MethodId} {args : Array Value} {below : List Frame} {meth : Method} {c : Code} {nW : Nat} {dC : Nat → ClassId} {dI : Nat → Nat → Nat} {k : Nat → ClassId} {g : Nat → Nat} {A : Nat → Prop} {J : Nat → List qV → List qV → qW → Prop} {Q : qR} (X : q_X p R s m args meth c cX1_team 5 nW 2 44 RX1 (some .int) dC dI k g A) (hJ : ∀ d : Nat, q_Sd p l e R s m args below meth c 5 nW dC dI k g A (MQ below (q_post (dC, dI) k g nW Q A) args s 0 0 A) d (x_cut (is_X1_team d) (J d))) : q_Sd p l e R s m args below meth c 5 nW dC dI k g A (MQ below (q_post (dC, dI) k g nW Q A) args s 0 0 A) 0 (b_X1_team_0 J Q) := by
  unfold b_X1_team_0
  refine s_aload_n X rfl dX1_team_0 ?_
  refine s_aload_n X rfl dX1_team_1 ?_
  refine s_get X (T := TX0) (C := RX0) (N := 12) tu_X0 rfl (by decide) tw_166 dX1_team_2 ?_
  refine s_aload_n X rfl dX1_team_5 ?_
  refine s_get X (T := TX0) (C := RX0) (N := 12) tu_X0 rfl (by decide) tw_192 dX1_team_6 ?_
  refine s_callV X (m_X1_addUp l) tw_778 tw_779 tw_1489 tw_133 tw_780 rfl (by decide +kernel) ⟨by decide, by decide⟩ dX1_team_9 ?_
  refine s_nw ?_
  refine s_iconst X ⟨by decide, by decide⟩ dX1_team_12 ?_
  refine s_istore_n X rfl (by decide) dX1_team_13 ?_
  refine s_iconst X ⟨by decide, by decide⟩ dX1_team_14 ?_
  refine s_istore_n X rfl (by decide) dX1_team_15 ?_
  exact hJ 16

def sp_X1_team : qS := fun av w Q => ∃ (c1 : Nat → Int) (c2 : Nat → Int) (c3 : Nat → Int) (f1 : Nat → Int) (f2 : Nat → Int) (f3 : Nat → Int) (f4 : Nat → Int) (f5 : Nat → Int) (f6 : Nat → Int) (f7 : Nat → Int) (u0 : Int) (u1 : Int) (u2 : Int) (u3 : Int) (u4 : Int), av = [q2 0, q2 4] ∧ w = (wCo 0 c1 c2 c3 ++ wBo 4 f1 f2 f3 f4 f5 f6 f7 u0 u1 u2 u3 u4) ∧ (0 ≤ u0 ∧ u0 ≤ 8) ∧ (∀ (r : Int) (x2 : Nat → Int), Q (some (q1 r)) ((wCo 0 c1 x2 c3 ++ wBo 4 f1 f2 f3 f4 f5 f6 f7 u0 u1 u2 u3 u4)))
def I_X1_team (c1 : Nat → Int) (c2 : Nat → Int) (c3 : Nat → Int) (f1 : Nat → Int) (f2 : Nat → Int) (f3 : Nat → Int) (f4 : Nat → Int) (f5 : Nat → Int) (f6 : Nat → Int) (f7 : Nat → Int) (u0 : Int) (u1 : Int) (u2 : Int) (u3 : Int) (u4 : Int) : Nat → Nat → List qV → List qV → qW → Prop := fun dz mz vz sz wz => if dz = 16 then (∃ (y2 : Nat → Int) (v2 : Int) (v3 : Int), vz = [q2 0, q2 4, q1 v2, q1 v3] ∧ sz = [] ∧ wz = (wCo 0 c1 y2 c3 ++ wBo 4 f1 f2 f3 f4 f5 f6 f7 u0 u1 u2 u3 u4) ∧ mz = (260 - v3).toNat ∧ (1 ≤ v3 ∧ v3 ≤ 258)) else False
set_option maxHeartbeats 4000000 in
set_option maxRecDepth 100000 in
theorem m_X1_team (l : Launch) : q_M l yX1_team cX1_team 5 (some .int) 2 44 sp_X1_team := by
  refine q_meth (by decide) (fun av w Q h => by obtain ⟨c1, c2, c3, f1, f2, f3, f4, f5, f6, f7, u0, u1, u2, u3, u4, rfl, rfl, hu0, hQ⟩ := h; exact Nat.le_of_ble_eq_true rfl) ?_
  intro p e R s m args below meth c dC dI k g A av w Q hsp oka okw X
  obtain ⟨c1, c2, c3, f1, f2, f3, f4, f5, f6, f7, u0, u1, u2, u3, u4, rfl, rfl, hu0, hQ⟩ := hsp
  refine s_mono (s_X1_team_0 X (J := fun dz vz sz wz => ∃ mz, I_X1_team c1 c2 c3 f1 f2 f3 f4 f5 f6 f7 u0 u1 u2 u3 u4 dz mz vz sz wz) (q_loopn (I_X1_team c1 c2 c3 f1 f2 f3 f4 f5 f6 f7 u0 u1 u2 u3 u4) (fun dz J => if dz = 16 then b_X1_team_16 J Q else q_F) ?hs ?hv)) ?_
  case hs =>
    intro d J hJ
    by_cases h16 : d = 16
    · subst h16; exact s_X1_team_16 X hJ
    simp only [h16, if_false]
    exact s_F
  case hv =>
    intro dz mz vz sz wz hI okv oks okw hlen
    by_cases h16 : dz = 16
    · subst h16
      obtain ⟨y2, v2, v3, rfl, rfl, rfl, hn, hp⟩ := hI
      intro z22 h22
      first | replace h22 := e_shl h22 (by omega) | replace h22 := e_rng h22
      apply And.intro
      · intro h23
        exact hQ _ _
      · intro h23
        refine Exists.intro [] (Exists.intro [q1 _] (Exists.intro [] (And.intro rfl (And.intro rfl (And.intro rfl (And.intro trivial ?_))))))
        refine Exists.intro _ (And.intro rfl (And.intro rfl (?_)))
        intro z27 h27
        intro z39 h39
        first | replace h39 := e_mul h39 (by omega) | replace h39 := e_rng h39
        intro z40 h40
        first | replace h40 := e_sub h40 (by omega) | replace h40 := e_rng h40
        intro z41 h41
        replace h41 := e_rng h41
        apply And.intro
        · intro h45
          intro z70 h70
          first | replace h70 := e_add h70 (by omega) | replace h70 := e_rng h70
          exact ⟨_, ⟨_, _, _, rfl, rfl, rfl, rfl, (by first | omega | assumption | exact q_rg_up (by assumption) (by omega) | exact q_rg_up (q_rg_up (by assumption) (by omega)) (by omega) | exact q_rg_cpy (by assumption) (by assumption))⟩, by omega⟩
        · intro h45
          apply And.intro
          · intro h50
            intro z70 h70
            first | replace h70 := e_add h70 (by omega) | replace h70 := e_rng h70
            exact ⟨_, ⟨_, _, _, rfl, rfl, rfl, rfl, (by first | omega | assumption | exact q_rg_up (by assumption) (by omega) | exact q_rg_up (q_rg_up (by assumption) (by omega)) (by omega) | exact q_rg_cpy (by assumption) (by assumption))⟩, by omega⟩
          · intro h50
            refine Exists.intro [0, 1, 2, 3, 4, 5, 6, 7, 8, 9, 10, 11] (Exists.intro [q2 0, q2 4, q1 _] (Exists.intro ((wCo 0 _ _ _ ++ wBo 4 _ _ _ _ _ _ _ _ _ _ _ _)) (And.intro rfl (And.intro rfl (And.intro rfl (And.intro ⟨⟨_, rfl⟩, rfl⟩ ?_))))))
            refine Exists.intro _ (Exists.intro _ (Exists.intro _ (Exists.intro _ (Exists.intro _ (Exists.intro _ (Exists.intro _ (Exists.intro _ (Exists.intro _ (Exists.intro _ (Exists.intro _ (Exists.intro _ (Exists.intro _ (Exists.intro _ (Exists.intro _ (Exists.intro _ (And.intro rfl (And.intro rfl (And.intro (by first | omega | assumption | exact q_rg_up (by assumption) (by omega) | exact q_rg_up (q_rg_up (by assumption) (by omega)) (by omega) | exact q_rg_cpy (by assumption) (by assumption)) (?_)))))))))))))))))))
            intro z56
            refine Exists.intro [0, 1, 2, 3, 4, 5, 6, 7, 8, 9, 10, 11] (Exists.intro [q2 0, q2 4, q1 _] (Exists.intro ((wCo 0 _ _ _ ++ wBo 4 _ _ _ _ _ _ _ _ _ _ _ _)) (And.intro rfl (And.intro rfl (And.intro rfl (And.intro ⟨⟨_, rfl⟩, rfl⟩ ?_))))))
            refine Exists.intro _ (Exists.intro _ (Exists.intro _ (Exists.intro _ (Exists.intro _ (Exists.intro _ (Exists.intro _ (Exists.intro _ (Exists.intro _ (Exists.intro _ (Exists.intro _ (Exists.intro _ (Exists.intro _ (Exists.intro _ (Exists.intro _ (Exists.intro _ (And.intro rfl (And.intro rfl (And.intro (by first | omega | assumption | exact q_rg_up (by assumption) (by omega) | exact q_rg_up (q_rg_up (by assumption) (by omega)) (by omega) | exact q_rg_cpy (by assumption) (by assumption)) (?_)))))))))))))))))))
            intro z62
            apply And.intro
            · intro h65
              intro z70 h70
              first | replace h70 := e_add h70 (by omega) | replace h70 := e_rng h70
              exact ⟨_, ⟨_, _, _, rfl, rfl, rfl, rfl, (by first | omega | assumption | exact q_rg_up (by assumption) (by omega) | exact q_rg_up (q_rg_up (by assumption) (by omega)) (by omega) | exact q_rg_cpy (by assumption) (by assumption))⟩, by omega⟩
            · intro h65
              intro z70 h70
              first | replace h70 := e_add h70 (by omega) | replace h70 := e_rng h70
              exact ⟨_, ⟨_, _, _, rfl, rfl, rfl, rfl, (by first | omega | assumption | exact q_rg_up (by assumption) (by omega) | exact q_rg_up (q_rg_up (by assumption) (by omega)) (by omega) | exact q_rg_cpy (by assumption) (by assumption))⟩, by omega⟩
    simp only [I_X1_team, h16, if_false] at hI
  rintro lv st w' ⟨rfl, rfl, rfl⟩
  refine Exists.intro [0, 1, 2, 3, 5] (Exists.intro [q2 0, q2 4, q1 _] (Exists.intro ((wCo 0 _ _ _ ++ [.inl (0, 8, .inl _)])) (And.intro rfl (And.intro rfl (And.intro rfl (And.intro ⟨⟨_, rfl⟩, rfl⟩ ?_))))))
  refine Exists.intro _ (Exists.intro _ (Exists.intro _ (Exists.intro _ (Exists.intro _ (And.intro rfl (And.intro rfl (?_)))))))
  intro x2_9
  exact ⟨_, _, _, _, rfl, rfl, rfl, rfl, (by first | omega | assumption | exact q_rg_up (by assumption) (by omega) | exact q_rg_up (q_rg_up (by assumption) (by omega)) (by omega) | exact q_rg_cpy (by assumption) (by assumption))⟩
