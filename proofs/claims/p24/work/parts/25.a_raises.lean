def wZo (b : Nat) (h1 h2 h3 : Nat → Int) (p4 : Int) : qW := [.inr (4, [q2 (b + 1), q2 (b + 2), q2 (b + 3), q1 p4]), .inl (0, 700, .inl h1), .inl (0, 9, .inl h2), .inl (0, 9, .inl h3)]
def bbP (f : Nat → Int) : Prop := ∀ j : Nat, j < 700 → 0 ≤ f j ∧ f j ≤ 48 - 8 * ((j : Int) / 100)
theorem bb_up {f : Nat → Int} {i : Nat} {v : Int} (h : bbP f) (hv : 0 ≤ v ∧ v ≤ 48 - 8 * ((i : Int) / 100)) : bbP (q_up f i v) := by
  intro j hj
  by_cases e : j = i
  · subst e; rw [q_up_s]; exact hv
  · rw [q_up_n e]; exact h j hj
theorem bb_fill {g f : Nat → Int} {n : Nat} (hg : ∀ j : Nat, g j = if (j : Int) < n then 0 else f j) (hn : n = 700) : bbP g := by
  intro j hj
  rw [hg j, if_pos (by omega)]
  omega
theorem bb_at {f : Nat → Int} {z i : Int} (h : bbP f) (hz : z = f i.toNat) (hi : 0 ≤ i ∧ i < 700) : 0 ≤ z ∧ z ≤ 48 - 8 * (i / 100) := by
  have h1 := h i.toNat (by omega)
  rw [← hz] at h1
  omega

theorem dX4_passing_0 : decode cX4_passing 0 = .ok (.iconst 0, 1) := by decide +kernel
theorem dX4_passing_1 : decode cX4_passing 1 = .ok (.istore_n 3, 1) := by decide +kernel
theorem dX4_passing_2 : decode cX4_passing 2 = .ok (.iconst 0, 1) := by decide +kernel
theorem dX4_passing_3 : decode cX4_passing 3 = .ok (.istore 4, 2) := by decide +kernel
theorem dX4_passing_5 : decode cX4_passing 5 = .ok (.iload 4, 2) := by decide +kernel
theorem dX4_passing_7 : decode cX4_passing 7 = .ok (.aload_n 0, 1) := by decide +kernel
theorem dX4_passing_8 : decode cX4_passing 8 = .ok (.getfield 50, 3) := by decide +kernel
theorem dX4_passing_11 : decode cX4_passing 11 = .ok (.if_icmp .ge 37, 3) := by decide +kernel
theorem dX4_passing_14 : decode cX4_passing 14 = .ok (.aload_n 0, 1) := by decide +kernel
theorem dX4_passing_15 : decode cX4_passing 15 = .ok (.getfield 59, 3) := by decide +kernel
theorem dX4_passing_18 : decode cX4_passing 18 = .ok (.iload_n 1, 1) := by decide +kernel
theorem dX4_passing_19 : decode cX4_passing 19 = .ok (.iaload, 1) := by decide +kernel
theorem dX4_passing_20 : decode cX4_passing 20 = .ok (.iload 4, 2) := by decide +kernel
theorem dX4_passing_22 : decode cX4_passing 22 = .ok (.ishr, 1) := by decide +kernel
theorem dX4_passing_23 : decode cX4_passing 23 = .ok (.iconst 1, 1) := by decide +kernel
theorem dX4_passing_24 : decode cX4_passing 24 = .ok (.iand, 1) := by decide +kernel
theorem dX4_passing_25 : decode cX4_passing 25 = .ok (.ifCond .eq 17, 3) := by decide +kernel
theorem dX4_passing_28 : decode cX4_passing 28 = .ok (.aload_n 0, 1) := by decide +kernel
theorem dX4_passing_29 : decode cX4_passing 29 = .ok (.getfield 53, 3) := by decide +kernel
theorem dX4_passing_32 : decode cX4_passing 32 = .ok (.iload 4, 2) := by decide +kernel
theorem dX4_passing_34 : decode cX4_passing 34 = .ok (.iaload, 1) := by decide +kernel
theorem dX4_passing_35 : decode cX4_passing 35 = .ok (.iload_n 2, 1) := by decide +kernel
theorem dX4_passing_36 : decode cX4_passing 36 = .ok (.if_icmp .gt 6, 3) := by decide +kernel
theorem dX4_passing_39 : decode cX4_passing 39 = .ok (.iinc 3 1, 3) := by decide +kernel
theorem dX4_passing_42 : decode cX4_passing 42 = .ok (.iinc 4 1, 3) := by decide +kernel
theorem dX4_passing_45 : decode cX4_passing 45 = .ok (.goto (-40), 3) := by decide +kernel
theorem dX4_passing_48 : decode cX4_passing 48 = .ok (.iload_n 3, 1) := by decide +kernel
theorem dX4_passing_49 : decode cX4_passing 49 = .ok (.ireturn, 1) := by decide +kernel
def is_X4_passing : Nat → List Nat := fun d => if d = 5 then [0, 1, 2, 3, 4] else []
set_option maxRecDepth 100000 in
def b_X4_passing_42 (J : Nat → List qV → List qV → qW → Prop) (Q : qR) : qK := x_iinc 4 1 (x_cut [0, 1, 2, 3, 4] (J 5))
set_option maxRecDepth 100000 in
theorem s_X4_passing_42 {p : Program} {l : Launch} {e : Env} {R : Room} {s : State} {m : MethodId} {args : Array Value} {below : List Frame} {meth : Method} {c : Code} {nW : Nat} {dC : Nat → ClassId} {dI : Nat → Nat → Nat} {k : Nat → ClassId} {g : Nat → Nat} {A : Nat → Prop} {J : Nat → List qV → List qV → qW → Prop} {Q : qR} (X : q_X p R s m args meth c cX4_passing 5 nW 0 0 RX4 (some .int) dC dI k g A) (hJ : ∀ d : Nat, q_Sd p l e R s m args below meth c 5 nW dC dI k g A (MQ below (q_post (dC, dI) k g nW Q A) args s 0 0 A) d (x_cut (is_X4_passing d) (J d))) : q_Sd p l e R s m args below meth c 5 nW dC dI k g A (MQ below (q_post (dC, dI) k g nW Q A) args s 0 0 A) 42 (b_X4_passing_42 J Q) := by
  unfold b_X4_passing_42
  refine s_iinc X (by decide) dX4_passing_42 ?_
  refine s_goto X (tgt := 5) dX4_passing_45 (by decide) ?_
  exact hJ 5
set_option maxRecDepth 100000 in
def b_X4_passing_5 (J : Nat → List qV → List qV → qW → Prop) (Q : qR) : qK := x_iload 4 (x_aload 0 (x_get 0 7 (x_icmp_ge (x_iload 3 (x_iret Q)) (x_aload 0 (x_get 0 5 (x_iload 1 (x_iald (x_iload 4 (x_ishr (x_int 1 (x_iand (x_if_eq (b_X4_passing_42 J Q) (x_aload 0 (x_get 0 0 (x_iload 4 (x_iald (x_iload 2 (x_icmp_gt (b_X4_passing_42 J Q) (x_iinc 3 1 (b_X4_passing_42 J Q))))))))))))))))))))
set_option maxRecDepth 100000 in
theorem s_X4_passing_5 {p : Program} {l : Launch} {e : Env} {R : Room} {s : State} {m : MethodId} {args : Array Value} {below : List Frame} {meth : Method} {c : Code} {nW : Nat} {dC : Nat → ClassId} {dI : Nat → Nat → Nat} {k : Nat → ClassId} {g : Nat → Nat} {A : Nat → Prop} {J : Nat → List qV → List qV → qW → Prop} {Q : qR} (X : q_X p R s m args meth c cX4_passing 5 nW 0 0 RX4 (some .int) dC dI k g A) (hJ : ∀ d : Nat, q_Sd p l e R s m args below meth c 5 nW dC dI k g A (MQ below (q_post (dC, dI) k g nW Q A) args s 0 0 A) d (x_cut (is_X4_passing d) (J d))) : q_Sd p l e R s m args below meth c 5 nW dC dI k g A (MQ below (q_post (dC, dI) k g nW Q A) args s 0 0 A) 5 (b_X4_passing_5 J Q) := by
  unfold b_X4_passing_5
  refine s_iload X dX4_passing_5 ?_
  refine s_aload_n X rfl dX4_passing_7 ?_
  refine s_get X (T := TX0) (C := RX0) (N := 12) tu_X0 rfl (by decide) tw_194 dX4_passing_8 ?_
  refine s_icmp_ge X (tgt := 48) dX4_passing_11 (by decide) ?_ ?_
  · refine s_iload_n X rfl dX4_passing_48 ?_
    exact s_iret X dX4_passing_49
  · refine s_aload_n X rfl dX4_passing_14 ?_
    refine s_get X (T := TX0) (C := RX0) (N := 12) tu_X0 rfl (by decide) tw_185 dX4_passing_15 ?_
    refine s_iload_n X rfl dX4_passing_18 ?_
    refine s_iald X dX4_passing_19 ?_
    refine s_iload X dX4_passing_20 ?_
    refine s_ishr X dX4_passing_22 ?_
    refine s_iconst X ⟨by decide, by decide⟩ dX4_passing_23 ?_
    refine s_iand X dX4_passing_24 ?_
    refine s_if_eq X (tgt := 42) dX4_passing_25 (by decide) ?_ ?_
    · exact s_X4_passing_42 X hJ
    · refine s_aload_n X rfl dX4_passing_28 ?_
      refine s_get X (T := TX0) (C := RX0) (N := 12) tu_X0 rfl (by decide) tw_168 dX4_passing_29 ?_
      refine s_iload X dX4_passing_32 ?_
      refine s_iald X dX4_passing_34 ?_
      refine s_iload_n X rfl dX4_passing_35 ?_
      refine s_icmp_gt X (tgt := 42) dX4_passing_36 (by decide) ?_ ?_
      · exact s_X4_passing_42 X hJ
      · refine s_iinc X (by decide) dX4_passing_39 ?_
        exact s_X4_passing_42 X hJ
set_option maxRecDepth 100000 in
def b_X4_passing_0 (J : Nat → List qV → List qV → qW → Prop) (Q : qR) : qK := x_int 0 (x_istore 3 (x_int 0 (x_istore 4 (x_cut [0, 1, 2, 3, 4] (J 5)))))
set_option maxRecDepth 100000 in
theorem s_X4_passing_0 {p : Program} {l : Launch} {e : Env} {R : Room} {s : State} {m : MethodId} {args : Array Value} {below : List Frame} {meth : Method} {c : Code} {nW : Nat} {dC : Nat → ClassId} {dI : Nat → Nat → Nat} {k : Nat → ClassId} {g : Nat → Nat} {A : Nat → Prop} {J : Nat → List qV → List qV → qW → Prop} {Q : qR} (X : q_X p R s m args meth c cX4_passing 5 nW 0 0 RX4 (some .int) dC dI k g A) (hJ : ∀ d : Nat, q_Sd p l e R s m args below meth c 5 nW dC dI k g A (MQ below (q_post (dC, dI) k g nW Q A) args s 0 0 A) d (x_cut (is_X4_passing d) (J d))) : q_Sd p l e R s m args below meth c 5 nW dC dI k g A (MQ below (q_post (dC, dI) k g nW Q A) args s 0 0 A) 0 (b_X4_passing_0 J Q) := by
  unfold b_X4_passing_0
  refine s_iconst X ⟨by decide, by decide⟩ dX4_passing_0 ?_
  refine s_istore_n X rfl (by decide) dX4_passing_1 ?_
  refine s_iconst X ⟨by decide, by decide⟩ dX4_passing_2 ?_
  refine s_istore X (by decide) dX4_passing_3 ?_
  exact hJ 5

def spr_X4_passing : List qV → qW → (Option qV → Prop) → Prop := fun av w Q => ∃ (f1 : Nat → Int) (f2 : Nat → Int) (f3 : Nat → Int) (f4 : Nat → Int) (f5 : Nat → Int) (f6 : Nat → Int) (f7 : Nat → Int) (u0 : Int) (u1 : Int) (u2 : Int) (u3 : Int) (u4 : Int) (a : Int) (b : Int), av = [q2 0, q1 a, q1 b] ∧ w = wB f1 f2 f3 f4 f5 f6 f7 u0 u1 u2 u3 u4 ∧ (0 ≤ u0 ∧ u0 ≤ 8 ∧ 0 ≤ u3 ∧ u3 ≤ 6 ∧ 0 ≤ u4 ∧ u4 ≤ 6) ∧ (0 ≤ a ∧ a ≤ 5) ∧ (∀ (r : Int) , 0 ≤ r ∧ r ≤ 8 → Q (some (q1 r)))
def sp_X4_passing : qS := fun av w Q => spr_X4_passing av w (fun r => Q r w)
def I_X4_passing (f1 : Nat → Int) (f2 : Nat → Int) (f3 : Nat → Int) (f4 : Nat → Int) (f5 : Nat → Int) (f6 : Nat → Int) (f7 : Nat → Int) (u0 : Int) (u1 : Int) (u2 : Int) (u3 : Int) (u4 : Int) (a : Int) (b : Int) : Nat → Nat → List qV → List qV → qW → Prop := fun dz mz vz sz wz => if dz = 5 then (∃ (v3 : Int) (v4 : Int), vz = [q2 0, q1 a, q1 b, q1 v3, q1 v4] ∧ sz = [] ∧ wz = wB f1 f2 f3 f4 f5 f6 f7 u0 u1 u2 u3 u4 ∧ mz = (u0 - v4).toNat ∧ (0 ≤ v4 ∧ v4 ≤ u0) ∧ (0 ≤ v3 ∧ v3 ≤ v4)) else False
set_option maxHeartbeats 4000000 in
set_option maxRecDepth 100000 in
theorem m_X4_passing (l : Launch) : q_M l yX4_passing cX4_passing 5 (some .int) 0 0 sp_X4_passing := by
  refine q_meth (by decide) (fun av w Q h => by obtain ⟨f1, f2, f3, f4, f5, f6, f7, u0, u1, u2, u3, u4, a, b, rfl, rfl, hu0, ha, hQ⟩ := h; exact Nat.le_of_ble_eq_true rfl) ?_
  intro p e R s m args below meth c dC dI k g A av w Q hsp oka okw X
  obtain ⟨f1, f2, f3, f4, f5, f6, f7, u0, u1, u2, u3, u4, a, b, rfl, rfl, hu0, ha, hQ⟩ := hsp
  have o_a : -2147483648 ≤ a ∧ a ≤ 2147483647 := oka _ (List.mem_of_getElem? (i := 1) rfl)
  have o_b : -2147483648 ≤ b ∧ b ≤ 2147483647 := oka _ (List.mem_of_getElem? (i := 2) rfl)
  refine s_mono (s_X4_passing_0 X (J := fun dz vz sz wz => ∃ mz, I_X4_passing f1 f2 f3 f4 f5 f6 f7 u0 u1 u2 u3 u4 a b dz mz vz sz wz) (q_loopn (I_X4_passing f1 f2 f3 f4 f5 f6 f7 u0 u1 u2 u3 u4 a b) (fun dz J => if dz = 5 then b_X4_passing_5 J Q else q_F) ?hs ?hv)) ?_
  case hs =>
    intro d J hJ
    by_cases h5 : d = 5
    · subst h5; exact s_X4_passing_5 X hJ
    simp only [h5, if_false]
    exact s_F
  case hv =>
    intro dz mz vz sz wz hI okv oks okw hlen
    by_cases h5 : dz = 5
    · subst h5
      obtain ⟨v3, v4, rfl, rfl, rfl, hn, hp, hm⟩ := hI
      apply And.intro
      · intro h11
        exact hQ _ (by first | omega | assumption | exact q_rg_up (by assumption) (by omega) | exact q_rg_up (q_rg_up (by assumption) (by omega)) (by omega) | exact q_rg_cpy (by assumption) (by assumption))
      · intro h11
        apply And.intro
        · exact ⟨by omega, by omega⟩
        intro z19 h19
        intro z22 h22
        replace h22 := e_rng h22
        intro z24 h24
        first | replace h24 := e_and1 h24 | replace h24 := e_and255 h24 | replace h24 := e_and h24 (by omega) (by omega) | replace h24 := e_rng h24
        apply And.intro
        · intro h25
          intro z42 h42
          first | replace h42 := e_add h42 (by omega) | replace h42 := e_rng h42
          exact ⟨_, ⟨_, _, rfl, rfl, rfl, rfl, (by first | omega | assumption | exact q_rg_up (by assumption) (by omega) | exact q_rg_up (q_rg_up (by assumption) (by omega)) (by omega) | exact q_rg_cpy (by assumption) (by assumption)), (by first | omega | assumption | exact q_rg_up (by assumption) (by omega) | exact q_rg_up (q_rg_up (by assumption) (by omega)) (by omega) | exact q_rg_cpy (by assumption) (by assumption))⟩, by omega⟩
        · intro h25
          apply And.intro
          · exact ⟨by omega, by omega⟩
          intro z34 h34
          apply And.intro
          · intro h36
            intro z42 h42
            first | replace h42 := e_add h42 (by omega) | replace h42 := e_rng h42
            exact ⟨_, ⟨_, _, rfl, rfl, rfl, rfl, (by first | omega | assumption | exact q_rg_up (by assumption) (by omega) | exact q_rg_up (q_rg_up (by assumption) (by omega)) (by omega) | exact q_rg_cpy (by assumption) (by assumption)), (by first | omega | assumption | exact q_rg_up (by assumption) (by omega) | exact q_rg_up (q_rg_up (by assumption) (by omega)) (by omega) | exact q_rg_cpy (by assumption) (by assumption))⟩, by omega⟩
          · intro h36
            intro z39 h39
            first | replace h39 := e_add h39 (by omega) | replace h39 := e_rng h39
            intro z42 h42
            first | replace h42 := e_add h42 (by omega) | replace h42 := e_rng h42
            exact ⟨_, ⟨_, _, rfl, rfl, rfl, rfl, (by first | omega | assumption | exact q_rg_up (by assumption) (by omega) | exact q_rg_up (q_rg_up (by assumption) (by omega)) (by omega) | exact q_rg_cpy (by assumption) (by assumption)), (by first | omega | assumption | exact q_rg_up (by assumption) (by omega) | exact q_rg_up (q_rg_up (by assumption) (by omega)) (by omega) | exact q_rg_cpy (by assumption) (by assumption))⟩, by omega⟩
    simp only [I_X4_passing, h5, if_false] at hI
  rintro lv st w' ⟨rfl, rfl, rfl⟩
  exact ⟨_, _, _, rfl, rfl, rfl, rfl, (by first | omega | assumption | exact q_rg_up (by assumption) (by omega) | exact q_rg_up (q_rg_up (by assumption) (by omega)) (by omega) | exact q_rg_cpy (by assumption) (by assumption)), (by first | omega | assumption | exact q_rg_up (by assumption) (by omega) | exact q_rg_up (q_rg_up (by assumption) (by omega)) (by omega) | exact q_rg_cpy (by assumption) (by assumption))⟩

theorem dX4_choose_0 : decode cX4_choose 0 = .ok (.aload_n 0, 1) := by decide +kernel
theorem dX4_choose_1 : decode cX4_choose 1 = .ok (.getfield 15, 3) := by decide +kernel
theorem dX4_choose_4 : decode cX4_choose 4 = .ok (.iconst 0, 1) := by decide +kernel
theorem dX4_choose_5 : decode cX4_choose 5 = .ok (.iconst 0, 1) := by decide +kernel
theorem dX4_choose_6 : decode cX4_choose 6 = .ok (.iastore, 1) := by decide +kernel
theorem dX4_choose_7 : decode cX4_choose 7 = .ok (.aload_n 0, 1) := by decide +kernel
theorem dX4_choose_8 : decode cX4_choose 8 = .ok (.iconst 1, 1) := by decide +kernel
theorem dX4_choose_9 : decode cX4_choose 9 = .ok (.putfield 37, 3) := by decide +kernel
theorem dX4_choose_12 : decode cX4_choose 12 = .ok (.iconst 0, 1) := by decide +kernel
theorem dX4_choose_13 : decode cX4_choose 13 = .ok (.istore_n 3, 1) := by decide +kernel
theorem dX4_choose_14 : decode cX4_choose 14 = .ok (.iload_n 3, 1) := by decide +kernel
theorem dX4_choose_15 : decode cX4_choose 15 = .ok (.aload_n 1, 1) := by decide +kernel
theorem dX4_choose_16 : decode cX4_choose 16 = .ok (.getfield 50, 3) := by decide +kernel
theorem dX4_choose_19 : decode cX4_choose 19 = .ok (.if_icmp .ge 72, 3) := by decide +kernel
theorem dX4_choose_22 : decode cX4_choose 22 = .ok (.aload_n 1, 1) := by decide +kernel
theorem dX4_choose_23 : decode cX4_choose 23 = .ok (.getfield 53, 3) := by decide +kernel
theorem dX4_choose_26 : decode cX4_choose 26 = .ok (.iload_n 3, 1) := by decide +kernel
theorem dX4_choose_27 : decode cX4_choose 27 = .ok (.iaload, 1) := by decide +kernel
theorem dX4_choose_28 : decode cX4_choose 28 = .ok (.aload_n 1, 1) := by decide +kernel
theorem dX4_choose_29 : decode cX4_choose 29 = .ok (.getfield 56, 3) := by decide +kernel
theorem dX4_choose_32 : decode cX4_choose 32 = .ok (.iload_n 2, 1) := by decide +kernel
theorem dX4_choose_33 : decode cX4_choose 33 = .ok (.iaload, 1) := by decide +kernel
theorem dX4_choose_34 : decode cX4_choose 34 = .ok (.isub, 1) := by decide +kernel
theorem dX4_choose_35 : decode cX4_choose 35 = .ok (.istore 4, 2) := by decide +kernel
theorem dX4_choose_37 : decode cX4_choose 37 = .ok (.aload_n 1, 1) := by decide +kernel
theorem dX4_choose_38 : decode cX4_choose 38 = .ok (.getfield 59, 3) := by decide +kernel
theorem dX4_choose_41 : decode cX4_choose 41 = .ok (.iload_n 2, 1) := by decide +kernel
theorem dX4_choose_42 : decode cX4_choose 42 = .ok (.iaload, 1) := by decide +kernel
theorem dX4_choose_43 : decode cX4_choose 43 = .ok (.iload_n 3, 1) := by decide +kernel
theorem dX4_choose_44 : decode cX4_choose 44 = .ok (.ishr, 1) := by decide +kernel
theorem dX4_choose_45 : decode cX4_choose 45 = .ok (.iconst 1, 1) := by decide +kernel
theorem dX4_choose_46 : decode cX4_choose 46 = .ok (.iand, 1) := by decide +kernel
theorem dX4_choose_47 : decode cX4_choose 47 = .ok (.ifCond .eq 38, 3) := by decide +kernel
theorem dX4_choose_50 : decode cX4_choose 50 = .ok (.iload 4, 2) := by decide +kernel
theorem dX4_choose_52 : decode cX4_choose 52 = .ok (.ifCond .le 33, 3) := by decide +kernel
theorem dX4_choose_55 : decode cX4_choose 55 = .ok (.aload_n 0, 1) := by decide +kernel
theorem dX4_choose_56 : decode cX4_choose 56 = .ok (.getfield 37, 3) := by decide +kernel
theorem dX4_choose_59 : decode cX4_choose 59 = .ok (.bipush 9, 2) := by decide +kernel
theorem dX4_choose_61 : decode cX4_choose 61 = .ok (.if_icmp .ge 24, 3) := by decide +kernel
theorem dX4_choose_64 : decode cX4_choose 64 = .ok (.aload_n 0, 1) := by decide +kernel
theorem dX4_choose_65 : decode cX4_choose 65 = .ok (.getfield 15, 3) := by decide +kernel
theorem dX4_choose_68 : decode cX4_choose 68 = .ok (.aload_n 0, 1) := by decide +kernel
theorem dX4_choose_69 : decode cX4_choose 69 = .ok (.getfield 37, 3) := by decide +kernel
theorem dX4_choose_72 : decode cX4_choose 72 = .ok (.iload 4, 2) := by decide +kernel
theorem dX4_choose_74 : decode cX4_choose 74 = .ok (.iastore, 1) := by decide +kernel
theorem dX4_choose_75 : decode cX4_choose 75 = .ok (.aload_n 0, 1) := by decide +kernel
theorem dX4_choose_76 : decode cX4_choose 76 = .ok (.dup, 1) := by decide +kernel
theorem dX4_choose_77 : decode cX4_choose 77 = .ok (.getfield 37, 3) := by decide +kernel
theorem dX4_choose_80 : decode cX4_choose 80 = .ok (.iconst 1, 1) := by decide +kernel
theorem dX4_choose_81 : decode cX4_choose 81 = .ok (.iadd, 1) := by decide +kernel
theorem dX4_choose_82 : decode cX4_choose 82 = .ok (.putfield 37, 3) := by decide +kernel
theorem dX4_choose_85 : decode cX4_choose 85 = .ok (.iinc 3 1, 3) := by decide +kernel
theorem dX4_choose_88 : decode cX4_choose 88 = .ok (.goto (-74), 3) := by decide +kernel
theorem dX4_choose_91 : decode cX4_choose 91 = .ok (.iconst 0, 1) := by decide +kernel
theorem dX4_choose_92 : decode cX4_choose 92 = .ok (.istore_n 3, 1) := by decide +kernel
theorem dX4_choose_93 : decode cX4_choose 93 = .ok (.iload_n 3, 1) := by decide +kernel
theorem dX4_choose_94 : decode cX4_choose 94 = .ok (.aload_n 0, 1) := by decide +kernel
theorem dX4_choose_95 : decode cX4_choose 95 = .ok (.getfield 37, 3) := by decide +kernel
theorem dX4_choose_98 : decode cX4_choose 98 = .ok (.if_icmp .ge 33, 3) := by decide +kernel
theorem dX4_choose_101 : decode cX4_choose 101 = .ok (.aload_n 0, 1) := by decide +kernel
theorem dX4_choose_102 : decode cX4_choose 102 = .ok (.getfield 18, 3) := by decide +kernel
theorem dX4_choose_105 : decode cX4_choose 105 = .ok (.iload_n 3, 1) := by decide +kernel
theorem dX4_choose_106 : decode cX4_choose 106 = .ok (.aload_n 1, 1) := by decide +kernel
theorem dX4_choose_107 : decode cX4_choose 107 = .ok (.iload_n 2, 1) := by decide +kernel
theorem dX4_choose_108 : decode cX4_choose 108 = .ok (.aload_n 1, 1) := by decide +kernel
theorem dX4_choose_109 : decode cX4_choose 109 = .ok (.getfield 56, 3) := by decide +kernel
theorem dX4_choose_112 : decode cX4_choose 112 = .ok (.iload_n 2, 1) := by decide +kernel
theorem dX4_choose_113 : decode cX4_choose 113 = .ok (.iaload, 1) := by decide +kernel
theorem dX4_choose_114 : decode cX4_choose 114 = .ok (.aload_n 0, 1) := by decide +kernel
theorem dX4_choose_115 : decode cX4_choose 115 = .ok (.getfield 15, 3) := by decide +kernel
theorem dX4_choose_118 : decode cX4_choose 118 = .ok (.iload_n 3, 1) := by decide +kernel
theorem dX4_choose_119 : decode cX4_choose 119 = .ok (.iaload, 1) := by decide +kernel
theorem dX4_choose_120 : decode cX4_choose 120 = .ok (.iadd, 1) := by decide +kernel
theorem dX4_choose_121 : decode cX4_choose 121 = .ok (.invokestatic 62, 3) := by decide +kernel
theorem dX4_choose_124 : decode cX4_choose 124 = .ok (.iastore, 1) := by decide +kernel
theorem dX4_choose_125 : decode cX4_choose 125 = .ok (.iinc 3 1, 3) := by decide +kernel
theorem dX4_choose_128 : decode cX4_choose 128 = .ok (.goto (-35), 3) := by decide +kernel
theorem dX4_choose_131 : decode cX4_choose 131 = .ok (.return_, 1) := by decide +kernel
def is_X4_choose : Nat → List Nat := fun d => if d = 14 then [0, 1, 2, 3] else if d = 93 then [0, 1, 2, 3] else []
set_option maxRecDepth 100000 in
def b_X4_choose_93 (J : Nat → List qV → List qV → qW → Prop) (Q : qR) : qK := x_iload 3 (x_aload 0 (x_get 4 3 (x_icmp_ge (x_vret Q) (x_aload 0 (x_get 4 2 (x_iload 3 (x_aload 1 (x_iload 2 (x_aload 1 (x_get 0 4 (x_iload 2 (x_iald (x_aload 0 (x_get 4 1 (x_iload 3 (x_iald (x_iadd (x_callr none 3 spr_X4_passing (x_iast (x_nw (x_iinc 3 1 (x_cut [0, 1, 2, 3] (J 93)))))))))))))))))))))))
set_option maxRecDepth 100000 in
theorem s_X4_choose_93 {p : Program} {l : Launch} {e : Env} {R : Room} {s : State} {m : MethodId} {args : Array Value} {below : List Frame} {meth : Method} {c : Code} {nW : Nat} {dC : Nat → ClassId} {dI : Nat → Nat → Nat} {k : Nat → ClassId} {g : Nat → Nat} {A : Nat → Prop} {J : Nat → List qV → List qV → qW → Prop} {Q : qR} (X : q_X p R s m args meth c cX4_choose 5 nW 1 24 RX4 none dC dI k g A) (hJ : ∀ d : Nat, q_Sd p l e R s m args below meth c 5 nW dC dI k g A (MQ below (q_post (dC, dI) k g nW Q A) args s 0 0 A) d (x_cut (is_X4_choose d) (J d))) : q_Sd p l e R s m args below meth c 5 nW dC dI k g A (MQ below (q_post (dC, dI) k g nW Q A) args s 0 0 A) 93 (b_X4_choose_93 J Q) := by
  unfold b_X4_choose_93
  refine s_iload_n X rfl dX4_choose_93 ?_
  refine s_aload_n X rfl dX4_choose_94 ?_
  refine s_get X (T := TX4) (C := RX4) (N := 4) tu_X4 rfl (by decide) tw_310 dX4_choose_95 ?_
  refine s_icmp_ge X (tgt := 131) dX4_choose_98 (by decide) ?_ ?_
  · exact s_vret X dX4_choose_131
  · refine s_aload_n X rfl dX4_choose_101 ?_
    refine s_get X (T := TX4) (C := RX4) (N := 4) tu_X4 rfl (by decide) tw_309 dX4_choose_102 ?_
    refine s_iload_n X rfl dX4_choose_105 ?_
    refine s_aload_n X rfl dX4_choose_106 ?_
    refine s_iload_n X rfl dX4_choose_107 ?_
    refine s_aload_n X rfl dX4_choose_108 ?_
    refine s_get X (T := TX0) (C := RX0) (N := 12) tu_X0 rfl (by decide) tw_182 dX4_choose_109 ?_
    refine s_iload_n X rfl dX4_choose_112 ?_
    refine s_iald X dX4_choose_113 ?_
    refine s_aload_n X rfl dX4_choose_114 ?_
    refine s_get X (T := TX4) (C := RX4) (N := 4) tu_X4 rfl (by decide) tw_308 dX4_choose_115 ?_
    refine s_iload_n X rfl dX4_choose_118 ?_
    refine s_iald X dX4_choose_119 ?_
    refine s_iadd X dX4_choose_120 ?_
    refine s_callSr X (m_X4_passing l) tw_673 tw_674 tw_131 tw_675 (by decide +kernel) ⟨by decide, by decide⟩ dX4_choose_121 ?_
    refine s_iast X dX4_choose_124 ?_
    refine s_nw ?_
    refine s_iinc X (by decide) dX4_choose_125 ?_
    refine s_goto X (tgt := 93) dX4_choose_128 (by decide) ?_
    exact hJ 93
set_option maxRecDepth 100000 in
def b_X4_choose_85 (J : Nat → List qV → List qV → qW → Prop) (Q : qR) : qK := x_iinc 3 1 (x_cut [0, 1, 2, 3] (J 14))
set_option maxRecDepth 100000 in
theorem s_X4_choose_85 {p : Program} {l : Launch} {e : Env} {R : Room} {s : State} {m : MethodId} {args : Array Value} {below : List Frame} {meth : Method} {c : Code} {nW : Nat} {dC : Nat → ClassId} {dI : Nat → Nat → Nat} {k : Nat → ClassId} {g : Nat → Nat} {A : Nat → Prop} {J : Nat → List qV → List qV → qW → Prop} {Q : qR} (X : q_X p R s m args meth c cX4_choose 5 nW 1 24 RX4 none dC dI k g A) (hJ : ∀ d : Nat, q_Sd p l e R s m args below meth c 5 nW dC dI k g A (MQ below (q_post (dC, dI) k g nW Q A) args s 0 0 A) d (x_cut (is_X4_choose d) (J d))) : q_Sd p l e R s m args below meth c 5 nW dC dI k g A (MQ below (q_post (dC, dI) k g nW Q A) args s 0 0 A) 85 (b_X4_choose_85 J Q) := by
  unfold b_X4_choose_85
  refine s_iinc X (by decide) dX4_choose_85 ?_
  refine s_goto X (tgt := 14) dX4_choose_88 (by decide) ?_
  exact hJ 14
set_option maxRecDepth 100000 in
def b_X4_choose_52 (J : Nat → List qV → List qV → qW → Prop) (Q : qR) : qK := x_if_le (b_X4_choose_85 J Q) (x_aload 0 (x_get 4 3 (x_int 9 (x_icmp_ge (b_X4_choose_85 J Q) (x_aload 0 (x_get 4 1 (x_aload 0 (x_get 4 3 (x_iload 4 (x_iast (x_nw (x_aload 0 (x_dup (x_get 4 3 (x_int 1 (x_iadd (x_put 4 3 q_oki (x_nw (b_X4_choose_85 J Q)))))))))))))))))))
set_option maxRecDepth 100000 in
theorem s_X4_choose_52 {p : Program} {l : Launch} {e : Env} {R : Room} {s : State} {m : MethodId} {args : Array Value} {below : List Frame} {meth : Method} {c : Code} {nW : Nat} {dC : Nat → ClassId} {dI : Nat → Nat → Nat} {k : Nat → ClassId} {g : Nat → Nat} {A : Nat → Prop} {J : Nat → List qV → List qV → qW → Prop} {Q : qR} (X : q_X p R s m args meth c cX4_choose 5 nW 1 24 RX4 none dC dI k g A) (hJ : ∀ d : Nat, q_Sd p l e R s m args below meth c 5 nW dC dI k g A (MQ below (q_post (dC, dI) k g nW Q A) args s 0 0 A) d (x_cut (is_X4_choose d) (J d))) : q_Sd p l e R s m args below meth c 5 nW dC dI k g A (MQ below (q_post (dC, dI) k g nW Q A) args s 0 0 A) 52 (b_X4_choose_52 J Q) := by
  unfold b_X4_choose_52
  refine s_if_le X (tgt := 85) dX4_choose_52 (by decide) ?_ ?_
  · exact s_X4_choose_85 X hJ
  · refine s_aload_n X rfl dX4_choose_55 ?_
    refine s_get X (T := TX4) (C := RX4) (N := 4) tu_X4 rfl (by decide) tw_310 dX4_choose_56 ?_
    refine s_bipush X ⟨by decide, by decide⟩ (by decide) dX4_choose_59 ?_
    refine s_icmp_ge X (tgt := 85) dX4_choose_61 (by decide) ?_ ?_
    · exact s_X4_choose_85 X hJ
    · refine s_aload_n X rfl dX4_choose_64 ?_
      refine s_get X (T := TX4) (C := RX4) (N := 4) tu_X4 rfl (by decide) tw_308 dX4_choose_65 ?_
      refine s_aload_n X rfl dX4_choose_68 ?_
      refine s_get X (T := TX4) (C := RX4) (N := 4) tu_X4 rfl (by decide) tw_310 dX4_choose_69 ?_
      refine s_iload X dX4_choose_72 ?_
      refine s_iast X dX4_choose_74 ?_
      refine s_nw ?_
      refine s_aload_n X rfl dX4_choose_75 ?_
      refine s_dup X dX4_choose_76 ?_
      refine s_get X (T := TX4) (C := RX4) (N := 4) tu_X4 rfl (by decide) tw_310 dX4_choose_77 ?_
      refine s_iconst X ⟨by decide, by decide⟩ dX4_choose_80 ?_
      refine s_iadd X dX4_choose_81 ?_
      refine s_put X (T := TX4) (C := RX4) (N := 4) tu_X4 tyX4_ok nmX4 rfl (by decide) tw_310 rfl (by decide +kernel) q_oki_t dX4_choose_82 ?_
      refine s_nw ?_
      exact s_X4_choose_85 X hJ
set_option maxRecDepth 100000 in
def b_X4_choose_14 (J : Nat → List qV → List qV → qW → Prop) (Q : qR) : qK := x_iload 3 (x_aload 1 (x_get 0 7 (x_icmp_ge (x_int 0 (x_istore 3 (x_cut [0, 1, 2, 3] (J 93)))) (x_aload 1 (x_get 0 0 (x_iload 3 (x_iald (x_aload 1 (x_get 0 4 (x_iload 2 (x_iald (x_isub (x_istore 4 (x_aload 1 (x_get 0 5 (x_iload 2 (x_iald (x_iload 3 (x_ishr (x_int 1 (x_iand (x_if_eq (b_X4_choose_85 J Q) (x_iload 4 (b_X4_choose_52 J Q))))))))))))))))))))))))
set_option maxRecDepth 100000 in
theorem s_X4_choose_14 {p : Program} {l : Launch} {e : Env} {R : Room} {s : State} {m : MethodId} {args : Array Value} {below : List Frame} {meth : Method} {c : Code} {nW : Nat} {dC : Nat → ClassId} {dI : Nat → Nat → Nat} {k : Nat → ClassId} {g : Nat → Nat} {A : Nat → Prop} {J : Nat → List qV → List qV → qW → Prop} {Q : qR} (X : q_X p R s m args meth c cX4_choose 5 nW 1 24 RX4 none dC dI k g A) (hJ : ∀ d : Nat, q_Sd p l e R s m args below meth c 5 nW dC dI k g A (MQ below (q_post (dC, dI) k g nW Q A) args s 0 0 A) d (x_cut (is_X4_choose d) (J d))) : q_Sd p l e R s m args below meth c 5 nW dC dI k g A (MQ below (q_post (dC, dI) k g nW Q A) args s 0 0 A) 14 (b_X4_choose_14 J Q) := by
  unfold b_X4_choose_14
  refine s_iload_n X rfl dX4_choose_14 ?_
  refine s_aload_n X rfl dX4_choose_15 ?_
  refine s_get X (T := TX0) (C := RX0) (N := 12) tu_X0 rfl (by decide) tw_194 dX4_choose_16 ?_
  refine s_icmp_ge X (tgt := 91) dX4_choose_19 (by decide) ?_ ?_
  · refine s_iconst X ⟨by decide, by decide⟩ dX4_choose_91 ?_
    refine s_istore_n X rfl (by decide) dX4_choose_92 ?_
    exact hJ 93
  · refine s_aload_n X rfl dX4_choose_22 ?_
    refine s_get X (T := TX0) (C := RX0) (N := 12) tu_X0 rfl (by decide) tw_168 dX4_choose_23 ?_
    refine s_iload_n X rfl dX4_choose_26 ?_
    refine s_iald X dX4_choose_27 ?_
    refine s_aload_n X rfl dX4_choose_28 ?_
    refine s_get X (T := TX0) (C := RX0) (N := 12) tu_X0 rfl (by decide) tw_182 dX4_choose_29 ?_
    refine s_iload_n X rfl dX4_choose_32 ?_
    refine s_iald X dX4_choose_33 ?_
    refine s_isub X dX4_choose_34 ?_
    refine s_istore X (by decide) dX4_choose_35 ?_
    refine s_aload_n X rfl dX4_choose_37 ?_
    refine s_get X (T := TX0) (C := RX0) (N := 12) tu_X0 rfl (by decide) tw_185 dX4_choose_38 ?_
    refine s_iload_n X rfl dX4_choose_41 ?_
    refine s_iald X dX4_choose_42 ?_
    refine s_iload_n X rfl dX4_choose_43 ?_
    refine s_ishr X dX4_choose_44 ?_
    refine s_iconst X ⟨by decide, by decide⟩ dX4_choose_45 ?_
    refine s_iand X dX4_choose_46 ?_
    refine s_if_eq X (tgt := 85) dX4_choose_47 (by decide) ?_ ?_
    · exact s_X4_choose_85 X hJ
    · refine s_iload X dX4_choose_50 ?_
      exact s_X4_choose_52 X hJ
set_option maxRecDepth 100000 in
def b_X4_choose_0 (J : Nat → List qV → List qV → qW → Prop) (Q : qR) : qK := x_aload 0 (x_get 4 1 (x_int 0 (x_int 0 (x_iast (x_nw (x_aload 0 (x_int 1 (x_put 4 3 q_oki (x_nw (x_int 0 (x_istore 3 (x_cut [0, 1, 2, 3] (J 14)))))))))))))
set_option maxRecDepth 100000 in
theorem s_X4_choose_0 {p : Program} {l : Launch} {e : Env} {R : Room} {s : State} {m : MethodId} {args : Array Value} {below : List Frame} {meth : Method} {c : Code} {nW : Nat} {dC : Nat → ClassId} {dI : Nat → Nat → Nat} {k : Nat → ClassId} {g : Nat → Nat} {A : Nat → Prop} {J : Nat → List qV → List qV → qW → Prop} {Q : qR} (X : q_X p R s m args meth c cX4_choose 5 nW 1 24 RX4 none dC dI k g A) (hJ : ∀ d : Nat, q_Sd p l e R s m args below meth c 5 nW dC dI k g A (MQ below (q_post (dC, dI) k g nW Q A) args s 0 0 A) d (x_cut (is_X4_choose d) (J d))) : q_Sd p l e R s m args below meth c 5 nW dC dI k g A (MQ below (q_post (dC, dI) k g nW Q A) args s 0 0 A) 0 (b_X4_choose_0 J Q) := by
  unfold b_X4_choose_0
  refine s_aload_n X rfl dX4_choose_0 ?_
  refine s_get X (T := TX4) (C := RX4) (N := 4) tu_X4 rfl (by decide) tw_308 dX4_choose_1 ?_
  refine s_iconst X ⟨by decide, by decide⟩ dX4_choose_4 ?_
  refine s_iconst X ⟨by decide, by decide⟩ dX4_choose_5 ?_
  refine s_iast X dX4_choose_6 ?_
  refine s_nw ?_
  refine s_aload_n X rfl dX4_choose_7 ?_
  refine s_iconst X ⟨by decide, by decide⟩ dX4_choose_8 ?_
  refine s_put X (T := TX4) (C := RX4) (N := 4) tu_X4 tyX4_ok nmX4 rfl (by decide) tw_310 rfl (by decide +kernel) q_oki_t dX4_choose_9 ?_
  refine s_nw ?_
  refine s_iconst X ⟨by decide, by decide⟩ dX4_choose_12 ?_
  refine s_istore_n X rfl (by decide) dX4_choose_13 ?_
  exact hJ 14

def sp_X4_choose : qS := fun av w Q => ∃ (h1 : Nat → Int) (h2 : Nat → Int) (h3 : Nat → Int) (p4 : Int) (f1 : Nat → Int) (f2 : Nat → Int) (f3 : Nat → Int) (f4 : Nat → Int) (f5 : Nat → Int) (f6 : Nat → Int) (f7 : Nat → Int) (u0 : Int) (u1 : Int) (u2 : Int) (u3 : Int) (u4 : Int) (a : Int), av = [q2 0, q2 4, q1 a] ∧ w = (wZo 0 h1 h2 h3 p4 ++ wBo 4 f1 f2 f3 f4 f5 f6 f7 u0 u1 u2 u3 u4) ∧ (0 ≤ u0 ∧ u0 ≤ 8 ∧ 0 ≤ u3 ∧ u3 ≤ 6 ∧ 0 ≤ u4 ∧ u4 ≤ 6) ∧ (q_rg 0 2147483647 h2) ∧ (q_rg 0 8 h3) ∧ (0 ≤ a ∧ a ≤ 5) ∧ (∀ (x2 : Nat → Int) (x3 : Nat → Int) (x4 : Int), (q_rg 0 2147483647 x2 ∧ q_rg 0 8 x3 ∧ 1 ≤ x4 ∧ x4 ≤ 9) → Q none ((wZo 0 h1 x2 x3 x4 ++ wBo 4 f1 f2 f3 f4 f5 f6 f7 u0 u1 u2 u3 u4)))
def I_X4_choose (h1 : Nat → Int) (h2 : Nat → Int) (h3 : Nat → Int) (p4 : Int) (f1 : Nat → Int) (f2 : Nat → Int) (f3 : Nat → Int) (f4 : Nat → Int) (f5 : Nat → Int) (f6 : Nat → Int) (f7 : Nat → Int) (u0 : Int) (u1 : Int) (u2 : Int) (u3 : Int) (u4 : Int) (a : Int) : Nat → Nat → List qV → List qV → qW → Prop := fun dz mz vz sz wz => if dz = 14 then (∃ (y2 : Nat → Int) (y3 : Nat → Int) (y4 : Int) (v3 : Int), vz = [q2 0, q2 4, q1 a, q1 v3] ∧ sz = [] ∧ wz = (wZo 0 h1 y2 y3 y4 ++ wBo 4 f1 f2 f3 f4 f5 f6 f7 u0 u1 u2 u3 u4) ∧ mz = 100 + (u0 - v3).toNat ∧ (0 ≤ v3 ∧ v3 ≤ u0 ∧ 1 ≤ y4 ∧ y4 ≤ 9) ∧ (q_rg 0 2147483647 y2) ∧ (q_rg 0 8 y3)) else if dz = 93 then (∃ (y2 : Nat → Int) (y3 : Nat → Int) (y4 : Int) (v3 : Int), vz = [q2 0, q2 4, q1 a, q1 v3] ∧ sz = [] ∧ wz = (wZo 0 h1 y2 y3 y4 ++ wBo 4 f1 f2 f3 f4 f5 f6 f7 u0 u1 u2 u3 u4) ∧ mz = (y4 - v3).toNat ∧ (0 ≤ v3 ∧ v3 ≤ y4 ∧ 1 ≤ y4 ∧ y4 ≤ 9) ∧ (q_rg 0 2147483647 y2) ∧ (q_rg 0 8 y3)) else False
set_option maxHeartbeats 4000000 in
set_option maxRecDepth 100000 in
theorem m_X4_choose (l : Launch) : q_M l yX4_choose cX4_choose 5 none 1 24 sp_X4_choose := by
  refine q_meth (by decide) (fun av w Q h => by obtain ⟨h1, h2, h3, p4, f1, f2, f3, f4, f5, f6, f7, u0, u1, u2, u3, u4, a, rfl, rfl, hu0, hs, hg, ha, hQ⟩ := h; exact Nat.le_of_ble_eq_true rfl) ?_
  intro p e R s m args below meth c dC dI k g A av w Q hsp oka okw X
  obtain ⟨h1, h2, h3, p4, f1, f2, f3, f4, f5, f6, f7, u0, u1, u2, u3, u4, a, rfl, rfl, hu0, hs, hg, ha, hQ⟩ := hsp
  have o_a : -2147483648 ≤ a ∧ a ≤ 2147483647 := oka _ (List.mem_of_getElem? (i := 2) rfl)
  refine s_mono (s_X4_choose_0 X (J := fun dz vz sz wz => ∃ mz, I_X4_choose h1 h2 h3 p4 f1 f2 f3 f4 f5 f6 f7 u0 u1 u2 u3 u4 a dz mz vz sz wz) (q_loopn (I_X4_choose h1 h2 h3 p4 f1 f2 f3 f4 f5 f6 f7 u0 u1 u2 u3 u4 a) (fun dz J => if dz = 14 then b_X4_choose_14 J Q else if dz = 93 then b_X4_choose_93 J Q else q_F) ?hs ?hv)) ?_
  case hs =>
    intro d J hJ
    by_cases h14 : d = 14
    · subst h14; exact s_X4_choose_14 X hJ
    by_cases h93 : d = 93
    · subst h93; exact s_X4_choose_93 X hJ
    simp only [h14, h93, if_false]
    exact s_F
  case hv =>
    intro dz mz vz sz wz hI okv oks okw hlen
    by_cases h14 : dz = 14
    · subst h14
      obtain ⟨y2, y3, y4, v3, rfl, rfl, rfl, hn, hp, hs, hg⟩ := hI
      apply And.intro
      · intro h19
        exact ⟨_, ⟨_, _, _, _, rfl, rfl, rfl, rfl, (by first | omega | assumption | exact q_rg_up (by assumption) (by omega) | exact q_rg_up (q_rg_up (by assumption) (by omega)) (by omega) | exact q_rg_cpy (by assumption) (by assumption)), (by first | omega | assumption | exact q_rg_up (by assumption) (by omega) | exact q_rg_up (q_rg_up (by assumption) (by omega)) (by omega) | exact q_rg_cpy (by assumption) (by assumption)), (by first | omega | assumption | exact q_rg_up (by assumption) (by omega) | exact q_rg_up (q_rg_up (by assumption) (by omega)) (by omega) | exact q_rg_cpy (by assumption) (by assumption))⟩, by omega⟩
      · intro h19
        apply And.intro
        · exact ⟨by omega, by omega⟩
        intro z27 h27
        first | have a27 := q_rg_at hs h27 | have a27 := q_rg_at hg h27 | skip
        apply And.intro
        · exact ⟨by omega, by omega⟩
        intro z33 h33
        first | have a33 := q_rg_at hs h33 | have a33 := q_rg_at hg h33 | skip
        intro z34 h34
        first | replace h34 := e_sub h34 (by omega) | replace h34 := e_rng h34
        apply And.intro
        · exact ⟨by omega, by omega⟩
        intro z42 h42
        first | have a42 := q_rg_at hs h42 | have a42 := q_rg_at hg h42 | skip
        intro z44 h44
        replace h44 := e_rng h44
        intro z46 h46
        first | replace h46 := e_and1 h46 | replace h46 := e_and255 h46 | replace h46 := e_and h46 (by omega) (by omega) | replace h46 := e_rng h46
        apply And.intro
        · intro h47
          intro z85 h85
          first | replace h85 := e_add h85 (by omega) | replace h85 := e_rng h85
          exact ⟨_, ⟨_, _, _, _, rfl, rfl, rfl, rfl, (by first | omega | assumption | exact q_rg_up (by assumption) (by omega) | exact q_rg_up (q_rg_up (by assumption) (by omega)) (by omega) | exact q_rg_cpy (by assumption) (by assumption)), (by first | omega | assumption | exact q_rg_up (by assumption) (by omega) | exact q_rg_up (q_rg_up (by assumption) (by omega)) (by omega) | exact q_rg_cpy (by assumption) (by assumption)), (by first | omega | assumption | exact q_rg_up (by assumption) (by omega) | exact q_rg_up (q_rg_up (by assumption) (by omega)) (by omega) | exact q_rg_cpy (by assumption) (by assumption))⟩, by omega⟩
        · intro h47
          apply And.intro
          · intro h52
            intro z85 h85
            first | replace h85 := e_add h85 (by omega) | replace h85 := e_rng h85
            exact ⟨_, ⟨_, _, _, _, rfl, rfl, rfl, rfl, (by first | omega | assumption | exact q_rg_up (by assumption) (by omega) | exact q_rg_up (q_rg_up (by assumption) (by omega)) (by omega) | exact q_rg_cpy (by assumption) (by assumption)), (by first | omega | assumption | exact q_rg_up (by assumption) (by omega) | exact q_rg_up (q_rg_up (by assumption) (by omega)) (by omega) | exact q_rg_cpy (by assumption) (by assumption)), (by first | omega | assumption | exact q_rg_up (by assumption) (by omega) | exact q_rg_up (q_rg_up (by assumption) (by omega)) (by omega) | exact q_rg_cpy (by assumption) (by assumption))⟩, by omega⟩
          · intro h52
            apply And.intro
            · intro h61
              intro z85 h85
              first | replace h85 := e_add h85 (by omega) | replace h85 := e_rng h85
              exact ⟨_, ⟨_, _, _, _, rfl, rfl, rfl, rfl, (by first | omega | assumption | exact q_rg_up (by assumption) (by omega) | exact q_rg_up (q_rg_up (by assumption) (by omega)) (by omega) | exact q_rg_cpy (by assumption) (by assumption)), (by first | omega | assumption | exact q_rg_up (by assumption) (by omega) | exact q_rg_up (q_rg_up (by assumption) (by omega)) (by omega) | exact q_rg_cpy (by assumption) (by assumption)), (by first | omega | assumption | exact q_rg_up (by assumption) (by omega) | exact q_rg_up (q_rg_up (by assumption) (by omega)) (by omega) | exact q_rg_cpy (by assumption) (by assumption))⟩, by omega⟩
            · intro h61
              apply And.intro
              · exact ⟨by omega, by omega⟩
              intro z81 h81
              first | replace h81 := e_add h81 (by omega) | replace h81 := e_rng h81
              apply And.intro
              · exact trivial
              intro z85 h85
              first | replace h85 := e_add h85 (by omega) | replace h85 := e_rng h85
              exact ⟨_, ⟨_, _, _, _, rfl, rfl, rfl, rfl, (by first | omega | assumption | exact q_rg_up (by assumption) (by omega) | exact q_rg_up (q_rg_up (by assumption) (by omega)) (by omega) | exact q_rg_cpy (by assumption) (by assumption)), (by first | omega | assumption | exact q_rg_up (by assumption) (by omega) | exact q_rg_up (q_rg_up (by assumption) (by omega)) (by omega) | exact q_rg_cpy (by assumption) (by assumption)), (by first | omega | assumption | exact q_rg_up (by assumption) (by omega) | exact q_rg_up (q_rg_up (by assumption) (by omega)) (by omega) | exact q_rg_cpy (by assumption) (by assumption))⟩, by omega⟩
    by_cases h93 : dz = 93
    · subst h93
      obtain ⟨y2, y3, y4, v3, rfl, rfl, rfl, hn, hp, hs, hg⟩ := hI
      apply And.intro
      · intro h98
        exact hQ _ _ _ ⟨(by first | omega | assumption | exact q_rg_up (by assumption) (by omega) | exact q_rg_up (q_rg_up (by assumption) (by omega)) (by omega) | exact q_rg_cpy (by assumption) (by assumption)), (by first | omega | assumption | exact q_rg_up (by assumption) (by omega) | exact q_rg_up (q_rg_up (by assumption) (by omega)) (by omega) | exact q_rg_cpy (by assumption) (by assumption)), by omega, by omega⟩
      · intro h98
        apply And.intro
        · exact ⟨by omega, by omega⟩
        intro z113 h113
        first | have a113 := q_rg_at hs h113 | have a113 := q_rg_at hg h113 | skip
        apply And.intro
        · exact ⟨by omega, by omega⟩
        intro z119 h119
        first | have a119 := q_rg_at hs h119 | have a119 := q_rg_at hg h119 | skip
        intro z120 h120
        first | replace h120 := e_add h120 (by omega) | replace h120 := e_rng h120
        refine Exists.intro [4, 5, 6, 7, 8, 9, 10, 11] (Exists.intro [q2 0, q1 _, q1 _] (Exists.intro (wB _ _ _ _ _ _ _ _ _ _ _ _) (And.intro rfl (And.intro rfl (And.intro rfl (And.intro trivial ?_))))))
        refine Exists.intro _ (Exists.intro _ (Exists.intro _ (Exists.intro _ (Exists.intro _ (Exists.intro _ (Exists.intro _ (Exists.intro _ (Exists.intro _ (Exists.intro _ (Exists.intro _ (Exists.intro _ (Exists.intro _ (Exists.intro _ (And.intro rfl (And.intro rfl (And.intro (by first | omega | assumption | exact q_rg_up (by assumption) (by omega) | exact q_rg_up (q_rg_up (by assumption) (by omega)) (by omega) | exact q_rg_cpy (by assumption) (by assumption)) (And.intro (by first | omega | assumption | exact q_rg_up (by assumption) (by omega) | exact q_rg_up (q_rg_up (by assumption) (by omega)) (by omega) | exact q_rg_cpy (by assumption) (by assumption)) (?_))))))))))))))))))
        intro z121 h121
        apply And.intro
        · exact ⟨by omega, by omega⟩
        intro z125 h125
        first | replace h125 := e_add h125 (by omega) | replace h125 := e_rng h125
        exact ⟨_, ⟨_, _, _, _, rfl, rfl, rfl, rfl, (by first | omega | assumption | exact q_rg_up (by assumption) (by omega) | exact q_rg_up (q_rg_up (by assumption) (by omega)) (by omega) | exact q_rg_cpy (by assumption) (by assumption)), (by first | omega | assumption | exact q_rg_up (by assumption) (by omega) | exact q_rg_up (q_rg_up (by assumption) (by omega)) (by omega) | exact q_rg_cpy (by assumption) (by assumption)), (by first | omega | assumption | exact q_rg_up (by assumption) (by omega) | exact q_rg_up (q_rg_up (by assumption) (by omega)) (by omega) | exact q_rg_cpy (by assumption) (by assumption))⟩, by omega⟩
    simp only [I_X4_choose, h14, h93, if_false] at hI
  rintro lv st w' ⟨rfl, rfl, rfl⟩
  apply And.intro
  · exact ⟨by omega, by omega⟩
  apply And.intro
  · exact trivial
  exact ⟨_, _, _, _, _, rfl, rfl, rfl, rfl, (by first | omega | assumption | exact q_rg_up (by assumption) (by omega) | exact q_rg_up (q_rg_up (by assumption) (by omega)) (by omega) | exact q_rg_cpy (by assumption) (by assumption)), (by first | omega | assumption | exact q_rg_up (by assumption) (by omega) | exact q_rg_up (q_rg_up (by assumption) (by omega)) (by omega) | exact q_rg_cpy (by assumption) (by assumption)), (by first | omega | assumption | exact q_rg_up (by assumption) (by omega) | exact q_rg_up (q_rg_up (by assumption) (by omega)) (by omega) | exact q_rg_cpy (by assumption) (by assumption))⟩

theorem dX4_couples_0 : decode cX4_couples 0 = .ok (.aload_n 0, 1) := by decide +kernel
theorem dX4_couples_1 : decode cX4_couples 1 = .ok (.getfield 15, 3) := by decide +kernel
theorem dX4_couples_4 : decode cX4_couples 4 = .ok (.iload_n 3, 1) := by decide +kernel
theorem dX4_couples_5 : decode cX4_couples 5 = .ok (.iaload, 1) := by decide +kernel
theorem dX4_couples_6 : decode cX4_couples 6 = .ok (.iload_n 2, 1) := by decide +kernel
theorem dX4_couples_7 : decode cX4_couples 7 = .ok (.if_icmp .le 5, 3) := by decide +kernel
theorem dX4_couples_10 : decode cX4_couples 10 = .ok (.iconst (-1), 1) := by decide +kernel
theorem dX4_couples_11 : decode cX4_couples 11 = .ok (.ireturn, 1) := by decide +kernel
theorem dX4_couples_12 : decode cX4_couples 12 = .ok (.aload_n 0, 1) := by decide +kernel
theorem dX4_couples_13 : decode cX4_couples 13 = .ok (.getfield 18, 3) := by decide +kernel
theorem dX4_couples_16 : decode cX4_couples 16 = .ok (.iload_n 3, 1) := by decide +kernel
theorem dX4_couples_17 : decode cX4_couples 17 = .ok (.iaload, 1) := by decide +kernel
theorem dX4_couples_18 : decode cX4_couples 18 = .ok (.aload_n 0, 1) := by decide +kernel
theorem dX4_couples_19 : decode cX4_couples 19 = .ok (.getfield 11, 3) := by decide +kernel
theorem dX4_couples_22 : decode cX4_couples 22 = .ok (.bipush 100, 2) := by decide +kernel
theorem dX4_couples_24 : decode cX4_couples 24 = .ok (.iload_n 1, 1) := by decide +kernel
theorem dX4_couples_25 : decode cX4_couples 25 = .ok (.iconst 1, 1) := by decide +kernel
theorem dX4_couples_26 : decode cX4_couples 26 = .ok (.iadd, 1) := by decide +kernel
theorem dX4_couples_27 : decode cX4_couples 27 = .ok (.imul, 1) := by decide +kernel
theorem dX4_couples_28 : decode cX4_couples 28 = .ok (.iload_n 2, 1) := by decide +kernel
theorem dX4_couples_29 : decode cX4_couples 29 = .ok (.iadd, 1) := by decide +kernel
theorem dX4_couples_30 : decode cX4_couples 30 = .ok (.aload_n 0, 1) := by decide +kernel
theorem dX4_couples_31 : decode cX4_couples 31 = .ok (.getfield 15, 3) := by decide +kernel
theorem dX4_couples_34 : decode cX4_couples 34 = .ok (.iload_n 3, 1) := by decide +kernel
theorem dX4_couples_35 : decode cX4_couples 35 = .ok (.iaload, 1) := by decide +kernel
theorem dX4_couples_36 : decode cX4_couples 36 = .ok (.isub, 1) := by decide +kernel
theorem dX4_couples_37 : decode cX4_couples 37 = .ok (.iaload, 1) := by decide +kernel
theorem dX4_couples_38 : decode cX4_couples 38 = .ok (.iadd, 1) := by decide +kernel
theorem dX4_couples_39 : decode cX4_couples 39 = .ok (.ireturn, 1) := by decide +kernel
def is_X4_couples : Nat → List Nat := fun d => []
set_option maxRecDepth 100000 in
def b_X4_couples_35 (J : Nat → List qV → List qV → qW → Prop) (Q : qR) : qK := x_iald (x_isub (x_iald (x_iadd (x_iret Q))))
set_option maxRecDepth 100000 in
theorem s_X4_couples_35 {p : Program} {l : Launch} {e : Env} {R : Room} {s : State} {m : MethodId} {args : Array Value} {below : List Frame} {meth : Method} {c : Code} {nW : Nat} {dC : Nat → ClassId} {dI : Nat → Nat → Nat} {k : Nat → ClassId} {g : Nat → Nat} {A : Nat → Prop} {J : Nat → List qV → List qV → qW → Prop} {Q : qR} (X : q_X p R s m args meth c cX4_couples 4 nW 0 0 RX4 (some .int) dC dI k g A) (hJ : ∀ d : Nat, q_Sd p l e R s m args below meth c 4 nW dC dI k g A (MQ below (q_post (dC, dI) k g nW Q A) args s 0 0 A) d (x_cut (is_X4_couples d) (J d))) : q_Sd p l e R s m args below meth c 4 nW dC dI k g A (MQ below (q_post (dC, dI) k g nW Q A) args s 0 0 A) 35 (b_X4_couples_35 J Q) := by
  unfold b_X4_couples_35
  refine s_iald X dX4_couples_35 ?_
  refine s_isub X dX4_couples_36 ?_
  refine s_iald X dX4_couples_37 ?_
  refine s_iadd X dX4_couples_38 ?_
  exact s_iret X dX4_couples_39
set_option maxRecDepth 100000 in
def b_X4_couples_0 (J : Nat → List qV → List qV → qW → Prop) (Q : qR) : qK := x_aload 0 (x_get 4 1 (x_iload 3 (x_iald (x_iload 2 (x_icmp_le (x_aload 0 (x_get 4 2 (x_iload 3 (x_iald (x_aload 0 (x_get 4 0 (x_int 100 (x_iload 1 (x_int 1 (x_iadd (x_imul (x_iload 2 (x_iadd (x_aload 0 (x_get 4 1 (x_iload 3 (b_X4_couples_35 J Q))))))))))))))))) (x_int (-1) (x_iret Q)))))))
set_option maxRecDepth 100000 in
theorem s_X4_couples_0 {p : Program} {l : Launch} {e : Env} {R : Room} {s : State} {m : MethodId} {args : Array Value} {below : List Frame} {meth : Method} {c : Code} {nW : Nat} {dC : Nat → ClassId} {dI : Nat → Nat → Nat} {k : Nat → ClassId} {g : Nat → Nat} {A : Nat → Prop} {J : Nat → List qV → List qV → qW → Prop} {Q : qR} (X : q_X p R s m args meth c cX4_couples 4 nW 0 0 RX4 (some .int) dC dI k g A) (hJ : ∀ d : Nat, q_Sd p l e R s m args below meth c 4 nW dC dI k g A (MQ below (q_post (dC, dI) k g nW Q A) args s 0 0 A) d (x_cut (is_X4_couples d) (J d))) : q_Sd p l e R s m args below meth c 4 nW dC dI k g A (MQ below (q_post (dC, dI) k g nW Q A) args s 0 0 A) 0 (b_X4_couples_0 J Q) := by
  unfold b_X4_couples_0
  refine s_aload_n X rfl dX4_couples_0 ?_
  refine s_get X (T := TX4) (C := RX4) (N := 4) tu_X4 rfl (by decide) tw_308 dX4_couples_1 ?_
  refine s_iload_n X rfl dX4_couples_4 ?_
  refine s_iald X dX4_couples_5 ?_
  refine s_iload_n X rfl dX4_couples_6 ?_
  refine s_icmp_le X (tgt := 12) dX4_couples_7 (by decide) ?_ ?_
  · refine s_aload_n X rfl dX4_couples_12 ?_
    refine s_get X (T := TX4) (C := RX4) (N := 4) tu_X4 rfl (by decide) tw_309 dX4_couples_13 ?_
    refine s_iload_n X rfl dX4_couples_16 ?_
    refine s_iald X dX4_couples_17 ?_
    refine s_aload_n X rfl dX4_couples_18 ?_
    refine s_get X (T := TX4) (C := RX4) (N := 4) tu_X4 rfl (by decide) tw_307 dX4_couples_19 ?_
    refine s_bipush X ⟨by decide, by decide⟩ (by decide) dX4_couples_22 ?_
    refine s_iload_n X rfl dX4_couples_24 ?_
    refine s_iconst X ⟨by decide, by decide⟩ dX4_couples_25 ?_
    refine s_iadd X dX4_couples_26 ?_
    refine s_imul X dX4_couples_27 ?_
    refine s_iload_n X rfl dX4_couples_28 ?_
    refine s_iadd X dX4_couples_29 ?_
    refine s_aload_n X rfl dX4_couples_30 ?_
    refine s_get X (T := TX4) (C := RX4) (N := 4) tu_X4 rfl (by decide) tw_308 dX4_couples_31 ?_
    refine s_iload_n X rfl dX4_couples_34 ?_
    exact s_X4_couples_35 X hJ
  · refine s_iconst X ⟨by decide, by decide⟩ dX4_couples_10 ?_
    exact s_iret X dX4_couples_11

def spr_X4_couples : List qV → qW → (Option qV → Prop) → Prop := fun av w Q => ∃ (h1 : Nat → Int) (h2 : Nat → Int) (h3 : Nat → Int) (p4 : Int) (a : Int) (b : Int) (q : Int), av = [q2 0, q1 a, q1 b, q1 q] ∧ w = (wZo 0 h1 h2 h3 p4) ∧ (q_rg 0 2147483647 h2) ∧ (q_rg 0 8 h3) ∧ (bbP h1) ∧ (0 ≤ a ∧ a ≤ 5 ∧ 0 ≤ b ∧ b ≤ 99 ∧ 0 ≤ q ∧ q ≤ 8) ∧ (∀ (r : Int) , ((r = -1 ∧ b < h2 q.toNat) ∨ (h2 q.toNat ≤ b ∧ 0 ≤ r ∧ r ≤ 48 - 8 * a)) → Q (some (q1 r)))
def sp_X4_couples : qS := fun av w Q => spr_X4_couples av w (fun r => Q r w)
set_option maxHeartbeats 4000000 in
set_option maxRecDepth 100000 in
theorem m_X4_couples (l : Launch) : q_M l yX4_couples cX4_couples 4 (some .int) 0 0 sp_X4_couples := by
  refine q_meth (by decide) (fun av w Q h => by obtain ⟨h1, h2, h3, p4, a, b, q, rfl, rfl, hs, hg, hb, ha, hQ⟩ := h; exact Nat.le_of_ble_eq_true rfl) ?_
  intro p e R s m args below meth c dC dI k g A av w Q hsp oka okw X
  obtain ⟨h1, h2, h3, p4, a, b, q, rfl, rfl, hs, hg, hb, ha, hQ⟩ := hsp
  have o_a : -2147483648 ≤ a ∧ a ≤ 2147483647 := oka _ (List.mem_of_getElem? (i := 1) rfl)
  have o_b : -2147483648 ≤ b ∧ b ≤ 2147483647 := oka _ (List.mem_of_getElem? (i := 2) rfl)
  have o_q : -2147483648 ≤ q ∧ q ≤ 2147483647 := oka _ (List.mem_of_getElem? (i := 3) rfl)
  refine s_mono (s_X4_couples_0 X (J := fun _ _ _ _ => False) (fun d => s_cutF)) ?_
  rintro lv st w' ⟨rfl, rfl, rfl⟩
  apply And.intro
  · exact ⟨by omega, by omega⟩
  intro z5 h5
  first | have a5 := q_rg_at hs h5 | have a5 := q_rg_at hg h5 | skip
  apply And.intro
  · intro h7
    apply And.intro
    · exact ⟨by omega, by omega⟩
    intro z17 h17
    first | have a17 := q_rg_at hs h17 | have a17 := q_rg_at hg h17 | skip
    intro z26 h26
    first | replace h26 := e_add h26 (by omega) | replace h26 := e_rng h26
    intro z27 h27
    first | replace h27 := e_mul h27 (by omega) | replace h27 := e_rng h27
    intro z29 h29
    first | replace h29 := e_add h29 (by omega) | replace h29 := e_rng h29
    apply And.intro
    · exact ⟨by omega, by omega⟩
    intro z35 h35
    first | have a35 := q_rg_at hs h35 | have a35 := q_rg_at hg h35 | skip
    intro z36 h36
    first | replace h36 := e_sub h36 (by omega) | replace h36 := e_rng h36
    apply And.intro
    · exact ⟨by omega, by omega⟩
    intro z37 h37
    have ab := bb_at hb h37 (by omega)
    intro z38 h38
    first | replace h38 := e_add h38 (by omega) | replace h38 := e_rng h38
    exact hQ _ (by first | omega | assumption | exact q_rg_up (by assumption) (by omega) | exact q_rg_up (q_rg_up (by assumption) (by omega)) (by omega) | exact q_rg_cpy (by assumption) (by assumption))
  · intro h7
    exact hQ _ (by first | omega | assumption | exact q_rg_up (by assumption) (by omega) | exact q_rg_up (q_rg_up (by assumption) (by omega)) (by omega) | exact q_rg_cpy (by assumption) (by assumption))

theorem dX4_plan_0 : decode cX4_plan 0 = .ok (.aload_n 0, 1) := by decide +kernel
theorem dX4_plan_1 : decode cX4_plan 1 = .ok (.getfield 11, 3) := by decide +kernel
theorem dX4_plan_4 : decode cX4_plan 4 = .ok (.iconst 0, 1) := by decide +kernel
theorem dX4_plan_5 : decode cX4_plan 5 = .ok (.invokestatic 21, 3) := by decide +kernel
theorem dX4_plan_8 : decode cX4_plan 8 = .ok (.aload_n 1, 1) := by decide +kernel
theorem dX4_plan_9 : decode cX4_plan 9 = .ok (.getfield 27, 3) := by decide +kernel
theorem dX4_plan_12 : decode cX4_plan 12 = .ok (.iconst 1, 1) := by decide +kernel
theorem dX4_plan_13 : decode cX4_plan 13 = .ok (.isub, 1) := by decide +kernel
theorem dX4_plan_14 : decode cX4_plan 14 = .ok (.istore_n 3, 1) := by decide +kernel
theorem dX4_plan_15 : decode cX4_plan 15 = .ok (.iload_n 3, 1) := by decide +kernel
theorem dX4_plan_16 : decode cX4_plan 16 = .ok (.ifCond .lt 91, 3) := by decide +kernel
theorem dX4_plan_19 : decode cX4_plan 19 = .ok (.aload_n 0, 1) := by decide +kernel
theorem dX4_plan_20 : decode cX4_plan 20 = .ok (.aload_n 1, 1) := by decide +kernel
theorem dX4_plan_21 : decode cX4_plan 21 = .ok (.iload_n 3, 1) := by decide +kernel
theorem dX4_plan_22 : decode cX4_plan 22 = .ok (.invokevirtual 33, 3) := by decide +kernel
theorem dX4_plan_25 : decode cX4_plan 25 = .ok (.iconst 0, 1) := by decide +kernel
theorem dX4_plan_26 : decode cX4_plan 26 = .ok (.istore 4, 2) := by decide +kernel
theorem dX4_plan_28 : decode cX4_plan 28 = .ok (.iload 4, 2) := by decide +kernel
theorem dX4_plan_30 : decode cX4_plan 30 = .ok (.iload_n 2, 1) := by decide +kernel
theorem dX4_plan_31 : decode cX4_plan 31 = .ok (.if_icmp .gt 70, 3) := by decide +kernel
theorem dX4_plan_34 : decode cX4_plan 34 = .ok (.iload 4, 2) := by decide +kernel
theorem dX4_plan_36 : decode cX4_plan 36 = .ok (.bipush 100, 2) := by decide +kernel
theorem dX4_plan_38 : decode cX4_plan 38 = .ok (.if_icmp .ge 63, 3) := by decide +kernel
theorem dX4_plan_41 : decode cX4_plan 41 = .ok (.iconst 0, 1) := by decide +kernel
theorem dX4_plan_42 : decode cX4_plan 42 = .ok (.istore 5, 2) := by decide +kernel
theorem dX4_plan_44 : decode cX4_plan 44 = .ok (.iload 5, 2) := by decide +kernel
theorem dX4_plan_46 : decode cX4_plan 46 = .ok (.aload_n 0, 1) := by decide +kernel
theorem dX4_plan_47 : decode cX4_plan 47 = .ok (.getfield 37, 3) := by decide +kernel
theorem dX4_plan_50 : decode cX4_plan 50 = .ok (.if_icmp .ge 45, 3) := by decide +kernel
theorem dX4_plan_53 : decode cX4_plan 53 = .ok (.aload_n 0, 1) := by decide +kernel
theorem dX4_plan_54 : decode cX4_plan 54 = .ok (.getfield 11, 3) := by decide +kernel
theorem dX4_plan_57 : decode cX4_plan 57 = .ok (.bipush 100, 2) := by decide +kernel
theorem dX4_plan_59 : decode cX4_plan 59 = .ok (.iload_n 3, 1) := by decide +kernel
theorem dX4_plan_60 : decode cX4_plan 60 = .ok (.imul, 1) := by decide +kernel
theorem dX4_plan_61 : decode cX4_plan 61 = .ok (.iload 4, 2) := by decide +kernel
theorem dX4_plan_63 : decode cX4_plan 63 = .ok (.iadd, 1) := by decide +kernel
theorem dX4_plan_64 : decode cX4_plan 64 = .ok (.aload_n 0, 1) := by decide +kernel
theorem dX4_plan_65 : decode cX4_plan 65 = .ok (.getfield 11, 3) := by decide +kernel
theorem dX4_plan_68 : decode cX4_plan 68 = .ok (.bipush 100, 2) := by decide +kernel
theorem dX4_plan_70 : decode cX4_plan 70 = .ok (.iload_n 3, 1) := by decide +kernel
theorem dX4_plan_71 : decode cX4_plan 71 = .ok (.imul, 1) := by decide +kernel
theorem dX4_plan_72 : decode cX4_plan 72 = .ok (.iload 4, 2) := by decide +kernel
theorem dX4_plan_74 : decode cX4_plan 74 = .ok (.iadd, 1) := by decide +kernel
theorem dX4_plan_75 : decode cX4_plan 75 = .ok (.iaload, 1) := by decide +kernel
theorem dX4_plan_76 : decode cX4_plan 76 = .ok (.aload_n 0, 1) := by decide +kernel
theorem dX4_plan_77 : decode cX4_plan 77 = .ok (.iload_n 3, 1) := by decide +kernel
theorem dX4_plan_78 : decode cX4_plan 78 = .ok (.iload 4, 2) := by decide +kernel
theorem dX4_plan_80 : decode cX4_plan 80 = .ok (.iload 5, 2) := by decide +kernel
theorem dX4_plan_82 : decode cX4_plan 82 = .ok (.invokevirtual 40, 3) := by decide +kernel
theorem dX4_plan_85 : decode cX4_plan 85 = .ok (.invokestatic 44, 3) := by decide +kernel
theorem dX4_plan_88 : decode cX4_plan 88 = .ok (.iastore, 1) := by decide +kernel
theorem dX4_plan_89 : decode cX4_plan 89 = .ok (.iinc 5 1, 3) := by decide +kernel
theorem dX4_plan_92 : decode cX4_plan 92 = .ok (.goto (-48), 3) := by decide +kernel
theorem dX4_plan_95 : decode cX4_plan 95 = .ok (.iinc 4 1, 3) := by decide +kernel
theorem dX4_plan_98 : decode cX4_plan 98 = .ok (.goto (-70), 3) := by decide +kernel
theorem dX4_plan_101 : decode cX4_plan 101 = .ok (.iinc 3 (-1), 3) := by decide +kernel
theorem dX4_plan_104 : decode cX4_plan 104 = .ok (.goto (-89), 3) := by decide +kernel
theorem dX4_plan_107 : decode cX4_plan 107 = .ok (.return_, 1) := by decide +kernel
def is_X4_plan : Nat → List Nat := fun d => if d = 15 then [0, 1, 2, 3] else if d = 28 then [0, 1, 2, 3, 4] else if d = 44 then [0, 1, 2, 3, 4, 5] else []
set_option maxRecDepth 100000 in
def b_X4_plan_101 (J : Nat → List qV → List qV → qW → Prop) (Q : qR) : qK := x_iinc 3 (-1) (x_cut [0, 1, 2, 3] (J 15))
set_option maxRecDepth 100000 in
theorem s_X4_plan_101 {p : Program} {l : Launch} {e : Env} {R : Room} {s : State} {m : MethodId} {args : Array Value} {below : List Frame} {meth : Method} {c : Code} {nW : Nat} {dC : Nat → ClassId} {dI : Nat → Nat → Nat} {k : Nat → ClassId} {g : Nat → Nat} {A : Nat → Prop} {J : Nat → List qV → List qV → qW → Prop} {Q : qR} (X : q_X p R s m args meth c cX4_plan 6 nW 2 48 RX4 none dC dI k g A) (hJ : ∀ d : Nat, q_Sd p l e R s m args below meth c 6 nW dC dI k g A (MQ below (q_post (dC, dI) k g nW Q A) args s 0 0 A) d (x_cut (is_X4_plan d) (J d))) : q_Sd p l e R s m args below meth c 6 nW dC dI k g A (MQ below (q_post (dC, dI) k g nW Q A) args s 0 0 A) 101 (b_X4_plan_101 J Q) := by
  unfold b_X4_plan_101
  refine s_iinc X (by decide) dX4_plan_101 ?_
  refine s_goto X (tgt := 15) dX4_plan_104 (by decide) ?_
  exact hJ 15
set_option maxRecDepth 100000 in
def b_X4_plan_85 (J : Nat → List qV → List qV → qW → Prop) (Q : qR) : qK := x_max (x_iast (x_nw (x_iinc 5 1 (x_cut [0, 1, 2, 3, 4, 5] (J 44)))))
set_option maxRecDepth 100000 in
theorem s_X4_plan_85 {p : Program} {l : Launch} {e : Env} {R : Room} {s : State} {m : MethodId} {args : Array Value} {below : List Frame} {meth : Method} {c : Code} {nW : Nat} {dC : Nat → ClassId} {dI : Nat → Nat → Nat} {k : Nat → ClassId} {g : Nat → Nat} {A : Nat → Prop} {J : Nat → List qV → List qV → qW → Prop} {Q : qR} (X : q_X p R s m args meth c cX4_plan 6 nW 2 48 RX4 none dC dI k g A) (hJ : ∀ d : Nat, q_Sd p l e R s m args below meth c 6 nW dC dI k g A (MQ below (q_post (dC, dI) k g nW Q A) args s 0 0 A) d (x_cut (is_X4_plan d) (J d))) : q_Sd p l e R s m args below meth c 6 nW dC dI k g A (MQ below (q_post (dC, dI) k g nW Q A) args s 0 0 A) 85 (b_X4_plan_85 J Q) := by
  unfold b_X4_plan_85
  refine s_max X tw_679 tw_531 tw_135 tw_532 ⟨by decide, by decide⟩ dX4_plan_85 ?_
  refine s_iast X dX4_plan_88 ?_
  refine s_nw ?_
  refine s_iinc X (by decide) dX4_plan_89 ?_
  refine s_goto X (tgt := 44) dX4_plan_92 (by decide) ?_
  exact hJ 44
set_option maxRecDepth 100000 in
def b_X4_plan_44 (J : Nat → List qV → List qV → qW → Prop) (Q : qR) : qK := x_iload 5 (x_aload 0 (x_get 4 3 (x_icmp_ge (x_iinc 4 1 (x_cut [0, 1, 2, 3, 4] (J 28))) (x_aload 0 (x_get 4 0 (x_int 100 (x_iload 3 (x_imul (x_iload 4 (x_iadd (x_aload 0 (x_get 4 0 (x_int 100 (x_iload 3 (x_imul (x_iload 4 (x_iadd (x_iald (x_aload 0 (x_iload 3 (x_iload 4 (x_iload 5 (x_callr (some 4) 4 spr_X4_couples (b_X4_plan_85 J Q))))))))))))))))))))))))
set_option maxRecDepth 100000 in
theorem s_X4_plan_44 {p : Program} {l : Launch} {e : Env} {R : Room} {s : State} {m : MethodId} {args : Array Value} {below : List Frame} {meth : Method} {c : Code} {nW : Nat} {dC : Nat → ClassId} {dI : Nat → Nat → Nat} {k : Nat → ClassId} {g : Nat → Nat} {A : Nat → Prop} {J : Nat → List qV → List qV → qW → Prop} {Q : qR} (X : q_X p R s m args meth c cX4_plan 6 nW 2 48 RX4 none dC dI k g A) (hJ : ∀ d : Nat, q_Sd p l e R s m args below meth c 6 nW dC dI k g A (MQ below (q_post (dC, dI) k g nW Q A) args s 0 0 A) d (x_cut (is_X4_plan d) (J d))) : q_Sd p l e R s m args below meth c 6 nW dC dI k g A (MQ below (q_post (dC, dI) k g nW Q A) args s 0 0 A) 44 (b_X4_plan_44 J Q) := by
  unfold b_X4_plan_44
  refine s_iload X dX4_plan_44 ?_
  refine s_aload_n X rfl dX4_plan_46 ?_
  refine s_get X (T := TX4) (C := RX4) (N := 4) tu_X4 rfl (by decide) tw_310 dX4_plan_47 ?_
  refine s_icmp_ge X (tgt := 95) dX4_plan_50 (by decide) ?_ ?_
  · refine s_iinc X (by decide) dX4_plan_95 ?_
    refine s_goto X (tgt := 28) dX4_plan_98 (by decide) ?_
    exact hJ 28
  · refine s_aload_n X rfl dX4_plan_53 ?_
    refine s_get X (T := TX4) (C := RX4) (N := 4) tu_X4 rfl (by decide) tw_307 dX4_plan_54 ?_
    refine s_bipush X ⟨by decide, by decide⟩ (by decide) dX4_plan_57 ?_
    refine s_iload_n X rfl dX4_plan_59 ?_
    refine s_imul X dX4_plan_60 ?_
    refine s_iload X dX4_plan_61 ?_
    refine s_iadd X dX4_plan_63 ?_
    refine s_aload_n X rfl dX4_plan_64 ?_
    refine s_get X (T := TX4) (C := RX4) (N := 4) tu_X4 rfl (by decide) tw_307 dX4_plan_65 ?_
    refine s_bipush X ⟨by decide, by decide⟩ (by decide) dX4_plan_68 ?_
    refine s_iload_n X rfl dX4_plan_70 ?_
    refine s_imul X dX4_plan_71 ?_
    refine s_iload X dX4_plan_72 ?_
    refine s_iadd X dX4_plan_74 ?_
    refine s_iald X dX4_plan_75 ?_
    refine s_aload_n X rfl dX4_plan_76 ?_
    refine s_iload_n X rfl dX4_plan_77 ?_
    refine s_iload X dX4_plan_78 ?_
    refine s_iload X dX4_plan_80 ?_
    refine s_callVr X (m_X4_couples l) tw_676 tw_677 tw_1501 tw_131 tw_678 rfl (by decide +kernel) ⟨by decide, by decide⟩ dX4_plan_82 ?_
    exact s_X4_plan_85 X hJ
set_option maxRecDepth 100000 in
def b_X4_plan_28 (J : Nat → List qV → List qV → qW → Prop) (Q : qR) : qK := x_iload 4 (x_iload 2 (x_icmp_gt (b_X4_plan_101 J Q) (x_iload 4 (x_int 100 (x_icmp_ge (b_X4_plan_101 J Q) (x_int 0 (x_istore 5 (x_cut [0, 1, 2, 3, 4, 5] (J 44)))))))))
set_option maxRecDepth 100000 in
theorem s_X4_plan_28 {p : Program} {l : Launch} {e : Env} {R : Room} {s : State} {m : MethodId} {args : Array Value} {below : List Frame} {meth : Method} {c : Code} {nW : Nat} {dC : Nat → ClassId} {dI : Nat → Nat → Nat} {k : Nat → ClassId} {g : Nat → Nat} {A : Nat → Prop} {J : Nat → List qV → List qV → qW → Prop} {Q : qR} (X : q_X p R s m args meth c cX4_plan 6 nW 2 48 RX4 none dC dI k g A) (hJ : ∀ d : Nat, q_Sd p l e R s m args below meth c 6 nW dC dI k g A (MQ below (q_post (dC, dI) k g nW Q A) args s 0 0 A) d (x_cut (is_X4_plan d) (J d))) : q_Sd p l e R s m args below meth c 6 nW dC dI k g A (MQ below (q_post (dC, dI) k g nW Q A) args s 0 0 A) 28 (b_X4_plan_28 J Q) := by
  unfold b_X4_plan_28
  refine s_iload X dX4_plan_28 ?_
  refine s_iload_n X rfl dX4_plan_30 ?_
  refine s_icmp_gt X (tgt := 101) dX4_plan_31 (by decide) ?_ ?_
  · exact s_X4_plan_101 X hJ
  · refine s_iload X dX4_plan_34 ?_
    refine s_bipush X ⟨by decide, by decide⟩ (by decide) dX4_plan_36 ?_
    refine s_icmp_ge X (tgt := 101) dX4_plan_38 (by decide) ?_ ?_
    · exact s_X4_plan_101 X hJ
    · refine s_iconst X ⟨by decide, by decide⟩ dX4_plan_41 ?_
      refine s_istore X (by decide) dX4_plan_42 ?_
      exact hJ 44
set_option maxRecDepth 100000 in
def b_X4_plan_15 (J : Nat → List qV → List qV → qW → Prop) (Q : qR) : qK := x_iload 3 (x_if_lt (x_vret Q) (x_aload 0 (x_aload 1 (x_iload 3 (x_call (some 4) 3 sp_X4_choose (x_nw (x_int 0 (x_istore 4 (x_cut [0, 1, 2, 3, 4] (J 28))))))))))
set_option maxRecDepth 100000 in
theorem s_X4_plan_15 {p : Program} {l : Launch} {e : Env} {R : Room} {s : State} {m : MethodId} {args : Array Value} {below : List Frame} {meth : Method} {c : Code} {nW : Nat} {dC : Nat → ClassId} {dI : Nat → Nat → Nat} {k : Nat → ClassId} {g : Nat → Nat} {A : Nat → Prop} {J : Nat → List qV → List qV → qW → Prop} {Q : qR} (X : q_X p R s m args meth c cX4_plan 6 nW 2 48 RX4 none dC dI k g A) (hJ : ∀ d : Nat, q_Sd p l e R s m args below meth c 6 nW dC dI k g A (MQ below (q_post (dC, dI) k g nW Q A) args s 0 0 A) d (x_cut (is_X4_plan d) (J d))) : q_Sd p l e R s m args below meth c 6 nW dC dI k g A (MQ below (q_post (dC, dI) k g nW Q A) args s 0 0 A) 15 (b_X4_plan_15 J Q) := by
  unfold b_X4_plan_15
  refine s_iload_n X rfl dX4_plan_15 ?_
  refine s_if_lt X (tgt := 107) dX4_plan_16 (by decide) ?_ ?_
  · exact s_vret X dX4_plan_107
  · refine s_aload_n X rfl dX4_plan_19 ?_
    refine s_aload_n X rfl dX4_plan_20 ?_
    refine s_iload_n X rfl dX4_plan_21 ?_
    refine s_callV X (m_X4_choose l) tw_670 tw_671 tw_1500 tw_131 tw_672 rfl (by decide +kernel) ⟨by decide, by decide⟩ dX4_plan_22 ?_
    refine s_nw ?_
    refine s_iconst X ⟨by decide, by decide⟩ dX4_plan_25 ?_
    refine s_istore X (by decide) dX4_plan_26 ?_
    exact hJ 28
set_option maxRecDepth 100000 in
def b_X4_plan_0 (J : Nat → List qV → List qV → qW → Prop) (Q : qR) : qK := x_aload 0 (x_get 4 0 (x_int 0 (x_call none 2 sp_J7_fill_53178 (x_nw (x_aload 1 (x_get 0 10 (x_int 1 (x_isub (x_istore 3 (x_cut [0, 1, 2, 3] (J 15)))))))))))
set_option maxRecDepth 100000 in
theorem s_X4_plan_0 {p : Program} {l : Launch} {e : Env} {R : Room} {s : State} {m : MethodId} {args : Array Value} {below : List Frame} {meth : Method} {c : Code} {nW : Nat} {dC : Nat → ClassId} {dI : Nat → Nat → Nat} {k : Nat → ClassId} {g : Nat → Nat} {A : Nat → Prop} {J : Nat → List qV → List qV → qW → Prop} {Q : qR} (X : q_X p R s m args meth c cX4_plan 6 nW 2 48 RX4 none dC dI k g A) (hJ : ∀ d : Nat, q_Sd p l e R s m args below meth c 6 nW dC dI k g A (MQ below (q_post (dC, dI) k g nW Q A) args s 0 0 A) d (x_cut (is_X4_plan d) (J d))) : q_Sd p l e R s m args below meth c 6 nW dC dI k g A (MQ below (q_post (dC, dI) k g nW Q A) args s 0 0 A) 0 (b_X4_plan_0 J Q) := by
  unfold b_X4_plan_0
  refine s_aload_n X rfl dX4_plan_0 ?_
  refine s_get X (T := TX4) (C := RX4) (N := 4) tu_X4 rfl (by decide) tw_307 dX4_plan_1 ?_
  refine s_iconst X ⟨by decide, by decide⟩ dX4_plan_4 ?_
  refine s_callS X (m_J7_fill_53178 l) tw_669 tw_159 tw_123 tw_160 (by decide +kernel) ⟨by decide, by decide⟩ dX4_plan_5 ?_
  refine s_nw ?_
  refine s_aload_n X rfl dX4_plan_8 ?_
  refine s_get X (T := TX0) (C := RX0) (N := 12) tu_X0 rfl (by decide) tw_202 dX4_plan_9 ?_
  refine s_iconst X ⟨by decide, by decide⟩ dX4_plan_12 ?_
  refine s_isub X dX4_plan_13 ?_
  refine s_istore_n X rfl (by decide) dX4_plan_14 ?_
  exact hJ 15

def sp_X4_plan : qS := fun av w Q => ∃ (h1 : Nat → Int) (h2 : Nat → Int) (h3 : Nat → Int) (p4 : Int) (f1 : Nat → Int) (f2 : Nat → Int) (f3 : Nat → Int) (f4 : Nat → Int) (f5 : Nat → Int) (f6 : Nat → Int) (f7 : Nat → Int) (u0 : Int) (u1 : Int) (u2 : Int) (u3 : Int) (u4 : Int) (a : Int), av = [q2 0, q2 4, q1 a] ∧ w = (wZo 0 h1 h2 h3 p4 ++ wBo 4 f1 f2 f3 f4 f5 f6 f7 u0 u1 u2 u3 u4) ∧ (0 ≤ u0 ∧ u0 ≤ 8 ∧ 0 ≤ u3 ∧ u3 ≤ 6 ∧ 0 ≤ u4 ∧ u4 ≤ 6) ∧ (q_rg 0 2147483647 h2) ∧ (q_rg 0 8 h3) ∧ (0 ≤ a ∧ a ≤ 99) ∧ (∀ (x1 : Nat → Int) (x2 : Nat → Int) (x3 : Nat → Int) (x4 : Int), (bbP x1 ∧ q_rg 0 2147483647 x2 ∧ q_rg 0 8 x3) → Q none ((wZo 0 x1 x2 x3 x4 ++ wBo 4 f1 f2 f3 f4 f5 f6 f7 u0 u1 u2 u3 u4)))
def I_X4_plan (h1 : Nat → Int) (h2 : Nat → Int) (h3 : Nat → Int) (p4 : Int) (f1 : Nat → Int) (f2 : Nat → Int) (f3 : Nat → Int) (f4 : Nat → Int) (f5 : Nat → Int) (f6 : Nat → Int) (f7 : Nat → Int) (u0 : Int) (u1 : Int) (u2 : Int) (u3 : Int) (u4 : Int) (a : Int) : Nat → Nat → List qV → List qV → qW → Prop := fun dz mz vz sz wz => if dz = 15 then (∃ (y1 : Nat → Int) (y2 : Nat → Int) (y3 : Nat → Int) (y4 : Int) (v3 : Int), vz = [q2 0, q2 4, q1 a, q1 v3] ∧ sz = [] ∧ wz = (wZo 0 y1 y2 y3 y4 ++ wBo 4 f1 f2 f3 f4 f5 f6 f7 u0 u1 u2 u3 u4) ∧ mz = 1000000 * (v3 + 1).toNat ∧ (-1 ≤ v3 ∧ v3 ≤ 5) ∧ (q_rg 0 2147483647 y2) ∧ (q_rg 0 8 y3) ∧ (bbP y1)) else if dz = 28 then (∃ (y1 : Nat → Int) (y2 : Nat → Int) (y3 : Nat → Int) (y4 : Int) (v3 : Int) (v4 : Int), vz = [q2 0, q2 4, q1 a, q1 v3, q1 v4] ∧ sz = [] ∧ wz = (wZo 0 y1 y2 y3 y4 ++ wBo 4 f1 f2 f3 f4 f5 f6 f7 u0 u1 u2 u3 u4) ∧ mz = 1000000 * (v3 + 1).toNat - 500000 + 1000 * (100 - v4).toNat ∧ (0 ≤ v3 ∧ v3 ≤ 5 ∧ 0 ≤ v4 ∧ v4 ≤ 100 ∧ 1 ≤ y4 ∧ y4 ≤ 9) ∧ (q_rg 0 2147483647 y2) ∧ (q_rg 0 8 y3) ∧ (bbP y1)) else if dz = 44 then (∃ (y1 : Nat → Int) (y2 : Nat → Int) (y3 : Nat → Int) (y4 : Int) (v3 : Int) (v4 : Int) (v5 : Int), vz = [q2 0, q2 4, q1 a, q1 v3, q1 v4, q1 v5] ∧ sz = [] ∧ wz = (wZo 0 y1 y2 y3 y4 ++ wBo 4 f1 f2 f3 f4 f5 f6 f7 u0 u1 u2 u3 u4) ∧ mz = 1000000 * (v3 + 1).toNat - 500000 + 1000 * (100 - v4).toNat - 500 + (y4 - v5).toNat ∧ (0 ≤ v3 ∧ v3 ≤ 5 ∧ 0 ≤ v4 ∧ v4 ≤ 99 ∧ 1 ≤ y4 ∧ y4 ≤ 9 ∧ 0 ≤ v5 ∧ v5 ≤ y4) ∧ (q_rg 0 2147483647 y2) ∧ (q_rg 0 8 y3) ∧ (bbP y1)) else False
set_option maxHeartbeats 4000000 in
set_option maxRecDepth 100000 in
theorem m_X4_plan (l : Launch) : q_M l yX4_plan cX4_plan 6 none 2 48 sp_X4_plan := by
  refine q_meth (by decide) (fun av w Q h => by obtain ⟨h1, h2, h3, p4, f1, f2, f3, f4, f5, f6, f7, u0, u1, u2, u3, u4, a, rfl, rfl, hu0, hs, hg, ha, hQ⟩ := h; exact Nat.le_of_ble_eq_true rfl) ?_
  intro p e R s m args below meth c dC dI k g A av w Q hsp oka okw X
  obtain ⟨h1, h2, h3, p4, f1, f2, f3, f4, f5, f6, f7, u0, u1, u2, u3, u4, a, rfl, rfl, hu0, hs, hg, ha, hQ⟩ := hsp
  have o_a : -2147483648 ≤ a ∧ a ≤ 2147483647 := oka _ (List.mem_of_getElem? (i := 2) rfl)
  refine s_mono (s_X4_plan_0 X (J := fun dz vz sz wz => ∃ mz, I_X4_plan h1 h2 h3 p4 f1 f2 f3 f4 f5 f6 f7 u0 u1 u2 u3 u4 a dz mz vz sz wz) (q_loopn (I_X4_plan h1 h2 h3 p4 f1 f2 f3 f4 f5 f6 f7 u0 u1 u2 u3 u4 a) (fun dz J => if dz = 15 then b_X4_plan_15 J Q else if dz = 28 then b_X4_plan_28 J Q else if dz = 44 then b_X4_plan_44 J Q else q_F) ?hs ?hv)) ?_
  case hs =>
    intro d J hJ
    by_cases h15 : d = 15
    · subst h15; exact s_X4_plan_15 X hJ
    by_cases h28 : d = 28
    · subst h28; exact s_X4_plan_28 X hJ
    by_cases h44 : d = 44
    · subst h44; exact s_X4_plan_44 X hJ
    simp only [h15, h28, h44, if_false]
    exact s_F
  case hv =>
    intro dz mz vz sz wz hI okv oks okw hlen
    by_cases h15 : dz = 15
    · subst h15
      obtain ⟨y1, y2, y3, y4, v3, rfl, rfl, rfl, hn, hp, hs, hg, hb⟩ := hI
      apply And.intro
      · intro h16
        exact hQ _ _ _ _ ⟨by assumption, by assumption, by assumption⟩
      · intro h16
        refine Exists.intro [0, 1, 2, 3, 4, 5, 6, 7, 8, 9, 10, 11] (Exists.intro [q2 0, q2 4, q1 _] (Exists.intro ((wZo 0 _ _ _ _ ++ wBo 4 _ _ _ _ _ _ _ _ _ _ _ _)) (And.intro rfl (And.intro rfl (And.intro rfl (And.intro ⟨⟨_, rfl⟩, rfl⟩ ?_))))))
        refine Exists.intro _ (Exists.intro _ (Exists.intro _ (Exists.intro _ (Exists.intro _ (Exists.intro _ (Exists.intro _ (Exists.intro _ (Exists.intro _ (Exists.intro _ (Exists.intro _ (Exists.intro _ (Exists.intro _ (Exists.intro _ (Exists.intro _ (Exists.intro _ (Exists.intro _ (And.intro rfl (And.intro rfl (And.intro (by first | omega | assumption | exact q_rg_up (by assumption) (by omega) | exact q_rg_up (q_rg_up (by assumption) (by omega)) (by omega) | exact q_rg_cpy (by assumption) (by assumption)) (And.intro (by first | omega | assumption | exact q_rg_up (by assumption) (by omega) | exact q_rg_up (q_rg_up (by assumption) (by omega)) (by omega) | exact q_rg_cpy (by assumption) (by assumption)) (And.intro (by first | omega | assumption | exact q_rg_up (by assumption) (by omega) | exact q_rg_up (q_rg_up (by assumption) (by omega)) (by omega) | exact q_rg_cpy (by assumption) (by assumption)) (And.intro (by first | omega | assumption | exact q_rg_up (by assumption) (by omega) | exact q_rg_up (q_rg_up (by assumption) (by omega)) (by omega) | exact q_rg_cpy (by assumption) (by assumption)) (?_)))))))))))))))))))))))
        intro x2_22 x3_22 x4_22 h22
        obtain ⟨hs, hg, hc1, hc2⟩ := h22
        exact ⟨_, ⟨_, _, _, _, _, _, rfl, rfl, rfl, rfl, (by first | omega | assumption | exact q_rg_up (by assumption) (by omega) | exact q_rg_up (q_rg_up (by assumption) (by omega)) (by omega) | exact q_rg_cpy (by assumption) (by assumption)), (by first | omega | assumption | exact q_rg_up (by assumption) (by omega) | exact q_rg_up (q_rg_up (by assumption) (by omega)) (by omega) | exact q_rg_cpy (by assumption) (by assumption)), (by first | omega | assumption | exact q_rg_up (by assumption) (by omega) | exact q_rg_up (q_rg_up (by assumption) (by omega)) (by omega) | exact q_rg_cpy (by assumption) (by assumption)), (by first | assumption | exact bb_up (by assumption) (by omega) | exact bb_fill h5 rfl)⟩, by omega⟩
    by_cases h28 : dz = 28
    · subst h28
      obtain ⟨y1, y2, y3, y4, v3, v4, rfl, rfl, rfl, hn, hp, hs, hg, hb⟩ := hI
      apply And.intro
      · intro h31
        intro z101 h101
        first | replace h101 := e_add h101 (by omega) | replace h101 := e_rng h101
        exact ⟨_, ⟨_, _, _, _, _, rfl, rfl, rfl, rfl, (by first | omega | assumption | exact q_rg_up (by assumption) (by omega) | exact q_rg_up (q_rg_up (by assumption) (by omega)) (by omega) | exact q_rg_cpy (by assumption) (by assumption)), (by first | omega | assumption | exact q_rg_up (by assumption) (by omega) | exact q_rg_up (q_rg_up (by assumption) (by omega)) (by omega) | exact q_rg_cpy (by assumption) (by assumption)), (by first | omega | assumption | exact q_rg_up (by assumption) (by omega) | exact q_rg_up (q_rg_up (by assumption) (by omega)) (by omega) | exact q_rg_cpy (by assumption) (by assumption)), (by first | assumption | exact bb_up (by assumption) (by omega) | exact bb_fill h5 rfl)⟩, by omega⟩
      · intro h31
        apply And.intro
        · intro h38
          intro z101 h101
          first | replace h101 := e_add h101 (by omega) | replace h101 := e_rng h101
          exact ⟨_, ⟨_, _, _, _, _, rfl, rfl, rfl, rfl, (by first | omega | assumption | exact q_rg_up (by assumption) (by omega) | exact q_rg_up (q_rg_up (by assumption) (by omega)) (by omega) | exact q_rg_cpy (by assumption) (by assumption)), (by first | omega | assumption | exact q_rg_up (by assumption) (by omega) | exact q_rg_up (q_rg_up (by assumption) (by omega)) (by omega) | exact q_rg_cpy (by assumption) (by assumption)), (by first | omega | assumption | exact q_rg_up (by assumption) (by omega) | exact q_rg_up (q_rg_up (by assumption) (by omega)) (by omega) | exact q_rg_cpy (by assumption) (by assumption)), (by first | assumption | exact bb_up (by assumption) (by omega) | exact bb_fill h5 rfl)⟩, by omega⟩
        · intro h38
          exact ⟨_, ⟨_, _, _, _, _, _, _, rfl, rfl, rfl, rfl, (by first | omega | assumption | exact q_rg_up (by assumption) (by omega) | exact q_rg_up (q_rg_up (by assumption) (by omega)) (by omega) | exact q_rg_cpy (by assumption) (by assumption)), (by first | omega | assumption | exact q_rg_up (by assumption) (by omega) | exact q_rg_up (q_rg_up (by assumption) (by omega)) (by omega) | exact q_rg_cpy (by assumption) (by assumption)), (by first | omega | assumption | exact q_rg_up (by assumption) (by omega) | exact q_rg_up (q_rg_up (by assumption) (by omega)) (by omega) | exact q_rg_cpy (by assumption) (by assumption)), (by first | assumption | exact bb_up (by assumption) (by omega) | exact bb_fill h5 rfl)⟩, by omega⟩
    by_cases h44 : dz = 44
    · subst h44
      obtain ⟨y1, y2, y3, y4, v3, v4, v5, rfl, rfl, rfl, hn, hp, hs, hg, hb⟩ := hI
      apply And.intro
      · intro h50
        intro z95 h95
        first | replace h95 := e_add h95 (by omega) | replace h95 := e_rng h95
        exact ⟨_, ⟨_, _, _, _, _, _, rfl, rfl, rfl, rfl, (by first | omega | assumption | exact q_rg_up (by assumption) (by omega) | exact q_rg_up (q_rg_up (by assumption) (by omega)) (by omega) | exact q_rg_cpy (by assumption) (by assumption)), (by first | omega | assumption | exact q_rg_up (by assumption) (by omega) | exact q_rg_up (q_rg_up (by assumption) (by omega)) (by omega) | exact q_rg_cpy (by assumption) (by assumption)), (by first | omega | assumption | exact q_rg_up (by assumption) (by omega) | exact q_rg_up (q_rg_up (by assumption) (by omega)) (by omega) | exact q_rg_cpy (by assumption) (by assumption)), (by first | assumption | exact bb_up (by assumption) (by omega) | exact bb_fill h5 rfl)⟩, by omega⟩
      · intro h50
        intro z60 h60
        first | replace h60 := e_mul h60 (by omega) | replace h60 := e_rng h60
        intro z63 h63
        first | replace h63 := e_add h63 (by omega) | replace h63 := e_rng h63
        intro z71 h71
        first | replace h71 := e_mul h71 (by omega) | replace h71 := e_rng h71
        intro z74 h74
        first | replace h74 := e_add h74 (by omega) | replace h74 := e_rng h74
        apply And.intro
        · exact ⟨by omega, by omega⟩
        intro z75 h75
        have ab := bb_at hb h75 (by omega)
        refine Exists.intro [0, 1, 2, 3] (Exists.intro [q2 0, q1 _, q1 _, q1 _] (Exists.intro ((wZo 0 _ _ _ _)) (And.intro rfl (And.intro rfl (And.intro rfl (And.intro ⟨⟨_, rfl⟩, rfl⟩ ?_))))))
        refine Exists.intro _ (Exists.intro _ (Exists.intro _ (Exists.intro _ (Exists.intro _ (Exists.intro _ (Exists.intro _ (And.intro rfl (And.intro rfl (And.intro (by first | omega | assumption | exact q_rg_up (by assumption) (by omega) | exact q_rg_up (q_rg_up (by assumption) (by omega)) (by omega) | exact q_rg_cpy (by assumption) (by assumption)) (And.intro (by first | omega | assumption | exact q_rg_up (by assumption) (by omega) | exact q_rg_up (q_rg_up (by assumption) (by omega)) (by omega) | exact q_rg_cpy (by assumption) (by assumption)) (And.intro (by first | omega | assumption | exact q_rg_up (by assumption) (by omega) | exact q_rg_up (q_rg_up (by assumption) (by omega)) (by omega) | exact q_rg_cpy (by assumption) (by assumption)) (And.intro (by first | omega | assumption | exact q_rg_up (by assumption) (by omega) | exact q_rg_up (q_rg_up (by assumption) (by omega)) (by omega) | exact q_rg_cpy (by assumption) (by assumption)) (?_)))))))))))))
        intro z82 h82
        intro z85 h85
        apply And.intro
        · exact ⟨by omega, by omega⟩
        intro z89 h89
        first | replace h89 := e_add h89 (by omega) | replace h89 := e_rng h89
        exact ⟨_, ⟨_, _, _, _, _, _, _, rfl, rfl, rfl, rfl, (by first | omega | assumption | exact q_rg_up (by assumption) (by omega) | exact q_rg_up (q_rg_up (by assumption) (by omega)) (by omega) | exact q_rg_cpy (by assumption) (by assumption)), (by first | omega | assumption | exact q_rg_up (by assumption) (by omega) | exact q_rg_up (q_rg_up (by assumption) (by omega)) (by omega) | exact q_rg_cpy (by assumption) (by assumption)), (by first | omega | assumption | exact q_rg_up (by assumption) (by omega) | exact q_rg_up (q_rg_up (by assumption) (by omega)) (by omega) | exact q_rg_cpy (by assumption) (by assumption)), (by first | assumption | exact bb_up (by assumption) (by omega) | exact bb_fill h5 rfl)⟩, by omega⟩
    simp only [I_X4_plan, h15, h28, h44, if_false] at hI
  rintro lv st w' ⟨rfl, rfl, rfl⟩
  refine Exists.intro [1] (Exists.intro [q2 0, q1 _] (Exists.intro ([.inl (0, _, .inl _)]) (And.intro rfl (And.intro rfl (And.intro rfl (And.intro trivial ?_))))))
  refine Exists.intro _ (Exists.intro _ (Exists.intro _ (And.intro rfl (And.intro rfl (And.intro (by first | omega | assumption | exact q_rg_up (by assumption) (by omega) | exact q_rg_up (q_rg_up (by assumption) (by omega)) (by omega) | exact q_rg_cpy (by assumption) (by assumption)) (?_))))))
  intro g_5 h5
  intro z13 h13
  first | replace h13 := e_sub h13 (by omega) | replace h13 := e_rng h13
  exact ⟨_, _, _, _, _, _, rfl, rfl, rfl, rfl, (by first | omega | assumption | exact q_rg_up (by assumption) (by omega) | exact q_rg_up (q_rg_up (by assumption) (by omega)) (by omega) | exact q_rg_cpy (by assumption) (by assumption)), (by first | omega | assumption | exact q_rg_up (by assumption) (by omega) | exact q_rg_up (q_rg_up (by assumption) (by omega)) (by omega) | exact q_rg_cpy (by assumption) (by assumption)), (by first | omega | assumption | exact q_rg_up (by assumption) (by omega) | exact q_rg_up (q_rg_up (by assumption) (by omega)) (by omega) | exact q_rg_cpy (by assumption) (by assumption)), (by first | assumption | exact bb_up (by assumption) (by omega) | exact bb_fill h5 rfl)⟩

theorem dX4_most_0 : decode cX4_most 0 = .ok (.iload_n 1, 1) := by decide +kernel
theorem dX4_most_1 : decode cX4_most 1 = .ok (.ifCond .lt 9, 3) := by decide +kernel
theorem dX4_most_4 : decode cX4_most 4 = .ok (.iload_n 1, 1) := by decide +kernel
theorem dX4_most_5 : decode cX4_most 5 = .ok (.bipush 100, 2) := by decide +kernel
theorem dX4_most_7 : decode cX4_most 7 = .ok (.if_icmp .lt 7, 3) := by decide +kernel
theorem dX4_most_10 : decode cX4_most 10 = .ok (.iconst 0, 1) := by decide +kernel
theorem dX4_most_11 : decode cX4_most 11 = .ok (.goto 9, 3) := by decide +kernel
theorem dX4_most_14 : decode cX4_most 14 = .ok (.aload_n 0, 1) := by decide +kernel
theorem dX4_most_15 : decode cX4_most 15 = .ok (.getfield 11, 3) := by decide +kernel
theorem dX4_most_18 : decode cX4_most 18 = .ok (.iload_n 1, 1) := by decide +kernel
theorem dX4_most_19 : decode cX4_most 19 = .ok (.iaload, 1) := by decide +kernel
theorem dX4_most_20 : decode cX4_most 20 = .ok (.ireturn, 1) := by decide +kernel
def is_X4_most : Nat → List Nat := fun d => []
set_option maxRecDepth 100000 in
def b_X4_most_20 (J : Nat → List qV → List qV → qW → Prop) (Q : qR) : qK := x_iret Q
set_option maxRecDepth 100000 in
theorem s_X4_most_20 {p : Program} {l : Launch} {e : Env} {R : Room} {s : State} {m : MethodId} {args : Array Value} {below : List Frame} {meth : Method} {c : Code} {nW : Nat} {dC : Nat → ClassId} {dI : Nat → Nat → Nat} {k : Nat → ClassId} {g : Nat → Nat} {A : Nat → Prop} {J : Nat → List qV → List qV → qW → Prop} {Q : qR} (X : q_X p R s m args meth c cX4_most 2 nW 0 0 RX4 (some .int) dC dI k g A) (hJ : ∀ d : Nat, q_Sd p l e R s m args below meth c 2 nW dC dI k g A (MQ below (q_post (dC, dI) k g nW Q A) args s 0 0 A) d (x_cut (is_X4_most d) (J d))) : q_Sd p l e R s m args below meth c 2 nW dC dI k g A (MQ below (q_post (dC, dI) k g nW Q A) args s 0 0 A) 20 (b_X4_most_20 J Q) := by
  unfold b_X4_most_20
  exact s_iret X dX4_most_20
set_option maxRecDepth 100000 in
def b_X4_most_10 (J : Nat → List qV → List qV → qW → Prop) (Q : qR) : qK := x_int 0 (b_X4_most_20 J Q)
set_option maxRecDepth 100000 in
theorem s_X4_most_10 {p : Program} {l : Launch} {e : Env} {R : Room} {s : State} {m : MethodId} {args : Array Value} {below : List Frame} {meth : Method} {c : Code} {nW : Nat} {dC : Nat → ClassId} {dI : Nat → Nat → Nat} {k : Nat → ClassId} {g : Nat → Nat} {A : Nat → Prop} {J : Nat → List qV → List qV → qW → Prop} {Q : qR} (X : q_X p R s m args meth c cX4_most 2 nW 0 0 RX4 (some .int) dC dI k g A) (hJ : ∀ d : Nat, q_Sd p l e R s m args below meth c 2 nW dC dI k g A (MQ below (q_post (dC, dI) k g nW Q A) args s 0 0 A) d (x_cut (is_X4_most d) (J d))) : q_Sd p l e R s m args below meth c 2 nW dC dI k g A (MQ below (q_post (dC, dI) k g nW Q A) args s 0 0 A) 10 (b_X4_most_10 J Q) := by
  unfold b_X4_most_10
  refine s_iconst X ⟨by decide, by decide⟩ dX4_most_10 ?_
  refine s_goto X (tgt := 20) dX4_most_11 (by decide) ?_
  exact s_X4_most_20 X hJ
set_option maxRecDepth 100000 in
def b_X4_most_0 (J : Nat → List qV → List qV → qW → Prop) (Q : qR) : qK := x_iload 1 (x_if_lt (b_X4_most_10 J Q) (x_iload 1 (x_int 100 (x_icmp_lt (x_aload 0 (x_get 4 0 (x_iload 1 (x_iald (b_X4_most_20 J Q))))) (b_X4_most_10 J Q)))))
set_option maxRecDepth 100000 in
theorem s_X4_most_0 {p : Program} {l : Launch} {e : Env} {R : Room} {s : State} {m : MethodId} {args : Array Value} {below : List Frame} {meth : Method} {c : Code} {nW : Nat} {dC : Nat → ClassId} {dI : Nat → Nat → Nat} {k : Nat → ClassId} {g : Nat → Nat} {A : Nat → Prop} {J : Nat → List qV → List qV → qW → Prop} {Q : qR} (X : q_X p R s m args meth c cX4_most 2 nW 0 0 RX4 (some .int) dC dI k g A) (hJ : ∀ d : Nat, q_Sd p l e R s m args below meth c 2 nW dC dI k g A (MQ below (q_post (dC, dI) k g nW Q A) args s 0 0 A) d (x_cut (is_X4_most d) (J d))) : q_Sd p l e R s m args below meth c 2 nW dC dI k g A (MQ below (q_post (dC, dI) k g nW Q A) args s 0 0 A) 0 (b_X4_most_0 J Q) := by
  unfold b_X4_most_0
  refine s_iload_n X rfl dX4_most_0 ?_
  refine s_if_lt X (tgt := 10) dX4_most_1 (by decide) ?_ ?_
  · exact s_X4_most_10 X hJ
  · refine s_iload_n X rfl dX4_most_4 ?_
    refine s_bipush X ⟨by decide, by decide⟩ (by decide) dX4_most_5 ?_
    refine s_icmp_lt X (tgt := 14) dX4_most_7 (by decide) ?_ ?_
    · refine s_aload_n X rfl dX4_most_14 ?_
      refine s_get X (T := TX4) (C := RX4) (N := 4) tu_X4 rfl (by decide) tw_307 dX4_most_15 ?_
      refine s_iload_n X rfl dX4_most_18 ?_
      refine s_iald X dX4_most_19 ?_
      exact s_X4_most_20 X hJ
    · exact s_X4_most_10 X hJ

def spr_X4_most : List qV → qW → (Option qV → Prop) → Prop := fun av w Q => ∃ (h1 : Nat → Int) (h2 : Nat → Int) (h3 : Nat → Int) (p4 : Int) (a : Int), av = [q2 0, q1 a] ∧ w = (wZo 0 h1 h2 h3 p4) ∧ (q_rg 0 2147483647 h2) ∧ (q_rg 0 8 h3) ∧ (∀ (r : Int) , Q (some (q1 r)))
def sp_X4_most : qS := fun av w Q => spr_X4_most av w (fun r => Q r w)
set_option maxHeartbeats 4000000 in
set_option maxRecDepth 100000 in
theorem m_X4_most (l : Launch) : q_M l yX4_most cX4_most 2 (some .int) 0 0 sp_X4_most := by
  refine q_meth (by decide) (fun av w Q h => by obtain ⟨h1, h2, h3, p4, a, rfl, rfl, hs, hg, hQ⟩ := h; exact Nat.le_of_ble_eq_true rfl) ?_
  intro p e R s m args below meth c dC dI k g A av w Q hsp oka okw X
  obtain ⟨h1, h2, h3, p4, a, rfl, rfl, hs, hg, hQ⟩ := hsp
  have o_a : -2147483648 ≤ a ∧ a ≤ 2147483647 := oka _ (List.mem_of_getElem? (i := 1) rfl)
  refine s_mono (s_X4_most_0 X (J := fun _ _ _ _ => False) (fun d => s_cutF)) ?_
  rintro lv st w' ⟨rfl, rfl, rfl⟩
  apply And.intro
  · intro h1
    exact hQ _
  · intro h1
    apply And.intro
    · intro h7
      apply And.intro
      · exact ⟨by omega, by omega⟩
      intro z19 h19
      first | have a19 := q_rg_at hs h19 | have a19 := q_rg_at hg h19 | skip
      exact hQ _
    · intro h7
      exact hQ _

theorem dX4_leastRaise_0 : decode cX4_leastRaise 0 = .ok (.iconst (-1), 1) := by decide +kernel
theorem dX4_leastRaise_1 : decode cX4_leastRaise 1 = .ok (.istore_n 3, 1) := by decide +kernel
theorem dX4_leastRaise_2 : decode cX4_leastRaise 2 = .ok (.iconst 0, 1) := by decide +kernel
theorem dX4_leastRaise_3 : decode cX4_leastRaise 3 = .ok (.istore 4, 2) := by decide +kernel
theorem dX4_leastRaise_5 : decode cX4_leastRaise 5 = .ok (.iload 4, 2) := by decide +kernel
theorem dX4_leastRaise_7 : decode cX4_leastRaise 7 = .ok (.aload_n 0, 1) := by decide +kernel
theorem dX4_leastRaise_8 : decode cX4_leastRaise 8 = .ok (.getfield 37, 3) := by decide +kernel
theorem dX4_leastRaise_11 : decode cX4_leastRaise 11 = .ok (.if_icmp .ge 55, 3) := by decide +kernel
theorem dX4_leastRaise_14 : decode cX4_leastRaise 14 = .ok (.aload_n 0, 1) := by decide +kernel
theorem dX4_leastRaise_15 : decode cX4_leastRaise 15 = .ok (.iload_n 1, 1) := by decide +kernel
theorem dX4_leastRaise_16 : decode cX4_leastRaise 16 = .ok (.iload_n 2, 1) := by decide +kernel
theorem dX4_leastRaise_17 : decode cX4_leastRaise 17 = .ok (.iload 4, 2) := by decide +kernel
theorem dX4_leastRaise_19 : decode cX4_leastRaise 19 = .ok (.invokevirtual 40, 3) := by decide +kernel
theorem dX4_leastRaise_22 : decode cX4_leastRaise 22 = .ok (.aload_n 0, 1) := by decide +kernel
theorem dX4_leastRaise_23 : decode cX4_leastRaise 23 = .ok (.getfield 11, 3) := by decide +kernel
theorem dX4_leastRaise_26 : decode cX4_leastRaise 26 = .ok (.bipush 100, 2) := by decide +kernel
theorem dX4_leastRaise_28 : decode cX4_leastRaise 28 = .ok (.iload_n 1, 1) := by decide +kernel
theorem dX4_leastRaise_29 : decode cX4_leastRaise 29 = .ok (.imul, 1) := by decide +kernel
theorem dX4_leastRaise_30 : decode cX4_leastRaise 30 = .ok (.iload_n 2, 1) := by decide +kernel
theorem dX4_leastRaise_31 : decode cX4_leastRaise 31 = .ok (.iadd, 1) := by decide +kernel
theorem dX4_leastRaise_32 : decode cX4_leastRaise 32 = .ok (.iaload, 1) := by decide +kernel
theorem dX4_leastRaise_33 : decode cX4_leastRaise 33 = .ok (.if_icmp .ne 27, 3) := by decide +kernel
theorem dX4_leastRaise_36 : decode cX4_leastRaise 36 = .ok (.iload_n 3, 1) := by decide +kernel
theorem dX4_leastRaise_37 : decode cX4_leastRaise 37 = .ok (.iconst (-1), 1) := by decide +kernel
theorem dX4_leastRaise_38 : decode cX4_leastRaise 38 = .ok (.if_icmp .eq 14, 3) := by decide +kernel
theorem dX4_leastRaise_41 : decode cX4_leastRaise 41 = .ok (.aload_n 0, 1) := by decide +kernel
theorem dX4_leastRaise_42 : decode cX4_leastRaise 42 = .ok (.getfield 15, 3) := by decide +kernel
theorem dX4_leastRaise_45 : decode cX4_leastRaise 45 = .ok (.iload 4, 2) := by decide +kernel
theorem dX4_leastRaise_47 : decode cX4_leastRaise 47 = .ok (.iaload, 1) := by decide +kernel
theorem dX4_leastRaise_48 : decode cX4_leastRaise 48 = .ok (.iload_n 3, 1) := by decide +kernel
theorem dX4_leastRaise_49 : decode cX4_leastRaise 49 = .ok (.if_icmp .ge 11, 3) := by decide +kernel
theorem dX4_leastRaise_52 : decode cX4_leastRaise 52 = .ok (.aload_n 0, 1) := by decide +kernel
theorem dX4_leastRaise_53 : decode cX4_leastRaise 53 = .ok (.getfield 15, 3) := by decide +kernel
theorem dX4_leastRaise_56 : decode cX4_leastRaise 56 = .ok (.iload 4, 2) := by decide +kernel
theorem dX4_leastRaise_58 : decode cX4_leastRaise 58 = .ok (.iaload, 1) := by decide +kernel
theorem dX4_leastRaise_59 : decode cX4_leastRaise 59 = .ok (.istore_n 3, 1) := by decide +kernel
theorem dX4_leastRaise_60 : decode cX4_leastRaise 60 = .ok (.iinc 4 1, 3) := by decide +kernel
theorem dX4_leastRaise_63 : decode cX4_leastRaise 63 = .ok (.goto (-58), 3) := by decide +kernel
theorem dX4_leastRaise_66 : decode cX4_leastRaise 66 = .ok (.iconst 0, 1) := by decide +kernel
theorem dX4_leastRaise_67 : decode cX4_leastRaise 67 = .ok (.iload_n 3, 1) := by decide +kernel
theorem dX4_leastRaise_68 : decode cX4_leastRaise 68 = .ok (.invokestatic 44, 3) := by decide +kernel
theorem dX4_leastRaise_71 : decode cX4_leastRaise 71 = .ok (.ireturn, 1) := by decide +kernel
def is_X4_leastRaise : Nat → List Nat := fun d => if d = 5 then [0, 1, 2, 3, 4] else []
set_option maxRecDepth 100000 in
def b_X4_leastRaise_60 (J : Nat → List qV → List qV → qW → Prop) (Q : qR) : qK := x_iinc 4 1 (x_cut [0, 1, 2, 3, 4] (J 5))
set_option maxRecDepth 100000 in
theorem s_X4_leastRaise_60 {p : Program} {l : Launch} {e : Env} {R : Room} {s : State} {m : MethodId} {args : Array Value} {below : List Frame} {meth : Method} {c : Code} {nW : Nat} {dC : Nat → ClassId} {dI : Nat → Nat → Nat} {k : Nat → ClassId} {g : Nat → Nat} {A : Nat → Prop} {J : Nat → List qV → List qV → qW → Prop} {Q : qR} (X : q_X p R s m args meth c cX4_leastRaise 5 nW 1 23 RX4 (some .int) dC dI k g A) (hJ : ∀ d : Nat, q_Sd p l e R s m args below meth c 5 nW dC dI k g A (MQ below (q_post (dC, dI) k g nW Q A) args s 0 0 A) d (x_cut (is_X4_leastRaise d) (J d))) : q_Sd p l e R s m args below meth c 5 nW dC dI k g A (MQ below (q_post (dC, dI) k g nW Q A) args s 0 0 A) 60 (b_X4_leastRaise_60 J Q) := by
  unfold b_X4_leastRaise_60
  refine s_iinc X (by decide) dX4_leastRaise_60 ?_
  refine s_goto X (tgt := 5) dX4_leastRaise_63 (by decide) ?_
  exact hJ 5
set_option maxRecDepth 100000 in
def b_X4_leastRaise_52 (J : Nat → List qV → List qV → qW → Prop) (Q : qR) : qK := x_aload 0 (x_get 4 1 (x_iload 4 (x_iald (x_istore 3 (b_X4_leastRaise_60 J Q)))))
set_option maxRecDepth 100000 in
theorem s_X4_leastRaise_52 {p : Program} {l : Launch} {e : Env} {R : Room} {s : State} {m : MethodId} {args : Array Value} {below : List Frame} {meth : Method} {c : Code} {nW : Nat} {dC : Nat → ClassId} {dI : Nat → Nat → Nat} {k : Nat → ClassId} {g : Nat → Nat} {A : Nat → Prop} {J : Nat → List qV → List qV → qW → Prop} {Q : qR} (X : q_X p R s m args meth c cX4_leastRaise 5 nW 1 23 RX4 (some .int) dC dI k g A) (hJ : ∀ d : Nat, q_Sd p l e R s m args below meth c 5 nW dC dI k g A (MQ below (q_post (dC, dI) k g nW Q A) args s 0 0 A) d (x_cut (is_X4_leastRaise d) (J d))) : q_Sd p l e R s m args below meth c 5 nW dC dI k g A (MQ below (q_post (dC, dI) k g nW Q A) args s 0 0 A) 52 (b_X4_leastRaise_52 J Q) := by
  unfold b_X4_leastRaise_52
  refine s_aload_n X rfl dX4_leastRaise_52 ?_
  refine s_get X (T := TX4) (C := RX4) (N := 4) tu_X4 rfl (by decide) tw_308 dX4_leastRaise_53 ?_
  refine s_iload X dX4_leastRaise_56 ?_
  refine s_iald X dX4_leastRaise_58 ?_
  refine s_istore_n X rfl (by decide) dX4_leastRaise_59 ?_
  exact s_X4_leastRaise_60 X hJ
set_option maxRecDepth 100000 in
def b_X4_leastRaise_47 (J : Nat → List qV → List qV → qW → Prop) (Q : qR) : qK := x_iald (x_iload 3 (x_icmp_ge (b_X4_leastRaise_60 J Q) (b_X4_leastRaise_52 J Q)))
set_option maxRecDepth 100000 in
theorem s_X4_leastRaise_47 {p : Program} {l : Launch} {e : Env} {R : Room} {s : State} {m : MethodId} {args : Array Value} {below : List Frame} {meth : Method} {c : Code} {nW : Nat} {dC : Nat → ClassId} {dI : Nat → Nat → Nat} {k : Nat → ClassId} {g : Nat → Nat} {A : Nat → Prop} {J : Nat → List qV → List qV → qW → Prop} {Q : qR} (X : q_X p R s m args meth c cX4_leastRaise 5 nW 1 23 RX4 (some .int) dC dI k g A) (hJ : ∀ d : Nat, q_Sd p l e R s m args below meth c 5 nW dC dI k g A (MQ below (q_post (dC, dI) k g nW Q A) args s 0 0 A) d (x_cut (is_X4_leastRaise d) (J d))) : q_Sd p l e R s m args below meth c 5 nW dC dI k g A (MQ below (q_post (dC, dI) k g nW Q A) args s 0 0 A) 47 (b_X4_leastRaise_47 J Q) := by
  unfold b_X4_leastRaise_47
  refine s_iald X dX4_leastRaise_47 ?_
  refine s_iload_n X rfl dX4_leastRaise_48 ?_
  refine s_icmp_ge X (tgt := 60) dX4_leastRaise_49 (by decide) ?_ ?_
  · exact s_X4_leastRaise_60 X hJ
  · exact s_X4_leastRaise_52 X hJ
set_option maxRecDepth 100000 in
def b_X4_leastRaise_5 (J : Nat → List qV → List qV → qW → Prop) (Q : qR) : qK := x_iload 4 (x_aload 0 (x_get 4 3 (x_icmp_ge (x_int 0 (x_iload 3 (x_max (x_iret Q)))) (x_aload 0 (x_iload 1 (x_iload 2 (x_iload 4 (x_callr (some 4) 4 spr_X4_couples (x_aload 0 (x_get 4 0 (x_int 100 (x_iload 1 (x_imul (x_iload 2 (x_iadd (x_iald (x_icmp_ne (b_X4_leastRaise_60 J Q) (x_iload 3 (x_int (-1) (x_icmp_eq (b_X4_leastRaise_52 J Q) (x_aload 0 (x_get 4 1 (x_iload 4 (b_X4_leastRaise_47 J Q))))))))))))))))))))))))
set_option maxRecDepth 100000 in
theorem s_X4_leastRaise_5 {p : Program} {l : Launch} {e : Env} {R : Room} {s : State} {m : MethodId} {args : Array Value} {below : List Frame} {meth : Method} {c : Code} {nW : Nat} {dC : Nat → ClassId} {dI : Nat → Nat → Nat} {k : Nat → ClassId} {g : Nat → Nat} {A : Nat → Prop} {J : Nat → List qV → List qV → qW → Prop} {Q : qR} (X : q_X p R s m args meth c cX4_leastRaise 5 nW 1 23 RX4 (some .int) dC dI k g A) (hJ : ∀ d : Nat, q_Sd p l e R s m args below meth c 5 nW dC dI k g A (MQ below (q_post (dC, dI) k g nW Q A) args s 0 0 A) d (x_cut (is_X4_leastRaise d) (J d))) : q_Sd p l e R s m args below meth c 5 nW dC dI k g A (MQ below (q_post (dC, dI) k g nW Q A) args s 0 0 A) 5 (b_X4_leastRaise_5 J Q) := by
  unfold b_X4_leastRaise_5
  refine s_iload X dX4_leastRaise_5 ?_
  refine s_aload_n X rfl dX4_leastRaise_7 ?_
  refine s_get X (T := TX4) (C := RX4) (N := 4) tu_X4 rfl (by decide) tw_310 dX4_leastRaise_8 ?_
  refine s_icmp_ge X (tgt := 66) dX4_leastRaise_11 (by decide) ?_ ?_
  · refine s_iconst X ⟨by decide, by decide⟩ dX4_leastRaise_66 ?_
    refine s_iload_n X rfl dX4_leastRaise_67 ?_
    refine s_max X tw_679 tw_531 tw_135 tw_532 ⟨by decide, by decide⟩ dX4_leastRaise_68 ?_
    exact s_iret X dX4_leastRaise_71
  · refine s_aload_n X rfl dX4_leastRaise_14 ?_
    refine s_iload_n X rfl dX4_leastRaise_15 ?_
    refine s_iload_n X rfl dX4_leastRaise_16 ?_
    refine s_iload X dX4_leastRaise_17 ?_
    refine s_callVr X (m_X4_couples l) tw_676 tw_677 tw_1501 tw_131 tw_678 rfl (by decide +kernel) ⟨by decide, by decide⟩ dX4_leastRaise_19 ?_
    refine s_aload_n X rfl dX4_leastRaise_22 ?_
    refine s_get X (T := TX4) (C := RX4) (N := 4) tu_X4 rfl (by decide) tw_307 dX4_leastRaise_23 ?_
    refine s_bipush X ⟨by decide, by decide⟩ (by decide) dX4_leastRaise_26 ?_
    refine s_iload_n X rfl dX4_leastRaise_28 ?_
    refine s_imul X dX4_leastRaise_29 ?_
    refine s_iload_n X rfl dX4_leastRaise_30 ?_
    refine s_iadd X dX4_leastRaise_31 ?_
    refine s_iald X dX4_leastRaise_32 ?_
    refine s_icmp_ne X (tgt := 60) dX4_leastRaise_33 (by decide) ?_ ?_
    · exact s_X4_leastRaise_60 X hJ
    · refine s_iload_n X rfl dX4_leastRaise_36 ?_
      refine s_iconst X ⟨by decide, by decide⟩ dX4_leastRaise_37 ?_
      refine s_icmp_eq X (tgt := 52) dX4_leastRaise_38 (by decide) ?_ ?_
      · exact s_X4_leastRaise_52 X hJ
      · refine s_aload_n X rfl dX4_leastRaise_41 ?_
        refine s_get X (T := TX4) (C := RX4) (N := 4) tu_X4 rfl (by decide) tw_308 dX4_leastRaise_42 ?_
        refine s_iload X dX4_leastRaise_45 ?_
        exact s_X4_leastRaise_47 X hJ
set_option maxRecDepth 100000 in
def b_X4_leastRaise_0 (J : Nat → List qV → List qV → qW → Prop) (Q : qR) : qK := x_int (-1) (x_istore 3 (x_int 0 (x_istore 4 (x_cut [0, 1, 2, 3, 4] (J 5)))))
set_option maxRecDepth 100000 in
theorem s_X4_leastRaise_0 {p : Program} {l : Launch} {e : Env} {R : Room} {s : State} {m : MethodId} {args : Array Value} {below : List Frame} {meth : Method} {c : Code} {nW : Nat} {dC : Nat → ClassId} {dI : Nat → Nat → Nat} {k : Nat → ClassId} {g : Nat → Nat} {A : Nat → Prop} {J : Nat → List qV → List qV → qW → Prop} {Q : qR} (X : q_X p R s m args meth c cX4_leastRaise 5 nW 1 23 RX4 (some .int) dC dI k g A) (hJ : ∀ d : Nat, q_Sd p l e R s m args below meth c 5 nW dC dI k g A (MQ below (q_post (dC, dI) k g nW Q A) args s 0 0 A) d (x_cut (is_X4_leastRaise d) (J d))) : q_Sd p l e R s m args below meth c 5 nW dC dI k g A (MQ below (q_post (dC, dI) k g nW Q A) args s 0 0 A) 0 (b_X4_leastRaise_0 J Q) := by
  unfold b_X4_leastRaise_0
  refine s_iconst X ⟨by decide, by decide⟩ dX4_leastRaise_0 ?_
  refine s_istore_n X rfl (by decide) dX4_leastRaise_1 ?_
  refine s_iconst X ⟨by decide, by decide⟩ dX4_leastRaise_2 ?_
  refine s_istore X (by decide) dX4_leastRaise_3 ?_
  exact hJ 5

def spr_X4_leastRaise : List qV → qW → (Option qV → Prop) → Prop := fun av w Q => ∃ (h1 : Nat → Int) (h2 : Nat → Int) (h3 : Nat → Int) (p4 : Int) (a : Int) (b : Int), av = [q2 0, q1 a, q1 b] ∧ w = (wZo 0 h1 h2 h3 p4) ∧ (q_rg 0 2147483647 h2) ∧ (q_rg 0 8 h3) ∧ (bbP h1) ∧ (0 ≤ a ∧ a ≤ 5 ∧ 0 ≤ b ∧ b ≤ 99 ∧ 1 ≤ p4 ∧ p4 ≤ 9) ∧ (∀ (r : Int) , 0 ≤ r ∧ r ≤ b → Q (some (q1 r)))
def sp_X4_leastRaise : qS := fun av w Q => spr_X4_leastRaise av w (fun r => Q r w)
def I_X4_leastRaise (h1 : Nat → Int) (h2 : Nat → Int) (h3 : Nat → Int) (p4 : Int) (a : Int) (b : Int) : Nat → Nat → List qV → List qV → qW → Prop := fun dz mz vz sz wz => if dz = 5 then (∃ (v3 : Int) (v4 : Int), vz = [q2 0, q1 a, q1 b, q1 v3, q1 v4] ∧ sz = [] ∧ wz = (wZo 0 h1 h2 h3 p4) ∧ mz = (p4 - v4).toNat ∧ (0 ≤ v4 ∧ v4 ≤ p4 ∧ (v3 = -1 ∨ 0 ≤ v3 ∧ v3 ≤ b))) else False
set_option maxHeartbeats 4000000 in
set_option maxRecDepth 100000 in
theorem m_X4_leastRaise (l : Launch) : q_M l yX4_leastRaise cX4_leastRaise 5 (some .int) 1 23 sp_X4_leastRaise := by
  refine q_meth (by decide) (fun av w Q h => by obtain ⟨h1, h2, h3, p4, a, b, rfl, rfl, hs, hg, hb, ha, hQ⟩ := h; exact Nat.le_of_ble_eq_true rfl) ?_
  intro p e R s m args below meth c dC dI k g A av w Q hsp oka okw X
  obtain ⟨h1, h2, h3, p4, a, b, rfl, rfl, hs, hg, hb, ha, hQ⟩ := hsp
  have o_a : -2147483648 ≤ a ∧ a ≤ 2147483647 := oka _ (List.mem_of_getElem? (i := 1) rfl)
  have o_b : -2147483648 ≤ b ∧ b ≤ 2147483647 := oka _ (List.mem_of_getElem? (i := 2) rfl)
  refine s_mono (s_X4_leastRaise_0 X (J := fun dz vz sz wz => ∃ mz, I_X4_leastRaise h1 h2 h3 p4 a b dz mz vz sz wz) (q_loopn (I_X4_leastRaise h1 h2 h3 p4 a b) (fun dz J => if dz = 5 then b_X4_leastRaise_5 J Q else q_F) ?hs ?hv)) ?_
  case hs =>
    intro d J hJ
    by_cases h5 : d = 5
    · subst h5; exact s_X4_leastRaise_5 X hJ
    simp only [h5, if_false]
    exact s_F
  case hv =>
    intro dz mz vz sz wz hI okv oks okw hlen
    by_cases h5 : dz = 5
    · subst h5
      obtain ⟨v3, v4, rfl, rfl, rfl, hn, hp⟩ := hI
      apply And.intro
      · intro h11
        intro z68 h68
        exact hQ _ (by first | omega | assumption | exact q_rg_up (by assumption) (by omega) | exact q_rg_up (q_rg_up (by assumption) (by omega)) (by omega) | exact q_rg_cpy (by assumption) (by assumption))
      · intro h11
        refine Exists.intro [0, 1, 2, 3] (Exists.intro [q2 0, q1 _, q1 _, q1 _] (Exists.intro ((wZo 0 _ _ _ _)) (And.intro rfl (And.intro rfl (And.intro rfl (And.intro ⟨⟨_, rfl⟩, rfl⟩ ?_))))))
        refine Exists.intro _ (Exists.intro _ (Exists.intro _ (Exists.intro _ (Exists.intro _ (Exists.intro _ (Exists.intro _ (And.intro rfl (And.intro rfl (And.intro (by first | omega | assumption | exact q_rg_up (by assumption) (by omega) | exact q_rg_up (q_rg_up (by assumption) (by omega)) (by omega) | exact q_rg_cpy (by assumption) (by assumption)) (And.intro (by first | omega | assumption | exact q_rg_up (by assumption) (by omega) | exact q_rg_up (q_rg_up (by assumption) (by omega)) (by omega) | exact q_rg_cpy (by assumption) (by assumption)) (And.intro (by first | omega | assumption | exact q_rg_up (by assumption) (by omega) | exact q_rg_up (q_rg_up (by assumption) (by omega)) (by omega) | exact q_rg_cpy (by assumption) (by assumption)) (And.intro (by first | omega | assumption | exact q_rg_up (by assumption) (by omega) | exact q_rg_up (q_rg_up (by assumption) (by omega)) (by omega) | exact q_rg_cpy (by assumption) (by assumption)) (?_)))))))))))))
        intro z19 h19
        intro z29 h29
        first | replace h29 := e_mul h29 (by omega) | replace h29 := e_rng h29
        intro z31 h31
        first | replace h31 := e_add h31 (by omega) | replace h31 := e_rng h31
        apply And.intro
        · exact ⟨by omega, by omega⟩
        intro z32 h32
        have ab := bb_at hb h32 (by omega)
        apply And.intro
        · intro h33
          intro z60 h60
          first | replace h60 := e_add h60 (by omega) | replace h60 := e_rng h60
          exact ⟨_, ⟨_, _, rfl, rfl, rfl, rfl, (by first | omega | assumption | exact q_rg_up (by assumption) (by omega) | exact q_rg_up (q_rg_up (by assumption) (by omega)) (by omega) | exact q_rg_cpy (by assumption) (by assumption))⟩, by omega⟩
        · intro h33
          apply And.intro
          · intro h38
            apply And.intro
            · exact ⟨by omega, by omega⟩
            intro z58 h58
            first | have a58 := q_rg_at hs h58 | have a58 := q_rg_at hg h58 | skip
            intro z60 h60
            first | replace h60 := e_add h60 (by omega) | replace h60 := e_rng h60
            exact ⟨_, ⟨_, _, rfl, rfl, rfl, rfl, (by first | omega | assumption | exact q_rg_up (by assumption) (by omega) | exact q_rg_up (q_rg_up (by assumption) (by omega)) (by omega) | exact q_rg_cpy (by assumption) (by assumption))⟩, by omega⟩
          · intro h38
            apply And.intro
            · exact ⟨by omega, by omega⟩
            intro z47 h47
            first | have a47 := q_rg_at hs h47 | have a47 := q_rg_at hg h47 | skip
            apply And.intro
            · intro h49
              intro z60 h60
              first | replace h60 := e_add h60 (by omega) | replace h60 := e_rng h60
              exact ⟨_, ⟨_, _, rfl, rfl, rfl, rfl, (by first | omega | assumption | exact q_rg_up (by assumption) (by omega) | exact q_rg_up (q_rg_up (by assumption) (by omega)) (by omega) | exact q_rg_cpy (by assumption) (by assumption))⟩, by omega⟩
            · intro h49
              apply And.intro
              · exact ⟨by omega, by omega⟩
              intro z58 h58
              first | have a58 := q_rg_at hs h58 | have a58 := q_rg_at hg h58 | skip
              intro z60 h60
              first | replace h60 := e_add h60 (by omega) | replace h60 := e_rng h60
              exact ⟨_, ⟨_, _, rfl, rfl, rfl, rfl, (by first | omega | assumption | exact q_rg_up (by assumption) (by omega) | exact q_rg_up (q_rg_up (by assumption) (by omega)) (by omega) | exact q_rg_cpy (by assumption) (by assumption))⟩, by omega⟩
    simp only [I_X4_leastRaise, h5, if_false] at hI
  rintro lv st w' ⟨rfl, rfl, rfl⟩
  exact ⟨_, _, _, rfl, rfl, rfl, rfl, (by first | omega | assumption | exact q_rg_up (by assumption) (by omega) | exact q_rg_up (q_rg_up (by assumption) (by omega)) (by omega) | exact q_rg_cpy (by assumption) (by assumption))⟩

theorem dX4_raiseOf_0 : decode cX4_raiseOf 0 = .ok (.iload_n 2, 1) := by decide +kernel
theorem dX4_raiseOf_1 : decode cX4_raiseOf 1 = .ok (.istore 4, 2) := by decide +kernel
theorem dX4_raiseOf_3 : decode cX4_raiseOf 3 = .ok (.iconst 0, 1) := by decide +kernel
theorem dX4_raiseOf_4 : decode cX4_raiseOf 4 = .ok (.istore 5, 2) := by decide +kernel
theorem dX4_raiseOf_6 : decode cX4_raiseOf 6 = .ok (.iconst 0, 1) := by decide +kernel
theorem dX4_raiseOf_7 : decode cX4_raiseOf 7 = .ok (.istore 6, 2) := by decide +kernel
theorem dX4_raiseOf_9 : decode cX4_raiseOf 9 = .ok (.iload 6, 2) := by decide +kernel
theorem dX4_raiseOf_11 : decode cX4_raiseOf 11 = .ok (.iload_n 3, 1) := by decide +kernel
theorem dX4_raiseOf_12 : decode cX4_raiseOf 12 = .ok (.if_icmp .gt 42, 3) := by decide +kernel
theorem dX4_raiseOf_15 : decode cX4_raiseOf 15 = .ok (.iload 6, 2) := by decide +kernel
theorem dX4_raiseOf_17 : decode cX4_raiseOf 17 = .ok (.aload_n 1, 1) := by decide +kernel
theorem dX4_raiseOf_18 : decode cX4_raiseOf 18 = .ok (.getfield 27, 3) := by decide +kernel
theorem dX4_raiseOf_21 : decode cX4_raiseOf 21 = .ok (.if_icmp .ge 33, 3) := by decide +kernel
theorem dX4_raiseOf_24 : decode cX4_raiseOf 24 = .ok (.aload_n 0, 1) := by decide +kernel
theorem dX4_raiseOf_25 : decode cX4_raiseOf 25 = .ok (.aload_n 1, 1) := by decide +kernel
theorem dX4_raiseOf_26 : decode cX4_raiseOf 26 = .ok (.iload 6, 2) := by decide +kernel
theorem dX4_raiseOf_28 : decode cX4_raiseOf 28 = .ok (.invokevirtual 33, 3) := by decide +kernel
theorem dX4_raiseOf_31 : decode cX4_raiseOf 31 = .ok (.aload_n 0, 1) := by decide +kernel
theorem dX4_raiseOf_32 : decode cX4_raiseOf 32 = .ok (.iload 6, 2) := by decide +kernel
theorem dX4_raiseOf_34 : decode cX4_raiseOf 34 = .ok (.iload 4, 2) := by decide +kernel
theorem dX4_raiseOf_36 : decode cX4_raiseOf 36 = .ok (.invokevirtual 66, 3) := by decide +kernel
theorem dX4_raiseOf_39 : decode cX4_raiseOf 39 = .ok (.istore 5, 2) := by decide +kernel
theorem dX4_raiseOf_41 : decode cX4_raiseOf 41 = .ok (.iload 4, 2) := by decide +kernel
theorem dX4_raiseOf_43 : decode cX4_raiseOf 43 = .ok (.iload 5, 2) := by decide +kernel
theorem dX4_raiseOf_45 : decode cX4_raiseOf 45 = .ok (.isub, 1) := by decide +kernel
theorem dX4_raiseOf_46 : decode cX4_raiseOf 46 = .ok (.istore 4, 2) := by decide +kernel
theorem dX4_raiseOf_48 : decode cX4_raiseOf 48 = .ok (.iinc 6 1, 3) := by decide +kernel
theorem dX4_raiseOf_51 : decode cX4_raiseOf 51 = .ok (.goto (-42), 3) := by decide +kernel
theorem dX4_raiseOf_54 : decode cX4_raiseOf 54 = .ok (.iload 5, 2) := by decide +kernel
theorem dX4_raiseOf_56 : decode cX4_raiseOf 56 = .ok (.ireturn, 1) := by decide +kernel
def is_X4_raiseOf : Nat → List Nat := fun d => if d = 9 then [0, 1, 3, 4, 5, 6] else []
set_option maxRecDepth 100000 in
def b_X4_raiseOf_54 (J : Nat → List qV → List qV → qW → Prop) (Q : qR) : qK := x_iload 5 (x_iret Q)
set_option maxRecDepth 100000 in
theorem s_X4_raiseOf_54 {p : Program} {l : Launch} {e : Env} {R : Room} {s : State} {m : MethodId} {args : Array Value} {below : List Frame} {meth : Method} {c : Code} {nW : Nat} {dC : Nat → ClassId} {dI : Nat → Nat → Nat} {k : Nat → ClassId} {g : Nat → Nat} {A : Nat → Prop} {J : Nat → List qV → List qV → qW → Prop} {Q : qR} (X : q_X p R s m args meth c cX4_raiseOf 7 nW 2 48 RX4 (some .int) dC dI k g A) (hJ : ∀ d : Nat, q_Sd p l e R s m args below meth c 7 nW dC dI k g A (MQ below (q_post (dC, dI) k g nW Q A) args s 0 0 A) d (x_cut (is_X4_raiseOf d) (J d))) : q_Sd p l e R s m args below meth c 7 nW dC dI k g A (MQ below (q_post (dC, dI) k g nW Q A) args s 0 0 A) 54 (b_X4_raiseOf_54 J Q) := by
  unfold b_X4_raiseOf_54
  refine s_iload X dX4_raiseOf_54 ?_
  exact s_iret X dX4_raiseOf_56
set_option maxRecDepth 100000 in
def b_X4_raiseOf_9 (J : Nat → List qV → List qV → qW → Prop) (Q : qR) : qK := x_iload 6 (x_iload 3 (x_icmp_gt (b_X4_raiseOf_54 J Q) (x_iload 6 (x_aload 1 (x_get 0 10 (x_icmp_ge (b_X4_raiseOf_54 J Q) (x_aload 0 (x_aload 1 (x_iload 6 (x_call (some 4) 3 sp_X4_choose (x_nw (x_aload 0 (x_iload 6 (x_iload 4 (x_callr (some 4) 3 spr_X4_leastRaise (x_istore 5 (x_iload 4 (x_iload 5 (x_isub (x_istore 4 (x_iinc 6 1 (x_cut [0, 1, 3, 4, 5, 6] (J 9)))))))))))))))))))))))
set_option maxRecDepth 100000 in
theorem s_X4_raiseOf_9 {p : Program} {l : Launch} {e : Env} {R : Room} {s : State} {m : MethodId} {args : Array Value} {below : List Frame} {meth : Method} {c : Code} {nW : Nat} {dC : Nat → ClassId} {dI : Nat → Nat → Nat} {k : Nat → ClassId} {g : Nat → Nat} {A : Nat → Prop} {J : Nat → List qV → List qV → qW → Prop} {Q : qR} (X : q_X p R s m args meth c cX4_raiseOf 7 nW 2 48 RX4 (some .int) dC dI k g A) (hJ : ∀ d : Nat, q_Sd p l e R s m args below meth c 7 nW dC dI k g A (MQ below (q_post (dC, dI) k g nW Q A) args s 0 0 A) d (x_cut (is_X4_raiseOf d) (J d))) : q_Sd p l e R s m args below meth c 7 nW dC dI k g A (MQ below (q_post (dC, dI) k g nW Q A) args s 0 0 A) 9 (b_X4_raiseOf_9 J Q) := by
  unfold b_X4_raiseOf_9
  refine s_iload X dX4_raiseOf_9 ?_
  refine s_iload_n X rfl dX4_raiseOf_11 ?_
  refine s_icmp_gt X (tgt := 54) dX4_raiseOf_12 (by decide) ?_ ?_
  · exact s_X4_raiseOf_54 X hJ
  · refine s_iload X dX4_raiseOf_15 ?_
    refine s_aload_n X rfl dX4_raiseOf_17 ?_
    refine s_get X (T := TX0) (C := RX0) (N := 12) tu_X0 rfl (by decide) tw_202 dX4_raiseOf_18 ?_
    refine s_icmp_ge X (tgt := 54) dX4_raiseOf_21 (by decide) ?_ ?_
    · exact s_X4_raiseOf_54 X hJ
    · refine s_aload_n X rfl dX4_raiseOf_24 ?_
      refine s_aload_n X rfl dX4_raiseOf_25 ?_
      refine s_iload X dX4_raiseOf_26 ?_
      refine s_callV X (m_X4_choose l) tw_670 tw_671 tw_1500 tw_131 tw_672 rfl (by decide +kernel) ⟨by decide, by decide⟩ dX4_raiseOf_28 ?_
      refine s_nw ?_
      refine s_aload_n X rfl dX4_raiseOf_31 ?_
      refine s_iload X dX4_raiseOf_32 ?_
      refine s_iload X dX4_raiseOf_34 ?_
      refine s_callVr X (m_X4_leastRaise l) tw_684 tw_685 tw_1502 tw_131 tw_686 rfl (by decide +kernel) ⟨by decide, by decide⟩ dX4_raiseOf_36 ?_
      refine s_istore X (by decide) dX4_raiseOf_39 ?_
      refine s_iload X dX4_raiseOf_41 ?_
      refine s_iload X dX4_raiseOf_43 ?_
      refine s_isub X dX4_raiseOf_45 ?_
      refine s_istore X (by decide) dX4_raiseOf_46 ?_
      refine s_iinc X (by decide) dX4_raiseOf_48 ?_
      refine s_goto X (tgt := 9) dX4_raiseOf_51 (by decide) ?_
      exact hJ 9
set_option maxRecDepth 100000 in
def b_X4_raiseOf_0 (J : Nat → List qV → List qV → qW → Prop) (Q : qR) : qK := x_iload 2 (x_istore 4 (x_int 0 (x_istore 5 (x_int 0 (x_istore 6 (x_cut [0, 1, 3, 4, 5, 6] (J 9)))))))
set_option maxRecDepth 100000 in
theorem s_X4_raiseOf_0 {p : Program} {l : Launch} {e : Env} {R : Room} {s : State} {m : MethodId} {args : Array Value} {below : List Frame} {meth : Method} {c : Code} {nW : Nat} {dC : Nat → ClassId} {dI : Nat → Nat → Nat} {k : Nat → ClassId} {g : Nat → Nat} {A : Nat → Prop} {J : Nat → List qV → List qV → qW → Prop} {Q : qR} (X : q_X p R s m args meth c cX4_raiseOf 7 nW 2 48 RX4 (some .int) dC dI k g A) (hJ : ∀ d : Nat, q_Sd p l e R s m args below meth c 7 nW dC dI k g A (MQ below (q_post (dC, dI) k g nW Q A) args s 0 0 A) d (x_cut (is_X4_raiseOf d) (J d))) : q_Sd p l e R s m args below meth c 7 nW dC dI k g A (MQ below (q_post (dC, dI) k g nW Q A) args s 0 0 A) 0 (b_X4_raiseOf_0 J Q) := by
  unfold b_X4_raiseOf_0
  refine s_iload_n X rfl dX4_raiseOf_0 ?_
  refine s_istore X (by decide) dX4_raiseOf_1 ?_
  refine s_iconst X ⟨by decide, by decide⟩ dX4_raiseOf_3 ?_
  refine s_istore X (by decide) dX4_raiseOf_4 ?_
  refine s_iconst X ⟨by decide, by decide⟩ dX4_raiseOf_6 ?_
  refine s_istore X (by decide) dX4_raiseOf_7 ?_
  exact hJ 9

def sp_X4_raiseOf : qS := fun av w Q => ∃ (h1 : Nat → Int) (h2 : Nat → Int) (h3 : Nat → Int) (p4 : Int) (f1 : Nat → Int) (f2 : Nat → Int) (f3 : Nat → Int) (f4 : Nat → Int) (f5 : Nat → Int) (f6 : Nat → Int) (f7 : Nat → Int) (u0 : Int) (u1 : Int) (u2 : Int) (u3 : Int) (u4 : Int) (a : Int) (b : Int), av = [q2 0, q2 4, q1 a, q1 b] ∧ w = (wZo 0 h1 h2 h3 p4 ++ wBo 4 f1 f2 f3 f4 f5 f6 f7 u0 u1 u2 u3 u4) ∧ (0 ≤ u0 ∧ u0 ≤ 8 ∧ 0 ≤ u3 ∧ u3 ≤ 6 ∧ 0 ≤ u4 ∧ u4 ≤ 6) ∧ (q_rg 0 2147483647 h2) ∧ (q_rg 0 8 h3) ∧ (bbP h1) ∧ (0 ≤ a ∧ a ≤ 99) ∧ (∀ (r : Int) (x2 : Nat → Int) (x3 : Nat → Int) (x4 : Int), (q_rg 0 2147483647 x2 ∧ q_rg 0 8 x3) → Q (some (q1 r)) ((wZo 0 h1 x2 x3 x4 ++ wBo 4 f1 f2 f3 f4 f5 f6 f7 u0 u1 u2 u3 u4)))
def I_X4_raiseOf (h1 : Nat → Int) (h2 : Nat → Int) (h3 : Nat → Int) (p4 : Int) (f1 : Nat → Int) (f2 : Nat → Int) (f3 : Nat → Int) (f4 : Nat → Int) (f5 : Nat → Int) (f6 : Nat → Int) (f7 : Nat → Int) (u0 : Int) (u1 : Int) (u2 : Int) (u3 : Int) (u4 : Int) (a : Int) (b : Int) : Nat → Nat → List qV → List qV → qW → Prop := fun dz mz vz sz wz => if dz = 9 then (∃ (y2 : Nat → Int) (y3 : Nat → Int) (y4 : Int) (v4 : Int) (v5 : Int) (v6 : Int), vz = [q2 0, q2 4, q1 b, q1 v4, q1 v5, q1 v6] ∧ sz = [] ∧ wz = (wZo 0 h1 y2 y3 y4 ++ wBo 4 f1 f2 f3 f4 f5 f6 f7 u0 u1 u2 u3 u4) ∧ mz = (6 - v6).toNat ∧ (0 ≤ v6 ∧ v6 ≤ 6 ∧ 0 ≤ v4 ∧ v4 ≤ 99) ∧ (q_rg 0 2147483647 y2) ∧ (q_rg 0 8 y3)) else False
set_option maxHeartbeats 4000000 in
set_option maxRecDepth 100000 in
theorem m_X4_raiseOf (l : Launch) : q_M l yX4_raiseOf cX4_raiseOf 7 (some .int) 2 48 sp_X4_raiseOf := by
  refine q_meth (by decide) (fun av w Q h => by obtain ⟨h1, h2, h3, p4, f1, f2, f3, f4, f5, f6, f7, u0, u1, u2, u3, u4, a, b, rfl, rfl, hu0, hs, hg, hb, ha, hQ⟩ := h; exact Nat.le_of_ble_eq_true rfl) ?_
  intro p e R s m args below meth c dC dI k g A av w Q hsp oka okw X
  obtain ⟨h1, h2, h3, p4, f1, f2, f3, f4, f5, f6, f7, u0, u1, u2, u3, u4, a, b, rfl, rfl, hu0, hs, hg, hb, ha, hQ⟩ := hsp
  have o_a : -2147483648 ≤ a ∧ a ≤ 2147483647 := oka _ (List.mem_of_getElem? (i := 2) rfl)
  have o_b : -2147483648 ≤ b ∧ b ≤ 2147483647 := oka _ (List.mem_of_getElem? (i := 3) rfl)
  refine s_mono (s_X4_raiseOf_0 X (J := fun dz vz sz wz => ∃ mz, I_X4_raiseOf h1 h2 h3 p4 f1 f2 f3 f4 f5 f6 f7 u0 u1 u2 u3 u4 a b dz mz vz sz wz) (q_loopn (I_X4_raiseOf h1 h2 h3 p4 f1 f2 f3 f4 f5 f6 f7 u0 u1 u2 u3 u4 a b) (fun dz J => if dz = 9 then b_X4_raiseOf_9 J Q else q_F) ?hs ?hv)) ?_
  case hs =>
    intro d J hJ
    by_cases h9 : d = 9
    · subst h9; exact s_X4_raiseOf_9 X hJ
    simp only [h9, if_false]
    exact s_F
  case hv =>
    intro dz mz vz sz wz hI okv oks okw hlen
    by_cases h9 : dz = 9
    · subst h9
      obtain ⟨y2, y3, y4, v4, v5, v6, rfl, rfl, rfl, hn, hp, hs, hg⟩ := hI
      apply And.intro
      · intro h12
        exact hQ _ _ _ _ ⟨by assumption, by assumption⟩
      · intro h12
        apply And.intro
        · intro h21
          exact hQ _ _ _ _ ⟨by assumption, by assumption⟩
        · intro h21
          refine Exists.intro [0, 1, 2, 3, 4, 5, 6, 7, 8, 9, 10, 11] (Exists.intro [q2 0, q2 4, q1 _] (Exists.intro ((wZo 0 _ _ _ _ ++ wBo 4 _ _ _ _ _ _ _ _ _ _ _ _)) (And.intro rfl (And.intro rfl (And.intro rfl (And.intro ⟨⟨_, rfl⟩, rfl⟩ ?_))))))
          refine Exists.intro _ (Exists.intro _ (Exists.intro _ (Exists.intro _ (Exists.intro _ (Exists.intro _ (Exists.intro _ (Exists.intro _ (Exists.intro _ (Exists.intro _ (Exists.intro _ (Exists.intro _ (Exists.intro _ (Exists.intro _ (Exists.intro _ (Exists.intro _ (Exists.intro _ (And.intro rfl (And.intro rfl (And.intro (by first | omega | assumption | exact q_rg_up (by assumption) (by omega) | exact q_rg_up (q_rg_up (by assumption) (by omega)) (by omega) | exact q_rg_cpy (by assumption) (by assumption)) (And.intro (by first | omega | assumption | exact q_rg_up (by assumption) (by omega) | exact q_rg_up (q_rg_up (by assumption) (by omega)) (by omega) | exact q_rg_cpy (by assumption) (by assumption)) (And.intro (by first | omega | assumption | exact q_rg_up (by assumption) (by omega) | exact q_rg_up (q_rg_up (by assumption) (by omega)) (by omega) | exact q_rg_cpy (by assumption) (by assumption)) (And.intro (by first | omega | assumption | exact q_rg_up (by assumption) (by omega) | exact q_rg_up (q_rg_up (by assumption) (by omega)) (by omega) | exact q_rg_cpy (by assumption) (by assumption)) (?_)))))))))))))))))))))))
          intro x2_28 x3_28 x4_28 h28
          obtain ⟨hs, hg, hc1, hc2⟩ := h28
          refine Exists.intro [0, 1, 2, 3] (Exists.intro [q2 0, q1 _, q1 _] (Exists.intro ((wZo 0 _ _ _ _)) (And.intro rfl (And.intro rfl (And.intro rfl (And.intro ⟨⟨_, rfl⟩, rfl⟩ ?_))))))
          refine Exists.intro _ (Exists.intro _ (Exists.intro _ (Exists.intro _ (Exists.intro _ (Exists.intro _ (And.intro rfl (And.intro rfl (And.intro (by first | omega | assumption | exact q_rg_up (by assumption) (by omega) | exact q_rg_up (q_rg_up (by assumption) (by omega)) (by omega) | exact q_rg_cpy (by assumption) (by assumption)) (And.intro (by first | omega | assumption | exact q_rg_up (by assumption) (by omega) | exact q_rg_up (q_rg_up (by assumption) (by omega)) (by omega) | exact q_rg_cpy (by assumption) (by assumption)) (And.intro (by first | omega | assumption | exact q_rg_up (by assumption) (by omega) | exact q_rg_up (q_rg_up (by assumption) (by omega)) (by omega) | exact q_rg_cpy (by assumption) (by assumption)) (And.intro (by first | omega | assumption | exact q_rg_up (by assumption) (by omega) | exact q_rg_up (q_rg_up (by assumption) (by omega)) (by omega) | exact q_rg_cpy (by assumption) (by assumption)) (?_))))))))))))
          intro z36 h36
          intro z45 h45
          first | replace h45 := e_sub h45 (by omega) | replace h45 := e_rng h45
          intro z48 h48
          first | replace h48 := e_add h48 (by omega) | replace h48 := e_rng h48
          exact ⟨_, ⟨_, _, _, _, _, _, rfl, rfl, rfl, rfl, (by first | omega | assumption | exact q_rg_up (by assumption) (by omega) | exact q_rg_up (q_rg_up (by assumption) (by omega)) (by omega) | exact q_rg_cpy (by assumption) (by assumption)), (by first | omega | assumption | exact q_rg_up (by assumption) (by omega) | exact q_rg_up (q_rg_up (by assumption) (by omega)) (by omega) | exact q_rg_cpy (by assumption) (by assumption)), (by first | omega | assumption | exact q_rg_up (by assumption) (by omega) | exact q_rg_up (q_rg_up (by assumption) (by omega)) (by omega) | exact q_rg_cpy (by assumption) (by assumption))⟩, by omega⟩
    simp only [I_X4_raiseOf, h9, if_false] at hI
  rintro lv st w' ⟨rfl, rfl, rfl⟩
  exact ⟨_, _, _, _, _, _, _, rfl, rfl, rfl, rfl, (by first | omega | assumption | exact q_rg_up (by assumption) (by omega) | exact q_rg_up (q_rg_up (by assumption) (by omega)) (by omega) | exact q_rg_cpy (by assumption) (by assumption)), (by first | omega | assumption | exact q_rg_up (by assumption) (by omega) | exact q_rg_up (q_rg_up (by assumption) (by omega)) (by omega) | exact q_rg_cpy (by assumption) (by assumption)), (by first | omega | assumption | exact q_rg_up (by assumption) (by omega) | exact q_rg_up (q_rg_up (by assumption) (by omega)) (by omega) | exact q_rg_cpy (by assumption) (by assumption))⟩
