/-! ===== steps up, the class ===== -/
def g2 (f : Nat → Int) : Nat → Int := fun i => f (i - 13)
def isP (u x : Int) : Prop := 0 ≤ x ∧ x < u ∧ x < 8
def ScW (f : Nat → Int) (u a t n o : Int) : Prop := 0 ≤ n ∧ o = pch (g2 f) 0 n.toNat a ∧ ∀ j : Nat, (j : Int) < n → isP u (pch (g2 f) 0 j a) ∧ ¬ pch (g2 f) 0 j a = t
theorem g2_s {f : Nat → Int} {a n n' o z : Int} (h0 : 0 ≤ n) (h : o = pch (g2 f) 0 n.toNat a) (h1 : 0 ≤ o) (hz : z = f o.toNat) (hn : n' = n + 1) : z = pch (g2 f) 0 n'.toNat a := by
  subst hn
  rw [show (n + 1).toNat = n.toNat + 1 by omega, pch_s (by rw [← h]; omega), ← h, hz]
  show f o.toNat = f (0 + 13 + o.toNat - 13)
  congr 1
  omega
theorem ScW_0 {f : Nat → Int} {u a t : Int} : ScW f u a t 0 a := ⟨Int.le_refl 0, rfl, fun j hj => by omega⟩
theorem ScW_s {f : Nat → Int} {u a t n n' o z : Int} (h : ScW f u a t n o) (h1 : 0 ≤ o ∧ o < u ∧ o < 8) (h2 : ¬ o = t) (hz : z = f o.toNat) (hn : n' = n + 1) : ScW f u a t n' z := by
  obtain ⟨a1, a2, a3⟩ := h
  refine ⟨by omega, g2_s a1 a2 h1.1 hz hn, fun j hj => ?_⟩
  by_cases c : (j : Int) < n
  · exact a3 j c
  · have e : j = n.toNat := by omega
    rw [e, ← a2]
    exact ⟨h1, h2⟩
def ScC (f : Nat → Int) (u a t r : Int) : Prop := ((0 ≤ r ∧ r < u) ∧ pch (g2 f) 0 r.toNat a = t ∧ isP u t ∧ ∀ j : Nat, (j : Int) < r → isP u (pch (g2 f) 0 j a) ∧ ¬ pch (g2 f) 0 j a = t) ∨ (r = -1 ∧ ∃ m : Nat, (∀ j : Nat, j < m → isP u (pch (g2 f) 0 j a) ∧ ¬ pch (g2 f) 0 j a = t) ∧ ((m : Int) = u ∨ ¬ isP u (pch (g2 f) 0 m a)))
theorem ScC_y {f : Nat → Int} {u a t n o : Int} (h : ScW f u a t n o) (h1 : 0 ≤ o ∧ o < u ∧ o < 8) (h2 : o = t) (h3 : n < u) : ScC f u a t n := by
  obtain ⟨a1, a2, a3⟩ := h
  subst h2
  exact Or.inl ⟨⟨a1, h3⟩, a2.symm, h1, a3⟩
theorem ScC_n {f : Nat → Int} {u a t n o : Int} (h : ScW f u a t n o) (h1 : n = u ∨ ¬ (0 ≤ o ∧ o < u ∧ o < 8)) : ScC f u a t (-1) := by
  obtain ⟨a1, a2, a3⟩ := h
  refine Or.inr ⟨rfl, n.toNat, fun j hj => a3 j (by omega), ?_⟩
  rcases h1 with h1 | h1
  · exact Or.inl (by omega)
  · right; rw [← a2]; exact h1
def CfW (f : Nat → Int) (u a b n o : Int) : Prop := 0 ≤ n ∧ o = pch (g2 f) 0 n.toNat a ∧ ∀ j : Nat, (j : Int) < n → isP u (pch (g2 f) 0 j a) ∧ ScC f u b (pch (g2 f) 0 j a) (-1)
theorem CfW_0 {f : Nat → Int} {u a b : Int} : CfW f u a b 0 a := ⟨Int.le_refl 0, rfl, fun j hj => by omega⟩
theorem CfW_s {f : Nat → Int} {u a b n n' o z q : Int} (h : CfW f u a b n o) (h1 : 0 ≤ o ∧ o < u ∧ o < 8) (h2 : ScC f u b o q) (hq : q = -1) (hz : z = f o.toNat) (hn : n' = n + 1) : CfW f u a b n' z := by
  obtain ⟨a1, a2, a3⟩ := h
  subst hq
  refine ⟨by omega, g2_s a1 a2 h1.1 hz hn, fun j hj => ?_⟩
  by_cases c : (j : Int) < n
  · exact a3 j c
  · have e : j = n.toNat := by omega
    rw [e, ← a2]
    exact ⟨h1, h2⟩
def CfC (f : Nat → Int) (u a b r : Int) : Prop := (∃ n : Nat, r = pch (g2 f) 0 n a ∧ isP u r ∧ (∃ q : Int, ¬ q = -1 ∧ ScC f u b r q) ∧ ∀ j : Nat, j < n → isP u (pch (g2 f) 0 j a) ∧ ScC f u b (pch (g2 f) 0 j a) (-1)) ∨ (r = -1 ∧ ∃ m : Nat, (∀ j : Nat, j < m → isP u (pch (g2 f) 0 j a) ∧ ScC f u b (pch (g2 f) 0 j a) (-1)) ∧ ((m : Int) = u ∨ ¬ isP u (pch (g2 f) 0 m a)))
theorem CfC_y {f : Nat → Int} {u a b n o q : Int} (h : CfW f u a b n o) (h1 : 0 ≤ o ∧ o < u ∧ o < 8) (h2 : ScC f u b o q) (hq : ¬ q = -1) : CfC f u a b o := by
  obtain ⟨a1, a2, a3⟩ := h
  exact Or.inl ⟨n.toNat, a2, h1, ⟨q, hq, h2⟩, fun j hj => a3 j (by omega)⟩
theorem CfC_n {f : Nat → Int} {u a b n o : Int} (h : CfW f u a b n o) (h1 : n = u ∨ ¬ (0 ≤ o ∧ o < u ∧ o < 8)) : CfC f u a b (-1) := by
  obtain ⟨a1, a2, a3⟩ := h
  refine Or.inr ⟨rfl, n.toNat, fun j hj => a3 j (by omega), ?_⟩
  rcases h1 with h1 | h1
  · exact Or.inl (by omega)
  · right; rw [← a2]; exact h1
def ElX (f : Nat → Int) (u b c r : Int) : Prop := (isP u b ∧ isP u c) ∧ CfC f u b c r ∨ ¬ (isP u b ∧ isP u c) ∧ r = -1

theorem dG0_stepsUp_0 : decode cX0_stepsUp 0 = .ok (.iload_n 1, 1) := by decide +kernel
theorem dG0_stepsUp_1 : decode cX0_stepsUp 1 = .ok (.istore_n 3, 1) := by decide +kernel
theorem dG0_stepsUp_2 : decode cX0_stepsUp 2 = .ok (.iconst 0, 1) := by decide +kernel
theorem dG0_stepsUp_3 : decode cX0_stepsUp 3 = .ok (.istore 4, 2) := by decide +kernel
theorem dG0_stepsUp_5 : decode cX0_stepsUp 5 = .ok (.iload 4, 2) := by decide +kernel
theorem dG0_stepsUp_7 : decode cX0_stepsUp 7 = .ok (.aload_n 0, 1) := by decide +kernel
theorem dG0_stepsUp_8 : decode cX0_stepsUp 8 = .ok (.getfield 51, 3) := by decide +kernel
theorem dG0_stepsUp_11 : decode cX0_stepsUp 11 = .ok (.if_icmp .ge 32, 3) := by decide +kernel
theorem dG0_stepsUp_14 : decode cX0_stepsUp 14 = .ok (.aload_n 0, 1) := by decide +kernel
theorem dG0_stepsUp_15 : decode cX0_stepsUp 15 = .ok (.iload_n 3, 1) := by decide +kernel
theorem dG0_stepsUp_16 : decode cX0_stepsUp 16 = .ok (.invokevirtual 75, 3) := by decide +kernel
theorem dG0_stepsUp_19 : decode cX0_stepsUp 19 = .ok (.ifCond .eq 24, 3) := by decide +kernel
theorem dG0_stepsUp_22 : decode cX0_stepsUp 22 = .ok (.iload_n 3, 1) := by decide +kernel
theorem dG0_stepsUp_23 : decode cX0_stepsUp 23 = .ok (.iload_n 2, 1) := by decide +kernel
theorem dG0_stepsUp_24 : decode cX0_stepsUp 24 = .ok (.if_icmp .ne 6, 3) := by decide +kernel
theorem dG0_stepsUp_27 : decode cX0_stepsUp 27 = .ok (.iload 4, 2) := by decide +kernel
theorem dG0_stepsUp_29 : decode cX0_stepsUp 29 = .ok (.ireturn, 1) := by decide +kernel
theorem dG0_stepsUp_30 : decode cX0_stepsUp 30 = .ok (.aload_n 0, 1) := by decide +kernel
theorem dG0_stepsUp_31 : decode cX0_stepsUp 31 = .ok (.getfield 15, 3) := by decide +kernel
theorem dG0_stepsUp_34 : decode cX0_stepsUp 34 = .ok (.iload_n 3, 1) := by decide +kernel
theorem dG0_stepsUp_35 : decode cX0_stepsUp 35 = .ok (.iaload, 1) := by decide +kernel
theorem dG0_stepsUp_36 : decode cX0_stepsUp 36 = .ok (.istore_n 3, 1) := by decide +kernel
theorem dG0_stepsUp_37 : decode cX0_stepsUp 37 = .ok (.iinc 4 1, 3) := by decide +kernel
theorem dG0_stepsUp_40 : decode cX0_stepsUp 40 = .ok (.goto (-35), 3) := by decide +kernel
theorem dG0_stepsUp_43 : decode cX0_stepsUp 43 = .ok (.iconst (-1), 1) := by decide +kernel
theorem dG0_stepsUp_44 : decode cX0_stepsUp 44 = .ok (.ireturn, 1) := by decide +kernel
def is_G0_stepsUp : Nat → List Nat := fun d => if d = 5 then [0, 2, 3, 4] else []
set_option maxRecDepth 100000 in
def b_G0_stepsUp_43 (J : Nat → List qV → List qV → qW → Prop) (Q : qR) : qK := x_int (-1) (x_iret Q)
set_option maxRecDepth 100000 in
theorem s_G0_stepsUp_43 {p : Program} {l : Launch} {e : Env} {R : Room} {s : State} {m : MethodId} {args : Array Value} {below : List Frame} {meth : Method} {c : Code} {nW : Nat} {dC : Nat → ClassId} {dI : Nat → Nat → Nat} {k : Nat → ClassId} {g : Nat → Nat} {A : Nat → Prop} {J : Nat → List qV → List qV → qW → Prop} {Q : qR} (X : q_X p R s m args meth c cX0_stepsUp 5 nW 1 21 RX0 (some .int) dC dI k g A) (hJ : ∀ d : Nat, q_Sd p l e R s m args below meth c 5 nW dC dI k g A (MQ below (q_post (dC, dI) k g nW Q A) args s 0 0 A) d (x_cut (is_G0_stepsUp d) (J d))) : q_Sd p l e R s m args below meth c 5 nW dC dI k g A (MQ below (q_post (dC, dI) k g nW Q A) args s 0 0 A) 43 (b_G0_stepsUp_43 J Q) := by
  unfold b_G0_stepsUp_43
  refine s_iconst X ⟨by decide, by decide⟩ dG0_stepsUp_43 ?_
  exact s_iret X dG0_stepsUp_44
set_option maxRecDepth 100000 in
def b_G0_stepsUp_5 (J : Nat → List qV → List qV → qW → Prop) (Q : qR) : qK := x_iload 4 (x_aload 0 (x_get 0 7 (x_icmp_ge (b_G0_stepsUp_43 J Q) (x_aload 0 (x_iload 3 (x_callr (some 0) 2 spr_X0_has (x_if_eq (b_G0_stepsUp_43 J Q) (x_iload 3 (x_iload 2 (x_icmp_ne (x_aload 0 (x_get 0 1 (x_iload 3 (x_iald (x_istore 3 (x_iinc 4 1 (x_cut [0, 2, 3, 4] (J 5)))))))) (x_iload 4 (x_iret Q))))))))))))
set_option maxRecDepth 100000 in
theorem s_G0_stepsUp_5 {p : Program} {l : Launch} {e : Env} {R : Room} {s : State} {m : MethodId} {args : Array Value} {below : List Frame} {meth : Method} {c : Code} {nW : Nat} {dC : Nat → ClassId} {dI : Nat → Nat → Nat} {k : Nat → ClassId} {g : Nat → Nat} {A : Nat → Prop} {J : Nat → List qV → List qV → qW → Prop} {Q : qR} (X : q_X p R s m args meth c cX0_stepsUp 5 nW 1 21 RX0 (some .int) dC dI k g A) (hJ : ∀ d : Nat, q_Sd p l e R s m args below meth c 5 nW dC dI k g A (MQ below (q_post (dC, dI) k g nW Q A) args s 0 0 A) d (x_cut (is_G0_stepsUp d) (J d))) : q_Sd p l e R s m args below meth c 5 nW dC dI k g A (MQ below (q_post (dC, dI) k g nW Q A) args s 0 0 A) 5 (b_G0_stepsUp_5 J Q) := by
  unfold b_G0_stepsUp_5
  refine s_iload X dG0_stepsUp_5 ?_
  refine s_aload_n X rfl dG0_stepsUp_7 ?_
  refine s_get X (T := TX0) (C := RX0) (N := 12) tu_X0 rfl (by decide) tw_193 dG0_stepsUp_8 ?_
  refine s_icmp_ge X (tgt := 43) dG0_stepsUp_11 (by decide) ?_ ?_
  · exact s_G0_stepsUp_43 X hJ
  · refine s_aload_n X rfl dG0_stepsUp_14 ?_
    refine s_iload_n X rfl dG0_stepsUp_15 ?_
    refine s_callVr X (m_X0_has l) tw_398 tw_399 tw_400 tw_122 tw_401 rfl (by decide +kernel) ⟨by decide, by decide⟩ dG0_stepsUp_16 ?_
    refine s_if_eq X (tgt := 43) dG0_stepsUp_19 (by decide) ?_ ?_
    · exact s_G0_stepsUp_43 X hJ
    · refine s_iload_n X rfl dG0_stepsUp_22 ?_
      refine s_iload_n X rfl dG0_stepsUp_23 ?_
      refine s_icmp_ne X (tgt := 30) dG0_stepsUp_24 (by decide) ?_ ?_
      · refine s_aload_n X rfl dG0_stepsUp_30 ?_
        refine s_get X (T := TX0) (C := RX0) (N := 12) tu_X0 rfl (by decide) tw_172 dG0_stepsUp_31 ?_
        refine s_iload_n X rfl dG0_stepsUp_34 ?_
        refine s_iald X dG0_stepsUp_35 ?_
        refine s_istore_n X rfl (by decide) dG0_stepsUp_36 ?_
        refine s_iinc X (by decide) dG0_stepsUp_37 ?_
        refine s_goto X (tgt := 5) dG0_stepsUp_40 (by decide) ?_
        exact hJ 5
      · refine s_iload X dG0_stepsUp_27 ?_
        exact s_iret X dG0_stepsUp_29
set_option maxRecDepth 100000 in
def b_G0_stepsUp_0 (J : Nat → List qV → List qV → qW → Prop) (Q : qR) : qK := x_iload 1 (x_istore 3 (x_int 0 (x_istore 4 (x_cut [0, 2, 3, 4] (J 5)))))
set_option maxRecDepth 100000 in
theorem s_G0_stepsUp_0 {p : Program} {l : Launch} {e : Env} {R : Room} {s : State} {m : MethodId} {args : Array Value} {below : List Frame} {meth : Method} {c : Code} {nW : Nat} {dC : Nat → ClassId} {dI : Nat → Nat → Nat} {k : Nat → ClassId} {g : Nat → Nat} {A : Nat → Prop} {J : Nat → List qV → List qV → qW → Prop} {Q : qR} (X : q_X p R s m args meth c cX0_stepsUp 5 nW 1 21 RX0 (some .int) dC dI k g A) (hJ : ∀ d : Nat, q_Sd p l e R s m args below meth c 5 nW dC dI k g A (MQ below (q_post (dC, dI) k g nW Q A) args s 0 0 A) d (x_cut (is_G0_stepsUp d) (J d))) : q_Sd p l e R s m args below meth c 5 nW dC dI k g A (MQ below (q_post (dC, dI) k g nW Q A) args s 0 0 A) 0 (b_G0_stepsUp_0 J Q) := by
  unfold b_G0_stepsUp_0
  refine s_iload_n X rfl dG0_stepsUp_0 ?_
  refine s_istore_n X rfl (by decide) dG0_stepsUp_1 ?_
  refine s_iconst X ⟨by decide, by decide⟩ dG0_stepsUp_2 ?_
  refine s_istore X (by decide) dG0_stepsUp_3 ?_
  exact hJ 5

def spr_G0_stepsUp : List qV → qW → (Option qV → Prop) → Prop := fun av w Q => ∃ (f1 : Nat → Int) (f2 : Nat → Int) (f3 : Nat → Int) (f4 : Nat → Int) (f5 : Nat → Int) (f6 : Nat → Int) (f7 : Nat → Int) (u0 : Int) (u1 : Int) (u2 : Int) (u3 : Int) (u4 : Int) (a : Int) (b : Int), av = [q2 0, q1 a, q1 b] ∧ w = wB f1 f2 f3 f4 f5 f6 f7 u0 u1 u2 u3 u4 ∧ (0 ≤ u0 ∧ u0 ≤ 8) ∧ (∀ (r : Int) , ScC f2 u0 a b r → Q (some (q1 r)))
def sp_G0_stepsUp : qS := fun av w Q => spr_G0_stepsUp av w (fun r => Q r w)
def I_G0_stepsUp (f1 : Nat → Int) (f2 : Nat → Int) (f3 : Nat → Int) (f4 : Nat → Int) (f5 : Nat → Int) (f6 : Nat → Int) (f7 : Nat → Int) (u0 : Int) (u1 : Int) (u2 : Int) (u3 : Int) (u4 : Int) (a : Int) (b : Int) : Nat → Nat → List qV → List qV → qW → Prop := fun dz mz vz sz wz => if dz = 5 then (∃ (v3 : Int) (v4 : Int), vz = [q2 0, q1 b, q1 v3, q1 v4] ∧ sz = [] ∧ wz = wB f1 f2 f3 f4 f5 f6 f7 u0 u1 u2 u3 u4 ∧ mz = (u0 - v4).toNat ∧ (0 ≤ v4 ∧ v4 ≤ u0) ∧ (ScW f2 u0 a b v4 v3)) else False
set_option maxHeartbeats 4000000 in
set_option maxRecDepth 100000 in
theorem m_G0_stepsUp (l : Launch) : q_M l yX0_stepsUp cX0_stepsUp 5 (some .int) 1 21 sp_G0_stepsUp := by
  refine q_meth (by decide) (fun av w Q h => by obtain ⟨f1, f2, f3, f4, f5, f6, f7, u0, u1, u2, u3, u4, a, b, rfl, rfl, hu0, hQ⟩ := h; exact Nat.le_of_ble_eq_true rfl) ?_
  intro p e R s m args below meth c dC dI k g A av w Q hsp oka okw X
  obtain ⟨f1, f2, f3, f4, f5, f6, f7, u0, u1, u2, u3, u4, a, b, rfl, rfl, hu0, hQ⟩ := hsp
  have o_a : -2147483648 ≤ a ∧ a ≤ 2147483647 := oka _ (List.mem_of_getElem? (i := 1) rfl)
  have o_b : -2147483648 ≤ b ∧ b ≤ 2147483647 := oka _ (List.mem_of_getElem? (i := 2) rfl)
  refine s_mono (s_G0_stepsUp_0 X (J := fun dz vz sz wz => ∃ mz, I_G0_stepsUp f1 f2 f3 f4 f5 f6 f7 u0 u1 u2 u3 u4 a b dz mz vz sz wz) (q_loopn (I_G0_stepsUp f1 f2 f3 f4 f5 f6 f7 u0 u1 u2 u3 u4 a b) (fun dz J => if dz = 5 then b_G0_stepsUp_5 J Q else q_F) ?hs ?hv)) ?_
  case hs =>
    intro d J hJ
    by_cases h5 : d = 5
    · subst h5; exact s_G0_stepsUp_5 X hJ
    simp only [h5, if_false]
    exact s_F
  case hv =>
    intro dz mz vz sz wz hI okv oks okw hlen
    by_cases h5 : dz = 5
    · subst h5
      obtain ⟨v3, v4, rfl, rfl, rfl, hn, hp, hs9⟩ := hI
      apply And.intro
      · intro h11
        exact hQ _ (by first | exact ScC_n hs9 (by omega) | exact ScC_y hs9 (by omega) (by omega) (by omega))
      · intro h11
        refine Exists.intro [0, 1, 2, 3, 4, 5, 6, 7] (Exists.intro [q2 0, q1 _] (Exists.intro (wB _ _ _ _ _ _ _ _ _ _ _ _) (And.intro rfl (And.intro rfl (And.intro rfl (And.intro ⟨⟨_, rfl⟩, rfl⟩ ?_))))))
        refine Exists.intro _ (Exists.intro _ (Exists.intro _ (Exists.intro _ (Exists.intro _ (Exists.intro _ (Exists.intro _ (Exists.intro _ (Exists.intro _ (Exists.intro _ (Exists.intro _ (Exists.intro _ (Exists.intro _ (And.intro rfl (And.intro rfl (?_)))))))))))))))
        intro z16 h16
        apply And.intro
        · intro h19
          exact hQ _ (by first | exact ScC_n hs9 (by omega) | exact ScC_y hs9 (by omega) (by omega) (by omega))
        · intro h19
          apply And.intro
          · intro h24
            apply And.intro
            · exact ⟨by omega, by omega⟩
            intro z35 h35
            intro z37 h37
            first | replace h37 := e_add h37 (by omega) | replace h37 := e_rng h37
            exact ⟨_, ⟨_, _, rfl, rfl, rfl, rfl, (by first | omega | assumption | exact q_rg_up (by assumption) (by omega) | exact q_rg_up (q_rg_up (by assumption) (by omega)) (by omega) | exact q_rg_cpy (by assumption) (by assumption)), (by first | exact ScW_0 | exact ScW_s hs9 (by omega) (by omega) h35 (by omega))⟩, by omega⟩
          · intro h24
            exact hQ _ (by first | exact ScC_n hs9 (by omega) | exact ScC_y hs9 (by omega) (by omega) (by omega))
    simp only [I_G0_stepsUp, h5, if_false] at hI
  rintro lv st w' ⟨rfl, rfl, rfl⟩
  exact ⟨_, _, _, rfl, rfl, rfl, rfl, (by first | omega | assumption | exact q_rg_up (by assumption) (by omega) | exact q_rg_up (q_rg_up (by assumption) (by omega)) (by omega) | exact q_rg_cpy (by assumption) (by assumption)), (by first | exact ScW_0 | exact ScW_s hs9 (by omega) (by omega) h35 (by omega))⟩

theorem dG0_commonForbear_0 : decode cX0_commonForbear 0 = .ok (.iload_n 1, 1) := by decide +kernel
theorem dG0_commonForbear_1 : decode cX0_commonForbear 1 = .ok (.istore_n 3, 1) := by decide +kernel
theorem dG0_commonForbear_2 : decode cX0_commonForbear 2 = .ok (.iconst 0, 1) := by decide +kernel
theorem dG0_commonForbear_3 : decode cX0_commonForbear 3 = .ok (.istore 4, 2) := by decide +kernel
theorem dG0_commonForbear_5 : decode cX0_commonForbear 5 = .ok (.iload 4, 2) := by decide +kernel
theorem dG0_commonForbear_7 : decode cX0_commonForbear 7 = .ok (.aload_n 0, 1) := by decide +kernel
theorem dG0_commonForbear_8 : decode cX0_commonForbear 8 = .ok (.getfield 51, 3) := by decide +kernel
theorem dG0_commonForbear_11 : decode cX0_commonForbear 11 = .ok (.if_icmp .ge 36, 3) := by decide +kernel
theorem dG0_commonForbear_14 : decode cX0_commonForbear 14 = .ok (.aload_n 0, 1) := by decide +kernel
theorem dG0_commonForbear_15 : decode cX0_commonForbear 15 = .ok (.iload_n 3, 1) := by decide +kernel
theorem dG0_commonForbear_16 : decode cX0_commonForbear 16 = .ok (.invokevirtual 75, 3) := by decide +kernel
theorem dG0_commonForbear_19 : decode cX0_commonForbear 19 = .ok (.ifCond .eq 28, 3) := by decide +kernel
theorem dG0_commonForbear_22 : decode cX0_commonForbear 22 = .ok (.aload_n 0, 1) := by decide +kernel
theorem dG0_commonForbear_23 : decode cX0_commonForbear 23 = .ok (.iload_n 2, 1) := by decide +kernel
theorem dG0_commonForbear_24 : decode cX0_commonForbear 24 = .ok (.iload_n 3, 1) := by decide +kernel
theorem dG0_commonForbear_25 : decode cX0_commonForbear 25 = .ok (.invokevirtual 96, 3) := by decide +kernel
theorem dG0_commonForbear_28 : decode cX0_commonForbear 28 = .ok (.iconst (-1), 1) := by decide +kernel
theorem dG0_commonForbear_29 : decode cX0_commonForbear 29 = .ok (.if_icmp .eq 5, 3) := by decide +kernel
theorem dG0_commonForbear_32 : decode cX0_commonForbear 32 = .ok (.iload_n 3, 1) := by decide +kernel
theorem dG0_commonForbear_33 : decode cX0_commonForbear 33 = .ok (.ireturn, 1) := by decide +kernel
theorem dG0_commonForbear_34 : decode cX0_commonForbear 34 = .ok (.aload_n 0, 1) := by decide +kernel
theorem dG0_commonForbear_35 : decode cX0_commonForbear 35 = .ok (.getfield 15, 3) := by decide +kernel
theorem dG0_commonForbear_38 : decode cX0_commonForbear 38 = .ok (.iload_n 3, 1) := by decide +kernel
theorem dG0_commonForbear_39 : decode cX0_commonForbear 39 = .ok (.iaload, 1) := by decide +kernel
theorem dG0_commonForbear_40 : decode cX0_commonForbear 40 = .ok (.istore_n 3, 1) := by decide +kernel
theorem dG0_commonForbear_41 : decode cX0_commonForbear 41 = .ok (.iinc 4 1, 3) := by decide +kernel
theorem dG0_commonForbear_44 : decode cX0_commonForbear 44 = .ok (.goto (-39), 3) := by decide +kernel
theorem dG0_commonForbear_47 : decode cX0_commonForbear 47 = .ok (.iconst (-1), 1) := by decide +kernel
theorem dG0_commonForbear_48 : decode cX0_commonForbear 48 = .ok (.ireturn, 1) := by decide +kernel
def is_G0_commonForbear : Nat → List Nat := fun d => if d = 5 then [0, 2, 3, 4] else []
set_option maxRecDepth 100000 in
def b_G0_commonForbear_47 (J : Nat → List qV → List qV → qW → Prop) (Q : qR) : qK := x_int (-1) (x_iret Q)
set_option maxRecDepth 100000 in
theorem s_G0_commonForbear_47 {p : Program} {l : Launch} {e : Env} {R : Room} {s : State} {m : MethodId} {args : Array Value} {below : List Frame} {meth : Method} {c : Code} {nW : Nat} {dC : Nat → ClassId} {dI : Nat → Nat → Nat} {k : Nat → ClassId} {g : Nat → Nat} {A : Nat → Prop} {J : Nat → List qV → List qV → qW → Prop} {Q : qR} (X : q_X p R s m args meth c cX0_commonForbear 5 nW 2 45 RX0 (some .int) dC dI k g A) (hJ : ∀ d : Nat, q_Sd p l e R s m args below meth c 5 nW dC dI k g A (MQ below (q_post (dC, dI) k g nW Q A) args s 0 0 A) d (x_cut (is_G0_commonForbear d) (J d))) : q_Sd p l e R s m args below meth c 5 nW dC dI k g A (MQ below (q_post (dC, dI) k g nW Q A) args s 0 0 A) 47 (b_G0_commonForbear_47 J Q) := by
  unfold b_G0_commonForbear_47
  refine s_iconst X ⟨by decide, by decide⟩ dG0_commonForbear_47 ?_
  exact s_iret X dG0_commonForbear_48
set_option maxRecDepth 100000 in
def b_G0_commonForbear_5 (J : Nat → List qV → List qV → qW → Prop) (Q : qR) : qK := x_iload 4 (x_aload 0 (x_get 0 7 (x_icmp_ge (b_G0_commonForbear_47 J Q) (x_aload 0 (x_iload 3 (x_callr (some 0) 2 spr_X0_has (x_if_eq (b_G0_commonForbear_47 J Q) (x_aload 0 (x_iload 2 (x_iload 3 (x_callr (some 0) 3 spr_G0_stepsUp (x_int (-1) (x_icmp_eq (x_aload 0 (x_get 0 1 (x_iload 3 (x_iald (x_istore 3 (x_iinc 4 1 (x_cut [0, 2, 3, 4] (J 5)))))))) (x_iload 3 (x_iret Q)))))))))))))))
set_option maxRecDepth 100000 in
theorem s_G0_commonForbear_5 {p : Program} {l : Launch} {e : Env} {R : Room} {s : State} {m : MethodId} {args : Array Value} {below : List Frame} {meth : Method} {c : Code} {nW : Nat} {dC : Nat → ClassId} {dI : Nat → Nat → Nat} {k : Nat → ClassId} {g : Nat → Nat} {A : Nat → Prop} {J : Nat → List qV → List qV → qW → Prop} {Q : qR} (X : q_X p R s m args meth c cX0_commonForbear 5 nW 2 45 RX0 (some .int) dC dI k g A) (hJ : ∀ d : Nat, q_Sd p l e R s m args below meth c 5 nW dC dI k g A (MQ below (q_post (dC, dI) k g nW Q A) args s 0 0 A) d (x_cut (is_G0_commonForbear d) (J d))) : q_Sd p l e R s m args below meth c 5 nW dC dI k g A (MQ below (q_post (dC, dI) k g nW Q A) args s 0 0 A) 5 (b_G0_commonForbear_5 J Q) := by
  unfold b_G0_commonForbear_5
  refine s_iload X dG0_commonForbear_5 ?_
  refine s_aload_n X rfl dG0_commonForbear_7 ?_
  refine s_get X (T := TX0) (C := RX0) (N := 12) tu_X0 rfl (by decide) tw_193 dG0_commonForbear_8 ?_
  refine s_icmp_ge X (tgt := 47) dG0_commonForbear_11 (by decide) ?_ ?_
  · exact s_G0_commonForbear_47 X hJ
  · refine s_aload_n X rfl dG0_commonForbear_14 ?_
    refine s_iload_n X rfl dG0_commonForbear_15 ?_
    refine s_callVr X (m_X0_has l) tw_398 tw_399 tw_400 tw_122 tw_401 rfl (by decide +kernel) ⟨by decide, by decide⟩ dG0_commonForbear_16 ?_
    refine s_if_eq X (tgt := 47) dG0_commonForbear_19 (by decide) ?_ ?_
    · exact s_G0_commonForbear_47 X hJ
    · refine s_aload_n X rfl dG0_commonForbear_22 ?_
      refine s_iload_n X rfl dG0_commonForbear_23 ?_
      refine s_iload_n X rfl dG0_commonForbear_24 ?_
      refine s_callVr X (m_G0_stepsUp l) tw_756 tw_757 tw_1487 tw_122 tw_758 rfl (by decide +kernel) ⟨by decide, by decide⟩ dG0_commonForbear_25 ?_
      refine s_iconst X ⟨by decide, by decide⟩ dG0_commonForbear_28 ?_
      refine s_icmp_eq X (tgt := 34) dG0_commonForbear_29 (by decide) ?_ ?_
      · refine s_aload_n X rfl dG0_commonForbear_34 ?_
        refine s_get X (T := TX0) (C := RX0) (N := 12) tu_X0 rfl (by decide) tw_172 dG0_commonForbear_35 ?_
        refine s_iload_n X rfl dG0_commonForbear_38 ?_
        refine s_iald X dG0_commonForbear_39 ?_
        refine s_istore_n X rfl (by decide) dG0_commonForbear_40 ?_
        refine s_iinc X (by decide) dG0_commonForbear_41 ?_
        refine s_goto X (tgt := 5) dG0_commonForbear_44 (by decide) ?_
        exact hJ 5
      · refine s_iload_n X rfl dG0_commonForbear_32 ?_
        exact s_iret X dG0_commonForbear_33
set_option maxRecDepth 100000 in
def b_G0_commonForbear_0 (J : Nat → List qV → List qV → qW → Prop) (Q : qR) : qK := x_iload 1 (x_istore 3 (x_int 0 (x_istore 4 (x_cut [0, 2, 3, 4] (J 5)))))
set_option maxRecDepth 100000 in
theorem s_G0_commonForbear_0 {p : Program} {l : Launch} {e : Env} {R : Room} {s : State} {m : MethodId} {args : Array Value} {below : List Frame} {meth : Method} {c : Code} {nW : Nat} {dC : Nat → ClassId} {dI : Nat → Nat → Nat} {k : Nat → ClassId} {g : Nat → Nat} {A : Nat → Prop} {J : Nat → List qV → List qV → qW → Prop} {Q : qR} (X : q_X p R s m args meth c cX0_commonForbear 5 nW 2 45 RX0 (some .int) dC dI k g A) (hJ : ∀ d : Nat, q_Sd p l e R s m args below meth c 5 nW dC dI k g A (MQ below (q_post (dC, dI) k g nW Q A) args s 0 0 A) d (x_cut (is_G0_commonForbear d) (J d))) : q_Sd p l e R s m args below meth c 5 nW dC dI k g A (MQ below (q_post (dC, dI) k g nW Q A) args s 0 0 A) 0 (b_G0_commonForbear_0 J Q) := by
  unfold b_G0_commonForbear_0
  refine s_iload_n X rfl dG0_commonForbear_0 ?_
  refine s_istore_n X rfl (by decide) dG0_commonForbear_1 ?_
  refine s_iconst X ⟨by decide, by decide⟩ dG0_commonForbear_2 ?_
  refine s_istore X (by decide) dG0_commonForbear_3 ?_
  exact hJ 5

def spr_G0_commonForbear : List qV → qW → (Option qV → Prop) → Prop := fun av w Q => ∃ (f1 : Nat → Int) (f2 : Nat → Int) (f3 : Nat → Int) (f4 : Nat → Int) (f5 : Nat → Int) (f6 : Nat → Int) (f7 : Nat → Int) (u0 : Int) (u1 : Int) (u2 : Int) (u3 : Int) (u4 : Int) (a : Int) (b : Int), av = [q2 0, q1 a, q1 b] ∧ w = wB f1 f2 f3 f4 f5 f6 f7 u0 u1 u2 u3 u4 ∧ (0 ≤ u0 ∧ u0 ≤ 8) ∧ (∀ (r : Int) , CfC f2 u0 a b r → Q (some (q1 r)))
def sp_G0_commonForbear : qS := fun av w Q => spr_G0_commonForbear av w (fun r => Q r w)
def I_G0_commonForbear (f1 : Nat → Int) (f2 : Nat → Int) (f3 : Nat → Int) (f4 : Nat → Int) (f5 : Nat → Int) (f6 : Nat → Int) (f7 : Nat → Int) (u0 : Int) (u1 : Int) (u2 : Int) (u3 : Int) (u4 : Int) (a : Int) (b : Int) : Nat → Nat → List qV → List qV → qW → Prop := fun dz mz vz sz wz => if dz = 5 then (∃ (v3 : Int) (v4 : Int), vz = [q2 0, q1 b, q1 v3, q1 v4] ∧ sz = [] ∧ wz = wB f1 f2 f3 f4 f5 f6 f7 u0 u1 u2 u3 u4 ∧ mz = (u0 - v4).toNat ∧ (0 ≤ v4 ∧ v4 ≤ u0) ∧ (CfW f2 u0 a b v4 v3)) else False
set_option maxHeartbeats 4000000 in
set_option maxRecDepth 100000 in
theorem m_G0_commonForbear (l : Launch) : q_M l yX0_commonForbear cX0_commonForbear 5 (some .int) 2 45 sp_G0_commonForbear := by
  refine q_meth (by decide) (fun av w Q h => by obtain ⟨f1, f2, f3, f4, f5, f6, f7, u0, u1, u2, u3, u4, a, b, rfl, rfl, hu0, hQ⟩ := h; exact Nat.le_of_ble_eq_true rfl) ?_
  intro p e R s m args below meth c dC dI k g A av w Q hsp oka okw X
  obtain ⟨f1, f2, f3, f4, f5, f6, f7, u0, u1, u2, u3, u4, a, b, rfl, rfl, hu0, hQ⟩ := hsp
  have o_a : -2147483648 ≤ a ∧ a ≤ 2147483647 := oka _ (List.mem_of_getElem? (i := 1) rfl)
  have o_b : -2147483648 ≤ b ∧ b ≤ 2147483647 := oka _ (List.mem_of_getElem? (i := 2) rfl)
  refine s_mono (s_G0_commonForbear_0 X (J := fun dz vz sz wz => ∃ mz, I_G0_commonForbear f1 f2 f3 f4 f5 f6 f7 u0 u1 u2 u3 u4 a b dz mz vz sz wz) (q_loopn (I_G0_commonForbear f1 f2 f3 f4 f5 f6 f7 u0 u1 u2 u3 u4 a b) (fun dz J => if dz = 5 then b_G0_commonForbear_5 J Q else q_F) ?hs ?hv)) ?_
  case hs =>
    intro d J hJ
    by_cases h5 : d = 5
    · subst h5; exact s_G0_commonForbear_5 X hJ
    simp only [h5, if_false]
    exact s_F
  case hv =>
    intro dz mz vz sz wz hI okv oks okw hlen
    by_cases h5 : dz = 5
    · subst h5
      obtain ⟨v3, v4, rfl, rfl, rfl, hn, hp, hs9⟩ := hI
      apply And.intro
      · intro h11
        exact hQ _ (by first | exact CfC_n hs9 (by omega) | exact CfC_y hs9 (by omega) h25 (by omega))
      · intro h11
        refine Exists.intro [0, 1, 2, 3, 4, 5, 6, 7] (Exists.intro [q2 0, q1 _] (Exists.intro (wB _ _ _ _ _ _ _ _ _ _ _ _) (And.intro rfl (And.intro rfl (And.intro rfl (And.intro ⟨⟨_, rfl⟩, rfl⟩ ?_))))))
        refine Exists.intro _ (Exists.intro _ (Exists.intro _ (Exists.intro _ (Exists.intro _ (Exists.intro _ (Exists.intro _ (Exists.intro _ (Exists.intro _ (Exists.intro _ (Exists.intro _ (Exists.intro _ (Exists.intro _ (And.intro rfl (And.intro rfl (?_)))))))))))))))
        intro z16 h16
        apply And.intro
        · intro h19
          exact hQ _ (by first | exact CfC_n hs9 (by omega) | exact CfC_y hs9 (by omega) h25 (by omega))
        · intro h19
          refine Exists.intro [0, 1, 2, 3, 4, 5, 6, 7] (Exists.intro [q2 0, q1 _, q1 _] (Exists.intro (wB _ _ _ _ _ _ _ _ _ _ _ _) (And.intro rfl (And.intro rfl (And.intro rfl (And.intro ⟨⟨_, rfl⟩, rfl⟩ ?_))))))
          refine Exists.intro _ (Exists.intro _ (Exists.intro _ (Exists.intro _ (Exists.intro _ (Exists.intro _ (Exists.intro _ (Exists.intro _ (Exists.intro _ (Exists.intro _ (Exists.intro _ (Exists.intro _ (Exists.intro _ (Exists.intro _ (And.intro rfl (And.intro rfl (And.intro (by first | omega | assumption | exact q_rg_up (by assumption) (by omega) | exact q_rg_up (q_rg_up (by assumption) (by omega)) (by omega) | exact q_rg_cpy (by assumption) (by assumption)) (?_)))))))))))))))))
          intro z25 h25
          apply And.intro
          · intro h29
            apply And.intro
            · exact ⟨by omega, by omega⟩
            intro z39 h39
            intro z41 h41
            first | replace h41 := e_add h41 (by omega) | replace h41 := e_rng h41
            exact ⟨_, ⟨_, _, rfl, rfl, rfl, rfl, (by first | omega | assumption | exact q_rg_up (by assumption) (by omega) | exact q_rg_up (q_rg_up (by assumption) (by omega)) (by omega) | exact q_rg_cpy (by assumption) (by assumption)), (by first | exact CfW_0 | exact CfW_s hs9 (by omega) h25 (by omega) h39 (by omega))⟩, by omega⟩
          · intro h29
            exact hQ _ (by first | exact CfC_n hs9 (by omega) | exact CfC_y hs9 (by omega) h25 (by omega))
    simp only [I_G0_commonForbear, h5, if_false] at hI
  rintro lv st w' ⟨rfl, rfl, rfl⟩
  exact ⟨_, _, _, rfl, rfl, rfl, rfl, (by first | omega | assumption | exact q_rg_up (by assumption) (by omega) | exact q_rg_up (q_rg_up (by assumption) (by omega)) (by omega) | exact q_rg_cpy (by assumption) (by assumption)), (by first | exact CfW_0 | exact CfW_s hs9 (by omega) h25 (by omega) h39 (by omega))⟩

theorem dGX11_elder_0 : decode cX11_elder 0 = .ok (.aload_n 0, 1) := by decide +kernel
theorem dGX11_elder_1 : decode cX11_elder 1 = .ok (.getfield 10, 3) := by decide +kernel
theorem dGX11_elder_4 : decode cX11_elder 4 = .ok (.iload_n 1, 1) := by decide +kernel
theorem dGX11_elder_5 : decode cX11_elder 5 = .ok (.invokevirtual 94, 3) := by decide +kernel
theorem dGX11_elder_8 : decode cX11_elder 8 = .ok (.astore 4, 2) := by decide +kernel
theorem dGX11_elder_10 : decode cX11_elder 10 = .ok (.aload 4, 2) := by decide +kernel
theorem dGX11_elder_12 : decode cX11_elder 12 = .ok (.ifnull 21, 3) := by decide +kernel
theorem dGX11_elder_15 : decode cX11_elder 15 = .ok (.aload 4, 2) := by decide +kernel
theorem dGX11_elder_17 : decode cX11_elder 17 = .ok (.iload_n 2, 1) := by decide +kernel
theorem dGX11_elder_18 : decode cX11_elder 18 = .ok (.invokevirtual 173, 3) := by decide +kernel
theorem dGX11_elder_21 : decode cX11_elder 21 = .ok (.ifCond .eq 12, 3) := by decide +kernel
theorem dGX11_elder_24 : decode cX11_elder 24 = .ok (.aload 4, 2) := by decide +kernel
theorem dGX11_elder_26 : decode cX11_elder 26 = .ok (.iload_n 3, 1) := by decide +kernel
theorem dGX11_elder_27 : decode cX11_elder 27 = .ok (.invokevirtual 173, 3) := by decide +kernel
theorem dGX11_elder_30 : decode cX11_elder 30 = .ok (.ifCond .ne 5, 3) := by decide +kernel
theorem dGX11_elder_33 : decode cX11_elder 33 = .ok (.iconst (-1), 1) := by decide +kernel
theorem dGX11_elder_34 : decode cX11_elder 34 = .ok (.ireturn, 1) := by decide +kernel
theorem dGX11_elder_35 : decode cX11_elder 35 = .ok (.aload 4, 2) := by decide +kernel
theorem dGX11_elder_37 : decode cX11_elder 37 = .ok (.iload_n 2, 1) := by decide +kernel
theorem dGX11_elder_38 : decode cX11_elder 38 = .ok (.iload_n 3, 1) := by decide +kernel
theorem dGX11_elder_39 : decode cX11_elder 39 = .ok (.invokevirtual 181, 3) := by decide +kernel
theorem dGX11_elder_42 : decode cX11_elder 42 = .ok (.ireturn, 1) := by decide +kernel
def is_GX11_elder : Nat → List Nat := fun d => []
set_option maxRecDepth 100000 in
def b_GX11_elder_33 (J : Nat → List qV → List qV → qW → Prop) (Q : qR) : qK := x_int (-1) (x_iret Q)
set_option maxRecDepth 100000 in
theorem s_GX11_elder_33 {p : Program} {l : Launch} {e : Env} {R : Room} {s : State} {m : MethodId} {args : Array Value} {below : List Frame} {meth : Method} {c : Code} {nW : Nat} {dC : Nat → ClassId} {dI : Nat → Nat → Nat} {k : Nat → ClassId} {g : Nat → Nat} {A : Nat → Prop} {J : Nat → List qV → List qV → qW → Prop} {Q : qR} (X : q_X p R s m args meth c cX11_elder 5 nW 3 69 RX11 (some .int) dC dI k g A) (hJ : ∀ d : Nat, q_Sd p l e R s m args below meth c 5 nW dC dI k g A (MQ below (q_post (dC, dI) k g nW Q A) args s 0 0 A) d (x_cut (is_GX11_elder d) (J d))) : q_Sd p l e R s m args below meth c 5 nW dC dI k g A (MQ below (q_post (dC, dI) k g nW Q A) args s 0 0 A) 33 (b_GX11_elder_33 J Q) := by
  unfold b_GX11_elder_33
  refine s_iconst X ⟨by decide, by decide⟩ dGX11_elder_33 ?_
  exact s_iret X dGX11_elder_34
set_option maxRecDepth 100000 in
def b_GX11_elder_0 (J : Nat → List qV → List qV → qW → Prop) (Q : qR) : qK := x_aload 0 (x_get 11 0 (x_iload 1 (x_callr (some 8) 2 spr_G8_boroughAt (x_astore 4 (x_aload 4 (x_ifnull (b_GX11_elder_33 J Q) (x_aload 4 (x_iload 2 (x_callr (some 0) 2 spr_X0_has (x_if_eq (b_GX11_elder_33 J Q) (x_aload 4 (x_iload 3 (x_callr (some 0) 2 spr_X0_has (x_if_ne (x_aload 4 (x_iload 2 (x_iload 3 (x_callr (some 0) 3 spr_G0_commonForbear (x_iret Q))))) (b_GX11_elder_33 J Q)))))))))))))))
set_option maxRecDepth 100000 in
theorem s_GX11_elder_0 {p : Program} {l : Launch} {e : Env} {R : Room} {s : State} {m : MethodId} {args : Array Value} {below : List Frame} {meth : Method} {c : Code} {nW : Nat} {dC : Nat → ClassId} {dI : Nat → Nat → Nat} {k : Nat → ClassId} {g : Nat → Nat} {A : Nat → Prop} {J : Nat → List qV → List qV → qW → Prop} {Q : qR} (X : q_X p R s m args meth c cX11_elder 5 nW 3 69 RX11 (some .int) dC dI k g A) (hJ : ∀ d : Nat, q_Sd p l e R s m args below meth c 5 nW dC dI k g A (MQ below (q_post (dC, dI) k g nW Q A) args s 0 0 A) d (x_cut (is_GX11_elder d) (J d))) : q_Sd p l e R s m args below meth c 5 nW dC dI k g A (MQ below (q_post (dC, dI) k g nW Q A) args s 0 0 A) 0 (b_GX11_elder_0 J Q) := by
  unfold b_GX11_elder_0
  refine s_aload_n X rfl dGX11_elder_0 ?_
  refine s_get X (T := TX11) (C := RX11) (N := 8) tu_X11 rfl (by decide) tw_326 dGX11_elder_1 ?_
  refine s_iload_n X rfl dGX11_elder_4 ?_
  refine s_callVr X (m_G8_boroughAt l) tw_541 tw_542 tw_543 tw_121 tw_544 rfl (by decide +kernel) ⟨by decide, by decide⟩ dGX11_elder_5 ?_
  refine s_astore X (by decide) dGX11_elder_8 ?_
  refine s_aload X dGX11_elder_10 ?_
  refine s_ifnull X (tgt := 33) dGX11_elder_12 (by decide) ?_ ?_
  · exact s_GX11_elder_33 X hJ
  · refine s_aload X dGX11_elder_15 ?_
    refine s_iload_n X rfl dGX11_elder_17 ?_
    refine s_callVr X (m_X0_has l) tw_742 tw_399 tw_400 tw_122 tw_401 rfl (by decide +kernel) ⟨by decide, by decide⟩ dGX11_elder_18 ?_
    refine s_if_eq X (tgt := 33) dGX11_elder_21 (by decide) ?_ ?_
    · exact s_GX11_elder_33 X hJ
    · refine s_aload X dGX11_elder_24 ?_
      refine s_iload_n X rfl dGX11_elder_26 ?_
      refine s_callVr X (m_X0_has l) tw_742 tw_399 tw_400 tw_122 tw_401 rfl (by decide +kernel) ⟨by decide, by decide⟩ dGX11_elder_27 ?_
      refine s_if_ne X (tgt := 35) dGX11_elder_30 (by decide) ?_ ?_
      · refine s_aload X dGX11_elder_35 ?_
        refine s_iload_n X rfl dGX11_elder_37 ?_
        refine s_iload_n X rfl dGX11_elder_38 ?_
        refine s_callVr X (m_G0_commonForbear l) tw_752 tw_753 tw_754 tw_122 tw_755 rfl (by decide +kernel) ⟨by decide, by decide⟩ dGX11_elder_39 ?_
        exact s_iret X dGX11_elder_42
      · exact s_GX11_elder_33 X hJ

def spr_GX11_elder : List qV → qW → (Option qV → Prop) → Prop := fun av w Q => ∃ (tp : Nat → Int) (ct : Nat → Int) (ln : Int) (fa : Int) (pl : Int) (b0f1 : Nat → Int) (b0f2 : Nat → Int) (b0f3 : Nat → Int) (b0f4 : Nat → Int) (b0f5 : Nat → Int) (b0f6 : Nat → Int) (b0f7 : Nat → Int) (b0u0 : Int) (b0u1 : Int) (b0u2 : Int) (b0u3 : Int) (b0u4 : Int) (b1f1 : Nat → Int) (b1f2 : Nat → Int) (b1f3 : Nat → Int) (b1f4 : Nat → Int) (b1f5 : Nat → Int) (b1f6 : Nat → Int) (b1f7 : Nat → Int) (b1u0 : Int) (b1u1 : Int) (b1u2 : Int) (b1u3 : Int) (b1u4 : Int) (a : Int) (b : Int) (cc : Int), av = [q2 0, q1 a, q1 b, q1 cc] ∧ w = [.inr (11, [q2 1, q2 21, q2 22, q2 23, q2 24, q2 25, q2 26, q2 27]), .inr (8, [q2 2, q2 3, q2 4, q2 28, q2 29, q2 30, q1 ln, q1 fa, q1 pl]), .inl (1, 600, .inl tp), .inl (0, 4, .inl ct), .inl (4, 2, .inr (.inr [some 5, some 13])), .inr (0, [q2 6, q2 7, q2 8, q2 9, q2 10, q2 11, q2 12, q1 b0u0, q1 b0u1, q1 b0u2, q1 b0u3, q1 b0u4]), .inl (0, 8, .inl b0f1), .inl (0, 8, .inl b0f2), .inl (0, 4, .inl b0f3), .inl (0, 32, .inl b0f4), .inl (0, 6, .inl b0f5), .inl (0, 6, .inl b0f6), .inl (0, 6, .inl b0f7), .inr (0, [q2 14, q2 15, q2 16, q2 17, q2 18, q2 19, q2 20, q1 b1u0, q1 b1u1, q1 b1u2, q1 b1u3, q1 b1u4]), .inl (0, 8, .inl b1f1), .inl (0, 8, .inl b1f2), .inl (0, 4, .inl b1f3), .inl (0, 32, .inl b1f4), .inl (0, 6, .inl b1f5), .inl (0, 6, .inl b1f6), .inl (0, 6, .inl b1f7)] ∧ (q_rg 0 2 ct) ∧ (0 ≤ ln ∧ ln ≤ 600) ∧ (0 ≤ b0u0 ∧ b0u0 ≤ 8 ∧ 0 ≤ b0u3 ∧ b0u3 ≤ 6 ∧ 0 ≤ b0u4 ∧ b0u4 ≤ 6) ∧ (q_rg 0 9 b0f3) ∧ (0 ≤ b1u0 ∧ b1u0 ≤ 8 ∧ 0 ≤ b1u3 ∧ b1u3 ≤ 6 ∧ 0 ≤ b1u4 ∧ b1u4 ≤ 6) ∧ (q_rg 0 9 b1f3) ∧ (∀ (r : Int) , ((((0 ≤ a ∧ a < ct (0 : Int).toNat) ∧ (a = 0 ∧ ElX b0f2 b0u0 b cc r ∨ a = 1 ∧ ElX b1f2 b1u0 b cc r) ∨ ¬ (0 ≤ a ∧ a < ct (0 : Int).toNat) ∧ r = -1))) → Q (some (q1 r)))
def sp_GX11_elder : qS := fun av w Q => spr_GX11_elder av w (fun r => Q r w)
set_option maxHeartbeats 4000000 in
set_option maxRecDepth 100000 in
theorem m_GX11_elder (l : Launch) : q_M l yX11_elder cX11_elder 5 (some .int) 3 69 sp_GX11_elder := by
  refine q_meth (by decide) (fun av w Q h => by obtain ⟨tp, ct, ln, fa, pl, b0f1, b0f2, b0f3, b0f4, b0f5, b0f6, b0f7, b0u0, b0u1, b0u2, b0u3, b0u4, b1f1, b1f2, b1f3, b1f4, b1f5, b1f6, b1f7, b1u0, b1u1, b1u2, b1u3, b1u4, a, b, cc, rfl, rfl, hct, hln, hb0, hf0, hb1, hf1, hQ⟩ := h; exact Nat.le_of_ble_eq_true rfl) ?_
  intro p e R s m args below meth c dC dI k g A av w Q hsp oka okw X
  obtain ⟨tp, ct, ln, fa, pl, b0f1, b0f2, b0f3, b0f4, b0f5, b0f6, b0f7, b0u0, b0u1, b0u2, b0u3, b0u4, b1f1, b1f2, b1f3, b1f4, b1f5, b1f6, b1f7, b1u0, b1u1, b1u2, b1u3, b1u4, a, b, cc, rfl, rfl, hct, hln, hb0, hf0, hb1, hf1, hQ⟩ := hsp
  have o_a : -2147483648 ≤ a ∧ a ≤ 2147483647 := oka _ (List.mem_of_getElem? (i := 1) rfl)
  have o_b : -2147483648 ≤ b ∧ b ≤ 2147483647 := oka _ (List.mem_of_getElem? (i := 2) rfl)
  have o_cc : -2147483648 ≤ cc ∧ cc ≤ 2147483647 := oka _ (List.mem_of_getElem? (i := 3) rfl)
  refine s_mono (s_GX11_elder_0 X (J := fun _ _ _ _ => False) (fun d => s_cutF)) ?_
  rintro lv st w' ⟨rfl, rfl, rfl⟩
  refine Exists.intro [1, 2, 3, 4, 28, 29, 30, 5, 13] (Exists.intro [q2 0, q1 _] (Exists.intro ((wT4_0 _ _ _ _ _)) (And.intro rfl (And.intro rfl (And.intro rfl (And.intro ⟨⟨_, rfl⟩, rfl⟩ ?_))))))
  refine Exists.intro _ (Exists.intro _ (Exists.intro _ (Exists.intro _ (Exists.intro _ (Exists.intro _ (And.intro rfl (And.intro rfl (?_))))))))
  intro z5 h5
  rcases h5 with ⟨rfl, c5⟩ | ⟨rfl, rfl, c5⟩ | ⟨rfl, rfl, c5⟩
  · exact hQ _ (by first | exact Or.inr ⟨(by have q9 := hct (0 : Int).toNat; omega), rfl⟩ | exact Or.inl ⟨⟨by omega, by omega⟩, Or.inl ⟨rfl, (by first | exact Or.inl ⟨⟨⟨by omega, by omega, by omega⟩, by omega, by omega, by omega⟩, h39⟩ | exact Or.inr ⟨fun q9 => (by obtain ⟨⟨q1, q2, q3⟩, q4, q5, q6⟩ := q9; omega), rfl⟩)⟩⟩ | exact Or.inl ⟨⟨by omega, by omega⟩, Or.inr ⟨rfl, (by first | exact Or.inl ⟨⟨⟨by omega, by omega, by omega⟩, by omega, by omega, by omega⟩, h39⟩ | exact Or.inr ⟨fun q9 => (by obtain ⟨⟨q1, q2, q3⟩, q4, q5, q6⟩ := q9; omega), rfl⟩)⟩⟩)
  · refine Exists.intro [5, 6, 7, 8, 9, 10, 11, 12] (Exists.intro [q2 0, q1 _] (Exists.intro (wB _ _ _ _ _ _ _ _ _ _ _ _) (And.intro rfl (And.intro rfl (And.intro rfl (And.intro ⟨⟨_, rfl⟩, rfl⟩ ?_))))))
    refine Exists.intro _ (Exists.intro _ (Exists.intro _ (Exists.intro _ (Exists.intro _ (Exists.intro _ (Exists.intro _ (Exists.intro _ (Exists.intro _ (Exists.intro _ (Exists.intro _ (Exists.intro _ (Exists.intro _ (And.intro rfl (And.intro rfl (?_)))))))))))))))
    intro z18 h18
    apply And.intro
    · intro h21
      exact hQ _ (by first | exact Or.inr ⟨(by have q9 := hct (0 : Int).toNat; omega), rfl⟩ | exact Or.inl ⟨⟨by omega, by omega⟩, Or.inl ⟨rfl, (by first | exact Or.inl ⟨⟨⟨by omega, by omega, by omega⟩, by omega, by omega, by omega⟩, h39⟩ | exact Or.inr ⟨fun q9 => (by obtain ⟨⟨q1, q2, q3⟩, q4, q5, q6⟩ := q9; omega), rfl⟩)⟩⟩ | exact Or.inl ⟨⟨by omega, by omega⟩, Or.inr ⟨rfl, (by first | exact Or.inl ⟨⟨⟨by omega, by omega, by omega⟩, by omega, by omega, by omega⟩, h39⟩ | exact Or.inr ⟨fun q9 => (by obtain ⟨⟨q1, q2, q3⟩, q4, q5, q6⟩ := q9; omega), rfl⟩)⟩⟩)
    · intro h21
      refine Exists.intro [5, 6, 7, 8, 9, 10, 11, 12] (Exists.intro [q2 0, q1 _] (Exists.intro (wB _ _ _ _ _ _ _ _ _ _ _ _) (And.intro rfl (And.intro rfl (And.intro rfl (And.intro ⟨⟨_, rfl⟩, rfl⟩ ?_))))))
      refine Exists.intro _ (Exists.intro _ (Exists.intro _ (Exists.intro _ (Exists.intro _ (Exists.intro _ (Exists.intro _ (Exists.intro _ (Exists.intro _ (Exists.intro _ (Exists.intro _ (Exists.intro _ (Exists.intro _ (And.intro rfl (And.intro rfl (?_)))))))))))))))
      intro z27 h27
      apply And.intro
      · intro h30
        refine Exists.intro [5, 6, 7, 8, 9, 10, 11, 12] (Exists.intro [q2 0, q1 _, q1 _] (Exists.intro (wB _ _ _ _ _ _ _ _ _ _ _ _) (And.intro rfl (And.intro rfl (And.intro rfl (And.intro ⟨⟨_, rfl⟩, rfl⟩ ?_))))))
        refine Exists.intro _ (Exists.intro _ (Exists.intro _ (Exists.intro _ (Exists.intro _ (Exists.intro _ (Exists.intro _ (Exists.intro _ (Exists.intro _ (Exists.intro _ (Exists.intro _ (Exists.intro _ (Exists.intro _ (Exists.intro _ (And.intro rfl (And.intro rfl (And.intro (by first | omega | assumption | exact q_rg_up (by assumption) (by omega) | exact q_rg_up (q_rg_up (by assumption) (by omega)) (by omega) | exact q_rg_cpy (by assumption) (by assumption)) (?_)))))))))))))))))
        intro z39 h39
        exact hQ _ (by first | exact Or.inr ⟨(by have q9 := hct (0 : Int).toNat; omega), rfl⟩ | exact Or.inl ⟨⟨by omega, by omega⟩, Or.inl ⟨rfl, (by first | exact Or.inl ⟨⟨⟨by omega, by omega, by omega⟩, by omega, by omega, by omega⟩, h39⟩ | exact Or.inr ⟨fun q9 => (by obtain ⟨⟨q1, q2, q3⟩, q4, q5, q6⟩ := q9; omega), rfl⟩)⟩⟩ | exact Or.inl ⟨⟨by omega, by omega⟩, Or.inr ⟨rfl, (by first | exact Or.inl ⟨⟨⟨by omega, by omega, by omega⟩, by omega, by omega, by omega⟩, h39⟩ | exact Or.inr ⟨fun q9 => (by obtain ⟨⟨q1, q2, q3⟩, q4, q5, q6⟩ := q9; omega), rfl⟩)⟩⟩)
      · intro h30
        exact hQ _ (by first | exact Or.inr ⟨(by have q9 := hct (0 : Int).toNat; omega), rfl⟩ | exact Or.inl ⟨⟨by omega, by omega⟩, Or.inl ⟨rfl, (by first | exact Or.inl ⟨⟨⟨by omega, by omega, by omega⟩, by omega, by omega, by omega⟩, h39⟩ | exact Or.inr ⟨fun q9 => (by obtain ⟨⟨q1, q2, q3⟩, q4, q5, q6⟩ := q9; omega), rfl⟩)⟩⟩ | exact Or.inl ⟨⟨by omega, by omega⟩, Or.inr ⟨rfl, (by first | exact Or.inl ⟨⟨⟨by omega, by omega, by omega⟩, by omega, by omega, by omega⟩, h39⟩ | exact Or.inr ⟨fun q9 => (by obtain ⟨⟨q1, q2, q3⟩, q4, q5, q6⟩ := q9; omega), rfl⟩)⟩⟩)
  · refine Exists.intro [13, 14, 15, 16, 17, 18, 19, 20] (Exists.intro [q2 0, q1 _] (Exists.intro (wB _ _ _ _ _ _ _ _ _ _ _ _) (And.intro rfl (And.intro rfl (And.intro rfl (And.intro ⟨⟨_, rfl⟩, rfl⟩ ?_))))))
    refine Exists.intro _ (Exists.intro _ (Exists.intro _ (Exists.intro _ (Exists.intro _ (Exists.intro _ (Exists.intro _ (Exists.intro _ (Exists.intro _ (Exists.intro _ (Exists.intro _ (Exists.intro _ (Exists.intro _ (And.intro rfl (And.intro rfl (?_)))))))))))))))
    intro z18 h18
    apply And.intro
    · intro h21
      exact hQ _ (by first | exact Or.inr ⟨(by have q9 := hct (0 : Int).toNat; omega), rfl⟩ | exact Or.inl ⟨⟨by omega, by omega⟩, Or.inl ⟨rfl, (by first | exact Or.inl ⟨⟨⟨by omega, by omega, by omega⟩, by omega, by omega, by omega⟩, h39⟩ | exact Or.inr ⟨fun q9 => (by obtain ⟨⟨q1, q2, q3⟩, q4, q5, q6⟩ := q9; omega), rfl⟩)⟩⟩ | exact Or.inl ⟨⟨by omega, by omega⟩, Or.inr ⟨rfl, (by first | exact Or.inl ⟨⟨⟨by omega, by omega, by omega⟩, by omega, by omega, by omega⟩, h39⟩ | exact Or.inr ⟨fun q9 => (by obtain ⟨⟨q1, q2, q3⟩, q4, q5, q6⟩ := q9; omega), rfl⟩)⟩⟩)
    · intro h21
      refine Exists.intro [13, 14, 15, 16, 17, 18, 19, 20] (Exists.intro [q2 0, q1 _] (Exists.intro (wB _ _ _ _ _ _ _ _ _ _ _ _) (And.intro rfl (And.intro rfl (And.intro rfl (And.intro ⟨⟨_, rfl⟩, rfl⟩ ?_))))))
      refine Exists.intro _ (Exists.intro _ (Exists.intro _ (Exists.intro _ (Exists.intro _ (Exists.intro _ (Exists.intro _ (Exists.intro _ (Exists.intro _ (Exists.intro _ (Exists.intro _ (Exists.intro _ (Exists.intro _ (And.intro rfl (And.intro rfl (?_)))))))))))))))
      intro z27 h27
      apply And.intro
      · intro h30
        refine Exists.intro [13, 14, 15, 16, 17, 18, 19, 20] (Exists.intro [q2 0, q1 _, q1 _] (Exists.intro (wB _ _ _ _ _ _ _ _ _ _ _ _) (And.intro rfl (And.intro rfl (And.intro rfl (And.intro ⟨⟨_, rfl⟩, rfl⟩ ?_))))))
        refine Exists.intro _ (Exists.intro _ (Exists.intro _ (Exists.intro _ (Exists.intro _ (Exists.intro _ (Exists.intro _ (Exists.intro _ (Exists.intro _ (Exists.intro _ (Exists.intro _ (Exists.intro _ (Exists.intro _ (Exists.intro _ (And.intro rfl (And.intro rfl (And.intro (by first | omega | assumption | exact q_rg_up (by assumption) (by omega) | exact q_rg_up (q_rg_up (by assumption) (by omega)) (by omega) | exact q_rg_cpy (by assumption) (by assumption)) (?_)))))))))))))))))
        intro z39 h39
        exact hQ _ (by first | exact Or.inr ⟨(by have q9 := hct (0 : Int).toNat; omega), rfl⟩ | exact Or.inl ⟨⟨by omega, by omega⟩, Or.inl ⟨rfl, (by first | exact Or.inl ⟨⟨⟨by omega, by omega, by omega⟩, by omega, by omega, by omega⟩, h39⟩ | exact Or.inr ⟨fun q9 => (by obtain ⟨⟨q1, q2, q3⟩, q4, q5, q6⟩ := q9; omega), rfl⟩)⟩⟩ | exact Or.inl ⟨⟨by omega, by omega⟩, Or.inr ⟨rfl, (by first | exact Or.inl ⟨⟨⟨by omega, by omega, by omega⟩, by omega, by omega, by omega⟩, h39⟩ | exact Or.inr ⟨fun q9 => (by obtain ⟨⟨q1, q2, q3⟩, q4, q5, q6⟩ := q9; omega), rfl⟩)⟩⟩)
      · intro h30
        exact hQ _ (by first | exact Or.inr ⟨(by have q9 := hct (0 : Int).toNat; omega), rfl⟩ | exact Or.inl ⟨⟨by omega, by omega⟩, Or.inl ⟨rfl, (by first | exact Or.inl ⟨⟨⟨by omega, by omega, by omega⟩, by omega, by omega, by omega⟩, h39⟩ | exact Or.inr ⟨fun q9 => (by obtain ⟨⟨q1, q2, q3⟩, q4, q5, q6⟩ := q9; omega), rfl⟩)⟩⟩ | exact Or.inl ⟨⟨by omega, by omega⟩, Or.inr ⟨rfl, (by first | exact Or.inl ⟨⟨⟨by omega, by omega, by omega⟩, by omega, by omega, by omega⟩, h39⟩ | exact Or.inr ⟨fun q9 => (by obtain ⟨⟨q1, q2, q3⟩, q4, q5, q6⟩ := q9; omega), rfl⟩)⟩⟩)
