theorem dJ7_fill_53178_0 : decode cJ7_fill_53178 0 = .ok (.iconst 0, 1) := by decide +kernel
theorem dJ7_fill_53178_1 : decode cJ7_fill_53178 1 = .ok (.istore_n 2, 1) := by decide +kernel
theorem dJ7_fill_53178_2 : decode cJ7_fill_53178 2 = .ok (.aload_n 0, 1) := by decide +kernel
theorem dJ7_fill_53178_3 : decode cJ7_fill_53178 3 = .ok (.arraylength, 1) := by decide +kernel
theorem dJ7_fill_53178_4 : decode cJ7_fill_53178 4 = .ok (.istore_n 3, 1) := by decide +kernel
theorem dJ7_fill_53178_5 : decode cJ7_fill_53178 5 = .ok (.iload_n 2, 1) := by decide +kernel
theorem dJ7_fill_53178_6 : decode cJ7_fill_53178 6 = .ok (.iload_n 3, 1) := by decide +kernel
theorem dJ7_fill_53178_7 : decode cJ7_fill_53178 7 = .ok (.if_icmp .ge 13, 3) := by decide +kernel
theorem dJ7_fill_53178_10 : decode cJ7_fill_53178 10 = .ok (.aload_n 0, 1) := by decide +kernel
theorem dJ7_fill_53178_11 : decode cJ7_fill_53178 11 = .ok (.iload_n 2, 1) := by decide +kernel
theorem dJ7_fill_53178_12 : decode cJ7_fill_53178 12 = .ok (.iload_n 1, 1) := by decide +kernel
theorem dJ7_fill_53178_13 : decode cJ7_fill_53178 13 = .ok (.iastore, 1) := by decide +kernel
theorem dJ7_fill_53178_14 : decode cJ7_fill_53178 14 = .ok (.iinc 2 1, 3) := by decide +kernel
theorem dJ7_fill_53178_17 : decode cJ7_fill_53178 17 = .ok (.goto (-12), 3) := by decide +kernel
theorem dJ7_fill_53178_20 : decode cJ7_fill_53178 20 = .ok (.return_, 1) := by decide +kernel
def is_J7_fill_53178 : Nat → List Nat := fun d => if d = 5 then [0, 1, 2, 3] else []
set_option maxRecDepth 100000 in
def b_J7_fill_53178_5 (J : Nat → List qV → List qV → qW → Prop) (Q : qR) : qK := x_iload 2 (x_iload 3 (x_icmp_ge (x_vret Q) (x_aload 0 (x_iload 2 (x_iload 1 (x_iast (x_nw (x_iinc 2 1 (x_cut [0, 1, 2, 3] (J 5))))))))))
set_option maxRecDepth 100000 in
theorem s_J7_fill_53178_5 {p : Program} {l : Launch} {e : Env} {R : Room} {s : State} {m : MethodId} {args : Array Value} {below : List Frame} {meth : Method} {c : Code} {nW : Nat} {dC : Nat → ClassId} {dI : Nat → Nat → Nat} {k : Nat → ClassId} {g : Nat → Nat} {A : Nat → Prop} {J : Nat → List qV → List qV → qW → Prop} {Q : qR} (X : q_X p R s m args meth c cJ7_fill_53178 4 nW 0 0 RJ7 none dC dI k g A) (hJ : ∀ d : Nat, q_Sd p l e R s m args below meth c 4 nW dC dI k g A (MQ below (q_post (dC, dI) k g nW Q A) args s 0 0 A) d (x_cut (is_J7_fill_53178 d) (J d))) : q_Sd p l e R s m args below meth c 4 nW dC dI k g A (MQ below (q_post (dC, dI) k g nW Q A) args s 0 0 A) 5 (b_J7_fill_53178_5 J Q) := by
  unfold b_J7_fill_53178_5
  refine s_iload_n X rfl dJ7_fill_53178_5 ?_
  refine s_iload_n X rfl dJ7_fill_53178_6 ?_
  refine s_icmp_ge X (tgt := 20) dJ7_fill_53178_7 (by decide) ?_ ?_
  · exact s_vret X dJ7_fill_53178_20
  · refine s_aload_n X rfl dJ7_fill_53178_10 ?_
    refine s_iload_n X rfl dJ7_fill_53178_11 ?_
    refine s_iload_n X rfl dJ7_fill_53178_12 ?_
    refine s_iast X dJ7_fill_53178_13 ?_
    refine s_nw ?_
    refine s_iinc X (by decide) dJ7_fill_53178_14 ?_
    refine s_goto X (tgt := 5) dJ7_fill_53178_17 (by decide) ?_
    exact hJ 5
set_option maxRecDepth 100000 in
def b_J7_fill_53178_0 (J : Nat → List qV → List qV → qW → Prop) (Q : qR) : qK := x_int 0 (x_istore 2 (x_aload 0 (x_alen (x_istore 3 (x_cut [0, 1, 2, 3] (J 5))))))
set_option maxRecDepth 100000 in
theorem s_J7_fill_53178_0 {p : Program} {l : Launch} {e : Env} {R : Room} {s : State} {m : MethodId} {args : Array Value} {below : List Frame} {meth : Method} {c : Code} {nW : Nat} {dC : Nat → ClassId} {dI : Nat → Nat → Nat} {k : Nat → ClassId} {g : Nat → Nat} {A : Nat → Prop} {J : Nat → List qV → List qV → qW → Prop} {Q : qR} (X : q_X p R s m args meth c cJ7_fill_53178 4 nW 0 0 RJ7 none dC dI k g A) (hJ : ∀ d : Nat, q_Sd p l e R s m args below meth c 4 nW dC dI k g A (MQ below (q_post (dC, dI) k g nW Q A) args s 0 0 A) d (x_cut (is_J7_fill_53178 d) (J d))) : q_Sd p l e R s m args below meth c 4 nW dC dI k g A (MQ below (q_post (dC, dI) k g nW Q A) args s 0 0 A) 0 (b_J7_fill_53178_0 J Q) := by
  unfold b_J7_fill_53178_0
  refine s_iconst X ⟨by decide, by decide⟩ dJ7_fill_53178_0 ?_
  refine s_istore_n X rfl (by decide) dJ7_fill_53178_1 ?_
  refine s_aload_n X rfl dJ7_fill_53178_2 ?_
  refine s_alen X dJ7_fill_53178_3 ?_
  refine s_istore_n X rfl (by decide) dJ7_fill_53178_4 ?_
  exact hJ 5

def sp_J7_fill_53178 : qS := fun av w Q => ∃ (n : Nat) (f : Nat → Int) (a : Int), av = [q2 0, q1 a] ∧ w = [.inl (0, n, .inl f)] ∧ (n < 2147483648) ∧ (∀ (g : Nat → Int), (∀ j : Nat, g j = if (j : Int) < n then a else f j) → Q none ([.inl (0, n, .inl g)]))
def I_J7_fill_53178 (n : Nat) (f : Nat → Int) (a : Int) : Nat → Nat → List qV → List qV → qW → Prop := fun dz mz vz sz wz => if dz = 5 then (∃ (h : Nat → Int) (v2 : Int) (v3 : Int), vz = [q2 0, q1 a, q1 v2, q1 v3] ∧ sz = [] ∧ wz = [.inl (0, n, .inl h)] ∧ mz = (v3 - v2).toNat ∧ (0 ≤ v2 ∧ v2 ≤ v3 ∧ v3 = n) ∧ (∀ j : Nat, h j = if (j : Int) < v2 then a else f j)) else False
set_option maxHeartbeats 4000000 in
set_option maxRecDepth 100000 in
theorem m_J7_fill_53178 (l : Launch) : q_M l yJ7_fill_53178 cJ7_fill_53178 4 none 0 0 sp_J7_fill_53178 := by
  refine q_meth (by decide) (fun av w Q h => by obtain ⟨n, f, a, rfl, rfl, hn0, hQ⟩ := h; exact Nat.le_of_ble_eq_true rfl) ?_
  intro p e R s m args below meth c dC dI k g A av w Q hsp oka okw X
  obtain ⟨n, f, a, rfl, rfl, hn0, hQ⟩ := hsp
  have o_a : -2147483648 ≤ a ∧ a ≤ 2147483647 := oka _ (List.mem_of_getElem? (i := 1) rfl)
  refine s_mono (s_J7_fill_53178_0 X (J := fun dz vz sz wz => ∃ mz, I_J7_fill_53178 n f a dz mz vz sz wz) (q_loopn (I_J7_fill_53178 n f a) (fun dz J => if dz = 5 then b_J7_fill_53178_5 J Q else q_F) ?hs ?hv)) ?_
  case hs =>
    intro d J hJ
    by_cases h5 : d = 5
    · subst h5; exact s_J7_fill_53178_5 X hJ
    simp only [h5, if_false]
    exact s_F
  case hv =>
    intro dz mz vz sz wz hI okv oks okw hlen
    by_cases h5 : dz = 5
    · subst h5
      obtain ⟨h, v2, v3, rfl, rfl, rfl, hn, hp, hh⟩ := hI
      apply And.intro
      · intro h7
        exact hQ _ (fun j => by rw [hh j, show v2 = (n : Int) by omega])
      · intro h7
        apply And.intro
        · exact ⟨by omega, by omega⟩
        intro z14 h14
        first | replace h14 := e_add h14 (by omega) | replace h14 := e_rng h14
        exact ⟨_, ⟨_, _, _, rfl, rfl, rfl, rfl, (by first | omega | assumption | exact q_rg_up (by assumption) (by omega) | exact q_rg_up (q_rg_up (by assumption) (by omega)) (by omega) | exact q_rg_cpy (by assumption) (by assumption)), (by first | exact q_fill_s hh (by omega) (by omega) | (intro j; rw [if_neg (by omega)]))⟩, by omega⟩
    simp only [I_J7_fill_53178, h5, if_false] at hI
  rintro lv st w' ⟨rfl, rfl, rfl⟩
  apply And.intro
  · omega
  exact ⟨_, _, _, _, rfl, rfl, rfl, rfl, (by first | omega | assumption | exact q_rg_up (by assumption) (by omega) | exact q_rg_up (q_rg_up (by assumption) (by omega)) (by omega) | exact q_rg_cpy (by assumption) (by assumption)), (by first | exact q_fill_s hh (by omega) (by omega) | (intro j; rw [if_neg (by omega)]))⟩

theorem dJ7_fill_d0a16_0 : decode cJ7_fill_d0a16 0 = .ok (.iconst 0, 1) := by decide +kernel
theorem dJ7_fill_d0a16_1 : decode cJ7_fill_d0a16 1 = .ok (.istore_n 3, 1) := by decide +kernel
theorem dJ7_fill_d0a16_2 : decode cJ7_fill_d0a16 2 = .ok (.aload_n 0, 1) := by decide +kernel
theorem dJ7_fill_d0a16_3 : decode cJ7_fill_d0a16 3 = .ok (.arraylength, 1) := by decide +kernel
theorem dJ7_fill_d0a16_4 : decode cJ7_fill_d0a16 4 = .ok (.istore 4, 2) := by decide +kernel
theorem dJ7_fill_d0a16_6 : decode cJ7_fill_d0a16 6 = .ok (.iload_n 3, 1) := by decide +kernel
theorem dJ7_fill_d0a16_7 : decode cJ7_fill_d0a16 7 = .ok (.iload 4, 2) := by decide +kernel
theorem dJ7_fill_d0a16_9 : decode cJ7_fill_d0a16 9 = .ok (.if_icmp .ge 13, 3) := by decide +kernel
theorem dJ7_fill_d0a16_12 : decode cJ7_fill_d0a16 12 = .ok (.aload_n 0, 1) := by decide +kernel
theorem dJ7_fill_d0a16_13 : decode cJ7_fill_d0a16 13 = .ok (.iload_n 3, 1) := by decide +kernel
theorem dJ7_fill_d0a16_14 : decode cJ7_fill_d0a16 14 = .ok (.lload_n 1, 1) := by decide +kernel
theorem dJ7_fill_d0a16_15 : decode cJ7_fill_d0a16 15 = .ok (.lastore, 1) := by decide +kernel
theorem dJ7_fill_d0a16_16 : decode cJ7_fill_d0a16 16 = .ok (.iinc 3 1, 3) := by decide +kernel
theorem dJ7_fill_d0a16_19 : decode cJ7_fill_d0a16 19 = .ok (.goto (-13), 3) := by decide +kernel
theorem dJ7_fill_d0a16_22 : decode cJ7_fill_d0a16 22 = .ok (.return_, 1) := by decide +kernel
def is_J7_fill_d0a16 : Nat → List Nat := fun d => if d = 6 then [0, 1, 3, 4] else []
set_option maxRecDepth 100000 in
def b_J7_fill_d0a16_6 (J : Nat → List qV → List qV → qW → Prop) (Q : qR) : qK := x_iload 3 (x_iload 4 (x_icmp_ge (x_vret Q) (x_aload 0 (x_iload 3 (x_lload 1 (x_last (x_nw (x_iinc 3 1 (x_cut [0, 1, 3, 4] (J 6))))))))))
set_option maxRecDepth 100000 in
theorem s_J7_fill_d0a16_6 {p : Program} {l : Launch} {e : Env} {R : Room} {s : State} {m : MethodId} {args : Array Value} {below : List Frame} {meth : Method} {c : Code} {nW : Nat} {dC : Nat → ClassId} {dI : Nat → Nat → Nat} {k : Nat → ClassId} {g : Nat → Nat} {A : Nat → Prop} {J : Nat → List qV → List qV → qW → Prop} {Q : qR} (X : q_X p R s m args meth c cJ7_fill_d0a16 5 nW 0 0 RJ7 none dC dI k g A) (hJ : ∀ d : Nat, q_Sd p l e R s m args below meth c 5 nW dC dI k g A (MQ below (q_post (dC, dI) k g nW Q A) args s 0 0 A) d (x_cut (is_J7_fill_d0a16 d) (J d))) : q_Sd p l e R s m args below meth c 5 nW dC dI k g A (MQ below (q_post (dC, dI) k g nW Q A) args s 0 0 A) 6 (b_J7_fill_d0a16_6 J Q) := by
  unfold b_J7_fill_d0a16_6
  refine s_iload_n X rfl dJ7_fill_d0a16_6 ?_
  refine s_iload X dJ7_fill_d0a16_7 ?_
  refine s_icmp_ge X (tgt := 22) dJ7_fill_d0a16_9 (by decide) ?_ ?_
  · exact s_vret X dJ7_fill_d0a16_22
  · refine s_aload_n X rfl dJ7_fill_d0a16_12 ?_
    refine s_iload_n X rfl dJ7_fill_d0a16_13 ?_
    refine s_lload_n X rfl dJ7_fill_d0a16_14 ?_
    refine s_last X dJ7_fill_d0a16_15 ?_
    refine s_nw ?_
    refine s_iinc X (by decide) dJ7_fill_d0a16_16 ?_
    refine s_goto X (tgt := 6) dJ7_fill_d0a16_19 (by decide) ?_
    exact hJ 6
set_option maxRecDepth 100000 in
def b_J7_fill_d0a16_0 (J : Nat → List qV → List qV → qW → Prop) (Q : qR) : qK := x_int 0 (x_istore 3 (x_aload 0 (x_alen (x_istore 4 (x_cut [0, 1, 3, 4] (J 6))))))
set_option maxRecDepth 100000 in
theorem s_J7_fill_d0a16_0 {p : Program} {l : Launch} {e : Env} {R : Room} {s : State} {m : MethodId} {args : Array Value} {below : List Frame} {meth : Method} {c : Code} {nW : Nat} {dC : Nat → ClassId} {dI : Nat → Nat → Nat} {k : Nat → ClassId} {g : Nat → Nat} {A : Nat → Prop} {J : Nat → List qV → List qV → qW → Prop} {Q : qR} (X : q_X p R s m args meth c cJ7_fill_d0a16 5 nW 0 0 RJ7 none dC dI k g A) (hJ : ∀ d : Nat, q_Sd p l e R s m args below meth c 5 nW dC dI k g A (MQ below (q_post (dC, dI) k g nW Q A) args s 0 0 A) d (x_cut (is_J7_fill_d0a16 d) (J d))) : q_Sd p l e R s m args below meth c 5 nW dC dI k g A (MQ below (q_post (dC, dI) k g nW Q A) args s 0 0 A) 0 (b_J7_fill_d0a16_0 J Q) := by
  unfold b_J7_fill_d0a16_0
  refine s_iconst X ⟨by decide, by decide⟩ dJ7_fill_d0a16_0 ?_
  refine s_istore_n X rfl (by decide) dJ7_fill_d0a16_1 ?_
  refine s_aload_n X rfl dJ7_fill_d0a16_2 ?_
  refine s_alen X dJ7_fill_d0a16_3 ?_
  refine s_istore X (by decide) dJ7_fill_d0a16_4 ?_
  exact hJ 6

def sp_J7_fill_d0a16 : qS := fun av w Q => ∃ (n : Nat) (f : Nat → Int) (a : Int), av = [q2 0, q3 a] ∧ w = [.inl (3, n, .inr (.inl f))] ∧ (n < 2147483648) ∧ (∀ (g : Nat → Int), (∀ j : Nat, g j = if (j : Int) < n then a else f j) → Q none ([.inl (3, n, .inr (.inl g))]))
def I_J7_fill_d0a16 (n : Nat) (f : Nat → Int) (a : Int) : Nat → Nat → List qV → List qV → qW → Prop := fun dz mz vz sz wz => if dz = 6 then (∃ (h : Nat → Int) (v3 : Int) (v4 : Int), vz = [q2 0, q3 a, q1 v3, q1 v4] ∧ sz = [] ∧ wz = [.inl (3, n, .inr (.inl h))] ∧ mz = (v4 - v3).toNat ∧ (0 ≤ v3 ∧ v3 ≤ v4 ∧ v4 = n) ∧ (∀ j : Nat, h j = if (j : Int) < v3 then a else f j)) else False
set_option maxHeartbeats 4000000 in
set_option maxRecDepth 100000 in
theorem m_J7_fill_d0a16 (l : Launch) : q_M l yJ7_fill_d0a16 cJ7_fill_d0a16 5 none 0 0 sp_J7_fill_d0a16 := by
  refine q_meth (by decide) (fun av w Q h => by obtain ⟨n, f, a, rfl, rfl, hn0, hQ⟩ := h; exact Nat.le_of_ble_eq_true rfl) ?_
  intro p e R s m args below meth c dC dI k g A av w Q hsp oka okw X
  obtain ⟨n, f, a, rfl, rfl, hn0, hQ⟩ := hsp
  refine s_mono (s_J7_fill_d0a16_0 X (J := fun dz vz sz wz => ∃ mz, I_J7_fill_d0a16 n f a dz mz vz sz wz) (q_loopn (I_J7_fill_d0a16 n f a) (fun dz J => if dz = 6 then b_J7_fill_d0a16_6 J Q else q_F) ?hs ?hv)) ?_
  case hs =>
    intro d J hJ
    by_cases h6 : d = 6
    · subst h6; exact s_J7_fill_d0a16_6 X hJ
    simp only [h6, if_false]
    exact s_F
  case hv =>
    intro dz mz vz sz wz hI okv oks okw hlen
    by_cases h6 : dz = 6
    · subst h6
      obtain ⟨h, v3, v4, rfl, rfl, rfl, hn, hp, hh⟩ := hI
      apply And.intro
      · intro h9
        exact hQ _ (fun j => by rw [hh j, show v3 = (n : Int) by omega])
      · intro h9
        apply And.intro
        · exact ⟨by omega, by omega⟩
        intro z16 h16
        first | replace h16 := e_add h16 (by omega) | replace h16 := e_rng h16
        exact ⟨_, ⟨_, _, _, rfl, rfl, rfl, rfl, (by first | omega | assumption | exact q_rg_up (by assumption) (by omega) | exact q_rg_up (q_rg_up (by assumption) (by omega)) (by omega) | exact q_rg_cpy (by assumption) (by assumption)), (by first | exact q_fill_s hh (by omega) (by omega) | (intro j; rw [if_neg (by omega)]))⟩, by omega⟩
    simp only [I_J7_fill_d0a16, h6, if_false] at hI
  rintro lv st w' ⟨rfl, rfl, rfl⟩
  apply And.intro
  · omega
  exact ⟨_, _, _, _, rfl, rfl, rfl, rfl, (by first | omega | assumption | exact q_rg_up (by assumption) (by omega) | exact q_rg_up (q_rg_up (by assumption) (by omega)) (by omega) | exact q_rg_cpy (by assumption) (by assumption)), (by first | exact q_fill_s hh (by omega) (by omega) | (intro j; rw [if_neg (by omega)]))⟩
