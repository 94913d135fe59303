theorem dX12_copyRow1_0 : decode cX12_copyRow 0 = .ok (.iconst 0, 1) := by decide +kernel
theorem dX12_copyRow1_1 : decode cX12_copyRow 1 = .ok (.istore 4, 2) := by decide +kernel
theorem dX12_copyRow1_3 : decode cX12_copyRow 3 = .ok (.iload 4, 2) := by decide +kernel
theorem dX12_copyRow1_5 : decode cX12_copyRow 5 = .ok (.iload_n 1, 1) := by decide +kernel
theorem dX12_copyRow1_6 : decode cX12_copyRow 6 = .ok (.if_icmp .ge 25, 3) := by decide +kernel
theorem dX12_copyRow1_9 : decode cX12_copyRow 9 = .ok (.aload_n 0, 1) := by decide +kernel
theorem dX12_copyRow1_10 : decode cX12_copyRow 10 = .ok (.iload_n 1, 1) := by decide +kernel
theorem dX12_copyRow1_11 : decode cX12_copyRow 11 = .ok (.iload_n 3, 1) := by decide +kernel
theorem dX12_copyRow1_12 : decode cX12_copyRow 12 = .ok (.imul, 1) := by decide +kernel
theorem dX12_copyRow1_13 : decode cX12_copyRow 13 = .ok (.iload 4, 2) := by decide +kernel
theorem dX12_copyRow1_15 : decode cX12_copyRow 15 = .ok (.iadd, 1) := by decide +kernel
theorem dX12_copyRow1_16 : decode cX12_copyRow 16 = .ok (.aload_n 0, 1) := by decide +kernel
theorem dX12_copyRow1_17 : decode cX12_copyRow 17 = .ok (.iload_n 1, 1) := by decide +kernel
theorem dX12_copyRow1_18 : decode cX12_copyRow 18 = .ok (.iload_n 2, 1) := by decide +kernel
theorem dX12_copyRow1_19 : decode cX12_copyRow 19 = .ok (.imul, 1) := by decide +kernel
theorem dX12_copyRow1_20 : decode cX12_copyRow 20 = .ok (.iload 4, 2) := by decide +kernel
theorem dX12_copyRow1_22 : decode cX12_copyRow 22 = .ok (.iadd, 1) := by decide +kernel
theorem dX12_copyRow1_23 : decode cX12_copyRow 23 = .ok (.iaload, 1) := by decide +kernel
theorem dX12_copyRow1_24 : decode cX12_copyRow 24 = .ok (.iastore, 1) := by decide +kernel
theorem dX12_copyRow1_25 : decode cX12_copyRow 25 = .ok (.iinc 4 1, 3) := by decide +kernel
theorem dX12_copyRow1_28 : decode cX12_copyRow 28 = .ok (.goto (-25), 3) := by decide +kernel
theorem dX12_copyRow1_31 : decode cX12_copyRow 31 = .ok (.return_, 1) := by decide +kernel
def is_X12_copyRow1 : Nat → List Nat := fun d => if d = 3 then [0, 1, 2, 3, 4] else []
set_option maxRecDepth 100000 in
def b_X12_copyRow1_3 (J : Nat → List qV → List qV → qW → Prop) (Q : qR) : qK := x_iload 4 (x_iload 1 (x_icmp_ge (x_vret Q) (x_aload 0 (x_iload 1 (x_iload 3 (x_imul (x_iload 4 (x_iadd (x_aload 0 (x_iload 1 (x_iload 2 (x_imul (x_iload 4 (x_iadd (x_iald (x_iast (x_nw (x_iinc 4 1 (x_cut [0, 1, 2, 3, 4] (J 3))))))))))))))))))))
set_option maxRecDepth 100000 in
theorem s_X12_copyRow1_3 {p : Program} {l : Launch} {e : Env} {R : Room} {s : State} {m : MethodId} {args : Array Value} {below : List Frame} {meth : Method} {c : Code} {nW : Nat} {dC : Nat → ClassId} {dI : Nat → Nat → Nat} {k : Nat → ClassId} {g : Nat → Nat} {A : Nat → Prop} {J : Nat → List qV → List qV → qW → Prop} {Q : qR} (X : q_X p R s m args meth c cX12_copyRow 5 nW 0 0 RX12 none dC dI k g A) (hJ : ∀ d : Nat, q_Sd p l e R s m args below meth c 5 nW dC dI k g A (MQ below (q_post (dC, dI) k g nW Q A) args s 0 0 A) d (x_cut (is_X12_copyRow1 d) (J d))) : q_Sd p l e R s m args below meth c 5 nW dC dI k g A (MQ below (q_post (dC, dI) k g nW Q A) args s 0 0 A) 3 (b_X12_copyRow1_3 J Q) := by
  unfold b_X12_copyRow1_3
  refine s_iload X dX12_copyRow1_3 ?_
  refine s_iload_n X rfl dX12_copyRow1_5 ?_
  refine s_icmp_ge X (tgt := 31) dX12_copyRow1_6 (by decide) ?_ ?_
  · exact s_vret X dX12_copyRow1_31
  · refine s_aload_n X rfl dX12_copyRow1_9 ?_
    refine s_iload_n X rfl dX12_copyRow1_10 ?_
    refine s_iload_n X rfl dX12_copyRow1_11 ?_
    refine s_imul X dX12_copyRow1_12 ?_
    refine s_iload X dX12_copyRow1_13 ?_
    refine s_iadd X dX12_copyRow1_15 ?_
    refine s_aload_n X rfl dX12_copyRow1_16 ?_
    refine s_iload_n X rfl dX12_copyRow1_17 ?_
    refine s_iload_n X rfl dX12_copyRow1_18 ?_
    refine s_imul X dX12_copyRow1_19 ?_
    refine s_iload X dX12_copyRow1_20 ?_
    refine s_iadd X dX12_copyRow1_22 ?_
    refine s_iald X dX12_copyRow1_23 ?_
    refine s_iast X dX12_copyRow1_24 ?_
    refine s_nw ?_
    refine s_iinc X (by decide) dX12_copyRow1_25 ?_
    refine s_goto X (tgt := 3) dX12_copyRow1_28 (by decide) ?_
    exact hJ 3
set_option maxRecDepth 100000 in
def b_X12_copyRow1_0 (J : Nat → List qV → List qV → qW → Prop) (Q : qR) : qK := x_int 0 (x_istore 4 (x_cut [0, 1, 2, 3, 4] (J 3)))
set_option maxRecDepth 100000 in
theorem s_X12_copyRow1_0 {p : Program} {l : Launch} {e : Env} {R : Room} {s : State} {m : MethodId} {args : Array Value} {below : List Frame} {meth : Method} {c : Code} {nW : Nat} {dC : Nat → ClassId} {dI : Nat → Nat → Nat} {k : Nat → ClassId} {g : Nat → Nat} {A : Nat → Prop} {J : Nat → List qV → List qV → qW → Prop} {Q : qR} (X : q_X p R s m args meth c cX12_copyRow 5 nW 0 0 RX12 none dC dI k g A) (hJ : ∀ d : Nat, q_Sd p l e R s m args below meth c 5 nW dC dI k g A (MQ below (q_post (dC, dI) k g nW Q A) args s 0 0 A) d (x_cut (is_X12_copyRow1 d) (J d))) : q_Sd p l e R s m args below meth c 5 nW dC dI k g A (MQ below (q_post (dC, dI) k g nW Q A) args s 0 0 A) 0 (b_X12_copyRow1_0 J Q) := by
  unfold b_X12_copyRow1_0
  refine s_iconst X ⟨by decide, by decide⟩ dX12_copyRow1_0 ?_
  refine s_istore X (by decide) dX12_copyRow1_1 ?_
  exact hJ 3

def sp_X12_copyRow1 : qS := fun av w Q => ∃ (f : Nat → Int) (a : Int) (b : Int), av = [q2 0, q1 1, q1 a, q1 b] ∧ w = [.inl (0, 4, .inl f)] ∧ (0 ≤ a ∧ a ≤ 3 ∧ 0 ≤ b ∧ b ≤ 3 ∧ ¬ a = b) ∧ (∀ (g : Nat → Int), cpR 1 f g a b → Q none ([.inl (0, 4, .inl g)]))
def I_X12_copyRow1 (f : Nat → Int) (a : Int) (b : Int) : Nat → Nat → List qV → List qV → qW → Prop := fun dz mz vz sz wz => if dz = 3 then (∃ (h : Nat → Int) (v4 : Int), vz = [q2 0, q1 1, q1 a, q1 b, q1 v4] ∧ sz = [] ∧ wz = [.inl (0, 4, .inl h)] ∧ mz = (1 - v4).toNat ∧ (0 ≤ v4 ∧ v4 ≤ 1) ∧ (∀ j : Nat, h j = if (1 : Int) * b ≤ j ∧ (j : Int) < 1 * b + v4 then f (j - (1 : Int) * b + 1 * a).toNat else f j)) else False
set_option maxHeartbeats 4000000 in
set_option maxRecDepth 100000 in
theorem m_X12_copyRow1 (l : Launch) : q_M l yX12_copyRow cX12_copyRow 5 none 0 0 sp_X12_copyRow1 := by
  refine q_meth (by decide) (fun av w Q h => by obtain ⟨f, a, b, rfl, rfl, ha, hQ⟩ := h; exact Nat.le_of_ble_eq_true rfl) ?_
  intro p e R s m args below meth c dC dI k g A av w Q hsp oka okw X
  obtain ⟨f, a, b, rfl, rfl, ha, hQ⟩ := hsp
  have o_a : -2147483648 ≤ a ∧ a ≤ 2147483647 := oka _ (List.mem_of_getElem? (i := 2) rfl)
  have o_b : -2147483648 ≤ b ∧ b ≤ 2147483647 := oka _ (List.mem_of_getElem? (i := 3) rfl)
  refine s_mono (s_X12_copyRow1_0 X (J := fun dz vz sz wz => ∃ mz, I_X12_copyRow1 f a b dz mz vz sz wz) (q_loopn (I_X12_copyRow1 f a b) (fun dz J => if dz = 3 then b_X12_copyRow1_3 J Q else q_F) ?hs ?hv)) ?_
  case hs =>
    intro d J hJ
    by_cases h3 : d = 3
    · subst h3; exact s_X12_copyRow1_3 X hJ
    simp only [h3, if_false]
    exact s_F
  case hv =>
    intro dz mz vz sz wz hI okv oks okw hlen
    by_cases h3 : dz = 3
    · subst h3
      obtain ⟨h, v4, rfl, rfl, rfl, hn, hp, hh⟩ := hI
      apply And.intro
      · intro h6
        exact hQ _ (by intro j; rw [hh j, show v4 = (1 : Int) by omega]; rfl)
      · intro h6
        intro z12 h12
        first | replace h12 := e_mul h12 (by omega) | replace h12 := e_rng h12
        intro z15 h15
        first | replace h15 := e_add h15 (by omega) | replace h15 := e_rng h15
        intro z19 h19
        first | replace h19 := e_mul h19 (by omega) | replace h19 := e_rng h19
        intro z22 h22
        first | replace h22 := e_add h22 (by omega) | replace h22 := e_rng h22
        apply And.intro
        · exact ⟨by omega, by omega⟩
        intro z23 h23
        apply And.intro
        · exact ⟨by omega, by omega⟩
        intro z25 h25
        first | replace h25 := e_add h25 (by omega) | replace h25 := e_rng h25
        exact ⟨_, ⟨_, _, rfl, rfl, rfl, rfl, (by first | omega | assumption | exact q_rg_up (by assumption) (by omega) | exact q_rg_up (q_rg_up (by assumption) (by omega)) (by omega) | exact q_rg_cpy (by assumption) (by assumption)), (by first | exact cpR_s hh (by omega) h23 (by omega) (by omega) (by omega) (by omega) | (intro j; rw [if_neg (by omega)]))⟩, by omega⟩
    simp only [I_X12_copyRow1, h3, if_false] at hI
  rintro lv st w' ⟨rfl, rfl, rfl⟩
  exact ⟨_, _, _, rfl, rfl, rfl, rfl, (by first | omega | assumption | exact q_rg_up (by assumption) (by omega) | exact q_rg_up (q_rg_up (by assumption) (by omega)) (by omega) | exact q_rg_cpy (by assumption) (by assumption)), (by first | exact cpR_s hh (by omega) h23 (by omega) (by omega) (by omega) (by omega) | (intro j; rw [if_neg (by omega)]))⟩

theorem dX12_copyRow4_0 : decode cX12_copyRow 0 = .ok (.iconst 0, 1) := by decide +kernel
theorem dX12_copyRow4_1 : decode cX12_copyRow 1 = .ok (.istore 4, 2) := by decide +kernel
theorem dX12_copyRow4_3 : decode cX12_copyRow 3 = .ok (.iload 4, 2) := by decide +kernel
theorem dX12_copyRow4_5 : decode cX12_copyRow 5 = .ok (.iload_n 1, 1) := by decide +kernel
theorem dX12_copyRow4_6 : decode cX12_copyRow 6 = .ok (.if_icmp .ge 25, 3) := by decide +kernel
theorem dX12_copyRow4_9 : decode cX12_copyRow 9 = .ok (.aload_n 0, 1) := by decide +kernel
theorem dX12_copyRow4_10 : decode cX12_copyRow 10 = .ok (.iload_n 1, 1) := by decide +kernel
theorem dX12_copyRow4_11 : decode cX12_copyRow 11 = .ok (.iload_n 3, 1) := by decide +kernel
theorem dX12_copyRow4_12 : decode cX12_copyRow 12 = .ok (.imul, 1) := by decide +kernel
theorem dX12_copyRow4_13 : decode cX12_copyRow 13 = .ok (.iload 4, 2) := by decide +kernel
theorem dX12_copyRow4_15 : decode cX12_copyRow 15 = .ok (.iadd, 1) := by decide +kernel
theorem dX12_copyRow4_16 : decode cX12_copyRow 16 = .ok (.aload_n 0, 1) := by decide +kernel
theorem dX12_copyRow4_17 : decode cX12_copyRow 17 = .ok (.iload_n 1, 1) := by decide +kernel
theorem dX12_copyRow4_18 : decode cX12_copyRow 18 = .ok (.iload_n 2, 1) := by decide +kernel
theorem dX12_copyRow4_19 : decode cX12_copyRow 19 = .ok (.imul, 1) := by decide +kernel
theorem dX12_copyRow4_20 : decode cX12_copyRow 20 = .ok (.iload 4, 2) := by decide +kernel
theorem dX12_copyRow4_22 : decode cX12_copyRow 22 = .ok (.iadd, 1) := by decide +kernel
theorem dX12_copyRow4_23 : decode cX12_copyRow 23 = .ok (.iaload, 1) := by decide +kernel
theorem dX12_copyRow4_24 : decode cX12_copyRow 24 = .ok (.iastore, 1) := by decide +kernel
theorem dX12_copyRow4_25 : decode cX12_copyRow 25 = .ok (.iinc 4 1, 3) := by decide +kernel
theorem dX12_copyRow4_28 : decode cX12_copyRow 28 = .ok (.goto (-25), 3) := by decide +kernel
theorem dX12_copyRow4_31 : decode cX12_copyRow 31 = .ok (.return_, 1) := by decide +kernel
def is_X12_copyRow4 : Nat → List Nat := fun d => if d = 3 then [0, 1, 2, 3, 4] else []
set_option maxRecDepth 100000 in
def b_X12_copyRow4_3 (J : Nat → List qV → List qV → qW → Prop) (Q : qR) : qK := x_iload 4 (x_iload 1 (x_icmp_ge (x_vret Q) (x_aload 0 (x_iload 1 (x_iload 3 (x_imul (x_iload 4 (x_iadd (x_aload 0 (x_iload 1 (x_iload 2 (x_imul (x_iload 4 (x_iadd (x_iald (x_iast (x_nw (x_iinc 4 1 (x_cut [0, 1, 2, 3, 4] (J 3))))))))))))))))))))
set_option maxRecDepth 100000 in
theorem s_X12_copyRow4_3 {p : Program} {l : Launch} {e : Env} {R : Room} {s : State} {m : MethodId} {args : Array Value} {below : List Frame} {meth : Method} {c : Code} {nW : Nat} {dC : Nat → ClassId} {dI : Nat → Nat → Nat} {k : Nat → ClassId} {g : Nat → Nat} {A : Nat → Prop} {J : Nat → List qV → List qV → qW → Prop} {Q : qR} (X : q_X p R s m args meth c cX12_copyRow 5 nW 0 0 RX12 none dC dI k g A) (hJ : ∀ d : Nat, q_Sd p l e R s m args below meth c 5 nW dC dI k g A (MQ below (q_post (dC, dI) k g nW Q A) args s 0 0 A) d (x_cut (is_X12_copyRow4 d) (J d))) : q_Sd p l e R s m args below meth c 5 nW dC dI k g A (MQ below (q_post (dC, dI) k g nW Q A) args s 0 0 A) 3 (b_X12_copyRow4_3 J Q) := by
  unfold b_X12_copyRow4_3
  refine s_iload X dX12_copyRow4_3 ?_
  refine s_iload_n X rfl dX12_copyRow4_5 ?_
  refine s_icmp_ge X (tgt := 31) dX12_copyRow4_6 (by decide) ?_ ?_
  · exact s_vret X dX12_copyRow4_31
  · refine s_aload_n X rfl dX12_copyRow4_9 ?_
    refine s_iload_n X rfl dX12_copyRow4_10 ?_
    refine s_iload_n X rfl dX12_copyRow4_11 ?_
    refine s_imul X dX12_copyRow4_12 ?_
    refine s_iload X dX12_copyRow4_13 ?_
    refine s_iadd X dX12_copyRow4_15 ?_
    refine s_aload_n X rfl dX12_copyRow4_16 ?_
    refine s_iload_n X rfl dX12_copyRow4_17 ?_
    refine s_iload_n X rfl dX12_copyRow4_18 ?_
    refine s_imul X dX12_copyRow4_19 ?_
    refine s_iload X dX12_copyRow4_20 ?_
    refine s_iadd X dX12_copyRow4_22 ?_
    refine s_iald X dX12_copyRow4_23 ?_
    refine s_iast X dX12_copyRow4_24 ?_
    refine s_nw ?_
    refine s_iinc X (by decide) dX12_copyRow4_25 ?_
    refine s_goto X (tgt := 3) dX12_copyRow4_28 (by decide) ?_
    exact hJ 3
set_option maxRecDepth 100000 in
def b_X12_copyRow4_0 (J : Nat → List qV → List qV → qW → Prop) (Q : qR) : qK := x_int 0 (x_istore 4 (x_cut [0, 1, 2, 3, 4] (J 3)))
set_option maxRecDepth 100000 in
theorem s_X12_copyRow4_0 {p : Program} {l : Launch} {e : Env} {R : Room} {s : State} {m : MethodId} {args : Array Value} {below : List Frame} {meth : Method} {c : Code} {nW : Nat} {dC : Nat → ClassId} {dI : Nat → Nat → Nat} {k : Nat → ClassId} {g : Nat → Nat} {A : Nat → Prop} {J : Nat → List qV → List qV → qW → Prop} {Q : qR} (X : q_X p R s m args meth c cX12_copyRow 5 nW 0 0 RX12 none dC dI k g A) (hJ : ∀ d : Nat, q_Sd p l e R s m args below meth c 5 nW dC dI k g A (MQ below (q_post (dC, dI) k g nW Q A) args s 0 0 A) d (x_cut (is_X12_copyRow4 d) (J d))) : q_Sd p l e R s m args below meth c 5 nW dC dI k g A (MQ below (q_post (dC, dI) k g nW Q A) args s 0 0 A) 0 (b_X12_copyRow4_0 J Q) := by
  unfold b_X12_copyRow4_0
  refine s_iconst X ⟨by decide, by decide⟩ dX12_copyRow4_0 ?_
  refine s_istore X (by decide) dX12_copyRow4_1 ?_
  exact hJ 3

def sp_X12_copyRow4 : qS := fun av w Q => ∃ (f : Nat → Int) (a : Int) (b : Int), av = [q2 0, q1 4, q1 a, q1 b] ∧ w = [.inl (0, 16, .inl f)] ∧ (0 ≤ a ∧ a ≤ 3 ∧ 0 ≤ b ∧ b ≤ 3 ∧ ¬ a = b) ∧ (∀ (g : Nat → Int), cpR 4 f g a b → Q none ([.inl (0, 16, .inl g)]))
def I_X12_copyRow4 (f : Nat → Int) (a : Int) (b : Int) : Nat → Nat → List qV → List qV → qW → Prop := fun dz mz vz sz wz => if dz = 3 then (∃ (h : Nat → Int) (v4 : Int), vz = [q2 0, q1 4, q1 a, q1 b, q1 v4] ∧ sz = [] ∧ wz = [.inl (0, 16, .inl h)] ∧ mz = (4 - v4).toNat ∧ (0 ≤ v4 ∧ v4 ≤ 4) ∧ (∀ j : Nat, h j = if (4 : Int) * b ≤ j ∧ (j : Int) < 4 * b + v4 then f (j - (4 : Int) * b + 4 * a).toNat else f j)) else False
set_option maxHeartbeats 4000000 in
set_option maxRecDepth 100000 in
theorem m_X12_copyRow4 (l : Launch) : q_M l yX12_copyRow cX12_copyRow 5 none 0 0 sp_X12_copyRow4 := by
  refine q_meth (by decide) (fun av w Q h => by obtain ⟨f, a, b, rfl, rfl, ha, hQ⟩ := h; exact Nat.le_of_ble_eq_true rfl) ?_
  intro p e R s m args below meth c dC dI k g A av w Q hsp oka okw X
  obtain ⟨f, a, b, rfl, rfl, ha, hQ⟩ := hsp
  have o_a : -2147483648 ≤ a ∧ a ≤ 2147483647 := oka _ (List.mem_of_getElem? (i := 2) rfl)
  have o_b : -2147483648 ≤ b ∧ b ≤ 2147483647 := oka _ (List.mem_of_getElem? (i := 3) rfl)
  refine s_mono (s_X12_copyRow4_0 X (J := fun dz vz sz wz => ∃ mz, I_X12_copyRow4 f a b dz mz vz sz wz) (q_loopn (I_X12_copyRow4 f a b) (fun dz J => if dz = 3 then b_X12_copyRow4_3 J Q else q_F) ?hs ?hv)) ?_
  case hs =>
    intro d J hJ
    by_cases h3 : d = 3
    · subst h3; exact s_X12_copyRow4_3 X hJ
    simp only [h3, if_false]
    exact s_F
  case hv =>
    intro dz mz vz sz wz hI okv oks okw hlen
    by_cases h3 : dz = 3
    · subst h3
      obtain ⟨h, v4, rfl, rfl, rfl, hn, hp, hh⟩ := hI
      apply And.intro
      · intro h6
        exact hQ _ (by intro j; rw [hh j, show v4 = (4 : Int) by omega]; rfl)
      · intro h6
        intro z12 h12
        first | replace h12 := e_mul h12 (by omega) | replace h12 := e_rng h12
        intro z15 h15
        first | replace h15 := e_add h15 (by omega) | replace h15 := e_rng h15
        intro z19 h19
        first | replace h19 := e_mul h19 (by omega) | replace h19 := e_rng h19
        intro z22 h22
        first | replace h22 := e_add h22 (by omega) | replace h22 := e_rng h22
        apply And.intro
        · exact ⟨by omega, by omega⟩
        intro z23 h23
        apply And.intro
        · exact ⟨by omega, by omega⟩
        intro z25 h25
        first | replace h25 := e_add h25 (by omega) | replace h25 := e_rng h25
        exact ⟨_, ⟨_, _, rfl, rfl, rfl, rfl, (by first | omega | assumption | exact q_rg_up (by assumption) (by omega) | exact q_rg_up (q_rg_up (by assumption) (by omega)) (by omega) | exact q_rg_cpy (by assumption) (by assumption)), (by first | exact cpR_s hh (by omega) h23 (by omega) (by omega) (by omega) (by omega) | (intro j; rw [if_neg (by omega)]))⟩, by omega⟩
    simp only [I_X12_copyRow4, h3, if_false] at hI
  rintro lv st w' ⟨rfl, rfl, rfl⟩
  exact ⟨_, _, _, rfl, rfl, rfl, rfl, (by first | omega | assumption | exact q_rg_up (by assumption) (by omega) | exact q_rg_up (q_rg_up (by assumption) (by omega)) (by omega) | exact q_rg_cpy (by assumption) (by assumption)), (by first | exact cpR_s hh (by omega) h23 (by omega) (by omega) (by omega) (by omega) | (intro j; rw [if_neg (by omega)]))⟩

theorem dX12_copyRow150_0 : decode cX12_copyRow 0 = .ok (.iconst 0, 1) := by decide +kernel
theorem dX12_copyRow150_1 : decode cX12_copyRow 1 = .ok (.istore 4, 2) := by decide +kernel
theorem dX12_copyRow150_3 : decode cX12_copyRow 3 = .ok (.iload 4, 2) := by decide +kernel
theorem dX12_copyRow150_5 : decode cX12_copyRow 5 = .ok (.iload_n 1, 1) := by decide +kernel
theorem dX12_copyRow150_6 : decode cX12_copyRow 6 = .ok (.if_icmp .ge 25, 3) := by decide +kernel
theorem dX12_copyRow150_9 : decode cX12_copyRow 9 = .ok (.aload_n 0, 1) := by decide +kernel
theorem dX12_copyRow150_10 : decode cX12_copyRow 10 = .ok (.iload_n 1, 1) := by decide +kernel
theorem dX12_copyRow150_11 : decode cX12_copyRow 11 = .ok (.iload_n 3, 1) := by decide +kernel
theorem dX12_copyRow150_12 : decode cX12_copyRow 12 = .ok (.imul, 1) := by decide +kernel
theorem dX12_copyRow150_13 : decode cX12_copyRow 13 = .ok (.iload 4, 2) := by decide +kernel
theorem dX12_copyRow150_15 : decode cX12_copyRow 15 = .ok (.iadd, 1) := by decide +kernel
theorem dX12_copyRow150_16 : decode cX12_copyRow 16 = .ok (.aload_n 0, 1) := by decide +kernel
theorem dX12_copyRow150_17 : decode cX12_copyRow 17 = .ok (.iload_n 1, 1) := by decide +kernel
theorem dX12_copyRow150_18 : decode cX12_copyRow 18 = .ok (.iload_n 2, 1) := by decide +kernel
theorem dX12_copyRow150_19 : decode cX12_copyRow 19 = .ok (.imul, 1) := by decide +kernel
theorem dX12_copyRow150_20 : decode cX12_copyRow 20 = .ok (.iload 4, 2) := by decide +kernel
theorem dX12_copyRow150_22 : decode cX12_copyRow 22 = .ok (.iadd, 1) := by decide +kernel
theorem dX12_copyRow150_23 : decode cX12_copyRow 23 = .ok (.iaload, 1) := by decide +kernel
theorem dX12_copyRow150_24 : decode cX12_copyRow 24 = .ok (.iastore, 1) := by decide +kernel
theorem dX12_copyRow150_25 : decode cX12_copyRow 25 = .ok (.iinc 4 1, 3) := by decide +kernel
theorem dX12_copyRow150_28 : decode cX12_copyRow 28 = .ok (.goto (-25), 3) := by decide +kernel
theorem dX12_copyRow150_31 : decode cX12_copyRow 31 = .ok (.return_, 1) := by decide +kernel
def is_X12_copyRow150 : Nat → List Nat := fun d => if d = 3 then [0, 1, 2, 3, 4] else []
set_option maxRecDepth 100000 in
def b_X12_copyRow150_3 (J : Nat → List qV → List qV → qW → Prop) (Q : qR) : qK := x_iload 4 (x_iload 1 (x_icmp_ge (x_vret Q) (x_aload 0 (x_iload 1 (x_iload 3 (x_imul (x_iload 4 (x_iadd (x_aload 0 (x_iload 1 (x_iload 2 (x_imul (x_iload 4 (x_iadd (x_iald (x_iast (x_nw (x_iinc 4 1 (x_cut [0, 1, 2, 3, 4] (J 3))))))))))))))))))))
set_option maxRecDepth 100000 in
theorem s_X12_copyRow150_3 {p : Program} {l : Launch} {e : Env} {R : Room} {s : State} {m : MethodId} {args : Array Value} {below : List Frame} {meth : Method} {c : Code} {nW : Nat} {dC : Nat → ClassId} {dI : Nat → Nat → Nat} {k : Nat → ClassId} {g : Nat → Nat} {A : Nat → Prop} {J : Nat → List qV → List qV → qW → Prop} {Q : qR} (X : q_X p R s m args meth c cX12_copyRow 5 nW 0 0 RX12 none dC dI k g A) (hJ : ∀ d : Nat, q_Sd p l e R s m args below meth c 5 nW dC dI k g A (MQ below (q_post (dC, dI) k g nW Q A) args s 0 0 A) d (x_cut (is_X12_copyRow150 d) (J d))) : q_Sd p l e R s m args below meth c 5 nW dC dI k g A (MQ below (q_post (dC, dI) k g nW Q A) args s 0 0 A) 3 (b_X12_copyRow150_3 J Q) := by
  unfold b_X12_copyRow150_3
  refine s_iload X dX12_copyRow150_3 ?_
  refine s_iload_n X rfl dX12_copyRow150_5 ?_
  refine s_icmp_ge X (tgt := 31) dX12_copyRow150_6 (by decide) ?_ ?_
  · exact s_vret X dX12_copyRow150_31
  · refine s_aload_n X rfl dX12_copyRow150_9 ?_
    refine s_iload_n X rfl dX12_copyRow150_10 ?_
    refine s_iload_n X rfl dX12_copyRow150_11 ?_
    refine s_imul X dX12_copyRow150_12 ?_
    refine s_iload X dX12_copyRow150_13 ?_
    refine s_iadd X dX12_copyRow150_15 ?_
    refine s_aload_n X rfl dX12_copyRow150_16 ?_
    refine s_iload_n X rfl dX12_copyRow150_17 ?_
    refine s_iload_n X rfl dX12_copyRow150_18 ?_
    refine s_imul X dX12_copyRow150_19 ?_
    refine s_iload X dX12_copyRow150_20 ?_
    refine s_iadd X dX12_copyRow150_22 ?_
    refine s_iald X dX12_copyRow150_23 ?_
    refine s_iast X dX12_copyRow150_24 ?_
    refine s_nw ?_
    refine s_iinc X (by decide) dX12_copyRow150_25 ?_
    refine s_goto X (tgt := 3) dX12_copyRow150_28 (by decide) ?_
    exact hJ 3
set_option maxRecDepth 100000 in
def b_X12_copyRow150_0 (J : Nat → List qV → List qV → qW → Prop) (Q : qR) : qK := x_int 0 (x_istore 4 (x_cut [0, 1, 2, 3, 4] (J 3)))
set_option maxRecDepth 100000 in
theorem s_X12_copyRow150_0 {p : Program} {l : Launch} {e : Env} {R : Room} {s : State} {m : MethodId} {args : Array Value} {below : List Frame} {meth : Method} {c : Code} {nW : Nat} {dC : Nat → ClassId} {dI : Nat → Nat → Nat} {k : Nat → ClassId} {g : Nat → Nat} {A : Nat → Prop} {J : Nat → List qV → List qV → qW → Prop} {Q : qR} (X : q_X p R s m args meth c cX12_copyRow 5 nW 0 0 RX12 none dC dI k g A) (hJ : ∀ d : Nat, q_Sd p l e R s m args below meth c 5 nW dC dI k g A (MQ below (q_post (dC, dI) k g nW Q A) args s 0 0 A) d (x_cut (is_X12_copyRow150 d) (J d))) : q_Sd p l e R s m args below meth c 5 nW dC dI k g A (MQ below (q_post (dC, dI) k g nW Q A) args s 0 0 A) 0 (b_X12_copyRow150_0 J Q) := by
  unfold b_X12_copyRow150_0
  refine s_iconst X ⟨by decide, by decide⟩ dX12_copyRow150_0 ?_
  refine s_istore X (by decide) dX12_copyRow150_1 ?_
  exact hJ 3

def sp_X12_copyRow150 : qS := fun av w Q => ∃ (f : Nat → Int) (a : Int) (b : Int), av = [q2 0, q1 150, q1 a, q1 b] ∧ w = [.inl (0, 600, .inl f)] ∧ (0 ≤ a ∧ a ≤ 3 ∧ 0 ≤ b ∧ b ≤ 3 ∧ ¬ a = b) ∧ (∀ (g : Nat → Int), cpR 150 f g a b → Q none ([.inl (0, 600, .inl g)]))
def I_X12_copyRow150 (f : Nat → Int) (a : Int) (b : Int) : Nat → Nat → List qV → List qV → qW → Prop := fun dz mz vz sz wz => if dz = 3 then (∃ (h : Nat → Int) (v4 : Int), vz = [q2 0, q1 150, q1 a, q1 b, q1 v4] ∧ sz = [] ∧ wz = [.inl (0, 600, .inl h)] ∧ mz = (150 - v4).toNat ∧ (0 ≤ v4 ∧ v4 ≤ 150) ∧ (∀ j : Nat, h j = if (150 : Int) * b ≤ j ∧ (j : Int) < 150 * b + v4 then f (j - (150 : Int) * b + 150 * a).toNat else f j)) else False
set_option maxHeartbeats 4000000 in
set_option maxRecDepth 100000 in
theorem m_X12_copyRow150 (l : Launch) : q_M l yX12_copyRow cX12_copyRow 5 none 0 0 sp_X12_copyRow150 := by
  refine q_meth (by decide) (fun av w Q h => by obtain ⟨f, a, b, rfl, rfl, ha, hQ⟩ := h; exact Nat.le_of_ble_eq_true rfl) ?_
  intro p e R s m args below meth c dC dI k g A av w Q hsp oka okw X
  obtain ⟨f, a, b, rfl, rfl, ha, hQ⟩ := hsp
  have o_a : -2147483648 ≤ a ∧ a ≤ 2147483647 := oka _ (List.mem_of_getElem? (i := 2) rfl)
  have o_b : -2147483648 ≤ b ∧ b ≤ 2147483647 := oka _ (List.mem_of_getElem? (i := 3) rfl)
  refine s_mono (s_X12_copyRow150_0 X (J := fun dz vz sz wz => ∃ mz, I_X12_copyRow150 f a b dz mz vz sz wz) (q_loopn (I_X12_copyRow150 f a b) (fun dz J => if dz = 3 then b_X12_copyRow150_3 J Q else q_F) ?hs ?hv)) ?_
  case hs =>
    intro d J hJ
    by_cases h3 : d = 3
    · subst h3; exact s_X12_copyRow150_3 X hJ
    simp only [h3, if_false]
    exact s_F
  case hv =>
    intro dz mz vz sz wz hI okv oks okw hlen
    by_cases h3 : dz = 3
    · subst h3
      obtain ⟨h, v4, rfl, rfl, rfl, hn, hp, hh⟩ := hI
      apply And.intro
      · intro h6
        exact hQ _ (by intro j; rw [hh j, show v4 = (150 : Int) by omega]; rfl)
      · intro h6
        intro z12 h12
        first | replace h12 := e_mul h12 (by omega) | replace h12 := e_rng h12
        intro z15 h15
        first | replace h15 := e_add h15 (by omega) | replace h15 := e_rng h15
        intro z19 h19
        first | replace h19 := e_mul h19 (by omega) | replace h19 := e_rng h19
        intro z22 h22
        first | replace h22 := e_add h22 (by omega) | replace h22 := e_rng h22
        apply And.intro
        · exact ⟨by omega, by omega⟩
        intro z23 h23
        apply And.intro
        · exact ⟨by omega, by omega⟩
        intro z25 h25
        first | replace h25 := e_add h25 (by omega) | replace h25 := e_rng h25
        exact ⟨_, ⟨_, _, rfl, rfl, rfl, rfl, (by first | omega | assumption | exact q_rg_up (by assumption) (by omega) | exact q_rg_up (q_rg_up (by assumption) (by omega)) (by omega) | exact q_rg_cpy (by assumption) (by assumption)), (by first | exact cpR_s hh (by omega) h23 (by omega) (by omega) (by omega) (by omega) | (intro j; rw [if_neg (by omega)]))⟩, by omega⟩
    simp only [I_X12_copyRow150, h3, if_false] at hI
  rintro lv st w' ⟨rfl, rfl, rfl⟩
  exact ⟨_, _, _, rfl, rfl, rfl, rfl, (by first | omega | assumption | exact q_rg_up (by assumption) (by omega) | exact q_rg_up (q_rg_up (by assumption) (by omega)) (by omega) | exact q_rg_cpy (by assumption) (by assumption)), (by first | exact cpR_s hh (by omega) h23 (by omega) (by omega) (by omega) (by omega) | (intro j; rw [if_neg (by omega)]))⟩

theorem dX12_copyRow322_0 : decode cX12_copyRow 0 = .ok (.iconst 0, 1) := by decide +kernel
theorem dX12_copyRow322_1 : decode cX12_copyRow 1 = .ok (.istore 4, 2) := by decide +kernel
theorem dX12_copyRow322_3 : decode cX12_copyRow 3 = .ok (.iload 4, 2) := by decide +kernel
theorem dX12_copyRow322_5 : decode cX12_copyRow 5 = .ok (.iload_n 1, 1) := by decide +kernel
theorem dX12_copyRow322_6 : decode cX12_copyRow 6 = .ok (.if_icmp .ge 25, 3) := by decide +kernel
theorem dX12_copyRow322_9 : decode cX12_copyRow 9 = .ok (.aload_n 0, 1) := by decide +kernel
theorem dX12_copyRow322_10 : decode cX12_copyRow 10 = .ok (.iload_n 1, 1) := by decide +kernel
theorem dX12_copyRow322_11 : decode cX12_copyRow 11 = .ok (.iload_n 3, 1) := by decide +kernel
theorem dX12_copyRow322_12 : decode cX12_copyRow 12 = .ok (.imul, 1) := by decide +kernel
theorem dX12_copyRow322_13 : decode cX12_copyRow 13 = .ok (.iload 4, 2) := by decide +kernel
theorem dX12_copyRow322_15 : decode cX12_copyRow 15 = .ok (.iadd, 1) := by decide +kernel
theorem dX12_copyRow322_16 : decode cX12_copyRow 16 = .ok (.aload_n 0, 1) := by decide +kernel
theorem dX12_copyRow322_17 : decode cX12_copyRow 17 = .ok (.iload_n 1, 1) := by decide +kernel
theorem dX12_copyRow322_18 : decode cX12_copyRow 18 = .ok (.iload_n 2, 1) := by decide +kernel
theorem dX12_copyRow322_19 : decode cX12_copyRow 19 = .ok (.imul, 1) := by decide +kernel
theorem dX12_copyRow322_20 : decode cX12_copyRow 20 = .ok (.iload 4, 2) := by decide +kernel
theorem dX12_copyRow322_22 : decode cX12_copyRow 22 = .ok (.iadd, 1) := by decide +kernel
theorem dX12_copyRow322_23 : decode cX12_copyRow 23 = .ok (.iaload, 1) := by decide +kernel
theorem dX12_copyRow322_24 : decode cX12_copyRow 24 = .ok (.iastore, 1) := by decide +kernel
theorem dX12_copyRow322_25 : decode cX12_copyRow 25 = .ok (.iinc 4 1, 3) := by decide +kernel
theorem dX12_copyRow322_28 : decode cX12_copyRow 28 = .ok (.goto (-25), 3) := by decide +kernel
theorem dX12_copyRow322_31 : decode cX12_copyRow 31 = .ok (.return_, 1) := by decide +kernel
def is_X12_copyRow322 : Nat → List Nat := fun d => if d = 3 then [0, 1, 2, 3, 4] else []
set_option maxRecDepth 100000 in
def b_X12_copyRow322_3 (J : Nat → List qV → List qV → qW → Prop) (Q : qR) : qK := x_iload 4 (x_iload 1 (x_icmp_ge (x_vret Q) (x_aload 0 (x_iload 1 (x_iload 3 (x_imul (x_iload 4 (x_iadd (x_aload 0 (x_iload 1 (x_iload 2 (x_imul (x_iload 4 (x_iadd (x_iald (x_iast (x_nw (x_iinc 4 1 (x_cut [0, 1, 2, 3, 4] (J 3))))))))))))))))))))
set_option maxRecDepth 100000 in
theorem s_X12_copyRow322_3 {p : Program} {l : Launch} {e : Env} {R : Room} {s : State} {m : MethodId} {args : Array Value} {below : List Frame} {meth : Method} {c : Code} {nW : Nat} {dC : Nat → ClassId} {dI : Nat → Nat → Nat} {k : Nat → ClassId} {g : Nat → Nat} {A : Nat → Prop} {J : Nat → List qV → List qV → qW → Prop} {Q : qR} (X : q_X p R s m args meth c cX12_copyRow 5 nW 0 0 RX12 none dC dI k g A) (hJ : ∀ d : Nat, q_Sd p l e R s m args below meth c 5 nW dC dI k g A (MQ below (q_post (dC, dI) k g nW Q A) args s 0 0 A) d (x_cut (is_X12_copyRow322 d) (J d))) : q_Sd p l e R s m args below meth c 5 nW dC dI k g A (MQ below (q_post (dC, dI) k g nW Q A) args s 0 0 A) 3 (b_X12_copyRow322_3 J Q) := by
  unfold b_X12_copyRow322_3
  refine s_iload X dX12_copyRow322_3 ?_
  refine s_iload_n X rfl dX12_copyRow322_5 ?_
  refine s_icmp_ge X (tgt := 31) dX12_copyRow322_6 (by decide) ?_ ?_
  · exact s_vret X dX12_copyRow322_31
  · refine s_aload_n X rfl dX12_copyRow322_9 ?_
    refine s_iload_n X rfl dX12_copyRow322_10 ?_
    refine s_iload_n X rfl dX12_copyRow322_11 ?_
    refine s_imul X dX12_copyRow322_12 ?_
    refine s_iload X dX12_copyRow322_13 ?_
    refine s_iadd X dX12_copyRow322_15 ?_
    refine s_aload_n X rfl dX12_copyRow322_16 ?_
    refine s_iload_n X rfl dX12_copyRow322_17 ?_
    refine s_iload_n X rfl dX12_copyRow322_18 ?_
    refine s_imul X dX12_copyRow322_19 ?_
    refine s_iload X dX12_copyRow322_20 ?_
    refine s_iadd X dX12_copyRow322_22 ?_
    refine s_iald X dX12_copyRow322_23 ?_
    refine s_iast X dX12_copyRow322_24 ?_
    refine s_nw ?_
    refine s_iinc X (by decide) dX12_copyRow322_25 ?_
    refine s_goto X (tgt := 3) dX12_copyRow322_28 (by decide) ?_
    exact hJ 3
set_option maxRecDepth 100000 in
def b_X12_copyRow322_0 (J : Nat → List qV → List qV → qW → Prop) (Q : qR) : qK := x_int 0 (x_istore 4 (x_cut [0, 1, 2, 3, 4] (J 3)))
set_option maxRecDepth 100000 in
theorem s_X12_copyRow322_0 {p : Program} {l : Launch} {e : Env} {R : Room} {s : State} {m : MethodId} {args : Array Value} {below : List Frame} {meth : Method} {c : Code} {nW : Nat} {dC : Nat → ClassId} {dI : Nat → Nat → Nat} {k : Nat → ClassId} {g : Nat → Nat} {A : Nat → Prop} {J : Nat → List qV → List qV → qW → Prop} {Q : qR} (X : q_X p R s m args meth c cX12_copyRow 5 nW 0 0 RX12 none dC dI k g A) (hJ : ∀ d : Nat, q_Sd p l e R s m args below meth c 5 nW dC dI k g A (MQ below (q_post (dC, dI) k g nW Q A) args s 0 0 A) d (x_cut (is_X12_copyRow322 d) (J d))) : q_Sd p l e R s m args below meth c 5 nW dC dI k g A (MQ below (q_post (dC, dI) k g nW Q A) args s 0 0 A) 0 (b_X12_copyRow322_0 J Q) := by
  unfold b_X12_copyRow322_0
  refine s_iconst X ⟨by decide, by decide⟩ dX12_copyRow322_0 ?_
  refine s_istore X (by decide) dX12_copyRow322_1 ?_
  exact hJ 3

def sp_X12_copyRow322 : qS := fun av w Q => ∃ (f : Nat → Int) (a : Int) (b : Int), av = [q2 0, q1 322, q1 a, q1 b] ∧ w = [.inl (0, 1288, .inl f)] ∧ (0 ≤ a ∧ a ≤ 3 ∧ 0 ≤ b ∧ b ≤ 3 ∧ ¬ a = b) ∧ (∀ (g : Nat → Int), cpR 322 f g a b → Q none ([.inl (0, 1288, .inl g)]))
def I_X12_copyRow322 (f : Nat → Int) (a : Int) (b : Int) : Nat → Nat → List qV → List qV → qW → Prop := fun dz mz vz sz wz => if dz = 3 then (∃ (h : Nat → Int) (v4 : Int), vz = [q2 0, q1 322, q1 a, q1 b, q1 v4] ∧ sz = [] ∧ wz = [.inl (0, 1288, .inl h)] ∧ mz = (322 - v4).toNat ∧ (0 ≤ v4 ∧ v4 ≤ 322) ∧ (∀ j : Nat, h j = if (322 : Int) * b ≤ j ∧ (j : Int) < 322 * b + v4 then f (j - (322 : Int) * b + 322 * a).toNat else f j)) else False
set_option maxHeartbeats 4000000 in
set_option maxRecDepth 100000 in
theorem m_X12_copyRow322 (l : Launch) : q_M l yX12_copyRow cX12_copyRow 5 none 0 0 sp_X12_copyRow322 := by
  refine q_meth (by decide) (fun av w Q h => by obtain ⟨f, a, b, rfl, rfl, ha, hQ⟩ := h; exact Nat.le_of_ble_eq_true rfl) ?_
  intro p e R s m args below meth c dC dI k g A av w Q hsp oka okw X
  obtain ⟨f, a, b, rfl, rfl, ha, hQ⟩ := hsp
  have o_a : -2147483648 ≤ a ∧ a ≤ 2147483647 := oka _ (List.mem_of_getElem? (i := 2) rfl)
  have o_b : -2147483648 ≤ b ∧ b ≤ 2147483647 := oka _ (List.mem_of_getElem? (i := 3) rfl)
  refine s_mono (s_X12_copyRow322_0 X (J := fun dz vz sz wz => ∃ mz, I_X12_copyRow322 f a b dz mz vz sz wz) (q_loopn (I_X12_copyRow322 f a b) (fun dz J => if dz = 3 then b_X12_copyRow322_3 J Q else q_F) ?hs ?hv)) ?_
  case hs =>
    intro d J hJ
    by_cases h3 : d = 3
    · subst h3; exact s_X12_copyRow322_3 X hJ
    simp only [h3, if_false]
    exact s_F
  case hv =>
    intro dz mz vz sz wz hI okv oks okw hlen
    by_cases h3 : dz = 3
    · subst h3
      obtain ⟨h, v4, rfl, rfl, rfl, hn, hp, hh⟩ := hI
      apply And.intro
      · intro h6
        exact hQ _ (by intro j; rw [hh j, show v4 = (322 : Int) by omega]; rfl)
      · intro h6
        intro z12 h12
        first | replace h12 := e_mul h12 (by omega) | replace h12 := e_rng h12
        intro z15 h15
        first | replace h15 := e_add h15 (by omega) | replace h15 := e_rng h15
        intro z19 h19
        first | replace h19 := e_mul h19 (by omega) | replace h19 := e_rng h19
        intro z22 h22
        first | replace h22 := e_add h22 (by omega) | replace h22 := e_rng h22
        apply And.intro
        · exact ⟨by omega, by omega⟩
        intro z23 h23
        apply And.intro
        · exact ⟨by omega, by omega⟩
        intro z25 h25
        first | replace h25 := e_add h25 (by omega) | replace h25 := e_rng h25
        exact ⟨_, ⟨_, _, rfl, rfl, rfl, rfl, (by first | omega | assumption | exact q_rg_up (by assumption) (by omega) | exact q_rg_up (q_rg_up (by assumption) (by omega)) (by omega) | exact q_rg_cpy (by assumption) (by assumption)), (by first | exact cpR_s hh (by omega) h23 (by omega) (by omega) (by omega) (by omega) | (intro j; rw [if_neg (by omega)]))⟩, by omega⟩
    simp only [I_X12_copyRow322, h3, if_false] at hI
  rintro lv st w' ⟨rfl, rfl, rfl⟩
  exact ⟨_, _, _, rfl, rfl, rfl, rfl, (by first | omega | assumption | exact q_rg_up (by assumption) (by omega) | exact q_rg_up (q_rg_up (by assumption) (by omega)) (by omega) | exact q_rg_cpy (by assumption) (by assumption)), (by first | exact cpR_s hh (by omega) h23 (by omega) (by omega) (by omega) (by omega) | (intro j; rw [if_neg (by omega)]))⟩

theorem dX12_copyRow18_0 : decode cX12_copyRow 0 = .ok (.iconst 0, 1) := by decide +kernel
theorem dX12_copyRow18_1 : decode cX12_copyRow 1 = .ok (.istore 4, 2) := by decide +kernel
theorem dX12_copyRow18_3 : decode cX12_copyRow 3 = .ok (.iload 4, 2) := by decide +kernel
theorem dX12_copyRow18_5 : decode cX12_copyRow 5 = .ok (.iload_n 1, 1) := by decide +kernel
theorem dX12_copyRow18_6 : decode cX12_copyRow 6 = .ok (.if_icmp .ge 25, 3) := by decide +kernel
theorem dX12_copyRow18_9 : decode cX12_copyRow 9 = .ok (.aload_n 0, 1) := by decide +kernel
theorem dX12_copyRow18_10 : decode cX12_copyRow 10 = .ok (.iload_n 1, 1) := by decide +kernel
theorem dX12_copyRow18_11 : decode cX12_copyRow 11 = .ok (.iload_n 3, 1) := by decide +kernel
theorem dX12_copyRow18_12 : decode cX12_copyRow 12 = .ok (.imul, 1) := by decide +kernel
theorem dX12_copyRow18_13 : decode cX12_copyRow 13 = .ok (.iload 4, 2) := by decide +kernel
theorem dX12_copyRow18_15 : decode cX12_copyRow 15 = .ok (.iadd, 1) := by decide +kernel
theorem dX12_copyRow18_16 : decode cX12_copyRow 16 = .ok (.aload_n 0, 1) := by decide +kernel
theorem dX12_copyRow18_17 : decode cX12_copyRow 17 = .ok (.iload_n 1, 1) := by decide +kernel
theorem dX12_copyRow18_18 : decode cX12_copyRow 18 = .ok (.iload_n 2, 1) := by decide +kernel
theorem dX12_copyRow18_19 : decode cX12_copyRow 19 = .ok (.imul, 1) := by decide +kernel
theorem dX12_copyRow18_20 : decode cX12_copyRow 20 = .ok (.iload 4, 2) := by decide +kernel
theorem dX12_copyRow18_22 : decode cX12_copyRow 22 = .ok (.iadd, 1) := by decide +kernel
theorem dX12_copyRow18_23 : decode cX12_copyRow 23 = .ok (.iaload, 1) := by decide +kernel
theorem dX12_copyRow18_24 : decode cX12_copyRow 24 = .ok (.iastore, 1) := by decide +kernel
theorem dX12_copyRow18_25 : decode cX12_copyRow 25 = .ok (.iinc 4 1, 3) := by decide +kernel
theorem dX12_copyRow18_28 : decode cX12_copyRow 28 = .ok (.goto (-25), 3) := by decide +kernel
theorem dX12_copyRow18_31 : decode cX12_copyRow 31 = .ok (.return_, 1) := by decide +kernel
def is_X12_copyRow18 : Nat → List Nat := fun d => if d = 3 then [0, 1, 2, 3, 4] else []
set_option maxRecDepth 100000 in
def b_X12_copyRow18_3 (J : Nat → List qV → List qV → qW → Prop) (Q : qR) : qK := x_iload 4 (x_iload 1 (x_icmp_ge (x_vret Q) (x_aload 0 (x_iload 1 (x_iload 3 (x_imul (x_iload 4 (x_iadd (x_aload 0 (x_iload 1 (x_iload 2 (x_imul (x_iload 4 (x_iadd (x_iald (x_iast (x_nw (x_iinc 4 1 (x_cut [0, 1, 2, 3, 4] (J 3))))))))))))))))))))
set_option maxRecDepth 100000 in
theorem s_X12_copyRow18_3 {p : Program} {l : Launch} {e : Env} {R : Room} {s : State} {m : MethodId} {args : Array Value} {below : List Frame} {meth : Method} {c : Code} {nW : Nat} {dC : Nat → ClassId} {dI : Nat → Nat → Nat} {k : Nat → ClassId} {g : Nat → Nat} {A : Nat → Prop} {J : Nat → List qV → List qV → qW → Prop} {Q : qR} (X : q_X p R s m args meth c cX12_copyRow 5 nW 0 0 RX12 none dC dI k g A) (hJ : ∀ d : Nat, q_Sd p l e R s m args below meth c 5 nW dC dI k g A (MQ below (q_post (dC, dI) k g nW Q A) args s 0 0 A) d (x_cut (is_X12_copyRow18 d) (J d))) : q_Sd p l e R s m args below meth c 5 nW dC dI k g A (MQ below (q_post (dC, dI) k g nW Q A) args s 0 0 A) 3 (b_X12_copyRow18_3 J Q) := by
  unfold b_X12_copyRow18_3
  refine s_iload X dX12_copyRow18_3 ?_
  refine s_iload_n X rfl dX12_copyRow18_5 ?_
  refine s_icmp_ge X (tgt := 31) dX12_copyRow18_6 (by decide) ?_ ?_
  · exact s_vret X dX12_copyRow18_31
  · refine s_aload_n X rfl dX12_copyRow18_9 ?_
    refine s_iload_n X rfl dX12_copyRow18_10 ?_
    refine s_iload_n X rfl dX12_copyRow18_11 ?_
    refine s_imul X dX12_copyRow18_12 ?_
    refine s_iload X dX12_copyRow18_13 ?_
    refine s_iadd X dX12_copyRow18_15 ?_
    refine s_aload_n X rfl dX12_copyRow18_16 ?_
    refine s_iload_n X rfl dX12_copyRow18_17 ?_
    refine s_iload_n X rfl dX12_copyRow18_18 ?_
    refine s_imul X dX12_copyRow18_19 ?_
    refine s_iload X dX12_copyRow18_20 ?_
    refine s_iadd X dX12_copyRow18_22 ?_
    refine s_iald X dX12_copyRow18_23 ?_
    refine s_iast X dX12_copyRow18_24 ?_
    refine s_nw ?_
    refine s_iinc X (by decide) dX12_copyRow18_25 ?_
    refine s_goto X (tgt := 3) dX12_copyRow18_28 (by decide) ?_
    exact hJ 3
set_option maxRecDepth 100000 in
def b_X12_copyRow18_0 (J : Nat → List qV → List qV → qW → Prop) (Q : qR) : qK := x_int 0 (x_istore 4 (x_cut [0, 1, 2, 3, 4] (J 3)))
set_option maxRecDepth 100000 in
theorem s_X12_copyRow18_0 {p : Program} {l : Launch} {e : Env} {R : Room} {s : State} {m : MethodId} {args : Array Value} {below : List Frame} {meth : Method} {c : Code} {nW : Nat} {dC : Nat → ClassId} {dI : Nat → Nat → Nat} {k : Nat → ClassId} {g : Nat → Nat} {A : Nat → Prop} {J : Nat → List qV → List qV → qW → Prop} {Q : qR} (X : q_X p R s m args meth c cX12_copyRow 5 nW 0 0 RX12 none dC dI k g A) (hJ : ∀ d : Nat, q_Sd p l e R s m args below meth c 5 nW dC dI k g A (MQ below (q_post (dC, dI) k g nW Q A) args s 0 0 A) d (x_cut (is_X12_copyRow18 d) (J d))) : q_Sd p l e R s m args below meth c 5 nW dC dI k g A (MQ below (q_post (dC, dI) k g nW Q A) args s 0 0 A) 0 (b_X12_copyRow18_0 J Q) := by
  unfold b_X12_copyRow18_0
  refine s_iconst X ⟨by decide, by decide⟩ dX12_copyRow18_0 ?_
  refine s_istore X (by decide) dX12_copyRow18_1 ?_
  exact hJ 3

def sp_X12_copyRow18 : qS := fun av w Q => ∃ (f : Nat → Int) (a : Int) (b : Int), av = [q2 0, q1 18, q1 a, q1 b] ∧ w = [.inl (0, 72, .inl f)] ∧ (0 ≤ a ∧ a ≤ 3 ∧ 0 ≤ b ∧ b ≤ 3 ∧ ¬ a = b) ∧ (∀ (g : Nat → Int), cpR 18 f g a b → Q none ([.inl (0, 72, .inl g)]))
def I_X12_copyRow18 (f : Nat → Int) (a : Int) (b : Int) : Nat → Nat → List qV → List qV → qW → Prop := fun dz mz vz sz wz => if dz = 3 then (∃ (h : Nat → Int) (v4 : Int), vz = [q2 0, q1 18, q1 a, q1 b, q1 v4] ∧ sz = [] ∧ wz = [.inl (0, 72, .inl h)] ∧ mz = (18 - v4).toNat ∧ (0 ≤ v4 ∧ v4 ≤ 18) ∧ (∀ j : Nat, h j = if (18 : Int) * b ≤ j ∧ (j : Int) < 18 * b + v4 then f (j - (18 : Int) * b + 18 * a).toNat else f j)) else False
set_option maxHeartbeats 4000000 in
set_option maxRecDepth 100000 in
theorem m_X12_copyRow18 (l : Launch) : q_M l yX12_copyRow cX12_copyRow 5 none 0 0 sp_X12_copyRow18 := by
  refine q_meth (by decide) (fun av w Q h => by obtain ⟨f, a, b, rfl, rfl, ha, hQ⟩ := h; exact Nat.le_of_ble_eq_true rfl) ?_
  intro p e R s m args below meth c dC dI k g A av w Q hsp oka okw X
  obtain ⟨f, a, b, rfl, rfl, ha, hQ⟩ := hsp
  have o_a : -2147483648 ≤ a ∧ a ≤ 2147483647 := oka _ (List.mem_of_getElem? (i := 2) rfl)
  have o_b : -2147483648 ≤ b ∧ b ≤ 2147483647 := oka _ (List.mem_of_getElem? (i := 3) rfl)
  refine s_mono (s_X12_copyRow18_0 X (J := fun dz vz sz wz => ∃ mz, I_X12_copyRow18 f a b dz mz vz sz wz) (q_loopn (I_X12_copyRow18 f a b) (fun dz J => if dz = 3 then b_X12_copyRow18_3 J Q else q_F) ?hs ?hv)) ?_
  case hs =>
    intro d J hJ
    by_cases h3 : d = 3
    · subst h3; exact s_X12_copyRow18_3 X hJ
    simp only [h3, if_false]
    exact s_F
  case hv =>
    intro dz mz vz sz wz hI okv oks okw hlen
    by_cases h3 : dz = 3
    · subst h3
      obtain ⟨h, v4, rfl, rfl, rfl, hn, hp, hh⟩ := hI
      apply And.intro
      · intro h6
        exact hQ _ (by intro j; rw [hh j, show v4 = (18 : Int) by omega]; rfl)
      · intro h6
        intro z12 h12
        first | replace h12 := e_mul h12 (by omega) | replace h12 := e_rng h12
        intro z15 h15
        first | replace h15 := e_add h15 (by omega) | replace h15 := e_rng h15
        intro z19 h19
        first | replace h19 := e_mul h19 (by omega) | replace h19 := e_rng h19
        intro z22 h22
        first | replace h22 := e_add h22 (by omega) | replace h22 := e_rng h22
        apply And.intro
        · exact ⟨by omega, by omega⟩
        intro z23 h23
        apply And.intro
        · exact ⟨by omega, by omega⟩
        intro z25 h25
        first | replace h25 := e_add h25 (by omega) | replace h25 := e_rng h25
        exact ⟨_, ⟨_, _, rfl, rfl, rfl, rfl, (by first | omega | assumption | exact q_rg_up (by assumption) (by omega) | exact q_rg_up (q_rg_up (by assumption) (by omega)) (by omega) | exact q_rg_cpy (by assumption) (by assumption)), (by first | exact cpR_s hh (by omega) h23 (by omega) (by omega) (by omega) (by omega) | (intro j; rw [if_neg (by omega)]))⟩, by omega⟩
    simp only [I_X12_copyRow18, h3, if_false] at hI
  rintro lv st w' ⟨rfl, rfl, rfl⟩
  exact ⟨_, _, _, rfl, rfl, rfl, rfl, (by first | omega | assumption | exact q_rg_up (by assumption) (by omega) | exact q_rg_up (q_rg_up (by assumption) (by omega)) (by omega) | exact q_rg_cpy (by assumption) (by assumption)), (by first | exact cpR_s hh (by omega) h23 (by omega) (by omega) (by omega) (by omega) | (intro j; rw [if_neg (by omega)]))⟩

theorem dX12_copyRow42_0 : decode cX12_copyRow 0 = .ok (.iconst 0, 1) := by decide +kernel
theorem dX12_copyRow42_1 : decode cX12_copyRow 1 = .ok (.istore 4, 2) := by decide +kernel
theorem dX12_copyRow42_3 : decode cX12_copyRow 3 = .ok (.iload 4, 2) := by decide +kernel
theorem dX12_copyRow42_5 : decode cX12_copyRow 5 = .ok (.iload_n 1, 1) := by decide +kernel
theorem dX12_copyRow42_6 : decode cX12_copyRow 6 = .ok (.if_icmp .ge 25, 3) := by decide +kernel
theorem dX12_copyRow42_9 : decode cX12_copyRow 9 = .ok (.aload_n 0, 1) := by decide +kernel
theorem dX12_copyRow42_10 : decode cX12_copyRow 10 = .ok (.iload_n 1, 1) := by decide +kernel
theorem dX12_copyRow42_11 : decode cX12_copyRow 11 = .ok (.iload_n 3, 1) := by decide +kernel
theorem dX12_copyRow42_12 : decode cX12_copyRow 12 = .ok (.imul, 1) := by decide +kernel
theorem dX12_copyRow42_13 : decode cX12_copyRow 13 = .ok (.iload 4, 2) := by decide +kernel
theorem dX12_copyRow42_15 : decode cX12_copyRow 15 = .ok (.iadd, 1) := by decide +kernel
theorem dX12_copyRow42_16 : decode cX12_copyRow 16 = .ok (.aload_n 0, 1) := by decide +kernel
theorem dX12_copyRow42_17 : decode cX12_copyRow 17 = .ok (.iload_n 1, 1) := by decide +kernel
theorem dX12_copyRow42_18 : decode cX12_copyRow 18 = .ok (.iload_n 2, 1) := by decide +kernel
theorem dX12_copyRow42_19 : decode cX12_copyRow 19 = .ok (.imul, 1) := by decide +kernel
theorem dX12_copyRow42_20 : decode cX12_copyRow 20 = .ok (.iload 4, 2) := by decide +kernel
theorem dX12_copyRow42_22 : decode cX12_copyRow 22 = .ok (.iadd, 1) := by decide +kernel
theorem dX12_copyRow42_23 : decode cX12_copyRow 23 = .ok (.iaload, 1) := by decide +kernel
theorem dX12_copyRow42_24 : decode cX12_copyRow 24 = .ok (.iastore, 1) := by decide +kernel
theorem dX12_copyRow42_25 : decode cX12_copyRow 25 = .ok (.iinc 4 1, 3) := by decide +kernel
theorem dX12_copyRow42_28 : decode cX12_copyRow 28 = .ok (.goto (-25), 3) := by decide +kernel
theorem dX12_copyRow42_31 : decode cX12_copyRow 31 = .ok (.return_, 1) := by decide +kernel
def is_X12_copyRow42 : Nat → List Nat := fun d => if d = 3 then [0, 1, 2, 3, 4] else []
set_option maxRecDepth 100000 in
def b_X12_copyRow42_3 (J : Nat → List qV → List qV → qW → Prop) (Q : qR) : qK := x_iload 4 (x_iload 1 (x_icmp_ge (x_vret Q) (x_aload 0 (x_iload 1 (x_iload 3 (x_imul (x_iload 4 (x_iadd (x_aload 0 (x_iload 1 (x_iload 2 (x_imul (x_iload 4 (x_iadd (x_iald (x_iast (x_nw (x_iinc 4 1 (x_cut [0, 1, 2, 3, 4] (J 3))))))))))))))))))))
set_option maxRecDepth 100000 in
theorem s_X12_copyRow42_3 {p : Program} {l : Launch} {e : Env} {R : Room} {s : State} {m : MethodId} {args : Array Value} {below : List Frame} {meth : Method} {c : Code} {nW : Nat} {dC : Nat → ClassId} {dI : Nat → Nat → Nat} {k : Nat → ClassId} {g : Nat → Nat} {A : Nat → Prop} {J : Nat → List qV → List qV → qW → Prop} {Q : qR} (X : q_X p R s m args meth c cX12_copyRow 5 nW 0 0 RX12 none dC dI k g A) (hJ : ∀ d : Nat, q_Sd p l e R s m args below meth c 5 nW dC dI k g A (MQ below (q_post (dC, dI) k g nW Q A) args s 0 0 A) d (x_cut (is_X12_copyRow42 d) (J d))) : q_Sd p l e R s m args below meth c 5 nW dC dI k g A (MQ below (q_post (dC, dI) k g nW Q A) args s 0 0 A) 3 (b_X12_copyRow42_3 J Q) := by
  unfold b_X12_copyRow42_3
  refine s_iload X dX12_copyRow42_3 ?_
  refine s_iload_n X rfl dX12_copyRow42_5 ?_
  refine s_icmp_ge X (tgt := 31) dX12_copyRow42_6 (by decide) ?_ ?_
  · exact s_vret X dX12_copyRow42_31
  · refine s_aload_n X rfl dX12_copyRow42_9 ?_
    refine s_iload_n X rfl dX12_copyRow42_10 ?_
    refine s_iload_n X rfl dX12_copyRow42_11 ?_
    refine s_imul X dX12_copyRow42_12 ?_
    refine s_iload X dX12_copyRow42_13 ?_
    refine s_iadd X dX12_copyRow42_15 ?_
    refine s_aload_n X rfl dX12_copyRow42_16 ?_
    refine s_iload_n X rfl dX12_copyRow42_17 ?_
    refine s_iload_n X rfl dX12_copyRow42_18 ?_
    refine s_imul X dX12_copyRow42_19 ?_
    refine s_iload X dX12_copyRow42_20 ?_
    refine s_iadd X dX12_copyRow42_22 ?_
    refine s_iald X dX12_copyRow42_23 ?_
    refine s_iast X dX12_copyRow42_24 ?_
    refine s_nw ?_
    refine s_iinc X (by decide) dX12_copyRow42_25 ?_
    refine s_goto X (tgt := 3) dX12_copyRow42_28 (by decide) ?_
    exact hJ 3
set_option maxRecDepth 100000 in
def b_X12_copyRow42_0 (J : Nat → List qV → List qV → qW → Prop) (Q : qR) : qK := x_int 0 (x_istore 4 (x_cut [0, 1, 2, 3, 4] (J 3)))
set_option maxRecDepth 100000 in
theorem s_X12_copyRow42_0 {p : Program} {l : Launch} {e : Env} {R : Room} {s : State} {m : MethodId} {args : Array Value} {below : List Frame} {meth : Method} {c : Code} {nW : Nat} {dC : Nat → ClassId} {dI : Nat → Nat → Nat} {k : Nat → ClassId} {g : Nat → Nat} {A : Nat → Prop} {J : Nat → List qV → List qV → qW → Prop} {Q : qR} (X : q_X p R s m args meth c cX12_copyRow 5 nW 0 0 RX12 none dC dI k g A) (hJ : ∀ d : Nat, q_Sd p l e R s m args below meth c 5 nW dC dI k g A (MQ below (q_post (dC, dI) k g nW Q A) args s 0 0 A) d (x_cut (is_X12_copyRow42 d) (J d))) : q_Sd p l e R s m args below meth c 5 nW dC dI k g A (MQ below (q_post (dC, dI) k g nW Q A) args s 0 0 A) 0 (b_X12_copyRow42_0 J Q) := by
  unfold b_X12_copyRow42_0
  refine s_iconst X ⟨by decide, by decide⟩ dX12_copyRow42_0 ?_
  refine s_istore X (by decide) dX12_copyRow42_1 ?_
  exact hJ 3

def sp_X12_copyRow42 : qS := fun av w Q => ∃ (f : Nat → Int) (a : Int) (b : Int), av = [q2 0, q1 42, q1 a, q1 b] ∧ w = [.inl (0, 168, .inl f)] ∧ (0 ≤ a ∧ a ≤ 3 ∧ 0 ≤ b ∧ b ≤ 3 ∧ ¬ a = b) ∧ (∀ (g : Nat → Int), cpR 42 f g a b → Q none ([.inl (0, 168, .inl g)]))
def I_X12_copyRow42 (f : Nat → Int) (a : Int) (b : Int) : Nat → Nat → List qV → List qV → qW → Prop := fun dz mz vz sz wz => if dz = 3 then (∃ (h : Nat → Int) (v4 : Int), vz = [q2 0, q1 42, q1 a, q1 b, q1 v4] ∧ sz = [] ∧ wz = [.inl (0, 168, .inl h)] ∧ mz = (42 - v4).toNat ∧ (0 ≤ v4 ∧ v4 ≤ 42) ∧ (∀ j : Nat, h j = if (42 : Int) * b ≤ j ∧ (j : Int) < 42 * b + v4 then f (j - (42 : Int) * b + 42 * a).toNat else f j)) else False
set_option maxHeartbeats 4000000 in
set_option maxRecDepth 100000 in
theorem m_X12_copyRow42 (l : Launch) : q_M l yX12_copyRow cX12_copyRow 5 none 0 0 sp_X12_copyRow42 := by
  refine q_meth (by decide) (fun av w Q h => by obtain ⟨f, a, b, rfl, rfl, ha, hQ⟩ := h; exact Nat.le_of_ble_eq_true rfl) ?_
  intro p e R s m args below meth c dC dI k g A av w Q hsp oka okw X
  obtain ⟨f, a, b, rfl, rfl, ha, hQ⟩ := hsp
  have o_a : -2147483648 ≤ a ∧ a ≤ 2147483647 := oka _ (List.mem_of_getElem? (i := 2) rfl)
  have o_b : -2147483648 ≤ b ∧ b ≤ 2147483647 := oka _ (List.mem_of_getElem? (i := 3) rfl)
  refine s_mono (s_X12_copyRow42_0 X (J := fun dz vz sz wz => ∃ mz, I_X12_copyRow42 f a b dz mz vz sz wz) (q_loopn (I_X12_copyRow42 f a b) (fun dz J => if dz = 3 then b_X12_copyRow42_3 J Q else q_F) ?hs ?hv)) ?_
  case hs =>
    intro d J hJ
    by_cases h3 : d = 3
    · subst h3; exact s_X12_copyRow42_3 X hJ
    simp only [h3, if_false]
    exact s_F
  case hv =>
    intro dz mz vz sz wz hI okv oks okw hlen
    by_cases h3 : dz = 3
    · subst h3
      obtain ⟨h, v4, rfl, rfl, rfl, hn, hp, hh⟩ := hI
      apply And.intro
      · intro h6
        exact hQ _ (by intro j; rw [hh j, show v4 = (42 : Int) by omega]; rfl)
      · intro h6
        intro z12 h12
        first | replace h12 := e_mul h12 (by omega) | replace h12 := e_rng h12
        intro z15 h15
        first | replace h15 := e_add h15 (by omega) | replace h15 := e_rng h15
        intro z19 h19
        first | replace h19 := e_mul h19 (by omega) | replace h19 := e_rng h19
        intro z22 h22
        first | replace h22 := e_add h22 (by omega) | replace h22 := e_rng h22
        apply And.intro
        · exact ⟨by omega, by omega⟩
        intro z23 h23
        apply And.intro
        · exact ⟨by omega, by omega⟩
        intro z25 h25
        first | replace h25 := e_add h25 (by omega) | replace h25 := e_rng h25
        exact ⟨_, ⟨_, _, rfl, rfl, rfl, rfl, (by first | omega | assumption | exact q_rg_up (by assumption) (by omega) | exact q_rg_up (q_rg_up (by assumption) (by omega)) (by omega) | exact q_rg_cpy (by assumption) (by assumption)), (by first | exact cpR_s hh (by omega) h23 (by omega) (by omega) (by omega) (by omega) | (intro j; rw [if_neg (by omega)]))⟩, by omega⟩
    simp only [I_X12_copyRow42, h3, if_false] at hI
  rintro lv st w' ⟨rfl, rfl, rfl⟩
  exact ⟨_, _, _, rfl, rfl, rfl, rfl, (by first | omega | assumption | exact q_rg_up (by assumption) (by omega) | exact q_rg_up (q_rg_up (by assumption) (by omega)) (by omega) | exact q_rg_cpy (by assumption) (by assumption)), (by first | exact cpR_s hh (by omega) h23 (by omega) (by omega) (by omega) (by omega) | (intro j; rw [if_neg (by omega)]))⟩
