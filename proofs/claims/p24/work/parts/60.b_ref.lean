theorem dX12_in_0 : decode cX12_in 0 = .ok (.iload_n 0, 1) := by decide +kernel
theorem dX12_in_1 : decode cX12_in 1 = .ok (.iload_n 1, 1) := by decide +kernel
theorem dX12_in_2 : decode cX12_in 2 = .ok (.if_icmp .lt 12, 3) := by decide +kernel
theorem dX12_in_5 : decode cX12_in 5 = .ok (.iload_n 0, 1) := by decide +kernel
theorem dX12_in_6 : decode cX12_in 6 = .ok (.iload_n 2, 1) := by decide +kernel
theorem dX12_in_7 : decode cX12_in 7 = .ok (.if_icmp .gt 7, 3) := by decide +kernel
theorem dX12_in_10 : decode cX12_in 10 = .ok (.iconst 1, 1) := by decide +kernel
theorem dX12_in_11 : decode cX12_in 11 = .ok (.goto 4, 3) := by decide +kernel
theorem dX12_in_14 : decode cX12_in 14 = .ok (.iconst 0, 1) := by decide +kernel
theorem dX12_in_15 : decode cX12_in 15 = .ok (.ireturn, 1) := by decide +kernel
def is_X12_in : Nat → List Nat := fun d => []
set_option maxRecDepth 100000 in
def b_X12_in_15 (J : Nat → List qV → List qV → qW → Prop) (Q : qR) : qK := x_zret Q
set_option maxRecDepth 100000 in
theorem s_X12_in_15 {p : Program} {l : Launch} {e : Env} {R : Room} {s : State} {m : MethodId} {args : Array Value} {below : List Frame} {meth : Method} {c : Code} {nW : Nat} {dC : Nat → ClassId} {dI : Nat → Nat → Nat} {k : Nat → ClassId} {g : Nat → Nat} {A : Nat → Prop} {J : Nat → List qV → List qV → qW → Prop} {Q : qR} (X : q_X p R s m args meth c cX12_in 3 nW 0 0 RX12 (some .boolean) dC dI k g A) (hJ : ∀ d : Nat, q_Sd p l e R s m args below meth c 3 nW dC dI k g A (MQ below (q_post (dC, dI) k g nW Q A) args s 0 0 A) d (x_cut (is_X12_in d) (J d))) : q_Sd p l e R s m args below meth c 3 nW dC dI k g A (MQ below (q_post (dC, dI) k g nW Q A) args s 0 0 A) 15 (b_X12_in_15 J Q) := by
  unfold b_X12_in_15
  exact s_zret X dX12_in_15
set_option maxRecDepth 100000 in
def b_X12_in_14 (J : Nat → List qV → List qV → qW → Prop) (Q : qR) : qK := x_int 0 (b_X12_in_15 J Q)
set_option maxRecDepth 100000 in
theorem s_X12_in_14 {p : Program} {l : Launch} {e : Env} {R : Room} {s : State} {m : MethodId} {args : Array Value} {below : List Frame} {meth : Method} {c : Code} {nW : Nat} {dC : Nat → ClassId} {dI : Nat → Nat → Nat} {k : Nat → ClassId} {g : Nat → Nat} {A : Nat → Prop} {J : Nat → List qV → List qV → qW → Prop} {Q : qR} (X : q_X p R s m args meth c cX12_in 3 nW 0 0 RX12 (some .boolean) dC dI k g A) (hJ : ∀ d : Nat, q_Sd p l e R s m args below meth c 3 nW dC dI k g A (MQ below (q_post (dC, dI) k g nW Q A) args s 0 0 A) d (x_cut (is_X12_in d) (J d))) : q_Sd p l e R s m args below meth c 3 nW dC dI k g A (MQ below (q_post (dC, dI) k g nW Q A) args s 0 0 A) 14 (b_X12_in_14 J Q) := by
  unfold b_X12_in_14
  refine s_iconst X ⟨by decide, by decide⟩ dX12_in_14 ?_
  exact s_X12_in_15 X hJ
set_option maxRecDepth 100000 in
def b_X12_in_0 (J : Nat → List qV → List qV → qW → Prop) (Q : qR) : qK := x_iload 0 (x_iload 1 (x_icmp_lt (b_X12_in_14 J Q) (x_iload 0 (x_iload 2 (x_icmp_gt (b_X12_in_14 J Q) (x_int 1 (b_X12_in_15 J Q)))))))
set_option maxRecDepth 100000 in
theorem s_X12_in_0 {p : Program} {l : Launch} {e : Env} {R : Room} {s : State} {m : MethodId} {args : Array Value} {below : List Frame} {meth : Method} {c : Code} {nW : Nat} {dC : Nat → ClassId} {dI : Nat → Nat → Nat} {k : Nat → ClassId} {g : Nat → Nat} {A : Nat → Prop} {J : Nat → List qV → List qV → qW → Prop} {Q : qR} (X : q_X p R s m args meth c cX12_in 3 nW 0 0 RX12 (some .boolean) dC dI k g A) (hJ : ∀ d : Nat, q_Sd p l e R s m args below meth c 3 nW dC dI k g A (MQ below (q_post (dC, dI) k g nW Q A) args s 0 0 A) d (x_cut (is_X12_in d) (J d))) : q_Sd p l e R s m args below meth c 3 nW dC dI k g A (MQ below (q_post (dC, dI) k g nW Q A) args s 0 0 A) 0 (b_X12_in_0 J Q) := by
  unfold b_X12_in_0
  refine s_iload_n X rfl dX12_in_0 ?_
  refine s_iload_n X rfl dX12_in_1 ?_
  refine s_icmp_lt X (tgt := 14) dX12_in_2 (by decide) ?_ ?_
  · exact s_X12_in_14 X hJ
  · refine s_iload_n X rfl dX12_in_5 ?_
    refine s_iload_n X rfl dX12_in_6 ?_
    refine s_icmp_gt X (tgt := 14) dX12_in_7 (by decide) ?_ ?_
    · exact s_X12_in_14 X hJ
    · refine s_iconst X ⟨by decide, by decide⟩ dX12_in_10 ?_
      refine s_goto X (tgt := 15) dX12_in_11 (by decide) ?_
      exact s_X12_in_15 X hJ

def spr_X12_in : List qV → qW → (Option qV → Prop) → Prop := fun av w Q => ∃ (a : Int) (b : Int) (cc : Int), av = [q1 a, q1 b, q1 cc] ∧ w = [] ∧ (∀ (r : Int) , (r = 1 ∧ b ≤ a ∧ a ≤ cc ∨ r = 0 ∧ ¬ (b ≤ a ∧ a ≤ cc)) → Q (some (q1 r)))
def sp_X12_in : qS := fun av w Q => spr_X12_in av w (fun r => Q r w)
set_option maxHeartbeats 4000000 in
set_option maxRecDepth 100000 in
theorem m_X12_in (l : Launch) : q_M l yX12_in cX12_in 3 (some .boolean) 0 0 sp_X12_in := by
  refine q_meth (by decide) (fun av w Q h => by obtain ⟨a, b, cc, rfl, rfl, hQ⟩ := h; exact Nat.le_of_ble_eq_true rfl) ?_
  intro p e R s m args below meth c dC dI k g A av w Q hsp oka okw X
  obtain ⟨a, b, cc, rfl, rfl, hQ⟩ := hsp
  have o_a : -2147483648 ≤ a ∧ a ≤ 2147483647 := oka _ (List.mem_of_getElem? (i := 0) rfl)
  have o_b : -2147483648 ≤ b ∧ b ≤ 2147483647 := oka _ (List.mem_of_getElem? (i := 1) rfl)
  have o_cc : -2147483648 ≤ cc ∧ cc ≤ 2147483647 := oka _ (List.mem_of_getElem? (i := 2) rfl)
  refine s_mono (s_X12_in_0 X (J := fun _ _ _ _ => False) (fun d => s_cutF)) ?_
  rintro lv st w' ⟨rfl, rfl, rfl⟩
  apply And.intro
  · intro h2
    apply And.intro
    · first | exact Or.inl rfl | exact Or.inr rfl | omega
    exact hQ _ (by first | omega | assumption | exact q_rg_up (by assumption) (by omega) | exact q_rg_up (q_rg_up (by assumption) (by omega)) (by omega) | exact q_rg_cpy (by assumption) (by assumption))
  · intro h2
    apply And.intro
    · intro h7
      apply And.intro
      · first | exact Or.inl rfl | exact Or.inr rfl | omega
      exact hQ _ (by first | omega | assumption | exact q_rg_up (by assumption) (by omega) | exact q_rg_up (q_rg_up (by assumption) (by omega)) (by omega) | exact q_rg_cpy (by assumption) (by assumption))
    · intro h7
      apply And.intro
      · first | exact Or.inl rfl | exact Or.inr rfl | omega
      exact hQ _ (by first | omega | assumption | exact q_rg_up (by assumption) (by omega) | exact q_rg_up (q_rg_up (by assumption) (by omega)) (by omega) | exact q_rg_cpy (by assumption) (by assumption))

theorem dX12_has_0 : decode cX12_has 0 = .ok (.iload_n 0, 1) := by decide +kernel
theorem dX12_has_1 : decode cX12_has 1 = .ok (.iload_n 1, 1) := by decide +kernel
theorem dX12_has_2 : decode cX12_has 2 = .ok (.ishr, 1) := by decide +kernel
theorem dX12_has_3 : decode cX12_has 3 = .ok (.iconst 1, 1) := by decide +kernel
theorem dX12_has_4 : decode cX12_has 4 = .ok (.iand, 1) := by decide +kernel
theorem dX12_has_5 : decode cX12_has 5 = .ok (.iconst 1, 1) := by decide +kernel
theorem dX12_has_6 : decode cX12_has 6 = .ok (.if_icmp .ne 7, 3) := by decide +kernel
theorem dX12_has_9 : decode cX12_has 9 = .ok (.iconst 1, 1) := by decide +kernel
theorem dX12_has_10 : decode cX12_has 10 = .ok (.goto 4, 3) := by decide +kernel
theorem dX12_has_13 : decode cX12_has 13 = .ok (.iconst 0, 1) := by decide +kernel
theorem dX12_has_14 : decode cX12_has 14 = .ok (.ireturn, 1) := by decide +kernel
def is_X12_has : Nat → List Nat := fun d => []
set_option maxRecDepth 100000 in
def b_X12_has_14 (J : Nat → List qV → List qV → qW → Prop) (Q : qR) : qK := x_zret Q
set_option maxRecDepth 100000 in
theorem s_X12_has_14 {p : Program} {l : Launch} {e : Env} {R : Room} {s : State} {m : MethodId} {args : Array Value} {below : List Frame} {meth : Method} {c : Code} {nW : Nat} {dC : Nat → ClassId} {dI : Nat → Nat → Nat} {k : Nat → ClassId} {g : Nat → Nat} {A : Nat → Prop} {J : Nat → List qV → List qV → qW → Prop} {Q : qR} (X : q_X p R s m args meth c cX12_has 2 nW 0 0 RX12 (some .boolean) dC dI k g A) (hJ : ∀ d : Nat, q_Sd p l e R s m args below meth c 2 nW dC dI k g A (MQ below (q_post (dC, dI) k g nW Q A) args s 0 0 A) d (x_cut (is_X12_has d) (J d))) : q_Sd p l e R s m args below meth c 2 nW dC dI k g A (MQ below (q_post (dC, dI) k g nW Q A) args s 0 0 A) 14 (b_X12_has_14 J Q) := by
  unfold b_X12_has_14
  exact s_zret X dX12_has_14
set_option maxRecDepth 100000 in
def b_X12_has_0 (J : Nat → List qV → List qV → qW → Prop) (Q : qR) : qK := x_iload 0 (x_iload 1 (x_ishr (x_int 1 (x_iand (x_int 1 (x_icmp_ne (x_int 0 (b_X12_has_14 J Q)) (x_int 1 (b_X12_has_14 J Q))))))))
set_option maxRecDepth 100000 in
theorem s_X12_has_0 {p : Program} {l : Launch} {e : Env} {R : Room} {s : State} {m : MethodId} {args : Array Value} {below : List Frame} {meth : Method} {c : Code} {nW : Nat} {dC : Nat → ClassId} {dI : Nat → Nat → Nat} {k : Nat → ClassId} {g : Nat → Nat} {A : Nat → Prop} {J : Nat → List qV → List qV → qW → Prop} {Q : qR} (X : q_X p R s m args meth c cX12_has 2 nW 0 0 RX12 (some .boolean) dC dI k g A) (hJ : ∀ d : Nat, q_Sd p l e R s m args below meth c 2 nW dC dI k g A (MQ below (q_post (dC, dI) k g nW Q A) args s 0 0 A) d (x_cut (is_X12_has d) (J d))) : q_Sd p l e R s m args below meth c 2 nW dC dI k g A (MQ below (q_post (dC, dI) k g nW Q A) args s 0 0 A) 0 (b_X12_has_0 J Q) := by
  unfold b_X12_has_0
  refine s_iload_n X rfl dX12_has_0 ?_
  refine s_iload_n X rfl dX12_has_1 ?_
  refine s_ishr X dX12_has_2 ?_
  refine s_iconst X ⟨by decide, by decide⟩ dX12_has_3 ?_
  refine s_iand X dX12_has_4 ?_
  refine s_iconst X ⟨by decide, by decide⟩ dX12_has_5 ?_
  refine s_icmp_ne X (tgt := 13) dX12_has_6 (by decide) ?_ ?_
  · refine s_iconst X ⟨by decide, by decide⟩ dX12_has_13 ?_
    exact s_X12_has_14 X hJ
  · refine s_iconst X ⟨by decide, by decide⟩ dX12_has_9 ?_
    refine s_goto X (tgt := 14) dX12_has_10 (by decide) ?_
    exact s_X12_has_14 X hJ

def spr_X12_has : List qV → qW → (Option qV → Prop) → Prop := fun av w Q => ∃ (a : Int) (b : Int), av = [q1 a, q1 b] ∧ w = [] ∧ (∀ (r : Int) , (r = hasR a b ∧ (r = 0 ∨ r = 1)) → Q (some (q1 r)))
def sp_X12_has : qS := fun av w Q => spr_X12_has av w (fun r => Q r w)
set_option maxHeartbeats 4000000 in
set_option maxRecDepth 100000 in
theorem m_X12_has (l : Launch) : q_M l yX12_has cX12_has 2 (some .boolean) 0 0 sp_X12_has := by
  refine q_meth (by decide) (fun av w Q h => by obtain ⟨a, b, rfl, rfl, hQ⟩ := h; exact Nat.le_of_ble_eq_true rfl) ?_
  intro p e R s m args below meth c dC dI k g A av w Q hsp oka okw X
  obtain ⟨a, b, rfl, rfl, hQ⟩ := hsp
  have o_a : -2147483648 ≤ a ∧ a ≤ 2147483647 := oka _ (List.mem_of_getElem? (i := 0) rfl)
  have o_b : -2147483648 ≤ b ∧ b ≤ 2147483647 := oka _ (List.mem_of_getElem? (i := 1) rfl)
  refine s_mono (s_X12_has_0 X (J := fun _ _ _ _ => False) (fun d => s_cutF)) ?_
  rintro lv st w' ⟨rfl, rfl, rfl⟩
  intro z2 h2
  skip
  intro z4 h4
  skip
  apply And.intro
  · intro h6
    apply And.intro
    · first | exact Or.inl rfl | exact Or.inr rfl | omega
    exact hQ _ (by first | exact ⟨(by unfold hasR; rw [← h2, ← h4, if_pos h6]), Or.inr rfl⟩ | exact ⟨(by unfold hasR; rw [← h2, ← h4, if_neg h6]), Or.inl rfl⟩)
  · intro h6
    apply And.intro
    · first | exact Or.inl rfl | exact Or.inr rfl | omega
    exact hQ _ (by first | exact ⟨(by unfold hasR; rw [← h2, ← h4, if_pos h6]), Or.inr rfl⟩ | exact ⟨(by unfold hasR; rw [← h2, ← h4, if_neg h6]), Or.inl rfl⟩)

theorem dX12_greater_0 : decode cX12_greater 0 = .ok (.iload_n 0, 1) := by decide +kernel
theorem dX12_greater_1 : decode cX12_greater 1 = .ok (.iload_n 1, 1) := by decide +kernel
theorem dX12_greater_2 : decode cX12_greater 2 = .ok (.if_icmp .le 7, 3) := by decide +kernel
theorem dX12_greater_5 : decode cX12_greater 5 = .ok (.iload_n 0, 1) := by decide +kernel
theorem dX12_greater_6 : decode cX12_greater 6 = .ok (.goto 4, 3) := by decide +kernel
theorem dX12_greater_9 : decode cX12_greater 9 = .ok (.iload_n 1, 1) := by decide +kernel
theorem dX12_greater_10 : decode cX12_greater 10 = .ok (.ireturn, 1) := by decide +kernel
def is_X12_greater : Nat → List Nat := fun d => []
set_option maxRecDepth 100000 in
def b_X12_greater_10 (J : Nat → List qV → List qV → qW → Prop) (Q : qR) : qK := x_iret Q
set_option maxRecDepth 100000 in
theorem s_X12_greater_10 {p : Program} {l : Launch} {e : Env} {R : Room} {s : State} {m : MethodId} {args : Array Value} {below : List Frame} {meth : Method} {c : Code} {nW : Nat} {dC : Nat → ClassId} {dI : Nat → Nat → Nat} {k : Nat → ClassId} {g : Nat → Nat} {A : Nat → Prop} {J : Nat → List qV → List qV → qW → Prop} {Q : qR} (X : q_X p R s m args meth c cX12_greater 2 nW 0 0 RX12 (some .int) dC dI k g A) (hJ : ∀ d : Nat, q_Sd p l e R s m args below meth c 2 nW dC dI k g A (MQ below (q_post (dC, dI) k g nW Q A) args s 0 0 A) d (x_cut (is_X12_greater d) (J d))) : q_Sd p l e R s m args below meth c 2 nW dC dI k g A (MQ below (q_post (dC, dI) k g nW Q A) args s 0 0 A) 10 (b_X12_greater_10 J Q) := by
  unfold b_X12_greater_10
  exact s_iret X dX12_greater_10
set_option maxRecDepth 100000 in
def b_X12_greater_0 (J : Nat → List qV → List qV → qW → Prop) (Q : qR) : qK := x_iload 0 (x_iload 1 (x_icmp_le (x_iload 1 (b_X12_greater_10 J Q)) (x_iload 0 (b_X12_greater_10 J Q))))
set_option maxRecDepth 100000 in
theorem s_X12_greater_0 {p : Program} {l : Launch} {e : Env} {R : Room} {s : State} {m : MethodId} {args : Array Value} {below : List Frame} {meth : Method} {c : Code} {nW : Nat} {dC : Nat → ClassId} {dI : Nat → Nat → Nat} {k : Nat → ClassId} {g : Nat → Nat} {A : Nat → Prop} {J : Nat → List qV → List qV → qW → Prop} {Q : qR} (X : q_X p R s m args meth c cX12_greater 2 nW 0 0 RX12 (some .int) dC dI k g A) (hJ : ∀ d : Nat, q_Sd p l e R s m args below meth c 2 nW dC dI k g A (MQ below (q_post (dC, dI) k g nW Q A) args s 0 0 A) d (x_cut (is_X12_greater d) (J d))) : q_Sd p l e R s m args below meth c 2 nW dC dI k g A (MQ below (q_post (dC, dI) k g nW Q A) args s 0 0 A) 0 (b_X12_greater_0 J Q) := by
  unfold b_X12_greater_0
  refine s_iload_n X rfl dX12_greater_0 ?_
  refine s_iload_n X rfl dX12_greater_1 ?_
  refine s_icmp_le X (tgt := 9) dX12_greater_2 (by decide) ?_ ?_
  · refine s_iload_n X rfl dX12_greater_9 ?_
    exact s_X12_greater_10 X hJ
  · refine s_iload_n X rfl dX12_greater_5 ?_
    refine s_goto X (tgt := 10) dX12_greater_6 (by decide) ?_
    exact s_X12_greater_10 X hJ

def spr_X12_greater : List qV → qW → (Option qV → Prop) → Prop := fun av w Q => ∃ (a : Int) (b : Int), av = [q1 a, q1 b] ∧ w = [] ∧ (∀ (r : Int) , (a ≤ b ∧ r = b ∨ b < a ∧ r = a) → Q (some (q1 r)))
def sp_X12_greater : qS := fun av w Q => spr_X12_greater av w (fun r => Q r w)
set_option maxHeartbeats 4000000 in
set_option maxRecDepth 100000 in
theorem m_X12_greater (l : Launch) : q_M l yX12_greater cX12_greater 2 (some .int) 0 0 sp_X12_greater := by
  refine q_meth (by decide) (fun av w Q h => by obtain ⟨a, b, rfl, rfl, hQ⟩ := h; exact Nat.le_of_ble_eq_true rfl) ?_
  intro p e R s m args below meth c dC dI k g A av w Q hsp oka okw X
  obtain ⟨a, b, rfl, rfl, hQ⟩ := hsp
  have o_a : -2147483648 ≤ a ∧ a ≤ 2147483647 := oka _ (List.mem_of_getElem? (i := 0) rfl)
  have o_b : -2147483648 ≤ b ∧ b ≤ 2147483647 := oka _ (List.mem_of_getElem? (i := 1) rfl)
  refine s_mono (s_X12_greater_0 X (J := fun _ _ _ _ => False) (fun d => s_cutF)) ?_
  rintro lv st w' ⟨rfl, rfl, rfl⟩
  apply And.intro
  · intro h2
    exact hQ _ (by first | omega | assumption | exact q_rg_up (by assumption) (by omega) | exact q_rg_up (q_rg_up (by assumption) (by omega)) (by omega) | exact q_rg_cpy (by assumption) (by assumption))
  · intro h2
    exact hQ _ (by first | omega | assumption | exact q_rg_up (by assumption) (by omega) | exact q_rg_up (q_rg_up (by assumption) (by omega)) (by omega) | exact q_rg_cpy (by assumption) (by assumption))

theorem dX12_lesser_0 : decode cX12_lesser 0 = .ok (.iload_n 0, 1) := by decide +kernel
theorem dX12_lesser_1 : decode cX12_lesser 1 = .ok (.iload_n 1, 1) := by decide +kernel
theorem dX12_lesser_2 : decode cX12_lesser 2 = .ok (.if_icmp .ge 7, 3) := by decide +kernel
theorem dX12_lesser_5 : decode cX12_lesser 5 = .ok (.iload_n 0, 1) := by decide +kernel
theorem dX12_lesser_6 : decode cX12_lesser 6 = .ok (.goto 4, 3) := by decide +kernel
theorem dX12_lesser_9 : decode cX12_lesser 9 = .ok (.iload_n 1, 1) := by decide +kernel
theorem dX12_lesser_10 : decode cX12_lesser 10 = .ok (.ireturn, 1) := by decide +kernel
def is_X12_lesser : Nat → List Nat := fun d => []
set_option maxRecDepth 100000 in
def b_X12_lesser_10 (J : Nat → List qV → List qV → qW → Prop) (Q : qR) : qK := x_iret Q
set_option maxRecDepth 100000 in
theorem s_X12_lesser_10 {p : Program} {l : Launch} {e : Env} {R : Room} {s : State} {m : MethodId} {args : Array Value} {below : List Frame} {meth : Method} {c : Code} {nW : Nat} {dC : Nat → ClassId} {dI : Nat → Nat → Nat} {k : Nat → ClassId} {g : Nat → Nat} {A : Nat → Prop} {J : Nat → List qV → List qV → qW → Prop} {Q : qR} (X : q_X p R s m args meth c cX12_lesser 2 nW 0 0 RX12 (some .int) dC dI k g A) (hJ : ∀ d : Nat, q_Sd p l e R s m args below meth c 2 nW dC dI k g A (MQ below (q_post (dC, dI) k g nW Q A) args s 0 0 A) d (x_cut (is_X12_lesser d) (J d))) : q_Sd p l e R s m args below meth c 2 nW dC dI k g A (MQ below (q_post (dC, dI) k g nW Q A) args s 0 0 A) 10 (b_X12_lesser_10 J Q) := by
  unfold b_X12_lesser_10
  exact s_iret X dX12_lesser_10
set_option maxRecDepth 100000 in
def b_X12_lesser_0 (J : Nat → List qV → List qV → qW → Prop) (Q : qR) : qK := x_iload 0 (x_iload 1 (x_icmp_ge (x_iload 1 (b_X12_lesser_10 J Q)) (x_iload 0 (b_X12_lesser_10 J Q))))
set_option maxRecDepth 100000 in
theorem s_X12_lesser_0 {p : Program} {l : Launch} {e : Env} {R : Room} {s : State} {m : MethodId} {args : Array Value} {below : List Frame} {meth : Method} {c : Code} {nW : Nat} {dC : Nat → ClassId} {dI : Nat → Nat → Nat} {k : Nat → ClassId} {g : Nat → Nat} {A : Nat → Prop} {J : Nat → List qV → List qV → qW → Prop} {Q : qR} (X : q_X p R s m args meth c cX12_lesser 2 nW 0 0 RX12 (some .int) dC dI k g A) (hJ : ∀ d : Nat, q_Sd p l e R s m args below meth c 2 nW dC dI k g A (MQ below (q_post (dC, dI) k g nW Q A) args s 0 0 A) d (x_cut (is_X12_lesser d) (J d))) : q_Sd p l e R s m args below meth c 2 nW dC dI k g A (MQ below (q_post (dC, dI) k g nW Q A) args s 0 0 A) 0 (b_X12_lesser_0 J Q) := by
  unfold b_X12_lesser_0
  refine s_iload_n X rfl dX12_lesser_0 ?_
  refine s_iload_n X rfl dX12_lesser_1 ?_
  refine s_icmp_ge X (tgt := 9) dX12_lesser_2 (by decide) ?_ ?_
  · refine s_iload_n X rfl dX12_lesser_9 ?_
    exact s_X12_lesser_10 X hJ
  · refine s_iload_n X rfl dX12_lesser_5 ?_
    refine s_goto X (tgt := 10) dX12_lesser_6 (by decide) ?_
    exact s_X12_lesser_10 X hJ

def spr_X12_lesser : List qV → qW → (Option qV → Prop) → Prop := fun av w Q => ∃ (a : Int) (b : Int), av = [q1 a, q1 b] ∧ w = [] ∧ (∀ (r : Int) , (a < b ∧ r = a ∨ b ≤ a ∧ r = b) → Q (some (q1 r)))
def sp_X12_lesser : qS := fun av w Q => spr_X12_lesser av w (fun r => Q r w)
set_option maxHeartbeats 4000000 in
set_option maxRecDepth 100000 in
theorem m_X12_lesser (l : Launch) : q_M l yX12_lesser cX12_lesser 2 (some .int) 0 0 sp_X12_lesser := by
  refine q_meth (by decide) (fun av w Q h => by obtain ⟨a, b, rfl, rfl, hQ⟩ := h; exact Nat.le_of_ble_eq_true rfl) ?_
  intro p e R s m args below meth c dC dI k g A av w Q hsp oka okw X
  obtain ⟨a, b, rfl, rfl, hQ⟩ := hsp
  have o_a : -2147483648 ≤ a ∧ a ≤ 2147483647 := oka _ (List.mem_of_getElem? (i := 0) rfl)
  have o_b : -2147483648 ≤ b ∧ b ≤ 2147483647 := oka _ (List.mem_of_getElem? (i := 1) rfl)
  refine s_mono (s_X12_lesser_0 X (J := fun _ _ _ _ => False) (fun d => s_cutF)) ?_
  rintro lv st w' ⟨rfl, rfl, rfl⟩
  apply And.intro
  · intro h2
    exact hQ _ (by first | omega | assumption | exact q_rg_up (by assumption) (by omega) | exact q_rg_up (q_rg_up (by assumption) (by omega)) (by omega) | exact q_rg_cpy (by assumption) (by assumption))
  · intro h2
    exact hQ _ (by first | omega | assumption | exact q_rg_up (by assumption) (by omega) | exact q_rg_up (q_rg_up (by assumption) (by omega)) (by omega) | exact q_rg_cpy (by assumption) (by assumption))

theorem dX12_ones_0 : decode cX12_ones 0 = .ok (.iconst 0, 1) := by decide +kernel
theorem dX12_ones_1 : decode cX12_ones 1 = .ok (.istore_n 1, 1) := by decide +kernel
theorem dX12_ones_2 : decode cX12_ones 2 = .ok (.iconst 0, 1) := by decide +kernel
theorem dX12_ones_3 : decode cX12_ones 3 = .ok (.istore_n 2, 1) := by decide +kernel
theorem dX12_ones_4 : decode cX12_ones 4 = .ok (.iload_n 2, 1) := by decide +kernel
theorem dX12_ones_5 : decode cX12_ones 5 = .ok (.bipush 8, 2) := by decide +kernel
theorem dX12_ones_7 : decode cX12_ones 7 = .ok (.if_icmp .ge 25, 3) := by decide +kernel
theorem dX12_ones_10 : decode cX12_ones 10 = .ok (.iload_n 1, 1) := by decide +kernel
theorem dX12_ones_11 : decode cX12_ones 11 = .ok (.iload_n 0, 1) := by decide +kernel
theorem dX12_ones_12 : decode cX12_ones 12 = .ok (.iload_n 2, 1) := by decide +kernel
theorem dX12_ones_13 : decode cX12_ones 13 = .ok (.invokestatic 92, 3) := by decide +kernel
theorem dX12_ones_16 : decode cX12_ones 16 = .ok (.ifCond .eq 7, 3) := by decide +kernel
theorem dX12_ones_19 : decode cX12_ones 19 = .ok (.iconst 1, 1) := by decide +kernel
theorem dX12_ones_20 : decode cX12_ones 20 = .ok (.goto 4, 3) := by decide +kernel
theorem dX12_ones_23 : decode cX12_ones 23 = .ok (.iconst 0, 1) := by decide +kernel
theorem dX12_ones_24 : decode cX12_ones 24 = .ok (.iadd, 1) := by decide +kernel
theorem dX12_ones_25 : decode cX12_ones 25 = .ok (.istore_n 1, 1) := by decide +kernel
theorem dX12_ones_26 : decode cX12_ones 26 = .ok (.iinc 2 1, 3) := by decide +kernel
theorem dX12_ones_29 : decode cX12_ones 29 = .ok (.goto (-25), 3) := by decide +kernel
theorem dX12_ones_32 : decode cX12_ones 32 = .ok (.iload_n 1, 1) := by decide +kernel
theorem dX12_ones_33 : decode cX12_ones 33 = .ok (.ireturn, 1) := by decide +kernel
def is_X12_ones : Nat → List Nat := fun d => if d = 4 then [0, 1, 2] else []
set_option maxRecDepth 100000 in
def b_X12_ones_24 (J : Nat → List qV → List qV → qW → Prop) (Q : qR) : qK := x_iadd (x_istore 1 (x_iinc 2 1 (x_cut [0, 1, 2] (J 4))))
set_option maxRecDepth 100000 in
theorem s_X12_ones_24 {p : Program} {l : Launch} {e : Env} {R : Room} {s : State} {m : MethodId} {args : Array Value} {below : List Frame} {meth : Method} {c : Code} {nW : Nat} {dC : Nat → ClassId} {dI : Nat → Nat → Nat} {k : Nat → ClassId} {g : Nat → Nat} {A : Nat → Prop} {J : Nat → List qV → List qV → qW → Prop} {Q : qR} (X : q_X p R s m args meth c cX12_ones 3 nW 1 21 RX12 (some .int) dC dI k g A) (hJ : ∀ d : Nat, q_Sd p l e R s m args below meth c 3 nW dC dI k g A (MQ below (q_post (dC, dI) k g nW Q A) args s 0 0 A) d (x_cut (is_X12_ones d) (J d))) : q_Sd p l e R s m args below meth c 3 nW dC dI k g A (MQ below (q_post (dC, dI) k g nW Q A) args s 0 0 A) 24 (b_X12_ones_24 J Q) := by
  unfold b_X12_ones_24
  refine s_iadd X dX12_ones_24 ?_
  refine s_istore_n X rfl (by decide) dX12_ones_25 ?_
  refine s_iinc X (by decide) dX12_ones_26 ?_
  refine s_goto X (tgt := 4) dX12_ones_29 (by decide) ?_
  exact hJ 4
set_option maxRecDepth 100000 in
def b_X12_ones_4 (J : Nat → List qV → List qV → qW → Prop) (Q : qR) : qK := x_iload 2 (x_int 8 (x_icmp_ge (x_iload 1 (x_iret Q)) (x_iload 1 (x_iload 0 (x_iload 2 (x_callr none 2 spr_X12_has (x_if_eq (x_int 0 (b_X12_ones_24 J Q)) (x_int 1 (b_X12_ones_24 J Q)))))))))
set_option maxRecDepth 100000 in
theorem s_X12_ones_4 {p : Program} {l : Launch} {e : Env} {R : Room} {s : State} {m : MethodId} {args : Array Value} {below : List Frame} {meth : Method} {c : Code} {nW : Nat} {dC : Nat → ClassId} {dI : Nat → Nat → Nat} {k : Nat → ClassId} {g : Nat → Nat} {A : Nat → Prop} {J : Nat → List qV → List qV → qW → Prop} {Q : qR} (X : q_X p R s m args meth c cX12_ones 3 nW 1 21 RX12 (some .int) dC dI k g A) (hJ : ∀ d : Nat, q_Sd p l e R s m args below meth c 3 nW dC dI k g A (MQ below (q_post (dC, dI) k g nW Q A) args s 0 0 A) d (x_cut (is_X12_ones d) (J d))) : q_Sd p l e R s m args below meth c 3 nW dC dI k g A (MQ below (q_post (dC, dI) k g nW Q A) args s 0 0 A) 4 (b_X12_ones_4 J Q) := by
  unfold b_X12_ones_4
  refine s_iload_n X rfl dX12_ones_4 ?_
  refine s_bipush X ⟨by decide, by decide⟩ (by decide) dX12_ones_5 ?_
  refine s_icmp_ge X (tgt := 32) dX12_ones_7 (by decide) ?_ ?_
  · refine s_iload_n X rfl dX12_ones_32 ?_
    exact s_iret X dX12_ones_33
  · refine s_iload_n X rfl dX12_ones_10 ?_
    refine s_iload_n X rfl dX12_ones_11 ?_
    refine s_iload_n X rfl dX12_ones_12 ?_
    refine s_callSr X (m_X12_has l) tw_1233 tw_1234 tw_134 tw_1235 (by decide +kernel) ⟨by decide, by decide⟩ dX12_ones_13 ?_
    refine s_if_eq X (tgt := 23) dX12_ones_16 (by decide) ?_ ?_
    · refine s_iconst X ⟨by decide, by decide⟩ dX12_ones_23 ?_
      exact s_X12_ones_24 X hJ
    · refine s_iconst X ⟨by decide, by decide⟩ dX12_ones_19 ?_
      refine s_goto X (tgt := 24) dX12_ones_20 (by decide) ?_
      exact s_X12_ones_24 X hJ
set_option maxRecDepth 100000 in
def b_X12_ones_0 (J : Nat → List qV → List qV → qW → Prop) (Q : qR) : qK := x_int 0 (x_istore 1 (x_int 0 (x_istore 2 (x_cut [0, 1, 2] (J 4)))))
set_option maxRecDepth 100000 in
theorem s_X12_ones_0 {p : Program} {l : Launch} {e : Env} {R : Room} {s : State} {m : MethodId} {args : Array Value} {below : List Frame} {meth : Method} {c : Code} {nW : Nat} {dC : Nat → ClassId} {dI : Nat → Nat → Nat} {k : Nat → ClassId} {g : Nat → Nat} {A : Nat → Prop} {J : Nat → List qV → List qV → qW → Prop} {Q : qR} (X : q_X p R s m args meth c cX12_ones 3 nW 1 21 RX12 (some .int) dC dI k g A) (hJ : ∀ d : Nat, q_Sd p l e R s m args below meth c 3 nW dC dI k g A (MQ below (q_post (dC, dI) k g nW Q A) args s 0 0 A) d (x_cut (is_X12_ones d) (J d))) : q_Sd p l e R s m args below meth c 3 nW dC dI k g A (MQ below (q_post (dC, dI) k g nW Q A) args s 0 0 A) 0 (b_X12_ones_0 J Q) := by
  unfold b_X12_ones_0
  refine s_iconst X ⟨by decide, by decide⟩ dX12_ones_0 ?_
  refine s_istore_n X rfl (by decide) dX12_ones_1 ?_
  refine s_iconst X ⟨by decide, by decide⟩ dX12_ones_2 ?_
  refine s_istore_n X rfl (by decide) dX12_ones_3 ?_
  exact hJ 4

def spr_X12_ones : List qV → qW → (Option qV → Prop) → Prop := fun av w Q => ∃ (a : Int), av = [q1 a] ∧ w = [] ∧ (∀ (r : Int) , (0 ≤ r ∧ r ≤ 8) → Q (some (q1 r)))
def sp_X12_ones : qS := fun av w Q => spr_X12_ones av w (fun r => Q r w)
def I_X12_ones (a : Int) : Nat → Nat → List qV → List qV → qW → Prop := fun dz mz vz sz wz => if dz = 4 then (∃ (v1 : Int) (v2 : Int), vz = [q1 a, q1 v1, q1 v2] ∧ sz = [] ∧ wz = [] ∧ mz = (8 - v2).toNat ∧ (0 ≤ v2 ∧ v2 ≤ 8) ∧ (0 ≤ v1 ∧ v1 ≤ v2)) else False
set_option maxHeartbeats 4000000 in
set_option maxRecDepth 100000 in
theorem m_X12_ones (l : Launch) : q_M l yX12_ones cX12_ones 3 (some .int) 1 21 sp_X12_ones := by
  refine q_meth (by decide) (fun av w Q h => by obtain ⟨a, rfl, rfl, hQ⟩ := h; exact Nat.le_of_ble_eq_true rfl) ?_
  intro p e R s m args below meth c dC dI k g A av w Q hsp oka okw X
  obtain ⟨a, rfl, rfl, hQ⟩ := hsp
  have o_a : -2147483648 ≤ a ∧ a ≤ 2147483647 := oka _ (List.mem_of_getElem? (i := 0) rfl)
  refine s_mono (s_X12_ones_0 X (J := fun dz vz sz wz => ∃ mz, I_X12_ones a dz mz vz sz wz) (q_loopn (I_X12_ones a) (fun dz J => if dz = 4 then b_X12_ones_4 J Q else q_F) ?hs ?hv)) ?_
  case hs =>
    intro d J hJ
    by_cases h4 : d = 4
    · subst h4; exact s_X12_ones_4 X hJ
    simp only [h4, if_false]
    exact s_F
  case hv =>
    intro dz mz vz sz wz hI okv oks okw hlen
    by_cases h4 : dz = 4
    · subst h4
      obtain ⟨v1, v2, rfl, rfl, rfl, hn, hp, hn1⟩ := hI
      apply And.intro
      · intro h7
        exact hQ _ (by first | omega | assumption | exact q_rg_up (by assumption) (by omega) | exact q_rg_up (q_rg_up (by assumption) (by omega)) (by omega) | exact q_rg_cpy (by assumption) (by assumption))
      · intro h7
        refine Exists.intro [] (Exists.intro [q1 _, q1 _] (Exists.intro [] (And.intro rfl (And.intro rfl (And.intro rfl (And.intro trivial ?_))))))
        refine Exists.intro _ (Exists.intro _ (And.intro rfl (And.intro rfl (?_))))
        intro z13 h13
        apply And.intro
        · intro h16
          intro z24 h24
          first | replace h24 := e_add h24 (by omega) | replace h24 := e_rng h24
          intro z26 h26
          first | replace h26 := e_add h26 (by omega) | replace h26 := e_rng h26
          exact ⟨_, ⟨_, _, rfl, rfl, rfl, rfl, (by first | omega | assumption | exact q_rg_up (by assumption) (by omega) | exact q_rg_up (q_rg_up (by assumption) (by omega)) (by omega) | exact q_rg_cpy (by assumption) (by assumption)), (by first | omega | assumption | exact q_rg_up (by assumption) (by omega) | exact q_rg_up (q_rg_up (by assumption) (by omega)) (by omega) | exact q_rg_cpy (by assumption) (by assumption))⟩, by omega⟩
        · intro h16
          intro z24 h24
          first | replace h24 := e_add h24 (by omega) | replace h24 := e_rng h24
          intro z26 h26
          first | replace h26 := e_add h26 (by omega) | replace h26 := e_rng h26
          exact ⟨_, ⟨_, _, rfl, rfl, rfl, rfl, (by first | omega | assumption | exact q_rg_up (by assumption) (by omega) | exact q_rg_up (q_rg_up (by assumption) (by omega)) (by omega) | exact q_rg_cpy (by assumption) (by assumption)), (by first | omega | assumption | exact q_rg_up (by assumption) (by omega) | exact q_rg_up (q_rg_up (by assumption) (by omega)) (by omega) | exact q_rg_cpy (by assumption) (by assumption))⟩, by omega⟩
    simp only [I_X12_ones, h4, if_false] at hI
  rintro lv st w' ⟨rfl, rfl, rfl⟩
  exact ⟨_, _, _, rfl, rfl, rfl, rfl, (by first | omega | assumption | exact q_rg_up (by assumption) (by omega) | exact q_rg_up (q_rg_up (by assumption) (by omega)) (by omega) | exact q_rg_cpy (by assumption) (by assumption)), (by first | omega | assumption | exact q_rg_up (by assumption) (by omega) | exact q_rg_up (q_rg_up (by assumption) (by omega)) (by omega) | exact q_rg_cpy (by assumption) (by assumption))⟩

theorem dX12_cell_0 : decode cX12_cell 0 = .ok (.bipush 7, 2) := by decide +kernel
theorem dX12_cell_2 : decode cX12_cell 2 = .ok (.sipush 256, 3) := by decide +kernel
theorem dX12_cell_5 : decode cX12_cell 5 = .ok (.iload_n 0, 1) := by decide +kernel
theorem dX12_cell_6 : decode cX12_cell 6 = .ok (.imul, 1) := by decide +kernel
theorem dX12_cell_7 : decode cX12_cell 7 = .ok (.iload_n 1, 1) := by decide +kernel
theorem dX12_cell_8 : decode cX12_cell 8 = .ok (.iadd, 1) := by decide +kernel
theorem dX12_cell_9 : decode cX12_cell 9 = .ok (.imul, 1) := by decide +kernel
theorem dX12_cell_10 : decode cX12_cell 10 = .ok (.iload_n 2, 1) := by decide +kernel
theorem dX12_cell_11 : decode cX12_cell 11 = .ok (.iadd, 1) := by decide +kernel
theorem dX12_cell_12 : decode cX12_cell 12 = .ok (.ireturn, 1) := by decide +kernel
def is_X12_cell : Nat → List Nat := fun d => []
set_option maxRecDepth 100000 in
def b_X12_cell_0 (J : Nat → List qV → List qV → qW → Prop) (Q : qR) : qK := x_int 7 (x_int 256 (x_iload 0 (x_imul (x_iload 1 (x_iadd (x_imul (x_iload 2 (x_iadd (x_iret Q)))))))))
set_option maxRecDepth 100000 in
theorem s_X12_cell_0 {p : Program} {l : Launch} {e : Env} {R : Room} {s : State} {m : MethodId} {args : Array Value} {below : List Frame} {meth : Method} {c : Code} {nW : Nat} {dC : Nat → ClassId} {dI : Nat → Nat → Nat} {k : Nat → ClassId} {g : Nat → Nat} {A : Nat → Prop} {J : Nat → List qV → List qV → qW → Prop} {Q : qR} (X : q_X p R s m args meth c cX12_cell 3 nW 0 0 RX12 (some .int) dC dI k g A) (hJ : ∀ d : Nat, q_Sd p l e R s m args below meth c 3 nW dC dI k g A (MQ below (q_post (dC, dI) k g nW Q A) args s 0 0 A) d (x_cut (is_X12_cell d) (J d))) : q_Sd p l e R s m args below meth c 3 nW dC dI k g A (MQ below (q_post (dC, dI) k g nW Q A) args s 0 0 A) 0 (b_X12_cell_0 J Q) := by
  unfold b_X12_cell_0
  refine s_bipush X ⟨by decide, by decide⟩ (by decide) dX12_cell_0 ?_
  refine s_sipush X ⟨by decide, by decide⟩ (by decide) dX12_cell_2 ?_
  refine s_iload_n X rfl dX12_cell_5 ?_
  refine s_imul X dX12_cell_6 ?_
  refine s_iload_n X rfl dX12_cell_7 ?_
  refine s_iadd X dX12_cell_8 ?_
  refine s_imul X dX12_cell_9 ?_
  refine s_iload_n X rfl dX12_cell_10 ?_
  refine s_iadd X dX12_cell_11 ?_
  exact s_iret X dX12_cell_12

def spr_X12_cell : List qV → qW → (Option qV → Prop) → Prop := fun av w Q => ∃ (a : Int) (b : Int) (cc : Int), av = [q1 a, q1 b, q1 cc] ∧ w = [] ∧ (0 ≤ a ∧ a ≤ 6 ∧ 0 ≤ b ∧ b ≤ 255 ∧ 0 ≤ cc ∧ cc ≤ 6) ∧ (∀ (r : Int) , r = 7 * (256 * a + b) + cc → Q (some (q1 r)))
def sp_X12_cell : qS := fun av w Q => spr_X12_cell av w (fun r => Q r w)
set_option maxHeartbeats 4000000 in
set_option maxRecDepth 100000 in
theorem m_X12_cell (l : Launch) : q_M l yX12_cell cX12_cell 3 (some .int) 0 0 sp_X12_cell := by
  refine q_meth (by decide) (fun av w Q h => by obtain ⟨a, b, cc, rfl, rfl, ha, hQ⟩ := h; exact Nat.le_of_ble_eq_true rfl) ?_
  intro p e R s m args below meth c dC dI k g A av w Q hsp oka okw X
  obtain ⟨a, b, cc, rfl, rfl, ha, hQ⟩ := hsp
  have o_a : -2147483648 ≤ a ∧ a ≤ 2147483647 := oka _ (List.mem_of_getElem? (i := 0) rfl)
  have o_b : -2147483648 ≤ b ∧ b ≤ 2147483647 := oka _ (List.mem_of_getElem? (i := 1) rfl)
  have o_cc : -2147483648 ≤ cc ∧ cc ≤ 2147483647 := oka _ (List.mem_of_getElem? (i := 2) rfl)
  refine s_mono (s_X12_cell_0 X (J := fun _ _ _ _ => False) (fun d => s_cutF)) ?_
  rintro lv st w' ⟨rfl, rfl, rfl⟩
  intro z6 h6
  first | replace h6 := e_mul h6 (by omega) | replace h6 := e_rng h6
  intro z8 h8
  first | replace h8 := e_add h8 (by omega) | replace h8 := e_rng h8
  intro z9 h9
  first | replace h9 := e_mul h9 (by omega) | replace h9 := e_rng h9
  intro z11 h11
  first | replace h11 := e_add h11 (by omega) | replace h11 := e_rng h11
  exact hQ _ (by first | omega | assumption | exact q_rg_up (by assumption) (by omega) | exact q_rg_up (q_rg_up (by assumption) (by omega)) (by omega) | exact q_rg_cpy (by assumption) (by assumption))

theorem dX12_leastOf_0 : decode cX12_leastOf 0 = .ok (.iconst 0, 1) := by decide +kernel
theorem dX12_leastOf_1 : decode cX12_leastOf 1 = .ok (.istore_n 1, 1) := by decide +kernel
theorem dX12_leastOf_2 : decode cX12_leastOf 2 = .ok (.iload_n 0, 1) := by decide +kernel
theorem dX12_leastOf_3 : decode cX12_leastOf 3 = .ok (.iload_n 1, 1) := by decide +kernel
theorem dX12_leastOf_4 : decode cX12_leastOf 4 = .ok (.invokestatic 92, 3) := by decide +kernel
theorem dX12_leastOf_7 : decode cX12_leastOf 7 = .ok (.ifCond .ne 9, 3) := by decide +kernel
theorem dX12_leastOf_10 : decode cX12_leastOf 10 = .ok (.iinc 1 1, 3) := by decide +kernel
theorem dX12_leastOf_13 : decode cX12_leastOf 13 = .ok (.goto (-11), 3) := by decide +kernel
theorem dX12_leastOf_16 : decode cX12_leastOf 16 = .ok (.iload_n 1, 1) := by decide +kernel
theorem dX12_leastOf_17 : decode cX12_leastOf 17 = .ok (.ireturn, 1) := by decide +kernel
def is_X12_leastOf : Nat → List Nat := fun d => if d = 2 then [0, 1] else []
set_option maxRecDepth 100000 in
def b_X12_leastOf_2 (J : Nat → List qV → List qV → qW → Prop) (Q : qR) : qK := x_iload 0 (x_iload 1 (x_callr none 2 spr_X12_has (x_if_ne (x_iload 1 (x_iret Q)) (x_iinc 1 1 (x_cut [0, 1] (J 2))))))
set_option maxRecDepth 100000 in
theorem s_X12_leastOf_2 {p : Program} {l : Launch} {e : Env} {R : Room} {s : State} {m : MethodId} {args : Array Value} {below : List Frame} {meth : Method} {c : Code} {nW : Nat} {dC : Nat → ClassId} {dI : Nat → Nat → Nat} {k : Nat → ClassId} {g : Nat → Nat} {A : Nat → Prop} {J : Nat → List qV → List qV → qW → Prop} {Q : qR} (X : q_X p R s m args meth c cX12_leastOf 2 nW 1 21 RX12 (some .int) dC dI k g A) (hJ : ∀ d : Nat, q_Sd p l e R s m args below meth c 2 nW dC dI k g A (MQ below (q_post (dC, dI) k g nW Q A) args s 0 0 A) d (x_cut (is_X12_leastOf d) (J d))) : q_Sd p l e R s m args below meth c 2 nW dC dI k g A (MQ below (q_post (dC, dI) k g nW Q A) args s 0 0 A) 2 (b_X12_leastOf_2 J Q) := by
  unfold b_X12_leastOf_2
  refine s_iload_n X rfl dX12_leastOf_2 ?_
  refine s_iload_n X rfl dX12_leastOf_3 ?_
  refine s_callSr X (m_X12_has l) tw_1233 tw_1234 tw_134 tw_1235 (by decide +kernel) ⟨by decide, by decide⟩ dX12_leastOf_4 ?_
  refine s_if_ne X (tgt := 16) dX12_leastOf_7 (by decide) ?_ ?_
  · refine s_iload_n X rfl dX12_leastOf_16 ?_
    exact s_iret X dX12_leastOf_17
  · refine s_iinc X (by decide) dX12_leastOf_10 ?_
    refine s_goto X (tgt := 2) dX12_leastOf_13 (by decide) ?_
    exact hJ 2
set_option maxRecDepth 100000 in
def b_X12_leastOf_0 (J : Nat → List qV → List qV → qW → Prop) (Q : qR) : qK := x_int 0 (x_istore 1 (x_cut [0, 1] (J 2)))
set_option maxRecDepth 100000 in
theorem s_X12_leastOf_0 {p : Program} {l : Launch} {e : Env} {R : Room} {s : State} {m : MethodId} {args : Array Value} {below : List Frame} {meth : Method} {c : Code} {nW : Nat} {dC : Nat → ClassId} {dI : Nat → Nat → Nat} {k : Nat → ClassId} {g : Nat → Nat} {A : Nat → Prop} {J : Nat → List qV → List qV → qW → Prop} {Q : qR} (X : q_X p R s m args meth c cX12_leastOf 2 nW 1 21 RX12 (some .int) dC dI k g A) (hJ : ∀ d : Nat, q_Sd p l e R s m args below meth c 2 nW dC dI k g A (MQ below (q_post (dC, dI) k g nW Q A) args s 0 0 A) d (x_cut (is_X12_leastOf d) (J d))) : q_Sd p l e R s m args below meth c 2 nW dC dI k g A (MQ below (q_post (dC, dI) k g nW Q A) args s 0 0 A) 0 (b_X12_leastOf_0 J Q) := by
  unfold b_X12_leastOf_0
  refine s_iconst X ⟨by decide, by decide⟩ dX12_leastOf_0 ?_
  refine s_istore_n X rfl (by decide) dX12_leastOf_1 ?_
  exact hJ 2

def spr_X12_leastOf : List qV → qW → (Option qV → Prop) → Prop := fun av w Q => ∃ (a : Int), av = [q1 a] ∧ w = [] ∧ (1 ≤ a ∧ a ≤ 255) ∧ (∀ (r : Int) , (0 ≤ r ∧ r ≤ 7) → Q (some (q1 r)))
def sp_X12_leastOf : qS := fun av w Q => spr_X12_leastOf av w (fun r => Q r w)
def I_X12_leastOf (a : Int) : Nat → Nat → List qV → List qV → qW → Prop := fun dz mz vz sz wz => if dz = 2 then (∃ (v1 : Int), vz = [q1 a, q1 v1] ∧ sz = [] ∧ wz = [] ∧ mz = (8 - v1).toNat ∧ (0 ≤ v1 ∧ v1 ≤ 7) ∧ (∀ j : Nat, (j : Int) < v1 → hasR a j = 0)) else False
set_option maxHeartbeats 4000000 in
set_option maxRecDepth 100000 in
theorem m_X12_leastOf (l : Launch) : q_M l yX12_leastOf cX12_leastOf 2 (some .int) 1 21 sp_X12_leastOf := by
  refine q_meth (by decide) (fun av w Q h => by obtain ⟨a, rfl, rfl, ha, hQ⟩ := h; exact Nat.le_of_ble_eq_true rfl) ?_
  intro p e R s m args below meth c dC dI k g A av w Q hsp oka okw X
  obtain ⟨a, rfl, rfl, ha, hQ⟩ := hsp
  have o_a : -2147483648 ≤ a ∧ a ≤ 2147483647 := oka _ (List.mem_of_getElem? (i := 0) rfl)
  refine s_mono (s_X12_leastOf_0 X (J := fun dz vz sz wz => ∃ mz, I_X12_leastOf a dz mz vz sz wz) (q_loopn (I_X12_leastOf a) (fun dz J => if dz = 2 then b_X12_leastOf_2 J Q else q_F) ?hs ?hv)) ?_
  case hs =>
    intro d J hJ
    by_cases h2 : d = 2
    · subst h2; exact s_X12_leastOf_2 X hJ
    simp only [h2, if_false]
    exact s_F
  case hv =>
    intro dz mz vz sz wz hI okv oks okw hlen
    by_cases h2 : dz = 2
    · subst h2
      obtain ⟨v1, rfl, rfl, rfl, hn, hp, hz⟩ := hI
      refine Exists.intro [] (Exists.intro [q1 _, q1 _] (Exists.intro [] (And.intro rfl (And.intro rfl (And.intro rfl (And.intro trivial ?_))))))
      refine Exists.intro _ (Exists.intro _ (And.intro rfl (And.intro rfl (?_))))
      intro z4 h4
      apply And.intro
      · intro h7
        exact hQ _ (by first | omega | assumption | exact q_rg_up (by assumption) (by omega) | exact q_rg_up (q_rg_up (by assumption) (by omega)) (by omega) | exact q_rg_cpy (by assumption) (by assumption))
      · intro h7
        have hz2 : ∀ j : Nat, (j : Int) < v1 + 1 → hasR a j = 0 := fun j hj => by
          by_cases e : (j : Int) = v1
          · rw [e]; omega
          · exact hz j (by omega)
        have h8 : v1 + 1 ≤ 7 := by
          by_cases e : v1 = 7
          · exact (hasR_ex ha (fun j hj => hz2 j (by omega))).elim
          · omega
        intro z10 h10
        first | replace h10 := e_add h10 (by omega) | replace h10 := e_rng h10
        exact ⟨_, ⟨_, rfl, rfl, rfl, rfl, (by first | omega | assumption | exact q_rg_up (by assumption) (by omega) | exact q_rg_up (q_rg_up (by assumption) (by omega)) (by omega) | exact q_rg_cpy (by assumption) (by assumption)), (by first | (intro j hj; exfalso; omega) | (intro j hj; exact hz2 j (by omega)))⟩, by omega⟩
    simp only [I_X12_leastOf, h2, if_false] at hI
  rintro lv st w' ⟨rfl, rfl, rfl⟩
  exact ⟨_, _, rfl, rfl, rfl, rfl, (by first | omega | assumption | exact q_rg_up (by assumption) (by omega) | exact q_rg_up (q_rg_up (by assumption) (by omega)) (by omega) | exact q_rg_cpy (by assumption) (by assumption)), (by first | (intro j hj; exfalso; omega) | (intro j hj; exact hz2 j (by omega)))⟩

theorem dX12_choose_0 : decode cX12_choose 0 = .ok (.lconst 1, 1) := by decide +kernel
theorem dX12_choose_1 : decode cX12_choose 1 = .ok (.lstore_n 2, 1) := by decide +kernel
theorem dX12_choose_2 : decode cX12_choose 2 = .ok (.iconst 1, 1) := by decide +kernel
theorem dX12_choose_3 : decode cX12_choose 3 = .ok (.istore 4, 2) := by decide +kernel
theorem dX12_choose_5 : decode cX12_choose 5 = .ok (.iload 4, 2) := by decide +kernel
theorem dX12_choose_7 : decode cX12_choose 7 = .ok (.iload_n 1, 1) := by decide +kernel
theorem dX12_choose_8 : decode cX12_choose 8 = .ok (.if_icmp .gt 23, 3) := by decide +kernel
theorem dX12_choose_11 : decode cX12_choose 11 = .ok (.lload_n 2, 1) := by decide +kernel
theorem dX12_choose_12 : decode cX12_choose 12 = .ok (.iload_n 0, 1) := by decide +kernel
theorem dX12_choose_13 : decode cX12_choose 13 = .ok (.iload_n 1, 1) := by decide +kernel
theorem dX12_choose_14 : decode cX12_choose 14 = .ok (.isub, 1) := by decide +kernel
theorem dX12_choose_15 : decode cX12_choose 15 = .ok (.iload 4, 2) := by decide +kernel
theorem dX12_choose_17 : decode cX12_choose 17 = .ok (.iadd, 1) := by decide +kernel
theorem dX12_choose_18 : decode cX12_choose 18 = .ok (.i2l, 1) := by decide +kernel
theorem dX12_choose_19 : decode cX12_choose 19 = .ok (.lmul, 1) := by decide +kernel
theorem dX12_choose_20 : decode cX12_choose 20 = .ok (.iload 4, 2) := by decide +kernel
theorem dX12_choose_22 : decode cX12_choose 22 = .ok (.i2l, 1) := by decide +kernel
theorem dX12_choose_23 : decode cX12_choose 23 = .ok (.ldiv, 1) := by decide +kernel
theorem dX12_choose_24 : decode cX12_choose 24 = .ok (.lstore_n 2, 1) := by decide +kernel
theorem dX12_choose_25 : decode cX12_choose 25 = .ok (.iinc 4 1, 3) := by decide +kernel
theorem dX12_choose_28 : decode cX12_choose 28 = .ok (.goto (-23), 3) := by decide +kernel
theorem dX12_choose_31 : decode cX12_choose 31 = .ok (.lload_n 2, 1) := by decide +kernel
theorem dX12_choose_32 : decode cX12_choose 32 = .ok (.lreturn, 1) := by decide +kernel
def is_X12_choose : Nat → List Nat := fun d => if d = 5 then [0, 1, 2, 4] else []
set_option maxRecDepth 100000 in
def b_X12_choose_5 (J : Nat → List qV → List qV → qW → Prop) (Q : qR) : qK := x_iload 4 (x_iload 1 (x_icmp_gt (x_lload 2 (x_lret Q)) (x_lload 2 (x_iload 0 (x_iload 1 (x_isub (x_iload 4 (x_iadd (x_i2l (x_lmul (x_iload 4 (x_i2l (x_ldiv (x_lstore 2 (x_iinc 4 1 (x_cut [0, 1, 2, 4] (J 5)))))))))))))))))
set_option maxRecDepth 100000 in
theorem s_X12_choose_5 {p : Program} {l : Launch} {e : Env} {R : Room} {s : State} {m : MethodId} {args : Array Value} {below : List Frame} {meth : Method} {c : Code} {nW : Nat} {dC : Nat → ClassId} {dI : Nat → Nat → Nat} {k : Nat → ClassId} {g : Nat → Nat} {A : Nat → Prop} {J : Nat → List qV → List qV → qW → Prop} {Q : qR} (X : q_X p R s m args meth c cX12_choose 5 nW 0 0 RX12 (some .long) dC dI k g A) (hJ : ∀ d : Nat, q_Sd p l e R s m args below meth c 5 nW dC dI k g A (MQ below (q_post (dC, dI) k g nW Q A) args s 0 0 A) d (x_cut (is_X12_choose d) (J d))) : q_Sd p l e R s m args below meth c 5 nW dC dI k g A (MQ below (q_post (dC, dI) k g nW Q A) args s 0 0 A) 5 (b_X12_choose_5 J Q) := by
  unfold b_X12_choose_5
  refine s_iload X dX12_choose_5 ?_
  refine s_iload_n X rfl dX12_choose_7 ?_
  refine s_icmp_gt X (tgt := 31) dX12_choose_8 (by decide) ?_ ?_
  · refine s_lload_n X rfl dX12_choose_31 ?_
    exact s_lret X dX12_choose_32
  · refine s_lload_n X rfl dX12_choose_11 ?_
    refine s_iload_n X rfl dX12_choose_12 ?_
    refine s_iload_n X rfl dX12_choose_13 ?_
    refine s_isub X dX12_choose_14 ?_
    refine s_iload X dX12_choose_15 ?_
    refine s_iadd X dX12_choose_17 ?_
    refine s_i2l X dX12_choose_18 ?_
    refine s_lmul X dX12_choose_19 ?_
    refine s_iload X dX12_choose_20 ?_
    refine s_i2l X dX12_choose_22 ?_
    refine s_ldiv X dX12_choose_23 ?_
    refine s_lstore_n X rfl (by decide) dX12_choose_24 ?_
    refine s_iinc X (by decide) dX12_choose_25 ?_
    refine s_goto X (tgt := 5) dX12_choose_28 (by decide) ?_
    exact hJ 5
set_option maxRecDepth 100000 in
def b_X12_choose_0 (J : Nat → List qV → List qV → qW → Prop) (Q : qR) : qK := x_lng 1 (x_lstore 2 (x_int 1 (x_istore 4 (x_cut [0, 1, 2, 4] (J 5)))))
set_option maxRecDepth 100000 in
theorem s_X12_choose_0 {p : Program} {l : Launch} {e : Env} {R : Room} {s : State} {m : MethodId} {args : Array Value} {below : List Frame} {meth : Method} {c : Code} {nW : Nat} {dC : Nat → ClassId} {dI : Nat → Nat → Nat} {k : Nat → ClassId} {g : Nat → Nat} {A : Nat → Prop} {J : Nat → List qV → List qV → qW → Prop} {Q : qR} (X : q_X p R s m args meth c cX12_choose 5 nW 0 0 RX12 (some .long) dC dI k g A) (hJ : ∀ d : Nat, q_Sd p l e R s m args below meth c 5 nW dC dI k g A (MQ below (q_post (dC, dI) k g nW Q A) args s 0 0 A) d (x_cut (is_X12_choose d) (J d))) : q_Sd p l e R s m args below meth c 5 nW dC dI k g A (MQ below (q_post (dC, dI) k g nW Q A) args s 0 0 A) 0 (b_X12_choose_0 J Q) := by
  unfold b_X12_choose_0
  refine s_lconst X ⟨by decide, by decide⟩ (by decide) dX12_choose_0 ?_
  refine s_lstore_n X rfl (by decide) dX12_choose_1 ?_
  refine s_iconst X ⟨by decide, by decide⟩ dX12_choose_2 ?_
  refine s_istore X (by decide) dX12_choose_3 ?_
  exact hJ 5

def spr_X12_choose : List qV → qW → (Option qV → Prop) → Prop := fun av w Q => ∃ (a : Int) (b : Int), av = [q1 a, q1 b] ∧ w = [] ∧ (0 ≤ b ∧ b ≤ 8 ∧ 0 ≤ a ∧ a ≤ 8) ∧ (∀ (r : Int) , Q (some (q3 r)))
def sp_X12_choose : qS := fun av w Q => spr_X12_choose av w (fun r => Q r w)
def I_X12_choose (a : Int) (b : Int) : Nat → Nat → List qV → List qV → qW → Prop := fun dz mz vz sz wz => if dz = 5 then (∃ (v2 : Int) (v4 : Int), vz = [q1 a, q1 b, q3 v2, q1 v4] ∧ sz = [] ∧ wz = [] ∧ mz = (b + 1 - v4).toNat ∧ (1 ≤ v4 ∧ (v4 ≤ b + 1 ∨ v4 = 1))) else False
set_option maxHeartbeats 4000000 in
set_option maxRecDepth 100000 in
theorem m_X12_choose (l : Launch) : q_M l yX12_choose cX12_choose 5 (some .long) 0 0 sp_X12_choose := by
  refine q_meth (by decide) (fun av w Q h => by obtain ⟨a, b, rfl, rfl, ha, hQ⟩ := h; exact Nat.le_of_ble_eq_true rfl) ?_
  intro p e R s m args below meth c dC dI k g A av w Q hsp oka okw X
  obtain ⟨a, b, rfl, rfl, ha, hQ⟩ := hsp
  have o_a : -2147483648 ≤ a ∧ a ≤ 2147483647 := oka _ (List.mem_of_getElem? (i := 0) rfl)
  have o_b : -2147483648 ≤ b ∧ b ≤ 2147483647 := oka _ (List.mem_of_getElem? (i := 1) rfl)
  refine s_mono (s_X12_choose_0 X (J := fun dz vz sz wz => ∃ mz, I_X12_choose a b dz mz vz sz wz) (q_loopn (I_X12_choose a b) (fun dz J => if dz = 5 then b_X12_choose_5 J Q else q_F) ?hs ?hv)) ?_
  case hs =>
    intro d J hJ
    by_cases h5 : d = 5
    · subst h5; exact s_X12_choose_5 X hJ
    simp only [h5, if_false]
    exact s_F
  case hv =>
    intro dz mz vz sz wz hI okv oks okw hlen
    by_cases h5 : dz = 5
    · subst h5
      obtain ⟨v2, v4, rfl, rfl, rfl, hn, hp⟩ := hI
      apply And.intro
      · intro h8
        exact hQ _
      · intro h8
        intro z14 h14
        first | replace h14 := e_sub h14 (by omega) | replace h14 := e_rng h14
        intro z17 h17
        first | replace h17 := e_add h17 (by omega) | replace h17 := e_rng h17
        intro z19 h19
        replace h19 := e_rngl h19
        apply And.intro
        · first | omega | (intro e9; omega)
        intro z23 h23
        replace h23 := e_rngl h23
        intro z25 h25
        first | replace h25 := e_add h25 (by omega) | replace h25 := e_rng h25
        exact ⟨_, ⟨_, _, rfl, rfl, rfl, rfl, (by first | omega | assumption | exact q_rg_up (by assumption) (by omega) | exact q_rg_up (q_rg_up (by assumption) (by omega)) (by omega) | exact q_rg_cpy (by assumption) (by assumption))⟩, by omega⟩
    simp only [I_X12_choose, h5, if_false] at hI
  rintro lv st w' ⟨rfl, rfl, rfl⟩
  exact ⟨_, _, _, rfl, rfl, rfl, rfl, (by first | omega | assumption | exact q_rg_up (by assumption) (by omega) | exact q_rg_up (q_rg_up (by assumption) (by omega)) (by omega) | exact q_rg_cpy (by assumption) (by assumption))⟩

theorem dX12_deedBy_0 : decode cX12_deedBy 0 = .ok (.lload_n 0, 1) := by decide +kernel
theorem dX12_deedBy_1 : decode cX12_deedBy 1 = .ok (.ldc2_w 230, 3) := by decide +kernel
theorem dX12_deedBy_4 : decode cX12_deedBy 4 = .ok (.lcmp, 1) := by decide +kernel
theorem dX12_deedBy_5 : decode cX12_deedBy 5 = .ok (.ifCond .ne 7, 3) := by decide +kernel
theorem dX12_deedBy_8 : decode cX12_deedBy 8 = .ok (.iconst 0, 1) := by decide +kernel
theorem dX12_deedBy_9 : decode cX12_deedBy 9 = .ok (.goto 52, 3) := by decide +kernel
theorem dX12_deedBy_12 : decode cX12_deedBy 12 = .ok (.lload_n 0, 1) := by decide +kernel
theorem dX12_deedBy_13 : decode cX12_deedBy 13 = .ok (.ldc2_w 232, 3) := by decide +kernel
theorem dX12_deedBy_16 : decode cX12_deedBy 16 = .ok (.lcmp, 1) := by decide +kernel
theorem dX12_deedBy_17 : decode cX12_deedBy 17 = .ok (.ifCond .ne 7, 3) := by decide +kernel
theorem dX12_deedBy_20 : decode cX12_deedBy 20 = .ok (.iconst 1, 1) := by decide +kernel
theorem dX12_deedBy_21 : decode cX12_deedBy 21 = .ok (.goto 40, 3) := by decide +kernel
theorem dX12_deedBy_24 : decode cX12_deedBy 24 = .ok (.lload_n 0, 1) := by decide +kernel
theorem dX12_deedBy_25 : decode cX12_deedBy 25 = .ok (.ldc2_w 234, 3) := by decide +kernel
theorem dX12_deedBy_28 : decode cX12_deedBy 28 = .ok (.lcmp, 1) := by decide +kernel
theorem dX12_deedBy_29 : decode cX12_deedBy 29 = .ok (.ifCond .ne 7, 3) := by decide +kernel
theorem dX12_deedBy_32 : decode cX12_deedBy 32 = .ok (.iconst 2, 1) := by decide +kernel
theorem dX12_deedBy_33 : decode cX12_deedBy 33 = .ok (.goto 28, 3) := by decide +kernel
theorem dX12_deedBy_36 : decode cX12_deedBy 36 = .ok (.lload_n 0, 1) := by decide +kernel
theorem dX12_deedBy_37 : decode cX12_deedBy 37 = .ok (.ldc2_w 236, 3) := by decide +kernel
theorem dX12_deedBy_40 : decode cX12_deedBy 40 = .ok (.lcmp, 1) := by decide +kernel
theorem dX12_deedBy_41 : decode cX12_deedBy 41 = .ok (.ifCond .ne 7, 3) := by decide +kernel
theorem dX12_deedBy_44 : decode cX12_deedBy 44 = .ok (.iconst 3, 1) := by decide +kernel
theorem dX12_deedBy_45 : decode cX12_deedBy 45 = .ok (.goto 16, 3) := by decide +kernel
theorem dX12_deedBy_48 : decode cX12_deedBy 48 = .ok (.lload_n 0, 1) := by decide +kernel
theorem dX12_deedBy_49 : decode cX12_deedBy 49 = .ok (.ldc2_w 238, 3) := by decide +kernel
theorem dX12_deedBy_52 : decode cX12_deedBy 52 = .ok (.lcmp, 1) := by decide +kernel
theorem dX12_deedBy_53 : decode cX12_deedBy 53 = .ok (.ifCond .ne 7, 3) := by decide +kernel
theorem dX12_deedBy_56 : decode cX12_deedBy 56 = .ok (.iconst 4, 1) := by decide +kernel
theorem dX12_deedBy_57 : decode cX12_deedBy 57 = .ok (.goto 4, 3) := by decide +kernel
theorem dX12_deedBy_60 : decode cX12_deedBy 60 = .ok (.iconst (-1), 1) := by decide +kernel
theorem dX12_deedBy_61 : decode cX12_deedBy 61 = .ok (.ireturn, 1) := by decide +kernel
def is_X12_deedBy : Nat → List Nat := fun d => []
set_option maxRecDepth 100000 in
def b_X12_deedBy_61 (J : Nat → List qV → List qV → qW → Prop) (Q : qR) : qK := x_iret Q
set_option maxRecDepth 100000 in
theorem s_X12_deedBy_61 {p : Program} {l : Launch} {e : Env} {R : Room} {s : State} {m : MethodId} {args : Array Value} {below : List Frame} {meth : Method} {c : Code} {nW : Nat} {dC : Nat → ClassId} {dI : Nat → Nat → Nat} {k : Nat → ClassId} {g : Nat → Nat} {A : Nat → Prop} {J : Nat → List qV → List qV → qW → Prop} {Q : qR} (X : q_X p R s m args meth c cX12_deedBy 2 nW 0 0 RX12 (some .int) dC dI k g A) (hJ : ∀ d : Nat, q_Sd p l e R s m args below meth c 2 nW dC dI k g A (MQ below (q_post (dC, dI) k g nW Q A) args s 0 0 A) d (x_cut (is_X12_deedBy d) (J d))) : q_Sd p l e R s m args below meth c 2 nW dC dI k g A (MQ below (q_post (dC, dI) k g nW Q A) args s 0 0 A) 61 (b_X12_deedBy_61 J Q) := by
  unfold b_X12_deedBy_61
  exact s_iret X dX12_deedBy_61
set_option maxRecDepth 100000 in
def b_X12_deedBy_48 (J : Nat → List qV → List qV → qW → Prop) (Q : qR) : qK := x_lload 0 (x_lng 1734960756 (x_lcmp (x_if_ne (x_int (-1) (b_X12_deedBy_61 J Q)) (x_int 4 (b_X12_deedBy_61 J Q)))))
set_option maxRecDepth 100000 in
theorem s_X12_deedBy_48 {p : Program} {l : Launch} {e : Env} {R : Room} {s : State} {m : MethodId} {args : Array Value} {below : List Frame} {meth : Method} {c : Code} {nW : Nat} {dC : Nat → ClassId} {dI : Nat → Nat → Nat} {k : Nat → ClassId} {g : Nat → Nat} {A : Nat → Prop} {J : Nat → List qV → List qV → qW → Prop} {Q : qR} (X : q_X p R s m args meth c cX12_deedBy 2 nW 0 0 RX12 (some .int) dC dI k g A) (hJ : ∀ d : Nat, q_Sd p l e R s m args below meth c 2 nW dC dI k g A (MQ below (q_post (dC, dI) k g nW Q A) args s 0 0 A) d (x_cut (is_X12_deedBy d) (J d))) : q_Sd p l e R s m args below meth c 2 nW dC dI k g A (MQ below (q_post (dC, dI) k g nW Q A) args s 0 0 A) 48 (b_X12_deedBy_48 J Q) := by
  unfold b_X12_deedBy_48
  refine s_lload_n X rfl dX12_deedBy_48 ?_
  refine s_ldc2 X ⟨by decide, by decide⟩ tw_1153 dX12_deedBy_49 ?_
  refine s_lcmp X dX12_deedBy_52 ?_
  refine s_if_ne X (tgt := 60) dX12_deedBy_53 (by decide) ?_ ?_
  · refine s_iconst X ⟨by decide, by decide⟩ dX12_deedBy_60 ?_
    exact s_X12_deedBy_61 X hJ
  · refine s_iconst X ⟨by decide, by decide⟩ dX12_deedBy_56 ?_
    refine s_goto X (tgt := 61) dX12_deedBy_57 (by decide) ?_
    exact s_X12_deedBy_61 X hJ
set_option maxRecDepth 100000 in
def b_X12_deedBy_0 (J : Nat → List qV → List qV → qW → Prop) (Q : qR) : qK := x_lload 0 (x_lng 1718185573 (x_lcmp (x_if_ne (x_lload 0 (x_lng 1650551148 (x_lcmp (x_if_ne (x_lload 0 (x_lng 1734964837 (x_lcmp (x_if_ne (x_lload 0 (x_lng 32497656998945640 (x_lcmp (x_if_ne (b_X12_deedBy_48 J Q) (x_int 3 (b_X12_deedBy_61 J Q)))))) (x_int 2 (b_X12_deedBy_61 J Q)))))) (x_int 1 (b_X12_deedBy_61 J Q)))))) (x_int 0 (b_X12_deedBy_61 J Q)))))
set_option maxRecDepth 100000 in
theorem s_X12_deedBy_0 {p : Program} {l : Launch} {e : Env} {R : Room} {s : State} {m : MethodId} {args : Array Value} {below : List Frame} {meth : Method} {c : Code} {nW : Nat} {dC : Nat → ClassId} {dI : Nat → Nat → Nat} {k : Nat → ClassId} {g : Nat → Nat} {A : Nat → Prop} {J : Nat → List qV → List qV → qW → Prop} {Q : qR} (X : q_X p R s m args meth c cX12_deedBy 2 nW 0 0 RX12 (some .int) dC dI k g A) (hJ : ∀ d : Nat, q_Sd p l e R s m args below meth c 2 nW dC dI k g A (MQ below (q_post (dC, dI) k g nW Q A) args s 0 0 A) d (x_cut (is_X12_deedBy d) (J d))) : q_Sd p l e R s m args below meth c 2 nW dC dI k g A (MQ below (q_post (dC, dI) k g nW Q A) args s 0 0 A) 0 (b_X12_deedBy_0 J Q) := by
  unfold b_X12_deedBy_0
  refine s_lload_n X rfl dX12_deedBy_0 ?_
  refine s_ldc2 X ⟨by decide, by decide⟩ tw_1149 dX12_deedBy_1 ?_
  refine s_lcmp X dX12_deedBy_4 ?_
  refine s_if_ne X (tgt := 12) dX12_deedBy_5 (by decide) ?_ ?_
  · refine s_lload_n X rfl dX12_deedBy_12 ?_
    refine s_ldc2 X ⟨by decide, by decide⟩ tw_1150 dX12_deedBy_13 ?_
    refine s_lcmp X dX12_deedBy_16 ?_
    refine s_if_ne X (tgt := 24) dX12_deedBy_17 (by decide) ?_ ?_
    · refine s_lload_n X rfl dX12_deedBy_24 ?_
      refine s_ldc2 X ⟨by decide, by decide⟩ tw_1151 dX12_deedBy_25 ?_
      refine s_lcmp X dX12_deedBy_28 ?_
      refine s_if_ne X (tgt := 36) dX12_deedBy_29 (by decide) ?_ ?_
      · refine s_lload_n X rfl dX12_deedBy_36 ?_
        refine s_ldc2 X ⟨by decide, by decide⟩ tw_1152 dX12_deedBy_37 ?_
        refine s_lcmp X dX12_deedBy_40 ?_
        refine s_if_ne X (tgt := 48) dX12_deedBy_41 (by decide) ?_ ?_
        · exact s_X12_deedBy_48 X hJ
        · refine s_iconst X ⟨by decide, by decide⟩ dX12_deedBy_44 ?_
          refine s_goto X (tgt := 61) dX12_deedBy_45 (by decide) ?_
          exact s_X12_deedBy_61 X hJ
      · refine s_iconst X ⟨by decide, by decide⟩ dX12_deedBy_32 ?_
        refine s_goto X (tgt := 61) dX12_deedBy_33 (by decide) ?_
        exact s_X12_deedBy_61 X hJ
    · refine s_iconst X ⟨by decide, by decide⟩ dX12_deedBy_20 ?_
      refine s_goto X (tgt := 61) dX12_deedBy_21 (by decide) ?_
      exact s_X12_deedBy_61 X hJ
  · refine s_iconst X ⟨by decide, by decide⟩ dX12_deedBy_8 ?_
    refine s_goto X (tgt := 61) dX12_deedBy_9 (by decide) ?_
    exact s_X12_deedBy_61 X hJ

def spr_X12_deedBy : List qV → qW → (Option qV → Prop) → Prop := fun av w Q => ∃ (ww : Int), av = [q3 ww] ∧ w = [] ∧ (∀ (r : Int) , -1 ≤ r ∧ r ≤ 4 → Q (some (q1 r)))
def sp_X12_deedBy : qS := fun av w Q => spr_X12_deedBy av w (fun r => Q r w)
set_option maxHeartbeats 4000000 in
set_option maxRecDepth 100000 in
theorem m_X12_deedBy (l : Launch) : q_M l yX12_deedBy cX12_deedBy 2 (some .int) 0 0 sp_X12_deedBy := by
  refine q_meth (by decide) (fun av w Q h => by obtain ⟨ww, rfl, rfl, hQ⟩ := h; exact Nat.le_of_ble_eq_true rfl) ?_
  intro p e R s m args below meth c dC dI k g A av w Q hsp oka okw X
  obtain ⟨ww, rfl, rfl, hQ⟩ := hsp
  refine s_mono (s_X12_deedBy_0 X (J := fun _ _ _ _ => False) (fun d => s_cutF)) ?_
  rintro lv st w' ⟨rfl, rfl, rfl⟩
  intro z4 h4
  replace h4 := e_cmp h4
  apply And.intro
  · intro h5
    intro z16 h16
    replace h16 := e_cmp h16
    apply And.intro
    · intro h17
      intro z28 h28
      replace h28 := e_cmp h28
      apply And.intro
      · intro h29
        intro z40 h40
        replace h40 := e_cmp h40
        apply And.intro
        · intro h41
          intro z52 h52
          replace h52 := e_cmp h52
          apply And.intro
          · intro h53
            exact hQ _ (by first | omega | assumption | exact q_rg_up (by assumption) (by omega) | exact q_rg_up (q_rg_up (by assumption) (by omega)) (by omega) | exact q_rg_cpy (by assumption) (by assumption))
          · intro h53
            exact hQ _ (by first | omega | assumption | exact q_rg_up (by assumption) (by omega) | exact q_rg_up (q_rg_up (by assumption) (by omega)) (by omega) | exact q_rg_cpy (by assumption) (by assumption))
        · intro h41
          exact hQ _ (by first | omega | assumption | exact q_rg_up (by assumption) (by omega) | exact q_rg_up (q_rg_up (by assumption) (by omega)) (by omega) | exact q_rg_cpy (by assumption) (by assumption))
      · intro h29
        exact hQ _ (by first | omega | assumption | exact q_rg_up (by assumption) (by omega) | exact q_rg_up (q_rg_up (by assumption) (by omega)) (by omega) | exact q_rg_cpy (by assumption) (by assumption))
    · intro h17
      exact hQ _ (by first | omega | assumption | exact q_rg_up (by assumption) (by omega) | exact q_rg_up (q_rg_up (by assumption) (by omega)) (by omega) | exact q_rg_cpy (by assumption) (by assumption))
  · intro h5
    exact hQ _ (by first | omega | assumption | exact q_rg_up (by assumption) (by omega) | exact q_rg_up (q_rg_up (by assumption) (by omega)) (by omega) | exact q_rg_cpy (by assumption) (by assumption))
