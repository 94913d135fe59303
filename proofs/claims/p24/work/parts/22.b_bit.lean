theorem dJ6_bitCount_0f7a4_0 : decode cJ6_bitCount_0f7a4 0 = .ok (.iload_n 0, 1) := by decide +kernel
theorem dJ6_bitCount_0f7a4_1 : decode cJ6_bitCount_0f7a4 1 = .ok (.iload_n 0, 1) := by decide +kernel
theorem dJ6_bitCount_0f7a4_2 : decode cJ6_bitCount_0f7a4 2 = .ok (.iconst 1, 1) := by decide +kernel
theorem dJ6_bitCount_0f7a4_3 : decode cJ6_bitCount_0f7a4 3 = .ok (.iushr, 1) := by decide +kernel
theorem dJ6_bitCount_0f7a4_4 : decode cJ6_bitCount_0f7a4 4 = .ok (.ldc_w 265, 3) := by decide +kernel
theorem dJ6_bitCount_0f7a4_7 : decode cJ6_bitCount_0f7a4 7 = .ok (.iand, 1) := by decide +kernel
theorem dJ6_bitCount_0f7a4_8 : decode cJ6_bitCount_0f7a4 8 = .ok (.isub, 1) := by decide +kernel
theorem dJ6_bitCount_0f7a4_9 : decode cJ6_bitCount_0f7a4 9 = .ok (.istore_n 0, 1) := by decide +kernel
theorem dJ6_bitCount_0f7a4_10 : decode cJ6_bitCount_0f7a4 10 = .ok (.iload_n 0, 1) := by decide +kernel
theorem dJ6_bitCount_0f7a4_11 : decode cJ6_bitCount_0f7a4 11 = .ok (.ldc_w 266, 3) := by decide +kernel
theorem dJ6_bitCount_0f7a4_14 : decode cJ6_bitCount_0f7a4 14 = .ok (.iand, 1) := by decide +kernel
theorem dJ6_bitCount_0f7a4_15 : decode cJ6_bitCount_0f7a4 15 = .ok (.iload_n 0, 1) := by decide +kernel
theorem dJ6_bitCount_0f7a4_16 : decode cJ6_bitCount_0f7a4 16 = .ok (.iconst 2, 1) := by decide +kernel
theorem dJ6_bitCount_0f7a4_17 : decode cJ6_bitCount_0f7a4 17 = .ok (.iushr, 1) := by decide +kernel
theorem dJ6_bitCount_0f7a4_18 : decode cJ6_bitCount_0f7a4 18 = .ok (.ldc_w 266, 3) := by decide +kernel
theorem dJ6_bitCount_0f7a4_21 : decode cJ6_bitCount_0f7a4 21 = .ok (.iand, 1) := by decide +kernel
theorem dJ6_bitCount_0f7a4_22 : decode cJ6_bitCount_0f7a4 22 = .ok (.iadd, 1) := by decide +kernel
theorem dJ6_bitCount_0f7a4_23 : decode cJ6_bitCount_0f7a4 23 = .ok (.istore_n 0, 1) := by decide +kernel
theorem dJ6_bitCount_0f7a4_24 : decode cJ6_bitCount_0f7a4 24 = .ok (.iload_n 0, 1) := by decide +kernel
theorem dJ6_bitCount_0f7a4_25 : decode cJ6_bitCount_0f7a4 25 = .ok (.iload_n 0, 1) := by decide +kernel
theorem dJ6_bitCount_0f7a4_26 : decode cJ6_bitCount_0f7a4 26 = .ok (.iconst 4, 1) := by decide +kernel
theorem dJ6_bitCount_0f7a4_27 : decode cJ6_bitCount_0f7a4 27 = .ok (.iushr, 1) := by decide +kernel
theorem dJ6_bitCount_0f7a4_28 : decode cJ6_bitCount_0f7a4 28 = .ok (.iadd, 1) := by decide +kernel
theorem dJ6_bitCount_0f7a4_29 : decode cJ6_bitCount_0f7a4 29 = .ok (.ldc_w 267, 3) := by decide +kernel
theorem dJ6_bitCount_0f7a4_32 : decode cJ6_bitCount_0f7a4 32 = .ok (.iand, 1) := by decide +kernel
theorem dJ6_bitCount_0f7a4_33 : decode cJ6_bitCount_0f7a4 33 = .ok (.istore_n 0, 1) := by decide +kernel
theorem dJ6_bitCount_0f7a4_34 : decode cJ6_bitCount_0f7a4 34 = .ok (.iload_n 0, 1) := by decide +kernel
theorem dJ6_bitCount_0f7a4_35 : decode cJ6_bitCount_0f7a4 35 = .ok (.iload_n 0, 1) := by decide +kernel
theorem dJ6_bitCount_0f7a4_36 : decode cJ6_bitCount_0f7a4 36 = .ok (.bipush 8, 2) := by decide +kernel
theorem dJ6_bitCount_0f7a4_38 : decode cJ6_bitCount_0f7a4 38 = .ok (.iushr, 1) := by decide +kernel
theorem dJ6_bitCount_0f7a4_39 : decode cJ6_bitCount_0f7a4 39 = .ok (.iadd, 1) := by decide +kernel
theorem dJ6_bitCount_0f7a4_40 : decode cJ6_bitCount_0f7a4 40 = .ok (.istore_n 0, 1) := by decide +kernel
theorem dJ6_bitCount_0f7a4_41 : decode cJ6_bitCount_0f7a4 41 = .ok (.iload_n 0, 1) := by decide +kernel
theorem dJ6_bitCount_0f7a4_42 : decode cJ6_bitCount_0f7a4 42 = .ok (.iload_n 0, 1) := by decide +kernel
theorem dJ6_bitCount_0f7a4_43 : decode cJ6_bitCount_0f7a4 43 = .ok (.bipush 16, 2) := by decide +kernel
theorem dJ6_bitCount_0f7a4_45 : decode cJ6_bitCount_0f7a4 45 = .ok (.iushr, 1) := by decide +kernel
theorem dJ6_bitCount_0f7a4_46 : decode cJ6_bitCount_0f7a4 46 = .ok (.iadd, 1) := by decide +kernel
theorem dJ6_bitCount_0f7a4_47 : decode cJ6_bitCount_0f7a4 47 = .ok (.istore_n 0, 1) := by decide +kernel
theorem dJ6_bitCount_0f7a4_48 : decode cJ6_bitCount_0f7a4 48 = .ok (.iload_n 0, 1) := by decide +kernel
theorem dJ6_bitCount_0f7a4_49 : decode cJ6_bitCount_0f7a4 49 = .ok (.bipush 63, 2) := by decide +kernel
theorem dJ6_bitCount_0f7a4_51 : decode cJ6_bitCount_0f7a4 51 = .ok (.iand, 1) := by decide +kernel
theorem dJ6_bitCount_0f7a4_52 : decode cJ6_bitCount_0f7a4 52 = .ok (.ireturn, 1) := by decide +kernel
def is_J6_bitCount_0f7a4 : Nat → List Nat := fun d => []
set_option maxRecDepth 100000 in
def b_J6_bitCount_0f7a4_32 (J : Nat → List qV → List qV → qW → Prop) (Q : qR) : qK := x_iand (x_istore 0 (x_iload 0 (x_iload 0 (x_int 8 (x_iushr (x_iadd (x_istore 0 (x_iload 0 (x_iload 0 (x_int 16 (x_iushr (x_iadd (x_istore 0 (x_iload 0 (x_int 63 (x_iand (x_iret Q)))))))))))))))))
set_option maxRecDepth 100000 in
theorem s_J6_bitCount_0f7a4_32 {p : Program} {l : Launch} {e : Env} {R : Room} {s : State} {m : MethodId} {args : Array Value} {below : List Frame} {meth : Method} {c : Code} {nW : Nat} {dC : Nat → ClassId} {dI : Nat → Nat → Nat} {k : Nat → ClassId} {g : Nat → Nat} {A : Nat → Prop} {J : Nat → List qV → List qV → qW → Prop} {Q : qR} (X : q_X p R s m args meth c cJ6_bitCount_0f7a4 1 nW 0 0 RJ6 (some .int) dC dI k g A) (hJ : ∀ d : Nat, q_Sd p l e R s m args below meth c 1 nW dC dI k g A (MQ below (q_post (dC, dI) k g nW Q A) args s 0 0 A) d (x_cut (is_J6_bitCount_0f7a4 d) (J d))) : q_Sd p l e R s m args below meth c 1 nW dC dI k g A (MQ below (q_post (dC, dI) k g nW Q A) args s 0 0 A) 32 (b_J6_bitCount_0f7a4_32 J Q) := by
  unfold b_J6_bitCount_0f7a4_32
  refine s_iand X dJ6_bitCount_0f7a4_32 ?_
  refine s_istore_n X rfl (by decide) dJ6_bitCount_0f7a4_33 ?_
  refine s_iload_n X rfl dJ6_bitCount_0f7a4_34 ?_
  refine s_iload_n X rfl dJ6_bitCount_0f7a4_35 ?_
  refine s_bipush X ⟨by decide, by decide⟩ (by decide) dJ6_bitCount_0f7a4_36 ?_
  refine s_iushr X dJ6_bitCount_0f7a4_38 ?_
  refine s_iadd X dJ6_bitCount_0f7a4_39 ?_
  refine s_istore_n X rfl (by decide) dJ6_bitCount_0f7a4_40 ?_
  refine s_iload_n X rfl dJ6_bitCount_0f7a4_41 ?_
  refine s_iload_n X rfl dJ6_bitCount_0f7a4_42 ?_
  refine s_bipush X ⟨by decide, by decide⟩ (by decide) dJ6_bitCount_0f7a4_43 ?_
  refine s_iushr X dJ6_bitCount_0f7a4_45 ?_
  refine s_iadd X dJ6_bitCount_0f7a4_46 ?_
  refine s_istore_n X rfl (by decide) dJ6_bitCount_0f7a4_47 ?_
  refine s_iload_n X rfl dJ6_bitCount_0f7a4_48 ?_
  refine s_bipush X ⟨by decide, by decide⟩ (by decide) dJ6_bitCount_0f7a4_49 ?_
  refine s_iand X dJ6_bitCount_0f7a4_51 ?_
  exact s_iret X dJ6_bitCount_0f7a4_52
set_option maxRecDepth 100000 in
def b_J6_bitCount_0f7a4_0 (J : Nat → List qV → List qV → qW → Prop) (Q : qR) : qK := x_iload 0 (x_iload 0 (x_int 1 (x_iushr (x_int 1431655765 (x_iand (x_isub (x_istore 0 (x_iload 0 (x_int 858993459 (x_iand (x_iload 0 (x_int 2 (x_iushr (x_int 858993459 (x_iand (x_iadd (x_istore 0 (x_iload 0 (x_iload 0 (x_int 4 (x_iushr (x_iadd (x_int 252645135 (b_J6_bitCount_0f7a4_32 J Q))))))))))))))))))))))))
set_option maxRecDepth 100000 in
theorem s_J6_bitCount_0f7a4_0 {p : Program} {l : Launch} {e : Env} {R : Room} {s : State} {m : MethodId} {args : Array Value} {below : List Frame} {meth : Method} {c : Code} {nW : Nat} {dC : Nat → ClassId} {dI : Nat → Nat → Nat} {k : Nat → ClassId} {g : Nat → Nat} {A : Nat → Prop} {J : Nat → List qV → List qV → qW → Prop} {Q : qR} (X : q_X p R s m args meth c cJ6_bitCount_0f7a4 1 nW 0 0 RJ6 (some .int) dC dI k g A) (hJ : ∀ d : Nat, q_Sd p l e R s m args below meth c 1 nW dC dI k g A (MQ below (q_post (dC, dI) k g nW Q A) args s 0 0 A) d (x_cut (is_J6_bitCount_0f7a4 d) (J d))) : q_Sd p l e R s m args below meth c 1 nW dC dI k g A (MQ below (q_post (dC, dI) k g nW Q A) args s 0 0 A) 0 (b_J6_bitCount_0f7a4_0 J Q) := by
  unfold b_J6_bitCount_0f7a4_0
  refine s_iload_n X rfl dJ6_bitCount_0f7a4_0 ?_
  refine s_iload_n X rfl dJ6_bitCount_0f7a4_1 ?_
  refine s_iconst X ⟨by decide, by decide⟩ dJ6_bitCount_0f7a4_2 ?_
  refine s_iushr X dJ6_bitCount_0f7a4_3 ?_
  refine s_ldcw X ⟨by decide, by decide⟩ tw_648 dJ6_bitCount_0f7a4_4 ?_
  refine s_iand X dJ6_bitCount_0f7a4_7 ?_
  refine s_isub X dJ6_bitCount_0f7a4_8 ?_
  refine s_istore_n X rfl (by decide) dJ6_bitCount_0f7a4_9 ?_
  refine s_iload_n X rfl dJ6_bitCount_0f7a4_10 ?_
  refine s_ldcw X ⟨by decide, by decide⟩ tw_649 dJ6_bitCount_0f7a4_11 ?_
  refine s_iand X dJ6_bitCount_0f7a4_14 ?_
  refine s_iload_n X rfl dJ6_bitCount_0f7a4_15 ?_
  refine s_iconst X ⟨by decide, by decide⟩ dJ6_bitCount_0f7a4_16 ?_
  refine s_iushr X dJ6_bitCount_0f7a4_17 ?_
  refine s_ldcw X ⟨by decide, by decide⟩ tw_649 dJ6_bitCount_0f7a4_18 ?_
  refine s_iand X dJ6_bitCount_0f7a4_21 ?_
  refine s_iadd X dJ6_bitCount_0f7a4_22 ?_
  refine s_istore_n X rfl (by decide) dJ6_bitCount_0f7a4_23 ?_
  refine s_iload_n X rfl dJ6_bitCount_0f7a4_24 ?_
  refine s_iload_n X rfl dJ6_bitCount_0f7a4_25 ?_
  refine s_iconst X ⟨by decide, by decide⟩ dJ6_bitCount_0f7a4_26 ?_
  refine s_iushr X dJ6_bitCount_0f7a4_27 ?_
  refine s_iadd X dJ6_bitCount_0f7a4_28 ?_
  refine s_ldcw X ⟨by decide, by decide⟩ tw_650 dJ6_bitCount_0f7a4_29 ?_
  exact s_J6_bitCount_0f7a4_32 X hJ

def spr_J6_bitCount_0f7a4 : List qV → qW → (Option qV → Prop) → Prop := fun av w Q => ∃ (a : Int), av = [q1 a] ∧ w = [] ∧ (∀ (r : Int) , 0 ≤ r ∧ r ≤ 63 → Q (some (q1 r)))
def sp_J6_bitCount_0f7a4 : qS := fun av w Q => spr_J6_bitCount_0f7a4 av w (fun r => Q r w)
set_option maxHeartbeats 4000000 in
set_option maxRecDepth 100000 in
theorem m_J6_bitCount_0f7a4 (l : Launch) : q_M l yJ6_bitCount_0f7a4 cJ6_bitCount_0f7a4 1 (some .int) 0 0 sp_J6_bitCount_0f7a4 := by
  refine q_meth (by decide) (fun av w Q h => by obtain ⟨a, rfl, rfl, hQ⟩ := h; exact Nat.le_of_ble_eq_true rfl) ?_
  intro p e R s m args below meth c dC dI k g A av w Q hsp oka okw X
  obtain ⟨a, rfl, rfl, hQ⟩ := hsp
  have o_a : -2147483648 ≤ a ∧ a ≤ 2147483647 := oka _ (List.mem_of_getElem? (i := 0) rfl)
  refine s_mono (s_J6_bitCount_0f7a4_0 X (J := fun _ _ _ _ => False) (fun d => s_cutF)) ?_
  rintro lv st w' ⟨rfl, rfl, rfl⟩
  intro z3 h3
  replace h3 := e_rng h3
  intro z7 h7
  replace h7 := e_rng h7
  intro z8 h8
  replace h8 := e_rng h8
  intro z14 h14
  replace h14 := e_rng h14
  intro z17 h17
  replace h17 := e_rng h17
  intro z21 h21
  replace h21 := e_rng h21
  intro z22 h22
  replace h22 := e_rng h22
  intro z27 h27
  replace h27 := e_rng h27
  intro z28 h28
  replace h28 := e_rng h28
  intro z32 h32
  replace h32 := e_rng h32
  intro z38 h38
  replace h38 := e_rng h38
  intro z39 h39
  replace h39 := e_rng h39
  intro z45 h45
  replace h45 := e_rng h45
  intro z46 h46
  replace h46 := e_rng h46
  intro z51 h51
  replace h51 := e_andm 6 (by decide) (by decide) h51
  exact hQ _ (by first | omega | assumption | exact q_rg_up (by assumption) (by omega) | exact q_rg_up (q_rg_up (by assumption) (by omega)) (by omega) | exact q_rg_cpy (by assumption) (by assumption))
