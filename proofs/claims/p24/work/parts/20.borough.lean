theorem dX0_has_0 : decode cX0_has 0 = .ok (.iload_n 1, 1) := by decide +kernel
theorem dX0_has_1 : decode cX0_has 1 = .ok (.ifCond .lt 21, 3) := by decide +kernel
theorem dX0_has_4 : decode cX0_has 4 = .ok (.iload_n 1, 1) := by decide +kernel
theorem dX0_has_5 : decode cX0_has 5 = .ok (.aload_n 0, 1) := by decide +kernel
theorem dX0_has_6 : decode cX0_has 6 = .ok (.getfield 51, 3) := by decide +kernel
theorem dX0_has_9 : decode cX0_has 9 = .ok (.if_icmp .ge 13, 3) := by decide +kernel
theorem dX0_has_12 : decode cX0_has 12 = .ok (.iload_n 1, 1) := by decide +kernel
theorem dX0_has_13 : decode cX0_has 13 = .ok (.bipush 8, 2) := by decide +kernel
theorem dX0_has_15 : decode cX0_has 15 = .ok (.if_icmp .ge 7, 3) := by decide +kernel
theorem dX0_has_18 : decode cX0_has 18 = .ok (.iconst 1, 1) := by decide +kernel
theorem dX0_has_19 : decode cX0_has 19 = .ok (.goto 4, 3) := by decide +kernel
theorem dX0_has_22 : decode cX0_has 22 = .ok (.iconst 0, 1) := by decide +kernel
theorem dX0_has_23 : decode cX0_has 23 = .ok (.ireturn, 1) := by decide +kernel
def is_X0_has : Nat → List Nat := fun d => []
set_option maxRecDepth 100000 in
def b_X0_has_23 (J : Nat → List qV → List qV → qW → Prop) (Q : qR) : qK := x_zret Q
set_option maxRecDepth 100000 in
theorem s_X0_has_23 {p : Program} {l : Launch} {e : Env} {R : Room} {s : State} {m : MethodId} {args : Array Value} {below : List Frame} {meth : Method} {c : Code} {nW : Nat} {dC : Nat → ClassId} {dI : Nat → Nat → Nat} {k : Nat → ClassId} {g : Nat → Nat} {A : Nat → Prop} {J : Nat → List qV → List qV → qW → Prop} {Q : qR} (X : q_X p R s m args meth c cX0_has 2 nW 0 0 RX0 (some .boolean) dC dI k g A) (hJ : ∀ d : Nat, q_Sd p l e R s m args below meth c 2 nW dC dI k g A (MQ below (q_post (dC, dI) k g nW Q A) args s 0 0 A) d (x_cut (is_X0_has d) (J d))) : q_Sd p l e R s m args below meth c 2 nW dC dI k g A (MQ below (q_post (dC, dI) k g nW Q A) args s 0 0 A) 23 (b_X0_has_23 J Q) := by
  unfold b_X0_has_23
  exact s_zret X dX0_has_23
set_option maxRecDepth 100000 in
def b_X0_has_22 (J : Nat → List qV → List qV → qW → Prop) (Q : qR) : qK := x_int 0 (b_X0_has_23 J Q)
set_option maxRecDepth 100000 in
theorem s_X0_has_22 {p : Program} {l : Launch} {e : Env} {R : Room} {s : State} {m : MethodId} {args : Array Value} {below : List Frame} {meth : Method} {c : Code} {nW : Nat} {dC : Nat → ClassId} {dI : Nat → Nat → Nat} {k : Nat → ClassId} {g : Nat → Nat} {A : Nat → Prop} {J : Nat → List qV → List qV → qW → Prop} {Q : qR} (X : q_X p R s m args meth c cX0_has 2 nW 0 0 RX0 (some .boolean) dC dI k g A) (hJ : ∀ d : Nat, q_Sd p l e R s m args below meth c 2 nW dC dI k g A (MQ below (q_post (dC, dI) k g nW Q A) args s 0 0 A) d (x_cut (is_X0_has d) (J d))) : q_Sd p l e R s m args below meth c 2 nW dC dI k g A (MQ below (q_post (dC, dI) k g nW Q A) args s 0 0 A) 22 (b_X0_has_22 J Q) := by
  unfold b_X0_has_22
  refine s_iconst X ⟨by decide, by decide⟩ dX0_has_22 ?_
  exact s_X0_has_23 X hJ
set_option maxRecDepth 100000 in
def b_X0_has_0 (J : Nat → List qV → List qV → qW → Prop) (Q : qR) : qK := x_iload 1 (x_if_lt (b_X0_has_22 J Q) (x_iload 1 (x_aload 0 (x_get 0 7 (x_icmp_ge (b_X0_has_22 J Q) (x_iload 1 (x_int 8 (x_icmp_ge (b_X0_has_22 J Q) (x_int 1 (b_X0_has_23 J Q))))))))))
set_option maxRecDepth 100000 in
theorem s_X0_has_0 {p : Program} {l : Launch} {e : Env} {R : Room} {s : State} {m : MethodId} {args : Array Value} {below : List Frame} {meth : Method} {c : Code} {nW : Nat} {dC : Nat → ClassId} {dI : Nat → Nat → Nat} {k : Nat → ClassId} {g : Nat → Nat} {A : Nat → Prop} {J : Nat → List qV → List qV → qW → Prop} {Q : qR} (X : q_X p R s m args meth c cX0_has 2 nW 0 0 RX0 (some .boolean) dC dI k g A) (hJ : ∀ d : Nat, q_Sd p l e R s m args below meth c 2 nW dC dI k g A (MQ below (q_post (dC, dI) k g nW Q A) args s 0 0 A) d (x_cut (is_X0_has d) (J d))) : q_Sd p l e R s m args below meth c 2 nW dC dI k g A (MQ below (q_post (dC, dI) k g nW Q A) args s 0 0 A) 0 (b_X0_has_0 J Q) := by
  unfold b_X0_has_0
  refine s_iload_n X rfl dX0_has_0 ?_
  refine s_if_lt X (tgt := 22) dX0_has_1 (by decide) ?_ ?_
  · exact s_X0_has_22 X hJ
  · refine s_iload_n X rfl dX0_has_4 ?_
    refine s_aload_n X rfl dX0_has_5 ?_
    refine s_get X (T := TX0) (C := RX0) (N := 12) tu_X0 rfl (by decide) tw_193 dX0_has_6 ?_
    refine s_icmp_ge X (tgt := 22) dX0_has_9 (by decide) ?_ ?_
    · exact s_X0_has_22 X hJ
    · refine s_iload_n X rfl dX0_has_12 ?_
      refine s_bipush X ⟨by decide, by decide⟩ (by decide) dX0_has_13 ?_
      refine s_icmp_ge X (tgt := 22) dX0_has_15 (by decide) ?_ ?_
      · exact s_X0_has_22 X hJ
      · refine s_iconst X ⟨by decide, by decide⟩ dX0_has_18 ?_
        refine s_goto X (tgt := 23) dX0_has_19 (by decide) ?_
        exact s_X0_has_23 X hJ

def spr_X0_has : List qV → qW → (Option qV → Prop) → Prop := fun av w Q => ∃ (f1 : Nat → Int) (f2 : Nat → Int) (f3 : Nat → Int) (f4 : Nat → Int) (f5 : Nat → Int) (f6 : Nat → Int) (f7 : Nat → Int) (u0 : Int) (u1 : Int) (u2 : Int) (u3 : Int) (u4 : Int) (a : Int), av = [q2 0, q1 a] ∧ w = wB f1 f2 f3 f4 f5 f6 f7 u0 u1 u2 u3 u4 ∧ (∀ (r : Int) , (r = 1 ∧ 0 ≤ a ∧ a < u0 ∧ a < 8 ∨ r = 0 ∧ ¬ (0 ≤ a ∧ a < u0 ∧ a < 8)) → Q (some (q1 r)))
def sp_X0_has : qS := fun av w Q => spr_X0_has av w (fun r => Q r w)
set_option maxHeartbeats 4000000 in
set_option maxRecDepth 100000 in
theorem m_X0_has (l : Launch) : q_M l yX0_has cX0_has 2 (some .boolean) 0 0 sp_X0_has := by
  refine q_meth (by decide) (fun av w Q h => by obtain ⟨f1, f2, f3, f4, f5, f6, f7, u0, u1, u2, u3, u4, a, rfl, rfl, hQ⟩ := h; exact Nat.le_of_ble_eq_true rfl) ?_
  intro p e R s m args below meth c dC dI k g A av w Q hsp oka okw X
  obtain ⟨f1, f2, f3, f4, f5, f6, f7, u0, u1, u2, u3, u4, a, rfl, rfl, hQ⟩ := hsp
  have o_a : -2147483648 ≤ a ∧ a ≤ 2147483647 := oka _ (List.mem_of_getElem? (i := 1) rfl)
  refine s_mono (s_X0_has_0 X (J := fun _ _ _ _ => False) (fun d => s_cutF)) ?_
  rintro lv st w' ⟨rfl, rfl, rfl⟩
  apply And.intro
  · intro h1
    apply And.intro
    · first | exact Or.inl rfl | exact Or.inr rfl | omega
    exact hQ _ (by first | omega | assumption | exact q_rg_up (by assumption) (by omega) | exact q_rg_up (q_rg_up (by assumption) (by omega)) (by omega) | exact q_rg_cpy (by assumption) (by assumption))
  · intro h1
    apply And.intro
    · intro h9
      apply And.intro
      · first | exact Or.inl rfl | exact Or.inr rfl | omega
      exact hQ _ (by first | omega | assumption | exact q_rg_up (by assumption) (by omega) | exact q_rg_up (q_rg_up (by assumption) (by omega)) (by omega) | exact q_rg_cpy (by assumption) (by assumption))
    · intro h9
      apply And.intro
      · intro h15
        apply And.intro
        · first | exact Or.inl rfl | exact Or.inr rfl | omega
        exact hQ _ (by first | omega | assumption | exact q_rg_up (by assumption) (by omega) | exact q_rg_up (q_rg_up (by assumption) (by omega)) (by omega) | exact q_rg_cpy (by assumption) (by assumption))
      · intro h15
        apply And.intro
        · first | exact Or.inl rfl | exact Or.inr rfl | omega
        exact hQ _ (by first | omega | assumption | exact q_rg_up (by assumption) (by omega) | exact q_rg_up (q_rg_up (by assumption) (by omega)) (by omega) | exact q_rg_cpy (by assumption) (by assumption))

theorem dX0_isPoor_0 : decode cX0_isPoor 0 = .ok (.aload_n 0, 1) := by decide +kernel
theorem dX0_isPoor_1 : decode cX0_isPoor 1 = .ok (.getfield 55, 3) := by decide +kernel
theorem dX0_isPoor_4 : decode cX0_isPoor 4 = .ok (.iload_n 1, 1) := by decide +kernel
theorem dX0_isPoor_5 : decode cX0_isPoor 5 = .ok (.ishr, 1) := by decide +kernel
theorem dX0_isPoor_6 : decode cX0_isPoor 6 = .ok (.iconst 1, 1) := by decide +kernel
theorem dX0_isPoor_7 : decode cX0_isPoor 7 = .ok (.iand, 1) := by decide +kernel
theorem dX0_isPoor_8 : decode cX0_isPoor 8 = .ok (.ifCond .eq 7, 3) := by decide +kernel
theorem dX0_isPoor_11 : decode cX0_isPoor 11 = .ok (.iconst 1, 1) := by decide +kernel
theorem dX0_isPoor_12 : decode cX0_isPoor 12 = .ok (.goto 4, 3) := by decide +kernel
theorem dX0_isPoor_15 : decode cX0_isPoor 15 = .ok (.iconst 0, 1) := by decide +kernel
theorem dX0_isPoor_16 : decode cX0_isPoor 16 = .ok (.ireturn, 1) := by decide +kernel
def is_X0_isPoor : Nat → List Nat := fun d => []
set_option maxRecDepth 100000 in
def b_X0_isPoor_16 (J : Nat → List qV → List qV → qW → Prop) (Q : qR) : qK := x_zret Q
set_option maxRecDepth 100000 in
theorem s_X0_isPoor_16 {p : Program} {l : Launch} {e : Env} {R : Room} {s : State} {m : MethodId} {args : Array Value} {below : List Frame} {meth : Method} {c : Code} {nW : Nat} {dC : Nat → ClassId} {dI : Nat → Nat → Nat} {k : Nat → ClassId} {g : Nat → Nat} {A : Nat → Prop} {J : Nat → List qV → List qV → qW → Prop} {Q : qR} (X : q_X p R s m args meth c cX0_isPoor 2 nW 0 0 RX0 (some .boolean) dC dI k g A) (hJ : ∀ d : Nat, q_Sd p l e R s m args below meth c 2 nW dC dI k g A (MQ below (q_post (dC, dI) k g nW Q A) args s 0 0 A) d (x_cut (is_X0_isPoor d) (J d))) : q_Sd p l e R s m args below meth c 2 nW dC dI k g A (MQ below (q_post (dC, dI) k g nW Q A) args s 0 0 A) 16 (b_X0_isPoor_16 J Q) := by
  unfold b_X0_isPoor_16
  exact s_zret X dX0_isPoor_16
set_option maxRecDepth 100000 in
def b_X0_isPoor_0 (J : Nat → List qV → List qV → qW → Prop) (Q : qR) : qK := x_aload 0 (x_get 0 8 (x_iload 1 (x_ishr (x_int 1 (x_iand (x_if_eq (x_int 0 (b_X0_isPoor_16 J Q)) (x_int 1 (b_X0_isPoor_16 J Q))))))))
set_option maxRecDepth 100000 in
theorem s_X0_isPoor_0 {p : Program} {l : Launch} {e : Env} {R : Room} {s : State} {m : MethodId} {args : Array Value} {below : List Frame} {meth : Method} {c : Code} {nW : Nat} {dC : Nat → ClassId} {dI : Nat → Nat → Nat} {k : Nat → ClassId} {g : Nat → Nat} {A : Nat → Prop} {J : Nat → List qV → List qV → qW → Prop} {Q : qR} (X : q_X p R s m args meth c cX0_isPoor 2 nW 0 0 RX0 (some .boolean) dC dI k g A) (hJ : ∀ d : Nat, q_Sd p l e R s m args below meth c 2 nW dC dI k g A (MQ below (q_post (dC, dI) k g nW Q A) args s 0 0 A) d (x_cut (is_X0_isPoor d) (J d))) : q_Sd p l e R s m args below meth c 2 nW dC dI k g A (MQ below (q_post (dC, dI) k g nW Q A) args s 0 0 A) 0 (b_X0_isPoor_0 J Q) := by
  unfold b_X0_isPoor_0
  refine s_aload_n X rfl dX0_isPoor_0 ?_
  refine s_get X (T := TX0) (C := RX0) (N := 12) tu_X0 rfl (by decide) tw_198 dX0_isPoor_1 ?_
  refine s_iload_n X rfl dX0_isPoor_4 ?_
  refine s_ishr X dX0_isPoor_5 ?_
  refine s_iconst X ⟨by decide, by decide⟩ dX0_isPoor_6 ?_
  refine s_iand X dX0_isPoor_7 ?_
  refine s_if_eq X (tgt := 15) dX0_isPoor_8 (by decide) ?_ ?_
  · refine s_iconst X ⟨by decide, by decide⟩ dX0_isPoor_15 ?_
    exact s_X0_isPoor_16 X hJ
  · refine s_iconst X ⟨by decide, by decide⟩ dX0_isPoor_11 ?_
    refine s_goto X (tgt := 16) dX0_isPoor_12 (by decide) ?_
    exact s_X0_isPoor_16 X hJ

def spr_X0_isPoor : List qV → qW → (Option qV → Prop) → Prop := fun av w Q => ∃ (f1 : Nat → Int) (f2 : Nat → Int) (f3 : Nat → Int) (f4 : Nat → Int) (f5 : Nat → Int) (f6 : Nat → Int) (f7 : Nat → Int) (u0 : Int) (u1 : Int) (u2 : Int) (u3 : Int) (u4 : Int) (a : Int), av = [q2 0, q1 a] ∧ w = wB f1 f2 f3 f4 f5 f6 f7 u0 u1 u2 u3 u4 ∧ (∀ (r : Int) , (r = 0 ∨ r = 1) → Q (some (q1 r)))
def sp_X0_isPoor : qS := fun av w Q => spr_X0_isPoor av w (fun r => Q r w)
set_option maxHeartbeats 4000000 in
set_option maxRecDepth 100000 in
theorem m_X0_isPoor (l : Launch) : q_M l yX0_isPoor cX0_isPoor 2 (some .boolean) 0 0 sp_X0_isPoor := by
  refine q_meth (by decide) (fun av w Q h => by obtain ⟨f1, f2, f3, f4, f5, f6, f7, u0, u1, u2, u3, u4, a, rfl, rfl, hQ⟩ := h; exact Nat.le_of_ble_eq_true rfl) ?_
  intro p e R s m args below meth c dC dI k g A av w Q hsp oka okw X
  obtain ⟨f1, f2, f3, f4, f5, f6, f7, u0, u1, u2, u3, u4, a, rfl, rfl, hQ⟩ := hsp
  have o_a : -2147483648 ≤ a ∧ a ≤ 2147483647 := oka _ (List.mem_of_getElem? (i := 1) rfl)
  refine s_mono (s_X0_isPoor_0 X (J := fun _ _ _ _ => False) (fun d => s_cutF)) ?_
  rintro lv st w' ⟨rfl, rfl, rfl⟩
  intro z5 h5
  replace h5 := e_rng h5
  intro z7 h7
  first | replace h7 := e_and1 h7 | replace h7 := e_and255 h7 | replace h7 := e_and h7 (by omega) (by omega) | replace h7 := e_rng h7
  apply And.intro
  · intro h8
    apply And.intro
    · first | exact Or.inl rfl | exact Or.inr rfl | omega
    exact hQ _ (by first | omega | assumption | exact q_rg_up (by assumption) (by omega) | exact q_rg_up (q_rg_up (by assumption) (by omega)) (by omega) | exact q_rg_cpy (by assumption) (by assumption))
  · intro h8
    apply And.intro
    · first | exact Or.inl rfl | exact Or.inr rfl | omega
    exact hQ _ (by first | omega | assumption | exact q_rg_up (by assumption) (by omega) | exact q_rg_up (q_rg_up (by assumption) (by omega)) (by omega) | exact q_rg_cpy (by assumption) (by assumption))

theorem dX0_total_0 : decode cX0_total 0 = .ok (.iload_n 1, 1) := by decide +kernel
theorem dX0_total_1 : decode cX0_total 1 = .ok (.tableswitch 60 0 4 #[35, 40, 45, 50, 55], 35) := by decide +kernel
theorem dX0_total_36 : decode cX0_total 36 = .ok (.aload_n 0, 1) := by decide +kernel
theorem dX0_total_37 : decode cX0_total 37 = .ok (.getfield 51, 3) := by decide +kernel
theorem dX0_total_40 : decode cX0_total 40 = .ok (.ireturn, 1) := by decide +kernel
theorem dX0_total_41 : decode cX0_total 41 = .ok (.aload_n 0, 1) := by decide +kernel
theorem dX0_total_42 : decode cX0_total 42 = .ok (.getfield 55, 3) := by decide +kernel
theorem dX0_total_45 : decode cX0_total 45 = .ok (.ireturn, 1) := by decide +kernel
theorem dX0_total_46 : decode cX0_total 46 = .ok (.aload_n 0, 1) := by decide +kernel
theorem dX0_total_47 : decode cX0_total 47 = .ok (.getfield 58, 3) := by decide +kernel
theorem dX0_total_50 : decode cX0_total 50 = .ok (.ireturn, 1) := by decide +kernel
theorem dX0_total_51 : decode cX0_total 51 = .ok (.aload_n 0, 1) := by decide +kernel
theorem dX0_total_52 : decode cX0_total 52 = .ok (.getfield 61, 3) := by decide +kernel
theorem dX0_total_55 : decode cX0_total 55 = .ok (.ireturn, 1) := by decide +kernel
theorem dX0_total_56 : decode cX0_total 56 = .ok (.aload_n 0, 1) := by decide +kernel
theorem dX0_total_57 : decode cX0_total 57 = .ok (.getfield 64, 3) := by decide +kernel
theorem dX0_total_60 : decode cX0_total 60 = .ok (.ireturn, 1) := by decide +kernel
theorem dX0_total_61 : decode cX0_total 61 = .ok (.bipush (-2), 2) := by decide +kernel
theorem dX0_total_63 : decode cX0_total 63 = .ok (.ireturn, 1) := by decide +kernel
def is_X0_total : Nat → List Nat := fun d => []
set_option maxRecDepth 100000 in
def b_X0_total_0 (J : Nat → List qV → List qV → qW → Prop) (Q : qR) : qK := x_iload 1 (x_sw 0 4 [x_aload 0 (x_get 0 7 (x_iret Q)), x_aload 0 (x_get 0 8 (x_iret Q)), x_aload 0 (x_get 0 9 (x_iret Q)), x_aload 0 (x_get 0 10 (x_iret Q)), x_aload 0 (x_get 0 11 (x_iret Q))] (x_int (-2) (x_iret Q)))
set_option maxRecDepth 100000 in
theorem s_X0_total_0 {p : Program} {l : Launch} {e : Env} {R : Room} {s : State} {m : MethodId} {args : Array Value} {below : List Frame} {meth : Method} {c : Code} {nW : Nat} {dC : Nat → ClassId} {dI : Nat → Nat → Nat} {k : Nat → ClassId} {g : Nat → Nat} {A : Nat → Prop} {J : Nat → List qV → List qV → qW → Prop} {Q : qR} (X : q_X p R s m args meth c cX0_total 2 nW 0 0 RX0 (some .int) dC dI k g A) (hJ : ∀ d : Nat, q_Sd p l e R s m args below meth c 2 nW dC dI k g A (MQ below (q_post (dC, dI) k g nW Q A) args s 0 0 A) d (x_cut (is_X0_total d) (J d))) : q_Sd p l e R s m args below meth c 2 nW dC dI k g A (MQ below (q_post (dC, dI) k g nW Q A) args s 0 0 A) 0 (b_X0_total_0 J Q) := by
  unfold b_X0_total_0
  refine s_iload_n X rfl dX0_total_0 ?_
  refine s_sw X (ts := [36, 41, 46, 51, 56]) (td := 61) dX0_total_1 (by decide) (by decide) (by decide) rfl ?_ ?_
  · intro i t K ht hK
    match i, ht, hK with
    | 0, ht, hK =>
      cases ht
      cases hK
      refine s_aload_n X rfl dX0_total_36 ?_
      refine s_get X (T := TX0) (C := RX0) (N := 12) tu_X0 rfl (by decide) tw_193 dX0_total_37 ?_
      exact s_iret X dX0_total_40
    | 1, ht, hK =>
      cases ht
      cases hK
      refine s_aload_n X rfl dX0_total_41 ?_
      refine s_get X (T := TX0) (C := RX0) (N := 12) tu_X0 rfl (by decide) tw_198 dX0_total_42 ?_
      exact s_iret X dX0_total_45
    | 2, ht, hK =>
      cases ht
      cases hK
      refine s_aload_n X rfl dX0_total_46 ?_
      refine s_get X (T := TX0) (C := RX0) (N := 12) tu_X0 rfl (by decide) tw_200 dX0_total_47 ?_
      exact s_iret X dX0_total_50
    | 3, ht, hK =>
      cases ht
      cases hK
      refine s_aload_n X rfl dX0_total_51 ?_
      refine s_get X (T := TX0) (C := RX0) (N := 12) tu_X0 rfl (by decide) tw_203 dX0_total_52 ?_
      exact s_iret X dX0_total_55
    | 4, ht, hK =>
      cases ht
      cases hK
      refine s_aload_n X rfl dX0_total_56 ?_
      refine s_get X (T := TX0) (C := RX0) (N := 12) tu_X0 rfl (by decide) tw_207 dX0_total_57 ?_
      exact s_iret X dX0_total_60
    | i + 5, ht, hK => exact absurd ht (by simp)
  · refine s_bipush X ⟨by decide, by decide⟩ (by decide) dX0_total_61 ?_
    exact s_iret X dX0_total_63

def spr_X0_total : List qV → qW → (Option qV → Prop) → Prop := fun av w Q => ∃ (f1 : Nat → Int) (f2 : Nat → Int) (f3 : Nat → Int) (f4 : Nat → Int) (f5 : Nat → Int) (f6 : Nat → Int) (f7 : Nat → Int) (u0 : Int) (u1 : Int) (u2 : Int) (u3 : Int) (u4 : Int) (a : Int), av = [q2 0, q1 a] ∧ w = wB f1 f2 f3 f4 f5 f6 f7 u0 u1 u2 u3 u4 ∧ (∀ (r : Int) , Q (some (q1 r)))
def sp_X0_total : qS := fun av w Q => spr_X0_total av w (fun r => Q r w)
set_option maxHeartbeats 4000000 in
set_option maxRecDepth 100000 in
theorem m_X0_total (l : Launch) : q_M l yX0_total cX0_total 2 (some .int) 0 0 sp_X0_total := by
  refine q_meth (by decide) (fun av w Q h => by obtain ⟨f1, f2, f3, f4, f5, f6, f7, u0, u1, u2, u3, u4, a, rfl, rfl, hQ⟩ := h; exact Nat.le_of_ble_eq_true rfl) ?_
  intro p e R s m args below meth c dC dI k g A av w Q hsp oka okw X
  obtain ⟨f1, f2, f3, f4, f5, f6, f7, u0, u1, u2, u3, u4, a, rfl, rfl, hQ⟩ := hsp
  have o_a : -2147483648 ≤ a ∧ a ≤ 2147483647 := oka _ (List.mem_of_getElem? (i := 1) rfl)
  refine s_mono (s_X0_total_0 X (J := fun _ _ _ _ => False) (fun d => s_cutF)) ?_
  rintro lv st w' ⟨rfl, rfl, rfl⟩
  apply And.intro
  · apply And.intro
    · intro h1
      exact hQ _
    apply And.intro
    · intro h1
      exact hQ _
    apply And.intro
    · intro h1
      exact hQ _
    apply And.intro
    · intro h1
      exact hQ _
    apply And.intro
    · intro h1
      exact hQ _
    exact trivial
  · intro h1
    exact hQ _

theorem dX0_entry_0 : decode cX0_entry 0 = .ok (.iload_n 2, 1) := by decide +kernel
theorem dX0_entry_1 : decode cX0_entry 1 = .ok (.ifCond .lt 14, 3) := by decide +kernel
theorem dX0_entry_4 : decode cX0_entry 4 = .ok (.iload_n 2, 1) := by decide +kernel
theorem dX0_entry_5 : decode cX0_entry 5 = .ok (.iload_n 1, 1) := by decide +kernel
theorem dX0_entry_6 : decode cX0_entry 6 = .ok (.if_icmp .ge 9, 3) := by decide +kernel
theorem dX0_entry_9 : decode cX0_entry 9 = .ok (.iload_n 2, 1) := by decide +kernel
theorem dX0_entry_10 : decode cX0_entry 10 = .ok (.aload_n 0, 1) := by decide +kernel
theorem dX0_entry_11 : decode cX0_entry 11 = .ok (.arraylength, 1) := by decide +kernel
theorem dX0_entry_12 : decode cX0_entry 12 = .ok (.if_icmp .lt 8, 3) := by decide +kernel
theorem dX0_entry_15 : decode cX0_entry 15 = .ok (.bipush (-2), 2) := by decide +kernel
theorem dX0_entry_17 : decode cX0_entry 17 = .ok (.goto 6, 3) := by decide +kernel
theorem dX0_entry_20 : decode cX0_entry 20 = .ok (.aload_n 0, 1) := by decide +kernel
theorem dX0_entry_21 : decode cX0_entry 21 = .ok (.iload_n 2, 1) := by decide +kernel
theorem dX0_entry_22 : decode cX0_entry 22 = .ok (.iaload, 1) := by decide +kernel
theorem dX0_entry_23 : decode cX0_entry 23 = .ok (.ireturn, 1) := by decide +kernel
def is_X0_entry : Nat → List Nat := fun d => []
set_option maxRecDepth 100000 in
def b_X0_entry_23 (J : Nat → List qV → List qV → qW → Prop) (Q : qR) : qK := x_iret Q
set_option maxRecDepth 100000 in
theorem s_X0_entry_23 {p : Program} {l : Launch} {e : Env} {R : Room} {s : State} {m : MethodId} {args : Array Value} {below : List Frame} {meth : Method} {c : Code} {nW : Nat} {dC : Nat → ClassId} {dI : Nat → Nat → Nat} {k : Nat → ClassId} {g : Nat → Nat} {A : Nat → Prop} {J : Nat → List qV → List qV → qW → Prop} {Q : qR} (X : q_X p R s m args meth c cX0_entry 3 nW 0 0 RX0 (some .int) dC dI k g A) (hJ : ∀ d : Nat, q_Sd p l e R s m args below meth c 3 nW dC dI k g A (MQ below (q_post (dC, dI) k g nW Q A) args s 0 0 A) d (x_cut (is_X0_entry d) (J d))) : q_Sd p l e R s m args below meth c 3 nW dC dI k g A (MQ below (q_post (dC, dI) k g nW Q A) args s 0 0 A) 23 (b_X0_entry_23 J Q) := by
  unfold b_X0_entry_23
  exact s_iret X dX0_entry_23
set_option maxRecDepth 100000 in
def b_X0_entry_15 (J : Nat → List qV → List qV → qW → Prop) (Q : qR) : qK := x_int (-2) (b_X0_entry_23 J Q)
set_option maxRecDepth 100000 in
theorem s_X0_entry_15 {p : Program} {l : Launch} {e : Env} {R : Room} {s : State} {m : MethodId} {args : Array Value} {below : List Frame} {meth : Method} {c : Code} {nW : Nat} {dC : Nat → ClassId} {dI : Nat → Nat → Nat} {k : Nat → ClassId} {g : Nat → Nat} {A : Nat → Prop} {J : Nat → List qV → List qV → qW → Prop} {Q : qR} (X : q_X p R s m args meth c cX0_entry 3 nW 0 0 RX0 (some .int) dC dI k g A) (hJ : ∀ d : Nat, q_Sd p l e R s m args below meth c 3 nW dC dI k g A (MQ below (q_post (dC, dI) k g nW Q A) args s 0 0 A) d (x_cut (is_X0_entry d) (J d))) : q_Sd p l e R s m args below meth c 3 nW dC dI k g A (MQ below (q_post (dC, dI) k g nW Q A) args s 0 0 A) 15 (b_X0_entry_15 J Q) := by
  unfold b_X0_entry_15
  refine s_bipush X ⟨by decide, by decide⟩ (by decide) dX0_entry_15 ?_
  refine s_goto X (tgt := 23) dX0_entry_17 (by decide) ?_
  exact s_X0_entry_23 X hJ
set_option maxRecDepth 100000 in
def b_X0_entry_0 (J : Nat → List qV → List qV → qW → Prop) (Q : qR) : qK := x_iload 2 (x_if_lt (b_X0_entry_15 J Q) (x_iload 2 (x_iload 1 (x_icmp_ge (b_X0_entry_15 J Q) (x_iload 2 (x_aload 0 (x_alen (x_icmp_lt (x_aload 0 (x_iload 2 (x_iald (b_X0_entry_23 J Q)))) (b_X0_entry_15 J Q)))))))))
set_option maxRecDepth 100000 in
theorem s_X0_entry_0 {p : Program} {l : Launch} {e : Env} {R : Room} {s : State} {m : MethodId} {args : Array Value} {below : List Frame} {meth : Method} {c : Code} {nW : Nat} {dC : Nat → ClassId} {dI : Nat → Nat → Nat} {k : Nat → ClassId} {g : Nat → Nat} {A : Nat → Prop} {J : Nat → List qV → List qV → qW → Prop} {Q : qR} (X : q_X p R s m args meth c cX0_entry 3 nW 0 0 RX0 (some .int) dC dI k g A) (hJ : ∀ d : Nat, q_Sd p l e R s m args below meth c 3 nW dC dI k g A (MQ below (q_post (dC, dI) k g nW Q A) args s 0 0 A) d (x_cut (is_X0_entry d) (J d))) : q_Sd p l e R s m args below meth c 3 nW dC dI k g A (MQ below (q_post (dC, dI) k g nW Q A) args s 0 0 A) 0 (b_X0_entry_0 J Q) := by
  unfold b_X0_entry_0
  refine s_iload_n X rfl dX0_entry_0 ?_
  refine s_if_lt X (tgt := 15) dX0_entry_1 (by decide) ?_ ?_
  · exact s_X0_entry_15 X hJ
  · refine s_iload_n X rfl dX0_entry_4 ?_
    refine s_iload_n X rfl dX0_entry_5 ?_
    refine s_icmp_ge X (tgt := 15) dX0_entry_6 (by decide) ?_ ?_
    · exact s_X0_entry_15 X hJ
    · refine s_iload_n X rfl dX0_entry_9 ?_
      refine s_aload_n X rfl dX0_entry_10 ?_
      refine s_alen X dX0_entry_11 ?_
      refine s_icmp_lt X (tgt := 20) dX0_entry_12 (by decide) ?_ ?_
      · refine s_aload_n X rfl dX0_entry_20 ?_
        refine s_iload_n X rfl dX0_entry_21 ?_
        refine s_iald X dX0_entry_22 ?_
        exact s_X0_entry_23 X hJ
      · exact s_X0_entry_15 X hJ

def spr_X0_entry : List qV → qW → (Option qV → Prop) → Prop := fun av w Q => ∃ (n : Nat) (f : Nat → Int) (a : Int) (b : Int), av = [q2 0, q1 a, q1 b] ∧ w = [.inl (0, n, .inl f)] ∧ (n < 2147483648) ∧ (∀ (r : Int) , Q (some (q1 r)))
def sp_X0_entry : qS := fun av w Q => spr_X0_entry av w (fun r => Q r w)
set_option maxHeartbeats 4000000 in
set_option maxRecDepth 100000 in
theorem m_X0_entry (l : Launch) : q_M l yX0_entry cX0_entry 3 (some .int) 0 0 sp_X0_entry := by
  refine q_meth (by decide) (fun av w Q h => by obtain ⟨n, f, a, b, rfl, rfl, hn, hQ⟩ := h; exact Nat.le_of_ble_eq_true rfl) ?_
  intro p e R s m args below meth c dC dI k g A av w Q hsp oka okw X
  obtain ⟨n, f, a, b, rfl, rfl, hn, hQ⟩ := hsp
  have o_a : -2147483648 ≤ a ∧ a ≤ 2147483647 := oka _ (List.mem_of_getElem? (i := 1) rfl)
  have o_b : -2147483648 ≤ b ∧ b ≤ 2147483647 := oka _ (List.mem_of_getElem? (i := 2) rfl)
  refine s_mono (s_X0_entry_0 X (J := fun _ _ _ _ => False) (fun d => s_cutF)) ?_
  rintro lv st w' ⟨rfl, rfl, rfl⟩
  apply And.intro
  · intro h1
    exact hQ _
  · intro h1
    apply And.intro
    · intro h6
      exact hQ _
    · intro h6
      apply And.intro
      · omega
      apply And.intro
      · intro h12
        apply And.intro
        · exact ⟨by omega, by omega⟩
        intro z22 h22
        exact hQ _
      · intro h12
        exact hQ _

theorem dX0_daring_0 : decode cX0_daring 0 = .ok (.iconst 0, 1) := by decide +kernel
theorem dX0_daring_1 : decode cX0_daring 1 = .ok (.istore_n 3, 1) := by decide +kernel
theorem dX0_daring_2 : decode cX0_daring 2 = .ok (.iconst 0, 1) := by decide +kernel
theorem dX0_daring_3 : decode cX0_daring 3 = .ok (.istore 4, 2) := by decide +kernel
theorem dX0_daring_5 : decode cX0_daring 5 = .ok (.iload 4, 2) := by decide +kernel
theorem dX0_daring_7 : decode cX0_daring 7 = .ok (.aload_n 0, 1) := by decide +kernel
theorem dX0_daring_8 : decode cX0_daring 8 = .ok (.getfield 51, 3) := by decide +kernel
theorem dX0_daring_11 : decode cX0_daring 11 = .ok (.if_icmp .ge 39, 3) := by decide +kernel
theorem dX0_daring_14 : decode cX0_daring 14 = .ok (.bipush 10, 2) := by decide +kernel
theorem dX0_daring_16 : decode cX0_daring 16 = .ok (.aload_n 0, 1) := by decide +kernel
theorem dX0_daring_17 : decode cX0_daring 17 = .ok (.getfield 21, 3) := by decide +kernel
theorem dX0_daring_20 : decode cX0_daring 20 = .ok (.iconst 4, 1) := by decide +kernel
theorem dX0_daring_21 : decode cX0_daring 21 = .ok (.iload 4, 2) := by decide +kernel
theorem dX0_daring_23 : decode cX0_daring 23 = .ok (.imul, 1) := by decide +kernel
theorem dX0_daring_24 : decode cX0_daring 24 = .ok (.iload_n 1, 1) := by decide +kernel
theorem dX0_daring_25 : decode cX0_daring 25 = .ok (.iadd, 1) := by decide +kernel
theorem dX0_daring_26 : decode cX0_daring 26 = .ok (.iaload, 1) := by decide +kernel
theorem dX0_daring_27 : decode cX0_daring 27 = .ok (.imul, 1) := by decide +kernel
theorem dX0_daring_28 : decode cX0_daring 28 = .ok (.iload_n 2, 1) := by decide +kernel
theorem dX0_daring_29 : decode cX0_daring 29 = .ok (.aload_n 0, 1) := by decide +kernel
theorem dX0_daring_30 : decode cX0_daring 30 = .ok (.getfield 58, 3) := by decide +kernel
theorem dX0_daring_33 : decode cX0_daring 33 = .ok (.imul, 1) := by decide +kernel
theorem dX0_daring_34 : decode cX0_daring 34 = .ok (.if_icmp .le 10, 3) := by decide +kernel
theorem dX0_daring_37 : decode cX0_daring 37 = .ok (.iload_n 3, 1) := by decide +kernel
theorem dX0_daring_38 : decode cX0_daring 38 = .ok (.iconst 1, 1) := by decide +kernel
theorem dX0_daring_39 : decode cX0_daring 39 = .ok (.iload 4, 2) := by decide +kernel
theorem dX0_daring_41 : decode cX0_daring 41 = .ok (.ishl, 1) := by decide +kernel
theorem dX0_daring_42 : decode cX0_daring 42 = .ok (.ior, 1) := by decide +kernel
theorem dX0_daring_43 : decode cX0_daring 43 = .ok (.istore_n 3, 1) := by decide +kernel
theorem dX0_daring_44 : decode cX0_daring 44 = .ok (.iinc 4 1, 3) := by decide +kernel
theorem dX0_daring_47 : decode cX0_daring 47 = .ok (.goto (-42), 3) := by decide +kernel
theorem dX0_daring_50 : decode cX0_daring 50 = .ok (.iload_n 3, 1) := by decide +kernel
theorem dX0_daring_51 : decode cX0_daring 51 = .ok (.ireturn, 1) := by decide +kernel
def is_X0_daring : Nat → List Nat := fun d => if d = 5 then [0, 1, 2, 3, 4] else []
set_option maxRecDepth 100000 in
def b_X0_daring_44 (J : Nat → List qV → List qV → qW → Prop) (Q : qR) : qK := x_iinc 4 1 (x_cut [0, 1, 2, 3, 4] (J 5))
set_option maxRecDepth 100000 in
theorem s_X0_daring_44 {p : Program} {l : Launch} {e : Env} {R : Room} {s : State} {m : MethodId} {args : Array Value} {below : List Frame} {meth : Method} {c : Code} {nW : Nat} {dC : Nat → ClassId} {dI : Nat → Nat → Nat} {k : Nat → ClassId} {g : Nat → Nat} {A : Nat → Prop} {J : Nat → List qV → List qV → qW → Prop} {Q : qR} (X : q_X p R s m args meth c cX0_daring 5 nW 0 0 RX0 (some .int) dC dI k g A) (hJ : ∀ d : Nat, q_Sd p l e R s m args below meth c 5 nW dC dI k g A (MQ below (q_post (dC, dI) k g nW Q A) args s 0 0 A) d (x_cut (is_X0_daring d) (J d))) : q_Sd p l e R s m args below meth c 5 nW dC dI k g A (MQ below (q_post (dC, dI) k g nW Q A) args s 0 0 A) 44 (b_X0_daring_44 J Q) := by
  unfold b_X0_daring_44
  refine s_iinc X (by decide) dX0_daring_44 ?_
  refine s_goto X (tgt := 5) dX0_daring_47 (by decide) ?_
  exact hJ 5
set_option maxRecDepth 100000 in
def b_X0_daring_43 (J : Nat → List qV → List qV → qW → Prop) (Q : qR) : qK := x_istore 3 (b_X0_daring_44 J Q)
set_option maxRecDepth 100000 in
theorem s_X0_daring_43 {p : Program} {l : Launch} {e : Env} {R : Room} {s : State} {m : MethodId} {args : Array Value} {below : List Frame} {meth : Method} {c : Code} {nW : Nat} {dC : Nat → ClassId} {dI : Nat → Nat → Nat} {k : Nat → ClassId} {g : Nat → Nat} {A : Nat → Prop} {J : Nat → List qV → List qV → qW → Prop} {Q : qR} (X : q_X p R s m args meth c cX0_daring 5 nW 0 0 RX0 (some .int) dC dI k g A) (hJ : ∀ d : Nat, q_Sd p l e R s m args below meth c 5 nW dC dI k g A (MQ below (q_post (dC, dI) k g nW Q A) args s 0 0 A) d (x_cut (is_X0_daring d) (J d))) : q_Sd p l e R s m args below meth c 5 nW dC dI k g A (MQ below (q_post (dC, dI) k g nW Q A) args s 0 0 A) 43 (b_X0_daring_43 J Q) := by
  unfold b_X0_daring_43
  refine s_istore_n X rfl (by decide) dX0_daring_43 ?_
  exact s_X0_daring_44 X hJ
set_option maxRecDepth 100000 in
def b_X0_daring_5 (J : Nat → List qV → List qV → qW → Prop) (Q : qR) : qK := x_iload 4 (x_aload 0 (x_get 0 7 (x_icmp_ge (x_iload 3 (x_iret Q)) (x_int 10 (x_aload 0 (x_get 0 3 (x_int 4 (x_iload 4 (x_imul (x_iload 1 (x_iadd (x_iald (x_imul (x_iload 2 (x_aload 0 (x_get 0 9 (x_imul (x_icmp_le (b_X0_daring_44 J Q) (x_iload 3 (x_int 1 (x_iload 4 (x_ishl (x_ior (b_X0_daring_43 J Q))))))))))))))))))))))))
set_option maxRecDepth 100000 in
theorem s_X0_daring_5 {p : Program} {l : Launch} {e : Env} {R : Room} {s : State} {m : MethodId} {args : Array Value} {below : List Frame} {meth : Method} {c : Code} {nW : Nat} {dC : Nat → ClassId} {dI : Nat → Nat → Nat} {k : Nat → ClassId} {g : Nat → Nat} {A : Nat → Prop} {J : Nat → List qV → List qV → qW → Prop} {Q : qR} (X : q_X p R s m args meth c cX0_daring 5 nW 0 0 RX0 (some .int) dC dI k g A) (hJ : ∀ d : Nat, q_Sd p l e R s m args below meth c 5 nW dC dI k g A (MQ below (q_post (dC, dI) k g nW Q A) args s 0 0 A) d (x_cut (is_X0_daring d) (J d))) : q_Sd p l e R s m args below meth c 5 nW dC dI k g A (MQ below (q_post (dC, dI) k g nW Q A) args s 0 0 A) 5 (b_X0_daring_5 J Q) := by
  unfold b_X0_daring_5
  refine s_iload X dX0_daring_5 ?_
  refine s_aload_n X rfl dX0_daring_7 ?_
  refine s_get X (T := TX0) (C := RX0) (N := 12) tu_X0 rfl (by decide) tw_193 dX0_daring_8 ?_
  refine s_icmp_ge X (tgt := 50) dX0_daring_11 (by decide) ?_ ?_
  · refine s_iload_n X rfl dX0_daring_50 ?_
    exact s_iret X dX0_daring_51
  · refine s_bipush X ⟨by decide, by decide⟩ (by decide) dX0_daring_14 ?_
    refine s_aload_n X rfl dX0_daring_16 ?_
    refine s_get X (T := TX0) (C := RX0) (N := 12) tu_X0 rfl (by decide) tw_179 dX0_daring_17 ?_
    refine s_iconst X ⟨by decide, by decide⟩ dX0_daring_20 ?_
    refine s_iload X dX0_daring_21 ?_
    refine s_imul X dX0_daring_23 ?_
    refine s_iload_n X rfl dX0_daring_24 ?_
    refine s_iadd X dX0_daring_25 ?_
    refine s_iald X dX0_daring_26 ?_
    refine s_imul X dX0_daring_27 ?_
    refine s_iload_n X rfl dX0_daring_28 ?_
    refine s_aload_n X rfl dX0_daring_29 ?_
    refine s_get X (T := TX0) (C := RX0) (N := 12) tu_X0 rfl (by decide) tw_200 dX0_daring_30 ?_
    refine s_imul X dX0_daring_33 ?_
    refine s_icmp_le X (tgt := 44) dX0_daring_34 (by decide) ?_ ?_
    · exact s_X0_daring_44 X hJ
    · refine s_iload_n X rfl dX0_daring_37 ?_
      refine s_iconst X ⟨by decide, by decide⟩ dX0_daring_38 ?_
      refine s_iload X dX0_daring_39 ?_
      refine s_ishl X dX0_daring_41 ?_
      refine s_ior X dX0_daring_42 ?_
      exact s_X0_daring_43 X hJ
set_option maxRecDepth 100000 in
def b_X0_daring_0 (J : Nat → List qV → List qV → qW → Prop) (Q : qR) : qK := x_int 0 (x_istore 3 (x_int 0 (x_istore 4 (x_cut [0, 1, 2, 3, 4] (J 5)))))
set_option maxRecDepth 100000 in
theorem s_X0_daring_0 {p : Program} {l : Launch} {e : Env} {R : Room} {s : State} {m : MethodId} {args : Array Value} {below : List Frame} {meth : Method} {c : Code} {nW : Nat} {dC : Nat → ClassId} {dI : Nat → Nat → Nat} {k : Nat → ClassId} {g : Nat → Nat} {A : Nat → Prop} {J : Nat → List qV → List qV → qW → Prop} {Q : qR} (X : q_X p R s m args meth c cX0_daring 5 nW 0 0 RX0 (some .int) dC dI k g A) (hJ : ∀ d : Nat, q_Sd p l e R s m args below meth c 5 nW dC dI k g A (MQ below (q_post (dC, dI) k g nW Q A) args s 0 0 A) d (x_cut (is_X0_daring d) (J d))) : q_Sd p l e R s m args below meth c 5 nW dC dI k g A (MQ below (q_post (dC, dI) k g nW Q A) args s 0 0 A) 0 (b_X0_daring_0 J Q) := by
  unfold b_X0_daring_0
  refine s_iconst X ⟨by decide, by decide⟩ dX0_daring_0 ?_
  refine s_istore_n X rfl (by decide) dX0_daring_1 ?_
  refine s_iconst X ⟨by decide, by decide⟩ dX0_daring_2 ?_
  refine s_istore X (by decide) dX0_daring_3 ?_
  exact hJ 5

def spr_X0_daring : List qV → qW → (Option qV → Prop) → Prop := fun av w Q => ∃ (f1 : Nat → Int) (f2 : Nat → Int) (f3 : Nat → Int) (f4 : Nat → Int) (f5 : Nat → Int) (f6 : Nat → Int) (f7 : Nat → Int) (u0 : Int) (u1 : Int) (u2 : Int) (u3 : Int) (u4 : Int) (a : Int) (b : Int), av = [q2 0, q1 a, q1 b] ∧ w = wB f1 f2 f3 f4 f5 f6 f7 u0 u1 u2 u3 u4 ∧ (0 ≤ u0 ∧ u0 ≤ 8) ∧ (0 ≤ a ∧ a ≤ 3) ∧ (∀ (r : Int) , Q (some (q1 r)))
def sp_X0_daring : qS := fun av w Q => spr_X0_daring av w (fun r => Q r w)
def I_X0_daring (f1 : Nat → Int) (f2 : Nat → Int) (f3 : Nat → Int) (f4 : Nat → Int) (f5 : Nat → Int) (f6 : Nat → Int) (f7 : Nat → Int) (u0 : Int) (u1 : Int) (u2 : Int) (u3 : Int) (u4 : Int) (a : Int) (b : Int) : Nat → Nat → List qV → List qV → qW → Prop := fun dz mz vz sz wz => if dz = 5 then (∃ (v3 : Int) (v4 : Int), vz = [q2 0, q1 a, q1 b, q1 v3, q1 v4] ∧ sz = [] ∧ wz = wB f1 f2 f3 f4 f5 f6 f7 u0 u1 u2 u3 u4 ∧ mz = (u0 - v4).toNat ∧ (0 ≤ v4 ∧ v4 ≤ u0)) else False
set_option maxHeartbeats 4000000 in
set_option maxRecDepth 100000 in
theorem m_X0_daring (l : Launch) : q_M l yX0_daring cX0_daring 5 (some .int) 0 0 sp_X0_daring := by
  refine q_meth (by decide) (fun av w Q h => by obtain ⟨f1, f2, f3, f4, f5, f6, f7, u0, u1, u2, u3, u4, a, b, rfl, rfl, hu0, ha, hQ⟩ := h; exact Nat.le_of_ble_eq_true rfl) ?_
  intro p e R s m args below meth c dC dI k g A av w Q hsp oka okw X
  obtain ⟨f1, f2, f3, f4, f5, f6, f7, u0, u1, u2, u3, u4, a, b, rfl, rfl, hu0, ha, hQ⟩ := hsp
  have o_a : -2147483648 ≤ a ∧ a ≤ 2147483647 := oka _ (List.mem_of_getElem? (i := 1) rfl)
  have o_b : -2147483648 ≤ b ∧ b ≤ 2147483647 := oka _ (List.mem_of_getElem? (i := 2) rfl)
  refine s_mono (s_X0_daring_0 X (J := fun dz vz sz wz => ∃ mz, I_X0_daring f1 f2 f3 f4 f5 f6 f7 u0 u1 u2 u3 u4 a b dz mz vz sz wz) (q_loopn (I_X0_daring f1 f2 f3 f4 f5 f6 f7 u0 u1 u2 u3 u4 a b) (fun dz J => if dz = 5 then b_X0_daring_5 J Q else q_F) ?hs ?hv)) ?_
  case hs =>
    intro d J hJ
    by_cases h5 : d = 5
    · subst h5; exact s_X0_daring_5 X hJ
    simp only [h5, if_false]
    exact s_F
  case hv =>
    intro dz mz vz sz wz hI okv oks okw hlen
    by_cases h5 : dz = 5
    · subst h5
      obtain ⟨v3, v4, rfl, rfl, rfl, hn, hp⟩ := hI
      apply And.intro
      · intro h11
        exact hQ _
      · intro h11
        intro z23 h23
        first | replace h23 := e_mul h23 (by omega) | replace h23 := e_rng h23
        intro z25 h25
        first | replace h25 := e_add h25 (by omega) | replace h25 := e_rng h25
        apply And.intro
        · exact ⟨by omega, by omega⟩
        intro z26 h26
        intro z27 h27
        first | replace h27 := e_mul h27 (by omega) | replace h27 := e_rng h27
        intro z33 h33
        first | replace h33 := e_mul h33 (by omega) | replace h33 := e_rng h33
        apply And.intro
        · intro h34
          intro z44 h44
          first | replace h44 := e_add h44 (by omega) | replace h44 := e_rng h44
          exact ⟨_, ⟨_, _, rfl, rfl, rfl, rfl, (by first | omega | assumption | exact q_rg_up (by assumption) (by omega) | exact q_rg_up (q_rg_up (by assumption) (by omega)) (by omega) | exact q_rg_cpy (by assumption) (by assumption))⟩, by omega⟩
        · intro h34
          intro z41 h41
          first | replace h41 := e_shl h41 (by omega) | replace h41 := e_rng h41
          intro z42 h42
          first | replace h42 := e_or8 h42 (by omega) (by omega) | replace h42 := e_or9 h42 (by omega) (by omega) | replace h42 := e_rng h42
          intro z44 h44
          first | replace h44 := e_add h44 (by omega) | replace h44 := e_rng h44
          exact ⟨_, ⟨_, _, rfl, rfl, rfl, rfl, (by first | omega | assumption | exact q_rg_up (by assumption) (by omega) | exact q_rg_up (q_rg_up (by assumption) (by omega)) (by omega) | exact q_rg_cpy (by assumption) (by assumption))⟩, by omega⟩
    simp only [I_X0_daring, h5, if_false] at hI
  rintro lv st w' ⟨rfl, rfl, rfl⟩
  exact ⟨_, _, _, rfl, rfl, rfl, rfl, (by first | omega | assumption | exact q_rg_up (by assumption) (by omega) | exact q_rg_up (q_rg_up (by assumption) (by omega)) (by omega) | exact q_rg_cpy (by assumption) (by assumption))⟩

theorem dX0_harm_0 : decode cX0_harm 0 = .ok (.aload_n 0, 1) := by decide +kernel
theorem dX0_harm_1 : decode cX0_harm 1 = .ok (.iload_n 1, 1) := by decide +kernel
theorem dX0_harm_2 : decode cX0_harm 2 = .ok (.iload_n 2, 1) := by decide +kernel
theorem dX0_harm_3 : decode cX0_harm 3 = .ok (.invokevirtual 79, 3) := by decide +kernel
theorem dX0_harm_6 : decode cX0_harm 6 = .ok (.istore_n 3, 1) := by decide +kernel
theorem dX0_harm_7 : decode cX0_harm 7 = .ok (.iconst 0, 1) := by decide +kernel
theorem dX0_harm_8 : decode cX0_harm 8 = .ok (.istore 4, 2) := by decide +kernel
theorem dX0_harm_10 : decode cX0_harm 10 = .ok (.iconst 0, 1) := by decide +kernel
theorem dX0_harm_11 : decode cX0_harm 11 = .ok (.istore 5, 2) := by decide +kernel
theorem dX0_harm_13 : decode cX0_harm 13 = .ok (.iload 5, 2) := by decide +kernel
theorem dX0_harm_15 : decode cX0_harm 15 = .ok (.aload_n 0, 1) := by decide +kernel
theorem dX0_harm_16 : decode cX0_harm 16 = .ok (.getfield 51, 3) := by decide +kernel
theorem dX0_harm_19 : decode cX0_harm 19 = .ok (.if_icmp .ge 34, 3) := by decide +kernel
theorem dX0_harm_22 : decode cX0_harm 22 = .ok (.iload_n 3, 1) := by decide +kernel
theorem dX0_harm_23 : decode cX0_harm 23 = .ok (.iload 5, 2) := by decide +kernel
theorem dX0_harm_25 : decode cX0_harm 25 = .ok (.ishr, 1) := by decide +kernel
theorem dX0_harm_26 : decode cX0_harm 26 = .ok (.iconst 1, 1) := by decide +kernel
theorem dX0_harm_27 : decode cX0_harm 27 = .ok (.iand, 1) := by decide +kernel
theorem dX0_harm_28 : decode cX0_harm 28 = .ok (.ifCond .eq 19, 3) := by decide +kernel
theorem dX0_harm_31 : decode cX0_harm 31 = .ok (.iload 4, 2) := by decide +kernel
theorem dX0_harm_33 : decode cX0_harm 33 = .ok (.aload_n 0, 1) := by decide +kernel
theorem dX0_harm_34 : decode cX0_harm 34 = .ok (.getfield 21, 3) := by decide +kernel
theorem dX0_harm_37 : decode cX0_harm 37 = .ok (.iconst 4, 1) := by decide +kernel
theorem dX0_harm_38 : decode cX0_harm 38 = .ok (.iload 5, 2) := by decide +kernel
theorem dX0_harm_40 : decode cX0_harm 40 = .ok (.imul, 1) := by decide +kernel
theorem dX0_harm_41 : decode cX0_harm 41 = .ok (.iload_n 1, 1) := by decide +kernel
theorem dX0_harm_42 : decode cX0_harm 42 = .ok (.iadd, 1) := by decide +kernel
theorem dX0_harm_43 : decode cX0_harm 43 = .ok (.iaload, 1) := by decide +kernel
theorem dX0_harm_44 : decode cX0_harm 44 = .ok (.iadd, 1) := by decide +kernel
theorem dX0_harm_45 : decode cX0_harm 45 = .ok (.istore 4, 2) := by decide +kernel
theorem dX0_harm_47 : decode cX0_harm 47 = .ok (.iinc 5 1, 3) := by decide +kernel
theorem dX0_harm_50 : decode cX0_harm 50 = .ok (.goto (-37), 3) := by decide +kernel
theorem dX0_harm_53 : decode cX0_harm 53 = .ok (.iload 4, 2) := by decide +kernel
theorem dX0_harm_55 : decode cX0_harm 55 = .ok (.ireturn, 1) := by decide +kernel
def is_X0_harm : Nat → List Nat := fun d => if d = 13 then [0, 1, 3, 4, 5] else []
set_option maxRecDepth 100000 in
def b_X0_harm_47 (J : Nat → List qV → List qV → qW → Prop) (Q : qR) : qK := x_iinc 5 1 (x_cut [0, 1, 3, 4, 5] (J 13))
set_option maxRecDepth 100000 in
theorem s_X0_harm_47 {p : Program} {l : Launch} {e : Env} {R : Room} {s : State} {m : MethodId} {args : Array Value} {below : List Frame} {meth : Method} {c : Code} {nW : Nat} {dC : Nat → ClassId} {dI : Nat → Nat → Nat} {k : Nat → ClassId} {g : Nat → Nat} {A : Nat → Prop} {J : Nat → List qV → List qV → qW → Prop} {Q : qR} (X : q_X p R s m args meth c cX0_harm 6 nW 1 24 RX0 (some .int) dC dI k g A) (hJ : ∀ d : Nat, q_Sd p l e R s m args below meth c 6 nW dC dI k g A (MQ below (q_post (dC, dI) k g nW Q A) args s 0 0 A) d (x_cut (is_X0_harm d) (J d))) : q_Sd p l e R s m args below meth c 6 nW dC dI k g A (MQ below (q_post (dC, dI) k g nW Q A) args s 0 0 A) 47 (b_X0_harm_47 J Q) := by
  unfold b_X0_harm_47
  refine s_iinc X (by decide) dX0_harm_47 ?_
  refine s_goto X (tgt := 13) dX0_harm_50 (by decide) ?_
  exact hJ 13
set_option maxRecDepth 100000 in
def b_X0_harm_13 (J : Nat → List qV → List qV → qW → Prop) (Q : qR) : qK := x_iload 5 (x_aload 0 (x_get 0 7 (x_icmp_ge (x_iload 4 (x_iret Q)) (x_iload 3 (x_iload 5 (x_ishr (x_int 1 (x_iand (x_if_eq (b_X0_harm_47 J Q) (x_iload 4 (x_aload 0 (x_get 0 3 (x_int 4 (x_iload 5 (x_imul (x_iload 1 (x_iadd (x_iald (x_iadd (x_istore 4 (b_X0_harm_47 J Q)))))))))))))))))))))
set_option maxRecDepth 100000 in
theorem s_X0_harm_13 {p : Program} {l : Launch} {e : Env} {R : Room} {s : State} {m : MethodId} {args : Array Value} {below : List Frame} {meth : Method} {c : Code} {nW : Nat} {dC : Nat → ClassId} {dI : Nat → Nat → Nat} {k : Nat → ClassId} {g : Nat → Nat} {A : Nat → Prop} {J : Nat → List qV → List qV → qW → Prop} {Q : qR} (X : q_X p R s m args meth c cX0_harm 6 nW 1 24 RX0 (some .int) dC dI k g A) (hJ : ∀ d : Nat, q_Sd p l e R s m args below meth c 6 nW dC dI k g A (MQ below (q_post (dC, dI) k g nW Q A) args s 0 0 A) d (x_cut (is_X0_harm d) (J d))) : q_Sd p l e R s m args below meth c 6 nW dC dI k g A (MQ below (q_post (dC, dI) k g nW Q A) args s 0 0 A) 13 (b_X0_harm_13 J Q) := by
  unfold b_X0_harm_13
  refine s_iload X dX0_harm_13 ?_
  refine s_aload_n X rfl dX0_harm_15 ?_
  refine s_get X (T := TX0) (C := RX0) (N := 12) tu_X0 rfl (by decide) tw_193 dX0_harm_16 ?_
  refine s_icmp_ge X (tgt := 53) dX0_harm_19 (by decide) ?_ ?_
  · refine s_iload X dX0_harm_53 ?_
    exact s_iret X dX0_harm_55
  · refine s_iload_n X rfl dX0_harm_22 ?_
    refine s_iload X dX0_harm_23 ?_
    refine s_ishr X dX0_harm_25 ?_
    refine s_iconst X ⟨by decide, by decide⟩ dX0_harm_26 ?_
    refine s_iand X dX0_harm_27 ?_
    refine s_if_eq X (tgt := 47) dX0_harm_28 (by decide) ?_ ?_
    · exact s_X0_harm_47 X hJ
    · refine s_iload X dX0_harm_31 ?_
      refine s_aload_n X rfl dX0_harm_33 ?_
      refine s_get X (T := TX0) (C := RX0) (N := 12) tu_X0 rfl (by decide) tw_179 dX0_harm_34 ?_
      refine s_iconst X ⟨by decide, by decide⟩ dX0_harm_37 ?_
      refine s_iload X dX0_harm_38 ?_
      refine s_imul X dX0_harm_40 ?_
      refine s_iload_n X rfl dX0_harm_41 ?_
      refine s_iadd X dX0_harm_42 ?_
      refine s_iald X dX0_harm_43 ?_
      refine s_iadd X dX0_harm_44 ?_
      refine s_istore X (by decide) dX0_harm_45 ?_
      exact s_X0_harm_47 X hJ
set_option maxRecDepth 100000 in
def b_X0_harm_0 (J : Nat → List qV → List qV → qW → Prop) (Q : qR) : qK := x_aload 0 (x_iload 1 (x_iload 2 (x_callr (some 0) 3 spr_X0_daring (x_istore 3 (x_int 0 (x_istore 4 (x_int 0 (x_istore 5 (x_cut [0, 1, 3, 4, 5] (J 13))))))))))
set_option maxRecDepth 100000 in
theorem s_X0_harm_0 {p : Program} {l : Launch} {e : Env} {R : Room} {s : State} {m : MethodId} {args : Array Value} {below : List Frame} {meth : Method} {c : Code} {nW : Nat} {dC : Nat → ClassId} {dI : Nat → Nat → Nat} {k : Nat → ClassId} {g : Nat → Nat} {A : Nat → Prop} {J : Nat → List qV → List qV → qW → Prop} {Q : qR} (X : q_X p R s m args meth c cX0_harm 6 nW 1 24 RX0 (some .int) dC dI k g A) (hJ : ∀ d : Nat, q_Sd p l e R s m args below meth c 6 nW dC dI k g A (MQ below (q_post (dC, dI) k g nW Q A) args s 0 0 A) d (x_cut (is_X0_harm d) (J d))) : q_Sd p l e R s m args below meth c 6 nW dC dI k g A (MQ below (q_post (dC, dI) k g nW Q A) args s 0 0 A) 0 (b_X0_harm_0 J Q) := by
  unfold b_X0_harm_0
  refine s_aload_n X rfl dX0_harm_0 ?_
  refine s_iload_n X rfl dX0_harm_1 ?_
  refine s_iload_n X rfl dX0_harm_2 ?_
  refine s_callVr X (m_X0_daring l) tw_719 tw_720 tw_721 tw_122 tw_722 rfl (by decide +kernel) ⟨by decide, by decide⟩ dX0_harm_3 ?_
  refine s_istore_n X rfl (by decide) dX0_harm_6 ?_
  refine s_iconst X ⟨by decide, by decide⟩ dX0_harm_7 ?_
  refine s_istore X (by decide) dX0_harm_8 ?_
  refine s_iconst X ⟨by decide, by decide⟩ dX0_harm_10 ?_
  refine s_istore X (by decide) dX0_harm_11 ?_
  exact hJ 13

def spr_X0_harm : List qV → qW → (Option qV → Prop) → Prop := fun av w Q => ∃ (f1 : Nat → Int) (f2 : Nat → Int) (f3 : Nat → Int) (f4 : Nat → Int) (f5 : Nat → Int) (f6 : Nat → Int) (f7 : Nat → Int) (u0 : Int) (u1 : Int) (u2 : Int) (u3 : Int) (u4 : Int) (a : Int) (b : Int), av = [q2 0, q1 a, q1 b] ∧ w = wB f1 f2 f3 f4 f5 f6 f7 u0 u1 u2 u3 u4 ∧ (0 ≤ u0 ∧ u0 ≤ 8) ∧ (0 ≤ a ∧ a ≤ 3) ∧ (∀ (r : Int) , Q (some (q1 r)))
def sp_X0_harm : qS := fun av w Q => spr_X0_harm av w (fun r => Q r w)
def I_X0_harm (f1 : Nat → Int) (f2 : Nat → Int) (f3 : Nat → Int) (f4 : Nat → Int) (f5 : Nat → Int) (f6 : Nat → Int) (f7 : Nat → Int) (u0 : Int) (u1 : Int) (u2 : Int) (u3 : Int) (u4 : Int) (a : Int) (b : Int) : Nat → Nat → List qV → List qV → qW → Prop := fun dz mz vz sz wz => if dz = 13 then (∃ (v3 : Int) (v4 : Int) (v5 : Int), vz = [q2 0, q1 a, q1 v3, q1 v4, q1 v5] ∧ sz = [] ∧ wz = wB f1 f2 f3 f4 f5 f6 f7 u0 u1 u2 u3 u4 ∧ mz = (u0 - v5).toNat ∧ (0 ≤ v5 ∧ v5 ≤ u0)) else False
set_option maxHeartbeats 4000000 in
set_option maxRecDepth 100000 in
theorem m_X0_harm (l : Launch) : q_M l yX0_harm cX0_harm 6 (some .int) 1 24 sp_X0_harm := by
  refine q_meth (by decide) (fun av w Q h => by obtain ⟨f1, f2, f3, f4, f5, f6, f7, u0, u1, u2, u3, u4, a, b, rfl, rfl, hu0, ha, hQ⟩ := h; exact Nat.le_of_ble_eq_true rfl) ?_
  intro p e R s m args below meth c dC dI k g A av w Q hsp oka okw X
  obtain ⟨f1, f2, f3, f4, f5, f6, f7, u0, u1, u2, u3, u4, a, b, rfl, rfl, hu0, ha, hQ⟩ := hsp
  have o_a : -2147483648 ≤ a ∧ a ≤ 2147483647 := oka _ (List.mem_of_getElem? (i := 1) rfl)
  have o_b : -2147483648 ≤ b ∧ b ≤ 2147483647 := oka _ (List.mem_of_getElem? (i := 2) rfl)
  refine s_mono (s_X0_harm_0 X (J := fun dz vz sz wz => ∃ mz, I_X0_harm f1 f2 f3 f4 f5 f6 f7 u0 u1 u2 u3 u4 a b dz mz vz sz wz) (q_loopn (I_X0_harm f1 f2 f3 f4 f5 f6 f7 u0 u1 u2 u3 u4 a b) (fun dz J => if dz = 13 then b_X0_harm_13 J Q else q_F) ?hs ?hv)) ?_
  case hs =>
    intro d J hJ
    by_cases h13 : d = 13
    · subst h13; exact s_X0_harm_13 X hJ
    simp only [h13, if_false]
    exact s_F
  case hv =>
    intro dz mz vz sz wz hI okv oks okw hlen
    by_cases h13 : dz = 13
    · subst h13
      obtain ⟨v3, v4, v5, rfl, rfl, rfl, hn, hp⟩ := hI
      apply And.intro
      · intro h19
        exact hQ _
      · intro h19
        intro z25 h25
        replace h25 := e_rng h25
        intro z27 h27
        first | replace h27 := e_and1 h27 | replace h27 := e_and255 h27 | replace h27 := e_and h27 (by omega) (by omega) | replace h27 := e_rng h27
        apply And.intro
        · intro h28
          intro z47 h47
          first | replace h47 := e_add h47 (by omega) | replace h47 := e_rng h47
          exact ⟨_, ⟨_, _, _, rfl, rfl, rfl, rfl, (by first | omega | assumption | exact q_rg_up (by assumption) (by omega) | exact q_rg_up (q_rg_up (by assumption) (by omega)) (by omega) | exact q_rg_cpy (by assumption) (by assumption))⟩, by omega⟩
        · intro h28
          intro z40 h40
          first | replace h40 := e_mul h40 (by omega) | replace h40 := e_rng h40
          intro z42 h42
          first | replace h42 := e_add h42 (by omega) | replace h42 := e_rng h42
          apply And.intro
          · exact ⟨by omega, by omega⟩
          intro z43 h43
          intro z44 h44
          first | replace h44 := e_add h44 (by omega) | replace h44 := e_rng h44
          intro z47 h47
          first | replace h47 := e_add h47 (by omega) | replace h47 := e_rng h47
          exact ⟨_, ⟨_, _, _, rfl, rfl, rfl, rfl, (by first | omega | assumption | exact q_rg_up (by assumption) (by omega) | exact q_rg_up (q_rg_up (by assumption) (by omega)) (by omega) | exact q_rg_cpy (by assumption) (by assumption))⟩, by omega⟩
    simp only [I_X0_harm, h13, if_false] at hI
  rintro lv st w' ⟨rfl, rfl, rfl⟩
  refine Exists.intro [0, 1, 2, 3, 4, 5, 6, 7] (Exists.intro [q2 0, q1 _, q1 _] (Exists.intro (wB _ _ _ _ _ _ _ _ _ _ _ _) (And.intro rfl (And.intro rfl (And.intro rfl (And.intro ⟨⟨_, rfl⟩, rfl⟩ ?_))))))
  refine Exists.intro _ (Exists.intro _ (Exists.intro _ (Exists.intro _ (Exists.intro _ (Exists.intro _ (Exists.intro _ (Exists.intro _ (Exists.intro _ (Exists.intro _ (Exists.intro _ (Exists.intro _ (Exists.intro _ (Exists.intro _ (And.intro rfl (And.intro rfl (And.intro (by first | omega | assumption | exact q_rg_up (by assumption) (by omega) | exact q_rg_up (q_rg_up (by assumption) (by omega)) (by omega) | exact q_rg_cpy (by assumption) (by assumption)) (And.intro (by first | omega | assumption | exact q_rg_up (by assumption) (by omega) | exact q_rg_up (q_rg_up (by assumption) (by omega)) (by omega) | exact q_rg_cpy (by assumption) (by assumption)) (?_))))))))))))))))))
  intro z3
  exact ⟨_, _, _, _, rfl, rfl, rfl, rfl, (by first | omega | assumption | exact q_rg_up (by assumption) (by omega) | exact q_rg_up (q_rg_up (by assumption) (by omega)) (by omega) | exact q_rg_cpy (by assumption) (by assumption))⟩

theorem dX0_deterring_0 : decode cX0_deterring 0 = .ok (.iconst 1, 1) := by decide +kernel
theorem dX0_deterring_1 : decode cX0_deterring 1 = .ok (.istore_n 2, 1) := by decide +kernel
theorem dX0_deterring_2 : decode cX0_deterring 2 = .ok (.iload_n 2, 1) := by decide +kernel
theorem dX0_deterring_3 : decode cX0_deterring 3 = .ok (.bipush 9, 2) := by decide +kernel
theorem dX0_deterring_5 : decode cX0_deterring 5 = .ok (.if_icmp .gt 20, 3) := by decide +kernel
theorem dX0_deterring_8 : decode cX0_deterring 8 = .ok (.aload_n 0, 1) := by decide +kernel
theorem dX0_deterring_9 : decode cX0_deterring 9 = .ok (.iload_n 1, 1) := by decide +kernel
theorem dX0_deterring_10 : decode cX0_deterring 10 = .ok (.iload_n 2, 1) := by decide +kernel
theorem dX0_deterring_11 : decode cX0_deterring 11 = .ok (.invokevirtual 79, 3) := by decide +kernel
theorem dX0_deterring_14 : decode cX0_deterring 14 = .ok (.ifCond .ne 5, 3) := by decide +kernel
theorem dX0_deterring_17 : decode cX0_deterring 17 = .ok (.iload_n 2, 1) := by decide +kernel
theorem dX0_deterring_18 : decode cX0_deterring 18 = .ok (.ireturn, 1) := by decide +kernel
theorem dX0_deterring_19 : decode cX0_deterring 19 = .ok (.iinc 2 1, 3) := by decide +kernel
theorem dX0_deterring_22 : decode cX0_deterring 22 = .ok (.goto (-20), 3) := by decide +kernel
theorem dX0_deterring_25 : decode cX0_deterring 25 = .ok (.iconst (-1), 1) := by decide +kernel
theorem dX0_deterring_26 : decode cX0_deterring 26 = .ok (.ireturn, 1) := by decide +kernel
def is_X0_deterring : Nat → List Nat := fun d => if d = 2 then [0, 1, 2] else []
set_option maxRecDepth 100000 in
def b_X0_deterring_2 (J : Nat → List qV → List qV → qW → Prop) (Q : qR) : qK := x_iload 2 (x_int 9 (x_icmp_gt (x_int (-1) (x_iret Q)) (x_aload 0 (x_iload 1 (x_iload 2 (x_callr (some 0) 3 spr_X0_daring (x_if_ne (x_iinc 2 1 (x_cut [0, 1, 2] (J 2))) (x_iload 2 (x_iret Q)))))))))
set_option maxRecDepth 100000 in
theorem s_X0_deterring_2 {p : Program} {l : Launch} {e : Env} {R : Room} {s : State} {m : MethodId} {args : Array Value} {below : List Frame} {meth : Method} {c : Code} {nW : Nat} {dC : Nat → ClassId} {dI : Nat → Nat → Nat} {k : Nat → ClassId} {g : Nat → Nat} {A : Nat → Prop} {J : Nat → List qV → List qV → qW → Prop} {Q : qR} (X : q_X p R s m args meth c cX0_deterring 3 nW 1 24 RX0 (some .int) dC dI k g A) (hJ : ∀ d : Nat, q_Sd p l e R s m args below meth c 3 nW dC dI k g A (MQ below (q_post (dC, dI) k g nW Q A) args s 0 0 A) d (x_cut (is_X0_deterring d) (J d))) : q_Sd p l e R s m args below meth c 3 nW dC dI k g A (MQ below (q_post (dC, dI) k g nW Q A) args s 0 0 A) 2 (b_X0_deterring_2 J Q) := by
  unfold b_X0_deterring_2
  refine s_iload_n X rfl dX0_deterring_2 ?_
  refine s_bipush X ⟨by decide, by decide⟩ (by decide) dX0_deterring_3 ?_
  refine s_icmp_gt X (tgt := 25) dX0_deterring_5 (by decide) ?_ ?_
  · refine s_iconst X ⟨by decide, by decide⟩ dX0_deterring_25 ?_
    exact s_iret X dX0_deterring_26
  · refine s_aload_n X rfl dX0_deterring_8 ?_
    refine s_iload_n X rfl dX0_deterring_9 ?_
    refine s_iload_n X rfl dX0_deterring_10 ?_
    refine s_callVr X (m_X0_daring l) tw_719 tw_720 tw_721 tw_122 tw_722 rfl (by decide +kernel) ⟨by decide, by decide⟩ dX0_deterring_11 ?_
    refine s_if_ne X (tgt := 19) dX0_deterring_14 (by decide) ?_ ?_
    · refine s_iinc X (by decide) dX0_deterring_19 ?_
      refine s_goto X (tgt := 2) dX0_deterring_22 (by decide) ?_
      exact hJ 2
    · refine s_iload_n X rfl dX0_deterring_17 ?_
      exact s_iret X dX0_deterring_18
set_option maxRecDepth 100000 in
def b_X0_deterring_0 (J : Nat → List qV → List qV → qW → Prop) (Q : qR) : qK := x_int 1 (x_istore 2 (x_cut [0, 1, 2] (J 2)))
set_option maxRecDepth 100000 in
theorem s_X0_deterring_0 {p : Program} {l : Launch} {e : Env} {R : Room} {s : State} {m : MethodId} {args : Array Value} {below : List Frame} {meth : Method} {c : Code} {nW : Nat} {dC : Nat → ClassId} {dI : Nat → Nat → Nat} {k : Nat → ClassId} {g : Nat → Nat} {A : Nat → Prop} {J : Nat → List qV → List qV → qW → Prop} {Q : qR} (X : q_X p R s m args meth c cX0_deterring 3 nW 1 24 RX0 (some .int) dC dI k g A) (hJ : ∀ d : Nat, q_Sd p l e R s m args below meth c 3 nW dC dI k g A (MQ below (q_post (dC, dI) k g nW Q A) args s 0 0 A) d (x_cut (is_X0_deterring d) (J d))) : q_Sd p l e R s m args below meth c 3 nW dC dI k g A (MQ below (q_post (dC, dI) k g nW Q A) args s 0 0 A) 0 (b_X0_deterring_0 J Q) := by
  unfold b_X0_deterring_0
  refine s_iconst X ⟨by decide, by decide⟩ dX0_deterring_0 ?_
  refine s_istore_n X rfl (by decide) dX0_deterring_1 ?_
  exact hJ 2

def spr_X0_deterring : List qV → qW → (Option qV → Prop) → Prop := fun av w Q => ∃ (f1 : Nat → Int) (f2 : Nat → Int) (f3 : Nat → Int) (f4 : Nat → Int) (f5 : Nat → Int) (f6 : Nat → Int) (f7 : Nat → Int) (u0 : Int) (u1 : Int) (u2 : Int) (u3 : Int) (u4 : Int) (a : Int), av = [q2 0, q1 a] ∧ w = wB f1 f2 f3 f4 f5 f6 f7 u0 u1 u2 u3 u4 ∧ (0 ≤ u0 ∧ u0 ≤ 8) ∧ (0 ≤ a ∧ a ≤ 3) ∧ (∀ (r : Int) , Q (some (q1 r)))
def sp_X0_deterring : qS := fun av w Q => spr_X0_deterring av w (fun r => Q r w)
def I_X0_deterring (f1 : Nat → Int) (f2 : Nat → Int) (f3 : Nat → Int) (f4 : Nat → Int) (f5 : Nat → Int) (f6 : Nat → Int) (f7 : Nat → Int) (u0 : Int) (u1 : Int) (u2 : Int) (u3 : Int) (u4 : Int) (a : Int) : Nat → Nat → List qV → List qV → qW → Prop := fun dz mz vz sz wz => if dz = 2 then (∃ (v2 : Int), vz = [q2 0, q1 a, q1 v2] ∧ sz = [] ∧ wz = wB f1 f2 f3 f4 f5 f6 f7 u0 u1 u2 u3 u4 ∧ mz = (10 - v2).toNat ∧ (1 ≤ v2 ∧ v2 ≤ 10)) else False
set_option maxHeartbeats 4000000 in
set_option maxRecDepth 100000 in
theorem m_X0_deterring (l : Launch) : q_M l yX0_deterring cX0_deterring 3 (some .int) 1 24 sp_X0_deterring := by
  refine q_meth (by decide) (fun av w Q h => by obtain ⟨f1, f2, f3, f4, f5, f6, f7, u0, u1, u2, u3, u4, a, rfl, rfl, hu0, ha, hQ⟩ := h; exact Nat.le_of_ble_eq_true rfl) ?_
  intro p e R s m args below meth c dC dI k g A av w Q hsp oka okw X
  obtain ⟨f1, f2, f3, f4, f5, f6, f7, u0, u1, u2, u3, u4, a, rfl, rfl, hu0, ha, hQ⟩ := hsp
  have o_a : -2147483648 ≤ a ∧ a ≤ 2147483647 := oka _ (List.mem_of_getElem? (i := 1) rfl)
  refine s_mono (s_X0_deterring_0 X (J := fun dz vz sz wz => ∃ mz, I_X0_deterring f1 f2 f3 f4 f5 f6 f7 u0 u1 u2 u3 u4 a dz mz vz sz wz) (q_loopn (I_X0_deterring f1 f2 f3 f4 f5 f6 f7 u0 u1 u2 u3 u4 a) (fun dz J => if dz = 2 then b_X0_deterring_2 J Q else q_F) ?hs ?hv)) ?_
  case hs =>
    intro d J hJ
    by_cases h2 : d = 2
    · subst h2; exact s_X0_deterring_2 X hJ
    simp only [h2, if_false]
    exact s_F
  case hv =>
    intro dz mz vz sz wz hI okv oks okw hlen
    by_cases h2 : dz = 2
    · subst h2
      obtain ⟨v2, rfl, rfl, rfl, hn, hp⟩ := hI
      apply And.intro
      · intro h5
        exact hQ _
      · intro h5
        refine Exists.intro [0, 1, 2, 3, 4, 5, 6, 7] (Exists.intro [q2 0, q1 _, q1 _] (Exists.intro (wB _ _ _ _ _ _ _ _ _ _ _ _) (And.intro rfl (And.intro rfl (And.intro rfl (And.intro ⟨⟨_, rfl⟩, rfl⟩ ?_))))))
        refine Exists.intro _ (Exists.intro _ (Exists.intro _ (Exists.intro _ (Exists.intro _ (Exists.intro _ (Exists.intro _ (Exists.intro _ (Exists.intro _ (Exists.intro _ (Exists.intro _ (Exists.intro _ (Exists.intro _ (Exists.intro _ (And.intro rfl (And.intro rfl (And.intro (by first | omega | assumption | exact q_rg_up (by assumption) (by omega) | exact q_rg_up (q_rg_up (by assumption) (by omega)) (by omega) | exact q_rg_cpy (by assumption) (by assumption)) (And.intro (by first | omega | assumption | exact q_rg_up (by assumption) (by omega) | exact q_rg_up (q_rg_up (by assumption) (by omega)) (by omega) | exact q_rg_cpy (by assumption) (by assumption)) (?_))))))))))))))))))
        intro z11
        apply And.intro
        · intro h14
          intro z19 h19
          first | replace h19 := e_add h19 (by omega) | replace h19 := e_rng h19
          exact ⟨_, ⟨_, rfl, rfl, rfl, rfl, (by first | omega | assumption | exact q_rg_up (by assumption) (by omega) | exact q_rg_up (q_rg_up (by assumption) (by omega)) (by omega) | exact q_rg_cpy (by assumption) (by assumption))⟩, by omega⟩
        · intro h14
          exact hQ _
    simp only [I_X0_deterring, h2, if_false] at hI
  rintro lv st w' ⟨rfl, rfl, rfl⟩
  exact ⟨_, _, rfl, rfl, rfl, rfl, (by first | omega | assumption | exact q_rg_up (by assumption) (by omega) | exact q_rg_up (q_rg_up (by assumption) (by omega)) (by omega) | exact q_rg_cpy (by assumption) (by assumption))⟩

theorem dX0_stepsUp_0 : decode cX0_stepsUp 0 = .ok (.iload_n 1, 1) := by decide +kernel
theorem dX0_stepsUp_1 : decode cX0_stepsUp 1 = .ok (.istore_n 3, 1) := by decide +kernel
theorem dX0_stepsUp_2 : decode cX0_stepsUp 2 = .ok (.iconst 0, 1) := by decide +kernel
theorem dX0_stepsUp_3 : decode cX0_stepsUp 3 = .ok (.istore 4, 2) := by decide +kernel
theorem dX0_stepsUp_5 : decode cX0_stepsUp 5 = .ok (.iload 4, 2) := by decide +kernel
theorem dX0_stepsUp_7 : decode cX0_stepsUp 7 = .ok (.aload_n 0, 1) := by decide +kernel
theorem dX0_stepsUp_8 : decode cX0_stepsUp 8 = .ok (.getfield 51, 3) := by decide +kernel
theorem dX0_stepsUp_11 : decode cX0_stepsUp 11 = .ok (.if_icmp .ge 32, 3) := by decide +kernel
theorem dX0_stepsUp_14 : decode cX0_stepsUp 14 = .ok (.aload_n 0, 1) := by decide +kernel
theorem dX0_stepsUp_15 : decode cX0_stepsUp 15 = .ok (.iload_n 3, 1) := by decide +kernel
theorem dX0_stepsUp_16 : decode cX0_stepsUp 16 = .ok (.invokevirtual 75, 3) := by decide +kernel
theorem dX0_stepsUp_19 : decode cX0_stepsUp 19 = .ok (.ifCond .eq 24, 3) := by decide +kernel
theorem dX0_stepsUp_22 : decode cX0_stepsUp 22 = .ok (.iload_n 3, 1) := by decide +kernel
theorem dX0_stepsUp_23 : decode cX0_stepsUp 23 = .ok (.iload_n 2, 1) := by decide +kernel
theorem dX0_stepsUp_24 : decode cX0_stepsUp 24 = .ok (.if_icmp .ne 6, 3) := by decide +kernel
theorem dX0_stepsUp_27 : decode cX0_stepsUp 27 = .ok (.iload 4, 2) := by decide +kernel
theorem dX0_stepsUp_29 : decode cX0_stepsUp 29 = .ok (.ireturn, 1) := by decide +kernel
theorem dX0_stepsUp_30 : decode cX0_stepsUp 30 = .ok (.aload_n 0, 1) := by decide +kernel
theorem dX0_stepsUp_31 : decode cX0_stepsUp 31 = .ok (.getfield 15, 3) := by decide +kernel
theorem dX0_stepsUp_34 : decode cX0_stepsUp 34 = .ok (.iload_n 3, 1) := by decide +kernel
theorem dX0_stepsUp_35 : decode cX0_stepsUp 35 = .ok (.iaload, 1) := by decide +kernel
theorem dX0_stepsUp_36 : decode cX0_stepsUp 36 = .ok (.istore_n 3, 1) := by decide +kernel
theorem dX0_stepsUp_37 : decode cX0_stepsUp 37 = .ok (.iinc 4 1, 3) := by decide +kernel
theorem dX0_stepsUp_40 : decode cX0_stepsUp 40 = .ok (.goto (-35), 3) := by decide +kernel
theorem dX0_stepsUp_43 : decode cX0_stepsUp 43 = .ok (.iconst (-1), 1) := by decide +kernel
theorem dX0_stepsUp_44 : decode cX0_stepsUp 44 = .ok (.ireturn, 1) := by decide +kernel
def is_X0_stepsUp : Nat → List Nat := fun d => if d = 5 then [0, 2, 3, 4] else []
set_option maxRecDepth 100000 in
def b_X0_stepsUp_43 (J : Nat → List qV → List qV → qW → Prop) (Q : qR) : qK := x_int (-1) (x_iret Q)
set_option maxRecDepth 100000 in
theorem s_X0_stepsUp_43 {p : Program} {l : Launch} {e : Env} {R : Room} {s : State} {m : MethodId} {args : Array Value} {below : List Frame} {meth : Method} {c : Code} {nW : Nat} {dC : Nat → ClassId} {dI : Nat → Nat → Nat} {k : Nat → ClassId} {g : Nat → Nat} {A : Nat → Prop} {J : Nat → List qV → List qV → qW → Prop} {Q : qR} (X : q_X p R s m args meth c cX0_stepsUp 5 nW 1 21 RX0 (some .int) dC dI k g A) (hJ : ∀ d : Nat, q_Sd p l e R s m args below meth c 5 nW dC dI k g A (MQ below (q_post (dC, dI) k g nW Q A) args s 0 0 A) d (x_cut (is_X0_stepsUp d) (J d))) : q_Sd p l e R s m args below meth c 5 nW dC dI k g A (MQ below (q_post (dC, dI) k g nW Q A) args s 0 0 A) 43 (b_X0_stepsUp_43 J Q) := by
  unfold b_X0_stepsUp_43
  refine s_iconst X ⟨by decide, by decide⟩ dX0_stepsUp_43 ?_
  exact s_iret X dX0_stepsUp_44
set_option maxRecDepth 100000 in
def b_X0_stepsUp_5 (J : Nat → List qV → List qV → qW → Prop) (Q : qR) : qK := x_iload 4 (x_aload 0 (x_get 0 7 (x_icmp_ge (b_X0_stepsUp_43 J Q) (x_aload 0 (x_iload 3 (x_callr (some 0) 2 spr_X0_has (x_if_eq (b_X0_stepsUp_43 J Q) (x_iload 3 (x_iload 2 (x_icmp_ne (x_aload 0 (x_get 0 1 (x_iload 3 (x_iald (x_istore 3 (x_iinc 4 1 (x_cut [0, 2, 3, 4] (J 5)))))))) (x_iload 4 (x_iret Q))))))))))))
set_option maxRecDepth 100000 in
theorem s_X0_stepsUp_5 {p : Program} {l : Launch} {e : Env} {R : Room} {s : State} {m : MethodId} {args : Array Value} {below : List Frame} {meth : Method} {c : Code} {nW : Nat} {dC : Nat → ClassId} {dI : Nat → Nat → Nat} {k : Nat → ClassId} {g : Nat → Nat} {A : Nat → Prop} {J : Nat → List qV → List qV → qW → Prop} {Q : qR} (X : q_X p R s m args meth c cX0_stepsUp 5 nW 1 21 RX0 (some .int) dC dI k g A) (hJ : ∀ d : Nat, q_Sd p l e R s m args below meth c 5 nW dC dI k g A (MQ below (q_post (dC, dI) k g nW Q A) args s 0 0 A) d (x_cut (is_X0_stepsUp d) (J d))) : q_Sd p l e R s m args below meth c 5 nW dC dI k g A (MQ below (q_post (dC, dI) k g nW Q A) args s 0 0 A) 5 (b_X0_stepsUp_5 J Q) := by
  unfold b_X0_stepsUp_5
  refine s_iload X dX0_stepsUp_5 ?_
  refine s_aload_n X rfl dX0_stepsUp_7 ?_
  refine s_get X (T := TX0) (C := RX0) (N := 12) tu_X0 rfl (by decide) tw_193 dX0_stepsUp_8 ?_
  refine s_icmp_ge X (tgt := 43) dX0_stepsUp_11 (by decide) ?_ ?_
  · exact s_X0_stepsUp_43 X hJ
  · refine s_aload_n X rfl dX0_stepsUp_14 ?_
    refine s_iload_n X rfl dX0_stepsUp_15 ?_
    refine s_callVr X (m_X0_has l) tw_398 tw_399 tw_400 tw_122 tw_401 rfl (by decide +kernel) ⟨by decide, by decide⟩ dX0_stepsUp_16 ?_
    refine s_if_eq X (tgt := 43) dX0_stepsUp_19 (by decide) ?_ ?_
    · exact s_X0_stepsUp_43 X hJ
    · refine s_iload_n X rfl dX0_stepsUp_22 ?_
      refine s_iload_n X rfl dX0_stepsUp_23 ?_
      refine s_icmp_ne X (tgt := 30) dX0_stepsUp_24 (by decide) ?_ ?_
      · refine s_aload_n X rfl dX0_stepsUp_30 ?_
        refine s_get X (T := TX0) (C := RX0) (N := 12) tu_X0 rfl (by decide) tw_172 dX0_stepsUp_31 ?_
        refine s_iload_n X rfl dX0_stepsUp_34 ?_
        refine s_iald X dX0_stepsUp_35 ?_
        refine s_istore_n X rfl (by decide) dX0_stepsUp_36 ?_
        refine s_iinc X (by decide) dX0_stepsUp_37 ?_
        refine s_goto X (tgt := 5) dX0_stepsUp_40 (by decide) ?_
        exact hJ 5
      · refine s_iload X dX0_stepsUp_27 ?_
        exact s_iret X dX0_stepsUp_29
set_option maxRecDepth 100000 in
def b_X0_stepsUp_0 (J : Nat → List qV → List qV → qW → Prop) (Q : qR) : qK := x_iload 1 (x_istore 3 (x_int 0 (x_istore 4 (x_cut [0, 2, 3, 4] (J 5)))))
set_option maxRecDepth 100000 in
theorem s_X0_stepsUp_0 {p : Program} {l : Launch} {e : Env} {R : Room} {s : State} {m : MethodId} {args : Array Value} {below : List Frame} {meth : Method} {c : Code} {nW : Nat} {dC : Nat → ClassId} {dI : Nat → Nat → Nat} {k : Nat → ClassId} {g : Nat → Nat} {A : Nat → Prop} {J : Nat → List qV → List qV → qW → Prop} {Q : qR} (X : q_X p R s m args meth c cX0_stepsUp 5 nW 1 21 RX0 (some .int) dC dI k g A) (hJ : ∀ d : Nat, q_Sd p l e R s m args below meth c 5 nW dC dI k g A (MQ below (q_post (dC, dI) k g nW Q A) args s 0 0 A) d (x_cut (is_X0_stepsUp d) (J d))) : q_Sd p l e R s m args below meth c 5 nW dC dI k g A (MQ below (q_post (dC, dI) k g nW Q A) args s 0 0 A) 0 (b_X0_stepsUp_0 J Q) := by
  unfold b_X0_stepsUp_0
  refine s_iload_n X rfl dX0_stepsUp_0 ?_
  refine s_istore_n X rfl (by decide) dX0_stepsUp_1 ?_
  refine s_iconst X ⟨by decide, by decide⟩ dX0_stepsUp_2 ?_
  refine s_istore X (by decide) dX0_stepsUp_3 ?_
  exact hJ 5

def spr_X0_stepsUp : List qV → qW → (Option qV → Prop) → Prop := fun av w Q => ∃ (f1 : Nat → Int) (f2 : Nat → Int) (f3 : Nat → Int) (f4 : Nat → Int) (f5 : Nat → Int) (f6 : Nat → Int) (f7 : Nat → Int) (u0 : Int) (u1 : Int) (u2 : Int) (u3 : Int) (u4 : Int) (a : Int) (b : Int), av = [q2 0, q1 a, q1 b] ∧ w = wB f1 f2 f3 f4 f5 f6 f7 u0 u1 u2 u3 u4 ∧ (0 ≤ u0 ∧ u0 ≤ 8) ∧ (∀ (r : Int) , -1 ≤ r ∧ r ≤ 8 → Q (some (q1 r)))
def sp_X0_stepsUp : qS := fun av w Q => spr_X0_stepsUp av w (fun r => Q r w)
def I_X0_stepsUp (f1 : Nat → Int) (f2 : Nat → Int) (f3 : Nat → Int) (f4 : Nat → Int) (f5 : Nat → Int) (f6 : Nat → Int) (f7 : Nat → Int) (u0 : Int) (u1 : Int) (u2 : Int) (u3 : Int) (u4 : Int) (a : Int) (b : Int) : Nat → Nat → List qV → List qV → qW → Prop := fun dz mz vz sz wz => if dz = 5 then (∃ (v3 : Int) (v4 : Int), vz = [q2 0, q1 b, q1 v3, q1 v4] ∧ sz = [] ∧ wz = wB f1 f2 f3 f4 f5 f6 f7 u0 u1 u2 u3 u4 ∧ mz = (u0 - v4).toNat ∧ (0 ≤ v4 ∧ v4 ≤ u0)) else False
set_option maxHeartbeats 4000000 in
set_option maxRecDepth 100000 in
theorem m_X0_stepsUp (l : Launch) : q_M l yX0_stepsUp cX0_stepsUp 5 (some .int) 1 21 sp_X0_stepsUp := by
  refine q_meth (by decide) (fun av w Q h => by obtain ⟨f1, f2, f3, f4, f5, f6, f7, u0, u1, u2, u3, u4, a, b, rfl, rfl, hu0, hQ⟩ := h; exact Nat.le_of_ble_eq_true rfl) ?_
  intro p e R s m args below meth c dC dI k g A av w Q hsp oka okw X
  obtain ⟨f1, f2, f3, f4, f5, f6, f7, u0, u1, u2, u3, u4, a, b, rfl, rfl, hu0, hQ⟩ := hsp
  have o_a : -2147483648 ≤ a ∧ a ≤ 2147483647 := oka _ (List.mem_of_getElem? (i := 1) rfl)
  have o_b : -2147483648 ≤ b ∧ b ≤ 2147483647 := oka _ (List.mem_of_getElem? (i := 2) rfl)
  refine s_mono (s_X0_stepsUp_0 X (J := fun dz vz sz wz => ∃ mz, I_X0_stepsUp f1 f2 f3 f4 f5 f6 f7 u0 u1 u2 u3 u4 a b dz mz vz sz wz) (q_loopn (I_X0_stepsUp f1 f2 f3 f4 f5 f6 f7 u0 u1 u2 u3 u4 a b) (fun dz J => if dz = 5 then b_X0_stepsUp_5 J Q else q_F) ?hs ?hv)) ?_
  case hs =>
    intro d J hJ
    by_cases h5 : d = 5
    · subst h5; exact s_X0_stepsUp_5 X hJ
    simp only [h5, if_false]
    exact s_F
  case hv =>
    intro dz mz vz sz wz hI okv oks okw hlen
    by_cases h5 : dz = 5
    · subst h5
      obtain ⟨v3, v4, rfl, rfl, rfl, hn, hp⟩ := hI
      apply And.intro
      · intro h11
        exact hQ _ (by first | omega | assumption | exact q_rg_up (by assumption) (by omega) | exact q_rg_up (q_rg_up (by assumption) (by omega)) (by omega) | exact q_rg_cpy (by assumption) (by assumption))
      · intro h11
        refine Exists.intro [0, 1, 2, 3, 4, 5, 6, 7] (Exists.intro [q2 0, q1 _] (Exists.intro (wB _ _ _ _ _ _ _ _ _ _ _ _) (And.intro rfl (And.intro rfl (And.intro rfl (And.intro ⟨⟨_, rfl⟩, rfl⟩ ?_))))))
        refine Exists.intro _ (Exists.intro _ (Exists.intro _ (Exists.intro _ (Exists.intro _ (Exists.intro _ (Exists.intro _ (Exists.intro _ (Exists.intro _ (Exists.intro _ (Exists.intro _ (Exists.intro _ (Exists.intro _ (And.intro rfl (And.intro rfl (?_)))))))))))))))
        intro z16 h16
        apply And.intro
        · intro h19
          exact hQ _ (by first | omega | assumption | exact q_rg_up (by assumption) (by omega) | exact q_rg_up (q_rg_up (by assumption) (by omega)) (by omega) | exact q_rg_cpy (by assumption) (by assumption))
        · intro h19
          apply And.intro
          · intro h24
            apply And.intro
            · exact ⟨by omega, by omega⟩
            intro z35 h35
            intro z37 h37
            first | replace h37 := e_add h37 (by omega) | replace h37 := e_rng h37
            exact ⟨_, ⟨_, _, rfl, rfl, rfl, rfl, (by first | omega | assumption | exact q_rg_up (by assumption) (by omega) | exact q_rg_up (q_rg_up (by assumption) (by omega)) (by omega) | exact q_rg_cpy (by assumption) (by assumption))⟩, by omega⟩
          · intro h24
            exact hQ _ (by first | omega | assumption | exact q_rg_up (by assumption) (by omega) | exact q_rg_up (q_rg_up (by assumption) (by omega)) (by omega) | exact q_rg_cpy (by assumption) (by assumption))
    simp only [I_X0_stepsUp, h5, if_false] at hI
  rintro lv st w' ⟨rfl, rfl, rfl⟩
  exact ⟨_, _, _, rfl, rfl, rfl, rfl, (by first | omega | assumption | exact q_rg_up (by assumption) (by omega) | exact q_rg_up (q_rg_up (by assumption) (by omega)) (by omega) | exact q_rg_cpy (by assumption) (by assumption))⟩

theorem dX0_goesRound_0 : decode cX0_goesRound 0 = .ok (.iconst 0, 1) := by decide +kernel
theorem dX0_goesRound_1 : decode cX0_goesRound 1 = .ok (.istore_n 1, 1) := by decide +kernel
theorem dX0_goesRound_2 : decode cX0_goesRound 2 = .ok (.iload_n 1, 1) := by decide +kernel
theorem dX0_goesRound_3 : decode cX0_goesRound 3 = .ok (.aload_n 0, 1) := by decide +kernel
theorem dX0_goesRound_4 : decode cX0_goesRound 4 = .ok (.getfield 51, 3) := by decide +kernel
theorem dX0_goesRound_7 : decode cX0_goesRound 7 = .ok (.if_icmp .ge 52, 3) := by decide +kernel
theorem dX0_goesRound_10 : decode cX0_goesRound 10 = .ok (.iload_n 1, 1) := by decide +kernel
theorem dX0_goesRound_11 : decode cX0_goesRound 11 = .ok (.istore_n 2, 1) := by decide +kernel
theorem dX0_goesRound_12 : decode cX0_goesRound 12 = .ok (.iconst 0, 1) := by decide +kernel
theorem dX0_goesRound_13 : decode cX0_goesRound 13 = .ok (.istore_n 3, 1) := by decide +kernel
theorem dX0_goesRound_14 : decode cX0_goesRound 14 = .ok (.iload_n 3, 1) := by decide +kernel
theorem dX0_goesRound_15 : decode cX0_goesRound 15 = .ok (.aload_n 0, 1) := by decide +kernel
theorem dX0_goesRound_16 : decode cX0_goesRound 16 = .ok (.getfield 51, 3) := by decide +kernel
theorem dX0_goesRound_19 : decode cX0_goesRound 19 = .ok (.if_icmp .ge 24, 3) := by decide +kernel
theorem dX0_goesRound_22 : decode cX0_goesRound 22 = .ok (.aload_n 0, 1) := by decide +kernel
theorem dX0_goesRound_23 : decode cX0_goesRound 23 = .ok (.iload_n 2, 1) := by decide +kernel
theorem dX0_goesRound_24 : decode cX0_goesRound 24 = .ok (.invokevirtual 75, 3) := by decide +kernel
theorem dX0_goesRound_27 : decode cX0_goesRound 27 = .ok (.ifCond .eq 16, 3) := by decide +kernel
theorem dX0_goesRound_30 : decode cX0_goesRound 30 = .ok (.aload_n 0, 1) := by decide +kernel
theorem dX0_goesRound_31 : decode cX0_goesRound 31 = .ok (.getfield 15, 3) := by decide +kernel
theorem dX0_goesRound_34 : decode cX0_goesRound 34 = .ok (.iload_n 2, 1) := by decide +kernel
theorem dX0_goesRound_35 : decode cX0_goesRound 35 = .ok (.iaload, 1) := by decide +kernel
theorem dX0_goesRound_36 : decode cX0_goesRound 36 = .ok (.istore_n 2, 1) := by decide +kernel
theorem dX0_goesRound_37 : decode cX0_goesRound 37 = .ok (.iinc 3 1, 3) := by decide +kernel
theorem dX0_goesRound_40 : decode cX0_goesRound 40 = .ok (.goto (-26), 3) := by decide +kernel
theorem dX0_goesRound_43 : decode cX0_goesRound 43 = .ok (.aload_n 0, 1) := by decide +kernel
theorem dX0_goesRound_44 : decode cX0_goesRound 44 = .ok (.iload_n 2, 1) := by decide +kernel
theorem dX0_goesRound_45 : decode cX0_goesRound 45 = .ok (.invokevirtual 75, 3) := by decide +kernel
theorem dX0_goesRound_48 : decode cX0_goesRound 48 = .ok (.ifCond .eq 5, 3) := by decide +kernel
theorem dX0_goesRound_51 : decode cX0_goesRound 51 = .ok (.iconst 1, 1) := by decide +kernel
theorem dX0_goesRound_52 : decode cX0_goesRound 52 = .ok (.ireturn, 1) := by decide +kernel
theorem dX0_goesRound_53 : decode cX0_goesRound 53 = .ok (.iinc 1 1, 3) := by decide +kernel
theorem dX0_goesRound_56 : decode cX0_goesRound 56 = .ok (.goto (-54), 3) := by decide +kernel
theorem dX0_goesRound_59 : decode cX0_goesRound 59 = .ok (.iconst 0, 1) := by decide +kernel
theorem dX0_goesRound_60 : decode cX0_goesRound 60 = .ok (.ireturn, 1) := by decide +kernel
def is_X0_goesRound : Nat → List Nat := fun d => if d = 2 then [0, 1] else if d = 14 then [0, 1, 2, 3] else []
set_option maxRecDepth 100000 in
def b_X0_goesRound_43 (J : Nat → List qV → List qV → qW → Prop) (Q : qR) : qK := x_aload 0 (x_iload 2 (x_callr (some 0) 2 spr_X0_has (x_if_eq (x_iinc 1 1 (x_cut [0, 1] (J 2))) (x_int 1 (x_zret Q)))))
set_option maxRecDepth 100000 in
theorem s_X0_goesRound_43 {p : Program} {l : Launch} {e : Env} {R : Room} {s : State} {m : MethodId} {args : Array Value} {below : List Frame} {meth : Method} {c : Code} {nW : Nat} {dC : Nat → ClassId} {dI : Nat → Nat → Nat} {k : Nat → ClassId} {g : Nat → Nat} {A : Nat → Prop} {J : Nat → List qV → List qV → qW → Prop} {Q : qR} (X : q_X p R s m args meth c cX0_goesRound 4 nW 1 21 RX0 (some .boolean) dC dI k g A) (hJ : ∀ d : Nat, q_Sd p l e R s m args below meth c 4 nW dC dI k g A (MQ below (q_post (dC, dI) k g nW Q A) args s 0 0 A) d (x_cut (is_X0_goesRound d) (J d))) : q_Sd p l e R s m args below meth c 4 nW dC dI k g A (MQ below (q_post (dC, dI) k g nW Q A) args s 0 0 A) 43 (b_X0_goesRound_43 J Q) := by
  unfold b_X0_goesRound_43
  refine s_aload_n X rfl dX0_goesRound_43 ?_
  refine s_iload_n X rfl dX0_goesRound_44 ?_
  refine s_callVr X (m_X0_has l) tw_398 tw_399 tw_400 tw_122 tw_401 rfl (by decide +kernel) ⟨by decide, by decide⟩ dX0_goesRound_45 ?_
  refine s_if_eq X (tgt := 53) dX0_goesRound_48 (by decide) ?_ ?_
  · refine s_iinc X (by decide) dX0_goesRound_53 ?_
    refine s_goto X (tgt := 2) dX0_goesRound_56 (by decide) ?_
    exact hJ 2
  · refine s_iconst X ⟨by decide, by decide⟩ dX0_goesRound_51 ?_
    exact s_zret X dX0_goesRound_52
set_option maxRecDepth 100000 in
def b_X0_goesRound_14 (J : Nat → List qV → List qV → qW → Prop) (Q : qR) : qK := x_iload 3 (x_aload 0 (x_get 0 7 (x_icmp_ge (b_X0_goesRound_43 J Q) (x_aload 0 (x_iload 2 (x_callr (some 0) 2 spr_X0_has (x_if_eq (b_X0_goesRound_43 J Q) (x_aload 0 (x_get 0 1 (x_iload 2 (x_iald (x_istore 2 (x_iinc 3 1 (x_cut [0, 1, 2, 3] (J 14)))))))))))))))
set_option maxRecDepth 100000 in
theorem s_X0_goesRound_14 {p : Program} {l : Launch} {e : Env} {R : Room} {s : State} {m : MethodId} {args : Array Value} {below : List Frame} {meth : Method} {c : Code} {nW : Nat} {dC : Nat → ClassId} {dI : Nat → Nat → Nat} {k : Nat → ClassId} {g : Nat → Nat} {A : Nat → Prop} {J : Nat → List qV → List qV → qW → Prop} {Q : qR} (X : q_X p R s m args meth c cX0_goesRound 4 nW 1 21 RX0 (some .boolean) dC dI k g A) (hJ : ∀ d : Nat, q_Sd p l e R s m args below meth c 4 nW dC dI k g A (MQ below (q_post (dC, dI) k g nW Q A) args s 0 0 A) d (x_cut (is_X0_goesRound d) (J d))) : q_Sd p l e R s m args below meth c 4 nW dC dI k g A (MQ below (q_post (dC, dI) k g nW Q A) args s 0 0 A) 14 (b_X0_goesRound_14 J Q) := by
  unfold b_X0_goesRound_14
  refine s_iload_n X rfl dX0_goesRound_14 ?_
  refine s_aload_n X rfl dX0_goesRound_15 ?_
  refine s_get X (T := TX0) (C := RX0) (N := 12) tu_X0 rfl (by decide) tw_193 dX0_goesRound_16 ?_
  refine s_icmp_ge X (tgt := 43) dX0_goesRound_19 (by decide) ?_ ?_
  · exact s_X0_goesRound_43 X hJ
  · refine s_aload_n X rfl dX0_goesRound_22 ?_
    refine s_iload_n X rfl dX0_goesRound_23 ?_
    refine s_callVr X (m_X0_has l) tw_398 tw_399 tw_400 tw_122 tw_401 rfl (by decide +kernel) ⟨by decide, by decide⟩ dX0_goesRound_24 ?_
    refine s_if_eq X (tgt := 43) dX0_goesRound_27 (by decide) ?_ ?_
    · exact s_X0_goesRound_43 X hJ
    · refine s_aload_n X rfl dX0_goesRound_30 ?_
      refine s_get X (T := TX0) (C := RX0) (N := 12) tu_X0 rfl (by decide) tw_172 dX0_goesRound_31 ?_
      refine s_iload_n X rfl dX0_goesRound_34 ?_
      refine s_iald X dX0_goesRound_35 ?_
      refine s_istore_n X rfl (by decide) dX0_goesRound_36 ?_
      refine s_iinc X (by decide) dX0_goesRound_37 ?_
      refine s_goto X (tgt := 14) dX0_goesRound_40 (by decide) ?_
      exact hJ 14
set_option maxRecDepth 100000 in
def b_X0_goesRound_2 (J : Nat → List qV → List qV → qW → Prop) (Q : qR) : qK := x_iload 1 (x_aload 0 (x_get 0 7 (x_icmp_ge (x_int 0 (x_zret Q)) (x_iload 1 (x_istore 2 (x_int 0 (x_istore 3 (x_cut [0, 1, 2, 3] (J 14)))))))))
set_option maxRecDepth 100000 in
theorem s_X0_goesRound_2 {p : Program} {l : Launch} {e : Env} {R : Room} {s : State} {m : MethodId} {args : Array Value} {below : List Frame} {meth : Method} {c : Code} {nW : Nat} {dC : Nat → ClassId} {dI : Nat → Nat → Nat} {k : Nat → ClassId} {g : Nat → Nat} {A : Nat → Prop} {J : Nat → List qV → List qV → qW → Prop} {Q : qR} (X : q_X p R s m args meth c cX0_goesRound 4 nW 1 21 RX0 (some .boolean) dC dI k g A) (hJ : ∀ d : Nat, q_Sd p l e R s m args below meth c 4 nW dC dI k g A (MQ below (q_post (dC, dI) k g nW Q A) args s 0 0 A) d (x_cut (is_X0_goesRound d) (J d))) : q_Sd p l e R s m args below meth c 4 nW dC dI k g A (MQ below (q_post (dC, dI) k g nW Q A) args s 0 0 A) 2 (b_X0_goesRound_2 J Q) := by
  unfold b_X0_goesRound_2
  refine s_iload_n X rfl dX0_goesRound_2 ?_
  refine s_aload_n X rfl dX0_goesRound_3 ?_
  refine s_get X (T := TX0) (C := RX0) (N := 12) tu_X0 rfl (by decide) tw_193 dX0_goesRound_4 ?_
  refine s_icmp_ge X (tgt := 59) dX0_goesRound_7 (by decide) ?_ ?_
  · refine s_iconst X ⟨by decide, by decide⟩ dX0_goesRound_59 ?_
    exact s_zret X dX0_goesRound_60
  · refine s_iload_n X rfl dX0_goesRound_10 ?_
    refine s_istore_n X rfl (by decide) dX0_goesRound_11 ?_
    refine s_iconst X ⟨by decide, by decide⟩ dX0_goesRound_12 ?_
    refine s_istore_n X rfl (by decide) dX0_goesRound_13 ?_
    exact hJ 14
set_option maxRecDepth 100000 in
def b_X0_goesRound_0 (J : Nat → List qV → List qV → qW → Prop) (Q : qR) : qK := x_int 0 (x_istore 1 (x_cut [0, 1] (J 2)))
set_option maxRecDepth 100000 in
theorem s_X0_goesRound_0 {p : Program} {l : Launch} {e : Env} {R : Room} {s : State} {m : MethodId} {args : Array Value} {below : List Frame} {meth : Method} {c : Code} {nW : Nat} {dC : Nat → ClassId} {dI : Nat → Nat → Nat} {k : Nat → ClassId} {g : Nat → Nat} {A : Nat → Prop} {J : Nat → List qV → List qV → qW → Prop} {Q : qR} (X : q_X p R s m args meth c cX0_goesRound 4 nW 1 21 RX0 (some .boolean) dC dI k g A) (hJ : ∀ d : Nat, q_Sd p l e R s m args below meth c 4 nW dC dI k g A (MQ below (q_post (dC, dI) k g nW Q A) args s 0 0 A) d (x_cut (is_X0_goesRound d) (J d))) : q_Sd p l e R s m args below meth c 4 nW dC dI k g A (MQ below (q_post (dC, dI) k g nW Q A) args s 0 0 A) 0 (b_X0_goesRound_0 J Q) := by
  unfold b_X0_goesRound_0
  refine s_iconst X ⟨by decide, by decide⟩ dX0_goesRound_0 ?_
  refine s_istore_n X rfl (by decide) dX0_goesRound_1 ?_
  exact hJ 2

def spr_X0_goesRound : List qV → qW → (Option qV → Prop) → Prop := fun av w Q => ∃ (f1 : Nat → Int) (f2 : Nat → Int) (f3 : Nat → Int) (f4 : Nat → Int) (f5 : Nat → Int) (f6 : Nat → Int) (f7 : Nat → Int) (u0 : Int) (u1 : Int) (u2 : Int) (u3 : Int) (u4 : Int), av = [q2 0] ∧ w = wB f1 f2 f3 f4 f5 f6 f7 u0 u1 u2 u3 u4 ∧ (0 ≤ u0 ∧ u0 ≤ 8) ∧ (∀ (r : Int) , (r = 0 ∨ r = 1) → Q (some (q1 r)))
def sp_X0_goesRound : qS := fun av w Q => spr_X0_goesRound av w (fun r => Q r w)
def I_X0_goesRound (f1 : Nat → Int) (f2 : Nat → Int) (f3 : Nat → Int) (f4 : Nat → Int) (f5 : Nat → Int) (f6 : Nat → Int) (f7 : Nat → Int) (u0 : Int) (u1 : Int) (u2 : Int) (u3 : Int) (u4 : Int) : Nat → Nat → List qV → List qV → qW → Prop := fun dz mz vz sz wz => if dz = 2 then (∃ (v1 : Int), vz = [q2 0, q1 v1] ∧ sz = [] ∧ wz = wB f1 f2 f3 f4 f5 f6 f7 u0 u1 u2 u3 u4 ∧ mz = 100 * (u0 - v1).toNat ∧ (0 ≤ v1 ∧ v1 ≤ u0)) else if dz = 14 then (∃ (v1 : Int) (v2 : Int) (v3 : Int), vz = [q2 0, q1 v1, q1 v2, q1 v3] ∧ sz = [] ∧ wz = wB f1 f2 f3 f4 f5 f6 f7 u0 u1 u2 u3 u4 ∧ mz = 100 * (u0 - v1).toNat - 50 + (u0 - v3).toNat ∧ (0 ≤ v1 ∧ v1 < u0) ∧ (0 ≤ v3 ∧ v3 ≤ u0)) else False
set_option maxHeartbeats 4000000 in
set_option maxRecDepth 100000 in
theorem m_X0_goesRound (l : Launch) : q_M l yX0_goesRound cX0_goesRound 4 (some .boolean) 1 21 sp_X0_goesRound := by
  refine q_meth (by decide) (fun av w Q h => by obtain ⟨f1, f2, f3, f4, f5, f6, f7, u0, u1, u2, u3, u4, rfl, rfl, hu0, hQ⟩ := h; exact Nat.le_of_ble_eq_true rfl) ?_
  intro p e R s m args below meth c dC dI k g A av w Q hsp oka okw X
  obtain ⟨f1, f2, f3, f4, f5, f6, f7, u0, u1, u2, u3, u4, rfl, rfl, hu0, hQ⟩ := hsp
  refine s_mono (s_X0_goesRound_0 X (J := fun dz vz sz wz => ∃ mz, I_X0_goesRound f1 f2 f3 f4 f5 f6 f7 u0 u1 u2 u3 u4 dz mz vz sz wz) (q_loopn (I_X0_goesRound f1 f2 f3 f4 f5 f6 f7 u0 u1 u2 u3 u4) (fun dz J => if dz = 2 then b_X0_goesRound_2 J Q else if dz = 14 then b_X0_goesRound_14 J Q else q_F) ?hs ?hv)) ?_
  case hs =>
    intro d J hJ
    by_cases h2 : d = 2
    · subst h2; exact s_X0_goesRound_2 X hJ
    by_cases h14 : d = 14
    · subst h14; exact s_X0_goesRound_14 X hJ
    simp only [h2, h14, if_false]
    exact s_F
  case hv =>
    intro dz mz vz sz wz hI okv oks okw hlen
    by_cases h2 : dz = 2
    · subst h2
      obtain ⟨v1, rfl, rfl, rfl, hn, hp⟩ := hI
      apply And.intro
      · intro h7
        apply And.intro
        · first | exact Or.inl rfl | exact Or.inr rfl | omega
        exact hQ _ (by first | omega | assumption | exact q_rg_up (by assumption) (by omega) | exact q_rg_up (q_rg_up (by assumption) (by omega)) (by omega) | exact q_rg_cpy (by assumption) (by assumption))
      · intro h7
        exact ⟨_, ⟨_, _, _, rfl, rfl, rfl, rfl, (by first | omega | assumption | exact q_rg_up (by assumption) (by omega) | exact q_rg_up (q_rg_up (by assumption) (by omega)) (by omega) | exact q_rg_cpy (by assumption) (by assumption)), (by first | omega | assumption | exact q_rg_up (by assumption) (by omega) | exact q_rg_up (q_rg_up (by assumption) (by omega)) (by omega) | exact q_rg_cpy (by assumption) (by assumption))⟩, by omega⟩
    by_cases h14 : dz = 14
    · subst h14
      obtain ⟨v1, v2, v3, rfl, rfl, rfl, hn, hp, hq⟩ := hI
      apply And.intro
      · intro h19
        refine Exists.intro [0, 1, 2, 3, 4, 5, 6, 7] (Exists.intro [q2 0, q1 _] (Exists.intro (wB _ _ _ _ _ _ _ _ _ _ _ _) (And.intro rfl (And.intro rfl (And.intro rfl (And.intro ⟨⟨_, rfl⟩, rfl⟩ ?_))))))
        refine Exists.intro _ (Exists.intro _ (Exists.intro _ (Exists.intro _ (Exists.intro _ (Exists.intro _ (Exists.intro _ (Exists.intro _ (Exists.intro _ (Exists.intro _ (Exists.intro _ (Exists.intro _ (Exists.intro _ (And.intro rfl (And.intro rfl (?_)))))))))))))))
        intro z45 h45
        apply And.intro
        · intro h48
          intro z53 h53
          first | replace h53 := e_add h53 (by omega) | replace h53 := e_rng h53
          exact ⟨_, ⟨_, rfl, rfl, rfl, rfl, (by first | omega | assumption | exact q_rg_up (by assumption) (by omega) | exact q_rg_up (q_rg_up (by assumption) (by omega)) (by omega) | exact q_rg_cpy (by assumption) (by assumption))⟩, by omega⟩
        · intro h48
          apply And.intro
          · first | exact Or.inl rfl | exact Or.inr rfl | omega
          exact hQ _ (by first | omega | assumption | exact q_rg_up (by assumption) (by omega) | exact q_rg_up (q_rg_up (by assumption) (by omega)) (by omega) | exact q_rg_cpy (by assumption) (by assumption))
      · intro h19
        refine Exists.intro [0, 1, 2, 3, 4, 5, 6, 7] (Exists.intro [q2 0, q1 _] (Exists.intro (wB _ _ _ _ _ _ _ _ _ _ _ _) (And.intro rfl (And.intro rfl (And.intro rfl (And.intro ⟨⟨_, rfl⟩, rfl⟩ ?_))))))
        refine Exists.intro _ (Exists.intro _ (Exists.intro _ (Exists.intro _ (Exists.intro _ (Exists.intro _ (Exists.intro _ (Exists.intro _ (Exists.intro _ (Exists.intro _ (Exists.intro _ (Exists.intro _ (Exists.intro _ (And.intro rfl (And.intro rfl (?_)))))))))))))))
        intro z24 h24
        apply And.intro
        · intro h27
          refine Exists.intro [0, 1, 2, 3, 4, 5, 6, 7] (Exists.intro [q2 0, q1 _] (Exists.intro (wB _ _ _ _ _ _ _ _ _ _ _ _) (And.intro rfl (And.intro rfl (And.intro rfl (And.intro ⟨⟨_, rfl⟩, rfl⟩ ?_))))))
          refine Exists.intro _ (Exists.intro _ (Exists.intro _ (Exists.intro _ (Exists.intro _ (Exists.intro _ (Exists.intro _ (Exists.intro _ (Exists.intro _ (Exists.intro _ (Exists.intro _ (Exists.intro _ (Exists.intro _ (And.intro rfl (And.intro rfl (?_)))))))))))))))
          intro z45 h45
          apply And.intro
          · intro h48
            intro z53 h53
            first | replace h53 := e_add h53 (by omega) | replace h53 := e_rng h53
            exact ⟨_, ⟨_, rfl, rfl, rfl, rfl, (by first | omega | assumption | exact q_rg_up (by assumption) (by omega) | exact q_rg_up (q_rg_up (by assumption) (by omega)) (by omega) | exact q_rg_cpy (by assumption) (by assumption))⟩, by omega⟩
          · intro h48
            apply And.intro
            · first | exact Or.inl rfl | exact Or.inr rfl | omega
            exact hQ _ (by first | omega | assumption | exact q_rg_up (by assumption) (by omega) | exact q_rg_up (q_rg_up (by assumption) (by omega)) (by omega) | exact q_rg_cpy (by assumption) (by assumption))
        · intro h27
          apply And.intro
          · exact ⟨by omega, by omega⟩
          intro z35 h35
          intro z37 h37
          first | replace h37 := e_add h37 (by omega) | replace h37 := e_rng h37
          exact ⟨_, ⟨_, _, _, rfl, rfl, rfl, rfl, (by first | omega | assumption | exact q_rg_up (by assumption) (by omega) | exact q_rg_up (q_rg_up (by assumption) (by omega)) (by omega) | exact q_rg_cpy (by assumption) (by assumption)), (by first | omega | assumption | exact q_rg_up (by assumption) (by omega) | exact q_rg_up (q_rg_up (by assumption) (by omega)) (by omega) | exact q_rg_cpy (by assumption) (by assumption))⟩, by omega⟩
    simp only [I_X0_goesRound, h2, h14, if_false] at hI
  rintro lv st w' ⟨rfl, rfl, rfl⟩
  exact ⟨_, _, rfl, rfl, rfl, rfl, (by first | omega | assumption | exact q_rg_up (by assumption) (by omega) | exact q_rg_up (q_rg_up (by assumption) (by omega)) (by omega) | exact q_rg_cpy (by assumption) (by assumption))⟩

theorem dX0_shareOf_0 : decode cX0_shareOf 0 = .ok (.iload_n 2, 1) := by decide +kernel
theorem dX0_shareOf_1 : decode cX0_shareOf 1 = .ok (.istore 4, 2) := by decide +kernel
theorem dX0_shareOf_3 : decode cX0_shareOf 3 = .ok (.iload_n 1, 1) := by decide +kernel
theorem dX0_shareOf_4 : decode cX0_shareOf 4 = .ok (.istore 5, 2) := by decide +kernel
theorem dX0_shareOf_6 : decode cX0_shareOf 6 = .ok (.iconst 0, 1) := by decide +kernel
theorem dX0_shareOf_7 : decode cX0_shareOf 7 = .ok (.istore 6, 2) := by decide +kernel
theorem dX0_shareOf_9 : decode cX0_shareOf 9 = .ok (.iload 6, 2) := by decide +kernel
theorem dX0_shareOf_11 : decode cX0_shareOf 11 = .ok (.aload_n 0, 1) := by decide +kernel
theorem dX0_shareOf_12 : decode cX0_shareOf 12 = .ok (.getfield 51, 3) := by decide +kernel
theorem dX0_shareOf_15 : decode cX0_shareOf 15 = .ok (.if_icmp .ge 81, 3) := by decide +kernel
theorem dX0_shareOf_18 : decode cX0_shareOf 18 = .ok (.aload_n 0, 1) := by decide +kernel
theorem dX0_shareOf_19 : decode cX0_shareOf 19 = .ok (.iload 5, 2) := by decide +kernel
theorem dX0_shareOf_21 : decode cX0_shareOf 21 = .ok (.invokevirtual 75, 3) := by decide +kernel
theorem dX0_shareOf_24 : decode cX0_shareOf 24 = .ok (.ifCond .eq 72, 3) := by decide +kernel
theorem dX0_shareOf_27 : decode cX0_shareOf 27 = .ok (.aload_n 0, 1) := by decide +kernel
theorem dX0_shareOf_28 : decode cX0_shareOf 28 = .ok (.getfield 15, 3) := by decide +kernel
theorem dX0_shareOf_31 : decode cX0_shareOf 31 = .ok (.iload 5, 2) := by decide +kernel
theorem dX0_shareOf_33 : decode cX0_shareOf 33 = .ok (.iaload, 1) := by decide +kernel
theorem dX0_shareOf_34 : decode cX0_shareOf 34 = .ok (.iconst (-1), 1) := by decide +kernel
theorem dX0_shareOf_35 : decode cX0_shareOf 35 = .ok (.if_icmp .ne 8, 3) := by decide +kernel
theorem dX0_shareOf_38 : decode cX0_shareOf 38 = .ok (.iload 4, 2) := by decide +kernel
theorem dX0_shareOf_40 : decode cX0_shareOf 40 = .ok (.goto 7, 3) := by decide +kernel
theorem dX0_shareOf_43 : decode cX0_shareOf 43 = .ok (.iload 4, 2) := by decide +kernel
theorem dX0_shareOf_45 : decode cX0_shareOf 45 = .ok (.iconst 2, 1) := by decide +kernel
theorem dX0_shareOf_46 : decode cX0_shareOf 46 = .ok (.idiv, 1) := by decide +kernel
theorem dX0_shareOf_47 : decode cX0_shareOf 47 = .ok (.istore 7, 2) := by decide +kernel
theorem dX0_shareOf_49 : decode cX0_shareOf 49 = .ok (.iload 7, 2) := by decide +kernel
theorem dX0_shareOf_51 : decode cX0_shareOf 51 = .ok (.aload_n 0, 1) := by decide +kernel
theorem dX0_shareOf_52 : decode cX0_shareOf 52 = .ok (.getfield 9, 3) := by decide +kernel
theorem dX0_shareOf_55 : decode cX0_shareOf 55 = .ok (.iload 5, 2) := by decide +kernel
theorem dX0_shareOf_57 : decode cX0_shareOf 57 = .ok (.iaload, 1) := by decide +kernel
theorem dX0_shareOf_58 : decode cX0_shareOf 58 = .ok (.iconst 1, 1) := by decide +kernel
theorem dX0_shareOf_59 : decode cX0_shareOf 59 = .ok (.isub, 1) := by decide +kernel
theorem dX0_shareOf_60 : decode cX0_shareOf 60 = .ok (.invokestatic 91, 3) := by decide +kernel
theorem dX0_shareOf_63 : decode cX0_shareOf 63 = .ok (.istore 8, 2) := by decide +kernel
theorem dX0_shareOf_65 : decode cX0_shareOf 65 = .ok (.iload 5, 2) := by decide +kernel
theorem dX0_shareOf_67 : decode cX0_shareOf 67 = .ok (.iload_n 3, 1) := by decide +kernel
theorem dX0_shareOf_68 : decode cX0_shareOf 68 = .ok (.if_icmp .ne 6, 3) := by decide +kernel
theorem dX0_shareOf_71 : decode cX0_shareOf 71 = .ok (.iload 8, 2) := by decide +kernel
theorem dX0_shareOf_73 : decode cX0_shareOf 73 = .ok (.ireturn, 1) := by decide +kernel
theorem dX0_shareOf_74 : decode cX0_shareOf 74 = .ok (.iload 4, 2) := by decide +kernel
theorem dX0_shareOf_76 : decode cX0_shareOf 76 = .ok (.iload 8, 2) := by decide +kernel
theorem dX0_shareOf_78 : decode cX0_shareOf 78 = .ok (.isub, 1) := by decide +kernel
theorem dX0_shareOf_79 : decode cX0_shareOf 79 = .ok (.istore 4, 2) := by decide +kernel
theorem dX0_shareOf_81 : decode cX0_shareOf 81 = .ok (.aload_n 0, 1) := by decide +kernel
theorem dX0_shareOf_82 : decode cX0_shareOf 82 = .ok (.getfield 15, 3) := by decide +kernel
theorem dX0_shareOf_85 : decode cX0_shareOf 85 = .ok (.iload 5, 2) := by decide +kernel
theorem dX0_shareOf_87 : decode cX0_shareOf 87 = .ok (.iaload, 1) := by decide +kernel
theorem dX0_shareOf_88 : decode cX0_shareOf 88 = .ok (.istore 5, 2) := by decide +kernel
theorem dX0_shareOf_90 : decode cX0_shareOf 90 = .ok (.iinc 6 1, 3) := by decide +kernel
theorem dX0_shareOf_93 : decode cX0_shareOf 93 = .ok (.goto (-84), 3) := by decide +kernel
theorem dX0_shareOf_96 : decode cX0_shareOf 96 = .ok (.iload_n 3, 1) := by decide +kernel
theorem dX0_shareOf_97 : decode cX0_shareOf 97 = .ok (.iconst (-1), 1) := by decide +kernel
theorem dX0_shareOf_98 : decode cX0_shareOf 98 = .ok (.if_icmp .ne 8, 3) := by decide +kernel
theorem dX0_shareOf_101 : decode cX0_shareOf 101 = .ok (.iload 4, 2) := by decide +kernel
theorem dX0_shareOf_103 : decode cX0_shareOf 103 = .ok (.goto 4, 3) := by decide +kernel
theorem dX0_shareOf_106 : decode cX0_shareOf 106 = .ok (.iconst 0, 1) := by decide +kernel
theorem dX0_shareOf_107 : decode cX0_shareOf 107 = .ok (.ireturn, 1) := by decide +kernel
def is_X0_shareOf : Nat → List Nat := fun d => if d = 9 then [0, 3, 4, 5, 6] else []
set_option maxRecDepth 100000 in
def b_X0_shareOf_107 (J : Nat → List qV → List qV → qW → Prop) (Q : qR) : qK := x_iret Q
set_option maxRecDepth 100000 in
theorem s_X0_shareOf_107 {p : Program} {l : Launch} {e : Env} {R : Room} {s : State} {m : MethodId} {args : Array Value} {below : List Frame} {meth : Method} {c : Code} {nW : Nat} {dC : Nat → ClassId} {dI : Nat → Nat → Nat} {k : Nat → ClassId} {g : Nat → Nat} {A : Nat → Prop} {J : Nat → List qV → List qV → qW → Prop} {Q : qR} (X : q_X p R s m args meth c cX0_shareOf 9 nW 1 21 RX0 (some .int) dC dI k g A) (hJ : ∀ d : Nat, q_Sd p l e R s m args below meth c 9 nW dC dI k g A (MQ below (q_post (dC, dI) k g nW Q A) args s 0 0 A) d (x_cut (is_X0_shareOf d) (J d))) : q_Sd p l e R s m args below meth c 9 nW dC dI k g A (MQ below (q_post (dC, dI) k g nW Q A) args s 0 0 A) 107 (b_X0_shareOf_107 J Q) := by
  unfold b_X0_shareOf_107
  exact s_iret X dX0_shareOf_107
set_option maxRecDepth 100000 in
def b_X0_shareOf_96 (J : Nat → List qV → List qV → qW → Prop) (Q : qR) : qK := x_iload 3 (x_int (-1) (x_icmp_ne (x_int 0 (b_X0_shareOf_107 J Q)) (x_iload 4 (b_X0_shareOf_107 J Q))))
set_option maxRecDepth 100000 in
theorem s_X0_shareOf_96 {p : Program} {l : Launch} {e : Env} {R : Room} {s : State} {m : MethodId} {args : Array Value} {below : List Frame} {meth : Method} {c : Code} {nW : Nat} {dC : Nat → ClassId} {dI : Nat → Nat → Nat} {k : Nat → ClassId} {g : Nat → Nat} {A : Nat → Prop} {J : Nat → List qV → List qV → qW → Prop} {Q : qR} (X : q_X p R s m args meth c cX0_shareOf 9 nW 1 21 RX0 (some .int) dC dI k g A) (hJ : ∀ d : Nat, q_Sd p l e R s m args below meth c 9 nW dC dI k g A (MQ below (q_post (dC, dI) k g nW Q A) args s 0 0 A) d (x_cut (is_X0_shareOf d) (J d))) : q_Sd p l e R s m args below meth c 9 nW dC dI k g A (MQ below (q_post (dC, dI) k g nW Q A) args s 0 0 A) 96 (b_X0_shareOf_96 J Q) := by
  unfold b_X0_shareOf_96
  refine s_iload_n X rfl dX0_shareOf_96 ?_
  refine s_iconst X ⟨by decide, by decide⟩ dX0_shareOf_97 ?_
  refine s_icmp_ne X (tgt := 106) dX0_shareOf_98 (by decide) ?_ ?_
  · refine s_iconst X ⟨by decide, by decide⟩ dX0_shareOf_106 ?_
    exact s_X0_shareOf_107 X hJ
  · refine s_iload X dX0_shareOf_101 ?_
    refine s_goto X (tgt := 107) dX0_shareOf_103 (by decide) ?_
    exact s_X0_shareOf_107 X hJ
set_option maxRecDepth 100000 in
def b_X0_shareOf_90 (J : Nat → List qV → List qV → qW → Prop) (Q : qR) : qK := x_iinc 6 1 (x_cut [0, 3, 4, 5, 6] (J 9))
set_option maxRecDepth 100000 in
theorem s_X0_shareOf_90 {p : Program} {l : Launch} {e : Env} {R : Room} {s : State} {m : MethodId} {args : Array Value} {below : List Frame} {meth : Method} {c : Code} {nW : Nat} {dC : Nat → ClassId} {dI : Nat → Nat → Nat} {k : Nat → ClassId} {g : Nat → Nat} {A : Nat → Prop} {J : Nat → List qV → List qV → qW → Prop} {Q : qR} (X : q_X p R s m args meth c cX0_shareOf 9 nW 1 21 RX0 (some .int) dC dI k g A) (hJ : ∀ d : Nat, q_Sd p l e R s m args below meth c 9 nW dC dI k g A (MQ below (q_post (dC, dI) k g nW Q A) args s 0 0 A) d (x_cut (is_X0_shareOf d) (J d))) : q_Sd p l e R s m args below meth c 9 nW dC dI k g A (MQ below (q_post (dC, dI) k g nW Q A) args s 0 0 A) 90 (b_X0_shareOf_90 J Q) := by
  unfold b_X0_shareOf_90
  refine s_iinc X (by decide) dX0_shareOf_90 ?_
  refine s_goto X (tgt := 9) dX0_shareOf_93 (by decide) ?_
  exact hJ 9
set_option maxRecDepth 100000 in
def b_X0_shareOf_47 (J : Nat → List qV → List qV → qW → Prop) (Q : qR) : qK := x_istore 7 (x_iload 7 (x_aload 0 (x_get 0 0 (x_iload 5 (x_iald (x_int 1 (x_isub (x_min (x_istore 8 (x_iload 5 (x_iload 3 (x_icmp_ne (x_iload 4 (x_iload 8 (x_isub (x_istore 4 (x_aload 0 (x_get 0 1 (x_iload 5 (x_iald (x_istore 5 (b_X0_shareOf_90 J Q)))))))))) (x_iload 8 (x_iret Q))))))))))))))
set_option maxRecDepth 100000 in
theorem s_X0_shareOf_47 {p : Program} {l : Launch} {e : Env} {R : Room} {s : State} {m : MethodId} {args : Array Value} {below : List Frame} {meth : Method} {c : Code} {nW : Nat} {dC : Nat → ClassId} {dI : Nat → Nat → Nat} {k : Nat → ClassId} {g : Nat → Nat} {A : Nat → Prop} {J : Nat → List qV → List qV → qW → Prop} {Q : qR} (X : q_X p R s m args meth c cX0_shareOf 9 nW 1 21 RX0 (some .int) dC dI k g A) (hJ : ∀ d : Nat, q_Sd p l e R s m args below meth c 9 nW dC dI k g A (MQ below (q_post (dC, dI) k g nW Q A) args s 0 0 A) d (x_cut (is_X0_shareOf d) (J d))) : q_Sd p l e R s m args below meth c 9 nW dC dI k g A (MQ below (q_post (dC, dI) k g nW Q A) args s 0 0 A) 47 (b_X0_shareOf_47 J Q) := by
  unfold b_X0_shareOf_47
  refine s_istore X (by decide) dX0_shareOf_47 ?_
  refine s_iload X dX0_shareOf_49 ?_
  refine s_aload_n X rfl dX0_shareOf_51 ?_
  refine s_get X (T := TX0) (C := RX0) (N := 12) tu_X0 rfl (by decide) tw_164 dX0_shareOf_52 ?_
  refine s_iload X dX0_shareOf_55 ?_
  refine s_iald X dX0_shareOf_57 ?_
  refine s_iconst X ⟨by decide, by decide⟩ dX0_shareOf_58 ?_
  refine s_isub X dX0_shareOf_59 ?_
  refine s_min X tw_747 tw_365 tw_135 tw_366 ⟨by decide, by decide⟩ dX0_shareOf_60 ?_
  refine s_istore X (by decide) dX0_shareOf_63 ?_
  refine s_iload X dX0_shareOf_65 ?_
  refine s_iload_n X rfl dX0_shareOf_67 ?_
  refine s_icmp_ne X (tgt := 74) dX0_shareOf_68 (by decide) ?_ ?_
  · refine s_iload X dX0_shareOf_74 ?_
    refine s_iload X dX0_shareOf_76 ?_
    refine s_isub X dX0_shareOf_78 ?_
    refine s_istore X (by decide) dX0_shareOf_79 ?_
    refine s_aload_n X rfl dX0_shareOf_81 ?_
    refine s_get X (T := TX0) (C := RX0) (N := 12) tu_X0 rfl (by decide) tw_172 dX0_shareOf_82 ?_
    refine s_iload X dX0_shareOf_85 ?_
    refine s_iald X dX0_shareOf_87 ?_
    refine s_istore X (by decide) dX0_shareOf_88 ?_
    exact s_X0_shareOf_90 X hJ
  · refine s_iload X dX0_shareOf_71 ?_
    exact s_iret X dX0_shareOf_73
set_option maxRecDepth 100000 in
def b_X0_shareOf_9 (J : Nat → List qV → List qV → qW → Prop) (Q : qR) : qK := x_iload 6 (x_aload 0 (x_get 0 7 (x_icmp_ge (b_X0_shareOf_96 J Q) (x_aload 0 (x_iload 5 (x_callr (some 0) 2 spr_X0_has (x_if_eq (b_X0_shareOf_96 J Q) (x_aload 0 (x_get 0 1 (x_iload 5 (x_iald (x_int (-1) (x_icmp_ne (x_iload 4 (x_int 2 (x_idiv (b_X0_shareOf_47 J Q)))) (x_iload 4 (b_X0_shareOf_47 J Q)))))))))))))))
set_option maxRecDepth 100000 in
theorem s_X0_shareOf_9 {p : Program} {l : Launch} {e : Env} {R : Room} {s : State} {m : MethodId} {args : Array Value} {below : List Frame} {meth : Method} {c : Code} {nW : Nat} {dC : Nat → ClassId} {dI : Nat → Nat → Nat} {k : Nat → ClassId} {g : Nat → Nat} {A : Nat → Prop} {J : Nat → List qV → List qV → qW → Prop} {Q : qR} (X : q_X p R s m args meth c cX0_shareOf 9 nW 1 21 RX0 (some .int) dC dI k g A) (hJ : ∀ d : Nat, q_Sd p l e R s m args below meth c 9 nW dC dI k g A (MQ below (q_post (dC, dI) k g nW Q A) args s 0 0 A) d (x_cut (is_X0_shareOf d) (J d))) : q_Sd p l e R s m args below meth c 9 nW dC dI k g A (MQ below (q_post (dC, dI) k g nW Q A) args s 0 0 A) 9 (b_X0_shareOf_9 J Q) := by
  unfold b_X0_shareOf_9
  refine s_iload X dX0_shareOf_9 ?_
  refine s_aload_n X rfl dX0_shareOf_11 ?_
  refine s_get X (T := TX0) (C := RX0) (N := 12) tu_X0 rfl (by decide) tw_193 dX0_shareOf_12 ?_
  refine s_icmp_ge X (tgt := 96) dX0_shareOf_15 (by decide) ?_ ?_
  · exact s_X0_shareOf_96 X hJ
  · refine s_aload_n X rfl dX0_shareOf_18 ?_
    refine s_iload X dX0_shareOf_19 ?_
    refine s_callVr X (m_X0_has l) tw_398 tw_399 tw_400 tw_122 tw_401 rfl (by decide +kernel) ⟨by decide, by decide⟩ dX0_shareOf_21 ?_
    refine s_if_eq X (tgt := 96) dX0_shareOf_24 (by decide) ?_ ?_
    · exact s_X0_shareOf_96 X hJ
    · refine s_aload_n X rfl dX0_shareOf_27 ?_
      refine s_get X (T := TX0) (C := RX0) (N := 12) tu_X0 rfl (by decide) tw_172 dX0_shareOf_28 ?_
      refine s_iload X dX0_shareOf_31 ?_
      refine s_iald X dX0_shareOf_33 ?_
      refine s_iconst X ⟨by decide, by decide⟩ dX0_shareOf_34 ?_
      refine s_icmp_ne X (tgt := 43) dX0_shareOf_35 (by decide) ?_ ?_
      · refine s_iload X dX0_shareOf_43 ?_
        refine s_iconst X ⟨by decide, by decide⟩ dX0_shareOf_45 ?_
        refine s_idiv X dX0_shareOf_46 ?_
        exact s_X0_shareOf_47 X hJ
      · refine s_iload X dX0_shareOf_38 ?_
        refine s_goto X (tgt := 47) dX0_shareOf_40 (by decide) ?_
        exact s_X0_shareOf_47 X hJ
set_option maxRecDepth 100000 in
def b_X0_shareOf_0 (J : Nat → List qV → List qV → qW → Prop) (Q : qR) : qK := x_iload 2 (x_istore 4 (x_iload 1 (x_istore 5 (x_int 0 (x_istore 6 (x_cut [0, 3, 4, 5, 6] (J 9)))))))
set_option maxRecDepth 100000 in
theorem s_X0_shareOf_0 {p : Program} {l : Launch} {e : Env} {R : Room} {s : State} {m : MethodId} {args : Array Value} {below : List Frame} {meth : Method} {c : Code} {nW : Nat} {dC : Nat → ClassId} {dI : Nat → Nat → Nat} {k : Nat → ClassId} {g : Nat → Nat} {A : Nat → Prop} {J : Nat → List qV → List qV → qW → Prop} {Q : qR} (X : q_X p R s m args meth c cX0_shareOf 9 nW 1 21 RX0 (some .int) dC dI k g A) (hJ : ∀ d : Nat, q_Sd p l e R s m args below meth c 9 nW dC dI k g A (MQ below (q_post (dC, dI) k g nW Q A) args s 0 0 A) d (x_cut (is_X0_shareOf d) (J d))) : q_Sd p l e R s m args below meth c 9 nW dC dI k g A (MQ below (q_post (dC, dI) k g nW Q A) args s 0 0 A) 0 (b_X0_shareOf_0 J Q) := by
  unfold b_X0_shareOf_0
  refine s_iload_n X rfl dX0_shareOf_0 ?_
  refine s_istore X (by decide) dX0_shareOf_1 ?_
  refine s_iload_n X rfl dX0_shareOf_3 ?_
  refine s_istore X (by decide) dX0_shareOf_4 ?_
  refine s_iconst X ⟨by decide, by decide⟩ dX0_shareOf_6 ?_
  refine s_istore X (by decide) dX0_shareOf_7 ?_
  exact hJ 9

def spr_X0_shareOf : List qV → qW → (Option qV → Prop) → Prop := fun av w Q => ∃ (f1 : Nat → Int) (f2 : Nat → Int) (f3 : Nat → Int) (f4 : Nat → Int) (f5 : Nat → Int) (f6 : Nat → Int) (f7 : Nat → Int) (u0 : Int) (u1 : Int) (u2 : Int) (u3 : Int) (u4 : Int) (a : Int) (b : Int) (c : Int), av = [q2 0, q1 a, q1 b, q1 c] ∧ w = wB f1 f2 f3 f4 f5 f6 f7 u0 u1 u2 u3 u4 ∧ (0 ≤ u0 ∧ u0 ≤ 8) ∧ (∀ (r : Int) , Q (some (q1 r)))
def sp_X0_shareOf : qS := fun av w Q => spr_X0_shareOf av w (fun r => Q r w)
def I_X0_shareOf (f1 : Nat → Int) (f2 : Nat → Int) (f3 : Nat → Int) (f4 : Nat → Int) (f5 : Nat → Int) (f6 : Nat → Int) (f7 : Nat → Int) (u0 : Int) (u1 : Int) (u2 : Int) (u3 : Int) (u4 : Int) (a : Int) (b : Int) (c : Int) : Nat → Nat → List qV → List qV → qW → Prop := fun dz mz vz sz wz => if dz = 9 then (∃ (v4 : Int) (v5 : Int) (v6 : Int), vz = [q2 0, q1 c, q1 v4, q1 v5, q1 v6] ∧ sz = [] ∧ wz = wB f1 f2 f3 f4 f5 f6 f7 u0 u1 u2 u3 u4 ∧ mz = (u0 - v6).toNat ∧ (0 ≤ v6 ∧ v6 ≤ u0)) else False
set_option maxHeartbeats 4000000 in
set_option maxRecDepth 100000 in
theorem m_X0_shareOf (l : Launch) : q_M l yX0_shareOf cX0_shareOf 9 (some .int) 1 21 sp_X0_shareOf := by
  refine q_meth (by decide) (fun av w Q h => by obtain ⟨f1, f2, f3, f4, f5, f6, f7, u0, u1, u2, u3, u4, a, b, c, rfl, rfl, hu0, hQ⟩ := h; exact Nat.le_of_ble_eq_true rfl) ?_
  intro p e R s m args below meth c dC dI k g A av w Q hsp oka okw X
  obtain ⟨f1, f2, f3, f4, f5, f6, f7, u0, u1, u2, u3, u4, a, b, c, rfl, rfl, hu0, hQ⟩ := hsp
  have o_a : -2147483648 ≤ a ∧ a ≤ 2147483647 := oka _ (List.mem_of_getElem? (i := 1) rfl)
  have o_b : -2147483648 ≤ b ∧ b ≤ 2147483647 := oka _ (List.mem_of_getElem? (i := 2) rfl)
  have o_c : -2147483648 ≤ c ∧ c ≤ 2147483647 := oka _ (List.mem_of_getElem? (i := 3) rfl)
  refine s_mono (s_X0_shareOf_0 X (J := fun dz vz sz wz => ∃ mz, I_X0_shareOf f1 f2 f3 f4 f5 f6 f7 u0 u1 u2 u3 u4 a b c dz mz vz sz wz) (q_loopn (I_X0_shareOf f1 f2 f3 f4 f5 f6 f7 u0 u1 u2 u3 u4 a b c) (fun dz J => if dz = 9 then b_X0_shareOf_9 J Q else q_F) ?hs ?hv)) ?_
  case hs =>
    intro d J hJ
    by_cases h9 : d = 9
    · subst h9; exact s_X0_shareOf_9 X hJ
    simp only [h9, if_false]
    exact s_F
  case hv =>
    intro dz mz vz sz wz hI okv oks okw hlen
    by_cases h9 : dz = 9
    · subst h9
      obtain ⟨v4, v5, v6, rfl, rfl, rfl, hn, hp⟩ := hI
      apply And.intro
      · intro h15
        apply And.intro
        · intro h98
          exact hQ _
        · intro h98
          exact hQ _
      · intro h15
        refine Exists.intro [0, 1, 2, 3, 4, 5, 6, 7] (Exists.intro [q2 0, q1 _] (Exists.intro (wB _ _ _ _ _ _ _ _ _ _ _ _) (And.intro rfl (And.intro rfl (And.intro rfl (And.intro ⟨⟨_, rfl⟩, rfl⟩ ?_))))))
        refine Exists.intro _ (Exists.intro _ (Exists.intro _ (Exists.intro _ (Exists.intro _ (Exists.intro _ (Exists.intro _ (Exists.intro _ (Exists.intro _ (Exists.intro _ (Exists.intro _ (Exists.intro _ (Exists.intro _ (And.intro rfl (And.intro rfl (?_)))))))))))))))
        intro z21 h21
        apply And.intro
        · intro h24
          apply And.intro
          · intro h98
            exact hQ _
          · intro h98
            exact hQ _
        · intro h24
          apply And.intro
          · exact ⟨by omega, by omega⟩
          intro z33 h33
          apply And.intro
          · intro h35
            apply And.intro
            · first | omega | (intro e9; omega)
            intro z46 h46
            first | replace h46 := e_div h46 (by omega) (by omega) | replace h46 := e_rng h46
            apply And.intro
            · exact ⟨by omega, by omega⟩
            intro z57 h57
            intro z59 h59
            first | replace h59 := e_sub h59 (by omega) | replace h59 := e_rng h59
            intro z60 h60
            apply And.intro
            · intro h68
              intro z78 h78
              first | replace h78 := e_sub h78 (by omega) | replace h78 := e_rng h78
              apply And.intro
              · exact ⟨by omega, by omega⟩
              intro z87 h87
              intro z90 h90
              first | replace h90 := e_add h90 (by omega) | replace h90 := e_rng h90
              exact ⟨_, ⟨_, _, _, rfl, rfl, rfl, rfl, (by first | omega | assumption | exact q_rg_up (by assumption) (by omega) | exact q_rg_up (q_rg_up (by assumption) (by omega)) (by omega) | exact q_rg_cpy (by assumption) (by assumption))⟩, by omega⟩
            · intro h68
              exact hQ _
          · intro h35
            apply And.intro
            · exact ⟨by omega, by omega⟩
            intro z57 h57
            intro z59 h59
            first | replace h59 := e_sub h59 (by omega) | replace h59 := e_rng h59
            intro z60 h60
            apply And.intro
            · intro h68
              intro z78 h78
              first | replace h78 := e_sub h78 (by omega) | replace h78 := e_rng h78
              apply And.intro
              · exact ⟨by omega, by omega⟩
              intro z87 h87
              intro z90 h90
              first | replace h90 := e_add h90 (by omega) | replace h90 := e_rng h90
              exact ⟨_, ⟨_, _, _, rfl, rfl, rfl, rfl, (by first | omega | assumption | exact q_rg_up (by assumption) (by omega) | exact q_rg_up (q_rg_up (by assumption) (by omega)) (by omega) | exact q_rg_cpy (by assumption) (by assumption))⟩, by omega⟩
            · intro h68
              exact hQ _
    simp only [I_X0_shareOf, h9, if_false] at hI
  rintro lv st w' ⟨rfl, rfl, rfl⟩
  exact ⟨_, _, _, _, rfl, rfl, rfl, rfl, (by first | omega | assumption | exact q_rg_up (by assumption) (by omega) | exact q_rg_up (q_rg_up (by assumption) (by omega)) (by omega) | exact q_rg_cpy (by assumption) (by assumption))⟩

theorem dX0_commonForbear_0 : decode cX0_commonForbear 0 = .ok (.iload_n 1, 1) := by decide +kernel
theorem dX0_commonForbear_1 : decode cX0_commonForbear 1 = .ok (.istore_n 3, 1) := by decide +kernel
theorem dX0_commonForbear_2 : decode cX0_commonForbear 2 = .ok (.iconst 0, 1) := by decide +kernel
theorem dX0_commonForbear_3 : decode cX0_commonForbear 3 = .ok (.istore 4, 2) := by decide +kernel
theorem dX0_commonForbear_5 : decode cX0_commonForbear 5 = .ok (.iload 4, 2) := by decide +kernel
theorem dX0_commonForbear_7 : decode cX0_commonForbear 7 = .ok (.aload_n 0, 1) := by decide +kernel
theorem dX0_commonForbear_8 : decode cX0_commonForbear 8 = .ok (.getfield 51, 3) := by decide +kernel
theorem dX0_commonForbear_11 : decode cX0_commonForbear 11 = .ok (.if_icmp .ge 36, 3) := by decide +kernel
theorem dX0_commonForbear_14 : decode cX0_commonForbear 14 = .ok (.aload_n 0, 1) := by decide +kernel
theorem dX0_commonForbear_15 : decode cX0_commonForbear 15 = .ok (.iload_n 3, 1) := by decide +kernel
theorem dX0_commonForbear_16 : decode cX0_commonForbear 16 = .ok (.invokevirtual 75, 3) := by decide +kernel
theorem dX0_commonForbear_19 : decode cX0_commonForbear 19 = .ok (.ifCond .eq 28, 3) := by decide +kernel
theorem dX0_commonForbear_22 : decode cX0_commonForbear 22 = .ok (.aload_n 0, 1) := by decide +kernel
theorem dX0_commonForbear_23 : decode cX0_commonForbear 23 = .ok (.iload_n 2, 1) := by decide +kernel
theorem dX0_commonForbear_24 : decode cX0_commonForbear 24 = .ok (.iload_n 3, 1) := by decide +kernel
theorem dX0_commonForbear_25 : decode cX0_commonForbear 25 = .ok (.invokevirtual 96, 3) := by decide +kernel
theorem dX0_commonForbear_28 : decode cX0_commonForbear 28 = .ok (.iconst (-1), 1) := by decide +kernel
theorem dX0_commonForbear_29 : decode cX0_commonForbear 29 = .ok (.if_icmp .eq 5, 3) := by decide +kernel
theorem dX0_commonForbear_32 : decode cX0_commonForbear 32 = .ok (.iload_n 3, 1) := by decide +kernel
theorem dX0_commonForbear_33 : decode cX0_commonForbear 33 = .ok (.ireturn, 1) := by decide +kernel
theorem dX0_commonForbear_34 : decode cX0_commonForbear 34 = .ok (.aload_n 0, 1) := by decide +kernel
theorem dX0_commonForbear_35 : decode cX0_commonForbear 35 = .ok (.getfield 15, 3) := by decide +kernel
theorem dX0_commonForbear_38 : decode cX0_commonForbear 38 = .ok (.iload_n 3, 1) := by decide +kernel
theorem dX0_commonForbear_39 : decode cX0_commonForbear 39 = .ok (.iaload, 1) := by decide +kernel
theorem dX0_commonForbear_40 : decode cX0_commonForbear 40 = .ok (.istore_n 3, 1) := by decide +kernel
theorem dX0_commonForbear_41 : decode cX0_commonForbear 41 = .ok (.iinc 4 1, 3) := by decide +kernel
theorem dX0_commonForbear_44 : decode cX0_commonForbear 44 = .ok (.goto (-39), 3) := by decide +kernel
theorem dX0_commonForbear_47 : decode cX0_commonForbear 47 = .ok (.iconst (-1), 1) := by decide +kernel
theorem dX0_commonForbear_48 : decode cX0_commonForbear 48 = .ok (.ireturn, 1) := by decide +kernel
def is_X0_commonForbear : Nat → List Nat := fun d => if d = 5 then [0, 2, 3, 4] else []
set_option maxRecDepth 100000 in
def b_X0_commonForbear_47 (J : Nat → List qV → List qV → qW → Prop) (Q : qR) : qK := x_int (-1) (x_iret Q)
set_option maxRecDepth 100000 in
theorem s_X0_commonForbear_47 {p : Program} {l : Launch} {e : Env} {R : Room} {s : State} {m : MethodId} {args : Array Value} {below : List Frame} {meth : Method} {c : Code} {nW : Nat} {dC : Nat → ClassId} {dI : Nat → Nat → Nat} {k : Nat → ClassId} {g : Nat → Nat} {A : Nat → Prop} {J : Nat → List qV → List qV → qW → Prop} {Q : qR} (X : q_X p R s m args meth c cX0_commonForbear 5 nW 2 45 RX0 (some .int) dC dI k g A) (hJ : ∀ d : Nat, q_Sd p l e R s m args below meth c 5 nW dC dI k g A (MQ below (q_post (dC, dI) k g nW Q A) args s 0 0 A) d (x_cut (is_X0_commonForbear d) (J d))) : q_Sd p l e R s m args below meth c 5 nW dC dI k g A (MQ below (q_post (dC, dI) k g nW Q A) args s 0 0 A) 47 (b_X0_commonForbear_47 J Q) := by
  unfold b_X0_commonForbear_47
  refine s_iconst X ⟨by decide, by decide⟩ dX0_commonForbear_47 ?_
  exact s_iret X dX0_commonForbear_48
set_option maxRecDepth 100000 in
def b_X0_commonForbear_5 (J : Nat → List qV → List qV → qW → Prop) (Q : qR) : qK := x_iload 4 (x_aload 0 (x_get 0 7 (x_icmp_ge (b_X0_commonForbear_47 J Q) (x_aload 0 (x_iload 3 (x_callr (some 0) 2 spr_X0_has (x_if_eq (b_X0_commonForbear_47 J Q) (x_aload 0 (x_iload 2 (x_iload 3 (x_callr (some 0) 3 spr_X0_stepsUp (x_int (-1) (x_icmp_eq (x_aload 0 (x_get 0 1 (x_iload 3 (x_iald (x_istore 3 (x_iinc 4 1 (x_cut [0, 2, 3, 4] (J 5)))))))) (x_iload 3 (x_iret Q)))))))))))))))
set_option maxRecDepth 100000 in
theorem s_X0_commonForbear_5 {p : Program} {l : Launch} {e : Env} {R : Room} {s : State} {m : MethodId} {args : Array Value} {below : List Frame} {meth : Method} {c : Code} {nW : Nat} {dC : Nat → ClassId} {dI : Nat → Nat → Nat} {k : Nat → ClassId} {g : Nat → Nat} {A : Nat → Prop} {J : Nat → List qV → List qV → qW → Prop} {Q : qR} (X : q_X p R s m args meth c cX0_commonForbear 5 nW 2 45 RX0 (some .int) dC dI k g A) (hJ : ∀ d : Nat, q_Sd p l e R s m args below meth c 5 nW dC dI k g A (MQ below (q_post (dC, dI) k g nW Q A) args s 0 0 A) d (x_cut (is_X0_commonForbear d) (J d))) : q_Sd p l e R s m args below meth c 5 nW dC dI k g A (MQ below (q_post (dC, dI) k g nW Q A) args s 0 0 A) 5 (b_X0_commonForbear_5 J Q) := by
  unfold b_X0_commonForbear_5
  refine s_iload X dX0_commonForbear_5 ?_
  refine s_aload_n X rfl dX0_commonForbear_7 ?_
  refine s_get X (T := TX0) (C := RX0) (N := 12) tu_X0 rfl (by decide) tw_193 dX0_commonForbear_8 ?_
  refine s_icmp_ge X (tgt := 47) dX0_commonForbear_11 (by decide) ?_ ?_
  · exact s_X0_commonForbear_47 X hJ
  · refine s_aload_n X rfl dX0_commonForbear_14 ?_
    refine s_iload_n X rfl dX0_commonForbear_15 ?_
    refine s_callVr X (m_X0_has l) tw_398 tw_399 tw_400 tw_122 tw_401 rfl (by decide +kernel) ⟨by decide, by decide⟩ dX0_commonForbear_16 ?_
    refine s_if_eq X (tgt := 47) dX0_commonForbear_19 (by decide) ?_ ?_
    · exact s_X0_commonForbear_47 X hJ
    · refine s_aload_n X rfl dX0_commonForbear_22 ?_
      refine s_iload_n X rfl dX0_commonForbear_23 ?_
      refine s_iload_n X rfl dX0_commonForbear_24 ?_
      refine s_callVr X (m_X0_stepsUp l) tw_756 tw_757 tw_1487 tw_122 tw_758 rfl (by decide +kernel) ⟨by decide, by decide⟩ dX0_commonForbear_25 ?_
      refine s_iconst X ⟨by decide, by decide⟩ dX0_commonForbear_28 ?_
      refine s_icmp_eq X (tgt := 34) dX0_commonForbear_29 (by decide) ?_ ?_
      · refine s_aload_n X rfl dX0_commonForbear_34 ?_
        refine s_get X (T := TX0) (C := RX0) (N := 12) tu_X0 rfl (by decide) tw_172 dX0_commonForbear_35 ?_
        refine s_iload_n X rfl dX0_commonForbear_38 ?_
        refine s_iald X dX0_commonForbear_39 ?_
        refine s_istore_n X rfl (by decide) dX0_commonForbear_40 ?_
        refine s_iinc X (by decide) dX0_commonForbear_41 ?_
        refine s_goto X (tgt := 5) dX0_commonForbear_44 (by decide) ?_
        exact hJ 5
      · refine s_iload_n X rfl dX0_commonForbear_32 ?_
        exact s_iret X dX0_commonForbear_33
set_option maxRecDepth 100000 in
def b_X0_commonForbear_0 (J : Nat → List qV → List qV → qW → Prop) (Q : qR) : qK := x_iload 1 (x_istore 3 (x_int 0 (x_istore 4 (x_cut [0, 2, 3, 4] (J 5)))))
set_option maxRecDepth 100000 in
theorem s_X0_commonForbear_0 {p : Program} {l : Launch} {e : Env} {R : Room} {s : State} {m : MethodId} {args : Array Value} {below : List Frame} {meth : Method} {c : Code} {nW : Nat} {dC : Nat → ClassId} {dI : Nat → Nat → Nat} {k : Nat → ClassId} {g : Nat → Nat} {A : Nat → Prop} {J : Nat → List qV → List qV → qW → Prop} {Q : qR} (X : q_X p R s m args meth c cX0_commonForbear 5 nW 2 45 RX0 (some .int) dC dI k g A) (hJ : ∀ d : Nat, q_Sd p l e R s m args below meth c 5 nW dC dI k g A (MQ below (q_post (dC, dI) k g nW Q A) args s 0 0 A) d (x_cut (is_X0_commonForbear d) (J d))) : q_Sd p l e R s m args below meth c 5 nW dC dI k g A (MQ below (q_post (dC, dI) k g nW Q A) args s 0 0 A) 0 (b_X0_commonForbear_0 J Q) := by
  unfold b_X0_commonForbear_0
  refine s_iload_n X rfl dX0_commonForbear_0 ?_
  refine s_istore_n X rfl (by decide) dX0_commonForbear_1 ?_
  refine s_iconst X ⟨by decide, by decide⟩ dX0_commonForbear_2 ?_
  refine s_istore X (by decide) dX0_commonForbear_3 ?_
  exact hJ 5

def spr_X0_commonForbear : List qV → qW → (Option qV → Prop) → Prop := fun av w Q => ∃ (f1 : Nat → Int) (f2 : Nat → Int) (f3 : Nat → Int) (f4 : Nat → Int) (f5 : Nat → Int) (f6 : Nat → Int) (f7 : Nat → Int) (u0 : Int) (u1 : Int) (u2 : Int) (u3 : Int) (u4 : Int) (a : Int) (b : Int), av = [q2 0, q1 a, q1 b] ∧ w = wB f1 f2 f3 f4 f5 f6 f7 u0 u1 u2 u3 u4 ∧ (0 ≤ u0 ∧ u0 ≤ 8) ∧ (∀ (r : Int) , Q (some (q1 r)))
def sp_X0_commonForbear : qS := fun av w Q => spr_X0_commonForbear av w (fun r => Q r w)
def I_X0_commonForbear (f1 : Nat → Int) (f2 : Nat → Int) (f3 : Nat → Int) (f4 : Nat → Int) (f5 : Nat → Int) (f6 : Nat → Int) (f7 : Nat → Int) (u0 : Int) (u1 : Int) (u2 : Int) (u3 : Int) (u4 : Int) (a : Int) (b : Int) : Nat → Nat → List qV → List qV → qW → Prop := fun dz mz vz sz wz => if dz = 5 then (∃ (v3 : Int) (v4 : Int), vz = [q2 0, q1 b, q1 v3, q1 v4] ∧ sz = [] ∧ wz = wB f1 f2 f3 f4 f5 f6 f7 u0 u1 u2 u3 u4 ∧ mz = (u0 - v4).toNat ∧ (0 ≤ v4 ∧ v4 ≤ u0)) else False
set_option maxHeartbeats 4000000 in
set_option maxRecDepth 100000 in
theorem m_X0_commonForbear (l : Launch) : q_M l yX0_commonForbear cX0_commonForbear 5 (some .int) 2 45 sp_X0_commonForbear := by
  refine q_meth (by decide) (fun av w Q h => by obtain ⟨f1, f2, f3, f4, f5, f6, f7, u0, u1, u2, u3, u4, a, b, rfl, rfl, hu0, hQ⟩ := h; exact Nat.le_of_ble_eq_true rfl) ?_
  intro p e R s m args below meth c dC dI k g A av w Q hsp oka okw X
  obtain ⟨f1, f2, f3, f4, f5, f6, f7, u0, u1, u2, u3, u4, a, b, rfl, rfl, hu0, hQ⟩ := hsp
  have o_a : -2147483648 ≤ a ∧ a ≤ 2147483647 := oka _ (List.mem_of_getElem? (i := 1) rfl)
  have o_b : -2147483648 ≤ b ∧ b ≤ 2147483647 := oka _ (List.mem_of_getElem? (i := 2) rfl)
  refine s_mono (s_X0_commonForbear_0 X (J := fun dz vz sz wz => ∃ mz, I_X0_commonForbear f1 f2 f3 f4 f5 f6 f7 u0 u1 u2 u3 u4 a b dz mz vz sz wz) (q_loopn (I_X0_commonForbear f1 f2 f3 f4 f5 f6 f7 u0 u1 u2 u3 u4 a b) (fun dz J => if dz = 5 then b_X0_commonForbear_5 J Q else q_F) ?hs ?hv)) ?_
  case hs =>
    intro d J hJ
    by_cases h5 : d = 5
    · subst h5; exact s_X0_commonForbear_5 X hJ
    simp only [h5, if_false]
    exact s_F
  case hv =>
    intro dz mz vz sz wz hI okv oks okw hlen
    by_cases h5 : dz = 5
    · subst h5
      obtain ⟨v3, v4, rfl, rfl, rfl, hn, hp⟩ := hI
      apply And.intro
      · intro h11
        exact hQ _
      · intro h11
        refine Exists.intro [0, 1, 2, 3, 4, 5, 6, 7] (Exists.intro [q2 0, q1 _] (Exists.intro (wB _ _ _ _ _ _ _ _ _ _ _ _) (And.intro rfl (And.intro rfl (And.intro rfl (And.intro ⟨⟨_, rfl⟩, rfl⟩ ?_))))))
        refine Exists.intro _ (Exists.intro _ (Exists.intro _ (Exists.intro _ (Exists.intro _ (Exists.intro _ (Exists.intro _ (Exists.intro _ (Exists.intro _ (Exists.intro _ (Exists.intro _ (Exists.intro _ (Exists.intro _ (And.intro rfl (And.intro rfl (?_)))))))))))))))
        intro z16 h16
        apply And.intro
        · intro h19
          exact hQ _
        · intro h19
          refine Exists.intro [0, 1, 2, 3, 4, 5, 6, 7] (Exists.intro [q2 0, q1 _, q1 _] (Exists.intro (wB _ _ _ _ _ _ _ _ _ _ _ _) (And.intro rfl (And.intro rfl (And.intro rfl (And.intro ⟨⟨_, rfl⟩, rfl⟩ ?_))))))
          refine Exists.intro _ (Exists.intro _ (Exists.intro _ (Exists.intro _ (Exists.intro _ (Exists.intro _ (Exists.intro _ (Exists.intro _ (Exists.intro _ (Exists.intro _ (Exists.intro _ (Exists.intro _ (Exists.intro _ (Exists.intro _ (And.intro rfl (And.intro rfl (And.intro (by first | omega | assumption | exact q_rg_up (by assumption) (by omega) | exact q_rg_up (q_rg_up (by assumption) (by omega)) (by omega) | exact q_rg_cpy (by assumption) (by assumption)) (?_)))))))))))))))))
          intro z25 h25
          apply And.intro
          · intro h29
            apply And.intro
            · exact ⟨by omega, by omega⟩
            intro z39 h39
            intro z41 h41
            first | replace h41 := e_add h41 (by omega) | replace h41 := e_rng h41
            exact ⟨_, ⟨_, _, rfl, rfl, rfl, rfl, (by first | omega | assumption | exact q_rg_up (by assumption) (by omega) | exact q_rg_up (q_rg_up (by assumption) (by omega)) (by omega) | exact q_rg_cpy (by assumption) (by assumption))⟩, by omega⟩
          · intro h29
            exact hQ _
    simp only [I_X0_commonForbear, h5, if_false] at hI
  rintro lv st w' ⟨rfl, rfl, rfl⟩
  exact ⟨_, _, _, rfl, rfl, rfl, rfl, (by first | omega | assumption | exact q_rg_up (by assumption) (by omega) | exact q_rg_up (q_rg_up (by assumption) (by omega)) (by omega) | exact q_rg_cpy (by assumption) (by assumption))⟩

theorem dX0_familyOf_0 : decode cX0_familyOf 0 = .ok (.iconst 0, 1) := by decide +kernel
theorem dX0_familyOf_1 : decode cX0_familyOf 1 = .ok (.istore_n 2, 1) := by decide +kernel
theorem dX0_familyOf_2 : decode cX0_familyOf 2 = .ok (.iconst 0, 1) := by decide +kernel
theorem dX0_familyOf_3 : decode cX0_familyOf 3 = .ok (.istore_n 3, 1) := by decide +kernel
theorem dX0_familyOf_4 : decode cX0_familyOf 4 = .ok (.iload_n 3, 1) := by decide +kernel
theorem dX0_familyOf_5 : decode cX0_familyOf 5 = .ok (.aload_n 0, 1) := by decide +kernel
theorem dX0_familyOf_6 : decode cX0_familyOf 6 = .ok (.getfield 51, 3) := by decide +kernel
theorem dX0_familyOf_9 : decode cX0_familyOf 9 = .ok (.if_icmp .ge 25, 3) := by decide +kernel
theorem dX0_familyOf_12 : decode cX0_familyOf 12 = .ok (.aload_n 0, 1) := by decide +kernel
theorem dX0_familyOf_13 : decode cX0_familyOf 13 = .ok (.iload_n 3, 1) := by decide +kernel
theorem dX0_familyOf_14 : decode cX0_familyOf 14 = .ok (.iload_n 1, 1) := by decide +kernel
theorem dX0_familyOf_15 : decode cX0_familyOf 15 = .ok (.invokevirtual 96, 3) := by decide +kernel
theorem dX0_familyOf_18 : decode cX0_familyOf 18 = .ok (.iconst (-1), 1) := by decide +kernel
theorem dX0_familyOf_19 : decode cX0_familyOf 19 = .ok (.if_icmp .eq 9, 3) := by decide +kernel
theorem dX0_familyOf_22 : decode cX0_familyOf 22 = .ok (.iload_n 2, 1) := by decide +kernel
theorem dX0_familyOf_23 : decode cX0_familyOf 23 = .ok (.iconst 1, 1) := by decide +kernel
theorem dX0_familyOf_24 : decode cX0_familyOf 24 = .ok (.iload_n 3, 1) := by decide +kernel
theorem dX0_familyOf_25 : decode cX0_familyOf 25 = .ok (.ishl, 1) := by decide +kernel
theorem dX0_familyOf_26 : decode cX0_familyOf 26 = .ok (.ior, 1) := by decide +kernel
theorem dX0_familyOf_27 : decode cX0_familyOf 27 = .ok (.istore_n 2, 1) := by decide +kernel
theorem dX0_familyOf_28 : decode cX0_familyOf 28 = .ok (.iinc 3 1, 3) := by decide +kernel
theorem dX0_familyOf_31 : decode cX0_familyOf 31 = .ok (.goto (-27), 3) := by decide +kernel
theorem dX0_familyOf_34 : decode cX0_familyOf 34 = .ok (.iload_n 2, 1) := by decide +kernel
theorem dX0_familyOf_35 : decode cX0_familyOf 35 = .ok (.ireturn, 1) := by decide +kernel
def is_X0_familyOf : Nat → List Nat := fun d => if d = 4 then [0, 1, 2, 3] else []
set_option maxRecDepth 100000 in
def b_X0_familyOf_28 (J : Nat → List qV → List qV → qW → Prop) (Q : qR) : qK := x_iinc 3 1 (x_cut [0, 1, 2, 3] (J 4))
set_option maxRecDepth 100000 in
theorem s_X0_familyOf_28 {p : Program} {l : Launch} {e : Env} {R : Room} {s : State} {m : MethodId} {args : Array Value} {below : List Frame} {meth : Method} {c : Code} {nW : Nat} {dC : Nat → ClassId} {dI : Nat → Nat → Nat} {k : Nat → ClassId} {g : Nat → Nat} {A : Nat → Prop} {J : Nat → List qV → List qV → qW → Prop} {Q : qR} (X : q_X p R s m args meth c cX0_familyOf 4 nW 2 45 RX0 (some .int) dC dI k g A) (hJ : ∀ d : Nat, q_Sd p l e R s m args below meth c 4 nW dC dI k g A (MQ below (q_post (dC, dI) k g nW Q A) args s 0 0 A) d (x_cut (is_X0_familyOf d) (J d))) : q_Sd p l e R s m args below meth c 4 nW dC dI k g A (MQ below (q_post (dC, dI) k g nW Q A) args s 0 0 A) 28 (b_X0_familyOf_28 J Q) := by
  unfold b_X0_familyOf_28
  refine s_iinc X (by decide) dX0_familyOf_28 ?_
  refine s_goto X (tgt := 4) dX0_familyOf_31 (by decide) ?_
  exact hJ 4
set_option maxRecDepth 100000 in
def b_X0_familyOf_4 (J : Nat → List qV → List qV → qW → Prop) (Q : qR) : qK := x_iload 3 (x_aload 0 (x_get 0 7 (x_icmp_ge (x_iload 2 (x_iret Q)) (x_aload 0 (x_iload 3 (x_iload 1 (x_callr (some 0) 3 spr_X0_stepsUp (x_int (-1) (x_icmp_eq (b_X0_familyOf_28 J Q) (x_iload 2 (x_int 1 (x_iload 3 (x_ishl (x_ior (x_istore 2 (b_X0_familyOf_28 J Q))))))))))))))))
set_option maxRecDepth 100000 in
theorem s_X0_familyOf_4 {p : Program} {l : Launch} {e : Env} {R : Room} {s : State} {m : MethodId} {args : Array Value} {below : List Frame} {meth : Method} {c : Code} {nW : Nat} {dC : Nat → ClassId} {dI : Nat → Nat → Nat} {k : Nat → ClassId} {g : Nat → Nat} {A : Nat → Prop} {J : Nat → List qV → List qV → qW → Prop} {Q : qR} (X : q_X p R s m args meth c cX0_familyOf 4 nW 2 45 RX0 (some .int) dC dI k g A) (hJ : ∀ d : Nat, q_Sd p l e R s m args below meth c 4 nW dC dI k g A (MQ below (q_post (dC, dI) k g nW Q A) args s 0 0 A) d (x_cut (is_X0_familyOf d) (J d))) : q_Sd p l e R s m args below meth c 4 nW dC dI k g A (MQ below (q_post (dC, dI) k g nW Q A) args s 0 0 A) 4 (b_X0_familyOf_4 J Q) := by
  unfold b_X0_familyOf_4
  refine s_iload_n X rfl dX0_familyOf_4 ?_
  refine s_aload_n X rfl dX0_familyOf_5 ?_
  refine s_get X (T := TX0) (C := RX0) (N := 12) tu_X0 rfl (by decide) tw_193 dX0_familyOf_6 ?_
  refine s_icmp_ge X (tgt := 34) dX0_familyOf_9 (by decide) ?_ ?_
  · refine s_iload_n X rfl dX0_familyOf_34 ?_
    exact s_iret X dX0_familyOf_35
  · refine s_aload_n X rfl dX0_familyOf_12 ?_
    refine s_iload_n X rfl dX0_familyOf_13 ?_
    refine s_iload_n X rfl dX0_familyOf_14 ?_
    refine s_callVr X (m_X0_stepsUp l) tw_756 tw_757 tw_1487 tw_122 tw_758 rfl (by decide +kernel) ⟨by decide, by decide⟩ dX0_familyOf_15 ?_
    refine s_iconst X ⟨by decide, by decide⟩ dX0_familyOf_18 ?_
    refine s_icmp_eq X (tgt := 28) dX0_familyOf_19 (by decide) ?_ ?_
    · exact s_X0_familyOf_28 X hJ
    · refine s_iload_n X rfl dX0_familyOf_22 ?_
      refine s_iconst X ⟨by decide, by decide⟩ dX0_familyOf_23 ?_
      refine s_iload_n X rfl dX0_familyOf_24 ?_
      refine s_ishl X dX0_familyOf_25 ?_
      refine s_ior X dX0_familyOf_26 ?_
      refine s_istore_n X rfl (by decide) dX0_familyOf_27 ?_
      exact s_X0_familyOf_28 X hJ
set_option maxRecDepth 100000 in
def b_X0_familyOf_0 (J : Nat → List qV → List qV → qW → Prop) (Q : qR) : qK := x_int 0 (x_istore 2 (x_int 0 (x_istore 3 (x_cut [0, 1, 2, 3] (J 4)))))
set_option maxRecDepth 100000 in
theorem s_X0_familyOf_0 {p : Program} {l : Launch} {e : Env} {R : Room} {s : State} {m : MethodId} {args : Array Value} {below : List Frame} {meth : Method} {c : Code} {nW : Nat} {dC : Nat → ClassId} {dI : Nat → Nat → Nat} {k : Nat → ClassId} {g : Nat → Nat} {A : Nat → Prop} {J : Nat → List qV → List qV → qW → Prop} {Q : qR} (X : q_X p R s m args meth c cX0_familyOf 4 nW 2 45 RX0 (some .int) dC dI k g A) (hJ : ∀ d : Nat, q_Sd p l e R s m args below meth c 4 nW dC dI k g A (MQ below (q_post (dC, dI) k g nW Q A) args s 0 0 A) d (x_cut (is_X0_familyOf d) (J d))) : q_Sd p l e R s m args below meth c 4 nW dC dI k g A (MQ below (q_post (dC, dI) k g nW Q A) args s 0 0 A) 0 (b_X0_familyOf_0 J Q) := by
  unfold b_X0_familyOf_0
  refine s_iconst X ⟨by decide, by decide⟩ dX0_familyOf_0 ?_
  refine s_istore_n X rfl (by decide) dX0_familyOf_1 ?_
  refine s_iconst X ⟨by decide, by decide⟩ dX0_familyOf_2 ?_
  refine s_istore_n X rfl (by decide) dX0_familyOf_3 ?_
  exact hJ 4

def spr_X0_familyOf : List qV → qW → (Option qV → Prop) → Prop := fun av w Q => ∃ (f1 : Nat → Int) (f2 : Nat → Int) (f3 : Nat → Int) (f4 : Nat → Int) (f5 : Nat → Int) (f6 : Nat → Int) (f7 : Nat → Int) (u0 : Int) (u1 : Int) (u2 : Int) (u3 : Int) (u4 : Int) (a : Int), av = [q2 0, q1 a] ∧ w = wB f1 f2 f3 f4 f5 f6 f7 u0 u1 u2 u3 u4 ∧ (0 ≤ u0 ∧ u0 ≤ 8) ∧ (∀ (r : Int) , Q (some (q1 r)))
def sp_X0_familyOf : qS := fun av w Q => spr_X0_familyOf av w (fun r => Q r w)
def I_X0_familyOf (f1 : Nat → Int) (f2 : Nat → Int) (f3 : Nat → Int) (f4 : Nat → Int) (f5 : Nat → Int) (f6 : Nat → Int) (f7 : Nat → Int) (u0 : Int) (u1 : Int) (u2 : Int) (u3 : Int) (u4 : Int) (a : Int) : Nat → Nat → List qV → List qV → qW → Prop := fun dz mz vz sz wz => if dz = 4 then (∃ (v2 : Int) (v3 : Int), vz = [q2 0, q1 a, q1 v2, q1 v3] ∧ sz = [] ∧ wz = wB f1 f2 f3 f4 f5 f6 f7 u0 u1 u2 u3 u4 ∧ mz = (u0 - v3).toNat ∧ (0 ≤ v3 ∧ v3 ≤ u0)) else False
set_option maxHeartbeats 4000000 in
set_option maxRecDepth 100000 in
theorem m_X0_familyOf (l : Launch) : q_M l yX0_familyOf cX0_familyOf 4 (some .int) 2 45 sp_X0_familyOf := by
  refine q_meth (by decide) (fun av w Q h => by obtain ⟨f1, f2, f3, f4, f5, f6, f7, u0, u1, u2, u3, u4, a, rfl, rfl, hu0, hQ⟩ := h; exact Nat.le_of_ble_eq_true rfl) ?_
  intro p e R s m args below meth c dC dI k g A av w Q hsp oka okw X
  obtain ⟨f1, f2, f3, f4, f5, f6, f7, u0, u1, u2, u3, u4, a, rfl, rfl, hu0, hQ⟩ := hsp
  have o_a : -2147483648 ≤ a ∧ a ≤ 2147483647 := oka _ (List.mem_of_getElem? (i := 1) rfl)
  refine s_mono (s_X0_familyOf_0 X (J := fun dz vz sz wz => ∃ mz, I_X0_familyOf f1 f2 f3 f4 f5 f6 f7 u0 u1 u2 u3 u4 a dz mz vz sz wz) (q_loopn (I_X0_familyOf f1 f2 f3 f4 f5 f6 f7 u0 u1 u2 u3 u4 a) (fun dz J => if dz = 4 then b_X0_familyOf_4 J Q else q_F) ?hs ?hv)) ?_
  case hs =>
    intro d J hJ
    by_cases h4 : d = 4
    · subst h4; exact s_X0_familyOf_4 X hJ
    simp only [h4, if_false]
    exact s_F
  case hv =>
    intro dz mz vz sz wz hI okv oks okw hlen
    by_cases h4 : dz = 4
    · subst h4
      obtain ⟨v2, v3, rfl, rfl, rfl, hn, hp⟩ := hI
      apply And.intro
      · intro h9
        exact hQ _
      · intro h9
        refine Exists.intro [0, 1, 2, 3, 4, 5, 6, 7] (Exists.intro [q2 0, q1 _, q1 _] (Exists.intro (wB _ _ _ _ _ _ _ _ _ _ _ _) (And.intro rfl (And.intro rfl (And.intro rfl (And.intro ⟨⟨_, rfl⟩, rfl⟩ ?_))))))
        refine Exists.intro _ (Exists.intro _ (Exists.intro _ (Exists.intro _ (Exists.intro _ (Exists.intro _ (Exists.intro _ (Exists.intro _ (Exists.intro _ (Exists.intro _ (Exists.intro _ (Exists.intro _ (Exists.intro _ (Exists.intro _ (And.intro rfl (And.intro rfl (And.intro (by first | omega | assumption | exact q_rg_up (by assumption) (by omega) | exact q_rg_up (q_rg_up (by assumption) (by omega)) (by omega) | exact q_rg_cpy (by assumption) (by assumption)) (?_)))))))))))))))))
        intro z15 h15
        apply And.intro
        · intro h19
          intro z28 h28
          first | replace h28 := e_add h28 (by omega) | replace h28 := e_rng h28
          exact ⟨_, ⟨_, _, rfl, rfl, rfl, rfl, (by first | omega | assumption | exact q_rg_up (by assumption) (by omega) | exact q_rg_up (q_rg_up (by assumption) (by omega)) (by omega) | exact q_rg_cpy (by assumption) (by assumption))⟩, by omega⟩
        · intro h19
          intro z25 h25
          first | replace h25 := e_shl h25 (by omega) | replace h25 := e_rng h25
          intro z26 h26
          first | replace h26 := e_or8 h26 (by omega) (by omega) | replace h26 := e_or9 h26 (by omega) (by omega) | replace h26 := e_rng h26
          intro z28 h28
          first | replace h28 := e_add h28 (by omega) | replace h28 := e_rng h28
          exact ⟨_, ⟨_, _, rfl, rfl, rfl, rfl, (by first | omega | assumption | exact q_rg_up (by assumption) (by omega) | exact q_rg_up (q_rg_up (by assumption) (by omega)) (by omega) | exact q_rg_cpy (by assumption) (by assumption))⟩, by omega⟩
    simp only [I_X0_familyOf, h4, if_false] at hI
  rintro lv st w' ⟨rfl, rfl, rfl⟩
  exact ⟨_, _, _, rfl, rfl, rfl, rfl, (by first | omega | assumption | exact q_rg_up (by assumption) (by omega) | exact q_rg_up (q_rg_up (by assumption) (by omega)) (by omega) | exact q_rg_cpy (by assumption) (by assumption))⟩

theorem dX0_familyInches_0 : decode cX0_familyInches 0 = .ok (.iconst 0, 1) := by decide +kernel
theorem dX0_familyInches_1 : decode cX0_familyInches 1 = .ok (.istore_n 2, 1) := by decide +kernel
theorem dX0_familyInches_2 : decode cX0_familyInches 2 = .ok (.iconst 0, 1) := by decide +kernel
theorem dX0_familyInches_3 : decode cX0_familyInches 3 = .ok (.istore_n 3, 1) := by decide +kernel
theorem dX0_familyInches_4 : decode cX0_familyInches 4 = .ok (.iload_n 3, 1) := by decide +kernel
theorem dX0_familyInches_5 : decode cX0_familyInches 5 = .ok (.aload_n 0, 1) := by decide +kernel
theorem dX0_familyInches_6 : decode cX0_familyInches 6 = .ok (.getfield 51, 3) := by decide +kernel
theorem dX0_familyInches_9 : decode cX0_familyInches 9 = .ok (.if_icmp .ge 28, 3) := by decide +kernel
theorem dX0_familyInches_12 : decode cX0_familyInches 12 = .ok (.aload_n 0, 1) := by decide +kernel
theorem dX0_familyInches_13 : decode cX0_familyInches 13 = .ok (.iload_n 3, 1) := by decide +kernel
theorem dX0_familyInches_14 : decode cX0_familyInches 14 = .ok (.iload_n 1, 1) := by decide +kernel
theorem dX0_familyInches_15 : decode cX0_familyInches 15 = .ok (.invokevirtual 96, 3) := by decide +kernel
theorem dX0_familyInches_18 : decode cX0_familyInches 18 = .ok (.iconst (-1), 1) := by decide +kernel
theorem dX0_familyInches_19 : decode cX0_familyInches 19 = .ok (.if_icmp .eq 12, 3) := by decide +kernel
theorem dX0_familyInches_22 : decode cX0_familyInches 22 = .ok (.iload_n 2, 1) := by decide +kernel
theorem dX0_familyInches_23 : decode cX0_familyInches 23 = .ok (.aload_n 0, 1) := by decide +kernel
theorem dX0_familyInches_24 : decode cX0_familyInches 24 = .ok (.getfield 9, 3) := by decide +kernel
theorem dX0_familyInches_27 : decode cX0_familyInches 27 = .ok (.iload_n 3, 1) := by decide +kernel
theorem dX0_familyInches_28 : decode cX0_familyInches 28 = .ok (.iaload, 1) := by decide +kernel
theorem dX0_familyInches_29 : decode cX0_familyInches 29 = .ok (.iadd, 1) := by decide +kernel
theorem dX0_familyInches_30 : decode cX0_familyInches 30 = .ok (.istore_n 2, 1) := by decide +kernel
theorem dX0_familyInches_31 : decode cX0_familyInches 31 = .ok (.iinc 3 1, 3) := by decide +kernel
theorem dX0_familyInches_34 : decode cX0_familyInches 34 = .ok (.goto (-30), 3) := by decide +kernel
theorem dX0_familyInches_37 : decode cX0_familyInches 37 = .ok (.iload_n 2, 1) := by decide +kernel
theorem dX0_familyInches_38 : decode cX0_familyInches 38 = .ok (.ireturn, 1) := by decide +kernel
def is_X0_familyInches : Nat → List Nat := fun d => if d = 4 then [0, 1, 2, 3] else []
set_option maxRecDepth 100000 in
def b_X0_familyInches_31 (J : Nat → List qV → List qV → qW → Prop) (Q : qR) : qK := x_iinc 3 1 (x_cut [0, 1, 2, 3] (J 4))
set_option maxRecDepth 100000 in
theorem s_X0_familyInches_31 {p : Program} {l : Launch} {e : Env} {R : Room} {s : State} {m : MethodId} {args : Array Value} {below : List Frame} {meth : Method} {c : Code} {nW : Nat} {dC : Nat → ClassId} {dI : Nat → Nat → Nat} {k : Nat → ClassId} {g : Nat → Nat} {A : Nat → Prop} {J : Nat → List qV → List qV → qW → Prop} {Q : qR} (X : q_X p R s m args meth c cX0_familyInches 4 nW 2 45 RX0 (some .int) dC dI k g A) (hJ : ∀ d : Nat, q_Sd p l e R s m args below meth c 4 nW dC dI k g A (MQ below (q_post (dC, dI) k g nW Q A) args s 0 0 A) d (x_cut (is_X0_familyInches d) (J d))) : q_Sd p l e R s m args below meth c 4 nW dC dI k g A (MQ below (q_post (dC, dI) k g nW Q A) args s 0 0 A) 31 (b_X0_familyInches_31 J Q) := by
  unfold b_X0_familyInches_31
  refine s_iinc X (by decide) dX0_familyInches_31 ?_
  refine s_goto X (tgt := 4) dX0_familyInches_34 (by decide) ?_
  exact hJ 4
set_option maxRecDepth 100000 in
def b_X0_familyInches_4 (J : Nat → List qV → List qV → qW → Prop) (Q : qR) : qK := x_iload 3 (x_aload 0 (x_get 0 7 (x_icmp_ge (x_iload 2 (x_iret Q)) (x_aload 0 (x_iload 3 (x_iload 1 (x_callr (some 0) 3 spr_X0_stepsUp (x_int (-1) (x_icmp_eq (b_X0_familyInches_31 J Q) (x_iload 2 (x_aload 0 (x_get 0 0 (x_iload 3 (x_iald (x_iadd (x_istore 2 (b_X0_familyInches_31 J Q)))))))))))))))))
set_option maxRecDepth 100000 in
theorem s_X0_familyInches_4 {p : Program} {l : Launch} {e : Env} {R : Room} {s : State} {m : MethodId} {args : Array Value} {below : List Frame} {meth : Method} {c : Code} {nW : Nat} {dC : Nat → ClassId} {dI : Nat → Nat → Nat} {k : Nat → ClassId} {g : Nat → Nat} {A : Nat → Prop} {J : Nat → List qV → List qV → qW → Prop} {Q : qR} (X : q_X p R s m args meth c cX0_familyInches 4 nW 2 45 RX0 (some .int) dC dI k g A) (hJ : ∀ d : Nat, q_Sd p l e R s m args below meth c 4 nW dC dI k g A (MQ below (q_post (dC, dI) k g nW Q A) args s 0 0 A) d (x_cut (is_X0_familyInches d) (J d))) : q_Sd p l e R s m args below meth c 4 nW dC dI k g A (MQ below (q_post (dC, dI) k g nW Q A) args s 0 0 A) 4 (b_X0_familyInches_4 J Q) := by
  unfold b_X0_familyInches_4
  refine s_iload_n X rfl dX0_familyInches_4 ?_
  refine s_aload_n X rfl dX0_familyInches_5 ?_
  refine s_get X (T := TX0) (C := RX0) (N := 12) tu_X0 rfl (by decide) tw_193 dX0_familyInches_6 ?_
  refine s_icmp_ge X (tgt := 37) dX0_familyInches_9 (by decide) ?_ ?_
  · refine s_iload_n X rfl dX0_familyInches_37 ?_
    exact s_iret X dX0_familyInches_38
  · refine s_aload_n X rfl dX0_familyInches_12 ?_
    refine s_iload_n X rfl dX0_familyInches_13 ?_
    refine s_iload_n X rfl dX0_familyInches_14 ?_
    refine s_callVr X (m_X0_stepsUp l) tw_756 tw_757 tw_1487 tw_122 tw_758 rfl (by decide +kernel) ⟨by decide, by decide⟩ dX0_familyInches_15 ?_
    refine s_iconst X ⟨by decide, by decide⟩ dX0_familyInches_18 ?_
    refine s_icmp_eq X (tgt := 31) dX0_familyInches_19 (by decide) ?_ ?_
    · exact s_X0_familyInches_31 X hJ
    · refine s_iload_n X rfl dX0_familyInches_22 ?_
      refine s_aload_n X rfl dX0_familyInches_23 ?_
      refine s_get X (T := TX0) (C := RX0) (N := 12) tu_X0 rfl (by decide) tw_164 dX0_familyInches_24 ?_
      refine s_iload_n X rfl dX0_familyInches_27 ?_
      refine s_iald X dX0_familyInches_28 ?_
      refine s_iadd X dX0_familyInches_29 ?_
      refine s_istore_n X rfl (by decide) dX0_familyInches_30 ?_
      exact s_X0_familyInches_31 X hJ
set_option maxRecDepth 100000 in
def b_X0_familyInches_0 (J : Nat → List qV → List qV → qW → Prop) (Q : qR) : qK := x_int 0 (x_istore 2 (x_int 0 (x_istore 3 (x_cut [0, 1, 2, 3] (J 4)))))
set_option maxRecDepth 100000 in
theorem s_X0_familyInches_0 {p : Program} {l : Launch} {e : Env} {R : Room} {s : State} {m : MethodId} {args : Array Value} {below : List Frame} {meth : Method} {c : Code} {nW : Nat} {dC : Nat → ClassId} {dI : Nat → Nat → Nat} {k : Nat → ClassId} {g : Nat → Nat} {A : Nat → Prop} {J : Nat → List qV → List qV → qW → Prop} {Q : qR} (X : q_X p R s m args meth c cX0_familyInches 4 nW 2 45 RX0 (some .int) dC dI k g A) (hJ : ∀ d : Nat, q_Sd p l e R s m args below meth c 4 nW dC dI k g A (MQ below (q_post (dC, dI) k g nW Q A) args s 0 0 A) d (x_cut (is_X0_familyInches d) (J d))) : q_Sd p l e R s m args below meth c 4 nW dC dI k g A (MQ below (q_post (dC, dI) k g nW Q A) args s 0 0 A) 0 (b_X0_familyInches_0 J Q) := by
  unfold b_X0_familyInches_0
  refine s_iconst X ⟨by decide, by decide⟩ dX0_familyInches_0 ?_
  refine s_istore_n X rfl (by decide) dX0_familyInches_1 ?_
  refine s_iconst X ⟨by decide, by decide⟩ dX0_familyInches_2 ?_
  refine s_istore_n X rfl (by decide) dX0_familyInches_3 ?_
  exact hJ 4

def spr_X0_familyInches : List qV → qW → (Option qV → Prop) → Prop := fun av w Q => ∃ (f1 : Nat → Int) (f2 : Nat → Int) (f3 : Nat → Int) (f4 : Nat → Int) (f5 : Nat → Int) (f6 : Nat → Int) (f7 : Nat → Int) (u0 : Int) (u1 : Int) (u2 : Int) (u3 : Int) (u4 : Int) (a : Int), av = [q2 0, q1 a] ∧ w = wB f1 f2 f3 f4 f5 f6 f7 u0 u1 u2 u3 u4 ∧ (0 ≤ u0 ∧ u0 ≤ 8) ∧ (∀ (r : Int) , Q (some (q1 r)))
def sp_X0_familyInches : qS := fun av w Q => spr_X0_familyInches av w (fun r => Q r w)
def I_X0_familyInches (f1 : Nat → Int) (f2 : Nat → Int) (f3 : Nat → Int) (f4 : Nat → Int) (f5 : Nat → Int) (f6 : Nat → Int) (f7 : Nat → Int) (u0 : Int) (u1 : Int) (u2 : Int) (u3 : Int) (u4 : Int) (a : Int) : Nat → Nat → List qV → List qV → qW → Prop := fun dz mz vz sz wz => if dz = 4 then (∃ (v2 : Int) (v3 : Int), vz = [q2 0, q1 a, q1 v2, q1 v3] ∧ sz = [] ∧ wz = wB f1 f2 f3 f4 f5 f6 f7 u0 u1 u2 u3 u4 ∧ mz = (u0 - v3).toNat ∧ (0 ≤ v3 ∧ v3 ≤ u0)) else False
set_option maxHeartbeats 4000000 in
set_option maxRecDepth 100000 in
theorem m_X0_familyInches (l : Launch) : q_M l yX0_familyInches cX0_familyInches 4 (some .int) 2 45 sp_X0_familyInches := by
  refine q_meth (by decide) (fun av w Q h => by obtain ⟨f1, f2, f3, f4, f5, f6, f7, u0, u1, u2, u3, u4, a, rfl, rfl, hu0, hQ⟩ := h; exact Nat.le_of_ble_eq_true rfl) ?_
  intro p e R s m args below meth c dC dI k g A av w Q hsp oka okw X
  obtain ⟨f1, f2, f3, f4, f5, f6, f7, u0, u1, u2, u3, u4, a, rfl, rfl, hu0, hQ⟩ := hsp
  have o_a : -2147483648 ≤ a ∧ a ≤ 2147483647 := oka _ (List.mem_of_getElem? (i := 1) rfl)
  refine s_mono (s_X0_familyInches_0 X (J := fun dz vz sz wz => ∃ mz, I_X0_familyInches f1 f2 f3 f4 f5 f6 f7 u0 u1 u2 u3 u4 a dz mz vz sz wz) (q_loopn (I_X0_familyInches f1 f2 f3 f4 f5 f6 f7 u0 u1 u2 u3 u4 a) (fun dz J => if dz = 4 then b_X0_familyInches_4 J Q else q_F) ?hs ?hv)) ?_
  case hs =>
    intro d J hJ
    by_cases h4 : d = 4
    · subst h4; exact s_X0_familyInches_4 X hJ
    simp only [h4, if_false]
    exact s_F
  case hv =>
    intro dz mz vz sz wz hI okv oks okw hlen
    by_cases h4 : dz = 4
    · subst h4
      obtain ⟨v2, v3, rfl, rfl, rfl, hn, hp⟩ := hI
      apply And.intro
      · intro h9
        exact hQ _
      · intro h9
        refine Exists.intro [0, 1, 2, 3, 4, 5, 6, 7] (Exists.intro [q2 0, q1 _, q1 _] (Exists.intro (wB _ _ _ _ _ _ _ _ _ _ _ _) (And.intro rfl (And.intro rfl (And.intro rfl (And.intro ⟨⟨_, rfl⟩, rfl⟩ ?_))))))
        refine Exists.intro _ (Exists.intro _ (Exists.intro _ (Exists.intro _ (Exists.intro _ (Exists.intro _ (Exists.intro _ (Exists.intro _ (Exists.intro _ (Exists.intro _ (Exists.intro _ (Exists.intro _ (Exists.intro _ (Exists.intro _ (And.intro rfl (And.intro rfl (And.intro (by first | omega | assumption | exact q_rg_up (by assumption) (by omega) | exact q_rg_up (q_rg_up (by assumption) (by omega)) (by omega) | exact q_rg_cpy (by assumption) (by assumption)) (?_)))))))))))))))))
        intro z15 h15
        apply And.intro
        · intro h19
          intro z31 h31
          first | replace h31 := e_add h31 (by omega) | replace h31 := e_rng h31
          exact ⟨_, ⟨_, _, rfl, rfl, rfl, rfl, (by first | omega | assumption | exact q_rg_up (by assumption) (by omega) | exact q_rg_up (q_rg_up (by assumption) (by omega)) (by omega) | exact q_rg_cpy (by assumption) (by assumption))⟩, by omega⟩
        · intro h19
          apply And.intro
          · exact ⟨by omega, by omega⟩
          intro z28 h28
          intro z29 h29
          first | replace h29 := e_add h29 (by omega) | replace h29 := e_rng h29
          intro z31 h31
          first | replace h31 := e_add h31 (by omega) | replace h31 := e_rng h31
          exact ⟨_, ⟨_, _, rfl, rfl, rfl, rfl, (by first | omega | assumption | exact q_rg_up (by assumption) (by omega) | exact q_rg_up (q_rg_up (by assumption) (by omega)) (by omega) | exact q_rg_cpy (by assumption) (by assumption))⟩, by omega⟩
    simp only [I_X0_familyInches, h4, if_false] at hI
  rintro lv st w' ⟨rfl, rfl, rfl⟩
  exact ⟨_, _, _, rfl, rfl, rfl, rfl, (by first | omega | assumption | exact q_rg_up (by assumption) (by omega) | exact q_rg_up (q_rg_up (by assumption) (by omega)) (by omega) | exact q_rg_cpy (by assumption) (by assumption))⟩

theorem dX0_familySteps_0 : decode cX0_familySteps 0 = .ok (.iconst 0, 1) := by decide +kernel
theorem dX0_familySteps_1 : decode cX0_familySteps 1 = .ok (.istore_n 2, 1) := by decide +kernel
theorem dX0_familySteps_2 : decode cX0_familySteps 2 = .ok (.iconst 0, 1) := by decide +kernel
theorem dX0_familySteps_3 : decode cX0_familySteps 3 = .ok (.istore_n 3, 1) := by decide +kernel
theorem dX0_familySteps_4 : decode cX0_familySteps 4 = .ok (.iload_n 3, 1) := by decide +kernel
theorem dX0_familySteps_5 : decode cX0_familySteps 5 = .ok (.aload_n 0, 1) := by decide +kernel
theorem dX0_familySteps_6 : decode cX0_familySteps 6 = .ok (.getfield 51, 3) := by decide +kernel
theorem dX0_familySteps_9 : decode cX0_familySteps 9 = .ok (.if_icmp .ge 20, 3) := by decide +kernel
theorem dX0_familySteps_12 : decode cX0_familySteps 12 = .ok (.iload_n 2, 1) := by decide +kernel
theorem dX0_familySteps_13 : decode cX0_familySteps 13 = .ok (.aload_n 0, 1) := by decide +kernel
theorem dX0_familySteps_14 : decode cX0_familySteps 14 = .ok (.iload_n 3, 1) := by decide +kernel
theorem dX0_familySteps_15 : decode cX0_familySteps 15 = .ok (.iload_n 1, 1) := by decide +kernel
theorem dX0_familySteps_16 : decode cX0_familySteps 16 = .ok (.invokevirtual 96, 3) := by decide +kernel
theorem dX0_familySteps_19 : decode cX0_familySteps 19 = .ok (.invokestatic 99, 3) := by decide +kernel
theorem dX0_familySteps_22 : decode cX0_familySteps 22 = .ok (.istore_n 2, 1) := by decide +kernel
theorem dX0_familySteps_23 : decode cX0_familySteps 23 = .ok (.iinc 3 1, 3) := by decide +kernel
theorem dX0_familySteps_26 : decode cX0_familySteps 26 = .ok (.goto (-22), 3) := by decide +kernel
theorem dX0_familySteps_29 : decode cX0_familySteps 29 = .ok (.iload_n 2, 1) := by decide +kernel
theorem dX0_familySteps_30 : decode cX0_familySteps 30 = .ok (.ireturn, 1) := by decide +kernel
def is_X0_familySteps : Nat → List Nat := fun d => if d = 4 then [0, 1, 2, 3] else []
set_option maxRecDepth 100000 in
def b_X0_familySteps_4 (J : Nat → List qV → List qV → qW → Prop) (Q : qR) : qK := x_iload 3 (x_aload 0 (x_get 0 7 (x_icmp_ge (x_iload 2 (x_iret Q)) (x_iload 2 (x_aload 0 (x_iload 3 (x_iload 1 (x_callr (some 0) 3 spr_X0_stepsUp (x_max (x_istore 2 (x_iinc 3 1 (x_cut [0, 1, 2, 3] (J 4)))))))))))))
set_option maxRecDepth 100000 in
theorem s_X0_familySteps_4 {p : Program} {l : Launch} {e : Env} {R : Room} {s : State} {m : MethodId} {args : Array Value} {below : List Frame} {meth : Method} {c : Code} {nW : Nat} {dC : Nat → ClassId} {dI : Nat → Nat → Nat} {k : Nat → ClassId} {g : Nat → Nat} {A : Nat → Prop} {J : Nat → List qV → List qV → qW → Prop} {Q : qR} (X : q_X p R s m args meth c cX0_familySteps 4 nW 2 45 RX0 (some .int) dC dI k g A) (hJ : ∀ d : Nat, q_Sd p l e R s m args below meth c 4 nW dC dI k g A (MQ below (q_post (dC, dI) k g nW Q A) args s 0 0 A) d (x_cut (is_X0_familySteps d) (J d))) : q_Sd p l e R s m args below meth c 4 nW dC dI k g A (MQ below (q_post (dC, dI) k g nW Q A) args s 0 0 A) 4 (b_X0_familySteps_4 J Q) := by
  unfold b_X0_familySteps_4
  refine s_iload_n X rfl dX0_familySteps_4 ?_
  refine s_aload_n X rfl dX0_familySteps_5 ?_
  refine s_get X (T := TX0) (C := RX0) (N := 12) tu_X0 rfl (by decide) tw_193 dX0_familySteps_6 ?_
  refine s_icmp_ge X (tgt := 29) dX0_familySteps_9 (by decide) ?_ ?_
  · refine s_iload_n X rfl dX0_familySteps_29 ?_
    exact s_iret X dX0_familySteps_30
  · refine s_iload_n X rfl dX0_familySteps_12 ?_
    refine s_aload_n X rfl dX0_familySteps_13 ?_
    refine s_iload_n X rfl dX0_familySteps_14 ?_
    refine s_iload_n X rfl dX0_familySteps_15 ?_
    refine s_callVr X (m_X0_stepsUp l) tw_756 tw_757 tw_1487 tw_122 tw_758 rfl (by decide +kernel) ⟨by decide, by decide⟩ dX0_familySteps_16 ?_
    refine s_max X tw_902 tw_531 tw_135 tw_532 ⟨by decide, by decide⟩ dX0_familySteps_19 ?_
    refine s_istore_n X rfl (by decide) dX0_familySteps_22 ?_
    refine s_iinc X (by decide) dX0_familySteps_23 ?_
    refine s_goto X (tgt := 4) dX0_familySteps_26 (by decide) ?_
    exact hJ 4
set_option maxRecDepth 100000 in
def b_X0_familySteps_0 (J : Nat → List qV → List qV → qW → Prop) (Q : qR) : qK := x_int 0 (x_istore 2 (x_int 0 (x_istore 3 (x_cut [0, 1, 2, 3] (J 4)))))
set_option maxRecDepth 100000 in
theorem s_X0_familySteps_0 {p : Program} {l : Launch} {e : Env} {R : Room} {s : State} {m : MethodId} {args : Array Value} {below : List Frame} {meth : Method} {c : Code} {nW : Nat} {dC : Nat → ClassId} {dI : Nat → Nat → Nat} {k : Nat → ClassId} {g : Nat → Nat} {A : Nat → Prop} {J : Nat → List qV → List qV → qW → Prop} {Q : qR} (X : q_X p R s m args meth c cX0_familySteps 4 nW 2 45 RX0 (some .int) dC dI k g A) (hJ : ∀ d : Nat, q_Sd p l e R s m args below meth c 4 nW dC dI k g A (MQ below (q_post (dC, dI) k g nW Q A) args s 0 0 A) d (x_cut (is_X0_familySteps d) (J d))) : q_Sd p l e R s m args below meth c 4 nW dC dI k g A (MQ below (q_post (dC, dI) k g nW Q A) args s 0 0 A) 0 (b_X0_familySteps_0 J Q) := by
  unfold b_X0_familySteps_0
  refine s_iconst X ⟨by decide, by decide⟩ dX0_familySteps_0 ?_
  refine s_istore_n X rfl (by decide) dX0_familySteps_1 ?_
  refine s_iconst X ⟨by decide, by decide⟩ dX0_familySteps_2 ?_
  refine s_istore_n X rfl (by decide) dX0_familySteps_3 ?_
  exact hJ 4

def spr_X0_familySteps : List qV → qW → (Option qV → Prop) → Prop := fun av w Q => ∃ (f1 : Nat → Int) (f2 : Nat → Int) (f3 : Nat → Int) (f4 : Nat → Int) (f5 : Nat → Int) (f6 : Nat → Int) (f7 : Nat → Int) (u0 : Int) (u1 : Int) (u2 : Int) (u3 : Int) (u4 : Int) (a : Int), av = [q2 0, q1 a] ∧ w = wB f1 f2 f3 f4 f5 f6 f7 u0 u1 u2 u3 u4 ∧ (0 ≤ u0 ∧ u0 ≤ 8) ∧ (∀ (r : Int) , Q (some (q1 r)))
def sp_X0_familySteps : qS := fun av w Q => spr_X0_familySteps av w (fun r => Q r w)
def I_X0_familySteps (f1 : Nat → Int) (f2 : Nat → Int) (f3 : Nat → Int) (f4 : Nat → Int) (f5 : Nat → Int) (f6 : Nat → Int) (f7 : Nat → Int) (u0 : Int) (u1 : Int) (u2 : Int) (u3 : Int) (u4 : Int) (a : Int) : Nat → Nat → List qV → List qV → qW → Prop := fun dz mz vz sz wz => if dz = 4 then (∃ (v2 : Int) (v3 : Int), vz = [q2 0, q1 a, q1 v2, q1 v3] ∧ sz = [] ∧ wz = wB f1 f2 f3 f4 f5 f6 f7 u0 u1 u2 u3 u4 ∧ mz = (u0 - v3).toNat ∧ (0 ≤ v3 ∧ v3 ≤ u0)) else False
set_option maxHeartbeats 4000000 in
set_option maxRecDepth 100000 in
theorem m_X0_familySteps (l : Launch) : q_M l yX0_familySteps cX0_familySteps 4 (some .int) 2 45 sp_X0_familySteps := by
  refine q_meth (by decide) (fun av w Q h => by obtain ⟨f1, f2, f3, f4, f5, f6, f7, u0, u1, u2, u3, u4, a, rfl, rfl, hu0, hQ⟩ := h; exact Nat.le_of_ble_eq_true rfl) ?_
  intro p e R s m args below meth c dC dI k g A av w Q hsp oka okw X
  obtain ⟨f1, f2, f3, f4, f5, f6, f7, u0, u1, u2, u3, u4, a, rfl, rfl, hu0, hQ⟩ := hsp
  have o_a : -2147483648 ≤ a ∧ a ≤ 2147483647 := oka _ (List.mem_of_getElem? (i := 1) rfl)
  refine s_mono (s_X0_familySteps_0 X (J := fun dz vz sz wz => ∃ mz, I_X0_familySteps f1 f2 f3 f4 f5 f6 f7 u0 u1 u2 u3 u4 a dz mz vz sz wz) (q_loopn (I_X0_familySteps f1 f2 f3 f4 f5 f6 f7 u0 u1 u2 u3 u4 a) (fun dz J => if dz = 4 then b_X0_familySteps_4 J Q else q_F) ?hs ?hv)) ?_
  case hs =>
    intro d J hJ
    by_cases h4 : d = 4
    · subst h4; exact s_X0_familySteps_4 X hJ
    simp only [h4, if_false]
    exact s_F
  case hv =>
    intro dz mz vz sz wz hI okv oks okw hlen
    by_cases h4 : dz = 4
    · subst h4
      obtain ⟨v2, v3, rfl, rfl, rfl, hn, hp⟩ := hI
      apply And.intro
      · intro h9
        exact hQ _
      · intro h9
        refine Exists.intro [0, 1, 2, 3, 4, 5, 6, 7] (Exists.intro [q2 0, q1 _, q1 _] (Exists.intro (wB _ _ _ _ _ _ _ _ _ _ _ _) (And.intro rfl (And.intro rfl (And.intro rfl (And.intro ⟨⟨_, rfl⟩, rfl⟩ ?_))))))
        refine Exists.intro _ (Exists.intro _ (Exists.intro _ (Exists.intro _ (Exists.intro _ (Exists.intro _ (Exists.intro _ (Exists.intro _ (Exists.intro _ (Exists.intro _ (Exists.intro _ (Exists.intro _ (Exists.intro _ (Exists.intro _ (And.intro rfl (And.intro rfl (And.intro (by first | omega | assumption | exact q_rg_up (by assumption) (by omega) | exact q_rg_up (q_rg_up (by assumption) (by omega)) (by omega) | exact q_rg_cpy (by assumption) (by assumption)) (?_)))))))))))))))))
        intro z16 h16
        intro z19 h19
        intro z23 h23
        first | replace h23 := e_add h23 (by omega) | replace h23 := e_rng h23
        exact ⟨_, ⟨_, _, rfl, rfl, rfl, rfl, (by first | omega | assumption | exact q_rg_up (by assumption) (by omega) | exact q_rg_up (q_rg_up (by assumption) (by omega)) (by omega) | exact q_rg_cpy (by assumption) (by assumption))⟩, by omega⟩
    simp only [I_X0_familySteps, h4, if_false] at hI
  rintro lv st w' ⟨rfl, rfl, rfl⟩
  exact ⟨_, _, _, rfl, rfl, rfl, rfl, (by first | omega | assumption | exact q_rg_up (by assumption) (by omega) | exact q_rg_up (q_rg_up (by assumption) (by omega)) (by omega) | exact q_rg_cpy (by assumption) (by assumption))⟩

theorem dX0_wrongOf_0 : decode cX0_wrongOf 0 = .ok (.iconst 0, 1) := by decide +kernel
theorem dX0_wrongOf_1 : decode cX0_wrongOf 1 = .ok (.istore_n 2, 1) := by decide +kernel
theorem dX0_wrongOf_2 : decode cX0_wrongOf 2 = .ok (.iconst 0, 1) := by decide +kernel
theorem dX0_wrongOf_3 : decode cX0_wrongOf 3 = .ok (.istore_n 3, 1) := by decide +kernel
theorem dX0_wrongOf_4 : decode cX0_wrongOf 4 = .ok (.iload_n 3, 1) := by decide +kernel
theorem dX0_wrongOf_5 : decode cX0_wrongOf 5 = .ok (.aload_n 0, 1) := by decide +kernel
theorem dX0_wrongOf_6 : decode cX0_wrongOf 6 = .ok (.getfield 51, 3) := by decide +kernel
theorem dX0_wrongOf_9 : decode cX0_wrongOf 9 = .ok (.if_icmp .ge 35, 3) := by decide +kernel
theorem dX0_wrongOf_12 : decode cX0_wrongOf 12 = .ok (.aload_n 0, 1) := by decide +kernel
theorem dX0_wrongOf_13 : decode cX0_wrongOf 13 = .ok (.getfield 9, 3) := by decide +kernel
theorem dX0_wrongOf_16 : decode cX0_wrongOf 16 = .ok (.iload_n 3, 1) := by decide +kernel
theorem dX0_wrongOf_17 : decode cX0_wrongOf 17 = .ok (.iaload, 1) := by decide +kernel
theorem dX0_wrongOf_18 : decode cX0_wrongOf 18 = .ok (.iload_n 1, 1) := by decide +kernel
theorem dX0_wrongOf_19 : decode cX0_wrongOf 19 = .ok (.if_icmp .gt 7, 3) := by decide +kernel
theorem dX0_wrongOf_22 : decode cX0_wrongOf 22 = .ok (.iconst 1, 1) := by decide +kernel
theorem dX0_wrongOf_23 : decode cX0_wrongOf 23 = .ok (.goto 4, 3) := by decide +kernel
theorem dX0_wrongOf_26 : decode cX0_wrongOf 26 = .ok (.iconst 0, 1) := by decide +kernel
theorem dX0_wrongOf_27 : decode cX0_wrongOf 27 = .ok (.aload_n 0, 1) := by decide +kernel
theorem dX0_wrongOf_28 : decode cX0_wrongOf 28 = .ok (.iload_n 3, 1) := by decide +kernel
theorem dX0_wrongOf_29 : decode cX0_wrongOf 29 = .ok (.invokevirtual 102, 3) := by decide +kernel
theorem dX0_wrongOf_32 : decode cX0_wrongOf 32 = .ok (.if_icmp .eq 6, 3) := by decide +kernel
theorem dX0_wrongOf_35 : decode cX0_wrongOf 35 = .ok (.iinc 2 1, 3) := by decide +kernel
theorem dX0_wrongOf_38 : decode cX0_wrongOf 38 = .ok (.iinc 3 1, 3) := by decide +kernel
theorem dX0_wrongOf_41 : decode cX0_wrongOf 41 = .ok (.goto (-37), 3) := by decide +kernel
theorem dX0_wrongOf_44 : decode cX0_wrongOf 44 = .ok (.iload_n 2, 1) := by decide +kernel
theorem dX0_wrongOf_45 : decode cX0_wrongOf 45 = .ok (.ireturn, 1) := by decide +kernel
def is_X0_wrongOf : Nat → List Nat := fun d => if d = 4 then [0, 1, 2, 3] else []
set_option maxRecDepth 100000 in
def b_X0_wrongOf_38 (J : Nat → List qV → List qV → qW → Prop) (Q : qR) : qK := x_iinc 3 1 (x_cut [0, 1, 2, 3] (J 4))
set_option maxRecDepth 100000 in
theorem s_X0_wrongOf_38 {p : Program} {l : Launch} {e : Env} {R : Room} {s : State} {m : MethodId} {args : Array Value} {below : List Frame} {meth : Method} {c : Code} {nW : Nat} {dC : Nat → ClassId} {dI : Nat → Nat → Nat} {k : Nat → ClassId} {g : Nat → Nat} {A : Nat → Prop} {J : Nat → List qV → List qV → qW → Prop} {Q : qR} (X : q_X p R s m args meth c cX0_wrongOf 4 nW 1 21 RX0 (some .int) dC dI k g A) (hJ : ∀ d : Nat, q_Sd p l e R s m args below meth c 4 nW dC dI k g A (MQ below (q_post (dC, dI) k g nW Q A) args s 0 0 A) d (x_cut (is_X0_wrongOf d) (J d))) : q_Sd p l e R s m args below meth c 4 nW dC dI k g A (MQ below (q_post (dC, dI) k g nW Q A) args s 0 0 A) 38 (b_X0_wrongOf_38 J Q) := by
  unfold b_X0_wrongOf_38
  refine s_iinc X (by decide) dX0_wrongOf_38 ?_
  refine s_goto X (tgt := 4) dX0_wrongOf_41 (by decide) ?_
  exact hJ 4
set_option maxRecDepth 100000 in
def b_X0_wrongOf_27 (J : Nat → List qV → List qV → qW → Prop) (Q : qR) : qK := x_aload 0 (x_iload 3 (x_callr (some 0) 2 spr_X0_isPoor (x_icmp_eq (b_X0_wrongOf_38 J Q) (x_iinc 2 1 (b_X0_wrongOf_38 J Q)))))
set_option maxRecDepth 100000 in
theorem s_X0_wrongOf_27 {p : Program} {l : Launch} {e : Env} {R : Room} {s : State} {m : MethodId} {args : Array Value} {below : List Frame} {meth : Method} {c : Code} {nW : Nat} {dC : Nat → ClassId} {dI : Nat → Nat → Nat} {k : Nat → ClassId} {g : Nat → Nat} {A : Nat → Prop} {J : Nat → List qV → List qV → qW → Prop} {Q : qR} (X : q_X p R s m args meth c cX0_wrongOf 4 nW 1 21 RX0 (some .int) dC dI k g A) (hJ : ∀ d : Nat, q_Sd p l e R s m args below meth c 4 nW dC dI k g A (MQ below (q_post (dC, dI) k g nW Q A) args s 0 0 A) d (x_cut (is_X0_wrongOf d) (J d))) : q_Sd p l e R s m args below meth c 4 nW dC dI k g A (MQ below (q_post (dC, dI) k g nW Q A) args s 0 0 A) 27 (b_X0_wrongOf_27 J Q) := by
  unfold b_X0_wrongOf_27
  refine s_aload_n X rfl dX0_wrongOf_27 ?_
  refine s_iload_n X rfl dX0_wrongOf_28 ?_
  refine s_callVr X (m_X0_isPoor l) tw_959 tw_593 tw_594 tw_122 tw_595 rfl (by decide +kernel) ⟨by decide, by decide⟩ dX0_wrongOf_29 ?_
  refine s_icmp_eq X (tgt := 38) dX0_wrongOf_32 (by decide) ?_ ?_
  · exact s_X0_wrongOf_38 X hJ
  · refine s_iinc X (by decide) dX0_wrongOf_35 ?_
    exact s_X0_wrongOf_38 X hJ
set_option maxRecDepth 100000 in
def b_X0_wrongOf_4 (J : Nat → List qV → List qV → qW → Prop) (Q : qR) : qK := x_iload 3 (x_aload 0 (x_get 0 7 (x_icmp_ge (x_iload 2 (x_iret Q)) (x_aload 0 (x_get 0 0 (x_iload 3 (x_iald (x_iload 1 (x_icmp_gt (x_int 0 (b_X0_wrongOf_27 J Q)) (x_int 1 (b_X0_wrongOf_27 J Q)))))))))))
set_option maxRecDepth 100000 in
theorem s_X0_wrongOf_4 {p : Program} {l : Launch} {e : Env} {R : Room} {s : State} {m : MethodId} {args : Array Value} {below : List Frame} {meth : Method} {c : Code} {nW : Nat} {dC : Nat → ClassId} {dI : Nat → Nat → Nat} {k : Nat → ClassId} {g : Nat → Nat} {A : Nat → Prop} {J : Nat → List qV → List qV → qW → Prop} {Q : qR} (X : q_X p R s m args meth c cX0_wrongOf 4 nW 1 21 RX0 (some .int) dC dI k g A) (hJ : ∀ d : Nat, q_Sd p l e R s m args below meth c 4 nW dC dI k g A (MQ below (q_post (dC, dI) k g nW Q A) args s 0 0 A) d (x_cut (is_X0_wrongOf d) (J d))) : q_Sd p l e R s m args below meth c 4 nW dC dI k g A (MQ below (q_post (dC, dI) k g nW Q A) args s 0 0 A) 4 (b_X0_wrongOf_4 J Q) := by
  unfold b_X0_wrongOf_4
  refine s_iload_n X rfl dX0_wrongOf_4 ?_
  refine s_aload_n X rfl dX0_wrongOf_5 ?_
  refine s_get X (T := TX0) (C := RX0) (N := 12) tu_X0 rfl (by decide) tw_193 dX0_wrongOf_6 ?_
  refine s_icmp_ge X (tgt := 44) dX0_wrongOf_9 (by decide) ?_ ?_
  · refine s_iload_n X rfl dX0_wrongOf_44 ?_
    exact s_iret X dX0_wrongOf_45
  · refine s_aload_n X rfl dX0_wrongOf_12 ?_
    refine s_get X (T := TX0) (C := RX0) (N := 12) tu_X0 rfl (by decide) tw_164 dX0_wrongOf_13 ?_
    refine s_iload_n X rfl dX0_wrongOf_16 ?_
    refine s_iald X dX0_wrongOf_17 ?_
    refine s_iload_n X rfl dX0_wrongOf_18 ?_
    refine s_icmp_gt X (tgt := 26) dX0_wrongOf_19 (by decide) ?_ ?_
    · refine s_iconst X ⟨by decide, by decide⟩ dX0_wrongOf_26 ?_
      exact s_X0_wrongOf_27 X hJ
    · refine s_iconst X ⟨by decide, by decide⟩ dX0_wrongOf_22 ?_
      refine s_goto X (tgt := 27) dX0_wrongOf_23 (by decide) ?_
      exact s_X0_wrongOf_27 X hJ
set_option maxRecDepth 100000 in
def b_X0_wrongOf_0 (J : Nat → List qV → List qV → qW → Prop) (Q : qR) : qK := x_int 0 (x_istore 2 (x_int 0 (x_istore 3 (x_cut [0, 1, 2, 3] (J 4)))))
set_option maxRecDepth 100000 in
theorem s_X0_wrongOf_0 {p : Program} {l : Launch} {e : Env} {R : Room} {s : State} {m : MethodId} {args : Array Value} {below : List Frame} {meth : Method} {c : Code} {nW : Nat} {dC : Nat → ClassId} {dI : Nat → Nat → Nat} {k : Nat → ClassId} {g : Nat → Nat} {A : Nat → Prop} {J : Nat → List qV → List qV → qW → Prop} {Q : qR} (X : q_X p R s m args meth c cX0_wrongOf 4 nW 1 21 RX0 (some .int) dC dI k g A) (hJ : ∀ d : Nat, q_Sd p l e R s m args below meth c 4 nW dC dI k g A (MQ below (q_post (dC, dI) k g nW Q A) args s 0 0 A) d (x_cut (is_X0_wrongOf d) (J d))) : q_Sd p l e R s m args below meth c 4 nW dC dI k g A (MQ below (q_post (dC, dI) k g nW Q A) args s 0 0 A) 0 (b_X0_wrongOf_0 J Q) := by
  unfold b_X0_wrongOf_0
  refine s_iconst X ⟨by decide, by decide⟩ dX0_wrongOf_0 ?_
  refine s_istore_n X rfl (by decide) dX0_wrongOf_1 ?_
  refine s_iconst X ⟨by decide, by decide⟩ dX0_wrongOf_2 ?_
  refine s_istore_n X rfl (by decide) dX0_wrongOf_3 ?_
  exact hJ 4

def spr_X0_wrongOf : List qV → qW → (Option qV → Prop) → Prop := fun av w Q => ∃ (f1 : Nat → Int) (f2 : Nat → Int) (f3 : Nat → Int) (f4 : Nat → Int) (f5 : Nat → Int) (f6 : Nat → Int) (f7 : Nat → Int) (u0 : Int) (u1 : Int) (u2 : Int) (u3 : Int) (u4 : Int) (a : Int), av = [q2 0, q1 a] ∧ w = wB f1 f2 f3 f4 f5 f6 f7 u0 u1 u2 u3 u4 ∧ (0 ≤ u0 ∧ u0 ≤ 8) ∧ (∀ (r : Int) , Q (some (q1 r)))
def sp_X0_wrongOf : qS := fun av w Q => spr_X0_wrongOf av w (fun r => Q r w)
def I_X0_wrongOf (f1 : Nat → Int) (f2 : Nat → Int) (f3 : Nat → Int) (f4 : Nat → Int) (f5 : Nat → Int) (f6 : Nat → Int) (f7 : Nat → Int) (u0 : Int) (u1 : Int) (u2 : Int) (u3 : Int) (u4 : Int) (a : Int) : Nat → Nat → List qV → List qV → qW → Prop := fun dz mz vz sz wz => if dz = 4 then (∃ (v2 : Int) (v3 : Int), vz = [q2 0, q1 a, q1 v2, q1 v3] ∧ sz = [] ∧ wz = wB f1 f2 f3 f4 f5 f6 f7 u0 u1 u2 u3 u4 ∧ mz = (u0 - v3).toNat ∧ (0 ≤ v3 ∧ v3 ≤ u0)) else False
set_option maxHeartbeats 4000000 in
set_option maxRecDepth 100000 in
theorem m_X0_wrongOf (l : Launch) : q_M l yX0_wrongOf cX0_wrongOf 4 (some .int) 1 21 sp_X0_wrongOf := by
  refine q_meth (by decide) (fun av w Q h => by obtain ⟨f1, f2, f3, f4, f5, f6, f7, u0, u1, u2, u3, u4, a, rfl, rfl, hu0, hQ⟩ := h; exact Nat.le_of_ble_eq_true rfl) ?_
  intro p e R s m args below meth c dC dI k g A av w Q hsp oka okw X
  obtain ⟨f1, f2, f3, f4, f5, f6, f7, u0, u1, u2, u3, u4, a, rfl, rfl, hu0, hQ⟩ := hsp
  have o_a : -2147483648 ≤ a ∧ a ≤ 2147483647 := oka _ (List.mem_of_getElem? (i := 1) rfl)
  refine s_mono (s_X0_wrongOf_0 X (J := fun dz vz sz wz => ∃ mz, I_X0_wrongOf f1 f2 f3 f4 f5 f6 f7 u0 u1 u2 u3 u4 a dz mz vz sz wz) (q_loopn (I_X0_wrongOf f1 f2 f3 f4 f5 f6 f7 u0 u1 u2 u3 u4 a) (fun dz J => if dz = 4 then b_X0_wrongOf_4 J Q else q_F) ?hs ?hv)) ?_
  case hs =>
    intro d J hJ
    by_cases h4 : d = 4
    · subst h4; exact s_X0_wrongOf_4 X hJ
    simp only [h4, if_false]
    exact s_F
  case hv =>
    intro dz mz vz sz wz hI okv oks okw hlen
    by_cases h4 : dz = 4
    · subst h4
      obtain ⟨v2, v3, rfl, rfl, rfl, hn, hp⟩ := hI
      apply And.intro
      · intro h9
        exact hQ _
      · intro h9
        apply And.intro
        · exact ⟨by omega, by omega⟩
        intro z17 h17
        apply And.intro
        · intro h19
          refine Exists.intro [0, 1, 2, 3, 4, 5, 6, 7] (Exists.intro [q2 0, q1 _] (Exists.intro (wB _ _ _ _ _ _ _ _ _ _ _ _) (And.intro rfl (And.intro rfl (And.intro rfl (And.intro ⟨⟨_, rfl⟩, rfl⟩ ?_))))))
          refine Exists.intro _ (Exists.intro _ (Exists.intro _ (Exists.intro _ (Exists.intro _ (Exists.intro _ (Exists.intro _ (Exists.intro _ (Exists.intro _ (Exists.intro _ (Exists.intro _ (Exists.intro _ (Exists.intro _ (And.intro rfl (And.intro rfl (?_)))))))))))))))
          intro z29 h29
          apply And.intro
          · intro h32
            intro z38 h38
            first | replace h38 := e_add h38 (by omega) | replace h38 := e_rng h38
            exact ⟨_, ⟨_, _, rfl, rfl, rfl, rfl, (by first | omega | assumption | exact q_rg_up (by assumption) (by omega) | exact q_rg_up (q_rg_up (by assumption) (by omega)) (by omega) | exact q_rg_cpy (by assumption) (by assumption))⟩, by omega⟩
          · intro h32
            intro z35 h35
            first | replace h35 := e_add h35 (by omega) | replace h35 := e_rng h35
            intro z38 h38
            first | replace h38 := e_add h38 (by omega) | replace h38 := e_rng h38
            exact ⟨_, ⟨_, _, rfl, rfl, rfl, rfl, (by first | omega | assumption | exact q_rg_up (by assumption) (by omega) | exact q_rg_up (q_rg_up (by assumption) (by omega)) (by omega) | exact q_rg_cpy (by assumption) (by assumption))⟩, by omega⟩
        · intro h19
          refine Exists.intro [0, 1, 2, 3, 4, 5, 6, 7] (Exists.intro [q2 0, q1 _] (Exists.intro (wB _ _ _ _ _ _ _ _ _ _ _ _) (And.intro rfl (And.intro rfl (And.intro rfl (And.intro ⟨⟨_, rfl⟩, rfl⟩ ?_))))))
          refine Exists.intro _ (Exists.intro _ (Exists.intro _ (Exists.intro _ (Exists.intro _ (Exists.intro _ (Exists.intro _ (Exists.intro _ (Exists.intro _ (Exists.intro _ (Exists.intro _ (Exists.intro _ (Exists.intro _ (And.intro rfl (And.intro rfl (?_)))))))))))))))
          intro z29 h29
          apply And.intro
          · intro h32
            intro z38 h38
            first | replace h38 := e_add h38 (by omega) | replace h38 := e_rng h38
            exact ⟨_, ⟨_, _, rfl, rfl, rfl, rfl, (by first | omega | assumption | exact q_rg_up (by assumption) (by omega) | exact q_rg_up (q_rg_up (by assumption) (by omega)) (by omega) | exact q_rg_cpy (by assumption) (by assumption))⟩, by omega⟩
          · intro h32
            intro z35 h35
            first | replace h35 := e_add h35 (by omega) | replace h35 := e_rng h35
            intro z38 h38
            first | replace h38 := e_add h38 (by omega) | replace h38 := e_rng h38
            exact ⟨_, ⟨_, _, rfl, rfl, rfl, rfl, (by first | omega | assumption | exact q_rg_up (by assumption) (by omega) | exact q_rg_up (q_rg_up (by assumption) (by omega)) (by omega) | exact q_rg_cpy (by assumption) (by assumption))⟩, by omega⟩
    simp only [I_X0_wrongOf, h4, if_false] at hI
  rintro lv st w' ⟨rfl, rfl, rfl⟩
  exact ⟨_, _, _, rfl, rfl, rfl, rfl, (by first | omega | assumption | exact q_rg_up (by assumption) (by omega) | exact q_rg_up (q_rg_up (by assumption) (by omega)) (by omega) | exact q_rg_cpy (by assumption) (by assumption))⟩

theorem dX0_poorPart_0 : decode cX0_poorPart 0 = .ok (.iconst 0, 1) := by decide +kernel
theorem dX0_poorPart_1 : decode cX0_poorPart 1 = .ok (.istore_n 3, 1) := by decide +kernel
theorem dX0_poorPart_2 : decode cX0_poorPart 2 = .ok (.iconst 0, 1) := by decide +kernel
theorem dX0_poorPart_3 : decode cX0_poorPart 3 = .ok (.istore 4, 2) := by decide +kernel
theorem dX0_poorPart_5 : decode cX0_poorPart 5 = .ok (.iconst 0, 1) := by decide +kernel
theorem dX0_poorPart_6 : decode cX0_poorPart 6 = .ok (.istore 5, 2) := by decide +kernel
theorem dX0_poorPart_8 : decode cX0_poorPart 8 = .ok (.iload 5, 2) := by decide +kernel
theorem dX0_poorPart_10 : decode cX0_poorPart 10 = .ok (.aload_n 0, 1) := by decide +kernel
theorem dX0_poorPart_11 : decode cX0_poorPart 11 = .ok (.getfield 51, 3) := by decide +kernel
theorem dX0_poorPart_14 : decode cX0_poorPart 14 = .ok (.if_icmp .ge 42, 3) := by decide +kernel
theorem dX0_poorPart_17 : decode cX0_poorPart 17 = .ok (.aload_n 0, 1) := by decide +kernel
theorem dX0_poorPart_18 : decode cX0_poorPart 18 = .ok (.getfield 9, 3) := by decide +kernel
theorem dX0_poorPart_21 : decode cX0_poorPart 21 = .ok (.iload 5, 2) := by decide +kernel
theorem dX0_poorPart_23 : decode cX0_poorPart 23 = .ok (.iaload, 1) := by decide +kernel
theorem dX0_poorPart_24 : decode cX0_poorPart 24 = .ok (.iload_n 1, 1) := by decide +kernel
theorem dX0_poorPart_25 : decode cX0_poorPart 25 = .ok (.if_icmp .gt 25, 3) := by decide +kernel
theorem dX0_poorPart_28 : decode cX0_poorPart 28 = .ok (.iinc 3 1, 3) := by decide +kernel
theorem dX0_poorPart_31 : decode cX0_poorPart 31 = .ok (.iload 4, 2) := by decide +kernel
theorem dX0_poorPart_33 : decode cX0_poorPart 33 = .ok (.aload_n 0, 1) := by decide +kernel
theorem dX0_poorPart_34 : decode cX0_poorPart 34 = .ok (.iload 5, 2) := by decide +kernel
theorem dX0_poorPart_36 : decode cX0_poorPart 36 = .ok (.invokevirtual 102, 3) := by decide +kernel
theorem dX0_poorPart_39 : decode cX0_poorPart 39 = .ok (.ifCond .eq 7, 3) := by decide +kernel
theorem dX0_poorPart_42 : decode cX0_poorPart 42 = .ok (.iconst 1, 1) := by decide +kernel
theorem dX0_poorPart_43 : decode cX0_poorPart 43 = .ok (.goto 4, 3) := by decide +kernel
theorem dX0_poorPart_46 : decode cX0_poorPart 46 = .ok (.iconst 0, 1) := by decide +kernel
theorem dX0_poorPart_47 : decode cX0_poorPart 47 = .ok (.iadd, 1) := by decide +kernel
theorem dX0_poorPart_48 : decode cX0_poorPart 48 = .ok (.istore 4, 2) := by decide +kernel
theorem dX0_poorPart_50 : decode cX0_poorPart 50 = .ok (.iinc 5 1, 3) := by decide +kernel
theorem dX0_poorPart_53 : decode cX0_poorPart 53 = .ok (.goto (-45), 3) := by decide +kernel
theorem dX0_poorPart_56 : decode cX0_poorPart 56 = .ok (.iload 4, 2) := by decide +kernel
theorem dX0_poorPart_58 : decode cX0_poorPart 58 = .ok (.ifCond .ne 13, 3) := by decide +kernel
theorem dX0_poorPart_61 : decode cX0_poorPart 61 = .ok (.iload_n 2, 1) := by decide +kernel
theorem dX0_poorPart_62 : decode cX0_poorPart 62 = .ok (.ifCond .eq 7, 3) := by decide +kernel
theorem dX0_poorPart_65 : decode cX0_poorPart 65 = .ok (.iconst 0, 1) := by decide +kernel
theorem dX0_poorPart_66 : decode cX0_poorPart 66 = .ok (.goto 4, 3) := by decide +kernel
theorem dX0_poorPart_69 : decode cX0_poorPart 69 = .ok (.iconst 1, 1) := by decide +kernel
theorem dX0_poorPart_70 : decode cX0_poorPart 70 = .ok (.ireturn, 1) := by decide +kernel
theorem dX0_poorPart_71 : decode cX0_poorPart 71 = .ok (.iload 4, 2) := by decide +kernel
theorem dX0_poorPart_73 : decode cX0_poorPart 73 = .ok (.istore 5, 2) := by decide +kernel
theorem dX0_poorPart_75 : decode cX0_poorPart 75 = .ok (.iload 5, 2) := by decide +kernel
theorem dX0_poorPart_77 : decode cX0_poorPart 77 = .ok (.iconst 1, 1) := by decide +kernel
theorem dX0_poorPart_78 : decode cX0_poorPart 78 = .ok (.if_icmp .le 24, 3) := by decide +kernel
theorem dX0_poorPart_81 : decode cX0_poorPart 81 = .ok (.iload_n 3, 1) := by decide +kernel
theorem dX0_poorPart_82 : decode cX0_poorPart 82 = .ok (.iload 5, 2) := by decide +kernel
theorem dX0_poorPart_84 : decode cX0_poorPart 84 = .ok (.irem, 1) := by decide +kernel
theorem dX0_poorPart_85 : decode cX0_poorPart 85 = .ok (.ifCond .ne 11, 3) := by decide +kernel
theorem dX0_poorPart_88 : decode cX0_poorPart 88 = .ok (.iload 4, 2) := by decide +kernel
theorem dX0_poorPart_90 : decode cX0_poorPart 90 = .ok (.iload 5, 2) := by decide +kernel
theorem dX0_poorPart_92 : decode cX0_poorPart 92 = .ok (.irem, 1) := by decide +kernel
theorem dX0_poorPart_93 : decode cX0_poorPart 93 = .ok (.ifCond .eq 9, 3) := by decide +kernel
theorem dX0_poorPart_96 : decode cX0_poorPart 96 = .ok (.iinc 5 (-1), 3) := by decide +kernel
theorem dX0_poorPart_99 : decode cX0_poorPart 99 = .ok (.goto (-24), 3) := by decide +kernel
theorem dX0_poorPart_102 : decode cX0_poorPart 102 = .ok (.iload_n 2, 1) := by decide +kernel
theorem dX0_poorPart_103 : decode cX0_poorPart 103 = .ok (.ifCond .eq 8, 3) := by decide +kernel
theorem dX0_poorPart_106 : decode cX0_poorPart 106 = .ok (.iload 4, 2) := by decide +kernel
theorem dX0_poorPart_108 : decode cX0_poorPart 108 = .ok (.goto 4, 3) := by decide +kernel
theorem dX0_poorPart_111 : decode cX0_poorPart 111 = .ok (.iload_n 3, 1) := by decide +kernel
theorem dX0_poorPart_112 : decode cX0_poorPart 112 = .ok (.iload 5, 2) := by decide +kernel
theorem dX0_poorPart_114 : decode cX0_poorPart 114 = .ok (.idiv, 1) := by decide +kernel
theorem dX0_poorPart_115 : decode cX0_poorPart 115 = .ok (.ireturn, 1) := by decide +kernel
def is_X0_poorPart : Nat → List Nat := fun d => if d = 8 then [0, 1, 2, 3, 4, 5] else if d = 75 then [2, 3, 4, 5] else []
set_option maxRecDepth 100000 in
def b_X0_poorPart_112 (J : Nat → List qV → List qV → qW → Prop) (Q : qR) : qK := x_iload 5 (x_idiv (x_iret Q))
set_option maxRecDepth 100000 in
theorem s_X0_poorPart_112 {p : Program} {l : Launch} {e : Env} {R : Room} {s : State} {m : MethodId} {args : Array Value} {below : List Frame} {meth : Method} {c : Code} {nW : Nat} {dC : Nat → ClassId} {dI : Nat → Nat → Nat} {k : Nat → ClassId} {g : Nat → Nat} {A : Nat → Prop} {J : Nat → List qV → List qV → qW → Prop} {Q : qR} (X : q_X p R s m args meth c cX0_poorPart 6 nW 1 21 RX0 (some .int) dC dI k g A) (hJ : ∀ d : Nat, q_Sd p l e R s m args below meth c 6 nW dC dI k g A (MQ below (q_post (dC, dI) k g nW Q A) args s 0 0 A) d (x_cut (is_X0_poorPart d) (J d))) : q_Sd p l e R s m args below meth c 6 nW dC dI k g A (MQ below (q_post (dC, dI) k g nW Q A) args s 0 0 A) 112 (b_X0_poorPart_112 J Q) := by
  unfold b_X0_poorPart_112
  refine s_iload X dX0_poorPart_112 ?_
  refine s_idiv X dX0_poorPart_114 ?_
  exact s_iret X dX0_poorPart_115
set_option maxRecDepth 100000 in
def b_X0_poorPart_102 (J : Nat → List qV → List qV → qW → Prop) (Q : qR) : qK := x_iload 2 (x_if_eq (x_iload 3 (b_X0_poorPart_112 J Q)) (x_iload 4 (b_X0_poorPart_112 J Q)))
set_option maxRecDepth 100000 in
theorem s_X0_poorPart_102 {p : Program} {l : Launch} {e : Env} {R : Room} {s : State} {m : MethodId} {args : Array Value} {below : List Frame} {meth : Method} {c : Code} {nW : Nat} {dC : Nat → ClassId} {dI : Nat → Nat → Nat} {k : Nat → ClassId} {g : Nat → Nat} {A : Nat → Prop} {J : Nat → List qV → List qV → qW → Prop} {Q : qR} (X : q_X p R s m args meth c cX0_poorPart 6 nW 1 21 RX0 (some .int) dC dI k g A) (hJ : ∀ d : Nat, q_Sd p l e R s m args below meth c 6 nW dC dI k g A (MQ below (q_post (dC, dI) k g nW Q A) args s 0 0 A) d (x_cut (is_X0_poorPart d) (J d))) : q_Sd p l e R s m args below meth c 6 nW dC dI k g A (MQ below (q_post (dC, dI) k g nW Q A) args s 0 0 A) 102 (b_X0_poorPart_102 J Q) := by
  unfold b_X0_poorPart_102
  refine s_iload_n X rfl dX0_poorPart_102 ?_
  refine s_if_eq X (tgt := 111) dX0_poorPart_103 (by decide) ?_ ?_
  · refine s_iload_n X rfl dX0_poorPart_111 ?_
    exact s_X0_poorPart_112 X hJ
  · refine s_iload X dX0_poorPart_106 ?_
    refine s_goto X (tgt := 112) dX0_poorPart_108 (by decide) ?_
    exact s_X0_poorPart_112 X hJ
set_option maxRecDepth 100000 in
def b_X0_poorPart_96 (J : Nat → List qV → List qV → qW → Prop) (Q : qR) : qK := x_iinc 5 (-1) (x_cut [2, 3, 4, 5] (J 75))
set_option maxRecDepth 100000 in
theorem s_X0_poorPart_96 {p : Program} {l : Launch} {e : Env} {R : Room} {s : State} {m : MethodId} {args : Array Value} {below : List Frame} {meth : Method} {c : Code} {nW : Nat} {dC : Nat → ClassId} {dI : Nat → Nat → Nat} {k : Nat → ClassId} {g : Nat → Nat} {A : Nat → Prop} {J : Nat → List qV → List qV → qW → Prop} {Q : qR} (X : q_X p R s m args meth c cX0_poorPart 6 nW 1 21 RX0 (some .int) dC dI k g A) (hJ : ∀ d : Nat, q_Sd p l e R s m args below meth c 6 nW dC dI k g A (MQ below (q_post (dC, dI) k g nW Q A) args s 0 0 A) d (x_cut (is_X0_poorPart d) (J d))) : q_Sd p l e R s m args below meth c 6 nW dC dI k g A (MQ below (q_post (dC, dI) k g nW Q A) args s 0 0 A) 96 (b_X0_poorPart_96 J Q) := by
  unfold b_X0_poorPart_96
  refine s_iinc X (by decide) dX0_poorPart_96 ?_
  refine s_goto X (tgt := 75) dX0_poorPart_99 (by decide) ?_
  exact hJ 75
set_option maxRecDepth 100000 in
def b_X0_poorPart_75 (J : Nat → List qV → List qV → qW → Prop) (Q : qR) : qK := x_iload 5 (x_int 1 (x_icmp_le (b_X0_poorPart_102 J Q) (x_iload 3 (x_iload 5 (x_irem (x_if_ne (b_X0_poorPart_96 J Q) (x_iload 4 (x_iload 5 (x_irem (x_if_eq (b_X0_poorPart_102 J Q) (b_X0_poorPart_96 J Q)))))))))))
set_option maxRecDepth 100000 in
theorem s_X0_poorPart_75 {p : Program} {l : Launch} {e : Env} {R : Room} {s : State} {m : MethodId} {args : Array Value} {below : List Frame} {meth : Method} {c : Code} {nW : Nat} {dC : Nat → ClassId} {dI : Nat → Nat → Nat} {k : Nat → ClassId} {g : Nat → Nat} {A : Nat → Prop} {J : Nat → List qV → List qV → qW → Prop} {Q : qR} (X : q_X p R s m args meth c cX0_poorPart 6 nW 1 21 RX0 (some .int) dC dI k g A) (hJ : ∀ d : Nat, q_Sd p l e R s m args below meth c 6 nW dC dI k g A (MQ below (q_post (dC, dI) k g nW Q A) args s 0 0 A) d (x_cut (is_X0_poorPart d) (J d))) : q_Sd p l e R s m args below meth c 6 nW dC dI k g A (MQ below (q_post (dC, dI) k g nW Q A) args s 0 0 A) 75 (b_X0_poorPart_75 J Q) := by
  unfold b_X0_poorPart_75
  refine s_iload X dX0_poorPart_75 ?_
  refine s_iconst X ⟨by decide, by decide⟩ dX0_poorPart_77 ?_
  refine s_icmp_le X (tgt := 102) dX0_poorPart_78 (by decide) ?_ ?_
  · exact s_X0_poorPart_102 X hJ
  · refine s_iload_n X rfl dX0_poorPart_81 ?_
    refine s_iload X dX0_poorPart_82 ?_
    refine s_irem X dX0_poorPart_84 ?_
    refine s_if_ne X (tgt := 96) dX0_poorPart_85 (by decide) ?_ ?_
    · exact s_X0_poorPart_96 X hJ
    · refine s_iload X dX0_poorPart_88 ?_
      refine s_iload X dX0_poorPart_90 ?_
      refine s_irem X dX0_poorPart_92 ?_
      refine s_if_eq X (tgt := 102) dX0_poorPart_93 (by decide) ?_ ?_
      · exact s_X0_poorPart_102 X hJ
      · exact s_X0_poorPart_96 X hJ
set_option maxRecDepth 100000 in
def b_X0_poorPart_70 (J : Nat → List qV → List qV → qW → Prop) (Q : qR) : qK := x_iret Q
set_option maxRecDepth 100000 in
theorem s_X0_poorPart_70 {p : Program} {l : Launch} {e : Env} {R : Room} {s : State} {m : MethodId} {args : Array Value} {below : List Frame} {meth : Method} {c : Code} {nW : Nat} {dC : Nat → ClassId} {dI : Nat → Nat → Nat} {k : Nat → ClassId} {g : Nat → Nat} {A : Nat → Prop} {J : Nat → List qV → List qV → qW → Prop} {Q : qR} (X : q_X p R s m args meth c cX0_poorPart 6 nW 1 21 RX0 (some .int) dC dI k g A) (hJ : ∀ d : Nat, q_Sd p l e R s m args below meth c 6 nW dC dI k g A (MQ below (q_post (dC, dI) k g nW Q A) args s 0 0 A) d (x_cut (is_X0_poorPart d) (J d))) : q_Sd p l e R s m args below meth c 6 nW dC dI k g A (MQ below (q_post (dC, dI) k g nW Q A) args s 0 0 A) 70 (b_X0_poorPart_70 J Q) := by
  unfold b_X0_poorPart_70
  exact s_iret X dX0_poorPart_70
set_option maxRecDepth 100000 in
def b_X0_poorPart_50 (J : Nat → List qV → List qV → qW → Prop) (Q : qR) : qK := x_iinc 5 1 (x_cut [0, 1, 2, 3, 4, 5] (J 8))
set_option maxRecDepth 100000 in
theorem s_X0_poorPart_50 {p : Program} {l : Launch} {e : Env} {R : Room} {s : State} {m : MethodId} {args : Array Value} {below : List Frame} {meth : Method} {c : Code} {nW : Nat} {dC : Nat → ClassId} {dI : Nat → Nat → Nat} {k : Nat → ClassId} {g : Nat → Nat} {A : Nat → Prop} {J : Nat → List qV → List qV → qW → Prop} {Q : qR} (X : q_X p R s m args meth c cX0_poorPart 6 nW 1 21 RX0 (some .int) dC dI k g A) (hJ : ∀ d : Nat, q_Sd p l e R s m args below meth c 6 nW dC dI k g A (MQ below (q_post (dC, dI) k g nW Q A) args s 0 0 A) d (x_cut (is_X0_poorPart d) (J d))) : q_Sd p l e R s m args below meth c 6 nW dC dI k g A (MQ below (q_post (dC, dI) k g nW Q A) args s 0 0 A) 50 (b_X0_poorPart_50 J Q) := by
  unfold b_X0_poorPart_50
  refine s_iinc X (by decide) dX0_poorPart_50 ?_
  refine s_goto X (tgt := 8) dX0_poorPart_53 (by decide) ?_
  exact hJ 8
set_option maxRecDepth 100000 in
def b_X0_poorPart_47 (J : Nat → List qV → List qV → qW → Prop) (Q : qR) : qK := x_iadd (x_istore 4 (b_X0_poorPart_50 J Q))
set_option maxRecDepth 100000 in
theorem s_X0_poorPart_47 {p : Program} {l : Launch} {e : Env} {R : Room} {s : State} {m : MethodId} {args : Array Value} {below : List Frame} {meth : Method} {c : Code} {nW : Nat} {dC : Nat → ClassId} {dI : Nat → Nat → Nat} {k : Nat → ClassId} {g : Nat → Nat} {A : Nat → Prop} {J : Nat → List qV → List qV → qW → Prop} {Q : qR} (X : q_X p R s m args meth c cX0_poorPart 6 nW 1 21 RX0 (some .int) dC dI k g A) (hJ : ∀ d : Nat, q_Sd p l e R s m args below meth c 6 nW dC dI k g A (MQ below (q_post (dC, dI) k g nW Q A) args s 0 0 A) d (x_cut (is_X0_poorPart d) (J d))) : q_Sd p l e R s m args below meth c 6 nW dC dI k g A (MQ below (q_post (dC, dI) k g nW Q A) args s 0 0 A) 47 (b_X0_poorPart_47 J Q) := by
  unfold b_X0_poorPart_47
  refine s_iadd X dX0_poorPart_47 ?_
  refine s_istore X (by decide) dX0_poorPart_48 ?_
  exact s_X0_poorPart_50 X hJ
set_option maxRecDepth 100000 in
def b_X0_poorPart_8 (J : Nat → List qV → List qV → qW → Prop) (Q : qR) : qK := x_iload 5 (x_aload 0 (x_get 0 7 (x_icmp_ge (x_iload 4 (x_if_ne (x_iload 4 (x_istore 5 (x_cut [2, 3, 4, 5] (J 75)))) (x_iload 2 (x_if_eq (x_int 1 (b_X0_poorPart_70 J Q)) (x_int 0 (b_X0_poorPart_70 J Q)))))) (x_aload 0 (x_get 0 0 (x_iload 5 (x_iald (x_iload 1 (x_icmp_gt (b_X0_poorPart_50 J Q) (x_iinc 3 1 (x_iload 4 (x_aload 0 (x_iload 5 (x_callr (some 0) 2 spr_X0_isPoor (x_if_eq (x_int 0 (b_X0_poorPart_47 J Q)) (x_int 1 (b_X0_poorPart_47 J Q)))))))))))))))))
set_option maxRecDepth 100000 in
theorem s_X0_poorPart_8 {p : Program} {l : Launch} {e : Env} {R : Room} {s : State} {m : MethodId} {args : Array Value} {below : List Frame} {meth : Method} {c : Code} {nW : Nat} {dC : Nat → ClassId} {dI : Nat → Nat → Nat} {k : Nat → ClassId} {g : Nat → Nat} {A : Nat → Prop} {J : Nat → List qV → List qV → qW → Prop} {Q : qR} (X : q_X p R s m args meth c cX0_poorPart 6 nW 1 21 RX0 (some .int) dC dI k g A) (hJ : ∀ d : Nat, q_Sd p l e R s m args below meth c 6 nW dC dI k g A (MQ below (q_post (dC, dI) k g nW Q A) args s 0 0 A) d (x_cut (is_X0_poorPart d) (J d))) : q_Sd p l e R s m args below meth c 6 nW dC dI k g A (MQ below (q_post (dC, dI) k g nW Q A) args s 0 0 A) 8 (b_X0_poorPart_8 J Q) := by
  unfold b_X0_poorPart_8
  refine s_iload X dX0_poorPart_8 ?_
  refine s_aload_n X rfl dX0_poorPart_10 ?_
  refine s_get X (T := TX0) (C := RX0) (N := 12) tu_X0 rfl (by decide) tw_193 dX0_poorPart_11 ?_
  refine s_icmp_ge X (tgt := 56) dX0_poorPart_14 (by decide) ?_ ?_
  · refine s_iload X dX0_poorPart_56 ?_
    refine s_if_ne X (tgt := 71) dX0_poorPart_58 (by decide) ?_ ?_
    · refine s_iload X dX0_poorPart_71 ?_
      refine s_istore X (by decide) dX0_poorPart_73 ?_
      exact hJ 75
    · refine s_iload_n X rfl dX0_poorPart_61 ?_
      refine s_if_eq X (tgt := 69) dX0_poorPart_62 (by decide) ?_ ?_
      · refine s_iconst X ⟨by decide, by decide⟩ dX0_poorPart_69 ?_
        exact s_X0_poorPart_70 X hJ
      · refine s_iconst X ⟨by decide, by decide⟩ dX0_poorPart_65 ?_
        refine s_goto X (tgt := 70) dX0_poorPart_66 (by decide) ?_
        exact s_X0_poorPart_70 X hJ
  · refine s_aload_n X rfl dX0_poorPart_17 ?_
    refine s_get X (T := TX0) (C := RX0) (N := 12) tu_X0 rfl (by decide) tw_164 dX0_poorPart_18 ?_
    refine s_iload X dX0_poorPart_21 ?_
    refine s_iald X dX0_poorPart_23 ?_
    refine s_iload_n X rfl dX0_poorPart_24 ?_
    refine s_icmp_gt X (tgt := 50) dX0_poorPart_25 (by decide) ?_ ?_
    · exact s_X0_poorPart_50 X hJ
    · refine s_iinc X (by decide) dX0_poorPart_28 ?_
      refine s_iload X dX0_poorPart_31 ?_
      refine s_aload_n X rfl dX0_poorPart_33 ?_
      refine s_iload X dX0_poorPart_34 ?_
      refine s_callVr X (m_X0_isPoor l) tw_959 tw_593 tw_594 tw_122 tw_595 rfl (by decide +kernel) ⟨by decide, by decide⟩ dX0_poorPart_36 ?_
      refine s_if_eq X (tgt := 46) dX0_poorPart_39 (by decide) ?_ ?_
      · refine s_iconst X ⟨by decide, by decide⟩ dX0_poorPart_46 ?_
        exact s_X0_poorPart_47 X hJ
      · refine s_iconst X ⟨by decide, by decide⟩ dX0_poorPart_42 ?_
        refine s_goto X (tgt := 47) dX0_poorPart_43 (by decide) ?_
        exact s_X0_poorPart_47 X hJ
set_option maxRecDepth 100000 in
def b_X0_poorPart_0 (J : Nat → List qV → List qV → qW → Prop) (Q : qR) : qK := x_int 0 (x_istore 3 (x_int 0 (x_istore 4 (x_int 0 (x_istore 5 (x_cut [0, 1, 2, 3, 4, 5] (J 8)))))))
set_option maxRecDepth 100000 in
theorem s_X0_poorPart_0 {p : Program} {l : Launch} {e : Env} {R : Room} {s : State} {m : MethodId} {args : Array Value} {below : List Frame} {meth : Method} {c : Code} {nW : Nat} {dC : Nat → ClassId} {dI : Nat → Nat → Nat} {k : Nat → ClassId} {g : Nat → Nat} {A : Nat → Prop} {J : Nat → List qV → List qV → qW → Prop} {Q : qR} (X : q_X p R s m args meth c cX0_poorPart 6 nW 1 21 RX0 (some .int) dC dI k g A) (hJ : ∀ d : Nat, q_Sd p l e R s m args below meth c 6 nW dC dI k g A (MQ below (q_post (dC, dI) k g nW Q A) args s 0 0 A) d (x_cut (is_X0_poorPart d) (J d))) : q_Sd p l e R s m args below meth c 6 nW dC dI k g A (MQ below (q_post (dC, dI) k g nW Q A) args s 0 0 A) 0 (b_X0_poorPart_0 J Q) := by
  unfold b_X0_poorPart_0
  refine s_iconst X ⟨by decide, by decide⟩ dX0_poorPart_0 ?_
  refine s_istore_n X rfl (by decide) dX0_poorPart_1 ?_
  refine s_iconst X ⟨by decide, by decide⟩ dX0_poorPart_2 ?_
  refine s_istore X (by decide) dX0_poorPart_3 ?_
  refine s_iconst X ⟨by decide, by decide⟩ dX0_poorPart_5 ?_
  refine s_istore X (by decide) dX0_poorPart_6 ?_
  exact hJ 8

def spr_X0_poorPart : List qV → qW → (Option qV → Prop) → Prop := fun av w Q => ∃ (f1 : Nat → Int) (f2 : Nat → Int) (f3 : Nat → Int) (f4 : Nat → Int) (f5 : Nat → Int) (f6 : Nat → Int) (f7 : Nat → Int) (u0 : Int) (u1 : Int) (u2 : Int) (u3 : Int) (u4 : Int) (a : Int) (b : Int), av = [q2 0, q1 a, q1 b] ∧ w = wB f1 f2 f3 f4 f5 f6 f7 u0 u1 u2 u3 u4 ∧ (0 ≤ u0 ∧ u0 ≤ 8) ∧ (b = 0 ∨ b = 1) ∧ (∀ (r : Int) , Q (some (q1 r)))
def sp_X0_poorPart : qS := fun av w Q => spr_X0_poorPart av w (fun r => Q r w)
def I_X0_poorPart (f1 : Nat → Int) (f2 : Nat → Int) (f3 : Nat → Int) (f4 : Nat → Int) (f5 : Nat → Int) (f6 : Nat → Int) (f7 : Nat → Int) (u0 : Int) (u1 : Int) (u2 : Int) (u3 : Int) (u4 : Int) (a : Int) (b : Int) : Nat → Nat → List qV → List qV → qW → Prop := fun dz mz vz sz wz => if dz = 8 then (∃ (v3 : Int) (v4 : Int) (v5 : Int), vz = [q2 0, q1 a, q1 b, q1 v3, q1 v4, q1 v5] ∧ sz = [] ∧ wz = wB f1 f2 f3 f4 f5 f6 f7 u0 u1 u2 u3 u4 ∧ mz = 100 + (u0 - v5).toNat ∧ (0 ≤ v5 ∧ v5 ≤ u0) ∧ (0 ≤ v4 ∧ v4 ≤ v5) ∧ (0 ≤ v3 ∧ v3 ≤ v5)) else if dz = 75 then (∃ (v3 : Int) (v4 : Int) (v5 : Int), vz = [q1 b, q1 v3, q1 v4, q1 v5] ∧ sz = [] ∧ wz = wB f1 f2 f3 f4 f5 f6 f7 u0 u1 u2 u3 u4 ∧ mz = v5.toNat ∧ (1 ≤ v5 ∧ v5 ≤ 8) ∧ (0 ≤ v4 ∧ v4 ≤ 8 ∧ 0 ≤ v3 ∧ v3 ≤ 8)) else False
set_option maxHeartbeats 4000000 in
set_option maxRecDepth 100000 in
theorem m_X0_poorPart (l : Launch) : q_M l yX0_poorPart cX0_poorPart 6 (some .int) 1 21 sp_X0_poorPart := by
  refine q_meth (by decide) (fun av w Q h => by obtain ⟨f1, f2, f3, f4, f5, f6, f7, u0, u1, u2, u3, u4, a, b, rfl, rfl, hu0, hb, hQ⟩ := h; exact Nat.le_of_ble_eq_true rfl) ?_
  intro p e R s m args below meth c dC dI k g A av w Q hsp oka okw X
  obtain ⟨f1, f2, f3, f4, f5, f6, f7, u0, u1, u2, u3, u4, a, b, rfl, rfl, hu0, hb, hQ⟩ := hsp
  have o_a : -2147483648 ≤ a ∧ a ≤ 2147483647 := oka _ (List.mem_of_getElem? (i := 1) rfl)
  have o_b : -2147483648 ≤ b ∧ b ≤ 2147483647 := oka _ (List.mem_of_getElem? (i := 2) rfl)
  refine s_mono (s_X0_poorPart_0 X (J := fun dz vz sz wz => ∃ mz, I_X0_poorPart f1 f2 f3 f4 f5 f6 f7 u0 u1 u2 u3 u4 a b dz mz vz sz wz) (q_loopn (I_X0_poorPart f1 f2 f3 f4 f5 f6 f7 u0 u1 u2 u3 u4 a b) (fun dz J => if dz = 8 then b_X0_poorPart_8 J Q else if dz = 75 then b_X0_poorPart_75 J Q else q_F) ?hs ?hv)) ?_
  case hs =>
    intro d J hJ
    by_cases h8 : d = 8
    · subst h8; exact s_X0_poorPart_8 X hJ
    by_cases h75 : d = 75
    · subst h75; exact s_X0_poorPart_75 X hJ
    simp only [h8, h75, if_false]
    exact s_F
  case hv =>
    intro dz mz vz sz wz hI okv oks okw hlen
    by_cases h8 : dz = 8
    · subst h8
      obtain ⟨v3, v4, v5, rfl, rfl, rfl, hn, hp, hl, hm⟩ := hI
      apply And.intro
      · intro h14
        apply And.intro
        · intro h58
          exact ⟨_, ⟨_, _, _, rfl, rfl, rfl, rfl, (by first | omega | assumption | exact q_rg_up (by assumption) (by omega) | exact q_rg_up (q_rg_up (by assumption) (by omega)) (by omega) | exact q_rg_cpy (by assumption) (by assumption)), (by first | omega | assumption | exact q_rg_up (by assumption) (by omega) | exact q_rg_up (q_rg_up (by assumption) (by omega)) (by omega) | exact q_rg_cpy (by assumption) (by assumption))⟩, by omega⟩
        · intro h58
          apply And.intro
          · intro h62
            exact hQ _
          · intro h62
            exact hQ _
      · intro h14
        apply And.intro
        · exact ⟨by omega, by omega⟩
        intro z23 h23
        apply And.intro
        · intro h25
          intro z50 h50
          first | replace h50 := e_add h50 (by omega) | replace h50 := e_rng h50
          exact ⟨_, ⟨_, _, _, rfl, rfl, rfl, rfl, (by first | omega | assumption | exact q_rg_up (by assumption) (by omega) | exact q_rg_up (q_rg_up (by assumption) (by omega)) (by omega) | exact q_rg_cpy (by assumption) (by assumption)), (by first | omega | assumption | exact q_rg_up (by assumption) (by omega) | exact q_rg_up (q_rg_up (by assumption) (by omega)) (by omega) | exact q_rg_cpy (by assumption) (by assumption)), (by first | omega | assumption | exact q_rg_up (by assumption) (by omega) | exact q_rg_up (q_rg_up (by assumption) (by omega)) (by omega) | exact q_rg_cpy (by assumption) (by assumption))⟩, by omega⟩
        · intro h25
          intro z28 h28
          first | replace h28 := e_add h28 (by omega) | replace h28 := e_rng h28
          refine Exists.intro [0, 1, 2, 3, 4, 5, 6, 7] (Exists.intro [q2 0, q1 _] (Exists.intro (wB _ _ _ _ _ _ _ _ _ _ _ _) (And.intro rfl (And.intro rfl (And.intro rfl (And.intro ⟨⟨_, rfl⟩, rfl⟩ ?_))))))
          refine Exists.intro _ (Exists.intro _ (Exists.intro _ (Exists.intro _ (Exists.intro _ (Exists.intro _ (Exists.intro _ (Exists.intro _ (Exists.intro _ (Exists.intro _ (Exists.intro _ (Exists.intro _ (Exists.intro _ (And.intro rfl (And.intro rfl (?_)))))))))))))))
          intro z36 h36
          apply And.intro
          · intro h39
            intro z47 h47
            first | replace h47 := e_add h47 (by omega) | replace h47 := e_rng h47
            intro z50 h50
            first | replace h50 := e_add h50 (by omega) | replace h50 := e_rng h50
            exact ⟨_, ⟨_, _, _, rfl, rfl, rfl, rfl, (by first | omega | assumption | exact q_rg_up (by assumption) (by omega) | exact q_rg_up (q_rg_up (by assumption) (by omega)) (by omega) | exact q_rg_cpy (by assumption) (by assumption)), (by first | omega | assumption | exact q_rg_up (by assumption) (by omega) | exact q_rg_up (q_rg_up (by assumption) (by omega)) (by omega) | exact q_rg_cpy (by assumption) (by assumption)), (by first | omega | assumption | exact q_rg_up (by assumption) (by omega) | exact q_rg_up (q_rg_up (by assumption) (by omega)) (by omega) | exact q_rg_cpy (by assumption) (by assumption))⟩, by omega⟩
          · intro h39
            intro z47 h47
            first | replace h47 := e_add h47 (by omega) | replace h47 := e_rng h47
            intro z50 h50
            first | replace h50 := e_add h50 (by omega) | replace h50 := e_rng h50
            exact ⟨_, ⟨_, _, _, rfl, rfl, rfl, rfl, (by first | omega | assumption | exact q_rg_up (by assumption) (by omega) | exact q_rg_up (q_rg_up (by assumption) (by omega)) (by omega) | exact q_rg_cpy (by assumption) (by assumption)), (by first | omega | assumption | exact q_rg_up (by assumption) (by omega) | exact q_rg_up (q_rg_up (by assumption) (by omega)) (by omega) | exact q_rg_cpy (by assumption) (by assumption)), (by first | omega | assumption | exact q_rg_up (by assumption) (by omega) | exact q_rg_up (q_rg_up (by assumption) (by omega)) (by omega) | exact q_rg_cpy (by assumption) (by assumption))⟩, by omega⟩
    by_cases h75 : dz = 75
    · subst h75
      obtain ⟨v3, v4, v5, rfl, rfl, rfl, hn, hd, hl⟩ := hI
      apply And.intro
      · intro h78
        apply And.intro
        · intro h103
          apply And.intro
          · first | omega | (intro e9; omega)
          intro z114 h114
          first | replace h114 := e_div h114 (by omega) (by omega) | replace h114 := e_rng h114
          exact hQ _
        · intro h103
          apply And.intro
          · first | omega | (intro e9; omega)
          intro z114 h114
          first | replace h114 := e_div h114 (by omega) (by omega) | replace h114 := e_rng h114
          exact hQ _
      · intro h78
        apply And.intro
        · first | omega | (intro e9; omega)
        intro z84 h84
        first | replace h84 := e_rem h84 (by omega) (by omega) | replace h84 := e_rng h84
        apply And.intro
        · intro h85
          intro z96 h96
          first | replace h96 := e_add h96 (by omega) | replace h96 := e_rng h96
          exact ⟨_, ⟨_, _, _, rfl, rfl, rfl, rfl, (by first | omega | assumption | exact q_rg_up (by assumption) (by omega) | exact q_rg_up (q_rg_up (by assumption) (by omega)) (by omega) | exact q_rg_cpy (by assumption) (by assumption)), (by first | omega | assumption | exact q_rg_up (by assumption) (by omega) | exact q_rg_up (q_rg_up (by assumption) (by omega)) (by omega) | exact q_rg_cpy (by assumption) (by assumption))⟩, by omega⟩
        · intro h85
          apply And.intro
          · first | omega | (intro e9; omega)
          intro z92 h92
          first | replace h92 := e_rem h92 (by omega) (by omega) | replace h92 := e_rng h92
          apply And.intro
          · intro h93
            apply And.intro
            · intro h103
              apply And.intro
              · first | omega | (intro e9; omega)
              intro z114 h114
              first | replace h114 := e_div h114 (by omega) (by omega) | replace h114 := e_rng h114
              exact hQ _
            · intro h103
              apply And.intro
              · first | omega | (intro e9; omega)
              intro z114 h114
              first | replace h114 := e_div h114 (by omega) (by omega) | replace h114 := e_rng h114
              exact hQ _
          · intro h93
            intro z96 h96
            first | replace h96 := e_add h96 (by omega) | replace h96 := e_rng h96
            exact ⟨_, ⟨_, _, _, rfl, rfl, rfl, rfl, (by first | omega | assumption | exact q_rg_up (by assumption) (by omega) | exact q_rg_up (q_rg_up (by assumption) (by omega)) (by omega) | exact q_rg_cpy (by assumption) (by assumption)), (by first | omega | assumption | exact q_rg_up (by assumption) (by omega) | exact q_rg_up (q_rg_up (by assumption) (by omega)) (by omega) | exact q_rg_cpy (by assumption) (by assumption))⟩, by omega⟩
    simp only [I_X0_poorPart, h8, h75, if_false] at hI
  rintro lv st w' ⟨rfl, rfl, rfl⟩
  exact ⟨_, _, _, _, rfl, rfl, rfl, rfl, (by first | omega | assumption | exact q_rg_up (by assumption) (by omega) | exact q_rg_up (q_rg_up (by assumption) (by omega)) (by omega) | exact q_rg_cpy (by assumption) (by assumption)), (by first | omega | assumption | exact q_rg_up (by assumption) (by omega) | exact q_rg_up (q_rg_up (by assumption) (by omega)) (by omega) | exact q_rg_cpy (by assumption) (by assumption)), (by first | omega | assumption | exact q_rg_up (by assumption) (by omega) | exact q_rg_up (q_rg_up (by assumption) (by omega)) (by omega) | exact q_rg_cpy (by assumption) (by assumption))⟩

theorem dX0_wisest_0 : decode cX0_wisest 0 = .ok (.iconst 0, 1) := by decide +kernel
theorem dX0_wisest_1 : decode cX0_wisest 1 = .ok (.istore_n 1, 1) := by decide +kernel
theorem dX0_wisest_2 : decode cX0_wisest 2 = .ok (.iconst 1, 1) := by decide +kernel
theorem dX0_wisest_3 : decode cX0_wisest 3 = .ok (.istore_n 2, 1) := by decide +kernel
theorem dX0_wisest_4 : decode cX0_wisest 4 = .ok (.iload_n 2, 1) := by decide +kernel
theorem dX0_wisest_5 : decode cX0_wisest 5 = .ok (.bipush 99, 2) := by decide +kernel
theorem dX0_wisest_7 : decode cX0_wisest 7 = .ok (.if_icmp .gt 24, 3) := by decide +kernel
theorem dX0_wisest_10 : decode cX0_wisest 10 = .ok (.aload_n 0, 1) := by decide +kernel
theorem dX0_wisest_11 : decode cX0_wisest 11 = .ok (.iload_n 2, 1) := by decide +kernel
theorem dX0_wisest_12 : decode cX0_wisest 12 = .ok (.invokevirtual 105, 3) := by decide +kernel
theorem dX0_wisest_15 : decode cX0_wisest 15 = .ok (.aload_n 0, 1) := by decide +kernel
theorem dX0_wisest_16 : decode cX0_wisest 16 = .ok (.iload_n 1, 1) := by decide +kernel
theorem dX0_wisest_17 : decode cX0_wisest 17 = .ok (.invokevirtual 105, 3) := by decide +kernel
theorem dX0_wisest_20 : decode cX0_wisest 20 = .ok (.if_icmp .ge 5, 3) := by decide +kernel
theorem dX0_wisest_23 : decode cX0_wisest 23 = .ok (.iload_n 2, 1) := by decide +kernel
theorem dX0_wisest_24 : decode cX0_wisest 24 = .ok (.istore_n 1, 1) := by decide +kernel
theorem dX0_wisest_25 : decode cX0_wisest 25 = .ok (.iinc 2 1, 3) := by decide +kernel
theorem dX0_wisest_28 : decode cX0_wisest 28 = .ok (.goto (-24), 3) := by decide +kernel
theorem dX0_wisest_31 : decode cX0_wisest 31 = .ok (.iload_n 1, 1) := by decide +kernel
theorem dX0_wisest_32 : decode cX0_wisest 32 = .ok (.ireturn, 1) := by decide +kernel
def is_X0_wisest : Nat → List Nat := fun d => if d = 4 then [0, 1, 2] else []
set_option maxRecDepth 100000 in
def b_X0_wisest_25 (J : Nat → List qV → List qV → qW → Prop) (Q : qR) : qK := x_iinc 2 1 (x_cut [0, 1, 2] (J 4))
set_option maxRecDepth 100000 in
theorem s_X0_wisest_25 {p : Program} {l : Launch} {e : Env} {R : Room} {s : State} {m : MethodId} {args : Array Value} {below : List Frame} {meth : Method} {c : Code} {nW : Nat} {dC : Nat → ClassId} {dI : Nat → Nat → Nat} {k : Nat → ClassId} {g : Nat → Nat} {A : Nat → Prop} {J : Nat → List qV → List qV → qW → Prop} {Q : qR} (X : q_X p R s m args meth c cX0_wisest 3 nW 2 44 RX0 (some .int) dC dI k g A) (hJ : ∀ d : Nat, q_Sd p l e R s m args below meth c 3 nW dC dI k g A (MQ below (q_post (dC, dI) k g nW Q A) args s 0 0 A) d (x_cut (is_X0_wisest d) (J d))) : q_Sd p l e R s m args below meth c 3 nW dC dI k g A (MQ below (q_post (dC, dI) k g nW Q A) args s 0 0 A) 25 (b_X0_wisest_25 J Q) := by
  unfold b_X0_wisest_25
  refine s_iinc X (by decide) dX0_wisest_25 ?_
  refine s_goto X (tgt := 4) dX0_wisest_28 (by decide) ?_
  exact hJ 4
set_option maxRecDepth 100000 in
def b_X0_wisest_4 (J : Nat → List qV → List qV → qW → Prop) (Q : qR) : qK := x_iload 2 (x_int 99 (x_icmp_gt (x_iload 1 (x_iret Q)) (x_aload 0 (x_iload 2 (x_callr (some 0) 2 spr_X0_wrongOf (x_aload 0 (x_iload 1 (x_callr (some 0) 2 spr_X0_wrongOf (x_icmp_ge (b_X0_wisest_25 J Q) (x_iload 2 (x_istore 1 (b_X0_wisest_25 J Q))))))))))))
set_option maxRecDepth 100000 in
theorem s_X0_wisest_4 {p : Program} {l : Launch} {e : Env} {R : Room} {s : State} {m : MethodId} {args : Array Value} {below : List Frame} {meth : Method} {c : Code} {nW : Nat} {dC : Nat → ClassId} {dI : Nat → Nat → Nat} {k : Nat → ClassId} {g : Nat → Nat} {A : Nat → Prop} {J : Nat → List qV → List qV → qW → Prop} {Q : qR} (X : q_X p R s m args meth c cX0_wisest 3 nW 2 44 RX0 (some .int) dC dI k g A) (hJ : ∀ d : Nat, q_Sd p l e R s m args below meth c 3 nW dC dI k g A (MQ below (q_post (dC, dI) k g nW Q A) args s 0 0 A) d (x_cut (is_X0_wisest d) (J d))) : q_Sd p l e R s m args below meth c 3 nW dC dI k g A (MQ below (q_post (dC, dI) k g nW Q A) args s 0 0 A) 4 (b_X0_wisest_4 J Q) := by
  unfold b_X0_wisest_4
  refine s_iload_n X rfl dX0_wisest_4 ?_
  refine s_bipush X ⟨by decide, by decide⟩ (by decide) dX0_wisest_5 ?_
  refine s_icmp_gt X (tgt := 31) dX0_wisest_7 (by decide) ?_ ?_
  · refine s_iload_n X rfl dX0_wisest_31 ?_
    exact s_iret X dX0_wisest_32
  · refine s_aload_n X rfl dX0_wisest_10 ?_
    refine s_iload_n X rfl dX0_wisest_11 ?_
    refine s_callVr X (m_X0_wrongOf l) tw_955 tw_956 tw_957 tw_122 tw_958 rfl (by decide +kernel) ⟨by decide, by decide⟩ dX0_wisest_12 ?_
    refine s_aload_n X rfl dX0_wisest_15 ?_
    refine s_iload_n X rfl dX0_wisest_16 ?_
    refine s_callVr X (m_X0_wrongOf l) tw_955 tw_956 tw_957 tw_122 tw_958 rfl (by decide +kernel) ⟨by decide, by decide⟩ dX0_wisest_17 ?_
    refine s_icmp_ge X (tgt := 25) dX0_wisest_20 (by decide) ?_ ?_
    · exact s_X0_wisest_25 X hJ
    · refine s_iload_n X rfl dX0_wisest_23 ?_
      refine s_istore_n X rfl (by decide) dX0_wisest_24 ?_
      exact s_X0_wisest_25 X hJ
set_option maxRecDepth 100000 in
def b_X0_wisest_0 (J : Nat → List qV → List qV → qW → Prop) (Q : qR) : qK := x_int 0 (x_istore 1 (x_int 1 (x_istore 2 (x_cut [0, 1, 2] (J 4)))))
set_option maxRecDepth 100000 in
theorem s_X0_wisest_0 {p : Program} {l : Launch} {e : Env} {R : Room} {s : State} {m : MethodId} {args : Array Value} {below : List Frame} {meth : Method} {c : Code} {nW : Nat} {dC : Nat → ClassId} {dI : Nat → Nat → Nat} {k : Nat → ClassId} {g : Nat → Nat} {A : Nat → Prop} {J : Nat → List qV → List qV → qW → Prop} {Q : qR} (X : q_X p R s m args meth c cX0_wisest 3 nW 2 44 RX0 (some .int) dC dI k g A) (hJ : ∀ d : Nat, q_Sd p l e R s m args below meth c 3 nW dC dI k g A (MQ below (q_post (dC, dI) k g nW Q A) args s 0 0 A) d (x_cut (is_X0_wisest d) (J d))) : q_Sd p l e R s m args below meth c 3 nW dC dI k g A (MQ below (q_post (dC, dI) k g nW Q A) args s 0 0 A) 0 (b_X0_wisest_0 J Q) := by
  unfold b_X0_wisest_0
  refine s_iconst X ⟨by decide, by decide⟩ dX0_wisest_0 ?_
  refine s_istore_n X rfl (by decide) dX0_wisest_1 ?_
  refine s_iconst X ⟨by decide, by decide⟩ dX0_wisest_2 ?_
  refine s_istore_n X rfl (by decide) dX0_wisest_3 ?_
  exact hJ 4

def spr_X0_wisest : List qV → qW → (Option qV → Prop) → Prop := fun av w Q => ∃ (f1 : Nat → Int) (f2 : Nat → Int) (f3 : Nat → Int) (f4 : Nat → Int) (f5 : Nat → Int) (f6 : Nat → Int) (f7 : Nat → Int) (u0 : Int) (u1 : Int) (u2 : Int) (u3 : Int) (u4 : Int), av = [q2 0] ∧ w = wB f1 f2 f3 f4 f5 f6 f7 u0 u1 u2 u3 u4 ∧ (0 ≤ u0 ∧ u0 ≤ 8) ∧ (∀ (r : Int) , Q (some (q1 r)))
def sp_X0_wisest : qS := fun av w Q => spr_X0_wisest av w (fun r => Q r w)
def I_X0_wisest (f1 : Nat → Int) (f2 : Nat → Int) (f3 : Nat → Int) (f4 : Nat → Int) (f5 : Nat → Int) (f6 : Nat → Int) (f7 : Nat → Int) (u0 : Int) (u1 : Int) (u2 : Int) (u3 : Int) (u4 : Int) : Nat → Nat → List qV → List qV → qW → Prop := fun dz mz vz sz wz => if dz = 4 then (∃ (v1 : Int) (v2 : Int), vz = [q2 0, q1 v1, q1 v2] ∧ sz = [] ∧ wz = wB f1 f2 f3 f4 f5 f6 f7 u0 u1 u2 u3 u4 ∧ mz = (100 - v2).toNat ∧ (1 ≤ v2 ∧ v2 ≤ 100)) else False
set_option maxHeartbeats 4000000 in
set_option maxRecDepth 100000 in
theorem m_X0_wisest (l : Launch) : q_M l yX0_wisest cX0_wisest 3 (some .int) 2 44 sp_X0_wisest := by
  refine q_meth (by decide) (fun av w Q h => by obtain ⟨f1, f2, f3, f4, f5, f6, f7, u0, u1, u2, u3, u4, rfl, rfl, hu0, hQ⟩ := h; exact Nat.le_of_ble_eq_true rfl) ?_
  intro p e R s m args below meth c dC dI k g A av w Q hsp oka okw X
  obtain ⟨f1, f2, f3, f4, f5, f6, f7, u0, u1, u2, u3, u4, rfl, rfl, hu0, hQ⟩ := hsp
  refine s_mono (s_X0_wisest_0 X (J := fun dz vz sz wz => ∃ mz, I_X0_wisest f1 f2 f3 f4 f5 f6 f7 u0 u1 u2 u3 u4 dz mz vz sz wz) (q_loopn (I_X0_wisest f1 f2 f3 f4 f5 f6 f7 u0 u1 u2 u3 u4) (fun dz J => if dz = 4 then b_X0_wisest_4 J Q else q_F) ?hs ?hv)) ?_
  case hs =>
    intro d J hJ
    by_cases h4 : d = 4
    · subst h4; exact s_X0_wisest_4 X hJ
    simp only [h4, if_false]
    exact s_F
  case hv =>
    intro dz mz vz sz wz hI okv oks okw hlen
    by_cases h4 : dz = 4
    · subst h4
      obtain ⟨v1, v2, rfl, rfl, rfl, hn, hp⟩ := hI
      apply And.intro
      · intro h7
        exact hQ _
      · intro h7
        refine Exists.intro [0, 1, 2, 3, 4, 5, 6, 7] (Exists.intro [q2 0, q1 _] (Exists.intro (wB _ _ _ _ _ _ _ _ _ _ _ _) (And.intro rfl (And.intro rfl (And.intro rfl (And.intro ⟨⟨_, rfl⟩, rfl⟩ ?_))))))
        refine Exists.intro _ (Exists.intro _ (Exists.intro _ (Exists.intro _ (Exists.intro _ (Exists.intro _ (Exists.intro _ (Exists.intro _ (Exists.intro _ (Exists.intro _ (Exists.intro _ (Exists.intro _ (Exists.intro _ (And.intro rfl (And.intro rfl (And.intro (by first | omega | assumption | exact q_rg_up (by assumption) (by omega) | exact q_rg_up (q_rg_up (by assumption) (by omega)) (by omega) | exact q_rg_cpy (by assumption) (by assumption)) (?_))))))))))))))))
        intro z12
        refine Exists.intro [0, 1, 2, 3, 4, 5, 6, 7] (Exists.intro [q2 0, q1 _] (Exists.intro (wB _ _ _ _ _ _ _ _ _ _ _ _) (And.intro rfl (And.intro rfl (And.intro rfl (And.intro ⟨⟨_, rfl⟩, rfl⟩ ?_))))))
        refine Exists.intro _ (Exists.intro _ (Exists.intro _ (Exists.intro _ (Exists.intro _ (Exists.intro _ (Exists.intro _ (Exists.intro _ (Exists.intro _ (Exists.intro _ (Exists.intro _ (Exists.intro _ (Exists.intro _ (And.intro rfl (And.intro rfl (And.intro (by first | omega | assumption | exact q_rg_up (by assumption) (by omega) | exact q_rg_up (q_rg_up (by assumption) (by omega)) (by omega) | exact q_rg_cpy (by assumption) (by assumption)) (?_))))))))))))))))
        intro z17
        apply And.intro
        · intro h20
          intro z25 h25
          first | replace h25 := e_add h25 (by omega) | replace h25 := e_rng h25
          exact ⟨_, ⟨_, _, rfl, rfl, rfl, rfl, (by first | omega | assumption | exact q_rg_up (by assumption) (by omega) | exact q_rg_up (q_rg_up (by assumption) (by omega)) (by omega) | exact q_rg_cpy (by assumption) (by assumption))⟩, by omega⟩
        · intro h20
          intro z25 h25
          first | replace h25 := e_add h25 (by omega) | replace h25 := e_rng h25
          exact ⟨_, ⟨_, _, rfl, rfl, rfl, rfl, (by first | omega | assumption | exact q_rg_up (by assumption) (by omega) | exact q_rg_up (q_rg_up (by assumption) (by omega)) (by omega) | exact q_rg_cpy (by assumption) (by assumption))⟩, by omega⟩
    simp only [I_X0_wisest, h4, if_false] at hI
  rintro lv st w' ⟨rfl, rfl, rfl⟩
  exact ⟨_, _, _, rfl, rfl, rfl, rfl, (by first | omega | assumption | exact q_rg_up (by assumption) (by omega) | exact q_rg_up (q_rg_up (by assumption) (by omega)) (by omega) | exact q_rg_cpy (by assumption) (by assumption))⟩
