theorem dX9_mostGroups_0 : decode cX9_mostGroups 0 = .ok (.iconst 0, 1) := by decide +kernel
theorem dX9_mostGroups_1 : decode cX9_mostGroups 1 = .ok (.istore_n 3, 1) := by decide +kernel
theorem dX9_mostGroups_2 : decode cX9_mostGroups 2 = .ok (.iconst 0, 1) := by decide +kernel
theorem dX9_mostGroups_3 : decode cX9_mostGroups 3 = .ok (.istore 4, 2) := by decide +kernel
theorem dX9_mostGroups_5 : decode cX9_mostGroups 5 = .ok (.iload 4, 2) := by decide +kernel
theorem dX9_mostGroups_7 : decode cX9_mostGroups 7 = .ok (.iload_n 2, 1) := by decide +kernel
theorem dX9_mostGroups_8 : decode cX9_mostGroups 8 = .ok (.if_icmp .ge 34, 3) := by decide +kernel
theorem dX9_mostGroups_11 : decode cX9_mostGroups 11 = .ok (.iload_n 1, 1) := by decide +kernel
theorem dX9_mostGroups_12 : decode cX9_mostGroups 12 = .ok (.iload 4, 2) := by decide +kernel
theorem dX9_mostGroups_14 : decode cX9_mostGroups 14 = .ok (.ishr, 1) := by decide +kernel
theorem dX9_mostGroups_15 : decode cX9_mostGroups 15 = .ok (.iconst 1, 1) := by decide +kernel
theorem dX9_mostGroups_16 : decode cX9_mostGroups 16 = .ok (.iand, 1) := by decide +kernel
theorem dX9_mostGroups_17 : decode cX9_mostGroups 17 = .ok (.ifCond .eq 19, 3) := by decide +kernel
theorem dX9_mostGroups_20 : decode cX9_mostGroups 20 = .ok (.iload_n 3, 1) := by decide +kernel
theorem dX9_mostGroups_21 : decode cX9_mostGroups 21 = .ok (.aload_n 0, 1) := by decide +kernel
theorem dX9_mostGroups_22 : decode cX9_mostGroups 22 = .ok (.getfield 18, 3) := by decide +kernel
theorem dX9_mostGroups_25 : decode cX9_mostGroups 25 = .ok (.iload_n 1, 1) := by decide +kernel
theorem dX9_mostGroups_26 : decode cX9_mostGroups 26 = .ok (.iconst 1, 1) := by decide +kernel
theorem dX9_mostGroups_27 : decode cX9_mostGroups 27 = .ok (.iload 4, 2) := by decide +kernel
theorem dX9_mostGroups_29 : decode cX9_mostGroups 29 = .ok (.ishl, 1) := by decide +kernel
theorem dX9_mostGroups_30 : decode cX9_mostGroups 30 = .ok (.ixor, 1) := by decide +kernel
theorem dX9_mostGroups_31 : decode cX9_mostGroups 31 = .ok (.iaload, 1) := by decide +kernel
theorem dX9_mostGroups_32 : decode cX9_mostGroups 32 = .ok (.invokestatic 90, 3) := by decide +kernel
theorem dX9_mostGroups_35 : decode cX9_mostGroups 35 = .ok (.istore_n 3, 1) := by decide +kernel
theorem dX9_mostGroups_36 : decode cX9_mostGroups 36 = .ok (.iinc 4 1, 3) := by decide +kernel
theorem dX9_mostGroups_39 : decode cX9_mostGroups 39 = .ok (.goto (-34), 3) := by decide +kernel
theorem dX9_mostGroups_42 : decode cX9_mostGroups 42 = .ok (.iload_n 3, 1) := by decide +kernel
theorem dX9_mostGroups_43 : decode cX9_mostGroups 43 = .ok (.ireturn, 1) := by decide +kernel
def is_X9_mostGroups : Nat → List Nat := fun d => if d = 5 then [0, 1, 2, 3, 4] else []
set_option maxRecDepth 100000 in
def b_X9_mostGroups_36 (J : Nat → List qV → List qV → qW → Prop) (Q : qR) : qK := x_iinc 4 1 (x_cut [0, 1, 2, 3, 4] (J 5))
set_option maxRecDepth 100000 in
theorem s_X9_mostGroups_36 {p : Program} {l : Launch} {e : Env} {R : Room} {s : State} {m : MethodId} {args : Array Value} {below : List Frame} {meth : Method} {c : Code} {nW : Nat} {dC : Nat → ClassId} {dI : Nat → Nat → Nat} {k : Nat → ClassId} {g : Nat → Nat} {A : Nat → Prop} {J : Nat → List qV → List qV → qW → Prop} {Q : qR} (X : q_X p R s m args meth c cX9_mostGroups 5 nW 1 21 RX9 (some .int) dC dI k g A) (hJ : ∀ d : Nat, q_Sd p l e R s m args below meth c 5 nW dC dI k g A (MQ below (q_post (dC, dI) k g nW Q A) args s 0 0 A) d (x_cut (is_X9_mostGroups d) (J d))) : q_Sd p l e R s m args below meth c 5 nW dC dI k g A (MQ below (q_post (dC, dI) k g nW Q A) args s 0 0 A) 36 (b_X9_mostGroups_36 J Q) := by
  unfold b_X9_mostGroups_36
  refine s_iinc X (by decide) dX9_mostGroups_36 ?_
  refine s_goto X (tgt := 5) dX9_mostGroups_39 (by decide) ?_
  exact hJ 5
set_option maxRecDepth 100000 in
def b_X9_mostGroups_5 (J : Nat → List qV → List qV → qW → Prop) (Q : qR) : qK := x_iload 4 (x_iload 2 (x_icmp_ge (x_iload 3 (x_iret Q)) (x_iload 1 (x_iload 4 (x_ishr (x_int 1 (x_iand (x_if_eq (b_X9_mostGroups_36 J Q) (x_iload 3 (x_aload 0 (x_get 9 2 (x_iload 1 (x_int 1 (x_iload 4 (x_ishl (x_ixor (x_iald (x_max (x_istore 3 (b_X9_mostGroups_36 J Q))))))))))))))))))))
set_option maxRecDepth 100000 in
theorem s_X9_mostGroups_5 {p : Program} {l : Launch} {e : Env} {R : Room} {s : State} {m : MethodId} {args : Array Value} {below : List Frame} {meth : Method} {c : Code} {nW : Nat} {dC : Nat → ClassId} {dI : Nat → Nat → Nat} {k : Nat → ClassId} {g : Nat → Nat} {A : Nat → Prop} {J : Nat → List qV → List qV → qW → Prop} {Q : qR} (X : q_X p R s m args meth c cX9_mostGroups 5 nW 1 21 RX9 (some .int) dC dI k g A) (hJ : ∀ d : Nat, q_Sd p l e R s m args below meth c 5 nW dC dI k g A (MQ below (q_post (dC, dI) k g nW Q A) args s 0 0 A) d (x_cut (is_X9_mostGroups d) (J d))) : q_Sd p l e R s m args below meth c 5 nW dC dI k g A (MQ below (q_post (dC, dI) k g nW Q A) args s 0 0 A) 5 (b_X9_mostGroups_5 J Q) := by
  unfold b_X9_mostGroups_5
  refine s_iload X dX9_mostGroups_5 ?_
  refine s_iload_n X rfl dX9_mostGroups_7 ?_
  refine s_icmp_ge X (tgt := 42) dX9_mostGroups_8 (by decide) ?_ ?_
  · refine s_iload_n X rfl dX9_mostGroups_42 ?_
    exact s_iret X dX9_mostGroups_43
  · refine s_iload_n X rfl dX9_mostGroups_11 ?_
    refine s_iload X dX9_mostGroups_12 ?_
    refine s_ishr X dX9_mostGroups_14 ?_
    refine s_iconst X ⟨by decide, by decide⟩ dX9_mostGroups_15 ?_
    refine s_iand X dX9_mostGroups_16 ?_
    refine s_if_eq X (tgt := 36) dX9_mostGroups_17 (by decide) ?_ ?_
    · exact s_X9_mostGroups_36 X hJ
    · refine s_iload_n X rfl dX9_mostGroups_20 ?_
      refine s_aload_n X rfl dX9_mostGroups_21 ?_
      refine s_get X (T := TX9) (C := RX9) (N := 5) tu_X9 rfl (by decide) tw_293 dX9_mostGroups_22 ?_
      refine s_iload_n X rfl dX9_mostGroups_25 ?_
      refine s_iconst X ⟨by decide, by decide⟩ dX9_mostGroups_26 ?_
      refine s_iload X dX9_mostGroups_27 ?_
      refine s_ishl X dX9_mostGroups_29 ?_
      refine s_ixor X dX9_mostGroups_30 ?_
      refine s_iald X dX9_mostGroups_31 ?_
      refine s_max X tw_597 tw_531 tw_135 tw_532 ⟨by decide, by decide⟩ dX9_mostGroups_32 ?_
      refine s_istore_n X rfl (by decide) dX9_mostGroups_35 ?_
      exact s_X9_mostGroups_36 X hJ
set_option maxRecDepth 100000 in
def b_X9_mostGroups_0 (J : Nat → List qV → List qV → qW → Prop) (Q : qR) : qK := x_int 0 (x_istore 3 (x_int 0 (x_istore 4 (x_cut [0, 1, 2, 3, 4] (J 5)))))
set_option maxRecDepth 100000 in
theorem s_X9_mostGroups_0 {p : Program} {l : Launch} {e : Env} {R : Room} {s : State} {m : MethodId} {args : Array Value} {below : List Frame} {meth : Method} {c : Code} {nW : Nat} {dC : Nat → ClassId} {dI : Nat → Nat → Nat} {k : Nat → ClassId} {g : Nat → Nat} {A : Nat → Prop} {J : Nat → List qV → List qV → qW → Prop} {Q : qR} (X : q_X p R s m args meth c cX9_mostGroups 5 nW 1 21 RX9 (some .int) dC dI k g A) (hJ : ∀ d : Nat, q_Sd p l e R s m args below meth c 5 nW dC dI k g A (MQ below (q_post (dC, dI) k g nW Q A) args s 0 0 A) d (x_cut (is_X9_mostGroups d) (J d))) : q_Sd p l e R s m args below meth c 5 nW dC dI k g A (MQ below (q_post (dC, dI) k g nW Q A) args s 0 0 A) 0 (b_X9_mostGroups_0 J Q) := by
  unfold b_X9_mostGroups_0
  refine s_iconst X ⟨by decide, by decide⟩ dX9_mostGroups_0 ?_
  refine s_istore_n X rfl (by decide) dX9_mostGroups_1 ?_
  refine s_iconst X ⟨by decide, by decide⟩ dX9_mostGroups_2 ?_
  refine s_istore X (by decide) dX9_mostGroups_3 ?_
  exact hJ 5

def spr_X9_mostGroups : List qV → qW → (Option qV → Prop) → Prop := fun av w Q => ∃ (h1 : Nat → Int) (h2 : Nat → Int) (h3 : Nat → Int) (p0 : Int) (s0 : Int) (a : Int) (b : Int), av = [q2 0, q1 a, q1 b] ∧ w = (wKo 0 h1 h2 h3 p0 s0) ∧ (0 ≤ a ∧ a ≤ 511 ∧ 0 ≤ b ∧ b ≤ 9) ∧ (∀ (r : Int) , Q (some (q1 r)))
def sp_X9_mostGroups : qS := fun av w Q => spr_X9_mostGroups av w (fun r => Q r w)
def I_X9_mostGroups (h1 : Nat → Int) (h2 : Nat → Int) (h3 : Nat → Int) (p0 : Int) (s0 : Int) (a : Int) (b : Int) : Nat → Nat → List qV → List qV → qW → Prop := fun dz mz vz sz wz => if dz = 5 then (∃ (v3 : Int) (v4 : Int), vz = [q2 0, q1 a, q1 b, q1 v3, q1 v4] ∧ sz = [] ∧ wz = (wKo 0 h1 h2 h3 p0 s0) ∧ mz = (b - v4).toNat ∧ (0 ≤ v4 ∧ v4 ≤ b)) else False
set_option maxHeartbeats 4000000 in
set_option maxRecDepth 100000 in
theorem m_X9_mostGroups (l : Launch) : q_M l yX9_mostGroups cX9_mostGroups 5 (some .int) 1 21 sp_X9_mostGroups := by
  refine q_meth (by decide) (fun av w Q h => by obtain ⟨h1, h2, h3, p0, s0, a, b, rfl, rfl, ha, hQ⟩ := h; exact Nat.le_of_ble_eq_true rfl) ?_
  intro p e R s m args below meth c dC dI k g A av w Q hsp oka okw X
  obtain ⟨h1, h2, h3, p0, s0, a, b, rfl, rfl, ha, hQ⟩ := hsp
  have o_a : -2147483648 ≤ a ∧ a ≤ 2147483647 := oka _ (List.mem_of_getElem? (i := 1) rfl)
  have o_b : -2147483648 ≤ b ∧ b ≤ 2147483647 := oka _ (List.mem_of_getElem? (i := 2) rfl)
  refine s_mono (s_X9_mostGroups_0 X (J := fun dz vz sz wz => ∃ mz, I_X9_mostGroups h1 h2 h3 p0 s0 a b dz mz vz sz wz) (q_loopn (I_X9_mostGroups h1 h2 h3 p0 s0 a b) (fun dz J => if dz = 5 then b_X9_mostGroups_5 J Q else q_F) ?hs ?hv)) ?_
  case hs =>
    intro d J hJ
    by_cases h5 : d = 5
    · subst h5; exact s_X9_mostGroups_5 X hJ
    simp only [h5, if_false]
    exact s_F
  case hv =>
    intro dz mz vz sz wz hI okv oks okw hlen
    by_cases h5 : dz = 5
    · subst h5
      obtain ⟨v3, v4, rfl, rfl, rfl, hn, hp⟩ := hI
      apply And.intro
      · intro h8
        exact hQ _
      · intro h8
        intro z14 h14
        replace h14 := e_rng h14
        intro z16 h16
        first | replace h16 := e_and1 h16 | replace h16 := e_and255 h16 | replace h16 := e_and h16 (by omega) (by omega) | replace h16 := e_rng h16
        apply And.intro
        · intro h17
          intro z36 h36
          first | replace h36 := e_add h36 (by omega) | replace h36 := e_rng h36
          exact ⟨_, ⟨_, _, rfl, rfl, rfl, rfl, (by first | omega | assumption | exact q_rg_up (by assumption) (by omega) | exact q_rg_up (q_rg_up (by assumption) (by omega)) (by omega) | exact q_rg_cpy (by assumption) (by assumption))⟩, by omega⟩
        · intro h17
          intro z29 h29
          first | replace h29 := e_shl h29 (by omega) | replace h29 := e_rng h29
          intro z30 h30
          first | replace h30 := e_xor8 h30 (by omega) (by omega) | replace h30 := e_xor9 h30 (by omega) (by omega) | replace h30 := e_rng h30
          apply And.intro
          · exact ⟨by omega, by omega⟩
          intro z31 h31
          intro z32 h32
          intro z36 h36
          first | replace h36 := e_add h36 (by omega) | replace h36 := e_rng h36
          exact ⟨_, ⟨_, _, rfl, rfl, rfl, rfl, (by first | omega | assumption | exact q_rg_up (by assumption) (by omega) | exact q_rg_up (q_rg_up (by assumption) (by omega)) (by omega) | exact q_rg_cpy (by assumption) (by assumption))⟩, by omega⟩
    simp only [I_X9_mostGroups, h5, if_false] at hI
  rintro lv st w' ⟨rfl, rfl, rfl⟩
  exact ⟨_, _, _, rfl, rfl, rfl, rfl, (by first | omega | assumption | exact q_rg_up (by assumption) (by omega) | exact q_rg_up (q_rg_up (by assumption) (by omega)) (by omega) | exact q_rg_cpy (by assumption) (by assumption))⟩

theorem dX9_changed_0 : decode cX9_changed 0 = .ok (.iconst 0, 1) := by decide +kernel
theorem dX9_changed_1 : decode cX9_changed 1 = .ok (.istore_n 3, 1) := by decide +kernel
theorem dX9_changed_2 : decode cX9_changed 2 = .ok (.iconst 0, 1) := by decide +kernel
theorem dX9_changed_3 : decode cX9_changed 3 = .ok (.istore 4, 2) := by decide +kernel
theorem dX9_changed_5 : decode cX9_changed 5 = .ok (.iload 4, 2) := by decide +kernel
theorem dX9_changed_7 : decode cX9_changed 7 = .ok (.aload_n 1, 1) := by decide +kernel
theorem dX9_changed_8 : decode cX9_changed 8 = .ok (.getfield 62, 3) := by decide +kernel
theorem dX9_changed_11 : decode cX9_changed 11 = .ok (.if_icmp .ge 36, 3) := by decide +kernel
theorem dX9_changed_14 : decode cX9_changed 14 = .ok (.iload_n 2, 1) := by decide +kernel
theorem dX9_changed_15 : decode cX9_changed 15 = .ok (.aload_n 0, 1) := by decide +kernel
theorem dX9_changed_16 : decode cX9_changed 16 = .ok (.getfield 9, 3) := by decide +kernel
theorem dX9_changed_19 : decode cX9_changed 19 = .ok (.iload 4, 2) := by decide +kernel
theorem dX9_changed_21 : decode cX9_changed 21 = .ok (.iaload, 1) := by decide +kernel
theorem dX9_changed_22 : decode cX9_changed 22 = .ok (.aload_n 1, 1) := by decide +kernel
theorem dX9_changed_23 : decode cX9_changed 23 = .ok (.getfield 21, 3) := by decide +kernel
theorem dX9_changed_26 : decode cX9_changed 26 = .ok (.iload 4, 2) := by decide +kernel
theorem dX9_changed_28 : decode cX9_changed 28 = .ok (.iaload, 1) := by decide +kernel
theorem dX9_changed_29 : decode cX9_changed 29 = .ok (.isub, 1) := by decide +kernel
theorem dX9_changed_30 : decode cX9_changed 30 = .ok (.imul, 1) := by decide +kernel
theorem dX9_changed_31 : decode cX9_changed 31 = .ok (.ifCond .le 10, 3) := by decide +kernel
theorem dX9_changed_34 : decode cX9_changed 34 = .ok (.iload_n 3, 1) := by decide +kernel
theorem dX9_changed_35 : decode cX9_changed 35 = .ok (.iconst 1, 1) := by decide +kernel
theorem dX9_changed_36 : decode cX9_changed 36 = .ok (.iload 4, 2) := by decide +kernel
theorem dX9_changed_38 : decode cX9_changed 38 = .ok (.ishl, 1) := by decide +kernel
theorem dX9_changed_39 : decode cX9_changed 39 = .ok (.ior, 1) := by decide +kernel
theorem dX9_changed_40 : decode cX9_changed 40 = .ok (.istore_n 3, 1) := by decide +kernel
theorem dX9_changed_41 : decode cX9_changed 41 = .ok (.iinc 4 1, 3) := by decide +kernel
theorem dX9_changed_44 : decode cX9_changed 44 = .ok (.goto (-39), 3) := by decide +kernel
theorem dX9_changed_47 : decode cX9_changed 47 = .ok (.iload_n 3, 1) := by decide +kernel
theorem dX9_changed_48 : decode cX9_changed 48 = .ok (.ireturn, 1) := by decide +kernel
def is_X9_changed : Nat → List Nat := fun d => if d = 5 then [0, 1, 2, 3, 4] else []
set_option maxRecDepth 100000 in
def b_X9_changed_41 (J : Nat → List qV → List qV → qW → Prop) (Q : qR) : qK := x_iinc 4 1 (x_cut [0, 1, 2, 3, 4] (J 5))
set_option maxRecDepth 100000 in
theorem s_X9_changed_41 {p : Program} {l : Launch} {e : Env} {R : Room} {s : State} {m : MethodId} {args : Array Value} {below : List Frame} {meth : Method} {c : Code} {nW : Nat} {dC : Nat → ClassId} {dI : Nat → Nat → Nat} {k : Nat → ClassId} {g : Nat → Nat} {A : Nat → Prop} {J : Nat → List qV → List qV → qW → Prop} {Q : qR} (X : q_X p R s m args meth c cX9_changed 5 nW 0 0 RX9 (some .int) dC dI k g A) (hJ : ∀ d : Nat, q_Sd p l e R s m args below meth c 5 nW dC dI k g A (MQ below (q_post (dC, dI) k g nW Q A) args s 0 0 A) d (x_cut (is_X9_changed d) (J d))) : q_Sd p l e R s m args below meth c 5 nW dC dI k g A (MQ below (q_post (dC, dI) k g nW Q A) args s 0 0 A) 41 (b_X9_changed_41 J Q) := by
  unfold b_X9_changed_41
  refine s_iinc X (by decide) dX9_changed_41 ?_
  refine s_goto X (tgt := 5) dX9_changed_44 (by decide) ?_
  exact hJ 5
set_option maxRecDepth 100000 in
def b_X9_changed_5 (J : Nat → List qV → List qV → qW → Prop) (Q : qR) : qK := x_iload 4 (x_aload 1 (x_get 0 7 (x_icmp_ge (x_iload 3 (x_iret Q)) (x_iload 2 (x_aload 0 (x_get 9 0 (x_iload 4 (x_iald (x_aload 1 (x_get 0 0 (x_iload 4 (x_iald (x_isub (x_imul (x_if_le (b_X9_changed_41 J Q) (x_iload 3 (x_int 1 (x_iload 4 (x_ishl (x_ior (x_istore 3 (b_X9_changed_41 J Q))))))))))))))))))))))
set_option maxRecDepth 100000 in
theorem s_X9_changed_5 {p : Program} {l : Launch} {e : Env} {R : Room} {s : State} {m : MethodId} {args : Array Value} {below : List Frame} {meth : Method} {c : Code} {nW : Nat} {dC : Nat → ClassId} {dI : Nat → Nat → Nat} {k : Nat → ClassId} {g : Nat → Nat} {A : Nat → Prop} {J : Nat → List qV → List qV → qW → Prop} {Q : qR} (X : q_X p R s m args meth c cX9_changed 5 nW 0 0 RX9 (some .int) dC dI k g A) (hJ : ∀ d : Nat, q_Sd p l e R s m args below meth c 5 nW dC dI k g A (MQ below (q_post (dC, dI) k g nW Q A) args s 0 0 A) d (x_cut (is_X9_changed d) (J d))) : q_Sd p l e R s m args below meth c 5 nW dC dI k g A (MQ below (q_post (dC, dI) k g nW Q A) args s 0 0 A) 5 (b_X9_changed_5 J Q) := by
  unfold b_X9_changed_5
  refine s_iload X dX9_changed_5 ?_
  refine s_aload_n X rfl dX9_changed_7 ?_
  refine s_get X (T := TX0) (C := RX0) (N := 12) tu_X0 rfl (by decide) tw_196 dX9_changed_8 ?_
  refine s_icmp_ge X (tgt := 47) dX9_changed_11 (by decide) ?_ ?_
  · refine s_iload_n X rfl dX9_changed_47 ?_
    exact s_iret X dX9_changed_48
  · refine s_iload_n X rfl dX9_changed_14 ?_
    refine s_aload_n X rfl dX9_changed_15 ?_
    refine s_get X (T := TX9) (C := RX9) (N := 5) tu_X9 rfl (by decide) tw_291 dX9_changed_16 ?_
    refine s_iload X dX9_changed_19 ?_
    refine s_iald X dX9_changed_21 ?_
    refine s_aload_n X rfl dX9_changed_22 ?_
    refine s_get X (T := TX0) (C := RX0) (N := 12) tu_X0 rfl (by decide) tw_165 dX9_changed_23 ?_
    refine s_iload X dX9_changed_26 ?_
    refine s_iald X dX9_changed_28 ?_
    refine s_isub X dX9_changed_29 ?_
    refine s_imul X dX9_changed_30 ?_
    refine s_if_le X (tgt := 41) dX9_changed_31 (by decide) ?_ ?_
    · exact s_X9_changed_41 X hJ
    · refine s_iload_n X rfl dX9_changed_34 ?_
      refine s_iconst X ⟨by decide, by decide⟩ dX9_changed_35 ?_
      refine s_iload X dX9_changed_36 ?_
      refine s_ishl X dX9_changed_38 ?_
      refine s_ior X dX9_changed_39 ?_
      refine s_istore_n X rfl (by decide) dX9_changed_40 ?_
      exact s_X9_changed_41 X hJ
set_option maxRecDepth 100000 in
def b_X9_changed_0 (J : Nat → List qV → List qV → qW → Prop) (Q : qR) : qK := x_int 0 (x_istore 3 (x_int 0 (x_istore 4 (x_cut [0, 1, 2, 3, 4] (J 5)))))
set_option maxRecDepth 100000 in
theorem s_X9_changed_0 {p : Program} {l : Launch} {e : Env} {R : Room} {s : State} {m : MethodId} {args : Array Value} {below : List Frame} {meth : Method} {c : Code} {nW : Nat} {dC : Nat → ClassId} {dI : Nat → Nat → Nat} {k : Nat → ClassId} {g : Nat → Nat} {A : Nat → Prop} {J : Nat → List qV → List qV → qW → Prop} {Q : qR} (X : q_X p R s m args meth c cX9_changed 5 nW 0 0 RX9 (some .int) dC dI k g A) (hJ : ∀ d : Nat, q_Sd p l e R s m args below meth c 5 nW dC dI k g A (MQ below (q_post (dC, dI) k g nW Q A) args s 0 0 A) d (x_cut (is_X9_changed d) (J d))) : q_Sd p l e R s m args below meth c 5 nW dC dI k g A (MQ below (q_post (dC, dI) k g nW Q A) args s 0 0 A) 0 (b_X9_changed_0 J Q) := by
  unfold b_X9_changed_0
  refine s_iconst X ⟨by decide, by decide⟩ dX9_changed_0 ?_
  refine s_istore_n X rfl (by decide) dX9_changed_1 ?_
  refine s_iconst X ⟨by decide, by decide⟩ dX9_changed_2 ?_
  refine s_istore X (by decide) dX9_changed_3 ?_
  exact hJ 5

def spr_X9_changed : List qV → qW → (Option qV → Prop) → Prop := fun av w Q => ∃ (h1 : Nat → Int) (h2 : Nat → Int) (h3 : Nat → Int) (p0 : Int) (s0 : Int) (f1 : Nat → Int) (f2 : Nat → Int) (f3 : Nat → Int) (f4 : Nat → Int) (f5 : Nat → Int) (f6 : Nat → Int) (f7 : Nat → Int) (u0 : Int) (u1 : Int) (u2 : Int) (u3 : Int) (u4 : Int) (a : Int), av = [q2 0, q2 4, q1 a] ∧ w = (wKo 0 h1 h2 h3 p0 s0 ++ wBo 4 f1 f2 f3 f4 f5 f6 f7 u0 u1 u2 u3 u4) ∧ (0 ≤ u0 ∧ u0 ≤ 8) ∧ (∀ (r : Int) , Q (some (q1 r)))
def sp_X9_changed : qS := fun av w Q => spr_X9_changed av w (fun r => Q r w)
def I_X9_changed (h1 : Nat → Int) (h2 : Nat → Int) (h3 : Nat → Int) (p0 : Int) (s0 : Int) (f1 : Nat → Int) (f2 : Nat → Int) (f3 : Nat → Int) (f4 : Nat → Int) (f5 : Nat → Int) (f6 : Nat → Int) (f7 : Nat → Int) (u0 : Int) (u1 : Int) (u2 : Int) (u3 : Int) (u4 : Int) (a : Int) : Nat → Nat → List qV → List qV → qW → Prop := fun dz mz vz sz wz => if dz = 5 then (∃ (v3 : Int) (v4 : Int), vz = [q2 0, q2 4, q1 a, q1 v3, q1 v4] ∧ sz = [] ∧ wz = (wKo 0 h1 h2 h3 p0 s0 ++ wBo 4 f1 f2 f3 f4 f5 f6 f7 u0 u1 u2 u3 u4) ∧ mz = (u0 - v4).toNat ∧ (0 ≤ v4 ∧ v4 ≤ u0)) else False
set_option maxHeartbeats 4000000 in
set_option maxRecDepth 100000 in
theorem m_X9_changed (l : Launch) : q_M l yX9_changed cX9_changed 5 (some .int) 0 0 sp_X9_changed := by
  refine q_meth (by decide) (fun av w Q h => by obtain ⟨h1, h2, h3, p0, s0, f1, f2, f3, f4, f5, f6, f7, u0, u1, u2, u3, u4, a, rfl, rfl, hu0, hQ⟩ := h; exact Nat.le_of_ble_eq_true rfl) ?_
  intro p e R s m args below meth c dC dI k g A av w Q hsp oka okw X
  obtain ⟨h1, h2, h3, p0, s0, f1, f2, f3, f4, f5, f6, f7, u0, u1, u2, u3, u4, a, rfl, rfl, hu0, hQ⟩ := hsp
  have o_a : -2147483648 ≤ a ∧ a ≤ 2147483647 := oka _ (List.mem_of_getElem? (i := 2) rfl)
  refine s_mono (s_X9_changed_0 X (J := fun dz vz sz wz => ∃ mz, I_X9_changed h1 h2 h3 p0 s0 f1 f2 f3 f4 f5 f6 f7 u0 u1 u2 u3 u4 a dz mz vz sz wz) (q_loopn (I_X9_changed h1 h2 h3 p0 s0 f1 f2 f3 f4 f5 f6 f7 u0 u1 u2 u3 u4 a) (fun dz J => if dz = 5 then b_X9_changed_5 J Q else q_F) ?hs ?hv)) ?_
  case hs =>
    intro d J hJ
    by_cases h5 : d = 5
    · subst h5; exact s_X9_changed_5 X hJ
    simp only [h5, if_false]
    exact s_F
  case hv =>
    intro dz mz vz sz wz hI okv oks okw hlen
    by_cases h5 : dz = 5
    · subst h5
      obtain ⟨v3, v4, rfl, rfl, rfl, hn, hp⟩ := hI
      apply And.intro
      · intro h11
        exact hQ _
      · intro h11
        apply And.intro
        · exact ⟨by omega, by omega⟩
        intro z21 h21
        apply And.intro
        · exact ⟨by omega, by omega⟩
        intro z28 h28
        intro z29 h29
        first | replace h29 := e_sub h29 (by omega) | replace h29 := e_rng h29
        intro z30 h30
        first | replace h30 := e_mul h30 (by omega) | replace h30 := e_rng h30
        apply And.intro
        · intro h31
          intro z41 h41
          first | replace h41 := e_add h41 (by omega) | replace h41 := e_rng h41
          exact ⟨_, ⟨_, _, rfl, rfl, rfl, rfl, (by first | omega | assumption | exact q_rg_up (by assumption) (by omega) | exact q_rg_up (q_rg_up (by assumption) (by omega)) (by omega) | exact q_rg_cpy (by assumption) (by assumption))⟩, by omega⟩
        · intro h31
          intro z38 h38
          first | replace h38 := e_shl h38 (by omega) | replace h38 := e_rng h38
          intro z39 h39
          first | replace h39 := e_or8 h39 (by omega) (by omega) | replace h39 := e_or9 h39 (by omega) (by omega) | replace h39 := e_rng h39
          intro z41 h41
          first | replace h41 := e_add h41 (by omega) | replace h41 := e_rng h41
          exact ⟨_, ⟨_, _, rfl, rfl, rfl, rfl, (by first | omega | assumption | exact q_rg_up (by assumption) (by omega) | exact q_rg_up (q_rg_up (by assumption) (by omega)) (by omega) | exact q_rg_cpy (by assumption) (by assumption))⟩, by omega⟩
    simp only [I_X9_changed, h5, if_false] at hI
  rintro lv st w' ⟨rfl, rfl, rfl⟩
  exact ⟨_, _, _, rfl, rfl, rfl, rfl, (by first | omega | assumption | exact q_rg_up (by assumption) (by omega) | exact q_rg_up (q_rg_up (by assumption) (by omega)) (by omega) | exact q_rg_cpy (by assumption) (by assumption))⟩

theorem dX9_couplesUp_0 : decode cX9_couplesUp 0 = .ok (.iconst 0, 1) := by decide +kernel
theorem dX9_couplesUp_1 : decode cX9_couplesUp 1 = .ok (.istore_n 2, 1) := by decide +kernel
theorem dX9_couplesUp_2 : decode cX9_couplesUp 2 = .ok (.iconst 0, 1) := by decide +kernel
theorem dX9_couplesUp_3 : decode cX9_couplesUp 3 = .ok (.istore_n 3, 1) := by decide +kernel
theorem dX9_couplesUp_4 : decode cX9_couplesUp 4 = .ok (.iload_n 3, 1) := by decide +kernel
theorem dX9_couplesUp_5 : decode cX9_couplesUp 5 = .ok (.aload_n 1, 1) := by decide +kernel
theorem dX9_couplesUp_6 : decode cX9_couplesUp 6 = .ok (.getfield 62, 3) := by decide +kernel
theorem dX9_couplesUp_9 : decode cX9_couplesUp 9 = .ok (.if_icmp .ge 63, 3) := by decide +kernel
theorem dX9_couplesUp_12 : decode cX9_couplesUp 12 = .ok (.iconst 0, 1) := by decide +kernel
theorem dX9_couplesUp_13 : decode cX9_couplesUp 13 = .ok (.istore 4, 2) := by decide +kernel
theorem dX9_couplesUp_15 : decode cX9_couplesUp 15 = .ok (.iload 4, 2) := by decide +kernel
theorem dX9_couplesUp_17 : decode cX9_couplesUp 17 = .ok (.aload_n 1, 1) := by decide +kernel
theorem dX9_couplesUp_18 : decode cX9_couplesUp 18 = .ok (.getfield 62, 3) := by decide +kernel
theorem dX9_couplesUp_21 : decode cX9_couplesUp 21 = .ok (.if_icmp .ge 45, 3) := by decide +kernel
theorem dX9_couplesUp_24 : decode cX9_couplesUp 24 = .ok (.aload_n 1, 1) := by decide +kernel
theorem dX9_couplesUp_25 : decode cX9_couplesUp 25 = .ok (.iload_n 3, 1) := by decide +kernel
theorem dX9_couplesUp_26 : decode cX9_couplesUp 26 = .ok (.invokevirtual 103, 3) := by decide +kernel
theorem dX9_couplesUp_29 : decode cX9_couplesUp 29 = .ok (.ifCond .eq 31, 3) := by decide +kernel
theorem dX9_couplesUp_32 : decode cX9_couplesUp 32 = .ok (.aload_n 1, 1) := by decide +kernel
theorem dX9_couplesUp_33 : decode cX9_couplesUp 33 = .ok (.iload 4, 2) := by decide +kernel
theorem dX9_couplesUp_35 : decode cX9_couplesUp 35 = .ok (.invokevirtual 103, 3) := by decide +kernel
theorem dX9_couplesUp_38 : decode cX9_couplesUp 38 = .ok (.ifCond .ne 22, 3) := by decide +kernel
theorem dX9_couplesUp_41 : decode cX9_couplesUp 41 = .ok (.aload_n 0, 1) := by decide +kernel
theorem dX9_couplesUp_42 : decode cX9_couplesUp 42 = .ok (.getfield 9, 3) := by decide +kernel
theorem dX9_couplesUp_45 : decode cX9_couplesUp 45 = .ok (.iload_n 3, 1) := by decide +kernel
theorem dX9_couplesUp_46 : decode cX9_couplesUp 46 = .ok (.iaload, 1) := by decide +kernel
theorem dX9_couplesUp_47 : decode cX9_couplesUp 47 = .ok (.aload_n 0, 1) := by decide +kernel
theorem dX9_couplesUp_48 : decode cX9_couplesUp 48 = .ok (.getfield 9, 3) := by decide +kernel
theorem dX9_couplesUp_51 : decode cX9_couplesUp 51 = .ok (.iload 4, 2) := by decide +kernel
theorem dX9_couplesUp_53 : decode cX9_couplesUp 53 = .ok (.iaload, 1) := by decide +kernel
theorem dX9_couplesUp_54 : decode cX9_couplesUp 54 = .ok (.if_icmp .le 6, 3) := by decide +kernel
theorem dX9_couplesUp_57 : decode cX9_couplesUp 57 = .ok (.iinc 2 1, 3) := by decide +kernel
theorem dX9_couplesUp_60 : decode cX9_couplesUp 60 = .ok (.iinc 4 1, 3) := by decide +kernel
theorem dX9_couplesUp_63 : decode cX9_couplesUp 63 = .ok (.goto (-48), 3) := by decide +kernel
theorem dX9_couplesUp_66 : decode cX9_couplesUp 66 = .ok (.iinc 3 1, 3) := by decide +kernel
theorem dX9_couplesUp_69 : decode cX9_couplesUp 69 = .ok (.goto (-65), 3) := by decide +kernel
theorem dX9_couplesUp_72 : decode cX9_couplesUp 72 = .ok (.iload_n 2, 1) := by decide +kernel
theorem dX9_couplesUp_73 : decode cX9_couplesUp 73 = .ok (.ireturn, 1) := by decide +kernel
def is_X9_couplesUp : Nat → List Nat := fun d => if d = 4 then [0, 1, 2, 3] else if d = 15 then [0, 1, 2, 3, 4] else []
set_option maxRecDepth 100000 in
def b_X9_couplesUp_60 (J : Nat → List qV → List qV → qW → Prop) (Q : qR) : qK := x_iinc 4 1 (x_cut [0, 1, 2, 3, 4] (J 15))
set_option maxRecDepth 100000 in
theorem s_X9_couplesUp_60 {p : Program} {l : Launch} {e : Env} {R : Room} {s : State} {m : MethodId} {args : Array Value} {below : List Frame} {meth : Method} {c : Code} {nW : Nat} {dC : Nat → ClassId} {dI : Nat → Nat → Nat} {k : Nat → ClassId} {g : Nat → Nat} {A : Nat → Prop} {J : Nat → List qV → List qV → qW → Prop} {Q : qR} (X : q_X p R s m args meth c cX9_couplesUp 5 nW 1 21 RX9 (some .int) dC dI k g A) (hJ : ∀ d : Nat, q_Sd p l e R s m args below meth c 5 nW dC dI k g A (MQ below (q_post (dC, dI) k g nW Q A) args s 0 0 A) d (x_cut (is_X9_couplesUp d) (J d))) : q_Sd p l e R s m args below meth c 5 nW dC dI k g A (MQ below (q_post (dC, dI) k g nW Q A) args s 0 0 A) 60 (b_X9_couplesUp_60 J Q) := by
  unfold b_X9_couplesUp_60
  refine s_iinc X (by decide) dX9_couplesUp_60 ?_
  refine s_goto X (tgt := 15) dX9_couplesUp_63 (by decide) ?_
  exact hJ 15
set_option maxRecDepth 100000 in
def b_X9_couplesUp_15 (J : Nat → List qV → List qV → qW → Prop) (Q : qR) : qK := x_iload 4 (x_aload 1 (x_get 0 7 (x_icmp_ge (x_iinc 3 1 (x_cut [0, 1, 2, 3] (J 4))) (x_aload 1 (x_iload 3 (x_callr (some 0) 2 spr_X0_isPoor (x_if_eq (b_X9_couplesUp_60 J Q) (x_aload 1 (x_iload 4 (x_callr (some 0) 2 spr_X0_isPoor (x_if_ne (b_X9_couplesUp_60 J Q) (x_aload 0 (x_get 9 0 (x_iload 3 (x_iald (x_aload 0 (x_get 9 0 (x_iload 4 (x_iald (x_icmp_le (b_X9_couplesUp_60 J Q) (x_iinc 2 1 (b_X9_couplesUp_60 J Q))))))))))))))))))))))
set_option maxRecDepth 100000 in
theorem s_X9_couplesUp_15 {p : Program} {l : Launch} {e : Env} {R : Room} {s : State} {m : MethodId} {args : Array Value} {below : List Frame} {meth : Method} {c : Code} {nW : Nat} {dC : Nat → ClassId} {dI : Nat → Nat → Nat} {k : Nat → ClassId} {g : Nat → Nat} {A : Nat → Prop} {J : Nat → List qV → List qV → qW → Prop} {Q : qR} (X : q_X p R s m args meth c cX9_couplesUp 5 nW 1 21 RX9 (some .int) dC dI k g A) (hJ : ∀ d : Nat, q_Sd p l e R s m args below meth c 5 nW dC dI k g A (MQ below (q_post (dC, dI) k g nW Q A) args s 0 0 A) d (x_cut (is_X9_couplesUp d) (J d))) : q_Sd p l e R s m args below meth c 5 nW dC dI k g A (MQ below (q_post (dC, dI) k g nW Q A) args s 0 0 A) 15 (b_X9_couplesUp_15 J Q) := by
  unfold b_X9_couplesUp_15
  refine s_iload X dX9_couplesUp_15 ?_
  refine s_aload_n X rfl dX9_couplesUp_17 ?_
  refine s_get X (T := TX0) (C := RX0) (N := 12) tu_X0 rfl (by decide) tw_196 dX9_couplesUp_18 ?_
  refine s_icmp_ge X (tgt := 66) dX9_couplesUp_21 (by decide) ?_ ?_
  · refine s_iinc X (by decide) dX9_couplesUp_66 ?_
    refine s_goto X (tgt := 4) dX9_couplesUp_69 (by decide) ?_
    exact hJ 4
  · refine s_aload_n X rfl dX9_couplesUp_24 ?_
    refine s_iload_n X rfl dX9_couplesUp_25 ?_
    refine s_callVr X (m_X0_isPoor l) tw_592 tw_593 tw_594 tw_122 tw_595 rfl (by decide +kernel) ⟨by decide, by decide⟩ dX9_couplesUp_26 ?_
    refine s_if_eq X (tgt := 60) dX9_couplesUp_29 (by decide) ?_ ?_
    · exact s_X9_couplesUp_60 X hJ
    · refine s_aload_n X rfl dX9_couplesUp_32 ?_
      refine s_iload X dX9_couplesUp_33 ?_
      refine s_callVr X (m_X0_isPoor l) tw_592 tw_593 tw_594 tw_122 tw_595 rfl (by decide +kernel) ⟨by decide, by decide⟩ dX9_couplesUp_35 ?_
      refine s_if_ne X (tgt := 60) dX9_couplesUp_38 (by decide) ?_ ?_
      · exact s_X9_couplesUp_60 X hJ
      · refine s_aload_n X rfl dX9_couplesUp_41 ?_
        refine s_get X (T := TX9) (C := RX9) (N := 5) tu_X9 rfl (by decide) tw_291 dX9_couplesUp_42 ?_
        refine s_iload_n X rfl dX9_couplesUp_45 ?_
        refine s_iald X dX9_couplesUp_46 ?_
        refine s_aload_n X rfl dX9_couplesUp_47 ?_
        refine s_get X (T := TX9) (C := RX9) (N := 5) tu_X9 rfl (by decide) tw_291 dX9_couplesUp_48 ?_
        refine s_iload X dX9_couplesUp_51 ?_
        refine s_iald X dX9_couplesUp_53 ?_
        refine s_icmp_le X (tgt := 60) dX9_couplesUp_54 (by decide) ?_ ?_
        · exact s_X9_couplesUp_60 X hJ
        · refine s_iinc X (by decide) dX9_couplesUp_57 ?_
          exact s_X9_couplesUp_60 X hJ
set_option maxRecDepth 100000 in
def b_X9_couplesUp_4 (J : Nat → List qV → List qV → qW → Prop) (Q : qR) : qK := x_iload 3 (x_aload 1 (x_get 0 7 (x_icmp_ge (x_iload 2 (x_iret Q)) (x_int 0 (x_istore 4 (x_cut [0, 1, 2, 3, 4] (J 15)))))))
set_option maxRecDepth 100000 in
theorem s_X9_couplesUp_4 {p : Program} {l : Launch} {e : Env} {R : Room} {s : State} {m : MethodId} {args : Array Value} {below : List Frame} {meth : Method} {c : Code} {nW : Nat} {dC : Nat → ClassId} {dI : Nat → Nat → Nat} {k : Nat → ClassId} {g : Nat → Nat} {A : Nat → Prop} {J : Nat → List qV → List qV → qW → Prop} {Q : qR} (X : q_X p R s m args meth c cX9_couplesUp 5 nW 1 21 RX9 (some .int) dC dI k g A) (hJ : ∀ d : Nat, q_Sd p l e R s m args below meth c 5 nW dC dI k g A (MQ below (q_post (dC, dI) k g nW Q A) args s 0 0 A) d (x_cut (is_X9_couplesUp d) (J d))) : q_Sd p l e R s m args below meth c 5 nW dC dI k g A (MQ below (q_post (dC, dI) k g nW Q A) args s 0 0 A) 4 (b_X9_couplesUp_4 J Q) := by
  unfold b_X9_couplesUp_4
  refine s_iload_n X rfl dX9_couplesUp_4 ?_
  refine s_aload_n X rfl dX9_couplesUp_5 ?_
  refine s_get X (T := TX0) (C := RX0) (N := 12) tu_X0 rfl (by decide) tw_196 dX9_couplesUp_6 ?_
  refine s_icmp_ge X (tgt := 72) dX9_couplesUp_9 (by decide) ?_ ?_
  · refine s_iload_n X rfl dX9_couplesUp_72 ?_
    exact s_iret X dX9_couplesUp_73
  · refine s_iconst X ⟨by decide, by decide⟩ dX9_couplesUp_12 ?_
    refine s_istore X (by decide) dX9_couplesUp_13 ?_
    exact hJ 15
set_option maxRecDepth 100000 in
def b_X9_couplesUp_0 (J : Nat → List qV → List qV → qW → Prop) (Q : qR) : qK := x_int 0 (x_istore 2 (x_int 0 (x_istore 3 (x_cut [0, 1, 2, 3] (J 4)))))
set_option maxRecDepth 100000 in
theorem s_X9_couplesUp_0 {p : Program} {l : Launch} {e : Env} {R : Room} {s : State} {m : MethodId} {args : Array Value} {below : List Frame} {meth : Method} {c : Code} {nW : Nat} {dC : Nat → ClassId} {dI : Nat → Nat → Nat} {k : Nat → ClassId} {g : Nat → Nat} {A : Nat → Prop} {J : Nat → List qV → List qV → qW → Prop} {Q : qR} (X : q_X p R s m args meth c cX9_couplesUp 5 nW 1 21 RX9 (some .int) dC dI k g A) (hJ : ∀ d : Nat, q_Sd p l e R s m args below meth c 5 nW dC dI k g A (MQ below (q_post (dC, dI) k g nW Q A) args s 0 0 A) d (x_cut (is_X9_couplesUp d) (J d))) : q_Sd p l e R s m args below meth c 5 nW dC dI k g A (MQ below (q_post (dC, dI) k g nW Q A) args s 0 0 A) 0 (b_X9_couplesUp_0 J Q) := by
  unfold b_X9_couplesUp_0
  refine s_iconst X ⟨by decide, by decide⟩ dX9_couplesUp_0 ?_
  refine s_istore_n X rfl (by decide) dX9_couplesUp_1 ?_
  refine s_iconst X ⟨by decide, by decide⟩ dX9_couplesUp_2 ?_
  refine s_istore_n X rfl (by decide) dX9_couplesUp_3 ?_
  exact hJ 4

def spr_X9_couplesUp : List qV → qW → (Option qV → Prop) → Prop := fun av w Q => ∃ (h1 : Nat → Int) (h2 : Nat → Int) (h3 : Nat → Int) (p0 : Int) (s0 : Int) (f1 : Nat → Int) (f2 : Nat → Int) (f3 : Nat → Int) (f4 : Nat → Int) (f5 : Nat → Int) (f6 : Nat → Int) (f7 : Nat → Int) (u0 : Int) (u1 : Int) (u2 : Int) (u3 : Int) (u4 : Int), av = [q2 0, q2 4] ∧ w = (wKo 0 h1 h2 h3 p0 s0 ++ wBo 4 f1 f2 f3 f4 f5 f6 f7 u0 u1 u2 u3 u4) ∧ (0 ≤ u0 ∧ u0 ≤ 8) ∧ (∀ (r : Int) , Q (some (q1 r)))
def sp_X9_couplesUp : qS := fun av w Q => spr_X9_couplesUp av w (fun r => Q r w)
def I_X9_couplesUp (h1 : Nat → Int) (h2 : Nat → Int) (h3 : Nat → Int) (p0 : Int) (s0 : Int) (f1 : Nat → Int) (f2 : Nat → Int) (f3 : Nat → Int) (f4 : Nat → Int) (f5 : Nat → Int) (f6 : Nat → Int) (f7 : Nat → Int) (u0 : Int) (u1 : Int) (u2 : Int) (u3 : Int) (u4 : Int) : Nat → Nat → List qV → List qV → qW → Prop := fun dz mz vz sz wz => if dz = 4 then (∃ (v2 : Int) (v3 : Int), vz = [q2 0, q2 4, q1 v2, q1 v3] ∧ sz = [] ∧ wz = (wKo 0 h1 h2 h3 p0 s0 ++ wBo 4 f1 f2 f3 f4 f5 f6 f7 u0 u1 u2 u3 u4) ∧ mz = 100 * (u0 - v3).toNat ∧ (0 ≤ v3 ∧ v3 ≤ u0)) else if dz = 15 then (∃ (v2 : Int) (v3 : Int) (v4 : Int), vz = [q2 0, q2 4, q1 v2, q1 v3, q1 v4] ∧ sz = [] ∧ wz = (wKo 0 h1 h2 h3 p0 s0 ++ wBo 4 f1 f2 f3 f4 f5 f6 f7 u0 u1 u2 u3 u4) ∧ mz = 100 * (u0 - v3).toNat - 50 + (u0 - v4).toNat ∧ (0 ≤ v3 ∧ v3 < u0) ∧ (0 ≤ v4 ∧ v4 ≤ u0)) else False
set_option maxHeartbeats 4000000 in
set_option maxRecDepth 100000 in
theorem m_X9_couplesUp (l : Launch) : q_M l yX9_couplesUp cX9_couplesUp 5 (some .int) 1 21 sp_X9_couplesUp := by
  refine q_meth (by decide) (fun av w Q h => by obtain ⟨h1, h2, h3, p0, s0, f1, f2, f3, f4, f5, f6, f7, u0, u1, u2, u3, u4, rfl, rfl, hu0, hQ⟩ := h; exact Nat.le_of_ble_eq_true rfl) ?_
  intro p e R s m args below meth c dC dI k g A av w Q hsp oka okw X
  obtain ⟨h1, h2, h3, p0, s0, f1, f2, f3, f4, f5, f6, f7, u0, u1, u2, u3, u4, rfl, rfl, hu0, hQ⟩ := hsp
  refine s_mono (s_X9_couplesUp_0 X (J := fun dz vz sz wz => ∃ mz, I_X9_couplesUp h1 h2 h3 p0 s0 f1 f2 f3 f4 f5 f6 f7 u0 u1 u2 u3 u4 dz mz vz sz wz) (q_loopn (I_X9_couplesUp h1 h2 h3 p0 s0 f1 f2 f3 f4 f5 f6 f7 u0 u1 u2 u3 u4) (fun dz J => if dz = 4 then b_X9_couplesUp_4 J Q else if dz = 15 then b_X9_couplesUp_15 J Q else q_F) ?hs ?hv)) ?_
  case hs =>
    intro d J hJ
    by_cases h4 : d = 4
    · subst h4; exact s_X9_couplesUp_4 X hJ
    by_cases h15 : d = 15
    · subst h15; exact s_X9_couplesUp_15 X hJ
    simp only [h4, h15, if_false]
    exact s_F
  case hv =>
    intro dz mz vz sz wz hI okv oks okw hlen
    by_cases h4 : dz = 4
    · subst h4
      obtain ⟨v2, v3, rfl, rfl, rfl, hn, hp⟩ := hI
      apply And.intro
      · intro h9
        exact hQ _
      · intro h9
        exact ⟨_, ⟨_, _, _, rfl, rfl, rfl, rfl, (by first | omega | assumption | exact q_rg_up (by assumption) (by omega) | exact q_rg_up (q_rg_up (by assumption) (by omega)) (by omega) | exact q_rg_cpy (by assumption) (by assumption)), (by first | omega | assumption | exact q_rg_up (by assumption) (by omega) | exact q_rg_up (q_rg_up (by assumption) (by omega)) (by omega) | exact q_rg_cpy (by assumption) (by assumption))⟩, by omega⟩
    by_cases h15 : dz = 15
    · subst h15
      obtain ⟨v2, v3, v4, rfl, rfl, rfl, hn, hp, hq⟩ := hI
      apply And.intro
      · intro h21
        intro z66 h66
        first | replace h66 := e_add h66 (by omega) | replace h66 := e_rng h66
        exact ⟨_, ⟨_, _, rfl, rfl, rfl, rfl, (by first | omega | assumption | exact q_rg_up (by assumption) (by omega) | exact q_rg_up (q_rg_up (by assumption) (by omega)) (by omega) | exact q_rg_cpy (by assumption) (by assumption))⟩, by omega⟩
      · intro h21
        refine Exists.intro [4, 5, 6, 7, 8, 9, 10, 11] (Exists.intro [q2 0, q1 _] (Exists.intro (wB _ _ _ _ _ _ _ _ _ _ _ _) (And.intro rfl (And.intro rfl (And.intro rfl (And.intro ⟨⟨_, rfl⟩, rfl⟩ ?_))))))
        refine Exists.intro _ (Exists.intro _ (Exists.intro _ (Exists.intro _ (Exists.intro _ (Exists.intro _ (Exists.intro _ (Exists.intro _ (Exists.intro _ (Exists.intro _ (Exists.intro _ (Exists.intro _ (Exists.intro _ (And.intro rfl (And.intro rfl (?_)))))))))))))))
        intro z26 h26
        apply And.intro
        · intro h29
          intro z60 h60
          first | replace h60 := e_add h60 (by omega) | replace h60 := e_rng h60
          exact ⟨_, ⟨_, _, _, rfl, rfl, rfl, rfl, (by first | omega | assumption | exact q_rg_up (by assumption) (by omega) | exact q_rg_up (q_rg_up (by assumption) (by omega)) (by omega) | exact q_rg_cpy (by assumption) (by assumption)), (by first | omega | assumption | exact q_rg_up (by assumption) (by omega) | exact q_rg_up (q_rg_up (by assumption) (by omega)) (by omega) | exact q_rg_cpy (by assumption) (by assumption))⟩, by omega⟩
        · intro h29
          refine Exists.intro [4, 5, 6, 7, 8, 9, 10, 11] (Exists.intro [q2 0, q1 _] (Exists.intro (wB _ _ _ _ _ _ _ _ _ _ _ _) (And.intro rfl (And.intro rfl (And.intro rfl (And.intro ⟨⟨_, rfl⟩, rfl⟩ ?_))))))
          refine Exists.intro _ (Exists.intro _ (Exists.intro _ (Exists.intro _ (Exists.intro _ (Exists.intro _ (Exists.intro _ (Exists.intro _ (Exists.intro _ (Exists.intro _ (Exists.intro _ (Exists.intro _ (Exists.intro _ (And.intro rfl (And.intro rfl (?_)))))))))))))))
          intro z35 h35
          apply And.intro
          · intro h38
            intro z60 h60
            first | replace h60 := e_add h60 (by omega) | replace h60 := e_rng h60
            exact ⟨_, ⟨_, _, _, rfl, rfl, rfl, rfl, (by first | omega | assumption | exact q_rg_up (by assumption) (by omega) | exact q_rg_up (q_rg_up (by assumption) (by omega)) (by omega) | exact q_rg_cpy (by assumption) (by assumption)), (by first | omega | assumption | exact q_rg_up (by assumption) (by omega) | exact q_rg_up (q_rg_up (by assumption) (by omega)) (by omega) | exact q_rg_cpy (by assumption) (by assumption))⟩, by omega⟩
          · intro h38
            apply And.intro
            · exact ⟨by omega, by omega⟩
            intro z46 h46
            apply And.intro
            · exact ⟨by omega, by omega⟩
            intro z53 h53
            apply And.intro
            · intro h54
              intro z60 h60
              first | replace h60 := e_add h60 (by omega) | replace h60 := e_rng h60
              exact ⟨_, ⟨_, _, _, rfl, rfl, rfl, rfl, (by first | omega | assumption | exact q_rg_up (by assumption) (by omega) | exact q_rg_up (q_rg_up (by assumption) (by omega)) (by omega) | exact q_rg_cpy (by assumption) (by assumption)), (by first | omega | assumption | exact q_rg_up (by assumption) (by omega) | exact q_rg_up (q_rg_up (by assumption) (by omega)) (by omega) | exact q_rg_cpy (by assumption) (by assumption))⟩, by omega⟩
            · intro h54
              intro z57 h57
              first | replace h57 := e_add h57 (by omega) | replace h57 := e_rng h57
              intro z60 h60
              first | replace h60 := e_add h60 (by omega) | replace h60 := e_rng h60
              exact ⟨_, ⟨_, _, _, rfl, rfl, rfl, rfl, (by first | omega | assumption | exact q_rg_up (by assumption) (by omega) | exact q_rg_up (q_rg_up (by assumption) (by omega)) (by omega) | exact q_rg_cpy (by assumption) (by assumption)), (by first | omega | assumption | exact q_rg_up (by assumption) (by omega) | exact q_rg_up (q_rg_up (by assumption) (by omega)) (by omega) | exact q_rg_cpy (by assumption) (by assumption))⟩, by omega⟩
    simp only [I_X9_couplesUp, h4, h15, if_false] at hI
  rintro lv st w' ⟨rfl, rfl, rfl⟩
  exact ⟨_, _, _, rfl, rfl, rfl, rfl, (by first | omega | assumption | exact q_rg_up (by assumption) (by omega) | exact q_rg_up (q_rg_up (by assumption) (by omega)) (by omega) | exact q_rg_cpy (by assumption) (by assumption))⟩

theorem dX9_aheadOf_0 : decode cX9_aheadOf 0 = .ok (.iconst 0, 1) := by decide +kernel
theorem dX9_aheadOf_1 : decode cX9_aheadOf 1 = .ok (.istore_n 3, 1) := by decide +kernel
theorem dX9_aheadOf_2 : decode cX9_aheadOf 2 = .ok (.iconst 0, 1) := by decide +kernel
theorem dX9_aheadOf_3 : decode cX9_aheadOf 3 = .ok (.istore 4, 2) := by decide +kernel
theorem dX9_aheadOf_5 : decode cX9_aheadOf 5 = .ok (.iload 4, 2) := by decide +kernel
theorem dX9_aheadOf_7 : decode cX9_aheadOf 7 = .ok (.aload_n 1, 1) := by decide +kernel
theorem dX9_aheadOf_8 : decode cX9_aheadOf 8 = .ok (.getfield 62, 3) := by decide +kernel
theorem dX9_aheadOf_11 : decode cX9_aheadOf 11 = .ok (.if_icmp .ge 50, 3) := by decide +kernel
theorem dX9_aheadOf_14 : decode cX9_aheadOf 14 = .ok (.aload_n 0, 1) := by decide +kernel
theorem dX9_aheadOf_15 : decode cX9_aheadOf 15 = .ok (.getfield 9, 3) := by decide +kernel
theorem dX9_aheadOf_18 : decode cX9_aheadOf 18 = .ok (.iload 4, 2) := by decide +kernel
theorem dX9_aheadOf_20 : decode cX9_aheadOf 20 = .ok (.iaload, 1) := by decide +kernel
theorem dX9_aheadOf_21 : decode cX9_aheadOf 21 = .ok (.aload_n 0, 1) := by decide +kernel
theorem dX9_aheadOf_22 : decode cX9_aheadOf 22 = .ok (.getfield 9, 3) := by decide +kernel
theorem dX9_aheadOf_25 : decode cX9_aheadOf 25 = .ok (.iload_n 2, 1) := by decide +kernel
theorem dX9_aheadOf_26 : decode cX9_aheadOf 26 = .ok (.iaload, 1) := by decide +kernel
theorem dX9_aheadOf_27 : decode cX9_aheadOf 27 = .ok (.if_icmp .gt 25, 3) := by decide +kernel
theorem dX9_aheadOf_30 : decode cX9_aheadOf 30 = .ok (.aload_n 0, 1) := by decide +kernel
theorem dX9_aheadOf_31 : decode cX9_aheadOf 31 = .ok (.getfield 9, 3) := by decide +kernel
theorem dX9_aheadOf_34 : decode cX9_aheadOf 34 = .ok (.iload 4, 2) := by decide +kernel
theorem dX9_aheadOf_36 : decode cX9_aheadOf 36 = .ok (.iaload, 1) := by decide +kernel
theorem dX9_aheadOf_37 : decode cX9_aheadOf 37 = .ok (.aload_n 0, 1) := by decide +kernel
theorem dX9_aheadOf_38 : decode cX9_aheadOf 38 = .ok (.getfield 9, 3) := by decide +kernel
theorem dX9_aheadOf_41 : decode cX9_aheadOf 41 = .ok (.iload_n 2, 1) := by decide +kernel
theorem dX9_aheadOf_42 : decode cX9_aheadOf 42 = .ok (.iaload, 1) := by decide +kernel
theorem dX9_aheadOf_43 : decode cX9_aheadOf 43 = .ok (.if_icmp .ne 12, 3) := by decide +kernel
theorem dX9_aheadOf_46 : decode cX9_aheadOf 46 = .ok (.iload 4, 2) := by decide +kernel
theorem dX9_aheadOf_48 : decode cX9_aheadOf 48 = .ok (.iload_n 2, 1) := by decide +kernel
theorem dX9_aheadOf_49 : decode cX9_aheadOf 49 = .ok (.if_icmp .ge 6, 3) := by decide +kernel
theorem dX9_aheadOf_52 : decode cX9_aheadOf 52 = .ok (.iinc 3 1, 3) := by decide +kernel
theorem dX9_aheadOf_55 : decode cX9_aheadOf 55 = .ok (.iinc 4 1, 3) := by decide +kernel
theorem dX9_aheadOf_58 : decode cX9_aheadOf 58 = .ok (.goto (-53), 3) := by decide +kernel
theorem dX9_aheadOf_61 : decode cX9_aheadOf 61 = .ok (.iload_n 3, 1) := by decide +kernel
theorem dX9_aheadOf_62 : decode cX9_aheadOf 62 = .ok (.ireturn, 1) := by decide +kernel
def is_X9_aheadOf : Nat → List Nat := fun d => if d = 5 then [0, 1, 2, 3, 4] else []
set_option maxRecDepth 100000 in
def b_X9_aheadOf_55 (J : Nat → List qV → List qV → qW → Prop) (Q : qR) : qK := x_iinc 4 1 (x_cut [0, 1, 2, 3, 4] (J 5))
set_option maxRecDepth 100000 in
theorem s_X9_aheadOf_55 {p : Program} {l : Launch} {e : Env} {R : Room} {s : State} {m : MethodId} {args : Array Value} {below : List Frame} {meth : Method} {c : Code} {nW : Nat} {dC : Nat → ClassId} {dI : Nat → Nat → Nat} {k : Nat → ClassId} {g : Nat → Nat} {A : Nat → Prop} {J : Nat → List qV → List qV → qW → Prop} {Q : qR} (X : q_X p R s m args meth c cX9_aheadOf 5 nW 0 0 RX9 (some .int) dC dI k g A) (hJ : ∀ d : Nat, q_Sd p l e R s m args below meth c 5 nW dC dI k g A (MQ below (q_post (dC, dI) k g nW Q A) args s 0 0 A) d (x_cut (is_X9_aheadOf d) (J d))) : q_Sd p l e R s m args below meth c 5 nW dC dI k g A (MQ below (q_post (dC, dI) k g nW Q A) args s 0 0 A) 55 (b_X9_aheadOf_55 J Q) := by
  unfold b_X9_aheadOf_55
  refine s_iinc X (by decide) dX9_aheadOf_55 ?_
  refine s_goto X (tgt := 5) dX9_aheadOf_58 (by decide) ?_
  exact hJ 5
set_option maxRecDepth 100000 in
def b_X9_aheadOf_52 (J : Nat → List qV → List qV → qW → Prop) (Q : qR) : qK := x_iinc 3 1 (b_X9_aheadOf_55 J Q)
set_option maxRecDepth 100000 in
theorem s_X9_aheadOf_52 {p : Program} {l : Launch} {e : Env} {R : Room} {s : State} {m : MethodId} {args : Array Value} {below : List Frame} {meth : Method} {c : Code} {nW : Nat} {dC : Nat → ClassId} {dI : Nat → Nat → Nat} {k : Nat → ClassId} {g : Nat → Nat} {A : Nat → Prop} {J : Nat → List qV → List qV → qW → Prop} {Q : qR} (X : q_X p R s m args meth c cX9_aheadOf 5 nW 0 0 RX9 (some .int) dC dI k g A) (hJ : ∀ d : Nat, q_Sd p l e R s m args below meth c 5 nW dC dI k g A (MQ below (q_post (dC, dI) k g nW Q A) args s 0 0 A) d (x_cut (is_X9_aheadOf d) (J d))) : q_Sd p l e R s m args below meth c 5 nW dC dI k g A (MQ below (q_post (dC, dI) k g nW Q A) args s 0 0 A) 52 (b_X9_aheadOf_52 J Q) := by
  unfold b_X9_aheadOf_52
  refine s_iinc X (by decide) dX9_aheadOf_52 ?_
  exact s_X9_aheadOf_55 X hJ
set_option maxRecDepth 100000 in
def b_X9_aheadOf_49 (J : Nat → List qV → List qV → qW → Prop) (Q : qR) : qK := x_icmp_ge (b_X9_aheadOf_55 J Q) (b_X9_aheadOf_52 J Q)
set_option maxRecDepth 100000 in
theorem s_X9_aheadOf_49 {p : Program} {l : Launch} {e : Env} {R : Room} {s : State} {m : MethodId} {args : Array Value} {below : List Frame} {meth : Method} {c : Code} {nW : Nat} {dC : Nat → ClassId} {dI : Nat → Nat → Nat} {k : Nat → ClassId} {g : Nat → Nat} {A : Nat → Prop} {J : Nat → List qV → List qV → qW → Prop} {Q : qR} (X : q_X p R s m args meth c cX9_aheadOf 5 nW 0 0 RX9 (some .int) dC dI k g A) (hJ : ∀ d : Nat, q_Sd p l e R s m args below meth c 5 nW dC dI k g A (MQ below (q_post (dC, dI) k g nW Q A) args s 0 0 A) d (x_cut (is_X9_aheadOf d) (J d))) : q_Sd p l e R s m args below meth c 5 nW dC dI k g A (MQ below (q_post (dC, dI) k g nW Q A) args s 0 0 A) 49 (b_X9_aheadOf_49 J Q) := by
  unfold b_X9_aheadOf_49
  refine s_icmp_ge X (tgt := 55) dX9_aheadOf_49 (by decide) ?_ ?_
  · exact s_X9_aheadOf_55 X hJ
  · exact s_X9_aheadOf_52 X hJ
set_option maxRecDepth 100000 in
def b_X9_aheadOf_5 (J : Nat → List qV → List qV → qW → Prop) (Q : qR) : qK := x_iload 4 (x_aload 1 (x_get 0 7 (x_icmp_ge (x_iload 3 (x_iret Q)) (x_aload 0 (x_get 9 0 (x_iload 4 (x_iald (x_aload 0 (x_get 9 0 (x_iload 2 (x_iald (x_icmp_gt (b_X9_aheadOf_52 J Q) (x_aload 0 (x_get 9 0 (x_iload 4 (x_iald (x_aload 0 (x_get 9 0 (x_iload 2 (x_iald (x_icmp_ne (b_X9_aheadOf_55 J Q) (x_iload 4 (x_iload 2 (b_X9_aheadOf_49 J Q))))))))))))))))))))))))
set_option maxRecDepth 100000 in
theorem s_X9_aheadOf_5 {p : Program} {l : Launch} {e : Env} {R : Room} {s : State} {m : MethodId} {args : Array Value} {below : List Frame} {meth : Method} {c : Code} {nW : Nat} {dC : Nat → ClassId} {dI : Nat → Nat → Nat} {k : Nat → ClassId} {g : Nat → Nat} {A : Nat → Prop} {J : Nat → List qV → List qV → qW → Prop} {Q : qR} (X : q_X p R s m args meth c cX9_aheadOf 5 nW 0 0 RX9 (some .int) dC dI k g A) (hJ : ∀ d : Nat, q_Sd p l e R s m args below meth c 5 nW dC dI k g A (MQ below (q_post (dC, dI) k g nW Q A) args s 0 0 A) d (x_cut (is_X9_aheadOf d) (J d))) : q_Sd p l e R s m args below meth c 5 nW dC dI k g A (MQ below (q_post (dC, dI) k g nW Q A) args s 0 0 A) 5 (b_X9_aheadOf_5 J Q) := by
  unfold b_X9_aheadOf_5
  refine s_iload X dX9_aheadOf_5 ?_
  refine s_aload_n X rfl dX9_aheadOf_7 ?_
  refine s_get X (T := TX0) (C := RX0) (N := 12) tu_X0 rfl (by decide) tw_196 dX9_aheadOf_8 ?_
  refine s_icmp_ge X (tgt := 61) dX9_aheadOf_11 (by decide) ?_ ?_
  · refine s_iload_n X rfl dX9_aheadOf_61 ?_
    exact s_iret X dX9_aheadOf_62
  · refine s_aload_n X rfl dX9_aheadOf_14 ?_
    refine s_get X (T := TX9) (C := RX9) (N := 5) tu_X9 rfl (by decide) tw_291 dX9_aheadOf_15 ?_
    refine s_iload X dX9_aheadOf_18 ?_
    refine s_iald X dX9_aheadOf_20 ?_
    refine s_aload_n X rfl dX9_aheadOf_21 ?_
    refine s_get X (T := TX9) (C := RX9) (N := 5) tu_X9 rfl (by decide) tw_291 dX9_aheadOf_22 ?_
    refine s_iload_n X rfl dX9_aheadOf_25 ?_
    refine s_iald X dX9_aheadOf_26 ?_
    refine s_icmp_gt X (tgt := 52) dX9_aheadOf_27 (by decide) ?_ ?_
    · exact s_X9_aheadOf_52 X hJ
    · refine s_aload_n X rfl dX9_aheadOf_30 ?_
      refine s_get X (T := TX9) (C := RX9) (N := 5) tu_X9 rfl (by decide) tw_291 dX9_aheadOf_31 ?_
      refine s_iload X dX9_aheadOf_34 ?_
      refine s_iald X dX9_aheadOf_36 ?_
      refine s_aload_n X rfl dX9_aheadOf_37 ?_
      refine s_get X (T := TX9) (C := RX9) (N := 5) tu_X9 rfl (by decide) tw_291 dX9_aheadOf_38 ?_
      refine s_iload_n X rfl dX9_aheadOf_41 ?_
      refine s_iald X dX9_aheadOf_42 ?_
      refine s_icmp_ne X (tgt := 55) dX9_aheadOf_43 (by decide) ?_ ?_
      · exact s_X9_aheadOf_55 X hJ
      · refine s_iload X dX9_aheadOf_46 ?_
        refine s_iload_n X rfl dX9_aheadOf_48 ?_
        exact s_X9_aheadOf_49 X hJ
set_option maxRecDepth 100000 in
def b_X9_aheadOf_0 (J : Nat → List qV → List qV → qW → Prop) (Q : qR) : qK := x_int 0 (x_istore 3 (x_int 0 (x_istore 4 (x_cut [0, 1, 2, 3, 4] (J 5)))))
set_option maxRecDepth 100000 in
theorem s_X9_aheadOf_0 {p : Program} {l : Launch} {e : Env} {R : Room} {s : State} {m : MethodId} {args : Array Value} {below : List Frame} {meth : Method} {c : Code} {nW : Nat} {dC : Nat → ClassId} {dI : Nat → Nat → Nat} {k : Nat → ClassId} {g : Nat → Nat} {A : Nat → Prop} {J : Nat → List qV → List qV → qW → Prop} {Q : qR} (X : q_X p R s m args meth c cX9_aheadOf 5 nW 0 0 RX9 (some .int) dC dI k g A) (hJ : ∀ d : Nat, q_Sd p l e R s m args below meth c 5 nW dC dI k g A (MQ below (q_post (dC, dI) k g nW Q A) args s 0 0 A) d (x_cut (is_X9_aheadOf d) (J d))) : q_Sd p l e R s m args below meth c 5 nW dC dI k g A (MQ below (q_post (dC, dI) k g nW Q A) args s 0 0 A) 0 (b_X9_aheadOf_0 J Q) := by
  unfold b_X9_aheadOf_0
  refine s_iconst X ⟨by decide, by decide⟩ dX9_aheadOf_0 ?_
  refine s_istore_n X rfl (by decide) dX9_aheadOf_1 ?_
  refine s_iconst X ⟨by decide, by decide⟩ dX9_aheadOf_2 ?_
  refine s_istore X (by decide) dX9_aheadOf_3 ?_
  exact hJ 5

def spr_X9_aheadOf : List qV → qW → (Option qV → Prop) → Prop := fun av w Q => ∃ (h1 : Nat → Int) (h2 : Nat → Int) (h3 : Nat → Int) (p0 : Int) (s0 : Int) (f1 : Nat → Int) (f2 : Nat → Int) (f3 : Nat → Int) (f4 : Nat → Int) (f5 : Nat → Int) (f6 : Nat → Int) (f7 : Nat → Int) (u0 : Int) (u1 : Int) (u2 : Int) (u3 : Int) (u4 : Int) (a : Int), av = [q2 0, q2 4, q1 a] ∧ w = (wKo 0 h1 h2 h3 p0 s0 ++ wBo 4 f1 f2 f3 f4 f5 f6 f7 u0 u1 u2 u3 u4) ∧ (0 ≤ u0 ∧ u0 ≤ 8) ∧ (0 ≤ a ∧ a < 8) ∧ (∀ (r : Int) , Q (some (q1 r)))
def sp_X9_aheadOf : qS := fun av w Q => spr_X9_aheadOf av w (fun r => Q r w)
def I_X9_aheadOf (h1 : Nat → Int) (h2 : Nat → Int) (h3 : Nat → Int) (p0 : Int) (s0 : Int) (f1 : Nat → Int) (f2 : Nat → Int) (f3 : Nat → Int) (f4 : Nat → Int) (f5 : Nat → Int) (f6 : Nat → Int) (f7 : Nat → Int) (u0 : Int) (u1 : Int) (u2 : Int) (u3 : Int) (u4 : Int) (a : Int) : Nat → Nat → List qV → List qV → qW → Prop := fun dz mz vz sz wz => if dz = 5 then (∃ (v3 : Int) (v4 : Int), vz = [q2 0, q2 4, q1 a, q1 v3, q1 v4] ∧ sz = [] ∧ wz = (wKo 0 h1 h2 h3 p0 s0 ++ wBo 4 f1 f2 f3 f4 f5 f6 f7 u0 u1 u2 u3 u4) ∧ mz = (u0 - v4).toNat ∧ (0 ≤ v4 ∧ v4 ≤ u0)) else False
set_option maxHeartbeats 4000000 in
set_option maxRecDepth 100000 in
theorem m_X9_aheadOf (l : Launch) : q_M l yX9_aheadOf cX9_aheadOf 5 (some .int) 0 0 sp_X9_aheadOf := by
  refine q_meth (by decide) (fun av w Q h => by obtain ⟨h1, h2, h3, p0, s0, f1, f2, f3, f4, f5, f6, f7, u0, u1, u2, u3, u4, a, rfl, rfl, hu0, ha, hQ⟩ := h; exact Nat.le_of_ble_eq_true rfl) ?_
  intro p e R s m args below meth c dC dI k g A av w Q hsp oka okw X
  obtain ⟨h1, h2, h3, p0, s0, f1, f2, f3, f4, f5, f6, f7, u0, u1, u2, u3, u4, a, rfl, rfl, hu0, ha, hQ⟩ := hsp
  have o_a : -2147483648 ≤ a ∧ a ≤ 2147483647 := oka _ (List.mem_of_getElem? (i := 2) rfl)
  refine s_mono (s_X9_aheadOf_0 X (J := fun dz vz sz wz => ∃ mz, I_X9_aheadOf h1 h2 h3 p0 s0 f1 f2 f3 f4 f5 f6 f7 u0 u1 u2 u3 u4 a dz mz vz sz wz) (q_loopn (I_X9_aheadOf h1 h2 h3 p0 s0 f1 f2 f3 f4 f5 f6 f7 u0 u1 u2 u3 u4 a) (fun dz J => if dz = 5 then b_X9_aheadOf_5 J Q else q_F) ?hs ?hv)) ?_
  case hs =>
    intro d J hJ
    by_cases h5 : d = 5
    · subst h5; exact s_X9_aheadOf_5 X hJ
    simp only [h5, if_false]
    exact s_F
  case hv =>
    intro dz mz vz sz wz hI okv oks okw hlen
    by_cases h5 : dz = 5
    · subst h5
      obtain ⟨v3, v4, rfl, rfl, rfl, hn, hp⟩ := hI
      apply And.intro
      · intro h11
        exact hQ _
      · intro h11
        apply And.intro
        · exact ⟨by omega, by omega⟩
        intro z20 h20
        apply And.intro
        · exact ⟨by omega, by omega⟩
        intro z26 h26
        apply And.intro
        · intro h27
          intro z52 h52
          first | replace h52 := e_add h52 (by omega) | replace h52 := e_rng h52
          intro z55 h55
          first | replace h55 := e_add h55 (by omega) | replace h55 := e_rng h55
          exact ⟨_, ⟨_, _, rfl, rfl, rfl, rfl, (by first | omega | assumption | exact q_rg_up (by assumption) (by omega) | exact q_rg_up (q_rg_up (by assumption) (by omega)) (by omega) | exact q_rg_cpy (by assumption) (by assumption))⟩, by omega⟩
        · intro h27
          apply And.intro
          · exact ⟨by omega, by omega⟩
          intro z36 h36
          apply And.intro
          · exact ⟨by omega, by omega⟩
          intro z42 h42
          apply And.intro
          · intro h43
            intro z55 h55
            first | replace h55 := e_add h55 (by omega) | replace h55 := e_rng h55
            exact ⟨_, ⟨_, _, rfl, rfl, rfl, rfl, (by first | omega | assumption | exact q_rg_up (by assumption) (by omega) | exact q_rg_up (q_rg_up (by assumption) (by omega)) (by omega) | exact q_rg_cpy (by assumption) (by assumption))⟩, by omega⟩
          · intro h43
            apply And.intro
            · intro h49
              intro z55 h55
              first | replace h55 := e_add h55 (by omega) | replace h55 := e_rng h55
              exact ⟨_, ⟨_, _, rfl, rfl, rfl, rfl, (by first | omega | assumption | exact q_rg_up (by assumption) (by omega) | exact q_rg_up (q_rg_up (by assumption) (by omega)) (by omega) | exact q_rg_cpy (by assumption) (by assumption))⟩, by omega⟩
            · intro h49
              intro z52 h52
              first | replace h52 := e_add h52 (by omega) | replace h52 := e_rng h52
              intro z55 h55
              first | replace h55 := e_add h55 (by omega) | replace h55 := e_rng h55
              exact ⟨_, ⟨_, _, rfl, rfl, rfl, rfl, (by first | omega | assumption | exact q_rg_up (by assumption) (by omega) | exact q_rg_up (q_rg_up (by assumption) (by omega)) (by omega) | exact q_rg_cpy (by assumption) (by assumption))⟩, by omega⟩
    simp only [I_X9_aheadOf, h5, if_false] at hI
  rintro lv st w' ⟨rfl, rfl, rfl⟩
  exact ⟨_, _, _, rfl, rfl, rfl, rfl, (by first | omega | assumption | exact q_rg_up (by assumption) (by omega) | exact q_rg_up (q_rg_up (by assumption) (by omega)) (by omega) | exact q_rg_cpy (by assumption) (by assumption))⟩

theorem dX9_ranked_0 : decode cX9_ranked 0 = .ok (.iconst 0, 1) := by decide +kernel
theorem dX9_ranked_1 : decode cX9_ranked 1 = .ok (.istore_n 3, 1) := by decide +kernel
theorem dX9_ranked_2 : decode cX9_ranked 2 = .ok (.iload_n 3, 1) := by decide +kernel
theorem dX9_ranked_3 : decode cX9_ranked 3 = .ok (.aload_n 1, 1) := by decide +kernel
theorem dX9_ranked_4 : decode cX9_ranked 4 = .ok (.getfield 62, 3) := by decide +kernel
theorem dX9_ranked_7 : decode cX9_ranked 7 = .ok (.if_icmp .ge 21, 3) := by decide +kernel
theorem dX9_ranked_10 : decode cX9_ranked 10 = .ok (.aload_n 0, 1) := by decide +kernel
theorem dX9_ranked_11 : decode cX9_ranked 11 = .ok (.aload_n 1, 1) := by decide +kernel
theorem dX9_ranked_12 : decode cX9_ranked 12 = .ok (.iload_n 3, 1) := by decide +kernel
theorem dX9_ranked_13 : decode cX9_ranked 13 = .ok (.invokevirtual 117, 3) := by decide +kernel
theorem dX9_ranked_16 : decode cX9_ranked 16 = .ok (.iload_n 2, 1) := by decide +kernel
theorem dX9_ranked_17 : decode cX9_ranked 17 = .ok (.if_icmp .ne 5, 3) := by decide +kernel
theorem dX9_ranked_20 : decode cX9_ranked 20 = .ok (.iload_n 3, 1) := by decide +kernel
theorem dX9_ranked_21 : decode cX9_ranked 21 = .ok (.ireturn, 1) := by decide +kernel
theorem dX9_ranked_22 : decode cX9_ranked 22 = .ok (.iinc 3 1, 3) := by decide +kernel
theorem dX9_ranked_25 : decode cX9_ranked 25 = .ok (.goto (-23), 3) := by decide +kernel
theorem dX9_ranked_28 : decode cX9_ranked 28 = .ok (.bipush (-2), 2) := by decide +kernel
theorem dX9_ranked_30 : decode cX9_ranked 30 = .ok (.ireturn, 1) := by decide +kernel
def is_X9_ranked : Nat → List Nat := fun d => if d = 2 then [0, 1, 2, 3] else []
set_option maxRecDepth 100000 in
def b_X9_ranked_2 (J : Nat → List qV → List qV → qW → Prop) (Q : qR) : qK := x_iload 3 (x_aload 1 (x_get 0 7 (x_icmp_ge (x_int (-2) (x_iret Q)) (x_aload 0 (x_aload 1 (x_iload 3 (x_callr (some 9) 3 spr_X9_aheadOf (x_iload 2 (x_icmp_ne (x_iinc 3 1 (x_cut [0, 1, 2, 3] (J 2))) (x_iload 3 (x_iret Q)))))))))))
set_option maxRecDepth 100000 in
theorem s_X9_ranked_2 {p : Program} {l : Launch} {e : Env} {R : Room} {s : State} {m : MethodId} {args : Array Value} {below : List Frame} {meth : Method} {c : Code} {nW : Nat} {dC : Nat → ClassId} {dI : Nat → Nat → Nat} {k : Nat → ClassId} {g : Nat → Nat} {A : Nat → Prop} {J : Nat → List qV → List qV → qW → Prop} {Q : qR} (X : q_X p R s m args meth c cX9_ranked 4 nW 1 24 RX9 (some .int) dC dI k g A) (hJ : ∀ d : Nat, q_Sd p l e R s m args below meth c 4 nW dC dI k g A (MQ below (q_post (dC, dI) k g nW Q A) args s 0 0 A) d (x_cut (is_X9_ranked d) (J d))) : q_Sd p l e R s m args below meth c 4 nW dC dI k g A (MQ below (q_post (dC, dI) k g nW Q A) args s 0 0 A) 2 (b_X9_ranked_2 J Q) := by
  unfold b_X9_ranked_2
  refine s_iload_n X rfl dX9_ranked_2 ?_
  refine s_aload_n X rfl dX9_ranked_3 ?_
  refine s_get X (T := TX0) (C := RX0) (N := 12) tu_X0 rfl (by decide) tw_196 dX9_ranked_4 ?_
  refine s_icmp_ge X (tgt := 28) dX9_ranked_7 (by decide) ?_ ?_
  · refine s_bipush X ⟨by decide, by decide⟩ (by decide) dX9_ranked_28 ?_
    exact s_iret X dX9_ranked_30
  · refine s_aload_n X rfl dX9_ranked_10 ?_
    refine s_aload_n X rfl dX9_ranked_11 ?_
    refine s_iload_n X rfl dX9_ranked_12 ?_
    refine s_callVr X (m_X9_aheadOf l) tw_615 tw_616 tw_1533 tw_129 tw_617 rfl (by decide +kernel) ⟨by decide, by decide⟩ dX9_ranked_13 ?_
    refine s_iload_n X rfl dX9_ranked_16 ?_
    refine s_icmp_ne X (tgt := 22) dX9_ranked_17 (by decide) ?_ ?_
    · refine s_iinc X (by decide) dX9_ranked_22 ?_
      refine s_goto X (tgt := 2) dX9_ranked_25 (by decide) ?_
      exact hJ 2
    · refine s_iload_n X rfl dX9_ranked_20 ?_
      exact s_iret X dX9_ranked_21
set_option maxRecDepth 100000 in
def b_X9_ranked_0 (J : Nat → List qV → List qV → qW → Prop) (Q : qR) : qK := x_int 0 (x_istore 3 (x_cut [0, 1, 2, 3] (J 2)))
set_option maxRecDepth 100000 in
theorem s_X9_ranked_0 {p : Program} {l : Launch} {e : Env} {R : Room} {s : State} {m : MethodId} {args : Array Value} {below : List Frame} {meth : Method} {c : Code} {nW : Nat} {dC : Nat → ClassId} {dI : Nat → Nat → Nat} {k : Nat → ClassId} {g : Nat → Nat} {A : Nat → Prop} {J : Nat → List qV → List qV → qW → Prop} {Q : qR} (X : q_X p R s m args meth c cX9_ranked 4 nW 1 24 RX9 (some .int) dC dI k g A) (hJ : ∀ d : Nat, q_Sd p l e R s m args below meth c 4 nW dC dI k g A (MQ below (q_post (dC, dI) k g nW Q A) args s 0 0 A) d (x_cut (is_X9_ranked d) (J d))) : q_Sd p l e R s m args below meth c 4 nW dC dI k g A (MQ below (q_post (dC, dI) k g nW Q A) args s 0 0 A) 0 (b_X9_ranked_0 J Q) := by
  unfold b_X9_ranked_0
  refine s_iconst X ⟨by decide, by decide⟩ dX9_ranked_0 ?_
  refine s_istore_n X rfl (by decide) dX9_ranked_1 ?_
  exact hJ 2

def spr_X9_ranked : List qV → qW → (Option qV → Prop) → Prop := fun av w Q => ∃ (h1 : Nat → Int) (h2 : Nat → Int) (h3 : Nat → Int) (p0 : Int) (s0 : Int) (f1 : Nat → Int) (f2 : Nat → Int) (f3 : Nat → Int) (f4 : Nat → Int) (f5 : Nat → Int) (f6 : Nat → Int) (f7 : Nat → Int) (u0 : Int) (u1 : Int) (u2 : Int) (u3 : Int) (u4 : Int) (a : Int), av = [q2 0, q2 4, q1 a] ∧ w = (wKo 0 h1 h2 h3 p0 s0 ++ wBo 4 f1 f2 f3 f4 f5 f6 f7 u0 u1 u2 u3 u4) ∧ (0 ≤ u0 ∧ u0 ≤ 8) ∧ (∀ (r : Int) , Q (some (q1 r)))
def sp_X9_ranked : qS := fun av w Q => spr_X9_ranked av w (fun r => Q r w)
def I_X9_ranked (h1 : Nat → Int) (h2 : Nat → Int) (h3 : Nat → Int) (p0 : Int) (s0 : Int) (f1 : Nat → Int) (f2 : Nat → Int) (f3 : Nat → Int) (f4 : Nat → Int) (f5 : Nat → Int) (f6 : Nat → Int) (f7 : Nat → Int) (u0 : Int) (u1 : Int) (u2 : Int) (u3 : Int) (u4 : Int) (a : Int) : Nat → Nat → List qV → List qV → qW → Prop := fun dz mz vz sz wz => if dz = 2 then (∃ (v3 : Int), vz = [q2 0, q2 4, q1 a, q1 v3] ∧ sz = [] ∧ wz = (wKo 0 h1 h2 h3 p0 s0 ++ wBo 4 f1 f2 f3 f4 f5 f6 f7 u0 u1 u2 u3 u4) ∧ mz = (u0 - v3).toNat ∧ (0 ≤ v3 ∧ v3 ≤ u0)) else False
set_option maxHeartbeats 4000000 in
set_option maxRecDepth 100000 in
theorem m_X9_ranked (l : Launch) : q_M l yX9_ranked cX9_ranked 4 (some .int) 1 24 sp_X9_ranked := by
  refine q_meth (by decide) (fun av w Q h => by obtain ⟨h1, h2, h3, p0, s0, f1, f2, f3, f4, f5, f6, f7, u0, u1, u2, u3, u4, a, rfl, rfl, hu0, hQ⟩ := h; exact Nat.le_of_ble_eq_true rfl) ?_
  intro p e R s m args below meth c dC dI k g A av w Q hsp oka okw X
  obtain ⟨h1, h2, h3, p0, s0, f1, f2, f3, f4, f5, f6, f7, u0, u1, u2, u3, u4, a, rfl, rfl, hu0, hQ⟩ := hsp
  have o_a : -2147483648 ≤ a ∧ a ≤ 2147483647 := oka _ (List.mem_of_getElem? (i := 2) rfl)
  refine s_mono (s_X9_ranked_0 X (J := fun dz vz sz wz => ∃ mz, I_X9_ranked h1 h2 h3 p0 s0 f1 f2 f3 f4 f5 f6 f7 u0 u1 u2 u3 u4 a dz mz vz sz wz) (q_loopn (I_X9_ranked h1 h2 h3 p0 s0 f1 f2 f3 f4 f5 f6 f7 u0 u1 u2 u3 u4 a) (fun dz J => if dz = 2 then b_X9_ranked_2 J Q else q_F) ?hs ?hv)) ?_
  case hs =>
    intro d J hJ
    by_cases h2 : d = 2
    · subst h2; exact s_X9_ranked_2 X hJ
    simp only [h2, if_false]
    exact s_F
  case hv =>
    intro dz mz vz sz wz hI okv oks okw hlen
    by_cases h2 : dz = 2
    · subst h2
      obtain ⟨v3, rfl, rfl, rfl, hn, hp⟩ := hI
      apply And.intro
      · intro h7
        exact hQ _
      · intro h7
        refine Exists.intro [0, 1, 2, 3, 4, 5, 6, 7, 8, 9, 10, 11] (Exists.intro [q2 0, q2 4, q1 _] (Exists.intro ((wKo 0 _ _ _ _ _ ++ wBo 4 _ _ _ _ _ _ _ _ _ _ _ _)) (And.intro rfl (And.intro rfl (And.intro rfl (And.intro ⟨⟨_, rfl⟩, rfl⟩ ?_))))))
        refine Exists.intro _ (Exists.intro _ (Exists.intro _ (Exists.intro _ (Exists.intro _ (Exists.intro _ (Exists.intro _ (Exists.intro _ (Exists.intro _ (Exists.intro _ (Exists.intro _ (Exists.intro _ (Exists.intro _ (Exists.intro _ (Exists.intro _ (Exists.intro _ (Exists.intro _ (Exists.intro _ (And.intro rfl (And.intro rfl (And.intro (by first | omega | assumption | exact q_rg_up (by assumption) (by omega) | exact q_rg_up (q_rg_up (by assumption) (by omega)) (by omega) | exact q_rg_cpy (by assumption) (by assumption)) (And.intro (by first | omega | assumption | exact q_rg_up (by assumption) (by omega) | exact q_rg_up (q_rg_up (by assumption) (by omega)) (by omega) | exact q_rg_cpy (by assumption) (by assumption)) (?_))))))))))))))))))))))
        intro z13
        apply And.intro
        · intro h17
          intro z22 h22
          first | replace h22 := e_add h22 (by omega) | replace h22 := e_rng h22
          exact ⟨_, ⟨_, rfl, rfl, rfl, rfl, (by first | omega | assumption | exact q_rg_up (by assumption) (by omega) | exact q_rg_up (q_rg_up (by assumption) (by omega)) (by omega) | exact q_rg_cpy (by assumption) (by assumption))⟩, by omega⟩
        · intro h17
          exact hQ _
    simp only [I_X9_ranked, h2, if_false] at hI
  rintro lv st w' ⟨rfl, rfl, rfl⟩
  exact ⟨_, _, rfl, rfl, rfl, rfl, (by first | omega | assumption | exact q_rg_up (by assumption) (by omega) | exact q_rg_up (q_rg_up (by assumption) (by omega)) (by omega) | exact q_rg_cpy (by assumption) (by assumption))⟩
