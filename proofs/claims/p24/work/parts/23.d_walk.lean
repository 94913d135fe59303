theorem dX9_look_0 : decode cX9_look 0 = .ok (.iload_n 2, 1) := by decide +kernel
theorem dX9_look_1 : decode cX9_look 1 = .ok (.bipush 10, 2) := by decide +kernel
theorem dX9_look_3 : decode cX9_look 3 = .ok (.if_icmp .lt 24, 3) := by decide +kernel
theorem dX9_look_6 : decode cX9_look 6 = .ok (.aload_n 1, 1) := by decide +kernel
theorem dX9_look_7 : decode cX9_look 7 = .ok (.iload_n 2, 1) := by decide +kernel
theorem dX9_look_8 : decode cX9_look 8 = .ok (.bipush 10, 2) := by decide +kernel
theorem dX9_look_10 : decode cX9_look 10 = .ok (.isub, 1) := by decide +kernel
theorem dX9_look_11 : decode cX9_look 11 = .ok (.invokevirtual 70, 3) := by decide +kernel
theorem dX9_look_14 : decode cX9_look 14 = .ok (.ifCond .eq 13, 3) := by decide +kernel
theorem dX9_look_17 : decode cX9_look 17 = .ok (.aload_n 0, 1) := by decide +kernel
theorem dX9_look_18 : decode cX9_look 18 = .ok (.getfield 9, 3) := by decide +kernel
theorem dX9_look_21 : decode cX9_look 21 = .ok (.iload_n 2, 1) := by decide +kernel
theorem dX9_look_22 : decode cX9_look 22 = .ok (.bipush 10, 2) := by decide +kernel
theorem dX9_look_24 : decode cX9_look 24 = .ok (.isub, 1) := by decide +kernel
theorem dX9_look_25 : decode cX9_look 25 = .ok (.iaload, 1) := by decide +kernel
theorem dX9_look_26 : decode cX9_look 26 = .ok (.ireturn, 1) := by decide +kernel
theorem dX9_look_27 : decode cX9_look 27 = .ok (.iload_n 2, 1) := by decide +kernel
theorem dX9_look_28 : decode cX9_look 28 = .ok (.bipush 20, 2) := by decide +kernel
theorem dX9_look_30 : decode cX9_look 30 = .ok (.if_icmp .lt 24, 3) := by decide +kernel
theorem dX9_look_33 : decode cX9_look 33 = .ok (.aload_n 1, 1) := by decide +kernel
theorem dX9_look_34 : decode cX9_look 34 = .ok (.iload_n 2, 1) := by decide +kernel
theorem dX9_look_35 : decode cX9_look 35 = .ok (.bipush 20, 2) := by decide +kernel
theorem dX9_look_37 : decode cX9_look 37 = .ok (.isub, 1) := by decide +kernel
theorem dX9_look_38 : decode cX9_look 38 = .ok (.invokevirtual 70, 3) := by decide +kernel
theorem dX9_look_41 : decode cX9_look 41 = .ok (.ifCond .eq 13, 3) := by decide +kernel
theorem dX9_look_44 : decode cX9_look 44 = .ok (.aload_n 0, 1) := by decide +kernel
theorem dX9_look_45 : decode cX9_look 45 = .ok (.aload_n 1, 1) := by decide +kernel
theorem dX9_look_46 : decode cX9_look 46 = .ok (.iload_n 2, 1) := by decide +kernel
theorem dX9_look_47 : decode cX9_look 47 = .ok (.bipush 20, 2) := by decide +kernel
theorem dX9_look_49 : decode cX9_look 49 = .ok (.isub, 1) := by decide +kernel
theorem dX9_look_50 : decode cX9_look 50 = .ok (.invokevirtual 106, 3) := by decide +kernel
theorem dX9_look_53 : decode cX9_look 53 = .ok (.ireturn, 1) := by decide +kernel
theorem dX9_look_54 : decode cX9_look 54 = .ok (.iload_n 2, 1) := by decide +kernel
theorem dX9_look_55 : decode cX9_look 55 = .ok (.tableswitch 54 0 3 #[29, 34, 41, 48], 29) := by decide +kernel
theorem dX9_look_84 : decode cX9_look 84 = .ok (.aload_n 0, 1) := by decide +kernel
theorem dX9_look_85 : decode cX9_look 85 = .ok (.getfield 30, 3) := by decide +kernel
theorem dX9_look_88 : decode cX9_look 88 = .ok (.ireturn, 1) := by decide +kernel
theorem dX9_look_89 : decode cX9_look 89 = .ok (.aload_n 0, 1) := by decide +kernel
theorem dX9_look_90 : decode cX9_look 90 = .ok (.aload_n 1, 1) := by decide +kernel
theorem dX9_look_91 : decode cX9_look 91 = .ok (.iconst (-1), 1) := by decide +kernel
theorem dX9_look_92 : decode cX9_look 92 = .ok (.invokevirtual 110, 3) := by decide +kernel
theorem dX9_look_95 : decode cX9_look 95 = .ok (.ireturn, 1) := by decide +kernel
theorem dX9_look_96 : decode cX9_look 96 = .ok (.aload_n 0, 1) := by decide +kernel
theorem dX9_look_97 : decode cX9_look 97 = .ok (.aload_n 1, 1) := by decide +kernel
theorem dX9_look_98 : decode cX9_look 98 = .ok (.iconst 1, 1) := by decide +kernel
theorem dX9_look_99 : decode cX9_look 99 = .ok (.invokevirtual 110, 3) := by decide +kernel
theorem dX9_look_102 : decode cX9_look 102 = .ok (.ireturn, 1) := by decide +kernel
theorem dX9_look_103 : decode cX9_look 103 = .ok (.aload_n 0, 1) := by decide +kernel
theorem dX9_look_104 : decode cX9_look 104 = .ok (.aload_n 1, 1) := by decide +kernel
theorem dX9_look_105 : decode cX9_look 105 = .ok (.invokevirtual 113, 3) := by decide +kernel
theorem dX9_look_108 : decode cX9_look 108 = .ok (.ireturn, 1) := by decide +kernel
theorem dX9_look_109 : decode cX9_look 109 = .ok (.bipush (-2), 2) := by decide +kernel
theorem dX9_look_111 : decode cX9_look 111 = .ok (.ireturn, 1) := by decide +kernel
def is_X9_look : Nat → List Nat := fun d => []
set_option maxRecDepth 100000 in
def b_X9_look_54 (J : Nat → List qV → List qV → qW → Prop) (Q : qR) : qK := x_iload 2 (x_sw 0 3 [x_aload 0 (x_get 9 3 (x_iret Q)), x_aload 0 (x_aload 1 (x_int (-1) (x_callr (some 9) 3 spr_X9_changed (x_iret Q)))), x_aload 0 (x_aload 1 (x_int 1 (x_callr (some 9) 3 spr_X9_changed (x_iret Q)))), x_aload 0 (x_aload 1 (x_callr (some 9) 2 spr_X9_couplesUp (x_iret Q)))] (x_int (-2) (x_iret Q)))
set_option maxRecDepth 100000 in
theorem s_X9_look_54 {p : Program} {l : Launch} {e : Env} {R : Room} {s : State} {m : MethodId} {args : Array Value} {below : List Frame} {meth : Method} {c : Code} {nW : Nat} {dC : Nat → ClassId} {dI : Nat → Nat → Nat} {k : Nat → ClassId} {g : Nat → Nat} {A : Nat → Prop} {J : Nat → List qV → List qV → qW → Prop} {Q : qR} (X : q_X p R s m args meth c cX9_look 3 nW 2 47 RX9 (some .int) dC dI k g A) (hJ : ∀ d : Nat, q_Sd p l e R s m args below meth c 3 nW dC dI k g A (MQ below (q_post (dC, dI) k g nW Q A) args s 0 0 A) d (x_cut (is_X9_look d) (J d))) : q_Sd p l e R s m args below meth c 3 nW dC dI k g A (MQ below (q_post (dC, dI) k g nW Q A) args s 0 0 A) 54 (b_X9_look_54 J Q) := by
  unfold b_X9_look_54
  refine s_iload_n X rfl dX9_look_54 ?_
  refine s_sw X (ts := [84, 89, 96, 103]) (td := 109) dX9_look_55 (by decide) (by decide) (by decide) rfl ?_ ?_
  · intro i t K ht hK
    match i, ht, hK with
    | 0, ht, hK =>
      cases ht
      cases hK
      refine s_aload_n X rfl dX9_look_84 ?_
      refine s_get X (T := TX9) (C := RX9) (N := 5) tu_X9 rfl (by decide) tw_294 dX9_look_85 ?_
      exact s_iret X dX9_look_88
    | 1, ht, hK =>
      cases ht
      cases hK
      refine s_aload_n X rfl dX9_look_89 ?_
      refine s_aload_n X rfl dX9_look_90 ?_
      refine s_iconst X ⟨by decide, by decide⟩ dX9_look_91 ?_
      refine s_callVr X (m_X9_changed l) tw_618 tw_619 tw_1537 tw_129 tw_620 rfl (by decide +kernel) ⟨by decide, by decide⟩ dX9_look_92 ?_
      exact s_iret X dX9_look_95
    | 2, ht, hK =>
      cases ht
      cases hK
      refine s_aload_n X rfl dX9_look_96 ?_
      refine s_aload_n X rfl dX9_look_97 ?_
      refine s_iconst X ⟨by decide, by decide⟩ dX9_look_98 ?_
      refine s_callVr X (m_X9_changed l) tw_618 tw_619 tw_1537 tw_129 tw_620 rfl (by decide +kernel) ⟨by decide, by decide⟩ dX9_look_99 ?_
      exact s_iret X dX9_look_102
    | 3, ht, hK =>
      cases ht
      cases hK
      refine s_aload_n X rfl dX9_look_103 ?_
      refine s_aload_n X rfl dX9_look_104 ?_
      refine s_callVr X (m_X9_couplesUp l) tw_621 tw_622 tw_1538 tw_129 tw_623 rfl (by decide +kernel) ⟨by decide, by decide⟩ dX9_look_105 ?_
      exact s_iret X dX9_look_108
    | i + 4, ht, hK => exact absurd ht (by simp)
  · refine s_bipush X ⟨by decide, by decide⟩ (by decide) dX9_look_109 ?_
    exact s_iret X dX9_look_111
set_option maxRecDepth 100000 in
def b_X9_look_27 (J : Nat → List qV → List qV → qW → Prop) (Q : qR) : qK := x_iload 2 (x_int 20 (x_icmp_lt (b_X9_look_54 J Q) (x_aload 1 (x_iload 2 (x_int 20 (x_isub (x_callr (some 0) 2 spr_X0_has (x_if_eq (b_X9_look_54 J Q) (x_aload 0 (x_aload 1 (x_iload 2 (x_int 20 (x_isub (x_callr (some 9) 3 spr_X9_ranked (x_iret Q)))))))))))))))
set_option maxRecDepth 100000 in
theorem s_X9_look_27 {p : Program} {l : Launch} {e : Env} {R : Room} {s : State} {m : MethodId} {args : Array Value} {below : List Frame} {meth : Method} {c : Code} {nW : Nat} {dC : Nat → ClassId} {dI : Nat → Nat → Nat} {k : Nat → ClassId} {g : Nat → Nat} {A : Nat → Prop} {J : Nat → List qV → List qV → qW → Prop} {Q : qR} (X : q_X p R s m args meth c cX9_look 3 nW 2 47 RX9 (some .int) dC dI k g A) (hJ : ∀ d : Nat, q_Sd p l e R s m args below meth c 3 nW dC dI k g A (MQ below (q_post (dC, dI) k g nW Q A) args s 0 0 A) d (x_cut (is_X9_look d) (J d))) : q_Sd p l e R s m args below meth c 3 nW dC dI k g A (MQ below (q_post (dC, dI) k g nW Q A) args s 0 0 A) 27 (b_X9_look_27 J Q) := by
  unfold b_X9_look_27
  refine s_iload_n X rfl dX9_look_27 ?_
  refine s_bipush X ⟨by decide, by decide⟩ (by decide) dX9_look_28 ?_
  refine s_icmp_lt X (tgt := 54) dX9_look_30 (by decide) ?_ ?_
  · exact s_X9_look_54 X hJ
  · refine s_aload_n X rfl dX9_look_33 ?_
    refine s_iload_n X rfl dX9_look_34 ?_
    refine s_bipush X ⟨by decide, by decide⟩ (by decide) dX9_look_35 ?_
    refine s_isub X dX9_look_37 ?_
    refine s_callVr X (m_X0_has l) tw_582 tw_399 tw_400 tw_122 tw_401 rfl (by decide +kernel) ⟨by decide, by decide⟩ dX9_look_38 ?_
    refine s_if_eq X (tgt := 54) dX9_look_41 (by decide) ?_ ?_
    · exact s_X9_look_54 X hJ
    · refine s_aload_n X rfl dX9_look_44 ?_
      refine s_aload_n X rfl dX9_look_45 ?_
      refine s_iload_n X rfl dX9_look_46 ?_
      refine s_bipush X ⟨by decide, by decide⟩ (by decide) dX9_look_47 ?_
      refine s_isub X dX9_look_49 ?_
      refine s_callVr X (m_X9_ranked l) tw_612 tw_613 tw_1543 tw_129 tw_614 rfl (by decide +kernel) ⟨by decide, by decide⟩ dX9_look_50 ?_
      exact s_iret X dX9_look_53
set_option maxRecDepth 100000 in
def b_X9_look_0 (J : Nat → List qV → List qV → qW → Prop) (Q : qR) : qK := x_iload 2 (x_int 10 (x_icmp_lt (b_X9_look_27 J Q) (x_aload 1 (x_iload 2 (x_int 10 (x_isub (x_callr (some 0) 2 spr_X0_has (x_if_eq (b_X9_look_27 J Q) (x_aload 0 (x_get 9 0 (x_iload 2 (x_int 10 (x_isub (x_iald (x_iret Q)))))))))))))))
set_option maxRecDepth 100000 in
theorem s_X9_look_0 {p : Program} {l : Launch} {e : Env} {R : Room} {s : State} {m : MethodId} {args : Array Value} {below : List Frame} {meth : Method} {c : Code} {nW : Nat} {dC : Nat → ClassId} {dI : Nat → Nat → Nat} {k : Nat → ClassId} {g : Nat → Nat} {A : Nat → Prop} {J : Nat → List qV → List qV → qW → Prop} {Q : qR} (X : q_X p R s m args meth c cX9_look 3 nW 2 47 RX9 (some .int) dC dI k g A) (hJ : ∀ d : Nat, q_Sd p l e R s m args below meth c 3 nW dC dI k g A (MQ below (q_post (dC, dI) k g nW Q A) args s 0 0 A) d (x_cut (is_X9_look d) (J d))) : q_Sd p l e R s m args below meth c 3 nW dC dI k g A (MQ below (q_post (dC, dI) k g nW Q A) args s 0 0 A) 0 (b_X9_look_0 J Q) := by
  unfold b_X9_look_0
  refine s_iload_n X rfl dX9_look_0 ?_
  refine s_bipush X ⟨by decide, by decide⟩ (by decide) dX9_look_1 ?_
  refine s_icmp_lt X (tgt := 27) dX9_look_3 (by decide) ?_ ?_
  · exact s_X9_look_27 X hJ
  · refine s_aload_n X rfl dX9_look_6 ?_
    refine s_iload_n X rfl dX9_look_7 ?_
    refine s_bipush X ⟨by decide, by decide⟩ (by decide) dX9_look_8 ?_
    refine s_isub X dX9_look_10 ?_
    refine s_callVr X (m_X0_has l) tw_582 tw_399 tw_400 tw_122 tw_401 rfl (by decide +kernel) ⟨by decide, by decide⟩ dX9_look_11 ?_
    refine s_if_eq X (tgt := 27) dX9_look_14 (by decide) ?_ ?_
    · exact s_X9_look_27 X hJ
    · refine s_aload_n X rfl dX9_look_17 ?_
      refine s_get X (T := TX9) (C := RX9) (N := 5) tu_X9 rfl (by decide) tw_291 dX9_look_18 ?_
      refine s_iload_n X rfl dX9_look_21 ?_
      refine s_bipush X ⟨by decide, by decide⟩ (by decide) dX9_look_22 ?_
      refine s_isub X dX9_look_24 ?_
      refine s_iald X dX9_look_25 ?_
      exact s_iret X dX9_look_26

def spr_X9_look : List qV → qW → (Option qV → Prop) → Prop := fun av w Q => ∃ (h1 : Nat → Int) (h2 : Nat → Int) (h3 : Nat → Int) (p0 : Int) (s0 : Int) (f1 : Nat → Int) (f2 : Nat → Int) (f3 : Nat → Int) (f4 : Nat → Int) (f5 : Nat → Int) (f6 : Nat → Int) (f7 : Nat → Int) (u0 : Int) (u1 : Int) (u2 : Int) (u3 : Int) (u4 : Int) (a : Int), av = [q2 0, q2 4, q1 a] ∧ w = (wKo 0 h1 h2 h3 p0 s0 ++ wBo 4 f1 f2 f3 f4 f5 f6 f7 u0 u1 u2 u3 u4) ∧ (0 ≤ u0 ∧ u0 ≤ 8) ∧ (∀ (r : Int) , Q (some (q1 r)))
def sp_X9_look : qS := fun av w Q => spr_X9_look av w (fun r => Q r w)
set_option maxHeartbeats 4000000 in
set_option maxRecDepth 100000 in
theorem m_X9_look (l : Launch) : q_M l yX9_look cX9_look 3 (some .int) 2 47 sp_X9_look := by
  refine q_meth (by decide) (fun av w Q h => by obtain ⟨h1, h2, h3, p0, s0, f1, f2, f3, f4, f5, f6, f7, u0, u1, u2, u3, u4, a, rfl, rfl, hu0, hQ⟩ := h; exact Nat.le_of_ble_eq_true rfl) ?_
  intro p e R s m args below meth c dC dI k g A av w Q hsp oka okw X
  obtain ⟨h1, h2, h3, p0, s0, f1, f2, f3, f4, f5, f6, f7, u0, u1, u2, u3, u4, a, rfl, rfl, hu0, hQ⟩ := hsp
  have o_a : -2147483648 ≤ a ∧ a ≤ 2147483647 := oka _ (List.mem_of_getElem? (i := 2) rfl)
  refine s_mono (s_X9_look_0 X (J := fun _ _ _ _ => False) (fun d => s_cutF)) ?_
  rintro lv st w' ⟨rfl, rfl, rfl⟩
  apply And.intro
  · intro h3
    apply And.intro
    · intro h30
      apply And.intro
      · apply And.intro
        · intro h55
          exact hQ _
        apply And.intro
        · intro h55
          refine Exists.intro [0, 1, 2, 3, 4, 5, 6, 7, 8, 9, 10, 11] (Exists.intro [q2 0, q2 4, q1 _] (Exists.intro ((wKo 0 _ _ _ _ _ ++ wBo 4 _ _ _ _ _ _ _ _ _ _ _ _)) (And.intro rfl (And.intro rfl (And.intro rfl (And.intro ⟨⟨_, rfl⟩, rfl⟩ ?_))))))
          refine Exists.intro _ (Exists.intro _ (Exists.intro _ (Exists.intro _ (Exists.intro _ (Exists.intro _ (Exists.intro _ (Exists.intro _ (Exists.intro _ (Exists.intro _ (Exists.intro _ (Exists.intro _ (Exists.intro _ (Exists.intro _ (Exists.intro _ (Exists.intro _ (Exists.intro _ (Exists.intro _ (And.intro rfl (And.intro rfl (And.intro (by first | omega | assumption | exact q_rg_up (by assumption) (by omega) | exact q_rg_up (q_rg_up (by assumption) (by omega)) (by omega) | exact q_rg_cpy (by assumption) (by assumption)) (?_)))))))))))))))))))))
          intro z92
          exact hQ _
        apply And.intro
        · intro h55
          refine Exists.intro [0, 1, 2, 3, 4, 5, 6, 7, 8, 9, 10, 11] (Exists.intro [q2 0, q2 4, q1 _] (Exists.intro ((wKo 0 _ _ _ _ _ ++ wBo 4 _ _ _ _ _ _ _ _ _ _ _ _)) (And.intro rfl (And.intro rfl (And.intro rfl (And.intro ⟨⟨_, rfl⟩, rfl⟩ ?_))))))
          refine Exists.intro _ (Exists.intro _ (Exists.intro _ (Exists.intro _ (Exists.intro _ (Exists.intro _ (Exists.intro _ (Exists.intro _ (Exists.intro _ (Exists.intro _ (Exists.intro _ (Exists.intro _ (Exists.intro _ (Exists.intro _ (Exists.intro _ (Exists.intro _ (Exists.intro _ (Exists.intro _ (And.intro rfl (And.intro rfl (And.intro (by first | omega | assumption | exact q_rg_up (by assumption) (by omega) | exact q_rg_up (q_rg_up (by assumption) (by omega)) (by omega) | exact q_rg_cpy (by assumption) (by assumption)) (?_)))))))))))))))))))))
          intro z99
          exact hQ _
        apply And.intro
        · intro h55
          refine Exists.intro [0, 1, 2, 3, 4, 5, 6, 7, 8, 9, 10, 11] (Exists.intro [q2 0, q2 4] (Exists.intro ((wKo 0 _ _ _ _ _ ++ wBo 4 _ _ _ _ _ _ _ _ _ _ _ _)) (And.intro rfl (And.intro rfl (And.intro rfl (And.intro ⟨⟨_, rfl⟩, rfl⟩ ?_))))))
          refine Exists.intro _ (Exists.intro _ (Exists.intro _ (Exists.intro _ (Exists.intro _ (Exists.intro _ (Exists.intro _ (Exists.intro _ (Exists.intro _ (Exists.intro _ (Exists.intro _ (Exists.intro _ (Exists.intro _ (Exists.intro _ (Exists.intro _ (Exists.intro _ (Exists.intro _ (And.intro rfl (And.intro rfl (And.intro (by first | omega | assumption | exact q_rg_up (by assumption) (by omega) | exact q_rg_up (q_rg_up (by assumption) (by omega)) (by omega) | exact q_rg_cpy (by assumption) (by assumption)) (?_))))))))))))))))))))
          intro z105
          exact hQ _
        exact trivial
      · intro h55
        exact hQ _
    · intro h30
      intro z37 h37
      first | replace h37 := e_sub h37 (by omega) | replace h37 := e_rng h37
      refine Exists.intro [4, 5, 6, 7, 8, 9, 10, 11] (Exists.intro [q2 0, q1 _] (Exists.intro (wB _ _ _ _ _ _ _ _ _ _ _ _) (And.intro rfl (And.intro rfl (And.intro rfl (And.intro ⟨⟨_, rfl⟩, rfl⟩ ?_))))))
      refine Exists.intro _ (Exists.intro _ (Exists.intro _ (Exists.intro _ (Exists.intro _ (Exists.intro _ (Exists.intro _ (Exists.intro _ (Exists.intro _ (Exists.intro _ (Exists.intro _ (Exists.intro _ (Exists.intro _ (And.intro rfl (And.intro rfl (?_)))))))))))))))
      intro z38 h38
      apply And.intro
      · intro h41
        apply And.intro
        · apply And.intro
          · intro h55
            exact hQ _
          apply And.intro
          · intro h55
            refine Exists.intro [0, 1, 2, 3, 4, 5, 6, 7, 8, 9, 10, 11] (Exists.intro [q2 0, q2 4, q1 _] (Exists.intro ((wKo 0 _ _ _ _ _ ++ wBo 4 _ _ _ _ _ _ _ _ _ _ _ _)) (And.intro rfl (And.intro rfl (And.intro rfl (And.intro ⟨⟨_, rfl⟩, rfl⟩ ?_))))))
            refine Exists.intro _ (Exists.intro _ (Exists.intro _ (Exists.intro _ (Exists.intro _ (Exists.intro _ (Exists.intro _ (Exists.intro _ (Exists.intro _ (Exists.intro _ (Exists.intro _ (Exists.intro _ (Exists.intro _ (Exists.intro _ (Exists.intro _ (Exists.intro _ (Exists.intro _ (Exists.intro _ (And.intro rfl (And.intro rfl (And.intro (by first | omega | assumption | exact q_rg_up (by assumption) (by omega) | exact q_rg_up (q_rg_up (by assumption) (by omega)) (by omega) | exact q_rg_cpy (by assumption) (by assumption)) (?_)))))))))))))))))))))
            intro z92
            exact hQ _
          apply And.intro
          · intro h55
            refine Exists.intro [0, 1, 2, 3, 4, 5, 6, 7, 8, 9, 10, 11] (Exists.intro [q2 0, q2 4, q1 _] (Exists.intro ((wKo 0 _ _ _ _ _ ++ wBo 4 _ _ _ _ _ _ _ _ _ _ _ _)) (And.intro rfl (And.intro rfl (And.intro rfl (And.intro ⟨⟨_, rfl⟩, rfl⟩ ?_))))))
            refine Exists.intro _ (Exists.intro _ (Exists.intro _ (Exists.intro _ (Exists.intro _ (Exists.intro _ (Exists.intro _ (Exists.intro _ (Exists.intro _ (Exists.intro _ (Exists.intro _ (Exists.intro _ (Exists.intro _ (Exists.intro _ (Exists.intro _ (Exists.intro _ (Exists.intro _ (Exists.intro _ (And.intro rfl (And.intro rfl (And.intro (by first | omega | assumption | exact q_rg_up (by assumption) (by omega) | exact q_rg_up (q_rg_up (by assumption) (by omega)) (by omega) | exact q_rg_cpy (by assumption) (by assumption)) (?_)))))))))))))))))))))
            intro z99
            exact hQ _
          apply And.intro
          · intro h55
            refine Exists.intro [0, 1, 2, 3, 4, 5, 6, 7, 8, 9, 10, 11] (Exists.intro [q2 0, q2 4] (Exists.intro ((wKo 0 _ _ _ _ _ ++ wBo 4 _ _ _ _ _ _ _ _ _ _ _ _)) (And.intro rfl (And.intro rfl (And.intro rfl (And.intro ⟨⟨_, rfl⟩, rfl⟩ ?_))))))
            refine Exists.intro _ (Exists.intro _ (Exists.intro _ (Exists.intro _ (Exists.intro _ (Exists.intro _ (Exists.intro _ (Exists.intro _ (Exists.intro _ (Exists.intro _ (Exists.intro _ (Exists.intro _ (Exists.intro _ (Exists.intro _ (Exists.intro _ (Exists.intro _ (Exists.intro _ (And.intro rfl (And.intro rfl (And.intro (by first | omega | assumption | exact q_rg_up (by assumption) (by omega) | exact q_rg_up (q_rg_up (by assumption) (by omega)) (by omega) | exact q_rg_cpy (by assumption) (by assumption)) (?_))))))))))))))))))))
            intro z105
            exact hQ _
          exact trivial
        · intro h55
          exact hQ _
      · intro h41
        intro z49 h49
        first | replace h49 := e_sub h49 (by omega) | replace h49 := e_rng h49
        refine Exists.intro [0, 1, 2, 3, 4, 5, 6, 7, 8, 9, 10, 11] (Exists.intro [q2 0, q2 4, q1 _] (Exists.intro ((wKo 0 _ _ _ _ _ ++ wBo 4 _ _ _ _ _ _ _ _ _ _ _ _)) (And.intro rfl (And.intro rfl (And.intro rfl (And.intro ⟨⟨_, rfl⟩, rfl⟩ ?_))))))
        refine Exists.intro _ (Exists.intro _ (Exists.intro _ (Exists.intro _ (Exists.intro _ (Exists.intro _ (Exists.intro _ (Exists.intro _ (Exists.intro _ (Exists.intro _ (Exists.intro _ (Exists.intro _ (Exists.intro _ (Exists.intro _ (Exists.intro _ (Exists.intro _ (Exists.intro _ (Exists.intro _ (And.intro rfl (And.intro rfl (And.intro (by first | omega | assumption | exact q_rg_up (by assumption) (by omega) | exact q_rg_up (q_rg_up (by assumption) (by omega)) (by omega) | exact q_rg_cpy (by assumption) (by assumption)) (?_)))))))))))))))))))))
        intro z50
        exact hQ _
  · intro h3
    intro z10 h10
    first | replace h10 := e_sub h10 (by omega) | replace h10 := e_rng h10
    refine Exists.intro [4, 5, 6, 7, 8, 9, 10, 11] (Exists.intro [q2 0, q1 _] (Exists.intro (wB _ _ _ _ _ _ _ _ _ _ _ _) (And.intro rfl (And.intro rfl (And.intro rfl (And.intro ⟨⟨_, rfl⟩, rfl⟩ ?_))))))
    refine Exists.intro _ (Exists.intro _ (Exists.intro _ (Exists.intro _ (Exists.intro _ (Exists.intro _ (Exists.intro _ (Exists.intro _ (Exists.intro _ (Exists.intro _ (Exists.intro _ (Exists.intro _ (Exists.intro _ (And.intro rfl (And.intro rfl (?_)))))))))))))))
    intro z11 h11
    apply And.intro
    · intro h14
      apply And.intro
      · intro h30
        apply And.intro
        · apply And.intro
          · intro h55
            exact hQ _
          apply And.intro
          · intro h55
            refine Exists.intro [0, 1, 2, 3, 4, 5, 6, 7, 8, 9, 10, 11] (Exists.intro [q2 0, q2 4, q1 _] (Exists.intro ((wKo 0 _ _ _ _ _ ++ wBo 4 _ _ _ _ _ _ _ _ _ _ _ _)) (And.intro rfl (And.intro rfl (And.intro rfl (And.intro ⟨⟨_, rfl⟩, rfl⟩ ?_))))))
            refine Exists.intro _ (Exists.intro _ (Exists.intro _ (Exists.intro _ (Exists.intro _ (Exists.intro _ (Exists.intro _ (Exists.intro _ (Exists.intro _ (Exists.intro _ (Exists.intro _ (Exists.intro _ (Exists.intro _ (Exists.intro _ (Exists.intro _ (Exists.intro _ (Exists.intro _ (Exists.intro _ (And.intro rfl (And.intro rfl (And.intro (by first | omega | assumption | exact q_rg_up (by assumption) (by omega) | exact q_rg_up (q_rg_up (by assumption) (by omega)) (by omega) | exact q_rg_cpy (by assumption) (by assumption)) (?_)))))))))))))))))))))
            intro z92
            exact hQ _
          apply And.intro
          · intro h55
            refine Exists.intro [0, 1, 2, 3, 4, 5, 6, 7, 8, 9, 10, 11] (Exists.intro [q2 0, q2 4, q1 _] (Exists.intro ((wKo 0 _ _ _ _ _ ++ wBo 4 _ _ _ _ _ _ _ _ _ _ _ _)) (And.intro rfl (And.intro rfl (And.intro rfl (And.intro ⟨⟨_, rfl⟩, rfl⟩ ?_))))))
            refine Exists.intro _ (Exists.intro _ (Exists.intro _ (Exists.intro _ (Exists.intro _ (Exists.intro _ (Exists.intro _ (Exists.intro _ (Exists.intro _ (Exists.intro _ (Exists.intro _ (Exists.intro _ (Exists.intro _ (Exists.intro _ (Exists.intro _ (Exists.intro _ (Exists.intro _ (Exists.intro _ (And.intro rfl (And.intro rfl (And.intro (by first | omega | assumption | exact q_rg_up (by assumption) (by omega) | exact q_rg_up (q_rg_up (by assumption) (by omega)) (by omega) | exact q_rg_cpy (by assumption) (by assumption)) (?_)))))))))))))))))))))
            intro z99
            exact hQ _
          apply And.intro
          · intro h55
            refine Exists.intro [0, 1, 2, 3, 4, 5, 6, 7, 8, 9, 10, 11] (Exists.intro [q2 0, q2 4] (Exists.intro ((wKo 0 _ _ _ _ _ ++ wBo 4 _ _ _ _ _ _ _ _ _ _ _ _)) (And.intro rfl (And.intro rfl (And.intro rfl (And.intro ⟨⟨_, rfl⟩, rfl⟩ ?_))))))
            refine Exists.intro _ (Exists.intro _ (Exists.intro _ (Exists.intro _ (Exists.intro _ (Exists.intro _ (Exists.intro _ (Exists.intro _ (Exists.intro _ (Exists.intro _ (Exists.intro _ (Exists.intro _ (Exists.intro _ (Exists.intro _ (Exists.intro _ (Exists.intro _ (Exists.intro _ (And.intro rfl (And.intro rfl (And.intro (by first | omega | assumption | exact q_rg_up (by assumption) (by omega) | exact q_rg_up (q_rg_up (by assumption) (by omega)) (by omega) | exact q_rg_cpy (by assumption) (by assumption)) (?_))))))))))))))))))))
            intro z105
            exact hQ _
          exact trivial
        · intro h55
          exact hQ _
      · intro h30
        intro z37 h37
        first | replace h37 := e_sub h37 (by omega) | replace h37 := e_rng h37
        refine Exists.intro [4, 5, 6, 7, 8, 9, 10, 11] (Exists.intro [q2 0, q1 _] (Exists.intro (wB _ _ _ _ _ _ _ _ _ _ _ _) (And.intro rfl (And.intro rfl (And.intro rfl (And.intro ⟨⟨_, rfl⟩, rfl⟩ ?_))))))
        refine Exists.intro _ (Exists.intro _ (Exists.intro _ (Exists.intro _ (Exists.intro _ (Exists.intro _ (Exists.intro _ (Exists.intro _ (Exists.intro _ (Exists.intro _ (Exists.intro _ (Exists.intro _ (Exists.intro _ (And.intro rfl (And.intro rfl (?_)))))))))))))))
        intro z38 h38
        apply And.intro
        · intro h41
          apply And.intro
          · apply And.intro
            · intro h55
              exact hQ _
            apply And.intro
            · intro h55
              refine Exists.intro [0, 1, 2, 3, 4, 5, 6, 7, 8, 9, 10, 11] (Exists.intro [q2 0, q2 4, q1 _] (Exists.intro ((wKo 0 _ _ _ _ _ ++ wBo 4 _ _ _ _ _ _ _ _ _ _ _ _)) (And.intro rfl (And.intro rfl (And.intro rfl (And.intro ⟨⟨_, rfl⟩, rfl⟩ ?_))))))
              refine Exists.intro _ (Exists.intro _ (Exists.intro _ (Exists.intro _ (Exists.intro _ (Exists.intro _ (Exists.intro _ (Exists.intro _ (Exists.intro _ (Exists.intro _ (Exists.intro _ (Exists.intro _ (Exists.intro _ (Exists.intro _ (Exists.intro _ (Exists.intro _ (Exists.intro _ (Exists.intro _ (And.intro rfl (And.intro rfl (And.intro (by first | omega | assumption | exact q_rg_up (by assumption) (by omega) | exact q_rg_up (q_rg_up (by assumption) (by omega)) (by omega) | exact q_rg_cpy (by assumption) (by assumption)) (?_)))))))))))))))))))))
              intro z92
              exact hQ _
            apply And.intro
            · intro h55
              refine Exists.intro [0, 1, 2, 3, 4, 5, 6, 7, 8, 9, 10, 11] (Exists.intro [q2 0, q2 4, q1 _] (Exists.intro ((wKo 0 _ _ _ _ _ ++ wBo 4 _ _ _ _ _ _ _ _ _ _ _ _)) (And.intro rfl (And.intro rfl (And.intro rfl (And.intro ⟨⟨_, rfl⟩, rfl⟩ ?_))))))
              refine Exists.intro _ (Exists.intro _ (Exists.intro _ (Exists.intro _ (Exists.intro _ (Exists.intro _ (Exists.intro _ (Exists.intro _ (Exists.intro _ (Exists.intro _ (Exists.intro _ (Exists.intro _ (Exists.intro _ (Exists.intro _ (Exists.intro _ (Exists.intro _ (Exists.intro _ (Exists.intro _ (And.intro rfl (And.intro rfl (And.intro (by first | omega | assumption | exact q_rg_up (by assumption) (by omega) | exact q_rg_up (q_rg_up (by assumption) (by omega)) (by omega) | exact q_rg_cpy (by assumption) (by assumption)) (?_)))))))))))))))))))))
              intro z99
              exact hQ _
            apply And.intro
            · intro h55
              refine Exists.intro [0, 1, 2, 3, 4, 5, 6, 7, 8, 9, 10, 11] (Exists.intro [q2 0, q2 4] (Exists.intro ((wKo 0 _ _ _ _ _ ++ wBo 4 _ _ _ _ _ _ _ _ _ _ _ _)) (And.intro rfl (And.intro rfl (And.intro rfl (And.intro ⟨⟨_, rfl⟩, rfl⟩ ?_))))))
              refine Exists.intro _ (Exists.intro _ (Exists.intro _ (Exists.intro _ (Exists.intro _ (Exists.intro _ (Exists.intro _ (Exists.intro _ (Exists.intro _ (Exists.intro _ (Exists.intro _ (Exists.intro _ (Exists.intro _ (Exists.intro _ (Exists.intro _ (Exists.intro _ (Exists.intro _ (And.intro rfl (And.intro rfl (And.intro (by first | omega | assumption | exact q_rg_up (by assumption) (by omega) | exact q_rg_up (q_rg_up (by assumption) (by omega)) (by omega) | exact q_rg_cpy (by assumption) (by assumption)) (?_))))))))))))))))))))
              intro z105
              exact hQ _
            exact trivial
          · intro h55
            exact hQ _
        · intro h41
          intro z49 h49
          first | replace h49 := e_sub h49 (by omega) | replace h49 := e_rng h49
          refine Exists.intro [0, 1, 2, 3, 4, 5, 6, 7, 8, 9, 10, 11] (Exists.intro [q2 0, q2 4, q1 _] (Exists.intro ((wKo 0 _ _ _ _ _ ++ wBo 4 _ _ _ _ _ _ _ _ _ _ _ _)) (And.intro rfl (And.intro rfl (And.intro rfl (And.intro ⟨⟨_, rfl⟩, rfl⟩ ?_))))))
          refine Exists.intro _ (Exists.intro _ (Exists.intro _ (Exists.intro _ (Exists.intro _ (Exists.intro _ (Exists.intro _ (Exists.intro _ (Exists.intro _ (Exists.intro _ (Exists.intro _ (Exists.intro _ (Exists.intro _ (Exists.intro _ (Exists.intro _ (Exists.intro _ (Exists.intro _ (Exists.intro _ (And.intro rfl (And.intro rfl (And.intro (by first | omega | assumption | exact q_rg_up (by assumption) (by omega) | exact q_rg_up (q_rg_up (by assumption) (by omega)) (by omega) | exact q_rg_cpy (by assumption) (by assumption)) (?_)))))))))))))))))))))
          intro z50
          exact hQ _
    · intro h14
      intro z24 h24
      first | replace h24 := e_sub h24 (by omega) | replace h24 := e_rng h24
      apply And.intro
      · exact ⟨by omega, by omega⟩
      intro z25 h25
      exact hQ _
