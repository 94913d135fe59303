theorem dX11_standsBehind_0 : decode cX11_standsBehind 0 = .ok (.aload_n 2, 1) := by decide +kernel
theorem dX11_standsBehind_1 : decode cX11_standsBehind 1 = .ok (.ifnull 15, 3) := by decide +kernel
theorem dX11_standsBehind_4 : decode cX11_standsBehind 4 = .ok (.iload_n 3, 1) := by decide +kernel
theorem dX11_standsBehind_5 : decode cX11_standsBehind 5 = .ok (.ifCond .lt 11, 3) := by decide +kernel
theorem dX11_standsBehind_8 : decode cX11_standsBehind 8 = .ok (.iload_n 3, 1) := by decide +kernel
theorem dX11_standsBehind_9 : decode cX11_standsBehind 9 = .ok (.aload_n 2, 1) := by decide +kernel
theorem dX11_standsBehind_10 : decode cX11_standsBehind 10 = .ok (.getfield 108, 3) := by decide +kernel
theorem dX11_standsBehind_13 : decode cX11_standsBehind 13 = .ok (.if_icmp .le 5, 3) := by decide +kernel
theorem dX11_standsBehind_16 : decode cX11_standsBehind 16 = .ok (.iconst 0, 1) := by decide +kernel
theorem dX11_standsBehind_17 : decode cX11_standsBehind 17 = .ok (.ireturn, 1) := by decide +kernel
theorem dX11_standsBehind_18 : decode cX11_standsBehind 18 = .ok (.aload_n 0, 1) := by decide +kernel
theorem dX11_standsBehind_19 : decode cX11_standsBehind 19 = .ok (.getfield 30, 3) := by decide +kernel
theorem dX11_standsBehind_22 : decode cX11_standsBehind 22 = .ok (.aload_n 1, 1) := by decide +kernel
theorem dX11_standsBehind_23 : decode cX11_standsBehind 23 = .ok (.aload_n 2, 1) := by decide +kernel
theorem dX11_standsBehind_24 : decode cX11_standsBehind 24 = .ok (.iload_n 3, 1) := by decide +kernel
theorem dX11_standsBehind_25 : decode cX11_standsBehind 25 = .ok (.invokevirtual 115, 3) := by decide +kernel
theorem dX11_standsBehind_28 : decode cX11_standsBehind 28 = .ok (.iload_n 3, 1) := by decide +kernel
theorem dX11_standsBehind_29 : decode cX11_standsBehind 29 = .ok (.if_icmp .ne 7, 3) := by decide +kernel
theorem dX11_standsBehind_32 : decode cX11_standsBehind 32 = .ok (.iconst 1, 1) := by decide +kernel
theorem dX11_standsBehind_33 : decode cX11_standsBehind 33 = .ok (.goto 4, 3) := by decide +kernel
theorem dX11_standsBehind_36 : decode cX11_standsBehind 36 = .ok (.iconst 0, 1) := by decide +kernel
theorem dX11_standsBehind_37 : decode cX11_standsBehind 37 = .ok (.ireturn, 1) := by decide +kernel
def is_X11_standsBehind : Nat → List Nat := fun d => []
set_option maxRecDepth 100000 in
def b_X11_standsBehind_37 (J : Nat → List qV → List qV → qW → Prop) (Q : qR) : qK := x_zret Q
set_option maxRecDepth 100000 in
theorem s_X11_standsBehind_37 {p : Program} {l : Launch} {e : Env} {R : Room} {s : State} {m : MethodId} {args : Array Value} {below : List Frame} {meth : Method} {c : Code} {nW : Nat} {dC : Nat → ClassId} {dI : Nat → Nat → Nat} {k : Nat → ClassId} {g : Nat → Nat} {A : Nat → Prop} {J : Nat → List qV → List qV → qW → Prop} {Q : qR} (X : q_X p R s m args meth c cX11_standsBehind 4 nW 4 113 RX11 (some .boolean) dC dI k g A) (hJ : ∀ d : Nat, q_Sd p l e R s m args below meth c 4 nW dC dI k g A (MQ below (q_post (dC, dI) k g nW Q A) args s 0 0 A) d (x_cut (is_X11_standsBehind d) (J d))) : q_Sd p l e R s m args below meth c 4 nW dC dI k g A (MQ below (q_post (dC, dI) k g nW Q A) args s 0 0 A) 37 (b_X11_standsBehind_37 J Q) := by
  unfold b_X11_standsBehind_37
  exact s_zret X dX11_standsBehind_37
set_option maxRecDepth 100000 in
def b_X11_standsBehind_16 (J : Nat → List qV → List qV → qW → Prop) (Q : qR) : qK := x_int 0 (x_zret Q)
set_option maxRecDepth 100000 in
theorem s_X11_standsBehind_16 {p : Program} {l : Launch} {e : Env} {R : Room} {s : State} {m : MethodId} {args : Array Value} {below : List Frame} {meth : Method} {c : Code} {nW : Nat} {dC : Nat → ClassId} {dI : Nat → Nat → Nat} {k : Nat → ClassId} {g : Nat → Nat} {A : Nat → Prop} {J : Nat → List qV → List qV → qW → Prop} {Q : qR} (X : q_X p R s m args meth c cX11_standsBehind 4 nW 4 113 RX11 (some .boolean) dC dI k g A) (hJ : ∀ d : Nat, q_Sd p l e R s m args below meth c 4 nW dC dI k g A (MQ below (q_post (dC, dI) k g nW Q A) args s 0 0 A) d (x_cut (is_X11_standsBehind d) (J d))) : q_Sd p l e R s m args below meth c 4 nW dC dI k g A (MQ below (q_post (dC, dI) k g nW Q A) args s 0 0 A) 16 (b_X11_standsBehind_16 J Q) := by
  unfold b_X11_standsBehind_16
  refine s_iconst X ⟨by decide, by decide⟩ dX11_standsBehind_16 ?_
  exact s_zret X dX11_standsBehind_17
set_option maxRecDepth 100000 in
def b_X11_standsBehind_0 (J : Nat → List qV → List qV → qW → Prop) (Q : qR) : qK := x_aload 2 (x_ifnull (b_X11_standsBehind_16 J Q) (x_iload 3 (x_if_lt (b_X11_standsBehind_16 J Q) (x_iload 3 (x_aload 2 (x_get 10 4 (x_icmp_le (x_aload 0 (x_get 11 3 (x_aload 1 (x_aload 2 (x_iload 3 (x_callm (some 9) 4 4 spm_X9_run (x_nw (x_iload 3 (x_icmp_ne (x_int 0 (b_X11_standsBehind_37 J Q)) (x_int 1 (b_X11_standsBehind_37 J Q))))))))))) (b_X11_standsBehind_16 J Q))))))))
set_option maxRecDepth 100000 in
theorem s_X11_standsBehind_0 {p : Program} {l : Launch} {e : Env} {R : Room} {s : State} {m : MethodId} {args : Array Value} {below : List Frame} {meth : Method} {c : Code} {nW : Nat} {dC : Nat → ClassId} {dI : Nat → Nat → Nat} {k : Nat → ClassId} {g : Nat → Nat} {A : Nat → Prop} {J : Nat → List qV → List qV → qW → Prop} {Q : qR} (X : q_X p R s m args meth c cX11_standsBehind 4 nW 4 113 RX11 (some .boolean) dC dI k g A) (hJ : ∀ d : Nat, q_Sd p l e R s m args below meth c 4 nW dC dI k g A (MQ below (q_post (dC, dI) k g nW Q A) args s 0 0 A) d (x_cut (is_X11_standsBehind d) (J d))) : q_Sd p l e R s m args below meth c 4 nW dC dI k g A (MQ below (q_post (dC, dI) k g nW Q A) args s 0 0 A) 0 (b_X11_standsBehind_0 J Q) := by
  unfold b_X11_standsBehind_0
  refine s_aload_n X rfl dX11_standsBehind_0 ?_
  refine s_ifnull X (tgt := 16) dX11_standsBehind_1 (by decide) ?_ ?_
  · exact s_X11_standsBehind_16 X hJ
  · refine s_iload_n X rfl dX11_standsBehind_4 ?_
    refine s_if_lt X (tgt := 16) dX11_standsBehind_5 (by decide) ?_ ?_
    · exact s_X11_standsBehind_16 X hJ
    · refine s_iload_n X rfl dX11_standsBehind_8 ?_
      refine s_aload_n X rfl dX11_standsBehind_9 ?_
      refine s_get X (T := TX10) (C := RX10) (N := 5) tu_X10 rfl (by decide) tw_226 dX11_standsBehind_10 ?_
      refine s_icmp_le X (tgt := 18) dX11_standsBehind_13 (by decide) ?_ ?_
      · refine s_aload_n X rfl dX11_standsBehind_18 ?_
        refine s_get X (T := TX11) (C := RX11) (N := 8) tu_X11 rfl (by decide) tw_329 dX11_standsBehind_19 ?_
        refine s_aload_n X rfl dX11_standsBehind_22 ?_
        refine s_aload_n X rfl dX11_standsBehind_23 ?_
        refine s_iload_n X rfl dX11_standsBehind_24 ?_
        refine s_callVm X (mm_X9_run l) mq_X9_run tw_571 tw_572 tw_573 tw_129 tw_574 rfl (by decide +kernel) ⟨by decide, by decide⟩ dX11_standsBehind_25 ?_
        refine s_nw ?_
        refine s_iload_n X rfl dX11_standsBehind_28 ?_
        refine s_icmp_ne X (tgt := 36) dX11_standsBehind_29 (by decide) ?_ ?_
        · refine s_iconst X ⟨by decide, by decide⟩ dX11_standsBehind_36 ?_
          exact s_X11_standsBehind_37 X hJ
        · refine s_iconst X ⟨by decide, by decide⟩ dX11_standsBehind_32 ?_
          refine s_goto X (tgt := 37) dX11_standsBehind_33 (by decide) ?_
          exact s_X11_standsBehind_37 X hJ
      · exact s_X11_standsBehind_16 X hJ

def sp_X11_standsBehind : qS := fun av w Q => ∃ (wkh1 : Nat → Int) (wkh2 : Nat → Int) (wkh3 : Nat → Int) (wkp : Int) (wks : Int) (b0f1 : Nat → Int) (b0f2 : Nat → Int) (b0f3 : Nat → Int) (b0f4 : Nat → Int) (b0f5 : Nat → Int) (b0f6 : Nat → Int) (b0f7 : Nat → Int) (b0u0 : Int) (b0u1 : Int) (b0u2 : Int) (b0u3 : Int) (b0u4 : Int) (y0k1 : Nat → Int) (y0k2 : Nat → Int) (y0k3 : Nat → Int) (y0k4 : Nat → Int) (y0d : Int) (a : Int) (yr : Option Nat), av = [q2 0, q2 5, .inr (.inr yr), q1 a] ∧ w = [.inr (11, [q2 18, q2 19, q2 20, q2 1, q2 21, q2 22, q2 23, q2 24]), .inr (9, [q2 2, q2 3, q2 4, q1 wkp, q1 wks]), .inl (0, 8, .inl wkh1), .inl (0, 512, .inl wkh2), .inl (0, 512, .inl wkh3), .inr (0, [q2 6, q2 7, q2 8, q2 9, q2 10, q2 11, q2 12, q1 b0u0, q1 b0u1, q1 b0u2, q1 b0u3, q1 b0u4]), .inl (0, 8, .inl b0f1), .inl (0, 8, .inl b0f2), .inl (0, 4, .inl b0f3), .inl (0, 32, .inl b0f4), .inl (0, 6, .inl b0f5), .inl (0, 6, .inl b0f6), .inl (0, 6, .inl b0f7), .inr (10, [q2 14, q2 15, q2 16, q2 17, q1 y0d]), .inl (0, 40, .inl y0k1), .inl (0, 40, .inl y0k2), .inl (0, 40, .inl y0k3), .inl (0, 40, .inl y0k4)] ∧ (0 ≤ b0u0 ∧ b0u0 ≤ 8 ∧ 0 ≤ b0u3 ∧ b0u3 ≤ 6 ∧ 0 ≤ b0u4 ∧ b0u4 ≤ 6) ∧ (q_rg 0 9 b0f3) ∧ (0 ≤ y0d ∧ y0d ≤ 40) ∧ (yr = none ∨ yr = some 13) ∧ (∀ (r : Int) (x_wkh1 : Nat → Int) (x_wkh2 : Nat → Int) (x_wkh3 : Nat → Int) (x_wkp : Int) (x_wks : Int), (((r = 0 ∨ r = 1))) → Q (some (q1 r)) ([.inr (11, [q2 18, q2 19, q2 20, q2 1, q2 21, q2 22, q2 23, q2 24]), .inr (9, [q2 2, q2 3, q2 4, q1 x_wkp, q1 x_wks]), .inl (0, 8, .inl x_wkh1), .inl (0, 512, .inl x_wkh2), .inl (0, 512, .inl x_wkh3), .inr (0, [q2 6, q2 7, q2 8, q2 9, q2 10, q2 11, q2 12, q1 b0u0, q1 b0u1, q1 b0u2, q1 b0u3, q1 b0u4]), .inl (0, 8, .inl b0f1), .inl (0, 8, .inl b0f2), .inl (0, 4, .inl b0f3), .inl (0, 32, .inl b0f4), .inl (0, 6, .inl b0f5), .inl (0, 6, .inl b0f6), .inl (0, 6, .inl b0f7), .inr (10, [q2 14, q2 15, q2 16, q2 17, q1 y0d]), .inl (0, 40, .inl y0k1), .inl (0, 40, .inl y0k2), .inl (0, 40, .inl y0k3), .inl (0, 40, .inl y0k4)]))
set_option maxHeartbeats 4000000 in
set_option maxRecDepth 100000 in
theorem m_X11_standsBehind (l : Launch) : q_M l yX11_standsBehind cX11_standsBehind 4 (some .boolean) 4 113 sp_X11_standsBehind := by
  refine q_meth (by decide) (fun av w Q h => by obtain ⟨wkh1, wkh2, wkh3, wkp, wks, b0f1, b0f2, b0f3, b0f4, b0f5, b0f6, b0f7, b0u0, b0u1, b0u2, b0u3, b0u4, y0k1, y0k2, y0k3, y0k4, y0d, a, yr, rfl, rfl, hb0, hf0, hy0, hyr, hQ⟩ := h; exact Nat.le_of_ble_eq_true rfl) ?_
  intro p e R s m args below meth c dC dI k g A av w Q hsp oka okw X
  obtain ⟨wkh1, wkh2, wkh3, wkp, wks, b0f1, b0f2, b0f3, b0f4, b0f5, b0f6, b0f7, b0u0, b0u1, b0u2, b0u3, b0u4, y0k1, y0k2, y0k3, y0k4, y0d, a, yr, rfl, rfl, hb0, hf0, hy0, hyr, hQ⟩ := hsp
  have o_a : -2147483648 ≤ a ∧ a ≤ 2147483647 := oka _ (List.mem_of_getElem? (i := 3) rfl)
  refine s_mono (s_X11_standsBehind_0 X (J := fun _ _ _ _ => False) (fun d => s_cutF)) ?_
  rintro lv st w' ⟨rfl, rfl, rfl⟩
  rcases hyr with rfl | rfl
  · apply And.intro
    · first | exact Or.inl rfl | exact Or.inr rfl | omega
    exact hQ _ _ _ _ _ _ (by first | omega | assumption | exact q_rg_up (by assumption) (by omega) | exact q_rg_up (q_rg_up (by assumption) (by omega)) (by omega) | exact q_rg_cpy (by assumption) (by assumption))
  · apply And.intro
    · intro h5
      apply And.intro
      · first | exact Or.inl rfl | exact Or.inr rfl | omega
      exact hQ _ _ _ _ _ _ (by first | omega | assumption | exact q_rg_up (by assumption) (by omega) | exact q_rg_up (q_rg_up (by assumption) (by omega)) (by omega) | exact q_rg_cpy (by assumption) (by assumption))
    · intro h5
      apply And.intro
      · intro h13
        refine Exists.intro [1, 2, 3, 4, 5, 6, 7, 8, 9, 10, 11, 12, 13, 14, 15, 16, 17] (Exists.intro [q2 0, q2 4, q2 12, q1 _] (Exists.intro ((wKo 0 _ _ _ _ _ ++ wBo 4 _ _ _ _ _ _ _ _ _ _ _ _ ++ wYo 12 _ _ _ _ _)) (And.intro rfl (And.intro rfl (And.intro rfl (And.intro ⟨⟨_, rfl⟩, rfl⟩ (And.intro (Nat.le_of_ble_eq_true rfl) ?_)))))))
        refine Exists.intro _ (Exists.intro _ (Exists.intro _ (Exists.intro _ (Exists.intro _ (Exists.intro _ (Exists.intro _ (Exists.intro _ (Exists.intro _ (Exists.intro _ (Exists.intro _ (Exists.intro _ (Exists.intro _ (Exists.intro _ (Exists.intro _ (Exists.intro _ (Exists.intro _ (Exists.intro _ (Exists.intro _ (Exists.intro _ (Exists.intro _ (Exists.intro _ (Exists.intro _ (And.intro rfl (And.intro rfl (And.intro (by first | omega | assumption | exact q_rg_up (by assumption) (by omega) | exact q_rg_up (q_rg_up (by assumption) (by omega)) (by omega) | exact q_rg_cpy (by assumption) (by assumption)) (And.intro (by first | omega | assumption | exact q_rg_up (by assumption) (by omega) | exact q_rg_up (q_rg_up (by assumption) (by omega)) (by omega) | exact q_rg_cpy (by assumption) (by assumption)) (?_)))))))))))))))))))))))))))
        intro z25 x1_25 x2_25 x3_25 x4_25 x5_25 h25
        intro _
        apply And.intro
        · intro h29
          apply And.intro
          · first | exact Or.inl rfl | exact Or.inr rfl | omega
          exact hQ _ _ _ _ _ _ (by first | omega | assumption | exact q_rg_up (by assumption) (by omega) | exact q_rg_up (q_rg_up (by assumption) (by omega)) (by omega) | exact q_rg_cpy (by assumption) (by assumption))
        · intro h29
          apply And.intro
          · first | exact Or.inl rfl | exact Or.inr rfl | omega
          exact hQ _ _ _ _ _ _ (by first | omega | assumption | exact q_rg_up (by assumption) (by omega) | exact q_rg_up (q_rg_up (by assumption) (by omega)) (by omega) | exact q_rg_cpy (by assumption) (by assumption))
      · intro h13
        apply And.intro
        · first | exact Or.inl rfl | exact Or.inr rfl | omega
        exact hQ _ _ _ _ _ _ (by first | omega | assumption | exact q_rg_up (by assumption) (by omega) | exact q_rg_up (q_rg_up (by assumption) (by omega)) (by omega) | exact q_rg_cpy (by assumption) (by assumption))

def spm_X11_standsBehind : List qV → qW → (Option qV → qW → Prop) → Prop := fun av w Q => ∃ (wkh1 : Nat → Int) (wkh2 : Nat → Int) (wkh3 : Nat → Int) (wkp : Int) (wks : Int) (b0f1 : Nat → Int) (b0f2 : Nat → Int) (b0f3 : Nat → Int) (b0f4 : Nat → Int) (b0f5 : Nat → Int) (b0f6 : Nat → Int) (b0f7 : Nat → Int) (b0u0 : Int) (b0u1 : Int) (b0u2 : Int) (b0u3 : Int) (b0u4 : Int) (y0k1 : Nat → Int) (y0k2 : Nat → Int) (y0k3 : Nat → Int) (y0k4 : Nat → Int) (y0d : Int) (a : Int) (yr : Option Nat), av = [q2 0, q2 5, .inr (.inr yr), q1 a] ∧ w = [.inr (11, [q2 18, q2 19, q2 20, q2 1, q2 21, q2 22, q2 23, q2 24]), .inr (9, [q2 2, q2 3, q2 4, q1 wkp, q1 wks]), .inl (0, 8, .inl wkh1), .inl (0, 512, .inl wkh2), .inl (0, 512, .inl wkh3), .inr (0, [q2 6, q2 7, q2 8, q2 9, q2 10, q2 11, q2 12, q1 b0u0, q1 b0u1, q1 b0u2, q1 b0u3, q1 b0u4]), .inl (0, 8, .inl b0f1), .inl (0, 8, .inl b0f2), .inl (0, 4, .inl b0f3), .inl (0, 32, .inl b0f4), .inl (0, 6, .inl b0f5), .inl (0, 6, .inl b0f6), .inl (0, 6, .inl b0f7), .inr (10, [q2 14, q2 15, q2 16, q2 17, q1 y0d]), .inl (0, 40, .inl y0k1), .inl (0, 40, .inl y0k2), .inl (0, 40, .inl y0k3), .inl (0, 40, .inl y0k4)] ∧ (0 ≤ b0u0 ∧ b0u0 ≤ 8 ∧ 0 ≤ b0u3 ∧ b0u3 ≤ 6 ∧ 0 ≤ b0u4 ∧ b0u4 ≤ 6) ∧ (q_rg 0 9 b0f3) ∧ (0 ≤ y0d ∧ y0d ≤ 40) ∧ (yr = none ∨ yr = some 13) ∧ (∀ (r : Int) (x_wkh1 : Nat → Int) (x_wkh2 : Nat → Int) (x_wkh3 : Nat → Int) (x_wkp : Int) (x_wks : Int), (((r = 0 ∨ r = 1))) → Q (some (q1 r)) ([.inr (11, [q2 18, q2 19, q2 20, q2 1, q2 21, q2 22, q2 23, q2 24]), .inr (9, [q2 2, q2 3, q2 4, q1 x_wkp, q1 x_wks]), .inl (0, 8, .inl x_wkh1), .inl (0, 512, .inl x_wkh2), .inl (0, 512, .inl x_wkh3)]))
theorem mq_X11_standsBehind : ∀ (av : List qV) (w : qW) (P P' : Option qV → qW → Prop), (∀ r wm, P r wm → P' r wm) → spm_X11_standsBehind av w P → spm_X11_standsBehind av w P' := by
  intro av w P P' hP h
  obtain ⟨wkh1, wkh2, wkh3, wkp, wks, b0f1, b0f2, b0f3, b0f4, b0f5, b0f6, b0f7, b0u0, b0u1, b0u2, b0u3, b0u4, y0k1, y0k2, y0k3, y0k4, y0d, a, yr, e1, e2, hb0, hf0, hy0, hyr, hQ9⟩ := h
  exact ⟨wkh1, wkh2, wkh3, wkp, wks, b0f1, b0f2, b0f3, b0f4, b0f5, b0f6, b0f7, b0u0, b0u1, b0u2, b0u3, b0u4, y0k1, y0k2, y0k3, y0k4, y0d, a, yr, e1, e2, hb0, hf0, hy0, hyr, fun r x_wkh1 x_wkh2 x_wkh3 x_wkp x_wks hp9 => hP _ _ (hQ9 r x_wkh1 x_wkh2 x_wkh3 x_wkp x_wks hp9)⟩
theorem mm_X11_standsBehind (l : Launch) : q_M l yX11_standsBehind cX11_standsBehind 4 (some .boolean) 4 113 (fun av w Q => spm_X11_standsBehind av w (fun r wm => wm.length = 5 → Q r (wm ++ w.drop 5))) := by
  refine q_M_mono (fun av w Q h => ?_) (m_X11_standsBehind l)
  obtain ⟨wkh1, wkh2, wkh3, wkp, wks, b0f1, b0f2, b0f3, b0f4, b0f5, b0f6, b0f7, b0u0, b0u1, b0u2, b0u3, b0u4, y0k1, y0k2, y0k3, y0k4, y0d, a, yr, rfl, rfl, hb0, hf0, hy0, hyr, hQ9⟩ := h
  exact ⟨wkh1, wkh2, wkh3, wkp, wks, b0f1, b0f2, b0f3, b0f4, b0f5, b0f6, b0f7, b0u0, b0u1, b0u2, b0u3, b0u4, y0k1, y0k2, y0k3, y0k4, y0d, a, yr, rfl, rfl, hb0, hf0, hy0, hyr, fun r x_wkh1 x_wkh2 x_wkh3 x_wkp x_wks hp9 => hQ9 r x_wkh1 x_wkh2 x_wkh3 x_wkp x_wks hp9 rfl⟩
