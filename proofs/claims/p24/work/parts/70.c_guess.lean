theorem dX11_guessable_0 : decode cX11_guessable 0 = .ok (.aload_n 2, 1) := by decide +kernel
theorem dX11_guessable_1 : decode cX11_guessable 1 = .ok (.ifnull 13, 3) := by decide +kernel
theorem dX11_guessable_4 : decode cX11_guessable 4 = .ok (.iload_n 3, 1) := by decide +kernel
theorem dX11_guessable_5 : decode cX11_guessable 5 = .ok (.ifCond .lt 9, 3) := by decide +kernel
theorem dX11_guessable_8 : decode cX11_guessable 8 = .ok (.iload_n 3, 1) := by decide +kernel
theorem dX11_guessable_9 : decode cX11_guessable 9 = .ok (.bipush 8, 2) := by decide +kernel
theorem dX11_guessable_11 : decode cX11_guessable 11 = .ok (.if_icmp .le 5, 3) := by decide +kernel
theorem dX11_guessable_14 : decode cX11_guessable 14 = .ok (.iconst 0, 1) := by decide +kernel
theorem dX11_guessable_15 : decode cX11_guessable 15 = .ok (.ireturn, 1) := by decide +kernel
theorem dX11_guessable_16 : decode cX11_guessable 16 = .ok (.aload_n 0, 1) := by decide +kernel
theorem dX11_guessable_17 : decode cX11_guessable 17 = .ok (.getfield 51, 3) := by decide +kernel
theorem dX11_guessable_20 : decode cX11_guessable 20 = .ok (.aload_n 1, 1) := by decide +kernel
theorem dX11_guessable_21 : decode cX11_guessable 21 = .ok (.aload_n 2, 1) := by decide +kernel
theorem dX11_guessable_22 : decode cX11_guessable 22 = .ok (.invokevirtual 297, 3) := by decide +kernel
theorem dX11_guessable_25 : decode cX11_guessable 25 = .ok (.ireturn, 1) := by decide +kernel
def is_X11_guessable : Nat → List Nat := fun d => []
set_option maxRecDepth 100000 in
def b_X11_guessable_14 (J : Nat → List qV → List qV → qW → Prop) (Q : qR) : qK := x_int 0 (x_zret Q)
set_option maxRecDepth 100000 in
theorem s_X11_guessable_14 {p : Program} {l : Launch} {e : Env} {R : Room} {s : State} {m : MethodId} {args : Array Value} {below : List Frame} {meth : Method} {c : Code} {nW : Nat} {dC : Nat → ClassId} {dI : Nat → Nat → Nat} {k : Nat → ClassId} {g : Nat → Nat} {A : Nat → Prop} {J : Nat → List qV → List qV → qW → Prop} {Q : qR} (X : q_X p R s m args meth c cX11_guessable 4 nW 3 73 RX11 (some .boolean) dC dI k g A) (hJ : ∀ d : Nat, q_Sd p l e R s m args below meth c 4 nW dC dI k g A (MQ below (q_post (dC, dI) k g nW Q A) args s 0 0 A) d (x_cut (is_X11_guessable d) (J d))) : q_Sd p l e R s m args below meth c 4 nW dC dI k g A (MQ below (q_post (dC, dI) k g nW Q A) args s 0 0 A) 14 (b_X11_guessable_14 J Q) := by
  unfold b_X11_guessable_14
  refine s_iconst X ⟨by decide, by decide⟩ dX11_guessable_14 ?_
  exact s_zret X dX11_guessable_15
set_option maxRecDepth 100000 in
def b_X11_guessable_0 (J : Nat → List qV → List qV → qW → Prop) (Q : qR) : qK := x_aload 2 (x_ifnull (b_X11_guessable_14 J Q) (x_iload 3 (x_if_lt (b_X11_guessable_14 J Q) (x_iload 3 (x_int 8 (x_icmp_le (x_aload 0 (x_get 11 6 (x_aload 1 (x_aload 2 (x_callm (some 2) 3 5 spm_X2_open (x_nw (x_zret Q))))))) (b_X11_guessable_14 J Q)))))))
set_option maxRecDepth 100000 in
theorem s_X11_guessable_0 {p : Program} {l : Launch} {e : Env} {R : Room} {s : State} {m : MethodId} {args : Array Value} {below : List Frame} {meth : Method} {c : Code} {nW : Nat} {dC : Nat → ClassId} {dI : Nat → Nat → Nat} {k : Nat → ClassId} {g : Nat → Nat} {A : Nat → Prop} {J : Nat → List qV → List qV → qW → Prop} {Q : qR} (X : q_X p R s m args meth c cX11_guessable 4 nW 3 73 RX11 (some .boolean) dC dI k g A) (hJ : ∀ d : Nat, q_Sd p l e R s m args below meth c 4 nW dC dI k g A (MQ below (q_post (dC, dI) k g nW Q A) args s 0 0 A) d (x_cut (is_X11_guessable d) (J d))) : q_Sd p l e R s m args below meth c 4 nW dC dI k g A (MQ below (q_post (dC, dI) k g nW Q A) args s 0 0 A) 0 (b_X11_guessable_0 J Q) := by
  unfold b_X11_guessable_0
  refine s_aload_n X rfl dX11_guessable_0 ?_
  refine s_ifnull X (tgt := 14) dX11_guessable_1 (by decide) ?_ ?_
  · exact s_X11_guessable_14 X hJ
  · refine s_iload_n X rfl dX11_guessable_4 ?_
    refine s_if_lt X (tgt := 14) dX11_guessable_5 (by decide) ?_ ?_
    · exact s_X11_guessable_14 X hJ
    · refine s_iload_n X rfl dX11_guessable_8 ?_
      refine s_bipush X ⟨by decide, by decide⟩ (by decide) dX11_guessable_9 ?_
      refine s_icmp_le X (tgt := 16) dX11_guessable_11 (by decide) ?_ ?_
      · refine s_aload_n X rfl dX11_guessable_16 ?_
        refine s_get X (T := TX11) (C := RX11) (N := 8) tu_X11 rfl (by decide) tw_332 dX11_guessable_17 ?_
        refine s_aload_n X rfl dX11_guessable_20 ?_
        refine s_aload_n X rfl dX11_guessable_21 ?_
        refine s_callVm X (mm_X2_open l) mq_X2_open tw_815 tw_816 tw_817 tw_132 tw_818 rfl (by decide +kernel) ⟨by decide, by decide⟩ dX11_guessable_22 ?_
        refine s_nw ?_
        exact s_zret X dX11_guessable_25
      · exact s_X11_guessable_14 X hJ

def sp_X11_guessable : qS := fun av w Q => ∃ (guo : Nat → Int) (gua : Nat → Int) (gum : Nat → Int) (gus : Nat → Int) (gug : Int) (b0f1 : Nat → Int) (b0f2 : Nat → Int) (b0f3 : Nat → Int) (b0f4 : Nat → Int) (b0f5 : Nat → Int) (b0f6 : Nat → Int) (b0f7 : Nat → Int) (b0u0 : Int) (b0u1 : Int) (b0u2 : Int) (b0u3 : Int) (b0u4 : Int) (s0p : Nat → Int) (s0t : Nat → Int) (s0c : Int) (a : Int) (yr : Option Nat), av = [q2 0, q2 6, .inr (.inr yr), q1 a] ∧ w = [.inr (11, [q2 17, q2 18, q2 19, q2 20, q2 21, q2 22, q2 1, q2 23]), .inr (2, [q2 2, q2 3, q2 4, q2 5, q1 gug]), .inl (3, 657, .inr (.inl guo)), .inl (3, 72, .inr (.inl gua)), .inl (3, 9, .inr (.inl gum)), .inl (0, 8, .inl gus), .inr (0, [q2 7, q2 8, q2 9, q2 10, q2 11, q2 12, q2 13, q1 b0u0, q1 b0u1, q1 b0u2, q1 b0u3, q1 b0u4]), .inl (0, 8, .inl b0f1), .inl (0, 8, .inl b0f2), .inl (0, 4, .inl b0f3), .inl (0, 32, .inl b0f4), .inl (0, 6, .inl b0f5), .inl (0, 6, .inl b0f6), .inl (0, 6, .inl b0f7), .inr (7, [q2 15, q2 16, q1 s0c]), .inl (0, 10, .inl s0p), .inl (0, 10, .inl s0t)] ∧ (0 ≤ gug ∧ gug ≤ 8) ∧ (0 ≤ b0u0 ∧ b0u0 ≤ 8 ∧ 0 ≤ b0u3 ∧ b0u3 ≤ 6 ∧ 0 ≤ b0u4 ∧ b0u4 ≤ 6) ∧ (q_rg 0 9 b0f3) ∧ (0 ≤ s0c ∧ s0c ≤ 10) ∧ (yr = none ∨ yr = some 14) ∧ (∀ (r : Int) (x_guo : Nat → Int) (x_gua : Nat → Int) (x_gum : Nat → Int) (x_gus : Nat → Int) (x_gug : Int), ((0 ≤ x_gug ∧ x_gug ≤ 8) ∧ ((r = 0 ∨ r = 1 ∧ 0 ≤ a ∧ a ≤ 8))) → Q (some (q1 r)) ([.inr (11, [q2 17, q2 18, q2 19, q2 20, q2 21, q2 22, q2 1, q2 23]), .inr (2, [q2 2, q2 3, q2 4, q2 5, q1 x_gug]), .inl (3, 657, .inr (.inl x_guo)), .inl (3, 72, .inr (.inl x_gua)), .inl (3, 9, .inr (.inl x_gum)), .inl (0, 8, .inl x_gus), .inr (0, [q2 7, q2 8, q2 9, q2 10, q2 11, q2 12, q2 13, q1 b0u0, q1 b0u1, q1 b0u2, q1 b0u3, q1 b0u4]), .inl (0, 8, .inl b0f1), .inl (0, 8, .inl b0f2), .inl (0, 4, .inl b0f3), .inl (0, 32, .inl b0f4), .inl (0, 6, .inl b0f5), .inl (0, 6, .inl b0f6), .inl (0, 6, .inl b0f7), .inr (7, [q2 15, q2 16, q1 s0c]), .inl (0, 10, .inl s0p), .inl (0, 10, .inl s0t)]))
set_option maxHeartbeats 4000000 in
set_option maxRecDepth 100000 in
theorem m_X11_guessable (l : Launch) : q_M l yX11_guessable cX11_guessable 4 (some .boolean) 3 73 sp_X11_guessable := by
  refine q_meth (by decide) (fun av w Q h => by obtain ⟨guo, gua, gum, gus, gug, b0f1, b0f2, b0f3, b0f4, b0f5, b0f6, b0f7, b0u0, b0u1, b0u2, b0u3, b0u4, s0p, s0t, s0c, a, yr, rfl, rfl, hgg, hb0, hf0, hs0, hyr, hQ⟩ := h; exact Nat.le_of_ble_eq_true rfl) ?_
  intro p e R s m args below meth c dC dI k g A av w Q hsp oka okw X
  obtain ⟨guo, gua, gum, gus, gug, b0f1, b0f2, b0f3, b0f4, b0f5, b0f6, b0f7, b0u0, b0u1, b0u2, b0u3, b0u4, s0p, s0t, s0c, a, yr, rfl, rfl, hgg, hb0, hf0, hs0, hyr, hQ⟩ := hsp
  have o_a : -2147483648 ≤ a ∧ a ≤ 2147483647 := oka _ (List.mem_of_getElem? (i := 3) rfl)
  refine s_mono (s_X11_guessable_0 X (J := fun _ _ _ _ => False) (fun d => s_cutF)) ?_
  rintro lv st w' ⟨rfl, rfl, rfl⟩
  rcases hyr with rfl | rfl
  · apply And.intro
    · first | exact Or.inl rfl | exact Or.inr rfl | omega
    exact hQ _ _ _ _ _ _ ⟨(by first | omega | assumption | exact q_rg_up (by assumption) (by omega) | exact q_rg_up (q_rg_up (by assumption) (by omega)) (by omega) | exact q_rg_cpy (by assumption) (by assumption)), (by first | omega | assumption | exact q_rg_up (by assumption) (by omega) | exact q_rg_up (q_rg_up (by assumption) (by omega)) (by omega) | exact q_rg_cpy (by assumption) (by assumption))⟩
  · apply And.intro
    · intro h5
      apply And.intro
      · first | exact Or.inl rfl | exact Or.inr rfl | omega
      exact hQ _ _ _ _ _ _ ⟨(by first | omega | assumption | exact q_rg_up (by assumption) (by omega) | exact q_rg_up (q_rg_up (by assumption) (by omega)) (by omega) | exact q_rg_cpy (by assumption) (by assumption)), (by first | omega | assumption | exact q_rg_up (by assumption) (by omega) | exact q_rg_up (q_rg_up (by assumption) (by omega)) (by omega) | exact q_rg_cpy (by assumption) (by assumption))⟩
    · intro h5
      apply And.intro
      · intro h11
        refine Exists.intro [1, 2, 3, 4, 5, 6, 7, 8, 9, 10, 11, 12, 13, 14, 15, 16] (Exists.intro [q2 0, q2 5, q2 13] (Exists.intro ((wGo 0 _ _ _ _ _ ++ wBo 5 _ _ _ _ _ _ _ _ _ _ _ _ ++ wSo 13 _ _ _)) (And.intro rfl (And.intro rfl (And.intro rfl (And.intro ⟨⟨_, rfl⟩, rfl⟩ (And.intro (Nat.le_of_ble_eq_true rfl) ?_)))))))
        refine Exists.intro _ (Exists.intro _ (Exists.intro _ (Exists.intro _ (Exists.intro _ (Exists.intro _ (Exists.intro _ (Exists.intro _ (Exists.intro _ (Exists.intro _ (Exists.intro _ (Exists.intro _ (Exists.intro _ (Exists.intro _ (Exists.intro _ (Exists.intro _ (Exists.intro _ (Exists.intro _ (Exists.intro _ (Exists.intro _ (And.intro rfl (And.intro rfl (And.intro (by first | omega | assumption | exact q_rg_up (by assumption) (by omega) | exact q_rg_up (q_rg_up (by assumption) (by omega)) (by omega) | exact q_rg_cpy (by assumption) (by assumption)) (And.intro (by first | omega | assumption | exact q_rg_up (by assumption) (by omega) | exact q_rg_up (q_rg_up (by assumption) (by omega)) (by omega) | exact q_rg_cpy (by assumption) (by assumption)) (And.intro (by first | omega | assumption | exact q_rg_up (by assumption) (by omega) | exact q_rg_up (q_rg_up (by assumption) (by omega)) (by omega) | exact q_rg_cpy (by assumption) (by assumption)) (?_)))))))))))))))))))))))))
        intro z22 x1_22 x2_22 x4_22 x5_22 h22
        intro _
        obtain ⟨hr22, hg22a, hg22b⟩ := h22
        apply And.intro
        · first | exact Or.inl rfl | exact Or.inr rfl | omega
        exact hQ _ _ _ _ _ _ ⟨(by first | omega | assumption | exact q_rg_up (by assumption) (by omega) | exact q_rg_up (q_rg_up (by assumption) (by omega)) (by omega) | exact q_rg_cpy (by assumption) (by assumption)), (by first | omega | assumption | exact q_rg_up (by assumption) (by omega) | exact q_rg_up (q_rg_up (by assumption) (by omega)) (by omega) | exact q_rg_cpy (by assumption) (by assumption))⟩
      · intro h11
        apply And.intro
        · first | exact Or.inl rfl | exact Or.inr rfl | omega
        exact hQ _ _ _ _ _ _ ⟨(by first | omega | assumption | exact q_rg_up (by assumption) (by omega) | exact q_rg_up (q_rg_up (by assumption) (by omega)) (by omega) | exact q_rg_cpy (by assumption) (by assumption)), (by first | omega | assumption | exact q_rg_up (by assumption) (by omega) | exact q_rg_up (q_rg_up (by assumption) (by omega)) (by omega) | exact q_rg_cpy (by assumption) (by assumption))⟩

def spm_X11_guessable : List qV → qW → (Option qV → qW → Prop) → Prop := fun av w Q => ∃ (guo : Nat → Int) (gua : Nat → Int) (gum : Nat → Int) (gus : Nat → Int) (gug : Int) (b0f1 : Nat → Int) (b0f2 : Nat → Int) (b0f3 : Nat → Int) (b0f4 : Nat → Int) (b0f5 : Nat → Int) (b0f6 : Nat → Int) (b0f7 : Nat → Int) (b0u0 : Int) (b0u1 : Int) (b0u2 : Int) (b0u3 : Int) (b0u4 : Int) (s0p : Nat → Int) (s0t : Nat → Int) (s0c : Int) (a : Int) (yr : Option Nat), av = [q2 0, q2 6, .inr (.inr yr), q1 a] ∧ w = [.inr (11, [q2 17, q2 18, q2 19, q2 20, q2 21, q2 22, q2 1, q2 23]), .inr (2, [q2 2, q2 3, q2 4, q2 5, q1 gug]), .inl (3, 657, .inr (.inl guo)), .inl (3, 72, .inr (.inl gua)), .inl (3, 9, .inr (.inl gum)), .inl (0, 8, .inl gus), .inr (0, [q2 7, q2 8, q2 9, q2 10, q2 11, q2 12, q2 13, q1 b0u0, q1 b0u1, q1 b0u2, q1 b0u3, q1 b0u4]), .inl (0, 8, .inl b0f1), .inl (0, 8, .inl b0f2), .inl (0, 4, .inl b0f3), .inl (0, 32, .inl b0f4), .inl (0, 6, .inl b0f5), .inl (0, 6, .inl b0f6), .inl (0, 6, .inl b0f7), .inr (7, [q2 15, q2 16, q1 s0c]), .inl (0, 10, .inl s0p), .inl (0, 10, .inl s0t)] ∧ (0 ≤ gug ∧ gug ≤ 8) ∧ (0 ≤ b0u0 ∧ b0u0 ≤ 8 ∧ 0 ≤ b0u3 ∧ b0u3 ≤ 6 ∧ 0 ≤ b0u4 ∧ b0u4 ≤ 6) ∧ (q_rg 0 9 b0f3) ∧ (0 ≤ s0c ∧ s0c ≤ 10) ∧ (yr = none ∨ yr = some 14) ∧ (∀ (r : Int) (x_guo : Nat → Int) (x_gua : Nat → Int) (x_gum : Nat → Int) (x_gus : Nat → Int) (x_gug : Int), ((0 ≤ x_gug ∧ x_gug ≤ 8) ∧ ((r = 0 ∨ r = 1 ∧ 0 ≤ a ∧ a ≤ 8))) → Q (some (q1 r)) ([.inr (11, [q2 17, q2 18, q2 19, q2 20, q2 21, q2 22, q2 1, q2 23]), .inr (2, [q2 2, q2 3, q2 4, q2 5, q1 x_gug]), .inl (3, 657, .inr (.inl x_guo)), .inl (3, 72, .inr (.inl x_gua)), .inl (3, 9, .inr (.inl x_gum)), .inl (0, 8, .inl x_gus)]))
theorem mq_X11_guessable : ∀ (av : List qV) (w : qW) (P P' : Option qV → qW → Prop), (∀ r wm, P r wm → P' r wm) → spm_X11_guessable av w P → spm_X11_guessable av w P' := by
  intro av w P P' hP h
  obtain ⟨guo, gua, gum, gus, gug, b0f1, b0f2, b0f3, b0f4, b0f5, b0f6, b0f7, b0u0, b0u1, b0u2, b0u3, b0u4, s0p, s0t, s0c, a, yr, e1, e2, hgg, hb0, hf0, hs0, hyr, hQ9⟩ := h
  exact ⟨guo, gua, gum, gus, gug, b0f1, b0f2, b0f3, b0f4, b0f5, b0f6, b0f7, b0u0, b0u1, b0u2, b0u3, b0u4, s0p, s0t, s0c, a, yr, e1, e2, hgg, hb0, hf0, hs0, hyr, fun r x_guo x_gua x_gum x_gus x_gug hp9 => hP _ _ (hQ9 r x_guo x_gua x_gum x_gus x_gug hp9)⟩
theorem mm_X11_guessable (l : Launch) : q_M l yX11_guessable cX11_guessable 4 (some .boolean) 3 73 (fun av w Q => spm_X11_guessable av w (fun r wm => wm.length = 6 → Q r (wm ++ w.drop 6))) := by
  refine q_M_mono (fun av w Q h => ?_) (m_X11_guessable l)
  obtain ⟨guo, gua, gum, gus, gug, b0f1, b0f2, b0f3, b0f4, b0f5, b0f6, b0f7, b0u0, b0u1, b0u2, b0u3, b0u4, s0p, s0t, s0c, a, yr, rfl, rfl, hgg, hb0, hf0, hs0, hyr, hQ9⟩ := h
  exact ⟨guo, gua, gum, gus, gug, b0f1, b0f2, b0f3, b0f4, b0f5, b0f6, b0f7, b0u0, b0u1, b0u2, b0u3, b0u4, s0p, s0t, s0c, a, yr, rfl, rfl, hgg, hb0, hf0, hs0, hyr, fun r x_guo x_gua x_gum x_gus x_gug hp9 => hQ9 r x_guo x_gua x_gum x_gus x_gug hp9 rfl⟩
