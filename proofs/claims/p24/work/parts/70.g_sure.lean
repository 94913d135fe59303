theorem dX11_sure_0 : decode cX11_sure 0 = .ok (.aload_n 0, 1) := by decide +kernel
theorem dX11_sure_1 : decode cX11_sure 1 = .ok (.getfield 10, 3) := by decide +kernel
theorem dX11_sure_4 : decode cX11_sure 4 = .ok (.iload_n 1, 1) := by decide +kernel
theorem dX11_sure_5 : decode cX11_sure 5 = .ok (.invokevirtual 94, 3) := by decide +kernel
theorem dX11_sure_8 : decode cX11_sure 8 = .ok (.astore 5, 2) := by decide +kernel
theorem dX11_sure_10 : decode cX11_sure 10 = .ok (.aload 5, 2) := by decide +kernel
theorem dX11_sure_12 : decode cX11_sure 12 = .ok (.ifnull 21, 3) := by decide +kernel
theorem dX11_sure_15 : decode cX11_sure 15 = .ok (.aload_n 0, 1) := by decide +kernel
theorem dX11_sure_16 : decode cX11_sure 16 = .ok (.aload 5, 2) := by decide +kernel
theorem dX11_sure_18 : decode cX11_sure 18 = .ok (.aload_n 0, 1) := by decide +kernel
theorem dX11_sure_19 : decode cX11_sure 19 = .ok (.getfield 10, 3) := by decide +kernel
theorem dX11_sure_22 : decode cX11_sure 22 = .ok (.iload_n 2, 1) := by decide +kernel
theorem dX11_sure_23 : decode cX11_sure 23 = .ok (.invokevirtual 210, 3) := by decide +kernel
theorem dX11_sure_26 : decode cX11_sure 26 = .ok (.iload_n 3, 1) := by decide +kernel
theorem dX11_sure_27 : decode cX11_sure 27 = .ok (.invokevirtual 220, 3) := by decide +kernel
theorem dX11_sure_30 : decode cX11_sure 30 = .ok (.ifCond .ne 5, 3) := by decide +kernel
theorem dX11_sure_33 : decode cX11_sure 33 = .ok (.iconst (-1), 1) := by decide +kernel
theorem dX11_sure_34 : decode cX11_sure 34 = .ok (.ireturn, 1) := by decide +kernel
theorem dX11_sure_35 : decode cX11_sure 35 = .ok (.iload 4, 2) := by decide +kernel
theorem dX11_sure_37 : decode cX11_sure 37 = .ok (.iconst (-1), 1) := by decide +kernel
theorem dX11_sure_38 : decode cX11_sure 38 = .ok (.if_icmp .ne 12, 3) := by decide +kernel
theorem dX11_sure_41 : decode cX11_sure 41 = .ok (.aload_n 0, 1) := by decide +kernel
theorem dX11_sure_42 : decode cX11_sure 42 = .ok (.getfield 51, 3) := by decide +kernel
theorem dX11_sure_45 : decode cX11_sure 45 = .ok (.iload_n 3, 1) := by decide +kernel
theorem dX11_sure_46 : decode cX11_sure 46 = .ok (.invokevirtual 234, 3) := by decide +kernel
theorem dX11_sure_49 : decode cX11_sure 49 = .ok (.ireturn, 1) := by decide +kernel
theorem dX11_sure_50 : decode cX11_sure 50 = .ok (.aload 5, 2) := by decide +kernel
theorem dX11_sure_52 : decode cX11_sure 52 = .ok (.iload 4, 2) := by decide +kernel
theorem dX11_sure_54 : decode cX11_sure 54 = .ok (.invokevirtual 173, 3) := by decide +kernel
theorem dX11_sure_57 : decode cX11_sure 57 = .ok (.ifCond .eq 16, 3) := by decide +kernel
theorem dX11_sure_60 : decode cX11_sure 60 = .ok (.aload_n 0, 1) := by decide +kernel
theorem dX11_sure_61 : decode cX11_sure 61 = .ok (.getfield 51, 3) := by decide +kernel
theorem dX11_sure_64 : decode cX11_sure 64 = .ok (.iload 4, 2) := by decide +kernel
theorem dX11_sure_66 : decode cX11_sure 66 = .ok (.iload_n 3, 1) := by decide +kernel
theorem dX11_sure_67 : decode cX11_sure 67 = .ok (.invokevirtual 237, 3) := by decide +kernel
theorem dX11_sure_70 : decode cX11_sure 70 = .ok (.goto 4, 3) := by decide +kernel
theorem dX11_sure_73 : decode cX11_sure 73 = .ok (.iconst (-1), 1) := by decide +kernel
theorem dX11_sure_74 : decode cX11_sure 74 = .ok (.ireturn, 1) := by decide +kernel
def is_X11_sure : Nat → List Nat := fun d => []
set_option maxRecDepth 100000 in
def b_X11_sure_74 (J : Nat → List qV → List qV → qW → Prop) (Q : qR) : qK := x_iret Q
set_option maxRecDepth 100000 in
theorem s_X11_sure_74 {p : Program} {l : Launch} {e : Env} {R : Room} {s : State} {m : MethodId} {args : Array Value} {below : List Frame} {meth : Method} {c : Code} {nW : Nat} {dC : Nat → ClassId} {dI : Nat → Nat → Nat} {k : Nat → ClassId} {g : Nat → Nat} {A : Nat → Prop} {J : Nat → List qV → List qV → qW → Prop} {Q : qR} (X : q_X p R s m args meth c cX11_sure 6 nW 4 102 RX11 (some .int) dC dI k g A) (hJ : ∀ d : Nat, q_Sd p l e R s m args below meth c 6 nW dC dI k g A (MQ below (q_post (dC, dI) k g nW Q A) args s 0 0 A) d (x_cut (is_X11_sure d) (J d))) : q_Sd p l e R s m args below meth c 6 nW dC dI k g A (MQ below (q_post (dC, dI) k g nW Q A) args s 0 0 A) 74 (b_X11_sure_74 J Q) := by
  unfold b_X11_sure_74
  exact s_iret X dX11_sure_74
set_option maxRecDepth 100000 in
def b_X11_sure_33 (J : Nat → List qV → List qV → qW → Prop) (Q : qR) : qK := x_int (-1) (x_iret Q)
set_option maxRecDepth 100000 in
theorem s_X11_sure_33 {p : Program} {l : Launch} {e : Env} {R : Room} {s : State} {m : MethodId} {args : Array Value} {below : List Frame} {meth : Method} {c : Code} {nW : Nat} {dC : Nat → ClassId} {dI : Nat → Nat → Nat} {k : Nat → ClassId} {g : Nat → Nat} {A : Nat → Prop} {J : Nat → List qV → List qV → qW → Prop} {Q : qR} (X : q_X p R s m args meth c cX11_sure 6 nW 4 102 RX11 (some .int) dC dI k g A) (hJ : ∀ d : Nat, q_Sd p l e R s m args below meth c 6 nW dC dI k g A (MQ below (q_post (dC, dI) k g nW Q A) args s 0 0 A) d (x_cut (is_X11_sure d) (J d))) : q_Sd p l e R s m args below meth c 6 nW dC dI k g A (MQ below (q_post (dC, dI) k g nW Q A) args s 0 0 A) 33 (b_X11_sure_33 J Q) := by
  unfold b_X11_sure_33
  refine s_iconst X ⟨by decide, by decide⟩ dX11_sure_33 ?_
  exact s_iret X dX11_sure_34
set_option maxRecDepth 100000 in
def b_X11_sure_0 (J : Nat → List qV → List qV → qW → Prop) (Q : qR) : qK := x_aload 0 (x_get 11 0 (x_iload 1 (x_callr (some 8) 2 spr_X8_boroughAt (x_astore 5 (x_aload 5 (x_ifnull (b_X11_sure_33 J Q) (x_aload 0 (x_aload 5 (x_aload 0 (x_get 11 0 (x_iload 2 (x_callr (some 8) 2 spr_X8_sightAt (x_iload 3 (x_callm (some 11) 4 6 spm_X11_guessable (x_nw (x_if_ne (x_iload 4 (x_int (-1) (x_icmp_ne (x_aload 5 (x_iload 4 (x_callr (some 0) 2 spr_X0_has (x_if_eq (x_int (-1) (b_X11_sure_74 J Q)) (x_aload 0 (x_get 11 6 (x_iload 4 (x_iload 3 (x_callm (some 2) 3 5 spm_X2_surely (x_nw (b_X11_sure_74 J Q))))))))))) (x_aload 0 (x_get 11 6 (x_iload 3 (x_callm (some 2) 2 5 spm_X2_whomToAsk (x_nw (x_iret Q))))))))) (b_X11_sure_33 J Q)))))))))))))))))
set_option maxRecDepth 100000 in
theorem s_X11_sure_0 {p : Program} {l : Launch} {e : Env} {R : Room} {s : State} {m : MethodId} {args : Array Value} {below : List Frame} {meth : Method} {c : Code} {nW : Nat} {dC : Nat → ClassId} {dI : Nat → Nat → Nat} {k : Nat → ClassId} {g : Nat → Nat} {A : Nat → Prop} {J : Nat → List qV → List qV → qW → Prop} {Q : qR} (X : q_X p R s m args meth c cX11_sure 6 nW 4 102 RX11 (some .int) dC dI k g A) (hJ : ∀ d : Nat, q_Sd p l e R s m args below meth c 6 nW dC dI k g A (MQ below (q_post (dC, dI) k g nW Q A) args s 0 0 A) d (x_cut (is_X11_sure d) (J d))) : q_Sd p l e R s m args below meth c 6 nW dC dI k g A (MQ below (q_post (dC, dI) k g nW Q A) args s 0 0 A) 0 (b_X11_sure_0 J Q) := by
  unfold b_X11_sure_0
  refine s_aload_n X rfl dX11_sure_0 ?_
  refine s_get X (T := TX11) (C := RX11) (N := 8) tu_X11 rfl (by decide) tw_326 dX11_sure_1 ?_
  refine s_iload_n X rfl dX11_sure_4 ?_
  refine s_callVr X (m_X8_boroughAt l) tw_541 tw_542 tw_543 tw_121 tw_544 rfl (by decide +kernel) ⟨by decide, by decide⟩ dX11_sure_5 ?_
  refine s_astore X (by decide) dX11_sure_8 ?_
  refine s_aload X dX11_sure_10 ?_
  refine s_ifnull X (tgt := 33) dX11_sure_12 (by decide) ?_ ?_
  · exact s_X11_sure_33 X hJ
  · refine s_aload_n X rfl dX11_sure_15 ?_
    refine s_aload X dX11_sure_16 ?_
    refine s_aload_n X rfl dX11_sure_18 ?_
    refine s_get X (T := TX11) (C := RX11) (N := 8) tu_X11 rfl (by decide) tw_326 dX11_sure_19 ?_
    refine s_iload_n X rfl dX11_sure_22 ?_
    refine s_callVr X (m_X8_sightAt l) tw_800 tw_801 tw_802 tw_121 tw_803 rfl (by decide +kernel) ⟨by decide, by decide⟩ dX11_sure_23 ?_
    refine s_iload_n X rfl dX11_sure_26 ?_
    refine s_callVm X (mm_X11_guessable l) mq_X11_guessable tw_812 tw_813 tw_1485 tw_120 tw_814 rfl (by decide +kernel) ⟨by decide, by decide⟩ dX11_sure_27 ?_
    refine s_nw ?_
    refine s_if_ne X (tgt := 35) dX11_sure_30 (by decide) ?_ ?_
    · refine s_iload X dX11_sure_35 ?_
      refine s_iconst X ⟨by decide, by decide⟩ dX11_sure_37 ?_
      refine s_icmp_ne X (tgt := 50) dX11_sure_38 (by decide) ?_ ?_
      · refine s_aload X dX11_sure_50 ?_
        refine s_iload X dX11_sure_52 ?_
        refine s_callVr X (m_X0_has l) tw_742 tw_399 tw_400 tw_122 tw_401 rfl (by decide +kernel) ⟨by decide, by decide⟩ dX11_sure_54 ?_
        refine s_if_eq X (tgt := 73) dX11_sure_57 (by decide) ?_ ?_
        · refine s_iconst X ⟨by decide, by decide⟩ dX11_sure_73 ?_
          exact s_X11_sure_74 X hJ
        · refine s_aload_n X rfl dX11_sure_60 ?_
          refine s_get X (T := TX11) (C := RX11) (N := 8) tu_X11 rfl (by decide) tw_332 dX11_sure_61 ?_
          refine s_iload X dX11_sure_64 ?_
          refine s_iload_n X rfl dX11_sure_66 ?_
          refine s_callVm X (mm_X2_surely l) mq_X2_surely tw_870 tw_871 tw_872 tw_132 tw_873 rfl (by decide +kernel) ⟨by decide, by decide⟩ dX11_sure_67 ?_
          refine s_nw ?_
          refine s_goto X (tgt := 74) dX11_sure_70 (by decide) ?_
          exact s_X11_sure_74 X hJ
      · refine s_aload_n X rfl dX11_sure_41 ?_
        refine s_get X (T := TX11) (C := RX11) (N := 8) tu_X11 rfl (by decide) tw_332 dX11_sure_42 ?_
        refine s_iload_n X rfl dX11_sure_45 ?_
        refine s_callVm X (mm_X2_whomToAsk l) mq_X2_whomToAsk tw_859 tw_860 tw_861 tw_132 tw_862 rfl (by decide +kernel) ⟨by decide, by decide⟩ dX11_sure_46 ?_
        refine s_nw ?_
        exact s_iret X dX11_sure_49
    · exact s_X11_sure_33 X hJ

def sp_X11_sure : qS := fun av w Q => ∃ (tp : Nat → Int) (ct : Nat → Int) (ln : Int) (fa : Int) (pl : Int) (b0f1 : Nat → Int) (b0f2 : Nat → Int) (b0f3 : Nat → Int) (b0f4 : Nat → Int) (b0f5 : Nat → Int) (b0f6 : Nat → Int) (b0f7 : Nat → Int) (b0u0 : Int) (b0u1 : Int) (b0u2 : Int) (b0u3 : Int) (b0u4 : Int) (b1f1 : Nat → Int) (b1f2 : Nat → Int) (b1f3 : Nat → Int) (b1f4 : Nat → Int) (b1f5 : Nat → Int) (b1f6 : Nat → Int) (b1f7 : Nat → Int) (b1u0 : Int) (b1u1 : Int) (b1u2 : Int) (b1u3 : Int) (b1u4 : Int) (s0p : Nat → Int) (s0t : Nat → Int) (s0c : Int) (s1p : Nat → Int) (s1t : Nat → Int) (s1c : Int) (guo : Nat → Int) (gua : Nat → Int) (gum : Nat → Int) (gus : Nat → Int) (gug : Int) (a : Int) (b : Int) (cc : Int) (dd : Int), av = [q2 0, q1 a, q1 b, q1 cc, q1 dd] ∧ w = [.inr (11, [q2 1, q2 33, q2 34, q2 35, q2 36, q2 37, q2 28, q2 38]), .inr (8, [q2 2, q2 3, q2 4, q2 39, q2 40, q2 5, q1 ln, q1 fa, q1 pl]), .inl (1, 600, .inl tp), .inl (0, 4, .inl ct), .inl (4, 2, .inr (.inr [some 6, some 14])), .inl (7, 2, .inr (.inr [some 22, some 25])), .inr (0, [q2 7, q2 8, q2 9, q2 10, q2 11, q2 12, q2 13, q1 b0u0, q1 b0u1, q1 b0u2, q1 b0u3, q1 b0u4]), .inl (0, 8, .inl b0f1), .inl (0, 8, .inl b0f2), .inl (0, 4, .inl b0f3), .inl (0, 32, .inl b0f4), .inl (0, 6, .inl b0f5), .inl (0, 6, .inl b0f6), .inl (0, 6, .inl b0f7), .inr (0, [q2 15, q2 16, q2 17, q2 18, q2 19, q2 20, q2 21, q1 b1u0, q1 b1u1, q1 b1u2, q1 b1u3, q1 b1u4]), .inl (0, 8, .inl b1f1), .inl (0, 8, .inl b1f2), .inl (0, 4, .inl b1f3), .inl (0, 32, .inl b1f4), .inl (0, 6, .inl b1f5), .inl (0, 6, .inl b1f6), .inl (0, 6, .inl b1f7), .inr (7, [q2 23, q2 24, q1 s0c]), .inl (0, 10, .inl s0p), .inl (0, 10, .inl s0t), .inr (7, [q2 26, q2 27, q1 s1c]), .inl (0, 10, .inl s1p), .inl (0, 10, .inl s1t), .inr (2, [q2 29, q2 30, q2 31, q2 32, q1 gug]), .inl (3, 657, .inr (.inl guo)), .inl (3, 72, .inr (.inl gua)), .inl (3, 9, .inr (.inl gum)), .inl (0, 8, .inl gus)] ∧ (q_rg 0 2 ct) ∧ (0 ≤ ln ∧ ln ≤ 600) ∧ (0 ≤ b0u0 ∧ b0u0 ≤ 8 ∧ 0 ≤ b0u3 ∧ b0u3 ≤ 6 ∧ 0 ≤ b0u4 ∧ b0u4 ≤ 6) ∧ (q_rg 0 9 b0f3) ∧ (0 ≤ b1u0 ∧ b1u0 ≤ 8 ∧ 0 ≤ b1u3 ∧ b1u3 ≤ 6 ∧ 0 ≤ b1u4 ∧ b1u4 ≤ 6) ∧ (q_rg 0 9 b1f3) ∧ (0 ≤ s0c ∧ s0c ≤ 10) ∧ (0 ≤ s1c ∧ s1c ≤ 10) ∧ (0 ≤ gug ∧ gug ≤ 8) ∧ (∀ (r : Int) (x_guo : Nat → Int) (x_gua : Nat → Int) (x_gum : Nat → Int) (x_gus : Nat → Int) (x_gug : Int), ((0 ≤ x_gug ∧ x_gug ≤ 8)) → Q (some (q1 r)) ([.inr (11, [q2 1, q2 33, q2 34, q2 35, q2 36, q2 37, q2 28, q2 38]), .inr (8, [q2 2, q2 3, q2 4, q2 39, q2 40, q2 5, q1 ln, q1 fa, q1 pl]), .inl (1, 600, .inl tp), .inl (0, 4, .inl ct), .inl (4, 2, .inr (.inr [some 6, some 14])), .inl (7, 2, .inr (.inr [some 22, some 25])), .inr (0, [q2 7, q2 8, q2 9, q2 10, q2 11, q2 12, q2 13, q1 b0u0, q1 b0u1, q1 b0u2, q1 b0u3, q1 b0u4]), .inl (0, 8, .inl b0f1), .inl (0, 8, .inl b0f2), .inl (0, 4, .inl b0f3), .inl (0, 32, .inl b0f4), .inl (0, 6, .inl b0f5), .inl (0, 6, .inl b0f6), .inl (0, 6, .inl b0f7), .inr (0, [q2 15, q2 16, q2 17, q2 18, q2 19, q2 20, q2 21, q1 b1u0, q1 b1u1, q1 b1u2, q1 b1u3, q1 b1u4]), .inl (0, 8, .inl b1f1), .inl (0, 8, .inl b1f2), .inl (0, 4, .inl b1f3), .inl (0, 32, .inl b1f4), .inl (0, 6, .inl b1f5), .inl (0, 6, .inl b1f6), .inl (0, 6, .inl b1f7), .inr (7, [q2 23, q2 24, q1 s0c]), .inl (0, 10, .inl s0p), .inl (0, 10, .inl s0t), .inr (7, [q2 26, q2 27, q1 s1c]), .inl (0, 10, .inl s1p), .inl (0, 10, .inl s1t), .inr (2, [q2 29, q2 30, q2 31, q2 32, q1 x_gug]), .inl (3, 657, .inr (.inl x_guo)), .inl (3, 72, .inr (.inl x_gua)), .inl (3, 9, .inr (.inl x_gum)), .inl (0, 8, .inl x_gus)]))
set_option maxHeartbeats 4000000 in
set_option maxRecDepth 100000 in
theorem m_X11_sure (l : Launch) : q_M l yX11_sure cX11_sure 6 (some .int) 4 102 sp_X11_sure := by
  refine q_meth (by decide) (fun av w Q h => by obtain ⟨tp, ct, ln, fa, pl, b0f1, b0f2, b0f3, b0f4, b0f5, b0f6, b0f7, b0u0, b0u1, b0u2, b0u3, b0u4, b1f1, b1f2, b1f3, b1f4, b1f5, b1f6, b1f7, b1u0, b1u1, b1u2, b1u3, b1u4, s0p, s0t, s0c, s1p, s1t, s1c, guo, gua, gum, gus, gug, a, b, cc, dd, rfl, rfl, hct, hln, hb0, hf0, hb1, hf1, hs0, hs1, hgg, hQ⟩ := h; exact Nat.le_of_ble_eq_true rfl) ?_
  intro p e R s m args below meth c dC dI k g A av w Q hsp oka okw X
  obtain ⟨tp, ct, ln, fa, pl, b0f1, b0f2, b0f3, b0f4, b0f5, b0f6, b0f7, b0u0, b0u1, b0u2, b0u3, b0u4, b1f1, b1f2, b1f3, b1f4, b1f5, b1f6, b1f7, b1u0, b1u1, b1u2, b1u3, b1u4, s0p, s0t, s0c, s1p, s1t, s1c, guo, gua, gum, gus, gug, a, b, cc, dd, rfl, rfl, hct, hln, hb0, hf0, hb1, hf1, hs0, hs1, hgg, hQ⟩ := hsp
  have o_a : -2147483648 ≤ a ∧ a ≤ 2147483647 := oka _ (List.mem_of_getElem? (i := 1) rfl)
  have o_b : -2147483648 ≤ b ∧ b ≤ 2147483647 := oka _ (List.mem_of_getElem? (i := 2) rfl)
  have o_cc : -2147483648 ≤ cc ∧ cc ≤ 2147483647 := oka _ (List.mem_of_getElem? (i := 3) rfl)
  have o_dd : -2147483648 ≤ dd ∧ dd ≤ 2147483647 := oka _ (List.mem_of_getElem? (i := 4) rfl)
  refine s_mono (s_X11_sure_0 X (J := fun _ _ _ _ => False) (fun d => s_cutF)) ?_
  rintro lv st w' ⟨rfl, rfl, rfl⟩
  refine Exists.intro [1, 2, 3, 4, 39, 40, 5, 6, 14] (Exists.intro [q2 0, q1 _] (Exists.intro ((wT4_0 _ _ _ _ _)) (And.intro rfl (And.intro rfl (And.intro rfl (And.intro ⟨⟨_, rfl⟩, rfl⟩ ?_))))))
  refine Exists.intro _ (Exists.intro _ (Exists.intro _ (Exists.intro _ (Exists.intro _ (Exists.intro _ (And.intro rfl (And.intro rfl (?_))))))))
  intro z5 h5
  rcases h5 with rfl | ⟨rfl, rfl⟩ | ⟨rfl, rfl⟩
  · exact hQ _ _ _ _ _ _ (by first | omega | assumption | exact q_rg_up (by assumption) (by omega) | exact q_rg_up (q_rg_up (by assumption) (by omega)) (by omega) | exact q_rg_cpy (by assumption) (by assumption))
  · refine Exists.intro [1, 2, 3, 5, 4, 39, 40, 22, 25] (Exists.intro [q2 0, q1 _] (Exists.intro ((wT4_3 _ _ _ _ _)) (And.intro rfl (And.intro rfl (And.intro rfl (And.intro ⟨⟨_, rfl⟩, rfl⟩ ?_))))))
    refine Exists.intro _ (Exists.intro _ (Exists.intro _ (Exists.intro _ (Exists.intro _ (Exists.intro _ (And.intro rfl (And.intro rfl (?_))))))))
    intro z23 h23
    rcases h23 with rfl | ⟨rfl, rfl⟩ | ⟨rfl, rfl⟩
    · refine Exists.intro [0, 28, 29, 30, 31, 32, 6, 7, 8, 9, 10, 11, 12, 13, 22, 23, 24, 1, 33, 34, 35, 36, 37, 38] (Exists.intro [q2 0, q2 6, .inr (.inr none), q1 _] (Exists.intro ([.inr (11, [q2 17, q2 18, q2 19, q2 20, q2 21, q2 22, q2 1, q2 23]), .inr (2, [q2 2, q2 3, q2 4, q2 5, q1 _]), .inl (3, 657, .inr (.inl _)), .inl (3, 72, .inr (.inl _)), .inl (3, 9, .inr (.inl _)), .inl (0, 8, .inl _), .inr (0, [q2 7, q2 8, q2 9, q2 10, q2 11, q2 12, q2 13, q1 _, q1 _, q1 _, q1 _, q1 _]), .inl (0, 8, .inl _), .inl (0, 8, .inl _), .inl (0, 4, .inl _), .inl (0, 32, .inl _), .inl (0, 6, .inl _), .inl (0, 6, .inl _), .inl (0, 6, .inl _), .inr (7, [q2 15, q2 16, q1 _]), .inl (0, 10, .inl _), .inl (0, 10, .inl _)]) (And.intro rfl (And.intro rfl (And.intro rfl (And.intro ⟨⟨_, rfl⟩, rfl⟩ (And.intro (Nat.le_of_ble_eq_true rfl) ?_)))))))
      refine Exists.intro _ (Exists.intro _ (Exists.intro _ (Exists.intro _ (Exists.intro _ (Exists.intro _ (Exists.intro _ (Exists.intro _ (Exists.intro _ (Exists.intro _ (Exists.intro _ (Exists.intro _ (Exists.intro _ (Exists.intro _ (Exists.intro _ (Exists.intro _ (Exists.intro _ (Exists.intro _ (Exists.intro _ (Exists.intro _ (Exists.intro _ (Exists.intro _ (And.intro rfl (And.intro rfl (And.intro (by first | omega | assumption | exact q_rg_up (by assumption) (by omega) | exact q_rg_up (q_rg_up (by assumption) (by omega)) (by omega) | exact q_rg_cpy (by assumption) (by assumption)) (And.intro (by first | omega | assumption | exact q_rg_up (by assumption) (by omega) | exact q_rg_up (q_rg_up (by assumption) (by omega)) (by omega) | exact q_rg_cpy (by assumption) (by assumption)) (And.intro (by first | omega | assumption | exact q_rg_up (by assumption) (by omega) | exact q_rg_up (q_rg_up (by assumption) (by omega)) (by omega) | exact q_rg_cpy (by assumption) (by assumption)) (And.intro (by first | omega | assumption | exact q_rg_up (by assumption) (by omega) | exact q_rg_up (q_rg_up (by assumption) (by omega)) (by omega) | exact q_rg_cpy (by assumption) (by assumption)) (And.intro (by first | exact Or.inl rfl | exact Or.inr rfl) (?_)))))))))))))))))))))))))))))
      intro z27 x_guo_27 x_gua_27 x_gum_27 x_gus_27 x_gug_27 h27
      intro _
      obtain ⟨hg27, h27⟩ := h27
      apply And.intro
      · intro h30
        apply And.intro
        · intro h38
          refine Exists.intro [6, 7, 8, 9, 10, 11, 12, 13] (Exists.intro [q2 0, q1 _] (Exists.intro (wB _ _ _ _ _ _ _ _ _ _ _ _) (And.intro rfl (And.intro rfl (And.intro rfl (And.intro ⟨⟨_, rfl⟩, rfl⟩ ?_))))))
          refine Exists.intro _ (Exists.intro _ (Exists.intro _ (Exists.intro _ (Exists.intro _ (Exists.intro _ (Exists.intro _ (Exists.intro _ (Exists.intro _ (Exists.intro _ (Exists.intro _ (Exists.intro _ (Exists.intro _ (And.intro rfl (And.intro rfl (?_)))))))))))))))
          intro z54 h54
          apply And.intro
          · intro h57
            exact hQ _ _ _ _ _ _ (by first | omega | assumption | exact q_rg_up (by assumption) (by omega) | exact q_rg_up (q_rg_up (by assumption) (by omega)) (by omega) | exact q_rg_cpy (by assumption) (by assumption))
          · intro h57
            refine Exists.intro [28, 29, 30, 31, 32] (Exists.intro [q2 0, q1 _, q1 _] (Exists.intro ((wGo 0 _ _ _ _ _)) (And.intro rfl (And.intro rfl (And.intro rfl (And.intro ⟨⟨_, rfl⟩, rfl⟩ (And.intro (Nat.le_of_ble_eq_true rfl) ?_)))))))
            refine Exists.intro _ (Exists.intro _ (Exists.intro _ (Exists.intro _ (Exists.intro _ (Exists.intro _ (Exists.intro _ (And.intro rfl (And.intro rfl (And.intro (by first | omega | assumption | exact q_rg_up (by assumption) (by omega) | exact q_rg_up (q_rg_up (by assumption) (by omega)) (by omega) | exact q_rg_cpy (by assumption) (by assumption)) (And.intro (by first | omega | assumption | exact q_rg_up (by assumption) (by omega) | exact q_rg_up (q_rg_up (by assumption) (by omega)) (by omega) | exact q_rg_cpy (by assumption) (by assumption)) (?_)))))))))))
            intro z67 x3_67
            intro _
            exact hQ _ _ _ _ _ _ (by first | omega | assumption | exact q_rg_up (by assumption) (by omega) | exact q_rg_up (q_rg_up (by assumption) (by omega)) (by omega) | exact q_rg_cpy (by assumption) (by assumption))
        · intro h38
          refine Exists.intro [28, 29, 30, 31, 32] (Exists.intro [q2 0, q1 _] (Exists.intro ((wGo 0 _ _ _ _ _)) (And.intro rfl (And.intro rfl (And.intro rfl (And.intro ⟨⟨_, rfl⟩, rfl⟩ (And.intro (Nat.le_of_ble_eq_true rfl) ?_)))))))
          refine Exists.intro _ (Exists.intro _ (Exists.intro _ (Exists.intro _ (Exists.intro _ (Exists.intro _ (And.intro rfl (And.intro rfl (And.intro (by first | omega | assumption | exact q_rg_up (by assumption) (by omega) | exact q_rg_up (q_rg_up (by assumption) (by omega)) (by omega) | exact q_rg_cpy (by assumption) (by assumption)) (And.intro (by first | omega | assumption | exact q_rg_up (by assumption) (by omega) | exact q_rg_up (q_rg_up (by assumption) (by omega)) (by omega) | exact q_rg_cpy (by assumption) (by assumption)) (?_))))))))))
          intro z46 x3_46
          intro _
          exact hQ _ _ _ _ _ _ (by first | omega | assumption | exact q_rg_up (by assumption) (by omega) | exact q_rg_up (q_rg_up (by assumption) (by omega)) (by omega) | exact q_rg_cpy (by assumption) (by assumption))
      · intro h30
        exact hQ _ _ _ _ _ _ (by first | omega | assumption | exact q_rg_up (by assumption) (by omega) | exact q_rg_up (q_rg_up (by assumption) (by omega)) (by omega) | exact q_rg_cpy (by assumption) (by assumption))
    · refine Exists.intro [0, 28, 29, 30, 31, 32, 6, 7, 8, 9, 10, 11, 12, 13, 22, 23, 24, 1, 33, 34, 35, 36, 37, 38] (Exists.intro [q2 0, q2 6, .inr (.inr (some 14)), q1 _] (Exists.intro ([.inr (11, [q2 17, q2 18, q2 19, q2 20, q2 21, q2 22, q2 1, q2 23]), .inr (2, [q2 2, q2 3, q2 4, q2 5, q1 _]), .inl (3, 657, .inr (.inl _)), .inl (3, 72, .inr (.inl _)), .inl (3, 9, .inr (.inl _)), .inl (0, 8, .inl _), .inr (0, [q2 7, q2 8, q2 9, q2 10, q2 11, q2 12, q2 13, q1 _, q1 _, q1 _, q1 _, q1 _]), .inl (0, 8, .inl _), .inl (0, 8, .inl _), .inl (0, 4, .inl _), .inl (0, 32, .inl _), .inl (0, 6, .inl _), .inl (0, 6, .inl _), .inl (0, 6, .inl _), .inr (7, [q2 15, q2 16, q1 _]), .inl (0, 10, .inl _), .inl (0, 10, .inl _)]) (And.intro rfl (And.intro rfl (And.intro rfl (And.intro ⟨⟨_, rfl⟩, rfl⟩ (And.intro (Nat.le_of_ble_eq_true rfl) ?_)))))))
      refine Exists.intro _ (Exists.intro _ (Exists.intro _ (Exists.intro _ (Exists.intro _ (Exists.intro _ (Exists.intro _ (Exists.intro _ (Exists.intro _ (Exists.intro _ (Exists.intro _ (Exists.intro _ (Exists.intro _ (Exists.intro _ (Exists.intro _ (Exists.intro _ (Exists.intro _ (Exists.intro _ (Exists.intro _ (Exists.intro _ (Exists.intro _ (Exists.intro _ (And.intro rfl (And.intro rfl (And.intro (by first | omega | assumption | exact q_rg_up (by assumption) (by omega) | exact q_rg_up (q_rg_up (by assumption) (by omega)) (by omega) | exact q_rg_cpy (by assumption) (by assumption)) (And.intro (by first | omega | assumption | exact q_rg_up (by assumption) (by omega) | exact q_rg_up (q_rg_up (by assumption) (by omega)) (by omega) | exact q_rg_cpy (by assumption) (by assumption)) (And.intro (by first | omega | assumption | exact q_rg_up (by assumption) (by omega) | exact q_rg_up (q_rg_up (by assumption) (by omega)) (by omega) | exact q_rg_cpy (by assumption) (by assumption)) (And.intro (by first | omega | assumption | exact q_rg_up (by assumption) (by omega) | exact q_rg_up (q_rg_up (by assumption) (by omega)) (by omega) | exact q_rg_cpy (by assumption) (by assumption)) (And.intro (by first | exact Or.inl rfl | exact Or.inr rfl) (?_)))))))))))))))))))))))))))))
      intro z27 x_guo_27 x_gua_27 x_gum_27 x_gus_27 x_gug_27 h27
      intro _
      obtain ⟨hg27, h27⟩ := h27
      apply And.intro
      · intro h30
        apply And.intro
        · intro h38
          refine Exists.intro [6, 7, 8, 9, 10, 11, 12, 13] (Exists.intro [q2 0, q1 _] (Exists.intro (wB _ _ _ _ _ _ _ _ _ _ _ _) (And.intro rfl (And.intro rfl (And.intro rfl (And.intro ⟨⟨_, rfl⟩, rfl⟩ ?_))))))
          refine Exists.intro _ (Exists.intro _ (Exists.intro _ (Exists.intro _ (Exists.intro _ (Exists.intro _ (Exists.intro _ (Exists.intro _ (Exists.intro _ (Exists.intro _ (Exists.intro _ (Exists.intro _ (Exists.intro _ (And.intro rfl (And.intro rfl (?_)))))))))))))))
          intro z54 h54
          apply And.intro
          · intro h57
            exact hQ _ _ _ _ _ _ (by first | omega | assumption | exact q_rg_up (by assumption) (by omega) | exact q_rg_up (q_rg_up (by assumption) (by omega)) (by omega) | exact q_rg_cpy (by assumption) (by assumption))
          · intro h57
            refine Exists.intro [28, 29, 30, 31, 32] (Exists.intro [q2 0, q1 _, q1 _] (Exists.intro ((wGo 0 _ _ _ _ _)) (And.intro rfl (And.intro rfl (And.intro rfl (And.intro ⟨⟨_, rfl⟩, rfl⟩ (And.intro (Nat.le_of_ble_eq_true rfl) ?_)))))))
            refine Exists.intro _ (Exists.intro _ (Exists.intro _ (Exists.intro _ (Exists.intro _ (Exists.intro _ (Exists.intro _ (And.intro rfl (And.intro rfl (And.intro (by first | omega | assumption | exact q_rg_up (by assumption) (by omega) | exact q_rg_up (q_rg_up (by assumption) (by omega)) (by omega) | exact q_rg_cpy (by assumption) (by assumption)) (And.intro (by first | omega | assumption | exact q_rg_up (by assumption) (by omega) | exact q_rg_up (q_rg_up (by assumption) (by omega)) (by omega) | exact q_rg_cpy (by assumption) (by assumption)) (?_)))))))))))
            intro z67 x3_67
            intro _
            exact hQ _ _ _ _ _ _ (by first | omega | assumption | exact q_rg_up (by assumption) (by omega) | exact q_rg_up (q_rg_up (by assumption) (by omega)) (by omega) | exact q_rg_cpy (by assumption) (by assumption))
        · intro h38
          refine Exists.intro [28, 29, 30, 31, 32] (Exists.intro [q2 0, q1 _] (Exists.intro ((wGo 0 _ _ _ _ _)) (And.intro rfl (And.intro rfl (And.intro rfl (And.intro ⟨⟨_, rfl⟩, rfl⟩ (And.intro (Nat.le_of_ble_eq_true rfl) ?_)))))))
          refine Exists.intro _ (Exists.intro _ (Exists.intro _ (Exists.intro _ (Exists.intro _ (Exists.intro _ (And.intro rfl (And.intro rfl (And.intro (by first | omega | assumption | exact q_rg_up (by assumption) (by omega) | exact q_rg_up (q_rg_up (by assumption) (by omega)) (by omega) | exact q_rg_cpy (by assumption) (by assumption)) (And.intro (by first | omega | assumption | exact q_rg_up (by assumption) (by omega) | exact q_rg_up (q_rg_up (by assumption) (by omega)) (by omega) | exact q_rg_cpy (by assumption) (by assumption)) (?_))))))))))
          intro z46 x3_46
          intro _
          exact hQ _ _ _ _ _ _ (by first | omega | assumption | exact q_rg_up (by assumption) (by omega) | exact q_rg_up (q_rg_up (by assumption) (by omega)) (by omega) | exact q_rg_cpy (by assumption) (by assumption))
      · intro h30
        exact hQ _ _ _ _ _ _ (by first | omega | assumption | exact q_rg_up (by assumption) (by omega) | exact q_rg_up (q_rg_up (by assumption) (by omega)) (by omega) | exact q_rg_cpy (by assumption) (by assumption))
    · refine Exists.intro [0, 28, 29, 30, 31, 32, 6, 7, 8, 9, 10, 11, 12, 13, 25, 26, 27, 1, 33, 34, 35, 36, 37, 38] (Exists.intro [q2 0, q2 6, .inr (.inr (some 14)), q1 _] (Exists.intro ([.inr (11, [q2 17, q2 18, q2 19, q2 20, q2 21, q2 22, q2 1, q2 23]), .inr (2, [q2 2, q2 3, q2 4, q2 5, q1 _]), .inl (3, 657, .inr (.inl _)), .inl (3, 72, .inr (.inl _)), .inl (3, 9, .inr (.inl _)), .inl (0, 8, .inl _), .inr (0, [q2 7, q2 8, q2 9, q2 10, q2 11, q2 12, q2 13, q1 _, q1 _, q1 _, q1 _, q1 _]), .inl (0, 8, .inl _), .inl (0, 8, .inl _), .inl (0, 4, .inl _), .inl (0, 32, .inl _), .inl (0, 6, .inl _), .inl (0, 6, .inl _), .inl (0, 6, .inl _), .inr (7, [q2 15, q2 16, q1 _]), .inl (0, 10, .inl _), .inl (0, 10, .inl _)]) (And.intro rfl (And.intro rfl (And.intro rfl (And.intro ⟨⟨_, rfl⟩, rfl⟩ (And.intro (Nat.le_of_ble_eq_true rfl) ?_)))))))
      refine Exists.intro _ (Exists.intro _ (Exists.intro _ (Exists.intro _ (Exists.intro _ (Exists.intro _ (Exists.intro _ (Exists.intro _ (Exists.intro _ (Exists.intro _ (Exists.intro _ (Exists.intro _ (Exists.intro _ (Exists.intro _ (Exists.intro _ (Exists.intro _ (Exists.intro _ (Exists.intro _ (Exists.intro _ (Exists.intro _ (Exists.intro _ (Exists.intro _ (And.intro rfl (And.intro rfl (And.intro (by first | omega | assumption | exact q_rg_up (by assumption) (by omega) | exact q_rg_up (q_rg_up (by assumption) (by omega)) (by omega) | exact q_rg_cpy (by assumption) (by assumption)) (And.intro (by first | omega | assumption | exact q_rg_up (by assumption) (by omega) | exact q_rg_up (q_rg_up (by assumption) (by omega)) (by omega) | exact q_rg_cpy (by assumption) (by assumption)) (And.intro (by first | omega | assumption | exact q_rg_up (by assumption) (by omega) | exact q_rg_up (q_rg_up (by assumption) (by omega)) (by omega) | exact q_rg_cpy (by assumption) (by assumption)) (And.intro (by first | omega | assumption | exact q_rg_up (by assumption) (by omega) | exact q_rg_up (q_rg_up (by assumption) (by omega)) (by omega) | exact q_rg_cpy (by assumption) (by assumption)) (And.intro (by first | exact Or.inl rfl | exact Or.inr rfl) (?_)))))))))))))))))))))))))))))
      intro z27 x_guo_27 x_gua_27 x_gum_27 x_gus_27 x_gug_27 h27
      intro _
      obtain ⟨hg27, h27⟩ := h27
      apply And.intro
      · intro h30
        apply And.intro
        · intro h38
          refine Exists.intro [6, 7, 8, 9, 10, 11, 12, 13] (Exists.intro [q2 0, q1 _] (Exists.intro (wB _ _ _ _ _ _ _ _ _ _ _ _) (And.intro rfl (And.intro rfl (And.intro rfl (And.intro ⟨⟨_, rfl⟩, rfl⟩ ?_))))))
          refine Exists.intro _ (Exists.intro _ (Exists.intro _ (Exists.intro _ (Exists.intro _ (Exists.intro _ (Exists.intro _ (Exists.intro _ (Exists.intro _ (Exists.intro _ (Exists.intro _ (Exists.intro _ (Exists.intro _ (And.intro rfl (And.intro rfl (?_)))))))))))))))
          intro z54 h54
          apply And.intro
          · intro h57
            exact hQ _ _ _ _ _ _ (by first | omega | assumption | exact q_rg_up (by assumption) (by omega) | exact q_rg_up (q_rg_up (by assumption) (by omega)) (by omega) | exact q_rg_cpy (by assumption) (by assumption))
          · intro h57
            refine Exists.intro [28, 29, 30, 31, 32] (Exists.intro [q2 0, q1 _, q1 _] (Exists.intro ((wGo 0 _ _ _ _ _)) (And.intro rfl (And.intro rfl (And.intro rfl (And.intro ⟨⟨_, rfl⟩, rfl⟩ (And.intro (Nat.le_of_ble_eq_true rfl) ?_)))))))
            refine Exists.intro _ (Exists.intro _ (Exists.intro _ (Exists.intro _ (Exists.intro _ (Exists.intro _ (Exists.intro _ (And.intro rfl (And.intro rfl (And.intro (by first | omega | assumption | exact q_rg_up (by assumption) (by omega) | exact q_rg_up (q_rg_up (by assumption) (by omega)) (by omega) | exact q_rg_cpy (by assumption) (by assumption)) (And.intro (by first | omega | assumption | exact q_rg_up (by assumption) (by omega) | exact q_rg_up (q_rg_up (by assumption) (by omega)) (by omega) | exact q_rg_cpy (by assumption) (by assumption)) (?_)))))))))))
            intro z67 x3_67
            intro _
            exact hQ _ _ _ _ _ _ (by first | omega | assumption | exact q_rg_up (by assumption) (by omega) | exact q_rg_up (q_rg_up (by assumption) (by omega)) (by omega) | exact q_rg_cpy (by assumption) (by assumption))
        · intro h38
          refine Exists.intro [28, 29, 30, 31, 32] (Exists.intro [q2 0, q1 _] (Exists.intro ((wGo 0 _ _ _ _ _)) (And.intro rfl (And.intro rfl (And.intro rfl (And.intro ⟨⟨_, rfl⟩, rfl⟩ (And.intro (Nat.le_of_ble_eq_true rfl) ?_)))))))
          refine Exists.intro _ (Exists.intro _ (Exists.intro _ (Exists.intro _ (Exists.intro _ (Exists.intro _ (And.intro rfl (And.intro rfl (And.intro (by first | omega | assumption | exact q_rg_up (by assumption) (by omega) | exact q_rg_up (q_rg_up (by assumption) (by omega)) (by omega) | exact q_rg_cpy (by assumption) (by assumption)) (And.intro (by first | omega | assumption | exact q_rg_up (by assumption) (by omega) | exact q_rg_up (q_rg_up (by assumption) (by omega)) (by omega) | exact q_rg_cpy (by assumption) (by assumption)) (?_))))))))))
          intro z46 x3_46
          intro _
          exact hQ _ _ _ _ _ _ (by first | omega | assumption | exact q_rg_up (by assumption) (by omega) | exact q_rg_up (q_rg_up (by assumption) (by omega)) (by omega) | exact q_rg_cpy (by assumption) (by assumption))
      · intro h30
        exact hQ _ _ _ _ _ _ (by first | omega | assumption | exact q_rg_up (by assumption) (by omega) | exact q_rg_up (q_rg_up (by assumption) (by omega)) (by omega) | exact q_rg_cpy (by assumption) (by assumption))
  · refine Exists.intro [1, 2, 3, 5, 4, 39, 40, 22, 25] (Exists.intro [q2 0, q1 _] (Exists.intro ((wT4_3 _ _ _ _ _)) (And.intro rfl (And.intro rfl (And.intro rfl (And.intro ⟨⟨_, rfl⟩, rfl⟩ ?_))))))
    refine Exists.intro _ (Exists.intro _ (Exists.intro _ (Exists.intro _ (Exists.intro _ (Exists.intro _ (And.intro rfl (And.intro rfl (?_))))))))
    intro z23 h23
    rcases h23 with rfl | ⟨rfl, rfl⟩ | ⟨rfl, rfl⟩
    · refine Exists.intro [0, 28, 29, 30, 31, 32, 14, 15, 16, 17, 18, 19, 20, 21, 22, 23, 24, 1, 33, 34, 35, 36, 37, 38] (Exists.intro [q2 0, q2 6, .inr (.inr none), q1 _] (Exists.intro ([.inr (11, [q2 17, q2 18, q2 19, q2 20, q2 21, q2 22, q2 1, q2 23]), .inr (2, [q2 2, q2 3, q2 4, q2 5, q1 _]), .inl (3, 657, .inr (.inl _)), .inl (3, 72, .inr (.inl _)), .inl (3, 9, .inr (.inl _)), .inl (0, 8, .inl _), .inr (0, [q2 7, q2 8, q2 9, q2 10, q2 11, q2 12, q2 13, q1 _, q1 _, q1 _, q1 _, q1 _]), .inl (0, 8, .inl _), .inl (0, 8, .inl _), .inl (0, 4, .inl _), .inl (0, 32, .inl _), .inl (0, 6, .inl _), .inl (0, 6, .inl _), .inl (0, 6, .inl _), .inr (7, [q2 15, q2 16, q1 _]), .inl (0, 10, .inl _), .inl (0, 10, .inl _)]) (And.intro rfl (And.intro rfl (And.intro rfl (And.intro ⟨⟨_, rfl⟩, rfl⟩ (And.intro (Nat.le_of_ble_eq_true rfl) ?_)))))))
      refine Exists.intro _ (Exists.intro _ (Exists.intro _ (Exists.intro _ (Exists.intro _ (Exists.intro _ (Exists.intro _ (Exists.intro _ (Exists.intro _ (Exists.intro _ (Exists.intro _ (Exists.intro _ (Exists.intro _ (Exists.intro _ (Exists.intro _ (Exists.intro _ (Exists.intro _ (Exists.intro _ (Exists.intro _ (Exists.intro _ (Exists.intro _ (Exists.intro _ (And.intro rfl (And.intro rfl (And.intro (by first | omega | assumption | exact q_rg_up (by assumption) (by omega) | exact q_rg_up (q_rg_up (by assumption) (by omega)) (by omega) | exact q_rg_cpy (by assumption) (by assumption)) (And.intro (by first | omega | assumption | exact q_rg_up (by assumption) (by omega) | exact q_rg_up (q_rg_up (by assumption) (by omega)) (by omega) | exact q_rg_cpy (by assumption) (by assumption)) (And.intro (by first | omega | assumption | exact q_rg_up (by assumption) (by omega) | exact q_rg_up (q_rg_up (by assumption) (by omega)) (by omega) | exact q_rg_cpy (by assumption) (by assumption)) (And.intro (by first | omega | assumption | exact q_rg_up (by assumption) (by omega) | exact q_rg_up (q_rg_up (by assumption) (by omega)) (by omega) | exact q_rg_cpy (by assumption) (by assumption)) (And.intro (by first | exact Or.inl rfl | exact Or.inr rfl) (?_)))))))))))))))))))))))))))))
      intro z27 x_guo_27 x_gua_27 x_gum_27 x_gus_27 x_gug_27 h27
      intro _
      obtain ⟨hg27, h27⟩ := h27
      apply And.intro
      · intro h30
        apply And.intro
        · intro h38
          refine Exists.intro [14, 15, 16, 17, 18, 19, 20, 21] (Exists.intro [q2 0, q1 _] (Exists.intro (wB _ _ _ _ _ _ _ _ _ _ _ _) (And.intro rfl (And.intro rfl (And.intro rfl (And.intro ⟨⟨_, rfl⟩, rfl⟩ ?_))))))
          refine Exists.intro _ (Exists.intro _ (Exists.intro _ (Exists.intro _ (Exists.intro _ (Exists.intro _ (Exists.intro _ (Exists.intro _ (Exists.intro _ (Exists.intro _ (Exists.intro _ (Exists.intro _ (Exists.intro _ (And.intro rfl (And.intro rfl (?_)))))))))))))))
          intro z54 h54
          apply And.intro
          · intro h57
            exact hQ _ _ _ _ _ _ (by first | omega | assumption | exact q_rg_up (by assumption) (by omega) | exact q_rg_up (q_rg_up (by assumption) (by omega)) (by omega) | exact q_rg_cpy (by assumption) (by assumption))
          · intro h57
            refine Exists.intro [28, 29, 30, 31, 32] (Exists.intro [q2 0, q1 _, q1 _] (Exists.intro ((wGo 0 _ _ _ _ _)) (And.intro rfl (And.intro rfl (And.intro rfl (And.intro ⟨⟨_, rfl⟩, rfl⟩ (And.intro (Nat.le_of_ble_eq_true rfl) ?_)))))))
            refine Exists.intro _ (Exists.intro _ (Exists.intro _ (Exists.intro _ (Exists.intro _ (Exists.intro _ (Exists.intro _ (And.intro rfl (And.intro rfl (And.intro (by first | omega | assumption | exact q_rg_up (by assumption) (by omega) | exact q_rg_up (q_rg_up (by assumption) (by omega)) (by omega) | exact q_rg_cpy (by assumption) (by assumption)) (And.intro (by first | omega | assumption | exact q_rg_up (by assumption) (by omega) | exact q_rg_up (q_rg_up (by assumption) (by omega)) (by omega) | exact q_rg_cpy (by assumption) (by assumption)) (?_)))))))))))
            intro z67 x3_67
            intro _
            exact hQ _ _ _ _ _ _ (by first | omega | assumption | exact q_rg_up (by assumption) (by omega) | exact q_rg_up (q_rg_up (by assumption) (by omega)) (by omega) | exact q_rg_cpy (by assumption) (by assumption))
        · intro h38
          refine Exists.intro [28, 29, 30, 31, 32] (Exists.intro [q2 0, q1 _] (Exists.intro ((wGo 0 _ _ _ _ _)) (And.intro rfl (And.intro rfl (And.intro rfl (And.intro ⟨⟨_, rfl⟩, rfl⟩ (And.intro (Nat.le_of_ble_eq_true rfl) ?_)))))))
          refine Exists.intro _ (Exists.intro _ (Exists.intro _ (Exists.intro _ (Exists.intro _ (Exists.intro _ (And.intro rfl (And.intro rfl (And.intro (by first | omega | assumption | exact q_rg_up (by assumption) (by omega) | exact q_rg_up (q_rg_up (by assumption) (by omega)) (by omega) | exact q_rg_cpy (by assumption) (by assumption)) (And.intro (by first | omega | assumption | exact q_rg_up (by assumption) (by omega) | exact q_rg_up (q_rg_up (by assumption) (by omega)) (by omega) | exact q_rg_cpy (by assumption) (by assumption)) (?_))))))))))
          intro z46 x3_46
          intro _
          exact hQ _ _ _ _ _ _ (by first | omega | assumption | exact q_rg_up (by assumption) (by omega) | exact q_rg_up (q_rg_up (by assumption) (by omega)) (by omega) | exact q_rg_cpy (by assumption) (by assumption))
      · intro h30
        exact hQ _ _ _ _ _ _ (by first | omega | assumption | exact q_rg_up (by assumption) (by omega) | exact q_rg_up (q_rg_up (by assumption) (by omega)) (by omega) | exact q_rg_cpy (by assumption) (by assumption))
    · refine Exists.intro [0, 28, 29, 30, 31, 32, 14, 15, 16, 17, 18, 19, 20, 21, 22, 23, 24, 1, 33, 34, 35, 36, 37, 38] (Exists.intro [q2 0, q2 6, .inr (.inr (some 14)), q1 _] (Exists.intro ([.inr (11, [q2 17, q2 18, q2 19, q2 20, q2 21, q2 22, q2 1, q2 23]), .inr (2, [q2 2, q2 3, q2 4, q2 5, q1 _]), .inl (3, 657, .inr (.inl _)), .inl (3, 72, .inr (.inl _)), .inl (3, 9, .inr (.inl _)), .inl (0, 8, .inl _), .inr (0, [q2 7, q2 8, q2 9, q2 10, q2 11, q2 12, q2 13, q1 _, q1 _, q1 _, q1 _, q1 _]), .inl (0, 8, .inl _), .inl (0, 8, .inl _), .inl (0, 4, .inl _), .inl (0, 32, .inl _), .inl (0, 6, .inl _), .inl (0, 6, .inl _), .inl (0, 6, .inl _), .inr (7, [q2 15, q2 16, q1 _]), .inl (0, 10, .inl _), .inl (0, 10, .inl _)]) (And.intro rfl (And.intro rfl (And.intro rfl (And.intro ⟨⟨_, rfl⟩, rfl⟩ (And.intro (Nat.le_of_ble_eq_true rfl) ?_)))))))
      refine Exists.intro _ (Exists.intro _ (Exists.intro _ (Exists.intro _ (Exists.intro _ (Exists.intro _ (Exists.intro _ (Exists.intro _ (Exists.intro _ (Exists.intro _ (Exists.intro _ (Exists.intro _ (Exists.intro _ (Exists.intro _ (Exists.intro _ (Exists.intro _ (Exists.intro _ (Exists.intro _ (Exists.intro _ (Exists.intro _ (Exists.intro _ (Exists.intro _ (And.intro rfl (And.intro rfl (And.intro (by first | omega | assumption | exact q_rg_up (by assumption) (by omega) | exact q_rg_up (q_rg_up (by assumption) (by omega)) (by omega) | exact q_rg_cpy (by assumption) (by assumption)) (And.intro (by first | omega | assumption | exact q_rg_up (by assumption) (by omega) | exact q_rg_up (q_rg_up (by assumption) (by omega)) (by omega) | exact q_rg_cpy (by assumption) (by assumption)) (And.intro (by first | omega | assumption | exact q_rg_up (by assumption) (by omega) | exact q_rg_up (q_rg_up (by assumption) (by omega)) (by omega) | exact q_rg_cpy (by assumption) (by assumption)) (And.intro (by first | omega | assumption | exact q_rg_up (by assumption) (by omega) | exact q_rg_up (q_rg_up (by assumption) (by omega)) (by omega) | exact q_rg_cpy (by assumption) (by assumption)) (And.intro (by first | exact Or.inl rfl | exact Or.inr rfl) (?_)))))))))))))))))))))))))))))
      intro z27 x_guo_27 x_gua_27 x_gum_27 x_gus_27 x_gug_27 h27
      intro _
      obtain ⟨hg27, h27⟩ := h27
      apply And.intro
      · intro h30
        apply And.intro
        · intro h38
          refine Exists.intro [14, 15, 16, 17, 18, 19, 20, 21] (Exists.intro [q2 0, q1 _] (Exists.intro (wB _ _ _ _ _ _ _ _ _ _ _ _) (And.intro rfl (And.intro rfl (And.intro rfl (And.intro ⟨⟨_, rfl⟩, rfl⟩ ?_))))))
          refine Exists.intro _ (Exists.intro _ (Exists.intro _ (Exists.intro _ (Exists.intro _ (Exists.intro _ (Exists.intro _ (Exists.intro _ (Exists.intro _ (Exists.intro _ (Exists.intro _ (Exists.intro _ (Exists.intro _ (And.intro rfl (And.intro rfl (?_)))))))))))))))
          intro z54 h54
          apply And.intro
          · intro h57
            exact hQ _ _ _ _ _ _ (by first | omega | assumption | exact q_rg_up (by assumption) (by omega) | exact q_rg_up (q_rg_up (by assumption) (by omega)) (by omega) | exact q_rg_cpy (by assumption) (by assumption))
          · intro h57
            refine Exists.intro [28, 29, 30, 31, 32] (Exists.intro [q2 0, q1 _, q1 _] (Exists.intro ((wGo 0 _ _ _ _ _)) (And.intro rfl (And.intro rfl (And.intro rfl (And.intro ⟨⟨_, rfl⟩, rfl⟩ (And.intro (Nat.le_of_ble_eq_true rfl) ?_)))))))
            refine Exists.intro _ (Exists.intro _ (Exists.intro _ (Exists.intro _ (Exists.intro _ (Exists.intro _ (Exists.intro _ (And.intro rfl (And.intro rfl (And.intro (by first | omega | assumption | exact q_rg_up (by assumption) (by omega) | exact q_rg_up (q_rg_up (by assumption) (by omega)) (by omega) | exact q_rg_cpy (by assumption) (by assumption)) (And.intro (by first | omega | assumption | exact q_rg_up (by assumption) (by omega) | exact q_rg_up (q_rg_up (by assumption) (by omega)) (by omega) | exact q_rg_cpy (by assumption) (by assumption)) (?_)))))))))))
            intro z67 x3_67
            intro _
            exact hQ _ _ _ _ _ _ (by first | omega | assumption | exact q_rg_up (by assumption) (by omega) | exact q_rg_up (q_rg_up (by assumption) (by omega)) (by omega) | exact q_rg_cpy (by assumption) (by assumption))
        · intro h38
          refine Exists.intro [28, 29, 30, 31, 32] (Exists.intro [q2 0, q1 _] (Exists.intro ((wGo 0 _ _ _ _ _)) (And.intro rfl (And.intro rfl (And.intro rfl (And.intro ⟨⟨_, rfl⟩, rfl⟩ (And.intro (Nat.le_of_ble_eq_true rfl) ?_)))))))
          refine Exists.intro _ (Exists.intro _ (Exists.intro _ (Exists.intro _ (Exists.intro _ (Exists.intro _ (And.intro rfl (And.intro rfl (And.intro (by first | omega | assumption | exact q_rg_up (by assumption) (by omega) | exact q_rg_up (q_rg_up (by assumption) (by omega)) (by omega) | exact q_rg_cpy (by assumption) (by assumption)) (And.intro (by first | omega | assumption | exact q_rg_up (by assumption) (by omega) | exact q_rg_up (q_rg_up (by assumption) (by omega)) (by omega) | exact q_rg_cpy (by assumption) (by assumption)) (?_))))))))))
          intro z46 x3_46
          intro _
          exact hQ _ _ _ _ _ _ (by first | omega | assumption | exact q_rg_up (by assumption) (by omega) | exact q_rg_up (q_rg_up (by assumption) (by omega)) (by omega) | exact q_rg_cpy (by assumption) (by assumption))
      · intro h30
        exact hQ _ _ _ _ _ _ (by first | omega | assumption | exact q_rg_up (by assumption) (by omega) | exact q_rg_up (q_rg_up (by assumption) (by omega)) (by omega) | exact q_rg_cpy (by assumption) (by assumption))
    · refine Exists.intro [0, 28, 29, 30, 31, 32, 14, 15, 16, 17, 18, 19, 20, 21, 25, 26, 27, 1, 33, 34, 35, 36, 37, 38] (Exists.intro [q2 0, q2 6, .inr (.inr (some 14)), q1 _] (Exists.intro ([.inr (11, [q2 17, q2 18, q2 19, q2 20, q2 21, q2 22, q2 1, q2 23]), .inr (2, [q2 2, q2 3, q2 4, q2 5, q1 _]), .inl (3, 657, .inr (.inl _)), .inl (3, 72, .inr (.inl _)), .inl (3, 9, .inr (.inl _)), .inl (0, 8, .inl _), .inr (0, [q2 7, q2 8, q2 9, q2 10, q2 11, q2 12, q2 13, q1 _, q1 _, q1 _, q1 _, q1 _]), .inl (0, 8, .inl _), .inl (0, 8, .inl _), .inl (0, 4, .inl _), .inl (0, 32, .inl _), .inl (0, 6, .inl _), .inl (0, 6, .inl _), .inl (0, 6, .inl _), .inr (7, [q2 15, q2 16, q1 _]), .inl (0, 10, .inl _), .inl (0, 10, .inl _)]) (And.intro rfl (And.intro rfl (And.intro rfl (And.intro ⟨⟨_, rfl⟩, rfl⟩ (And.intro (Nat.le_of_ble_eq_true rfl) ?_)))))))
      refine Exists.intro _ (Exists.intro _ (Exists.intro _ (Exists.intro _ (Exists.intro _ (Exists.intro _ (Exists.intro _ (Exists.intro _ (Exists.intro _ (Exists.intro _ (Exists.intro _ (Exists.intro _ (Exists.intro _ (Exists.intro _ (Exists.intro _ (Exists.intro _ (Exists.intro _ (Exists.intro _ (Exists.intro _ (Exists.intro _ (Exists.intro _ (Exists.intro _ (And.intro rfl (And.intro rfl (And.intro (by first | omega | assumption | exact q_rg_up (by assumption) (by omega) | exact q_rg_up (q_rg_up (by assumption) (by omega)) (by omega) | exact q_rg_cpy (by assumption) (by assumption)) (And.intro (by first | omega | assumption | exact q_rg_up (by assumption) (by omega) | exact q_rg_up (q_rg_up (by assumption) (by omega)) (by omega) | exact q_rg_cpy (by assumption) (by assumption)) (And.intro (by first | omega | assumption | exact q_rg_up (by assumption) (by omega) | exact q_rg_up (q_rg_up (by assumption) (by omega)) (by omega) | exact q_rg_cpy (by assumption) (by assumption)) (And.intro (by first | omega | assumption | exact q_rg_up (by assumption) (by omega) | exact q_rg_up (q_rg_up (by assumption) (by omega)) (by omega) | exact q_rg_cpy (by assumption) (by assumption)) (And.intro (by first | exact Or.inl rfl | exact Or.inr rfl) (?_)))))))))))))))))))))))))))))
      intro z27 x_guo_27 x_gua_27 x_gum_27 x_gus_27 x_gug_27 h27
      intro _
      obtain ⟨hg27, h27⟩ := h27
      apply And.intro
      · intro h30
        apply And.intro
        · intro h38
          refine Exists.intro [14, 15, 16, 17, 18, 19, 20, 21] (Exists.intro [q2 0, q1 _] (Exists.intro (wB _ _ _ _ _ _ _ _ _ _ _ _) (And.intro rfl (And.intro rfl (And.intro rfl (And.intro ⟨⟨_, rfl⟩, rfl⟩ ?_))))))
          refine Exists.intro _ (Exists.intro _ (Exists.intro _ (Exists.intro _ (Exists.intro _ (Exists.intro _ (Exists.intro _ (Exists.intro _ (Exists.intro _ (Exists.intro _ (Exists.intro _ (Exists.intro _ (Exists.intro _ (And.intro rfl (And.intro rfl (?_)))))))))))))))
          intro z54 h54
          apply And.intro
          · intro h57
            exact hQ _ _ _ _ _ _ (by first | omega | assumption | exact q_rg_up (by assumption) (by omega) | exact q_rg_up (q_rg_up (by assumption) (by omega)) (by omega) | exact q_rg_cpy (by assumption) (by assumption))
          · intro h57
            refine Exists.intro [28, 29, 30, 31, 32] (Exists.intro [q2 0, q1 _, q1 _] (Exists.intro ((wGo 0 _ _ _ _ _)) (And.intro rfl (And.intro rfl (And.intro rfl (And.intro ⟨⟨_, rfl⟩, rfl⟩ (And.intro (Nat.le_of_ble_eq_true rfl) ?_)))))))
            refine Exists.intro _ (Exists.intro _ (Exists.intro _ (Exists.intro _ (Exists.intro _ (Exists.intro _ (Exists.intro _ (And.intro rfl (And.intro rfl (And.intro (by first | omega | assumption | exact q_rg_up (by assumption) (by omega) | exact q_rg_up (q_rg_up (by assumption) (by omega)) (by omega) | exact q_rg_cpy (by assumption) (by assumption)) (And.intro (by first | omega | assumption | exact q_rg_up (by assumption) (by omega) | exact q_rg_up (q_rg_up (by assumption) (by omega)) (by omega) | exact q_rg_cpy (by assumption) (by assumption)) (?_)))))))))))
            intro z67 x3_67
            intro _
            exact hQ _ _ _ _ _ _ (by first | omega | assumption | exact q_rg_up (by assumption) (by omega) | exact q_rg_up (q_rg_up (by assumption) (by omega)) (by omega) | exact q_rg_cpy (by assumption) (by assumption))
        · intro h38
          refine Exists.intro [28, 29, 30, 31, 32] (Exists.intro [q2 0, q1 _] (Exists.intro ((wGo 0 _ _ _ _ _)) (And.intro rfl (And.intro rfl (And.intro rfl (And.intro ⟨⟨_, rfl⟩, rfl⟩ (And.intro (Nat.le_of_ble_eq_true rfl) ?_)))))))
          refine Exists.intro _ (Exists.intro _ (Exists.intro _ (Exists.intro _ (Exists.intro _ (Exists.intro _ (And.intro rfl (And.intro rfl (And.intro (by first | omega | assumption | exact q_rg_up (by assumption) (by omega) | exact q_rg_up (q_rg_up (by assumption) (by omega)) (by omega) | exact q_rg_cpy (by assumption) (by assumption)) (And.intro (by first | omega | assumption | exact q_rg_up (by assumption) (by omega) | exact q_rg_up (q_rg_up (by assumption) (by omega)) (by omega) | exact q_rg_cpy (by assumption) (by assumption)) (?_))))))))))
          intro z46 x3_46
          intro _
          exact hQ _ _ _ _ _ _ (by first | omega | assumption | exact q_rg_up (by assumption) (by omega) | exact q_rg_up (q_rg_up (by assumption) (by omega)) (by omega) | exact q_rg_cpy (by assumption) (by assumption))
      · intro h30
        exact hQ _ _ _ _ _ _ (by first | omega | assumption | exact q_rg_up (by assumption) (by omega) | exact q_rg_up (q_rg_up (by assumption) (by omega)) (by omega) | exact q_rg_cpy (by assumption) (by assumption))
