theorem dX11_love_0 : decode cX11_love 0 = .ok (.aload_n 0, 1) := by decide +kernel
theorem dX11_love_1 : decode cX11_love 1 = .ok (.getfield 10, 3) := by decide +kernel
theorem dX11_love_4 : decode cX11_love 4 = .ok (.iload_n 1, 1) := by decide +kernel
theorem dX11_love_5 : decode cX11_love 5 = .ok (.invokevirtual 94, 3) := by decide +kernel
theorem dX11_love_8 : decode cX11_love 8 = .ok (.astore 4, 2) := by decide +kernel
theorem dX11_love_10 : decode cX11_love 10 = .ok (.aload 4, 2) := by decide +kernel
theorem dX11_love_12 : decode cX11_love 12 = .ok (.ifnull 13, 3) := by decide +kernel
theorem dX11_love_15 : decode cX11_love 15 = .ok (.iload_n 2, 1) := by decide +kernel
theorem dX11_love_16 : decode cX11_love 16 = .ok (.ifCond .lt 9, 3) := by decide +kernel
theorem dX11_love_19 : decode cX11_love 19 = .ok (.iload_n 2, 1) := by decide +kernel
theorem dX11_love_20 : decode cX11_love 20 = .ok (.bipush 99, 2) := by decide +kernel
theorem dX11_love_22 : decode cX11_love 22 = .ok (.if_icmp .le 5, 3) := by decide +kernel
theorem dX11_love_25 : decode cX11_love 25 = .ok (.iconst (-1), 1) := by decide +kernel
theorem dX11_love_26 : decode cX11_love 26 = .ok (.ireturn, 1) := by decide +kernel
theorem dX11_love_27 : decode cX11_love 27 = .ok (.iload_n 3, 1) := by decide +kernel
theorem dX11_love_28 : decode cX11_love 28 = .ok (.ifCond .eq 16, 3) := by decide +kernel
theorem dX11_love_31 : decode cX11_love 31 = .ok (.aload_n 0, 1) := by decide +kernel
theorem dX11_love_32 : decode cX11_love 32 = .ok (.getfield 58, 3) := by decide +kernel
theorem dX11_love_35 : decode cX11_love 35 = .ok (.aload 4, 2) := by decide +kernel
theorem dX11_love_37 : decode cX11_love 37 = .ok (.iload_n 2, 1) := by decide +kernel
theorem dX11_love_38 : decode cX11_love 38 = .ok (.invokevirtual 152, 3) := by decide +kernel
theorem dX11_love_41 : decode cX11_love 41 = .ok (.goto 13, 3) := by decide +kernel
theorem dX11_love_44 : decode cX11_love 44 = .ok (.aload_n 0, 1) := by decide +kernel
theorem dX11_love_45 : decode cX11_love 45 = .ok (.getfield 58, 3) := by decide +kernel
theorem dX11_love_48 : decode cX11_love 48 = .ok (.aload 4, 2) := by decide +kernel
theorem dX11_love_50 : decode cX11_love 50 = .ok (.iload_n 2, 1) := by decide +kernel
theorem dX11_love_51 : decode cX11_love 51 = .ok (.invokevirtual 155, 3) := by decide +kernel
theorem dX11_love_54 : decode cX11_love 54 = .ok (.ireturn, 1) := by decide +kernel
def is_X11_love : Nat → List Nat := fun d => []
set_option maxRecDepth 100000 in
def b_X11_love_54 (J : Nat → List qV → List qV → qW → Prop) (Q : qR) : qK := x_iret Q
set_option maxRecDepth 100000 in
theorem s_X11_love_54 {p : Program} {l : Launch} {e : Env} {R : Room} {s : State} {m : MethodId} {args : Array Value} {below : List Frame} {meth : Method} {c : Code} {nW : Nat} {dC : Nat → ClassId} {dI : Nat → Nat → Nat} {k : Nat → ClassId} {g : Nat → Nat} {A : Nat → Prop} {J : Nat → List qV → List qV → qW → Prop} {Q : qR} (X : q_X p R s m args meth c cX11_love 5 nW 3 73 RX11 (some .int) dC dI k g A) (hJ : ∀ d : Nat, q_Sd p l e R s m args below meth c 5 nW dC dI k g A (MQ below (q_post (dC, dI) k g nW Q A) args s 0 0 A) d (x_cut (is_X11_love d) (J d))) : q_Sd p l e R s m args below meth c 5 nW dC dI k g A (MQ below (q_post (dC, dI) k g nW Q A) args s 0 0 A) 54 (b_X11_love_54 J Q) := by
  unfold b_X11_love_54
  exact s_iret X dX11_love_54
set_option maxRecDepth 100000 in
def b_X11_love_25 (J : Nat → List qV → List qV → qW → Prop) (Q : qR) : qK := x_int (-1) (x_iret Q)
set_option maxRecDepth 100000 in
theorem s_X11_love_25 {p : Program} {l : Launch} {e : Env} {R : Room} {s : State} {m : MethodId} {args : Array Value} {below : List Frame} {meth : Method} {c : Code} {nW : Nat} {dC : Nat → ClassId} {dI : Nat → Nat → Nat} {k : Nat → ClassId} {g : Nat → Nat} {A : Nat → Prop} {J : Nat → List qV → List qV → qW → Prop} {Q : qR} (X : q_X p R s m args meth c cX11_love 5 nW 3 73 RX11 (some .int) dC dI k g A) (hJ : ∀ d : Nat, q_Sd p l e R s m args below meth c 5 nW dC dI k g A (MQ below (q_post (dC, dI) k g nW Q A) args s 0 0 A) d (x_cut (is_X11_love d) (J d))) : q_Sd p l e R s m args below meth c 5 nW dC dI k g A (MQ below (q_post (dC, dI) k g nW Q A) args s 0 0 A) 25 (b_X11_love_25 J Q) := by
  unfold b_X11_love_25
  refine s_iconst X ⟨by decide, by decide⟩ dX11_love_25 ?_
  exact s_iret X dX11_love_26
set_option maxRecDepth 100000 in
def b_X11_love_0 (J : Nat → List qV → List qV → qW → Prop) (Q : qR) : qK := x_aload 0 (x_get 11 0 (x_iload 1 (x_callr (some 8) 2 spr_X8_boroughAt (x_astore 4 (x_aload 4 (x_ifnull (b_X11_love_25 J Q) (x_iload 2 (x_if_lt (b_X11_love_25 J Q) (x_iload 2 (x_int 99 (x_icmp_le (x_iload 3 (x_if_eq (x_aload 0 (x_get 11 7 (x_aload 4 (x_iload 2 (x_callm (some 1) 3 4 spm_X1_couples (x_nw (b_X11_love_54 J Q))))))) (x_aload 0 (x_get 11 7 (x_aload 4 (x_iload 2 (x_callr (some 1) 3 spr_X1_fewestMoved (b_X11_love_54 J Q)))))))) (b_X11_love_25 J Q))))))))))))
set_option maxRecDepth 100000 in
theorem s_X11_love_0 {p : Program} {l : Launch} {e : Env} {R : Room} {s : State} {m : MethodId} {args : Array Value} {below : List Frame} {meth : Method} {c : Code} {nW : Nat} {dC : Nat → ClassId} {dI : Nat → Nat → Nat} {k : Nat → ClassId} {g : Nat → Nat} {A : Nat → Prop} {J : Nat → List qV → List qV → qW → Prop} {Q : qR} (X : q_X p R s m args meth c cX11_love 5 nW 3 73 RX11 (some .int) dC dI k g A) (hJ : ∀ d : Nat, q_Sd p l e R s m args below meth c 5 nW dC dI k g A (MQ below (q_post (dC, dI) k g nW Q A) args s 0 0 A) d (x_cut (is_X11_love d) (J d))) : q_Sd p l e R s m args below meth c 5 nW dC dI k g A (MQ below (q_post (dC, dI) k g nW Q A) args s 0 0 A) 0 (b_X11_love_0 J Q) := by
  unfold b_X11_love_0
  refine s_aload_n X rfl dX11_love_0 ?_
  refine s_get X (T := TX11) (C := RX11) (N := 8) tu_X11 rfl (by decide) tw_326 dX11_love_1 ?_
  refine s_iload_n X rfl dX11_love_4 ?_
  refine s_callVr X (m_X8_boroughAt l) tw_541 tw_542 tw_543 tw_121 tw_544 rfl (by decide +kernel) ⟨by decide, by decide⟩ dX11_love_5 ?_
  refine s_astore X (by decide) dX11_love_8 ?_
  refine s_aload X dX11_love_10 ?_
  refine s_ifnull X (tgt := 25) dX11_love_12 (by decide) ?_ ?_
  · exact s_X11_love_25 X hJ
  · refine s_iload_n X rfl dX11_love_15 ?_
    refine s_if_lt X (tgt := 25) dX11_love_16 (by decide) ?_ ?_
    · exact s_X11_love_25 X hJ
    · refine s_iload_n X rfl dX11_love_19 ?_
      refine s_bipush X ⟨by decide, by decide⟩ (by decide) dX11_love_20 ?_
      refine s_icmp_le X (tgt := 27) dX11_love_22 (by decide) ?_ ?_
      · refine s_iload_n X rfl dX11_love_27 ?_
        refine s_if_eq X (tgt := 44) dX11_love_28 (by decide) ?_ ?_
        · refine s_aload_n X rfl dX11_love_44 ?_
          refine s_get X (T := TX11) (C := RX11) (N := 8) tu_X11 rfl (by decide) tw_333 dX11_love_45 ?_
          refine s_aload X dX11_love_48 ?_
          refine s_iload_n X rfl dX11_love_50 ?_
          refine s_callVm X (mm_X1_couples l) mq_X1_couples tw_704 tw_705 tw_706 tw_133 tw_707 rfl (by decide +kernel) ⟨by decide, by decide⟩ dX11_love_51 ?_
          refine s_nw ?_
          exact s_X11_love_54 X hJ
        · refine s_aload_n X rfl dX11_love_31 ?_
          refine s_get X (T := TX11) (C := RX11) (N := 8) tu_X11 rfl (by decide) tw_333 dX11_love_32 ?_
          refine s_aload X dX11_love_35 ?_
          refine s_iload_n X rfl dX11_love_37 ?_
          refine s_callVr X (m_X1_fewestMoved l) tw_695 tw_696 tw_697 tw_133 tw_698 rfl (by decide +kernel) ⟨by decide, by decide⟩ dX11_love_38 ?_
          refine s_goto X (tgt := 54) dX11_love_41 (by decide) ?_
          exact s_X11_love_54 X hJ
      · exact s_X11_love_25 X hJ

def sp_X11_love : qS := fun av w Q => ∃ (tp : Nat → Int) (ct : Nat → Int) (ln : Int) (fa : Int) (pl : Int) (b0f1 : Nat → Int) (b0f2 : Nat → Int) (b0f3 : Nat → Int) (b0f4 : Nat → Int) (b0f5 : Nat → Int) (b0f6 : Nat → Int) (b0f7 : Nat → Int) (b0u0 : Int) (b0u1 : Int) (b0u2 : Int) (b0u3 : Int) (b0u4 : Int) (b1f1 : Nat → Int) (b1f2 : Nat → Int) (b1f3 : Nat → Int) (b1f4 : Nat → Int) (b1f5 : Nat → Int) (b1f6 : Nat → Int) (b1f7 : Nat → Int) (b1u0 : Int) (b1u1 : Int) (b1u2 : Int) (b1u3 : Int) (b1u4 : Int) (crc1 : Nat → Int) (crc2 : Nat → Int) (crc3 : Nat → Int) (a : Int) (b : Int) (cc : Int), av = [q2 0, q1 a, q1 b, q1 cc] ∧ w = [.inr (11, [q2 1, q2 25, q2 26, q2 27, q2 28, q2 29, q2 30, q2 21]), .inr (8, [q2 2, q2 3, q2 4, q2 31, q2 32, q2 33, q1 ln, q1 fa, q1 pl]), .inl (1, 600, .inl tp), .inl (0, 4, .inl ct), .inl (4, 2, .inr (.inr [some 5, some 13])), .inr (0, [q2 6, q2 7, q2 8, q2 9, q2 10, q2 11, q2 12, q1 b0u0, q1 b0u1, q1 b0u2, q1 b0u3, q1 b0u4]), .inl (0, 8, .inl b0f1), .inl (0, 8, .inl b0f2), .inl (0, 4, .inl b0f3), .inl (0, 32, .inl b0f4), .inl (0, 6, .inl b0f5), .inl (0, 6, .inl b0f6), .inl (0, 6, .inl b0f7), .inr (0, [q2 14, q2 15, q2 16, q2 17, q2 18, q2 19, q2 20, q1 b1u0, q1 b1u1, q1 b1u2, q1 b1u3, q1 b1u4]), .inl (0, 8, .inl b1f1), .inl (0, 8, .inl b1f2), .inl (0, 4, .inl b1f3), .inl (0, 32, .inl b1f4), .inl (0, 6, .inl b1f5), .inl (0, 6, .inl b1f6), .inl (0, 6, .inl b1f7), .inr (1, [q2 22, q2 23, q2 24]), .inl (0, 8, .inl crc1), .inl (0, 256, .inl crc2), .inl (3, 9, .inr (.inl crc3))] ∧ (q_rg 0 2 ct) ∧ (0 ≤ ln ∧ ln ≤ 600) ∧ (0 ≤ b0u0 ∧ b0u0 ≤ 8 ∧ 0 ≤ b0u3 ∧ b0u3 ≤ 6 ∧ 0 ≤ b0u4 ∧ b0u4 ≤ 6) ∧ (q_rg 0 9 b0f3) ∧ (0 ≤ b1u0 ∧ b1u0 ≤ 8 ∧ 0 ≤ b1u3 ∧ b1u3 ≤ 6 ∧ 0 ≤ b1u4 ∧ b1u4 ≤ 6) ∧ (q_rg 0 9 b1f3) ∧ (∀ (r : Int) (x_crc1 : Nat → Int) (x_crc2 : Nat → Int) (x_crc3 : Nat → Int), Q (some (q1 r)) ([.inr (11, [q2 1, q2 25, q2 26, q2 27, q2 28, q2 29, q2 30, q2 21]), .inr (8, [q2 2, q2 3, q2 4, q2 31, q2 32, q2 33, q1 ln, q1 fa, q1 pl]), .inl (1, 600, .inl tp), .inl (0, 4, .inl ct), .inl (4, 2, .inr (.inr [some 5, some 13])), .inr (0, [q2 6, q2 7, q2 8, q2 9, q2 10, q2 11, q2 12, q1 b0u0, q1 b0u1, q1 b0u2, q1 b0u3, q1 b0u4]), .inl (0, 8, .inl b0f1), .inl (0, 8, .inl b0f2), .inl (0, 4, .inl b0f3), .inl (0, 32, .inl b0f4), .inl (0, 6, .inl b0f5), .inl (0, 6, .inl b0f6), .inl (0, 6, .inl b0f7), .inr (0, [q2 14, q2 15, q2 16, q2 17, q2 18, q2 19, q2 20, q1 b1u0, q1 b1u1, q1 b1u2, q1 b1u3, q1 b1u4]), .inl (0, 8, .inl b1f1), .inl (0, 8, .inl b1f2), .inl (0, 4, .inl b1f3), .inl (0, 32, .inl b1f4), .inl (0, 6, .inl b1f5), .inl (0, 6, .inl b1f6), .inl (0, 6, .inl b1f7), .inr (1, [q2 22, q2 23, q2 24]), .inl (0, 8, .inl x_crc1), .inl (0, 256, .inl x_crc2), .inl (3, 9, .inr (.inl x_crc3))]))
set_option maxHeartbeats 4000000 in
set_option maxRecDepth 100000 in
theorem m_X11_love (l : Launch) : q_M l yX11_love cX11_love 5 (some .int) 3 73 sp_X11_love := by
  refine q_meth (by decide) (fun av w Q h => by obtain ⟨tp, ct, ln, fa, pl, b0f1, b0f2, b0f3, b0f4, b0f5, b0f6, b0f7, b0u0, b0u1, b0u2, b0u3, b0u4, b1f1, b1f2, b1f3, b1f4, b1f5, b1f6, b1f7, b1u0, b1u1, b1u2, b1u3, b1u4, crc1, crc2, crc3, a, b, cc, rfl, rfl, hct, hln, hb0, hf0, hb1, hf1, hQ⟩ := h; exact Nat.le_of_ble_eq_true rfl) ?_
  intro p e R s m args below meth c dC dI k g A av w Q hsp oka okw X
  obtain ⟨tp, ct, ln, fa, pl, b0f1, b0f2, b0f3, b0f4, b0f5, b0f6, b0f7, b0u0, b0u1, b0u2, b0u3, b0u4, b1f1, b1f2, b1f3, b1f4, b1f5, b1f6, b1f7, b1u0, b1u1, b1u2, b1u3, b1u4, crc1, crc2, crc3, a, b, cc, rfl, rfl, hct, hln, hb0, hf0, hb1, hf1, hQ⟩ := hsp
  have o_a : -2147483648 ≤ a ∧ a ≤ 2147483647 := oka _ (List.mem_of_getElem? (i := 1) rfl)
  have o_b : -2147483648 ≤ b ∧ b ≤ 2147483647 := oka _ (List.mem_of_getElem? (i := 2) rfl)
  have o_cc : -2147483648 ≤ cc ∧ cc ≤ 2147483647 := oka _ (List.mem_of_getElem? (i := 3) rfl)
  refine s_mono (s_X11_love_0 X (J := fun _ _ _ _ => False) (fun d => s_cutF)) ?_
  rintro lv st w' ⟨rfl, rfl, rfl⟩
  refine Exists.intro [1, 2, 3, 4, 31, 32, 33, 5, 13] (Exists.intro [q2 0, q1 _] (Exists.intro ((wT4_0 _ _ _ _ _)) (And.intro rfl (And.intro rfl (And.intro rfl (And.intro ⟨⟨_, rfl⟩, rfl⟩ ?_))))))
  refine Exists.intro _ (Exists.intro _ (Exists.intro _ (Exists.intro _ (Exists.intro _ (Exists.intro _ (And.intro rfl (And.intro rfl (?_))))))))
  intro z5 h5
  rcases h5 with rfl | ⟨rfl, rfl⟩ | ⟨rfl, rfl⟩
  · exact hQ _ _ _ _
  · apply And.intro
    · intro h16
      exact hQ _ _ _ _
    · intro h16
      apply And.intro
      · intro h22
        apply And.intro
        · intro h28
          refine Exists.intro [21, 22, 23, 24, 5, 6, 7, 8, 9, 10, 11, 12] (Exists.intro [q2 0, q2 4, q1 _] (Exists.intro ((wCo 0 _ _ _ ++ wBo 4 _ _ _ _ _ _ _ _ _ _ _ _)) (And.intro rfl (And.intro rfl (And.intro rfl (And.intro ⟨⟨_, rfl⟩, rfl⟩ (And.intro (Nat.le_of_ble_eq_true rfl) ?_)))))))
          refine Exists.intro _ (Exists.intro _ (Exists.intro _ (Exists.intro _ (Exists.intro _ (Exists.intro _ (Exists.intro _ (Exists.intro _ (Exists.intro _ (Exists.intro _ (Exists.intro _ (Exists.intro _ (Exists.intro _ (Exists.intro _ (Exists.intro _ (Exists.intro _ (And.intro rfl (And.intro rfl (And.intro (by first | omega | assumption | exact q_rg_up (by assumption) (by omega) | exact q_rg_up (q_rg_up (by assumption) (by omega)) (by omega) | exact q_rg_cpy (by assumption) (by assumption)) (?_)))))))))))))))))))
          intro z51 x1_51
          intro _
          exact hQ _ _ _ _
        · intro h28
          refine Exists.intro [21, 22, 23, 24, 5, 6, 7, 8, 9, 10, 11, 12] (Exists.intro [q2 0, q2 4, q1 _] (Exists.intro ((wCo 0 _ _ _ ++ wBo 4 _ _ _ _ _ _ _ _ _ _ _ _)) (And.intro rfl (And.intro rfl (And.intro rfl (And.intro ⟨⟨_, rfl⟩, rfl⟩ ?_))))))
          refine Exists.intro _ (Exists.intro _ (Exists.intro _ (Exists.intro _ (Exists.intro _ (Exists.intro _ (Exists.intro _ (Exists.intro _ (Exists.intro _ (Exists.intro _ (Exists.intro _ (Exists.intro _ (Exists.intro _ (Exists.intro _ (Exists.intro _ (Exists.intro _ (And.intro rfl (And.intro rfl (And.intro (by first | omega | assumption | exact q_rg_up (by assumption) (by omega) | exact q_rg_up (q_rg_up (by assumption) (by omega)) (by omega) | exact q_rg_cpy (by assumption) (by assumption)) (?_)))))))))))))))))))
          intro z38
          exact hQ _ _ _ _
      · intro h22
        exact hQ _ _ _ _
  · apply And.intro
    · intro h16
      exact hQ _ _ _ _
    · intro h16
      apply And.intro
      · intro h22
        apply And.intro
        · intro h28
          refine Exists.intro [21, 22, 23, 24, 13, 14, 15, 16, 17, 18, 19, 20] (Exists.intro [q2 0, q2 4, q1 _] (Exists.intro ((wCo 0 _ _ _ ++ wBo 4 _ _ _ _ _ _ _ _ _ _ _ _)) (And.intro rfl (And.intro rfl (And.intro rfl (And.intro ⟨⟨_, rfl⟩, rfl⟩ (And.intro (Nat.le_of_ble_eq_true rfl) ?_)))))))
          refine Exists.intro _ (Exists.intro _ (Exists.intro _ (Exists.intro _ (Exists.intro _ (Exists.intro _ (Exists.intro _ (Exists.intro _ (Exists.intro _ (Exists.intro _ (Exists.intro _ (Exists.intro _ (Exists.intro _ (Exists.intro _ (Exists.intro _ (Exists.intro _ (And.intro rfl (And.intro rfl (And.intro (by first | omega | assumption | exact q_rg_up (by assumption) (by omega) | exact q_rg_up (q_rg_up (by assumption) (by omega)) (by omega) | exact q_rg_cpy (by assumption) (by assumption)) (?_)))))))))))))))))))
          intro z51 x1_51
          intro _
          exact hQ _ _ _ _
        · intro h28
          refine Exists.intro [21, 22, 23, 24, 13, 14, 15, 16, 17, 18, 19, 20] (Exists.intro [q2 0, q2 4, q1 _] (Exists.intro ((wCo 0 _ _ _ ++ wBo 4 _ _ _ _ _ _ _ _ _ _ _ _)) (And.intro rfl (And.intro rfl (And.intro rfl (And.intro ⟨⟨_, rfl⟩, rfl⟩ ?_))))))
          refine Exists.intro _ (Exists.intro _ (Exists.intro _ (Exists.intro _ (Exists.intro _ (Exists.intro _ (Exists.intro _ (Exists.intro _ (Exists.intro _ (Exists.intro _ (Exists.intro _ (Exists.intro _ (Exists.intro _ (Exists.intro _ (Exists.intro _ (Exists.intro _ (And.intro rfl (And.intro rfl (And.intro (by first | omega | assumption | exact q_rg_up (by assumption) (by omega) | exact q_rg_up (q_rg_up (by assumption) (by omega)) (by omega) | exact q_rg_cpy (by assumption) (by assumption)) (?_)))))))))))))))))))
          intro z38
          exact hQ _ _ _ _
      · intro h22
        exact hQ _ _ _ _

theorem dX11_cut_0 : decode cX11_cut 0 = .ok (.aload_n 0, 1) := by decide +kernel
theorem dX11_cut_1 : decode cX11_cut 1 = .ok (.getfield 10, 3) := by decide +kernel
theorem dX11_cut_4 : decode cX11_cut 4 = .ok (.iload_n 1, 1) := by decide +kernel
theorem dX11_cut_5 : decode cX11_cut 5 = .ok (.invokevirtual 94, 3) := by decide +kernel
theorem dX11_cut_8 : decode cX11_cut 8 = .ok (.astore 4, 2) := by decide +kernel
theorem dX11_cut_10 : decode cX11_cut 10 = .ok (.aload 4, 2) := by decide +kernel
theorem dX11_cut_12 : decode cX11_cut 12 = .ok (.ifnull 13, 3) := by decide +kernel
theorem dX11_cut_15 : decode cX11_cut 15 = .ok (.iload_n 2, 1) := by decide +kernel
theorem dX11_cut_16 : decode cX11_cut 16 = .ok (.ifCond .lt 9, 3) := by decide +kernel
theorem dX11_cut_19 : decode cX11_cut 19 = .ok (.iload_n 2, 1) := by decide +kernel
theorem dX11_cut_20 : decode cX11_cut 20 = .ok (.bipush 99, 2) := by decide +kernel
theorem dX11_cut_22 : decode cX11_cut 22 = .ok (.if_icmp .le 5, 3) := by decide +kernel
theorem dX11_cut_25 : decode cX11_cut 25 = .ok (.iconst (-1), 1) := by decide +kernel
theorem dX11_cut_26 : decode cX11_cut 26 = .ok (.ireturn, 1) := by decide +kernel
theorem dX11_cut_27 : decode cX11_cut 27 = .ok (.iload_n 3, 1) := by decide +kernel
theorem dX11_cut_28 : decode cX11_cut 28 = .ok (.bipush 10, 2) := by decide +kernel
theorem dX11_cut_30 : decode cX11_cut 30 = .ok (.if_icmp .lt 19, 3) := by decide +kernel
theorem dX11_cut_33 : decode cX11_cut 33 = .ok (.iload_n 3, 1) := by decide +kernel
theorem dX11_cut_34 : decode cX11_cut 34 = .ok (.bipush 10, 2) := by decide +kernel
theorem dX11_cut_36 : decode cX11_cut 36 = .ok (.aload 4, 2) := by decide +kernel
theorem dX11_cut_38 : decode cX11_cut 38 = .ok (.getfield 142, 3) := by decide +kernel
theorem dX11_cut_41 : decode cX11_cut 41 = .ok (.iadd, 1) := by decide +kernel
theorem dX11_cut_42 : decode cX11_cut 42 = .ok (.if_icmp .ge 7, 3) := by decide +kernel
theorem dX11_cut_45 : decode cX11_cut 45 = .ok (.iconst 1, 1) := by decide +kernel
theorem dX11_cut_46 : decode cX11_cut 46 = .ok (.goto 4, 3) := by decide +kernel
theorem dX11_cut_49 : decode cX11_cut 49 = .ok (.iconst 0, 1) := by decide +kernel
theorem dX11_cut_50 : decode cX11_cut 50 = .ok (.istore 5, 2) := by decide +kernel
theorem dX11_cut_52 : decode cX11_cut 52 = .ok (.iload 5, 2) := by decide +kernel
theorem dX11_cut_54 : decode cX11_cut 54 = .ok (.ifCond .ne 9, 3) := by decide +kernel
theorem dX11_cut_57 : decode cX11_cut 57 = .ok (.iload_n 3, 1) := by decide +kernel
theorem dX11_cut_58 : decode cX11_cut 58 = .ok (.ifCond .eq 5, 3) := by decide +kernel
theorem dX11_cut_61 : decode cX11_cut 61 = .ok (.iconst (-1), 1) := by decide +kernel
theorem dX11_cut_62 : decode cX11_cut 62 = .ok (.ireturn, 1) := by decide +kernel
theorem dX11_cut_63 : decode cX11_cut 63 = .ok (.aload_n 0, 1) := by decide +kernel
theorem dX11_cut_64 : decode cX11_cut 64 = .ok (.getfield 44, 3) := by decide +kernel
theorem dX11_cut_67 : decode cX11_cut 67 = .ok (.aload 4, 2) := by decide +kernel
theorem dX11_cut_69 : decode cX11_cut 69 = .ok (.iload_n 2, 1) := by decide +kernel
theorem dX11_cut_70 : decode cX11_cut 70 = .ok (.invokevirtual 145, 3) := by decide +kernel
theorem dX11_cut_73 : decode cX11_cut 73 = .ok (.iload 5, 2) := by decide +kernel
theorem dX11_cut_75 : decode cX11_cut 75 = .ok (.ifCond .eq 20, 3) := by decide +kernel
theorem dX11_cut_78 : decode cX11_cut 78 = .ok (.aload_n 0, 1) := by decide +kernel
theorem dX11_cut_79 : decode cX11_cut 79 = .ok (.getfield 44, 3) := by decide +kernel
theorem dX11_cut_82 : decode cX11_cut 82 = .ok (.aload 4, 2) := by decide +kernel
theorem dX11_cut_84 : decode cX11_cut 84 = .ok (.iload_n 2, 1) := by decide +kernel
theorem dX11_cut_85 : decode cX11_cut 85 = .ok (.iload_n 3, 1) := by decide +kernel
theorem dX11_cut_86 : decode cX11_cut 86 = .ok (.bipush 10, 2) := by decide +kernel
theorem dX11_cut_88 : decode cX11_cut 88 = .ok (.isub, 1) := by decide +kernel
theorem dX11_cut_89 : decode cX11_cut 89 = .ok (.invokevirtual 146, 3) := by decide +kernel
theorem dX11_cut_92 : decode cX11_cut 92 = .ok (.goto 11, 3) := by decide +kernel
theorem dX11_cut_95 : decode cX11_cut 95 = .ok (.aload_n 0, 1) := by decide +kernel
theorem dX11_cut_96 : decode cX11_cut 96 = .ok (.getfield 44, 3) := by decide +kernel
theorem dX11_cut_99 : decode cX11_cut 99 = .ok (.iload_n 2, 1) := by decide +kernel
theorem dX11_cut_100 : decode cX11_cut 100 = .ok (.invokevirtual 150, 3) := by decide +kernel
theorem dX11_cut_103 : decode cX11_cut 103 = .ok (.ireturn, 1) := by decide +kernel
def is_X11_cut : Nat → List Nat := fun d => []
set_option maxRecDepth 100000 in
def b_X11_cut_103 (J : Nat → List qV → List qV → qW → Prop) (Q : qR) : qK := x_iret Q
set_option maxRecDepth 100000 in
theorem s_X11_cut_103 {p : Program} {l : Launch} {e : Env} {R : Room} {s : State} {m : MethodId} {args : Array Value} {below : List Frame} {meth : Method} {c : Code} {nW : Nat} {dC : Nat → ClassId} {dI : Nat → Nat → Nat} {k : Nat → ClassId} {g : Nat → Nat} {A : Nat → Prop} {J : Nat → List qV → List qV → qW → Prop} {Q : qR} (X : q_X p R s m args meth c cX11_cut 6 nW 3 74 RX11 (some .int) dC dI k g A) (hJ : ∀ d : Nat, q_Sd p l e R s m args below meth c 6 nW dC dI k g A (MQ below (q_post (dC, dI) k g nW Q A) args s 0 0 A) d (x_cut (is_X11_cut d) (J d))) : q_Sd p l e R s m args below meth c 6 nW dC dI k g A (MQ below (q_post (dC, dI) k g nW Q A) args s 0 0 A) 103 (b_X11_cut_103 J Q) := by
  unfold b_X11_cut_103
  exact s_iret X dX11_cut_103
set_option maxRecDepth 100000 in
def b_X11_cut_63 (J : Nat → List qV → List qV → qW → Prop) (Q : qR) : qK := x_aload 0 (x_get 11 5 (x_aload 4 (x_iload 2 (x_callm (some 4) 3 4 spm_X4_plan (x_nw (x_iload 5 (x_if_eq (x_aload 0 (x_get 11 5 (x_iload 2 (x_callr (some 4) 2 spr_X4_most (b_X11_cut_103 J Q))))) (x_aload 0 (x_get 11 5 (x_aload 4 (x_iload 2 (x_iload 3 (x_int 10 (x_isub (x_callm (some 4) 4 4 spm_X4_raiseOf (x_nw (b_X11_cut_103 J Q)))))))))))))))))
set_option maxRecDepth 100000 in
theorem s_X11_cut_63 {p : Program} {l : Launch} {e : Env} {R : Room} {s : State} {m : MethodId} {args : Array Value} {below : List Frame} {meth : Method} {c : Code} {nW : Nat} {dC : Nat → ClassId} {dI : Nat → Nat → Nat} {k : Nat → ClassId} {g : Nat → Nat} {A : Nat → Prop} {J : Nat → List qV → List qV → qW → Prop} {Q : qR} (X : q_X p R s m args meth c cX11_cut 6 nW 3 74 RX11 (some .int) dC dI k g A) (hJ : ∀ d : Nat, q_Sd p l e R s m args below meth c 6 nW dC dI k g A (MQ below (q_post (dC, dI) k g nW Q A) args s 0 0 A) d (x_cut (is_X11_cut d) (J d))) : q_Sd p l e R s m args below meth c 6 nW dC dI k g A (MQ below (q_post (dC, dI) k g nW Q A) args s 0 0 A) 63 (b_X11_cut_63 J Q) := by
  unfold b_X11_cut_63
  refine s_aload_n X rfl dX11_cut_63 ?_
  refine s_get X (T := TX11) (C := RX11) (N := 8) tu_X11 rfl (by decide) tw_331 dX11_cut_64 ?_
  refine s_aload X dX11_cut_67 ?_
  refine s_iload_n X rfl dX11_cut_69 ?_
  refine s_callVm X (mm_X4_plan l) mq_X4_plan tw_665 tw_666 tw_667 tw_131 tw_668 rfl (by decide +kernel) ⟨by decide, by decide⟩ dX11_cut_70 ?_
  refine s_nw ?_
  refine s_iload X dX11_cut_73 ?_
  refine s_if_eq X (tgt := 95) dX11_cut_75 (by decide) ?_ ?_
  · refine s_aload_n X rfl dX11_cut_95 ?_
    refine s_get X (T := TX11) (C := RX11) (N := 8) tu_X11 rfl (by decide) tw_331 dX11_cut_96 ?_
    refine s_iload_n X rfl dX11_cut_99 ?_
    refine s_callVr X (m_X4_most l) tw_687 tw_688 tw_689 tw_131 tw_690 rfl (by decide +kernel) ⟨by decide, by decide⟩ dX11_cut_100 ?_
    exact s_X11_cut_103 X hJ
  · refine s_aload_n X rfl dX11_cut_78 ?_
    refine s_get X (T := TX11) (C := RX11) (N := 8) tu_X11 rfl (by decide) tw_331 dX11_cut_79 ?_
    refine s_aload X dX11_cut_82 ?_
    refine s_iload_n X rfl dX11_cut_84 ?_
    refine s_iload_n X rfl dX11_cut_85 ?_
    refine s_bipush X ⟨by decide, by decide⟩ (by decide) dX11_cut_86 ?_
    refine s_isub X dX11_cut_88 ?_
    refine s_callVm X (mm_X4_raiseOf l) mq_X4_raiseOf tw_680 tw_681 tw_682 tw_131 tw_683 rfl (by decide +kernel) ⟨by decide, by decide⟩ dX11_cut_89 ?_
    refine s_nw ?_
    refine s_goto X (tgt := 103) dX11_cut_92 (by decide) ?_
    exact s_X11_cut_103 X hJ
set_option maxRecDepth 100000 in
def b_X11_cut_50 (J : Nat → List qV → List qV → qW → Prop) (Q : qR) : qK := x_istore 5 (x_iload 5 (x_if_ne (b_X11_cut_63 J Q) (x_iload 3 (x_if_eq (b_X11_cut_63 J Q) (x_int (-1) (x_iret Q))))))
set_option maxRecDepth 100000 in
theorem s_X11_cut_50 {p : Program} {l : Launch} {e : Env} {R : Room} {s : State} {m : MethodId} {args : Array Value} {below : List Frame} {meth : Method} {c : Code} {nW : Nat} {dC : Nat → ClassId} {dI : Nat → Nat → Nat} {k : Nat → ClassId} {g : Nat → Nat} {A : Nat → Prop} {J : Nat → List qV → List qV → qW → Prop} {Q : qR} (X : q_X p R s m args meth c cX11_cut 6 nW 3 74 RX11 (some .int) dC dI k g A) (hJ : ∀ d : Nat, q_Sd p l e R s m args below meth c 6 nW dC dI k g A (MQ below (q_post (dC, dI) k g nW Q A) args s 0 0 A) d (x_cut (is_X11_cut d) (J d))) : q_Sd p l e R s m args below meth c 6 nW dC dI k g A (MQ below (q_post (dC, dI) k g nW Q A) args s 0 0 A) 50 (b_X11_cut_50 J Q) := by
  unfold b_X11_cut_50
  refine s_istore X (by decide) dX11_cut_50 ?_
  refine s_iload X dX11_cut_52 ?_
  refine s_if_ne X (tgt := 63) dX11_cut_54 (by decide) ?_ ?_
  · exact s_X11_cut_63 X hJ
  · refine s_iload_n X rfl dX11_cut_57 ?_
    refine s_if_eq X (tgt := 63) dX11_cut_58 (by decide) ?_ ?_
    · exact s_X11_cut_63 X hJ
    · refine s_iconst X ⟨by decide, by decide⟩ dX11_cut_61 ?_
      exact s_iret X dX11_cut_62
set_option maxRecDepth 100000 in
def b_X11_cut_49 (J : Nat → List qV → List qV → qW → Prop) (Q : qR) : qK := x_int 0 (b_X11_cut_50 J Q)
set_option maxRecDepth 100000 in
theorem s_X11_cut_49 {p : Program} {l : Launch} {e : Env} {R : Room} {s : State} {m : MethodId} {args : Array Value} {below : List Frame} {meth : Method} {c : Code} {nW : Nat} {dC : Nat → ClassId} {dI : Nat → Nat → Nat} {k : Nat → ClassId} {g : Nat → Nat} {A : Nat → Prop} {J : Nat → List qV → List qV → qW → Prop} {Q : qR} (X : q_X p R s m args meth c cX11_cut 6 nW 3 74 RX11 (some .int) dC dI k g A) (hJ : ∀ d : Nat, q_Sd p l e R s m args below meth c 6 nW dC dI k g A (MQ below (q_post (dC, dI) k g nW Q A) args s 0 0 A) d (x_cut (is_X11_cut d) (J d))) : q_Sd p l e R s m args below meth c 6 nW dC dI k g A (MQ below (q_post (dC, dI) k g nW Q A) args s 0 0 A) 49 (b_X11_cut_49 J Q) := by
  unfold b_X11_cut_49
  refine s_iconst X ⟨by decide, by decide⟩ dX11_cut_49 ?_
  exact s_X11_cut_50 X hJ
set_option maxRecDepth 100000 in
def b_X11_cut_25 (J : Nat → List qV → List qV → qW → Prop) (Q : qR) : qK := x_int (-1) (x_iret Q)
set_option maxRecDepth 100000 in
theorem s_X11_cut_25 {p : Program} {l : Launch} {e : Env} {R : Room} {s : State} {m : MethodId} {args : Array Value} {below : List Frame} {meth : Method} {c : Code} {nW : Nat} {dC : Nat → ClassId} {dI : Nat → Nat → Nat} {k : Nat → ClassId} {g : Nat → Nat} {A : Nat → Prop} {J : Nat → List qV → List qV → qW → Prop} {Q : qR} (X : q_X p R s m args meth c cX11_cut 6 nW 3 74 RX11 (some .int) dC dI k g A) (hJ : ∀ d : Nat, q_Sd p l e R s m args below meth c 6 nW dC dI k g A (MQ below (q_post (dC, dI) k g nW Q A) args s 0 0 A) d (x_cut (is_X11_cut d) (J d))) : q_Sd p l e R s m args below meth c 6 nW dC dI k g A (MQ below (q_post (dC, dI) k g nW Q A) args s 0 0 A) 25 (b_X11_cut_25 J Q) := by
  unfold b_X11_cut_25
  refine s_iconst X ⟨by decide, by decide⟩ dX11_cut_25 ?_
  exact s_iret X dX11_cut_26
set_option maxRecDepth 100000 in
def b_X11_cut_0 (J : Nat → List qV → List qV → qW → Prop) (Q : qR) : qK := x_aload 0 (x_get 11 0 (x_iload 1 (x_callr (some 8) 2 spr_X8_boroughAt (x_astore 4 (x_aload 4 (x_ifnull (b_X11_cut_25 J Q) (x_iload 2 (x_if_lt (b_X11_cut_25 J Q) (x_iload 2 (x_int 99 (x_icmp_le (x_iload 3 (x_int 10 (x_icmp_lt (b_X11_cut_49 J Q) (x_iload 3 (x_int 10 (x_aload 4 (x_get 0 10 (x_iadd (x_icmp_ge (b_X11_cut_49 J Q) (x_int 1 (b_X11_cut_50 J Q))))))))))) (b_X11_cut_25 J Q))))))))))))
set_option maxRecDepth 100000 in
theorem s_X11_cut_0 {p : Program} {l : Launch} {e : Env} {R : Room} {s : State} {m : MethodId} {args : Array Value} {below : List Frame} {meth : Method} {c : Code} {nW : Nat} {dC : Nat → ClassId} {dI : Nat → Nat → Nat} {k : Nat → ClassId} {g : Nat → Nat} {A : Nat → Prop} {J : Nat → List qV → List qV → qW → Prop} {Q : qR} (X : q_X p R s m args meth c cX11_cut 6 nW 3 74 RX11 (some .int) dC dI k g A) (hJ : ∀ d : Nat, q_Sd p l e R s m args below meth c 6 nW dC dI k g A (MQ below (q_post (dC, dI) k g nW Q A) args s 0 0 A) d (x_cut (is_X11_cut d) (J d))) : q_Sd p l e R s m args below meth c 6 nW dC dI k g A (MQ below (q_post (dC, dI) k g nW Q A) args s 0 0 A) 0 (b_X11_cut_0 J Q) := by
  unfold b_X11_cut_0
  refine s_aload_n X rfl dX11_cut_0 ?_
  refine s_get X (T := TX11) (C := RX11) (N := 8) tu_X11 rfl (by decide) tw_326 dX11_cut_1 ?_
  refine s_iload_n X rfl dX11_cut_4 ?_
  refine s_callVr X (m_X8_boroughAt l) tw_541 tw_542 tw_543 tw_121 tw_544 rfl (by decide +kernel) ⟨by decide, by decide⟩ dX11_cut_5 ?_
  refine s_astore X (by decide) dX11_cut_8 ?_
  refine s_aload X dX11_cut_10 ?_
  refine s_ifnull X (tgt := 25) dX11_cut_12 (by decide) ?_ ?_
  · exact s_X11_cut_25 X hJ
  · refine s_iload_n X rfl dX11_cut_15 ?_
    refine s_if_lt X (tgt := 25) dX11_cut_16 (by decide) ?_ ?_
    · exact s_X11_cut_25 X hJ
    · refine s_iload_n X rfl dX11_cut_19 ?_
      refine s_bipush X ⟨by decide, by decide⟩ (by decide) dX11_cut_20 ?_
      refine s_icmp_le X (tgt := 27) dX11_cut_22 (by decide) ?_ ?_
      · refine s_iload_n X rfl dX11_cut_27 ?_
        refine s_bipush X ⟨by decide, by decide⟩ (by decide) dX11_cut_28 ?_
        refine s_icmp_lt X (tgt := 49) dX11_cut_30 (by decide) ?_ ?_
        · exact s_X11_cut_49 X hJ
        · refine s_iload_n X rfl dX11_cut_33 ?_
          refine s_bipush X ⟨by decide, by decide⟩ (by decide) dX11_cut_34 ?_
          refine s_aload X dX11_cut_36 ?_
          refine s_get X (T := TX0) (C := RX0) (N := 12) tu_X0 rfl (by decide) tw_205 dX11_cut_38 ?_
          refine s_iadd X dX11_cut_41 ?_
          refine s_icmp_ge X (tgt := 49) dX11_cut_42 (by decide) ?_ ?_
          · exact s_X11_cut_49 X hJ
          · refine s_iconst X ⟨by decide, by decide⟩ dX11_cut_45 ?_
            refine s_goto X (tgt := 50) dX11_cut_46 (by decide) ?_
            exact s_X11_cut_50 X hJ
      · exact s_X11_cut_25 X hJ

def sp_X11_cut : qS := fun av w Q => ∃ (tp : Nat → Int) (ct : Nat → Int) (ln : Int) (fa : Int) (pl : Int) (b0f1 : Nat → Int) (b0f2 : Nat → Int) (b0f3 : Nat → Int) (b0f4 : Nat → Int) (b0f5 : Nat → Int) (b0f6 : Nat → Int) (b0f7 : Nat → Int) (b0u0 : Int) (b0u1 : Int) (b0u2 : Int) (b0u3 : Int) (b0u4 : Int) (b1f1 : Nat → Int) (b1f2 : Nat → Int) (b1f3 : Nat → Int) (b1f4 : Nat → Int) (b1f5 : Nat → Int) (b1f6 : Nat → Int) (b1f7 : Nat → Int) (b1u0 : Int) (b1u1 : Int) (b1u2 : Int) (b1u3 : Int) (b1u4 : Int) (rzh1 : Nat → Int) (rzh2 : Nat → Int) (rzh3 : Nat → Int) (rzc : Int) (a : Int) (b : Int) (cc : Int), av = [q2 0, q1 a, q1 b, q1 cc] ∧ w = [.inr (11, [q2 1, q2 25, q2 26, q2 27, q2 28, q2 21, q2 29, q2 30]), .inr (8, [q2 2, q2 3, q2 4, q2 31, q2 32, q2 33, q1 ln, q1 fa, q1 pl]), .inl (1, 600, .inl tp), .inl (0, 4, .inl ct), .inl (4, 2, .inr (.inr [some 5, some 13])), .inr (0, [q2 6, q2 7, q2 8, q2 9, q2 10, q2 11, q2 12, q1 b0u0, q1 b0u1, q1 b0u2, q1 b0u3, q1 b0u4]), .inl (0, 8, .inl b0f1), .inl (0, 8, .inl b0f2), .inl (0, 4, .inl b0f3), .inl (0, 32, .inl b0f4), .inl (0, 6, .inl b0f5), .inl (0, 6, .inl b0f6), .inl (0, 6, .inl b0f7), .inr (0, [q2 14, q2 15, q2 16, q2 17, q2 18, q2 19, q2 20, q1 b1u0, q1 b1u1, q1 b1u2, q1 b1u3, q1 b1u4]), .inl (0, 8, .inl b1f1), .inl (0, 8, .inl b1f2), .inl (0, 4, .inl b1f3), .inl (0, 32, .inl b1f4), .inl (0, 6, .inl b1f5), .inl (0, 6, .inl b1f6), .inl (0, 6, .inl b1f7), .inr (4, [q2 22, q2 23, q2 24, q1 rzc]), .inl (0, 700, .inl rzh1), .inl (0, 9, .inl rzh2), .inl (0, 9, .inl rzh3)] ∧ (q_rg 0 2 ct) ∧ (0 ≤ ln ∧ ln ≤ 600) ∧ (0 ≤ b0u0 ∧ b0u0 ≤ 8 ∧ 0 ≤ b0u3 ∧ b0u3 ≤ 6 ∧ 0 ≤ b0u4 ∧ b0u4 ≤ 6) ∧ (q_rg 0 9 b0f3) ∧ (0 ≤ b1u0 ∧ b1u0 ≤ 8 ∧ 0 ≤ b1u3 ∧ b1u3 ≤ 6 ∧ 0 ≤ b1u4 ∧ b1u4 ≤ 6) ∧ (q_rg 0 9 b1f3) ∧ (q_rg 0 2147483647 rzh2) ∧ (q_rg 0 8 rzh3) ∧ (∀ (r : Int) (x_rzh1 : Nat → Int) (x_rzh2 : Nat → Int) (x_rzh3 : Nat → Int) (x_rzc : Int), ((q_rg 0 2147483647 x_rzh2) ∧ (q_rg 0 8 x_rzh3)) → Q (some (q1 r)) ([.inr (11, [q2 1, q2 25, q2 26, q2 27, q2 28, q2 21, q2 29, q2 30]), .inr (8, [q2 2, q2 3, q2 4, q2 31, q2 32, q2 33, q1 ln, q1 fa, q1 pl]), .inl (1, 600, .inl tp), .inl (0, 4, .inl ct), .inl (4, 2, .inr (.inr [some 5, some 13])), .inr (0, [q2 6, q2 7, q2 8, q2 9, q2 10, q2 11, q2 12, q1 b0u0, q1 b0u1, q1 b0u2, q1 b0u3, q1 b0u4]), .inl (0, 8, .inl b0f1), .inl (0, 8, .inl b0f2), .inl (0, 4, .inl b0f3), .inl (0, 32, .inl b0f4), .inl (0, 6, .inl b0f5), .inl (0, 6, .inl b0f6), .inl (0, 6, .inl b0f7), .inr (0, [q2 14, q2 15, q2 16, q2 17, q2 18, q2 19, q2 20, q1 b1u0, q1 b1u1, q1 b1u2, q1 b1u3, q1 b1u4]), .inl (0, 8, .inl b1f1), .inl (0, 8, .inl b1f2), .inl (0, 4, .inl b1f3), .inl (0, 32, .inl b1f4), .inl (0, 6, .inl b1f5), .inl (0, 6, .inl b1f6), .inl (0, 6, .inl b1f7), .inr (4, [q2 22, q2 23, q2 24, q1 x_rzc]), .inl (0, 700, .inl x_rzh1), .inl (0, 9, .inl x_rzh2), .inl (0, 9, .inl x_rzh3)]))
set_option maxHeartbeats 4000000 in
set_option maxRecDepth 100000 in
theorem m_X11_cut (l : Launch) : q_M l yX11_cut cX11_cut 6 (some .int) 3 74 sp_X11_cut := by
  refine q_meth (by decide) (fun av w Q h => by obtain ⟨tp, ct, ln, fa, pl, b0f1, b0f2, b0f3, b0f4, b0f5, b0f6, b0f7, b0u0, b0u1, b0u2, b0u3, b0u4, b1f1, b1f2, b1f3, b1f4, b1f5, b1f6, b1f7, b1u0, b1u1, b1u2, b1u3, b1u4, rzh1, rzh2, rzh3, rzc, a, b, cc, rfl, rfl, hct, hln, hb0, hf0, hb1, hf1, hzs, hzg, hQ⟩ := h; exact Nat.le_of_ble_eq_true rfl) ?_
  intro p e R s m args below meth c dC dI k g A av w Q hsp oka okw X
  obtain ⟨tp, ct, ln, fa, pl, b0f1, b0f2, b0f3, b0f4, b0f5, b0f6, b0f7, b0u0, b0u1, b0u2, b0u3, b0u4, b1f1, b1f2, b1f3, b1f4, b1f5, b1f6, b1f7, b1u0, b1u1, b1u2, b1u3, b1u4, rzh1, rzh2, rzh3, rzc, a, b, cc, rfl, rfl, hct, hln, hb0, hf0, hb1, hf1, hzs, hzg, hQ⟩ := hsp
  have o_a : -2147483648 ≤ a ∧ a ≤ 2147483647 := oka _ (List.mem_of_getElem? (i := 1) rfl)
  have o_b : -2147483648 ≤ b ∧ b ≤ 2147483647 := oka _ (List.mem_of_getElem? (i := 2) rfl)
  have o_cc : -2147483648 ≤ cc ∧ cc ≤ 2147483647 := oka _ (List.mem_of_getElem? (i := 3) rfl)
  refine s_mono (s_X11_cut_0 X (J := fun _ _ _ _ => False) (fun d => s_cutF)) ?_
  rintro lv st w' ⟨rfl, rfl, rfl⟩
  refine Exists.intro [1, 2, 3, 4, 31, 32, 33, 5, 13] (Exists.intro [q2 0, q1 _] (Exists.intro ((wT4_0 _ _ _ _ _)) (And.intro rfl (And.intro rfl (And.intro rfl (And.intro ⟨⟨_, rfl⟩, rfl⟩ ?_))))))
  refine Exists.intro _ (Exists.intro _ (Exists.intro _ (Exists.intro _ (Exists.intro _ (Exists.intro _ (And.intro rfl (And.intro rfl (?_))))))))
  intro z5 h5
  rcases h5 with rfl | ⟨rfl, rfl⟩ | ⟨rfl, rfl⟩
  · exact hQ _ _ _ _ _ ⟨(by first | omega | assumption | exact q_rg_up (by assumption) (by omega) | exact q_rg_up (q_rg_up (by assumption) (by omega)) (by omega) | exact q_rg_cpy (by assumption) (by assumption)), (by first | omega | assumption | exact q_rg_up (by assumption) (by omega) | exact q_rg_up (q_rg_up (by assumption) (by omega)) (by omega) | exact q_rg_cpy (by assumption) (by assumption))⟩
  · apply And.intro
    · intro h16
      exact hQ _ _ _ _ _ ⟨(by first | omega | assumption | exact q_rg_up (by assumption) (by omega) | exact q_rg_up (q_rg_up (by assumption) (by omega)) (by omega) | exact q_rg_cpy (by assumption) (by assumption)), (by first | omega | assumption | exact q_rg_up (by assumption) (by omega) | exact q_rg_up (q_rg_up (by assumption) (by omega)) (by omega) | exact q_rg_cpy (by assumption) (by assumption))⟩
    · intro h16
      apply And.intro
      · intro h22
        apply And.intro
        · intro h30
          apply And.intro
          · intro h54
            refine Exists.intro [21, 22, 23, 24, 5, 6, 7, 8, 9, 10, 11, 12] (Exists.intro [q2 0, q2 4, q1 _] (Exists.intro ((wZo 0 _ _ _ _ ++ wBo 4 _ _ _ _ _ _ _ _ _ _ _ _)) (And.intro rfl (And.intro rfl (And.intro rfl (And.intro ⟨⟨_, rfl⟩, rfl⟩ (And.intro (Nat.le_of_ble_eq_true rfl) ?_)))))))
            refine Exists.intro _ (Exists.intro _ (Exists.intro _ (Exists.intro _ (Exists.intro _ (Exists.intro _ (Exists.intro _ (Exists.intro _ (Exists.intro _ (Exists.intro _ (Exists.intro _ (Exists.intro _ (Exists.intro _ (Exists.intro _ (Exists.intro _ (Exists.intro _ (Exists.intro _ (And.intro rfl (And.intro rfl (And.intro (by first | omega | assumption | exact q_rg_up (by assumption) (by omega) | exact q_rg_up (q_rg_up (by assumption) (by omega)) (by omega) | exact q_rg_cpy (by assumption) (by assumption)) (And.intro (by first | omega | assumption | exact q_rg_up (by assumption) (by omega) | exact q_rg_up (q_rg_up (by assumption) (by omega)) (by omega) | exact q_rg_cpy (by assumption) (by assumption)) (And.intro (by first | omega | assumption | exact q_rg_up (by assumption) (by omega) | exact q_rg_up (q_rg_up (by assumption) (by omega)) (by omega) | exact q_rg_cpy (by assumption) (by assumption)) (And.intro (by first | omega | assumption | exact q_rg_up (by assumption) (by omega) | exact q_rg_up (q_rg_up (by assumption) (by omega)) (by omega) | exact q_rg_cpy (by assumption) (by assumption)) (?_)))))))))))))))))))))))
            intro x1_70 x2_70 x3_70 x4_70 h70
            intro _
            obtain ⟨hbb, hz1, hz2⟩ := h70
            apply And.intro
            · intro h75
              refine Exists.intro [21, 22, 23, 24] (Exists.intro [q2 0, q1 _] (Exists.intro ((wZo 0 _ _ _ _)) (And.intro rfl (And.intro rfl (And.intro rfl (And.intro ⟨⟨_, rfl⟩, rfl⟩ ?_))))))
              refine Exists.intro _ (Exists.intro _ (Exists.intro _ (Exists.intro _ (Exists.intro _ (And.intro rfl (And.intro rfl (And.intro (by first | omega | assumption | exact q_rg_up (by assumption) (by omega) | exact q_rg_up (q_rg_up (by assumption) (by omega)) (by omega) | exact q_rg_cpy (by assumption) (by assumption)) (And.intro (by first | omega | assumption | exact q_rg_up (by assumption) (by omega) | exact q_rg_up (q_rg_up (by assumption) (by omega)) (by omega) | exact q_rg_cpy (by assumption) (by assumption)) (?_)))))))))
              intro z100
              exact hQ _ _ _ _ _ ⟨(by first | omega | assumption | exact q_rg_up (by assumption) (by omega) | exact q_rg_up (q_rg_up (by assumption) (by omega)) (by omega) | exact q_rg_cpy (by assumption) (by assumption)), (by first | omega | assumption | exact q_rg_up (by assumption) (by omega) | exact q_rg_up (q_rg_up (by assumption) (by omega)) (by omega) | exact q_rg_cpy (by assumption) (by assumption))⟩
            · intro h75
              intro z88 h88
              first | replace h88 := e_sub h88 (by omega) | replace h88 := e_rng h88
              refine Exists.intro [21, 22, 23, 24, 5, 6, 7, 8, 9, 10, 11, 12] (Exists.intro [q2 0, q2 4, q1 _, q1 _] (Exists.intro ((wZo 0 _ _ _ _ ++ wBo 4 _ _ _ _ _ _ _ _ _ _ _ _)) (And.intro rfl (And.intro rfl (And.intro rfl (And.intro ⟨⟨_, rfl⟩, rfl⟩ (And.intro (Nat.le_of_ble_eq_true rfl) ?_)))))))
              refine Exists.intro _ (Exists.intro _ (Exists.intro _ (Exists.intro _ (Exists.intro _ (Exists.intro _ (Exists.intro _ (Exists.intro _ (Exists.intro _ (Exists.intro _ (Exists.intro _ (Exists.intro _ (Exists.intro _ (Exists.intro _ (Exists.intro _ (Exists.intro _ (Exists.intro _ (Exists.intro _ (And.intro rfl (And.intro rfl (And.intro (by first | omega | assumption | exact q_rg_up (by assumption) (by omega) | exact q_rg_up (q_rg_up (by assumption) (by omega)) (by omega) | exact q_rg_cpy (by assumption) (by assumption)) (And.intro (by first | omega | assumption | exact q_rg_up (by assumption) (by omega) | exact q_rg_up (q_rg_up (by assumption) (by omega)) (by omega) | exact q_rg_cpy (by assumption) (by assumption)) (And.intro (by first | omega | assumption | exact q_rg_up (by assumption) (by omega) | exact q_rg_up (q_rg_up (by assumption) (by omega)) (by omega) | exact q_rg_cpy (by assumption) (by assumption)) (And.intro (by first | omega | assumption | exact q_rg_up (by assumption) (by omega) | exact q_rg_up (q_rg_up (by assumption) (by omega)) (by omega) | exact q_rg_cpy (by assumption) (by assumption)) (And.intro (by first | omega | assumption | exact q_rg_up (by assumption) (by omega) | exact q_rg_up (q_rg_up (by assumption) (by omega)) (by omega) | exact q_rg_cpy (by assumption) (by assumption)) (?_)))))))))))))))))))))))))
              intro z89 x2_89 x3_89 x4_89 h89
              intro _
              obtain ⟨hz3, hz4⟩ := h89
              exact hQ _ _ _ _ _ ⟨(by first | omega | assumption | exact q_rg_up (by assumption) (by omega) | exact q_rg_up (q_rg_up (by assumption) (by omega)) (by omega) | exact q_rg_cpy (by assumption) (by assumption)), (by first | omega | assumption | exact q_rg_up (by assumption) (by omega) | exact q_rg_up (q_rg_up (by assumption) (by omega)) (by omega) | exact q_rg_cpy (by assumption) (by assumption))⟩
          · intro h54
            apply And.intro
            · intro h58
              refine Exists.intro [21, 22, 23, 24, 5, 6, 7, 8, 9, 10, 11, 12] (Exists.intro [q2 0, q2 4, q1 _] (Exists.intro ((wZo 0 _ _ _ _ ++ wBo 4 _ _ _ _ _ _ _ _ _ _ _ _)) (And.intro rfl (And.intro rfl (And.intro rfl (And.intro ⟨⟨_, rfl⟩, rfl⟩ (And.intro (Nat.le_of_ble_eq_true rfl) ?_)))))))
              refine Exists.intro _ (Exists.intro _ (Exists.intro _ (Exists.intro _ (Exists.intro _ (Exists.intro _ (Exists.intro _ (Exists.intro _ (Exists.intro _ (Exists.intro _ (Exists.intro _ (Exists.intro _ (Exists.intro _ (Exists.intro _ (Exists.intro _ (Exists.intro _ (Exists.intro _ (And.intro rfl (And.intro rfl (And.intro (by first | omega | assumption | exact q_rg_up (by assumption) (by omega) | exact q_rg_up (q_rg_up (by assumption) (by omega)) (by omega) | exact q_rg_cpy (by assumption) (by assumption)) (And.intro (by first | omega | assumption | exact q_rg_up (by assumption) (by omega) | exact q_rg_up (q_rg_up (by assumption) (by omega)) (by omega) | exact q_rg_cpy (by assumption) (by assumption)) (And.intro (by first | omega | assumption | exact q_rg_up (by assumption) (by omega) | exact q_rg_up (q_rg_up (by assumption) (by omega)) (by omega) | exact q_rg_cpy (by assumption) (by assumption)) (And.intro (by first | omega | assumption | exact q_rg_up (by assumption) (by omega) | exact q_rg_up (q_rg_up (by assumption) (by omega)) (by omega) | exact q_rg_cpy (by assumption) (by assumption)) (?_)))))))))))))))))))))))
              intro x1_70 x2_70 x3_70 x4_70 h70
              intro _
              obtain ⟨hbb, hz1, hz2⟩ := h70
              apply And.intro
              · intro h75
                refine Exists.intro [21, 22, 23, 24] (Exists.intro [q2 0, q1 _] (Exists.intro ((wZo 0 _ _ _ _)) (And.intro rfl (And.intro rfl (And.intro rfl (And.intro ⟨⟨_, rfl⟩, rfl⟩ ?_))))))
                refine Exists.intro _ (Exists.intro _ (Exists.intro _ (Exists.intro _ (Exists.intro _ (And.intro rfl (And.intro rfl (And.intro (by first | omega | assumption | exact q_rg_up (by assumption) (by omega) | exact q_rg_up (q_rg_up (by assumption) (by omega)) (by omega) | exact q_rg_cpy (by assumption) (by assumption)) (And.intro (by first | omega | assumption | exact q_rg_up (by assumption) (by omega) | exact q_rg_up (q_rg_up (by assumption) (by omega)) (by omega) | exact q_rg_cpy (by assumption) (by assumption)) (?_)))))))))
                intro z100
                exact hQ _ _ _ _ _ ⟨(by first | omega | assumption | exact q_rg_up (by assumption) (by omega) | exact q_rg_up (q_rg_up (by assumption) (by omega)) (by omega) | exact q_rg_cpy (by assumption) (by assumption)), (by first | omega | assumption | exact q_rg_up (by assumption) (by omega) | exact q_rg_up (q_rg_up (by assumption) (by omega)) (by omega) | exact q_rg_cpy (by assumption) (by assumption))⟩
              · intro h75
                intro z88 h88
                first | replace h88 := e_sub h88 (by omega) | replace h88 := e_rng h88
                refine Exists.intro [21, 22, 23, 24, 5, 6, 7, 8, 9, 10, 11, 12] (Exists.intro [q2 0, q2 4, q1 _, q1 _] (Exists.intro ((wZo 0 _ _ _ _ ++ wBo 4 _ _ _ _ _ _ _ _ _ _ _ _)) (And.intro rfl (And.intro rfl (And.intro rfl (And.intro ⟨⟨_, rfl⟩, rfl⟩ (And.intro (Nat.le_of_ble_eq_true rfl) ?_)))))))
                refine Exists.intro _ (Exists.intro _ (Exists.intro _ (Exists.intro _ (Exists.intro _ (Exists.intro _ (Exists.intro _ (Exists.intro _ (Exists.intro _ (Exists.intro _ (Exists.intro _ (Exists.intro _ (Exists.intro _ (Exists.intro _ (Exists.intro _ (Exists.intro _ (Exists.intro _ (Exists.intro _ (And.intro rfl (And.intro rfl (And.intro (by first | omega | assumption | exact q_rg_up (by assumption) (by omega) | exact q_rg_up (q_rg_up (by assumption) (by omega)) (by omega) | exact q_rg_cpy (by assumption) (by assumption)) (And.intro (by first | omega | assumption | exact q_rg_up (by assumption) (by omega) | exact q_rg_up (q_rg_up (by assumption) (by omega)) (by omega) | exact q_rg_cpy (by assumption) (by assumption)) (And.intro (by first | omega | assumption | exact q_rg_up (by assumption) (by omega) | exact q_rg_up (q_rg_up (by assumption) (by omega)) (by omega) | exact q_rg_cpy (by assumption) (by assumption)) (And.intro (by first | omega | assumption | exact q_rg_up (by assumption) (by omega) | exact q_rg_up (q_rg_up (by assumption) (by omega)) (by omega) | exact q_rg_cpy (by assumption) (by assumption)) (And.intro (by first | omega | assumption | exact q_rg_up (by assumption) (by omega) | exact q_rg_up (q_rg_up (by assumption) (by omega)) (by omega) | exact q_rg_cpy (by assumption) (by assumption)) (?_)))))))))))))))))))))))))
                intro z89 x2_89 x3_89 x4_89 h89
                intro _
                obtain ⟨hz3, hz4⟩ := h89
                exact hQ _ _ _ _ _ ⟨(by first | omega | assumption | exact q_rg_up (by assumption) (by omega) | exact q_rg_up (q_rg_up (by assumption) (by omega)) (by omega) | exact q_rg_cpy (by assumption) (by assumption)), (by first | omega | assumption | exact q_rg_up (by assumption) (by omega) | exact q_rg_up (q_rg_up (by assumption) (by omega)) (by omega) | exact q_rg_cpy (by assumption) (by assumption))⟩
            · intro h58
              exact hQ _ _ _ _ _ ⟨(by first | omega | assumption | exact q_rg_up (by assumption) (by omega) | exact q_rg_up (q_rg_up (by assumption) (by omega)) (by omega) | exact q_rg_cpy (by assumption) (by assumption)), (by first | omega | assumption | exact q_rg_up (by assumption) (by omega) | exact q_rg_up (q_rg_up (by assumption) (by omega)) (by omega) | exact q_rg_cpy (by assumption) (by assumption))⟩
        · intro h30
          intro z41 h41
          first | replace h41 := e_add h41 (by omega) | replace h41 := e_rng h41
          apply And.intro
          · intro h42
            apply And.intro
            · intro h54
              refine Exists.intro [21, 22, 23, 24, 5, 6, 7, 8, 9, 10, 11, 12] (Exists.intro [q2 0, q2 4, q1 _] (Exists.intro ((wZo 0 _ _ _ _ ++ wBo 4 _ _ _ _ _ _ _ _ _ _ _ _)) (And.intro rfl (And.intro rfl (And.intro rfl (And.intro ⟨⟨_, rfl⟩, rfl⟩ (And.intro (Nat.le_of_ble_eq_true rfl) ?_)))))))
              refine Exists.intro _ (Exists.intro _ (Exists.intro _ (Exists.intro _ (Exists.intro _ (Exists.intro _ (Exists.intro _ (Exists.intro _ (Exists.intro _ (Exists.intro _ (Exists.intro _ (Exists.intro _ (Exists.intro _ (Exists.intro _ (Exists.intro _ (Exists.intro _ (Exists.intro _ (And.intro rfl (And.intro rfl (And.intro (by first | omega | assumption | exact q_rg_up (by assumption) (by omega) | exact q_rg_up (q_rg_up (by assumption) (by omega)) (by omega) | exact q_rg_cpy (by assumption) (by assumption)) (And.intro (by first | omega | assumption | exact q_rg_up (by assumption) (by omega) | exact q_rg_up (q_rg_up (by assumption) (by omega)) (by omega) | exact q_rg_cpy (by assumption) (by assumption)) (And.intro (by first | omega | assumption | exact q_rg_up (by assumption) (by omega) | exact q_rg_up (q_rg_up (by assumption) (by omega)) (by omega) | exact q_rg_cpy (by assumption) (by assumption)) (And.intro (by first | omega | assumption | exact q_rg_up (by assumption) (by omega) | exact q_rg_up (q_rg_up (by assumption) (by omega)) (by omega) | exact q_rg_cpy (by assumption) (by assumption)) (?_)))))))))))))))))))))))
              intro x1_70 x2_70 x3_70 x4_70 h70
              intro _
              obtain ⟨hbb, hz1, hz2⟩ := h70
              apply And.intro
              · intro h75
                refine Exists.intro [21, 22, 23, 24] (Exists.intro [q2 0, q1 _] (Exists.intro ((wZo 0 _ _ _ _)) (And.intro rfl (And.intro rfl (And.intro rfl (And.intro ⟨⟨_, rfl⟩, rfl⟩ ?_))))))
                refine Exists.intro _ (Exists.intro _ (Exists.intro _ (Exists.intro _ (Exists.intro _ (And.intro rfl (And.intro rfl (And.intro (by first | omega | assumption | exact q_rg_up (by assumption) (by omega) | exact q_rg_up (q_rg_up (by assumption) (by omega)) (by omega) | exact q_rg_cpy (by assumption) (by assumption)) (And.intro (by first | omega | assumption | exact q_rg_up (by assumption) (by omega) | exact q_rg_up (q_rg_up (by assumption) (by omega)) (by omega) | exact q_rg_cpy (by assumption) (by assumption)) (?_)))))))))
                intro z100
                exact hQ _ _ _ _ _ ⟨(by first | omega | assumption | exact q_rg_up (by assumption) (by omega) | exact q_rg_up (q_rg_up (by assumption) (by omega)) (by omega) | exact q_rg_cpy (by assumption) (by assumption)), (by first | omega | assumption | exact q_rg_up (by assumption) (by omega) | exact q_rg_up (q_rg_up (by assumption) (by omega)) (by omega) | exact q_rg_cpy (by assumption) (by assumption))⟩
              · intro h75
                intro z88 h88
                first | replace h88 := e_sub h88 (by omega) | replace h88 := e_rng h88
                refine Exists.intro [21, 22, 23, 24, 5, 6, 7, 8, 9, 10, 11, 12] (Exists.intro [q2 0, q2 4, q1 _, q1 _] (Exists.intro ((wZo 0 _ _ _ _ ++ wBo 4 _ _ _ _ _ _ _ _ _ _ _ _)) (And.intro rfl (And.intro rfl (And.intro rfl (And.intro ⟨⟨_, rfl⟩, rfl⟩ (And.intro (Nat.le_of_ble_eq_true rfl) ?_)))))))
                refine Exists.intro _ (Exists.intro _ (Exists.intro _ (Exists.intro _ (Exists.intro _ (Exists.intro _ (Exists.intro _ (Exists.intro _ (Exists.intro _ (Exists.intro _ (Exists.intro _ (Exists.intro _ (Exists.intro _ (Exists.intro _ (Exists.intro _ (Exists.intro _ (Exists.intro _ (Exists.intro _ (And.intro rfl (And.intro rfl (And.intro (by first | omega | assumption | exact q_rg_up (by assumption) (by omega) | exact q_rg_up (q_rg_up (by assumption) (by omega)) (by omega) | exact q_rg_cpy (by assumption) (by assumption)) (And.intro (by first | omega | assumption | exact q_rg_up (by assumption) (by omega) | exact q_rg_up (q_rg_up (by assumption) (by omega)) (by omega) | exact q_rg_cpy (by assumption) (by assumption)) (And.intro (by first | omega | assumption | exact q_rg_up (by assumption) (by omega) | exact q_rg_up (q_rg_up (by assumption) (by omega)) (by omega) | exact q_rg_cpy (by assumption) (by assumption)) (And.intro (by first | omega | assumption | exact q_rg_up (by assumption) (by omega) | exact q_rg_up (q_rg_up (by assumption) (by omega)) (by omega) | exact q_rg_cpy (by assumption) (by assumption)) (And.intro (by first | omega | assumption | exact q_rg_up (by assumption) (by omega) | exact q_rg_up (q_rg_up (by assumption) (by omega)) (by omega) | exact q_rg_cpy (by assumption) (by assumption)) (?_)))))))))))))))))))))))))
                intro z89 x2_89 x3_89 x4_89 h89
                intro _
                obtain ⟨hz3, hz4⟩ := h89
                exact hQ _ _ _ _ _ ⟨(by first | omega | assumption | exact q_rg_up (by assumption) (by omega) | exact q_rg_up (q_rg_up (by assumption) (by omega)) (by omega) | exact q_rg_cpy (by assumption) (by assumption)), (by first | omega | assumption | exact q_rg_up (by assumption) (by omega) | exact q_rg_up (q_rg_up (by assumption) (by omega)) (by omega) | exact q_rg_cpy (by assumption) (by assumption))⟩
            · intro h54
              apply And.intro
              · intro h58
                refine Exists.intro [21, 22, 23, 24, 5, 6, 7, 8, 9, 10, 11, 12] (Exists.intro [q2 0, q2 4, q1 _] (Exists.intro ((wZo 0 _ _ _ _ ++ wBo 4 _ _ _ _ _ _ _ _ _ _ _ _)) (And.intro rfl (And.intro rfl (And.intro rfl (And.intro ⟨⟨_, rfl⟩, rfl⟩ (And.intro (Nat.le_of_ble_eq_true rfl) ?_)))))))
                refine Exists.intro _ (Exists.intro _ (Exists.intro _ (Exists.intro _ (Exists.intro _ (Exists.intro _ (Exists.intro _ (Exists.intro _ (Exists.intro _ (Exists.intro _ (Exists.intro _ (Exists.intro _ (Exists.intro _ (Exists.intro _ (Exists.intro _ (Exists.intro _ (Exists.intro _ (And.intro rfl (And.intro rfl (And.intro (by first | omega | assumption | exact q_rg_up (by assumption) (by omega) | exact q_rg_up (q_rg_up (by assumption) (by omega)) (by omega) | exact q_rg_cpy (by assumption) (by assumption)) (And.intro (by first | omega | assumption | exact q_rg_up (by assumption) (by omega) | exact q_rg_up (q_rg_up (by assumption) (by omega)) (by omega) | exact q_rg_cpy (by assumption) (by assumption)) (And.intro (by first | omega | assumption | exact q_rg_up (by assumption) (by omega) | exact q_rg_up (q_rg_up (by assumption) (by omega)) (by omega) | exact q_rg_cpy (by assumption) (by assumption)) (And.intro (by first | omega | assumption | exact q_rg_up (by assumption) (by omega) | exact q_rg_up (q_rg_up (by assumption) (by omega)) (by omega) | exact q_rg_cpy (by assumption) (by assumption)) (?_)))))))))))))))))))))))
                intro x1_70 x2_70 x3_70 x4_70 h70
                intro _
                obtain ⟨hbb, hz1, hz2⟩ := h70
                apply And.intro
                · intro h75
                  refine Exists.intro [21, 22, 23, 24] (Exists.intro [q2 0, q1 _] (Exists.intro ((wZo 0 _ _ _ _)) (And.intro rfl (And.intro rfl (And.intro rfl (And.intro ⟨⟨_, rfl⟩, rfl⟩ ?_))))))
                  refine Exists.intro _ (Exists.intro _ (Exists.intro _ (Exists.intro _ (Exists.intro _ (And.intro rfl (And.intro rfl (And.intro (by first | omega | assumption | exact q_rg_up (by assumption) (by omega) | exact q_rg_up (q_rg_up (by assumption) (by omega)) (by omega) | exact q_rg_cpy (by assumption) (by assumption)) (And.intro (by first | omega | assumption | exact q_rg_up (by assumption) (by omega) | exact q_rg_up (q_rg_up (by assumption) (by omega)) (by omega) | exact q_rg_cpy (by assumption) (by assumption)) (?_)))))))))
                  intro z100
                  exact hQ _ _ _ _ _ ⟨(by first | omega | assumption | exact q_rg_up (by assumption) (by omega) | exact q_rg_up (q_rg_up (by assumption) (by omega)) (by omega) | exact q_rg_cpy (by assumption) (by assumption)), (by first | omega | assumption | exact q_rg_up (by assumption) (by omega) | exact q_rg_up (q_rg_up (by assumption) (by omega)) (by omega) | exact q_rg_cpy (by assumption) (by assumption))⟩
                · intro h75
                  intro z88 h88
                  first | replace h88 := e_sub h88 (by omega) | replace h88 := e_rng h88
                  refine Exists.intro [21, 22, 23, 24, 5, 6, 7, 8, 9, 10, 11, 12] (Exists.intro [q2 0, q2 4, q1 _, q1 _] (Exists.intro ((wZo 0 _ _ _ _ ++ wBo 4 _ _ _ _ _ _ _ _ _ _ _ _)) (And.intro rfl (And.intro rfl (And.intro rfl (And.intro ⟨⟨_, rfl⟩, rfl⟩ (And.intro (Nat.le_of_ble_eq_true rfl) ?_)))))))
                  refine Exists.intro _ (Exists.intro _ (Exists.intro _ (Exists.intro _ (Exists.intro _ (Exists.intro _ (Exists.intro _ (Exists.intro _ (Exists.intro _ (Exists.intro _ (Exists.intro _ (Exists.intro _ (Exists.intro _ (Exists.intro _ (Exists.intro _ (Exists.intro _ (Exists.intro _ (Exists.intro _ (And.intro rfl (And.intro rfl (And.intro (by first | omega | assumption | exact q_rg_up (by assumption) (by omega) | exact q_rg_up (q_rg_up (by assumption) (by omega)) (by omega) | exact q_rg_cpy (by assumption) (by assumption)) (And.intro (by first | omega | assumption | exact q_rg_up (by assumption) (by omega) | exact q_rg_up (q_rg_up (by assumption) (by omega)) (by omega) | exact q_rg_cpy (by assumption) (by assumption)) (And.intro (by first | omega | assumption | exact q_rg_up (by assumption) (by omega) | exact q_rg_up (q_rg_up (by assumption) (by omega)) (by omega) | exact q_rg_cpy (by assumption) (by assumption)) (And.intro (by first | omega | assumption | exact q_rg_up (by assumption) (by omega) | exact q_rg_up (q_rg_up (by assumption) (by omega)) (by omega) | exact q_rg_cpy (by assumption) (by assumption)) (And.intro (by first | omega | assumption | exact q_rg_up (by assumption) (by omega) | exact q_rg_up (q_rg_up (by assumption) (by omega)) (by omega) | exact q_rg_cpy (by assumption) (by assumption)) (?_)))))))))))))))))))))))))
                  intro z89 x2_89 x3_89 x4_89 h89
                  intro _
                  obtain ⟨hz3, hz4⟩ := h89
                  exact hQ _ _ _ _ _ ⟨(by first | omega | assumption | exact q_rg_up (by assumption) (by omega) | exact q_rg_up (q_rg_up (by assumption) (by omega)) (by omega) | exact q_rg_cpy (by assumption) (by assumption)), (by first | omega | assumption | exact q_rg_up (by assumption) (by omega) | exact q_rg_up (q_rg_up (by assumption) (by omega)) (by omega) | exact q_rg_cpy (by assumption) (by assumption))⟩
              · intro h58
                exact hQ _ _ _ _ _ ⟨(by first | omega | assumption | exact q_rg_up (by assumption) (by omega) | exact q_rg_up (q_rg_up (by assumption) (by omega)) (by omega) | exact q_rg_cpy (by assumption) (by assumption)), (by first | omega | assumption | exact q_rg_up (by assumption) (by omega) | exact q_rg_up (q_rg_up (by assumption) (by omega)) (by omega) | exact q_rg_cpy (by assumption) (by assumption))⟩
          · intro h42
            apply And.intro
            · intro h54
              refine Exists.intro [21, 22, 23, 24, 5, 6, 7, 8, 9, 10, 11, 12] (Exists.intro [q2 0, q2 4, q1 _] (Exists.intro ((wZo 0 _ _ _ _ ++ wBo 4 _ _ _ _ _ _ _ _ _ _ _ _)) (And.intro rfl (And.intro rfl (And.intro rfl (And.intro ⟨⟨_, rfl⟩, rfl⟩ (And.intro (Nat.le_of_ble_eq_true rfl) ?_)))))))
              refine Exists.intro _ (Exists.intro _ (Exists.intro _ (Exists.intro _ (Exists.intro _ (Exists.intro _ (Exists.intro _ (Exists.intro _ (Exists.intro _ (Exists.intro _ (Exists.intro _ (Exists.intro _ (Exists.intro _ (Exists.intro _ (Exists.intro _ (Exists.intro _ (Exists.intro _ (And.intro rfl (And.intro rfl (And.intro (by first | omega | assumption | exact q_rg_up (by assumption) (by omega) | exact q_rg_up (q_rg_up (by assumption) (by omega)) (by omega) | exact q_rg_cpy (by assumption) (by assumption)) (And.intro (by first | omega | assumption | exact q_rg_up (by assumption) (by omega) | exact q_rg_up (q_rg_up (by assumption) (by omega)) (by omega) | exact q_rg_cpy (by assumption) (by assumption)) (And.intro (by first | omega | assumption | exact q_rg_up (by assumption) (by omega) | exact q_rg_up (q_rg_up (by assumption) (by omega)) (by omega) | exact q_rg_cpy (by assumption) (by assumption)) (And.intro (by first | omega | assumption | exact q_rg_up (by assumption) (by omega) | exact q_rg_up (q_rg_up (by assumption) (by omega)) (by omega) | exact q_rg_cpy (by assumption) (by assumption)) (?_)))))))))))))))))))))))
              intro x1_70 x2_70 x3_70 x4_70 h70
              intro _
              obtain ⟨hbb, hz1, hz2⟩ := h70
              apply And.intro
              · intro h75
                refine Exists.intro [21, 22, 23, 24] (Exists.intro [q2 0, q1 _] (Exists.intro ((wZo 0 _ _ _ _)) (And.intro rfl (And.intro rfl (And.intro rfl (And.intro ⟨⟨_, rfl⟩, rfl⟩ ?_))))))
                refine Exists.intro _ (Exists.intro _ (Exists.intro _ (Exists.intro _ (Exists.intro _ (And.intro rfl (And.intro rfl (And.intro (by first | omega | assumption | exact q_rg_up (by assumption) (by omega) | exact q_rg_up (q_rg_up (by assumption) (by omega)) (by omega) | exact q_rg_cpy (by assumption) (by assumption)) (And.intro (by first | omega | assumption | exact q_rg_up (by assumption) (by omega) | exact q_rg_up (q_rg_up (by assumption) (by omega)) (by omega) | exact q_rg_cpy (by assumption) (by assumption)) (?_)))))))))
                intro z100
                exact hQ _ _ _ _ _ ⟨(by first | omega | assumption | exact q_rg_up (by assumption) (by omega) | exact q_rg_up (q_rg_up (by assumption) (by omega)) (by omega) | exact q_rg_cpy (by assumption) (by assumption)), (by first | omega | assumption | exact q_rg_up (by assumption) (by omega) | exact q_rg_up (q_rg_up (by assumption) (by omega)) (by omega) | exact q_rg_cpy (by assumption) (by assumption))⟩
              · intro h75
                intro z88 h88
                first | replace h88 := e_sub h88 (by omega) | replace h88 := e_rng h88
                refine Exists.intro [21, 22, 23, 24, 5, 6, 7, 8, 9, 10, 11, 12] (Exists.intro [q2 0, q2 4, q1 _, q1 _] (Exists.intro ((wZo 0 _ _ _ _ ++ wBo 4 _ _ _ _ _ _ _ _ _ _ _ _)) (And.intro rfl (And.intro rfl (And.intro rfl (And.intro ⟨⟨_, rfl⟩, rfl⟩ (And.intro (Nat.le_of_ble_eq_true rfl) ?_)))))))
                refine Exists.intro _ (Exists.intro _ (Exists.intro _ (Exists.intro _ (Exists.intro _ (Exists.intro _ (Exists.intro _ (Exists.intro _ (Exists.intro _ (Exists.intro _ (Exists.intro _ (Exists.intro _ (Exists.intro _ (Exists.intro _ (Exists.intro _ (Exists.intro _ (Exists.intro _ (Exists.intro _ (And.intro rfl (And.intro rfl (And.intro (by first | omega | assumption | exact q_rg_up (by assumption) (by omega) | exact q_rg_up (q_rg_up (by assumption) (by omega)) (by omega) | exact q_rg_cpy (by assumption) (by assumption)) (And.intro (by first | omega | assumption | exact q_rg_up (by assumption) (by omega) | exact q_rg_up (q_rg_up (by assumption) (by omega)) (by omega) | exact q_rg_cpy (by assumption) (by assumption)) (And.intro (by first | omega | assumption | exact q_rg_up (by assumption) (by omega) | exact q_rg_up (q_rg_up (by assumption) (by omega)) (by omega) | exact q_rg_cpy (by assumption) (by assumption)) (And.intro (by first | omega | assumption | exact q_rg_up (by assumption) (by omega) | exact q_rg_up (q_rg_up (by assumption) (by omega)) (by omega) | exact q_rg_cpy (by assumption) (by assumption)) (And.intro (by first | omega | assumption | exact q_rg_up (by assumption) (by omega) | exact q_rg_up (q_rg_up (by assumption) (by omega)) (by omega) | exact q_rg_cpy (by assumption) (by assumption)) (?_)))))))))))))))))))))))))
                intro z89 x2_89 x3_89 x4_89 h89
                intro _
                obtain ⟨hz3, hz4⟩ := h89
                exact hQ _ _ _ _ _ ⟨(by first | omega | assumption | exact q_rg_up (by assumption) (by omega) | exact q_rg_up (q_rg_up (by assumption) (by omega)) (by omega) | exact q_rg_cpy (by assumption) (by assumption)), (by first | omega | assumption | exact q_rg_up (by assumption) (by omega) | exact q_rg_up (q_rg_up (by assumption) (by omega)) (by omega) | exact q_rg_cpy (by assumption) (by assumption))⟩
            · intro h54
              apply And.intro
              · intro h58
                refine Exists.intro [21, 22, 23, 24, 5, 6, 7, 8, 9, 10, 11, 12] (Exists.intro [q2 0, q2 4, q1 _] (Exists.intro ((wZo 0 _ _ _ _ ++ wBo 4 _ _ _ _ _ _ _ _ _ _ _ _)) (And.intro rfl (And.intro rfl (And.intro rfl (And.intro ⟨⟨_, rfl⟩, rfl⟩ (And.intro (Nat.le_of_ble_eq_true rfl) ?_)))))))
                refine Exists.intro _ (Exists.intro _ (Exists.intro _ (Exists.intro _ (Exists.intro _ (Exists.intro _ (Exists.intro _ (Exists.intro _ (Exists.intro _ (Exists.intro _ (Exists.intro _ (Exists.intro _ (Exists.intro _ (Exists.intro _ (Exists.intro _ (Exists.intro _ (Exists.intro _ (And.intro rfl (And.intro rfl (And.intro (by first | omega | assumption | exact q_rg_up (by assumption) (by omega) | exact q_rg_up (q_rg_up (by assumption) (by omega)) (by omega) | exact q_rg_cpy (by assumption) (by assumption)) (And.intro (by first | omega | assumption | exact q_rg_up (by assumption) (by omega) | exact q_rg_up (q_rg_up (by assumption) (by omega)) (by omega) | exact q_rg_cpy (by assumption) (by assumption)) (And.intro (by first | omega | assumption | exact q_rg_up (by assumption) (by omega) | exact q_rg_up (q_rg_up (by assumption) (by omega)) (by omega) | exact q_rg_cpy (by assumption) (by assumption)) (And.intro (by first | omega | assumption | exact q_rg_up (by assumption) (by omega) | exact q_rg_up (q_rg_up (by assumption) (by omega)) (by omega) | exact q_rg_cpy (by assumption) (by assumption)) (?_)))))))))))))))))))))))
                intro x1_70 x2_70 x3_70 x4_70 h70
                intro _
                obtain ⟨hbb, hz1, hz2⟩ := h70
                apply And.intro
                · intro h75
                  refine Exists.intro [21, 22, 23, 24] (Exists.intro [q2 0, q1 _] (Exists.intro ((wZo 0 _ _ _ _)) (And.intro rfl (And.intro rfl (And.intro rfl (And.intro ⟨⟨_, rfl⟩, rfl⟩ ?_))))))
                  refine Exists.intro _ (Exists.intro _ (Exists.intro _ (Exists.intro _ (Exists.intro _ (And.intro rfl (And.intro rfl (And.intro (by first | omega | assumption | exact q_rg_up (by assumption) (by omega) | exact q_rg_up (q_rg_up (by assumption) (by omega)) (by omega) | exact q_rg_cpy (by assumption) (by assumption)) (And.intro (by first | omega | assumption | exact q_rg_up (by assumption) (by omega) | exact q_rg_up (q_rg_up (by assumption) (by omega)) (by omega) | exact q_rg_cpy (by assumption) (by assumption)) (?_)))))))))
                  intro z100
                  exact hQ _ _ _ _ _ ⟨(by first | omega | assumption | exact q_rg_up (by assumption) (by omega) | exact q_rg_up (q_rg_up (by assumption) (by omega)) (by omega) | exact q_rg_cpy (by assumption) (by assumption)), (by first | omega | assumption | exact q_rg_up (by assumption) (by omega) | exact q_rg_up (q_rg_up (by assumption) (by omega)) (by omega) | exact q_rg_cpy (by assumption) (by assumption))⟩
                · intro h75
                  intro z88 h88
                  first | replace h88 := e_sub h88 (by omega) | replace h88 := e_rng h88
                  refine Exists.intro [21, 22, 23, 24, 5, 6, 7, 8, 9, 10, 11, 12] (Exists.intro [q2 0, q2 4, q1 _, q1 _] (Exists.intro ((wZo 0 _ _ _ _ ++ wBo 4 _ _ _ _ _ _ _ _ _ _ _ _)) (And.intro rfl (And.intro rfl (And.intro rfl (And.intro ⟨⟨_, rfl⟩, rfl⟩ (And.intro (Nat.le_of_ble_eq_true rfl) ?_)))))))
                  refine Exists.intro _ (Exists.intro _ (Exists.intro _ (Exists.intro _ (Exists.intro _ (Exists.intro _ (Exists.intro _ (Exists.intro _ (Exists.intro _ (Exists.intro _ (Exists.intro _ (Exists.intro _ (Exists.intro _ (Exists.intro _ (Exists.intro _ (Exists.intro _ (Exists.intro _ (Exists.intro _ (And.intro rfl (And.intro rfl (And.intro (by first | omega | assumption | exact q_rg_up (by assumption) (by omega) | exact q_rg_up (q_rg_up (by assumption) (by omega)) (by omega) | exact q_rg_cpy (by assumption) (by assumption)) (And.intro (by first | omega | assumption | exact q_rg_up (by assumption) (by omega) | exact q_rg_up (q_rg_up (by assumption) (by omega)) (by omega) | exact q_rg_cpy (by assumption) (by assumption)) (And.intro (by first | omega | assumption | exact q_rg_up (by assumption) (by omega) | exact q_rg_up (q_rg_up (by assumption) (by omega)) (by omega) | exact q_rg_cpy (by assumption) (by assumption)) (And.intro (by first | omega | assumption | exact q_rg_up (by assumption) (by omega) | exact q_rg_up (q_rg_up (by assumption) (by omega)) (by omega) | exact q_rg_cpy (by assumption) (by assumption)) (And.intro (by first | omega | assumption | exact q_rg_up (by assumption) (by omega) | exact q_rg_up (q_rg_up (by assumption) (by omega)) (by omega) | exact q_rg_cpy (by assumption) (by assumption)) (?_)))))))))))))))))))))))))
                  intro z89 x2_89 x3_89 x4_89 h89
                  intro _
                  obtain ⟨hz3, hz4⟩ := h89
                  exact hQ _ _ _ _ _ ⟨(by first | omega | assumption | exact q_rg_up (by assumption) (by omega) | exact q_rg_up (q_rg_up (by assumption) (by omega)) (by omega) | exact q_rg_cpy (by assumption) (by assumption)), (by first | omega | assumption | exact q_rg_up (by assumption) (by omega) | exact q_rg_up (q_rg_up (by assumption) (by omega)) (by omega) | exact q_rg_cpy (by assumption) (by assumption))⟩
              · intro h58
                exact hQ _ _ _ _ _ ⟨(by first | omega | assumption | exact q_rg_up (by assumption) (by omega) | exact q_rg_up (q_rg_up (by assumption) (by omega)) (by omega) | exact q_rg_cpy (by assumption) (by assumption)), (by first | omega | assumption | exact q_rg_up (by assumption) (by omega) | exact q_rg_up (q_rg_up (by assumption) (by omega)) (by omega) | exact q_rg_cpy (by assumption) (by assumption))⟩
      · intro h22
        exact hQ _ _ _ _ _ ⟨(by first | omega | assumption | exact q_rg_up (by assumption) (by omega) | exact q_rg_up (q_rg_up (by assumption) (by omega)) (by omega) | exact q_rg_cpy (by assumption) (by assumption)), (by first | omega | assumption | exact q_rg_up (by assumption) (by omega) | exact q_rg_up (q_rg_up (by assumption) (by omega)) (by omega) | exact q_rg_cpy (by assumption) (by assumption))⟩
  · apply And.intro
    · intro h16
      exact hQ _ _ _ _ _ ⟨(by first | omega | assumption | exact q_rg_up (by assumption) (by omega) | exact q_rg_up (q_rg_up (by assumption) (by omega)) (by omega) | exact q_rg_cpy (by assumption) (by assumption)), (by first | omega | assumption | exact q_rg_up (by assumption) (by omega) | exact q_rg_up (q_rg_up (by assumption) (by omega)) (by omega) | exact q_rg_cpy (by assumption) (by assumption))⟩
    · intro h16
      apply And.intro
      · intro h22
        apply And.intro
        · intro h30
          apply And.intro
          · intro h54
            refine Exists.intro [21, 22, 23, 24, 13, 14, 15, 16, 17, 18, 19, 20] (Exists.intro [q2 0, q2 4, q1 _] (Exists.intro ((wZo 0 _ _ _ _ ++ wBo 4 _ _ _ _ _ _ _ _ _ _ _ _)) (And.intro rfl (And.intro rfl (And.intro rfl (And.intro ⟨⟨_, rfl⟩, rfl⟩ (And.intro (Nat.le_of_ble_eq_true rfl) ?_)))))))
            refine Exists.intro _ (Exists.intro _ (Exists.intro _ (Exists.intro _ (Exists.intro _ (Exists.intro _ (Exists.intro _ (Exists.intro _ (Exists.intro _ (Exists.intro _ (Exists.intro _ (Exists.intro _ (Exists.intro _ (Exists.intro _ (Exists.intro _ (Exists.intro _ (Exists.intro _ (And.intro rfl (And.intro rfl (And.intro (by first | omega | assumption | exact q_rg_up (by assumption) (by omega) | exact q_rg_up (q_rg_up (by assumption) (by omega)) (by omega) | exact q_rg_cpy (by assumption) (by assumption)) (And.intro (by first | omega | assumption | exact q_rg_up (by assumption) (by omega) | exact q_rg_up (q_rg_up (by assumption) (by omega)) (by omega) | exact q_rg_cpy (by assumption) (by assumption)) (And.intro (by first | omega | assumption | exact q_rg_up (by assumption) (by omega) | exact q_rg_up (q_rg_up (by assumption) (by omega)) (by omega) | exact q_rg_cpy (by assumption) (by assumption)) (And.intro (by first | omega | assumption | exact q_rg_up (by assumption) (by omega) | exact q_rg_up (q_rg_up (by assumption) (by omega)) (by omega) | exact q_rg_cpy (by assumption) (by assumption)) (?_)))))))))))))))))))))))
            intro x1_70 x2_70 x3_70 x4_70 h70
            intro _
            obtain ⟨hbb, hz1, hz2⟩ := h70
            apply And.intro
            · intro h75
              refine Exists.intro [21, 22, 23, 24] (Exists.intro [q2 0, q1 _] (Exists.intro ((wZo 0 _ _ _ _)) (And.intro rfl (And.intro rfl (And.intro rfl (And.intro ⟨⟨_, rfl⟩, rfl⟩ ?_))))))
              refine Exists.intro _ (Exists.intro _ (Exists.intro _ (Exists.intro _ (Exists.intro _ (And.intro rfl (And.intro rfl (And.intro (by first | omega | assumption | exact q_rg_up (by assumption) (by omega) | exact q_rg_up (q_rg_up (by assumption) (by omega)) (by omega) | exact q_rg_cpy (by assumption) (by assumption)) (And.intro (by first | omega | assumption | exact q_rg_up (by assumption) (by omega) | exact q_rg_up (q_rg_up (by assumption) (by omega)) (by omega) | exact q_rg_cpy (by assumption) (by assumption)) (?_)))))))))
              intro z100
              exact hQ _ _ _ _ _ ⟨(by first | omega | assumption | exact q_rg_up (by assumption) (by omega) | exact q_rg_up (q_rg_up (by assumption) (by omega)) (by omega) | exact q_rg_cpy (by assumption) (by assumption)), (by first | omega | assumption | exact q_rg_up (by assumption) (by omega) | exact q_rg_up (q_rg_up (by assumption) (by omega)) (by omega) | exact q_rg_cpy (by assumption) (by assumption))⟩
            · intro h75
              intro z88 h88
              first | replace h88 := e_sub h88 (by omega) | replace h88 := e_rng h88
              refine Exists.intro [21, 22, 23, 24, 13, 14, 15, 16, 17, 18, 19, 20] (Exists.intro [q2 0, q2 4, q1 _, q1 _] (Exists.intro ((wZo 0 _ _ _ _ ++ wBo 4 _ _ _ _ _ _ _ _ _ _ _ _)) (And.intro rfl (And.intro rfl (And.intro rfl (And.intro ⟨⟨_, rfl⟩, rfl⟩ (And.intro (Nat.le_of_ble_eq_true rfl) ?_)))))))
              refine Exists.intro _ (Exists.intro _ (Exists.intro _ (Exists.intro _ (Exists.intro _ (Exists.intro _ (Exists.intro _ (Exists.intro _ (Exists.intro _ (Exists.intro _ (Exists.intro _ (Exists.intro _ (Exists.intro _ (Exists.intro _ (Exists.intro _ (Exists.intro _ (Exists.intro _ (Exists.intro _ (And.intro rfl (And.intro rfl (And.intro (by first | omega | assumption | exact q_rg_up (by assumption) (by omega) | exact q_rg_up (q_rg_up (by assumption) (by omega)) (by omega) | exact q_rg_cpy (by assumption) (by assumption)) (And.intro (by first | omega | assumption | exact q_rg_up (by assumption) (by omega) | exact q_rg_up (q_rg_up (by assumption) (by omega)) (by omega) | exact q_rg_cpy (by assumption) (by assumption)) (And.intro (by first | omega | assumption | exact q_rg_up (by assumption) (by omega) | exact q_rg_up (q_rg_up (by assumption) (by omega)) (by omega) | exact q_rg_cpy (by assumption) (by assumption)) (And.intro (by first | omega | assumption | exact q_rg_up (by assumption) (by omega) | exact q_rg_up (q_rg_up (by assumption) (by omega)) (by omega) | exact q_rg_cpy (by assumption) (by assumption)) (And.intro (by first | omega | assumption | exact q_rg_up (by assumption) (by omega) | exact q_rg_up (q_rg_up (by assumption) (by omega)) (by omega) | exact q_rg_cpy (by assumption) (by assumption)) (?_)))))))))))))))))))))))))
              intro z89 x2_89 x3_89 x4_89 h89
              intro _
              obtain ⟨hz3, hz4⟩ := h89
              exact hQ _ _ _ _ _ ⟨(by first | omega | assumption | exact q_rg_up (by assumption) (by omega) | exact q_rg_up (q_rg_up (by assumption) (by omega)) (by omega) | exact q_rg_cpy (by assumption) (by assumption)), (by first | omega | assumption | exact q_rg_up (by assumption) (by omega) | exact q_rg_up (q_rg_up (by assumption) (by omega)) (by omega) | exact q_rg_cpy (by assumption) (by assumption))⟩
          · intro h54
            apply And.intro
            · intro h58
              refine Exists.intro [21, 22, 23, 24, 13, 14, 15, 16, 17, 18, 19, 20] (Exists.intro [q2 0, q2 4, q1 _] (Exists.intro ((wZo 0 _ _ _ _ ++ wBo 4 _ _ _ _ _ _ _ _ _ _ _ _)) (And.intro rfl (And.intro rfl (And.intro rfl (And.intro ⟨⟨_, rfl⟩, rfl⟩ (And.intro (Nat.le_of_ble_eq_true rfl) ?_)))))))
              refine Exists.intro _ (Exists.intro _ (Exists.intro _ (Exists.intro _ (Exists.intro _ (Exists.intro _ (Exists.intro _ (Exists.intro _ (Exists.intro _ (Exists.intro _ (Exists.intro _ (Exists.intro _ (Exists.intro _ (Exists.intro _ (Exists.intro _ (Exists.intro _ (Exists.intro _ (And.intro rfl (And.intro rfl (And.intro (by first | omega | assumption | exact q_rg_up (by assumption) (by omega) | exact q_rg_up (q_rg_up (by assumption) (by omega)) (by omega) | exact q_rg_cpy (by assumption) (by assumption)) (And.intro (by first | omega | assumption | exact q_rg_up (by assumption) (by omega) | exact q_rg_up (q_rg_up (by assumption) (by omega)) (by omega) | exact q_rg_cpy (by assumption) (by assumption)) (And.intro (by first | omega | assumption | exact q_rg_up (by assumption) (by omega) | exact q_rg_up (q_rg_up (by assumption) (by omega)) (by omega) | exact q_rg_cpy (by assumption) (by assumption)) (And.intro (by first | omega | assumption | exact q_rg_up (by assumption) (by omega) | exact q_rg_up (q_rg_up (by assumption) (by omega)) (by omega) | exact q_rg_cpy (by assumption) (by assumption)) (?_)))))))))))))))))))))))
              intro x1_70 x2_70 x3_70 x4_70 h70
              intro _
              obtain ⟨hbb, hz1, hz2⟩ := h70
              apply And.intro
              · intro h75
                refine Exists.intro [21, 22, 23, 24] (Exists.intro [q2 0, q1 _] (Exists.intro ((wZo 0 _ _ _ _)) (And.intro rfl (And.intro rfl (And.intro rfl (And.intro ⟨⟨_, rfl⟩, rfl⟩ ?_))))))
                refine Exists.intro _ (Exists.intro _ (Exists.intro _ (Exists.intro _ (Exists.intro _ (And.intro rfl (And.intro rfl (And.intro (by first | omega | assumption | exact q_rg_up (by assumption) (by omega) | exact q_rg_up (q_rg_up (by assumption) (by omega)) (by omega) | exact q_rg_cpy (by assumption) (by assumption)) (And.intro (by first | omega | assumption | exact q_rg_up (by assumption) (by omega) | exact q_rg_up (q_rg_up (by assumption) (by omega)) (by omega) | exact q_rg_cpy (by assumption) (by assumption)) (?_)))))))))
                intro z100
                exact hQ _ _ _ _ _ ⟨(by first | omega | assumption | exact q_rg_up (by assumption) (by omega) | exact q_rg_up (q_rg_up (by assumption) (by omega)) (by omega) | exact q_rg_cpy (by assumption) (by assumption)), (by first | omega | assumption | exact q_rg_up (by assumption) (by omega) | exact q_rg_up (q_rg_up (by assumption) (by omega)) (by omega) | exact q_rg_cpy (by assumption) (by assumption))⟩
              · intro h75
                intro z88 h88
                first | replace h88 := e_sub h88 (by omega) | replace h88 := e_rng h88
                refine Exists.intro [21, 22, 23, 24, 13, 14, 15, 16, 17, 18, 19, 20] (Exists.intro [q2 0, q2 4, q1 _, q1 _] (Exists.intro ((wZo 0 _ _ _ _ ++ wBo 4 _ _ _ _ _ _ _ _ _ _ _ _)) (And.intro rfl (And.intro rfl (And.intro rfl (And.intro ⟨⟨_, rfl⟩, rfl⟩ (And.intro (Nat.le_of_ble_eq_true rfl) ?_)))))))
                refine Exists.intro _ (Exists.intro _ (Exists.intro _ (Exists.intro _ (Exists.intro _ (Exists.intro _ (Exists.intro _ (Exists.intro _ (Exists.intro _ (Exists.intro _ (Exists.intro _ (Exists.intro _ (Exists.intro _ (Exists.intro _ (Exists.intro _ (Exists.intro _ (Exists.intro _ (Exists.intro _ (And.intro rfl (And.intro rfl (And.intro (by first | omega | assumption | exact q_rg_up (by assumption) (by omega) | exact q_rg_up (q_rg_up (by assumption) (by omega)) (by omega) | exact q_rg_cpy (by assumption) (by assumption)) (And.intro (by first | omega | assumption | exact q_rg_up (by assumption) (by omega) | exact q_rg_up (q_rg_up (by assumption) (by omega)) (by omega) | exact q_rg_cpy (by assumption) (by assumption)) (And.intro (by first | omega | assumption | exact q_rg_up (by assumption) (by omega) | exact q_rg_up (q_rg_up (by assumption) (by omega)) (by omega) | exact q_rg_cpy (by assumption) (by assumption)) (And.intro (by first | omega | assumption | exact q_rg_up (by assumption) (by omega) | exact q_rg_up (q_rg_up (by assumption) (by omega)) (by omega) | exact q_rg_cpy (by assumption) (by assumption)) (And.intro (by first | omega | assumption | exact q_rg_up (by assumption) (by omega) | exact q_rg_up (q_rg_up (by assumption) (by omega)) (by omega) | exact q_rg_cpy (by assumption) (by assumption)) (?_)))))))))))))))))))))))))
                intro z89 x2_89 x3_89 x4_89 h89
                intro _
                obtain ⟨hz3, hz4⟩ := h89
                exact hQ _ _ _ _ _ ⟨(by first | omega | assumption | exact q_rg_up (by assumption) (by omega) | exact q_rg_up (q_rg_up (by assumption) (by omega)) (by omega) | exact q_rg_cpy (by assumption) (by assumption)), (by first | omega | assumption | exact q_rg_up (by assumption) (by omega) | exact q_rg_up (q_rg_up (by assumption) (by omega)) (by omega) | exact q_rg_cpy (by assumption) (by assumption))⟩
            · intro h58
              exact hQ _ _ _ _ _ ⟨(by first | omega | assumption | exact q_rg_up (by assumption) (by omega) | exact q_rg_up (q_rg_up (by assumption) (by omega)) (by omega) | exact q_rg_cpy (by assumption) (by assumption)), (by first | omega | assumption | exact q_rg_up (by assumption) (by omega) | exact q_rg_up (q_rg_up (by assumption) (by omega)) (by omega) | exact q_rg_cpy (by assumption) (by assumption))⟩
        · intro h30
          intro z41 h41
          first | replace h41 := e_add h41 (by omega) | replace h41 := e_rng h41
          apply And.intro
          · intro h42
            apply And.intro
            · intro h54
              refine Exists.intro [21, 22, 23, 24, 13, 14, 15, 16, 17, 18, 19, 20] (Exists.intro [q2 0, q2 4, q1 _] (Exists.intro ((wZo 0 _ _ _ _ ++ wBo 4 _ _ _ _ _ _ _ _ _ _ _ _)) (And.intro rfl (And.intro rfl (And.intro rfl (And.intro ⟨⟨_, rfl⟩, rfl⟩ (And.intro (Nat.le_of_ble_eq_true rfl) ?_)))))))
              refine Exists.intro _ (Exists.intro _ (Exists.intro _ (Exists.intro _ (Exists.intro _ (Exists.intro _ (Exists.intro _ (Exists.intro _ (Exists.intro _ (Exists.intro _ (Exists.intro _ (Exists.intro _ (Exists.intro _ (Exists.intro _ (Exists.intro _ (Exists.intro _ (Exists.intro _ (And.intro rfl (And.intro rfl (And.intro (by first | omega | assumption | exact q_rg_up (by assumption) (by omega) | exact q_rg_up (q_rg_up (by assumption) (by omega)) (by omega) | exact q_rg_cpy (by assumption) (by assumption)) (And.intro (by first | omega | assumption | exact q_rg_up (by assumption) (by omega) | exact q_rg_up (q_rg_up (by assumption) (by omega)) (by omega) | exact q_rg_cpy (by assumption) (by assumption)) (And.intro (by first | omega | assumption | exact q_rg_up (by assumption) (by omega) | exact q_rg_up (q_rg_up (by assumption) (by omega)) (by omega) | exact q_rg_cpy (by assumption) (by assumption)) (And.intro (by first | omega | assumption | exact q_rg_up (by assumption) (by omega) | exact q_rg_up (q_rg_up (by assumption) (by omega)) (by omega) | exact q_rg_cpy (by assumption) (by assumption)) (?_)))))))))))))))))))))))
              intro x1_70 x2_70 x3_70 x4_70 h70
              intro _
              obtain ⟨hbb, hz1, hz2⟩ := h70
              apply And.intro
              · intro h75
                refine Exists.intro [21, 22, 23, 24] (Exists.intro [q2 0, q1 _] (Exists.intro ((wZo 0 _ _ _ _)) (And.intro rfl (And.intro rfl (And.intro rfl (And.intro ⟨⟨_, rfl⟩, rfl⟩ ?_))))))
                refine Exists.intro _ (Exists.intro _ (Exists.intro _ (Exists.intro _ (Exists.intro _ (And.intro rfl (And.intro rfl (And.intro (by first | omega | assumption | exact q_rg_up (by assumption) (by omega) | exact q_rg_up (q_rg_up (by assumption) (by omega)) (by omega) | exact q_rg_cpy (by assumption) (by assumption)) (And.intro (by first | omega | assumption | exact q_rg_up (by assumption) (by omega) | exact q_rg_up (q_rg_up (by assumption) (by omega)) (by omega) | exact q_rg_cpy (by assumption) (by assumption)) (?_)))))))))
                intro z100
                exact hQ _ _ _ _ _ ⟨(by first | omega | assumption | exact q_rg_up (by assumption) (by omega) | exact q_rg_up (q_rg_up (by assumption) (by omega)) (by omega) | exact q_rg_cpy (by assumption) (by assumption)), (by first | omega | assumption | exact q_rg_up (by assumption) (by omega) | exact q_rg_up (q_rg_up (by assumption) (by omega)) (by omega) | exact q_rg_cpy (by assumption) (by assumption))⟩
              · intro h75
                intro z88 h88
                first | replace h88 := e_sub h88 (by omega) | replace h88 := e_rng h88
                refine Exists.intro [21, 22, 23, 24, 13, 14, 15, 16, 17, 18, 19, 20] (Exists.intro [q2 0, q2 4, q1 _, q1 _] (Exists.intro ((wZo 0 _ _ _ _ ++ wBo 4 _ _ _ _ _ _ _ _ _ _ _ _)) (And.intro rfl (And.intro rfl (And.intro rfl (And.intro ⟨⟨_, rfl⟩, rfl⟩ (And.intro (Nat.le_of_ble_eq_true rfl) ?_)))))))
                refine Exists.intro _ (Exists.intro _ (Exists.intro _ (Exists.intro _ (Exists.intro _ (Exists.intro _ (Exists.intro _ (Exists.intro _ (Exists.intro _ (Exists.intro _ (Exists.intro _ (Exists.intro _ (Exists.intro _ (Exists.intro _ (Exists.intro _ (Exists.intro _ (Exists.intro _ (Exists.intro _ (And.intro rfl (And.intro rfl (And.intro (by first | omega | assumption | exact q_rg_up (by assumption) (by omega) | exact q_rg_up (q_rg_up (by assumption) (by omega)) (by omega) | exact q_rg_cpy (by assumption) (by assumption)) (And.intro (by first | omega | assumption | exact q_rg_up (by assumption) (by omega) | exact q_rg_up (q_rg_up (by assumption) (by omega)) (by omega) | exact q_rg_cpy (by assumption) (by assumption)) (And.intro (by first | omega | assumption | exact q_rg_up (by assumption) (by omega) | exact q_rg_up (q_rg_up (by assumption) (by omega)) (by omega) | exact q_rg_cpy (by assumption) (by assumption)) (And.intro (by first | omega | assumption | exact q_rg_up (by assumption) (by omega) | exact q_rg_up (q_rg_up (by assumption) (by omega)) (by omega) | exact q_rg_cpy (by assumption) (by assumption)) (And.intro (by first | omega | assumption | exact q_rg_up (by assumption) (by omega) | exact q_rg_up (q_rg_up (by assumption) (by omega)) (by omega) | exact q_rg_cpy (by assumption) (by assumption)) (?_)))))))))))))))))))))))))
                intro z89 x2_89 x3_89 x4_89 h89
                intro _
                obtain ⟨hz3, hz4⟩ := h89
                exact hQ _ _ _ _ _ ⟨(by first | omega | assumption | exact q_rg_up (by assumption) (by omega) | exact q_rg_up (q_rg_up (by assumption) (by omega)) (by omega) | exact q_rg_cpy (by assumption) (by assumption)), (by first | omega | assumption | exact q_rg_up (by assumption) (by omega) | exact q_rg_up (q_rg_up (by assumption) (by omega)) (by omega) | exact q_rg_cpy (by assumption) (by assumption))⟩
            · intro h54
              apply And.intro
              · intro h58
                refine Exists.intro [21, 22, 23, 24, 13, 14, 15, 16, 17, 18, 19, 20] (Exists.intro [q2 0, q2 4, q1 _] (Exists.intro ((wZo 0 _ _ _ _ ++ wBo 4 _ _ _ _ _ _ _ _ _ _ _ _)) (And.intro rfl (And.intro rfl (And.intro rfl (And.intro ⟨⟨_, rfl⟩, rfl⟩ (And.intro (Nat.le_of_ble_eq_true rfl) ?_)))))))
                refine Exists.intro _ (Exists.intro _ (Exists.intro _ (Exists.intro _ (Exists.intro _ (Exists.intro _ (Exists.intro _ (Exists.intro _ (Exists.intro _ (Exists.intro _ (Exists.intro _ (Exists.intro _ (Exists.intro _ (Exists.intro _ (Exists.intro _ (Exists.intro _ (Exists.intro _ (And.intro rfl (And.intro rfl (And.intro (by first | omega | assumption | exact q_rg_up (by assumption) (by omega) | exact q_rg_up (q_rg_up (by assumption) (by omega)) (by omega) | exact q_rg_cpy (by assumption) (by assumption)) (And.intro (by first | omega | assumption | exact q_rg_up (by assumption) (by omega) | exact q_rg_up (q_rg_up (by assumption) (by omega)) (by omega) | exact q_rg_cpy (by assumption) (by assumption)) (And.intro (by first | omega | assumption | exact q_rg_up (by assumption) (by omega) | exact q_rg_up (q_rg_up (by assumption) (by omega)) (by omega) | exact q_rg_cpy (by assumption) (by assumption)) (And.intro (by first | omega | assumption | exact q_rg_up (by assumption) (by omega) | exact q_rg_up (q_rg_up (by assumption) (by omega)) (by omega) | exact q_rg_cpy (by assumption) (by assumption)) (?_)))))))))))))))))))))))
                intro x1_70 x2_70 x3_70 x4_70 h70
                intro _
                obtain ⟨hbb, hz1, hz2⟩ := h70
                apply And.intro
                · intro h75
                  refine Exists.intro [21, 22, 23, 24] (Exists.intro [q2 0, q1 _] (Exists.intro ((wZo 0 _ _ _ _)) (And.intro rfl (And.intro rfl (And.intro rfl (And.intro ⟨⟨_, rfl⟩, rfl⟩ ?_))))))
                  refine Exists.intro _ (Exists.intro _ (Exists.intro _ (Exists.intro _ (Exists.intro _ (And.intro rfl (And.intro rfl (And.intro (by first | omega | assumption | exact q_rg_up (by assumption) (by omega) | exact q_rg_up (q_rg_up (by assumption) (by omega)) (by omega) | exact q_rg_cpy (by assumption) (by assumption)) (And.intro (by first | omega | assumption | exact q_rg_up (by assumption) (by omega) | exact q_rg_up (q_rg_up (by assumption) (by omega)) (by omega) | exact q_rg_cpy (by assumption) (by assumption)) (?_)))))))))
                  intro z100
                  exact hQ _ _ _ _ _ ⟨(by first | omega | assumption | exact q_rg_up (by assumption) (by omega) | exact q_rg_up (q_rg_up (by assumption) (by omega)) (by omega) | exact q_rg_cpy (by assumption) (by assumption)), (by first | omega | assumption | exact q_rg_up (by assumption) (by omega) | exact q_rg_up (q_rg_up (by assumption) (by omega)) (by omega) | exact q_rg_cpy (by assumption) (by assumption))⟩
                · intro h75
                  intro z88 h88
                  first | replace h88 := e_sub h88 (by omega) | replace h88 := e_rng h88
                  refine Exists.intro [21, 22, 23, 24, 13, 14, 15, 16, 17, 18, 19, 20] (Exists.intro [q2 0, q2 4, q1 _, q1 _] (Exists.intro ((wZo 0 _ _ _ _ ++ wBo 4 _ _ _ _ _ _ _ _ _ _ _ _)) (And.intro rfl (And.intro rfl (And.intro rfl (And.intro ⟨⟨_, rfl⟩, rfl⟩ (And.intro (Nat.le_of_ble_eq_true rfl) ?_)))))))
                  refine Exists.intro _ (Exists.intro _ (Exists.intro _ (Exists.intro _ (Exists.intro _ (Exists.intro _ (Exists.intro _ (Exists.intro _ (Exists.intro _ (Exists.intro _ (Exists.intro _ (Exists.intro _ (Exists.intro _ (Exists.intro _ (Exists.intro _ (Exists.intro _ (Exists.intro _ (Exists.intro _ (And.intro rfl (And.intro rfl (And.intro (by first | omega | assumption | exact q_rg_up (by assumption) (by omega) | exact q_rg_up (q_rg_up (by assumption) (by omega)) (by omega) | exact q_rg_cpy (by assumption) (by assumption)) (And.intro (by first | omega | assumption | exact q_rg_up (by assumption) (by omega) | exact q_rg_up (q_rg_up (by assumption) (by omega)) (by omega) | exact q_rg_cpy (by assumption) (by assumption)) (And.intro (by first | omega | assumption | exact q_rg_up (by assumption) (by omega) | exact q_rg_up (q_rg_up (by assumption) (by omega)) (by omega) | exact q_rg_cpy (by assumption) (by assumption)) (And.intro (by first | omega | assumption | exact q_rg_up (by assumption) (by omega) | exact q_rg_up (q_rg_up (by assumption) (by omega)) (by omega) | exact q_rg_cpy (by assumption) (by assumption)) (And.intro (by first | omega | assumption | exact q_rg_up (by assumption) (by omega) | exact q_rg_up (q_rg_up (by assumption) (by omega)) (by omega) | exact q_rg_cpy (by assumption) (by assumption)) (?_)))))))))))))))))))))))))
                  intro z89 x2_89 x3_89 x4_89 h89
                  intro _
                  obtain ⟨hz3, hz4⟩ := h89
                  exact hQ _ _ _ _ _ ⟨(by first | omega | assumption | exact q_rg_up (by assumption) (by omega) | exact q_rg_up (q_rg_up (by assumption) (by omega)) (by omega) | exact q_rg_cpy (by assumption) (by assumption)), (by first | omega | assumption | exact q_rg_up (by assumption) (by omega) | exact q_rg_up (q_rg_up (by assumption) (by omega)) (by omega) | exact q_rg_cpy (by assumption) (by assumption))⟩
              · intro h58
                exact hQ _ _ _ _ _ ⟨(by first | omega | assumption | exact q_rg_up (by assumption) (by omega) | exact q_rg_up (q_rg_up (by assumption) (by omega)) (by omega) | exact q_rg_cpy (by assumption) (by assumption)), (by first | omega | assumption | exact q_rg_up (by assumption) (by omega) | exact q_rg_up (q_rg_up (by assumption) (by omega)) (by omega) | exact q_rg_cpy (by assumption) (by assumption))⟩
          · intro h42
            apply And.intro
            · intro h54
              refine Exists.intro [21, 22, 23, 24, 13, 14, 15, 16, 17, 18, 19, 20] (Exists.intro [q2 0, q2 4, q1 _] (Exists.intro ((wZo 0 _ _ _ _ ++ wBo 4 _ _ _ _ _ _ _ _ _ _ _ _)) (And.intro rfl (And.intro rfl (And.intro rfl (And.intro ⟨⟨_, rfl⟩, rfl⟩ (And.intro (Nat.le_of_ble_eq_true rfl) ?_)))))))
              refine Exists.intro _ (Exists.intro _ (Exists.intro _ (Exists.intro _ (Exists.intro _ (Exists.intro _ (Exists.intro _ (Exists.intro _ (Exists.intro _ (Exists.intro _ (Exists.intro _ (Exists.intro _ (Exists.intro _ (Exists.intro _ (Exists.intro _ (Exists.intro _ (Exists.intro _ (And.intro rfl (And.intro rfl (And.intro (by first | omega | assumption | exact q_rg_up (by assumption) (by omega) | exact q_rg_up (q_rg_up (by assumption) (by omega)) (by omega) | exact q_rg_cpy (by assumption) (by assumption)) (And.intro (by first | omega | assumption | exact q_rg_up (by assumption) (by omega) | exact q_rg_up (q_rg_up (by assumption) (by omega)) (by omega) | exact q_rg_cpy (by assumption) (by assumption)) (And.intro (by first | omega | assumption | exact q_rg_up (by assumption) (by omega) | exact q_rg_up (q_rg_up (by assumption) (by omega)) (by omega) | exact q_rg_cpy (by assumption) (by assumption)) (And.intro (by first | omega | assumption | exact q_rg_up (by assumption) (by omega) | exact q_rg_up (q_rg_up (by assumption) (by omega)) (by omega) | exact q_rg_cpy (by assumption) (by assumption)) (?_)))))))))))))))))))))))
              intro x1_70 x2_70 x3_70 x4_70 h70
              intro _
              obtain ⟨hbb, hz1, hz2⟩ := h70
              apply And.intro
              · intro h75
                refine Exists.intro [21, 22, 23, 24] (Exists.intro [q2 0, q1 _] (Exists.intro ((wZo 0 _ _ _ _)) (And.intro rfl (And.intro rfl (And.intro rfl (And.intro ⟨⟨_, rfl⟩, rfl⟩ ?_))))))
                refine Exists.intro _ (Exists.intro _ (Exists.intro _ (Exists.intro _ (Exists.intro _ (And.intro rfl (And.intro rfl (And.intro (by first | omega | assumption | exact q_rg_up (by assumption) (by omega) | exact q_rg_up (q_rg_up (by assumption) (by omega)) (by omega) | exact q_rg_cpy (by assumption) (by assumption)) (And.intro (by first | omega | assumption | exact q_rg_up (by assumption) (by omega) | exact q_rg_up (q_rg_up (by assumption) (by omega)) (by omega) | exact q_rg_cpy (by assumption) (by assumption)) (?_)))))))))
                intro z100
                exact hQ _ _ _ _ _ ⟨(by first | omega | assumption | exact q_rg_up (by assumption) (by omega) | exact q_rg_up (q_rg_up (by assumption) (by omega)) (by omega) | exact q_rg_cpy (by assumption) (by assumption)), (by first | omega | assumption | exact q_rg_up (by assumption) (by omega) | exact q_rg_up (q_rg_up (by assumption) (by omega)) (by omega) | exact q_rg_cpy (by assumption) (by assumption))⟩
              · intro h75
                intro z88 h88
                first | replace h88 := e_sub h88 (by omega) | replace h88 := e_rng h88
                refine Exists.intro [21, 22, 23, 24, 13, 14, 15, 16, 17, 18, 19, 20] (Exists.intro [q2 0, q2 4, q1 _, q1 _] (Exists.intro ((wZo 0 _ _ _ _ ++ wBo 4 _ _ _ _ _ _ _ _ _ _ _ _)) (And.intro rfl (And.intro rfl (And.intro rfl (And.intro ⟨⟨_, rfl⟩, rfl⟩ (And.intro (Nat.le_of_ble_eq_true rfl) ?_)))))))
                refine Exists.intro _ (Exists.intro _ (Exists.intro _ (Exists.intro _ (Exists.intro _ (Exists.intro _ (Exists.intro _ (Exists.intro _ (Exists.intro _ (Exists.intro _ (Exists.intro _ (Exists.intro _ (Exists.intro _ (Exists.intro _ (Exists.intro _ (Exists.intro _ (Exists.intro _ (Exists.intro _ (And.intro rfl (And.intro rfl (And.intro (by first | omega | assumption | exact q_rg_up (by assumption) (by omega) | exact q_rg_up (q_rg_up (by assumption) (by omega)) (by omega) | exact q_rg_cpy (by assumption) (by assumption)) (And.intro (by first | omega | assumption | exact q_rg_up (by assumption) (by omega) | exact q_rg_up (q_rg_up (by assumption) (by omega)) (by omega) | exact q_rg_cpy (by assumption) (by assumption)) (And.intro (by first | omega | assumption | exact q_rg_up (by assumption) (by omega) | exact q_rg_up (q_rg_up (by assumption) (by omega)) (by omega) | exact q_rg_cpy (by assumption) (by assumption)) (And.intro (by first | omega | assumption | exact q_rg_up (by assumption) (by omega) | exact q_rg_up (q_rg_up (by assumption) (by omega)) (by omega) | exact q_rg_cpy (by assumption) (by assumption)) (And.intro (by first | omega | assumption | exact q_rg_up (by assumption) (by omega) | exact q_rg_up (q_rg_up (by assumption) (by omega)) (by omega) | exact q_rg_cpy (by assumption) (by assumption)) (?_)))))))))))))))))))))))))
                intro z89 x2_89 x3_89 x4_89 h89
                intro _
                obtain ⟨hz3, hz4⟩ := h89
                exact hQ _ _ _ _ _ ⟨(by first | omega | assumption | exact q_rg_up (by assumption) (by omega) | exact q_rg_up (q_rg_up (by assumption) (by omega)) (by omega) | exact q_rg_cpy (by assumption) (by assumption)), (by first | omega | assumption | exact q_rg_up (by assumption) (by omega) | exact q_rg_up (q_rg_up (by assumption) (by omega)) (by omega) | exact q_rg_cpy (by assumption) (by assumption))⟩
            · intro h54
              apply And.intro
              · intro h58
                refine Exists.intro [21, 22, 23, 24, 13, 14, 15, 16, 17, 18, 19, 20] (Exists.intro [q2 0, q2 4, q1 _] (Exists.intro ((wZo 0 _ _ _ _ ++ wBo 4 _ _ _ _ _ _ _ _ _ _ _ _)) (And.intro rfl (And.intro rfl (And.intro rfl (And.intro ⟨⟨_, rfl⟩, rfl⟩ (And.intro (Nat.le_of_ble_eq_true rfl) ?_)))))))
                refine Exists.intro _ (Exists.intro _ (Exists.intro _ (Exists.intro _ (Exists.intro _ (Exists.intro _ (Exists.intro _ (Exists.intro _ (Exists.intro _ (Exists.intro _ (Exists.intro _ (Exists.intro _ (Exists.intro _ (Exists.intro _ (Exists.intro _ (Exists.intro _ (Exists.intro _ (And.intro rfl (And.intro rfl (And.intro (by first | omega | assumption | exact q_rg_up (by assumption) (by omega) | exact q_rg_up (q_rg_up (by assumption) (by omega)) (by omega) | exact q_rg_cpy (by assumption) (by assumption)) (And.intro (by first | omega | assumption | exact q_rg_up (by assumption) (by omega) | exact q_rg_up (q_rg_up (by assumption) (by omega)) (by omega) | exact q_rg_cpy (by assumption) (by assumption)) (And.intro (by first | omega | assumption | exact q_rg_up (by assumption) (by omega) | exact q_rg_up (q_rg_up (by assumption) (by omega)) (by omega) | exact q_rg_cpy (by assumption) (by assumption)) (And.intro (by first | omega | assumption | exact q_rg_up (by assumption) (by omega) | exact q_rg_up (q_rg_up (by assumption) (by omega)) (by omega) | exact q_rg_cpy (by assumption) (by assumption)) (?_)))))))))))))))))))))))
                intro x1_70 x2_70 x3_70 x4_70 h70
                intro _
                obtain ⟨hbb, hz1, hz2⟩ := h70
                apply And.intro
                · intro h75
                  refine Exists.intro [21, 22, 23, 24] (Exists.intro [q2 0, q1 _] (Exists.intro ((wZo 0 _ _ _ _)) (And.intro rfl (And.intro rfl (And.intro rfl (And.intro ⟨⟨_, rfl⟩, rfl⟩ ?_))))))
                  refine Exists.intro _ (Exists.intro _ (Exists.intro _ (Exists.intro _ (Exists.intro _ (And.intro rfl (And.intro rfl (And.intro (by first | omega | assumption | exact q_rg_up (by assumption) (by omega) | exact q_rg_up (q_rg_up (by assumption) (by omega)) (by omega) | exact q_rg_cpy (by assumption) (by assumption)) (And.intro (by first | omega | assumption | exact q_rg_up (by assumption) (by omega) | exact q_rg_up (q_rg_up (by assumption) (by omega)) (by omega) | exact q_rg_cpy (by assumption) (by assumption)) (?_)))))))))
                  intro z100
                  exact hQ _ _ _ _ _ ⟨(by first | omega | assumption | exact q_rg_up (by assumption) (by omega) | exact q_rg_up (q_rg_up (by assumption) (by omega)) (by omega) | exact q_rg_cpy (by assumption) (by assumption)), (by first | omega | assumption | exact q_rg_up (by assumption) (by omega) | exact q_rg_up (q_rg_up (by assumption) (by omega)) (by omega) | exact q_rg_cpy (by assumption) (by assumption))⟩
                · intro h75
                  intro z88 h88
                  first | replace h88 := e_sub h88 (by omega) | replace h88 := e_rng h88
                  refine Exists.intro [21, 22, 23, 24, 13, 14, 15, 16, 17, 18, 19, 20] (Exists.intro [q2 0, q2 4, q1 _, q1 _] (Exists.intro ((wZo 0 _ _ _ _ ++ wBo 4 _ _ _ _ _ _ _ _ _ _ _ _)) (And.intro rfl (And.intro rfl (And.intro rfl (And.intro ⟨⟨_, rfl⟩, rfl⟩ (And.intro (Nat.le_of_ble_eq_true rfl) ?_)))))))
                  refine Exists.intro _ (Exists.intro _ (Exists.intro _ (Exists.intro _ (Exists.intro _ (Exists.intro _ (Exists.intro _ (Exists.intro _ (Exists.intro _ (Exists.intro _ (Exists.intro _ (Exists.intro _ (Exists.intro _ (Exists.intro _ (Exists.intro _ (Exists.intro _ (Exists.intro _ (Exists.intro _ (And.intro rfl (And.intro rfl (And.intro (by first | omega | assumption | exact q_rg_up (by assumption) (by omega) | exact q_rg_up (q_rg_up (by assumption) (by omega)) (by omega) | exact q_rg_cpy (by assumption) (by assumption)) (And.intro (by first | omega | assumption | exact q_rg_up (by assumption) (by omega) | exact q_rg_up (q_rg_up (by assumption) (by omega)) (by omega) | exact q_rg_cpy (by assumption) (by assumption)) (And.intro (by first | omega | assumption | exact q_rg_up (by assumption) (by omega) | exact q_rg_up (q_rg_up (by assumption) (by omega)) (by omega) | exact q_rg_cpy (by assumption) (by assumption)) (And.intro (by first | omega | assumption | exact q_rg_up (by assumption) (by omega) | exact q_rg_up (q_rg_up (by assumption) (by omega)) (by omega) | exact q_rg_cpy (by assumption) (by assumption)) (And.intro (by first | omega | assumption | exact q_rg_up (by assumption) (by omega) | exact q_rg_up (q_rg_up (by assumption) (by omega)) (by omega) | exact q_rg_cpy (by assumption) (by assumption)) (?_)))))))))))))))))))))))))
                  intro z89 x2_89 x3_89 x4_89 h89
                  intro _
                  obtain ⟨hz3, hz4⟩ := h89
                  exact hQ _ _ _ _ _ ⟨(by first | omega | assumption | exact q_rg_up (by assumption) (by omega) | exact q_rg_up (q_rg_up (by assumption) (by omega)) (by omega) | exact q_rg_cpy (by assumption) (by assumption)), (by first | omega | assumption | exact q_rg_up (by assumption) (by omega) | exact q_rg_up (q_rg_up (by assumption) (by omega)) (by omega) | exact q_rg_cpy (by assumption) (by assumption))⟩
              · intro h58
                exact hQ _ _ _ _ _ ⟨(by first | omega | assumption | exact q_rg_up (by assumption) (by omega) | exact q_rg_up (q_rg_up (by assumption) (by omega)) (by omega) | exact q_rg_cpy (by assumption) (by assumption)), (by first | omega | assumption | exact q_rg_up (by assumption) (by omega) | exact q_rg_up (q_rg_up (by assumption) (by omega)) (by omega) | exact q_rg_cpy (by assumption) (by assumption))⟩
      · intro h22
        exact hQ _ _ _ _ _ ⟨(by first | omega | assumption | exact q_rg_up (by assumption) (by omega) | exact q_rg_up (q_rg_up (by assumption) (by omega)) (by omega) | exact q_rg_cpy (by assumption) (by assumption)), (by first | omega | assumption | exact q_rg_up (by assumption) (by omega) | exact q_rg_up (q_rg_up (by assumption) (by omega)) (by omega) | exact q_rg_cpy (by assumption) (by assumption))⟩

