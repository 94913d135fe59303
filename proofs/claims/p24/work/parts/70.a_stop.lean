theorem dX11_stop_0 : decode cX11_stop 0 = .ok (.aload_n 0, 1) := by decide +kernel
theorem dX11_stop_1 : decode cX11_stop 1 = .ok (.getfield 10, 3) := by decide +kernel
theorem dX11_stop_4 : decode cX11_stop 4 = .ok (.iload_n 1, 1) := by decide +kernel
theorem dX11_stop_5 : decode cX11_stop 5 = .ok (.invokevirtual 94, 3) := by decide +kernel
theorem dX11_stop_8 : decode cX11_stop 8 = .ok (.astore_n 3, 1) := by decide +kernel
theorem dX11_stop_9 : decode cX11_stop 9 = .ok (.aload_n 0, 1) := by decide +kernel
theorem dX11_stop_10 : decode cX11_stop 10 = .ok (.getfield 10, 3) := by decide +kernel
theorem dX11_stop_13 : decode cX11_stop 13 = .ok (.iload_n 2, 1) := by decide +kernel
theorem dX11_stop_14 : decode cX11_stop 14 = .ok (.invokevirtual 104, 3) := by decide +kernel
theorem dX11_stop_17 : decode cX11_stop 17 = .ok (.astore 4, 2) := by decide +kernel
theorem dX11_stop_19 : decode cX11_stop 19 = .ok (.aload_n 3, 1) := by decide +kernel
theorem dX11_stop_20 : decode cX11_stop 20 = .ok (.ifnull 8, 3) := by decide +kernel
theorem dX11_stop_23 : decode cX11_stop 23 = .ok (.aload 4, 2) := by decide +kernel
theorem dX11_stop_25 : decode cX11_stop 25 = .ok (.ifnonnull 5, 3) := by decide +kernel
theorem dX11_stop_28 : decode cX11_stop 28 = .ok (.iconst (-1), 1) := by decide +kernel
theorem dX11_stop_29 : decode cX11_stop 29 = .ok (.ireturn, 1) := by decide +kernel
theorem dX11_stop_30 : decode cX11_stop 30 = .ok (.aload_n 0, 1) := by decide +kernel
theorem dX11_stop_31 : decode cX11_stop 31 = .ok (.getfield 30, 3) := by decide +kernel
theorem dX11_stop_34 : decode cX11_stop 34 = .ok (.aload_n 3, 1) := by decide +kernel
theorem dX11_stop_35 : decode cX11_stop 35 = .ok (.aload 4, 2) := by decide +kernel
theorem dX11_stop_37 : decode cX11_stop 37 = .ok (.bipush 40, 2) := by decide +kernel
theorem dX11_stop_39 : decode cX11_stop 39 = .ok (.invokevirtual 115, 3) := by decide +kernel
theorem dX11_stop_42 : decode cX11_stop 42 = .ok (.ireturn, 1) := by decide +kernel
def is_X11_stop : Nat → List Nat := fun d => []
set_option maxRecDepth 100000 in
def b_X11_stop_28 (J : Nat → List qV → List qV → qW → Prop) (Q : qR) : qK := x_int (-1) (x_iret Q)
set_option maxRecDepth 100000 in
theorem s_X11_stop_28 {p : Program} {l : Launch} {e : Env} {R : Room} {s : State} {m : MethodId} {args : Array Value} {below : List Frame} {meth : Method} {c : Code} {nW : Nat} {dC : Nat → ClassId} {dI : Nat → Nat → Nat} {k : Nat → ClassId} {g : Nat → Nat} {A : Nat → Prop} {J : Nat → List qV → List qV → qW → Prop} {Q : qR} (X : q_X p R s m args meth c cX11_stop 5 nW 4 113 RX11 (some .int) dC dI k g A) (hJ : ∀ d : Nat, q_Sd p l e R s m args below meth c 5 nW dC dI k g A (MQ below (q_post (dC, dI) k g nW Q A) args s 0 0 A) d (x_cut (is_X11_stop d) (J d))) : q_Sd p l e R s m args below meth c 5 nW dC dI k g A (MQ below (q_post (dC, dI) k g nW Q A) args s 0 0 A) 28 (b_X11_stop_28 J Q) := by
  unfold b_X11_stop_28
  refine s_iconst X ⟨by decide, by decide⟩ dX11_stop_28 ?_
  exact s_iret X dX11_stop_29
set_option maxRecDepth 100000 in
def b_X11_stop_0 (J : Nat → List qV → List qV → qW → Prop) (Q : qR) : qK := x_aload 0 (x_get 11 0 (x_iload 1 (x_callr (some 8) 2 spr_X8_boroughAt (x_astore 3 (x_aload 0 (x_get 11 0 (x_iload 2 (x_callr (some 8) 2 spr_X8_yearAt (x_astore 4 (x_aload 3 (x_ifnull (b_X11_stop_28 J Q) (x_aload 4 (x_ifnonnull (x_aload 0 (x_get 11 3 (x_aload 3 (x_aload 4 (x_int 40 (x_callm (some 9) 4 4 spm_X9_run (x_nw (x_iret Q)))))))) (b_X11_stop_28 J Q))))))))))))))
set_option maxRecDepth 100000 in
theorem s_X11_stop_0 {p : Program} {l : Launch} {e : Env} {R : Room} {s : State} {m : MethodId} {args : Array Value} {below : List Frame} {meth : Method} {c : Code} {nW : Nat} {dC : Nat → ClassId} {dI : Nat → Nat → Nat} {k : Nat → ClassId} {g : Nat → Nat} {A : Nat → Prop} {J : Nat → List qV → List qV → qW → Prop} {Q : qR} (X : q_X p R s m args meth c cX11_stop 5 nW 4 113 RX11 (some .int) dC dI k g A) (hJ : ∀ d : Nat, q_Sd p l e R s m args below meth c 5 nW dC dI k g A (MQ below (q_post (dC, dI) k g nW Q A) args s 0 0 A) d (x_cut (is_X11_stop d) (J d))) : q_Sd p l e R s m args below meth c 5 nW dC dI k g A (MQ below (q_post (dC, dI) k g nW Q A) args s 0 0 A) 0 (b_X11_stop_0 J Q) := by
  unfold b_X11_stop_0
  refine s_aload_n X rfl dX11_stop_0 ?_
  refine s_get X (T := TX11) (C := RX11) (N := 8) tu_X11 rfl (by decide) tw_326 dX11_stop_1 ?_
  refine s_iload_n X rfl dX11_stop_4 ?_
  refine s_callVr X (m_X8_boroughAt l) tw_541 tw_542 tw_543 tw_121 tw_544 rfl (by decide +kernel) ⟨by decide, by decide⟩ dX11_stop_5 ?_
  refine s_astore_n X rfl (by decide) dX11_stop_8 ?_
  refine s_aload_n X rfl dX11_stop_9 ?_
  refine s_get X (T := TX11) (C := RX11) (N := 8) tu_X11 rfl (by decide) tw_326 dX11_stop_10 ?_
  refine s_iload_n X rfl dX11_stop_13 ?_
  refine s_callVr X (m_X8_yearAt l) tw_559 tw_560 tw_561 tw_121 tw_562 rfl (by decide +kernel) ⟨by decide, by decide⟩ dX11_stop_14 ?_
  refine s_astore X (by decide) dX11_stop_17 ?_
  refine s_aload_n X rfl dX11_stop_19 ?_
  refine s_ifnull X (tgt := 28) dX11_stop_20 (by decide) ?_ ?_
  · exact s_X11_stop_28 X hJ
  · refine s_aload X dX11_stop_23 ?_
    refine s_ifnonnull X (tgt := 30) dX11_stop_25 (by decide) ?_ ?_
    · refine s_aload_n X rfl dX11_stop_30 ?_
      refine s_get X (T := TX11) (C := RX11) (N := 8) tu_X11 rfl (by decide) tw_329 dX11_stop_31 ?_
      refine s_aload_n X rfl dX11_stop_34 ?_
      refine s_aload X dX11_stop_35 ?_
      refine s_bipush X ⟨by decide, by decide⟩ (by decide) dX11_stop_37 ?_
      refine s_callVm X (mm_X9_run l) mq_X9_run tw_571 tw_572 tw_573 tw_129 tw_574 rfl (by decide +kernel) ⟨by decide, by decide⟩ dX11_stop_39 ?_
      refine s_nw ?_
      exact s_iret X dX11_stop_42
    · exact s_X11_stop_28 X hJ

def sp_X11_stop : qS := fun av w Q => ∃ (tp : Nat → Int) (ct : Nat → Int) (ln : Int) (fa : Int) (pl : Int) (b0f1 : Nat → Int) (b0f2 : Nat → Int) (b0f3 : Nat → Int) (b0f4 : Nat → Int) (b0f5 : Nat → Int) (b0f6 : Nat → Int) (b0f7 : Nat → Int) (b0u0 : Int) (b0u1 : Int) (b0u2 : Int) (b0u3 : Int) (b0u4 : Int) (b1f1 : Nat → Int) (b1f2 : Nat → Int) (b1f3 : Nat → Int) (b1f4 : Nat → Int) (b1f5 : Nat → Int) (b1f6 : Nat → Int) (b1f7 : Nat → Int) (b1u0 : Int) (b1u1 : Int) (b1u2 : Int) (b1u3 : Int) (b1u4 : Int) (y0k1 : Nat → Int) (y0k2 : Nat → Int) (y0k3 : Nat → Int) (y0k4 : Nat → Int) (y0d : Int) (y1k1 : Nat → Int) (y1k2 : Nat → Int) (y1k3 : Nat → Int) (y1k4 : Nat → Int) (y1d : Int) (wkh1 : Nat → Int) (wkh2 : Nat → Int) (wkh3 : Nat → Int) (wkp : Int) (wks : Int) (a : Int) (b : Int), av = [q2 0, q1 a, q1 b] ∧ w = [.inr (11, [q2 1, q2 36, q2 37, q2 32, q2 38, q2 39, q2 40, q2 41]), .inr (8, [q2 2, q2 3, q2 4, q2 5, q2 42, q2 43, q1 ln, q1 fa, q1 pl]), .inl (1, 600, .inl tp), .inl (0, 4, .inl ct), .inl (4, 2, .inr (.inr [some 6, some 14])), .inl (5, 2, .inr (.inr [some 22, some 27])), .inr (0, [q2 7, q2 8, q2 9, q2 10, q2 11, q2 12, q2 13, q1 b0u0, q1 b0u1, q1 b0u2, q1 b0u3, q1 b0u4]), .inl (0, 8, .inl b0f1), .inl (0, 8, .inl b0f2), .inl (0, 4, .inl b0f3), .inl (0, 32, .inl b0f4), .inl (0, 6, .inl b0f5), .inl (0, 6, .inl b0f6), .inl (0, 6, .inl b0f7), .inr (0, [q2 15, q2 16, q2 17, q2 18, q2 19, q2 20, q2 21, q1 b1u0, q1 b1u1, q1 b1u2, q1 b1u3, q1 b1u4]), .inl (0, 8, .inl b1f1), .inl (0, 8, .inl b1f2), .inl (0, 4, .inl b1f3), .inl (0, 32, .inl b1f4), .inl (0, 6, .inl b1f5), .inl (0, 6, .inl b1f6), .inl (0, 6, .inl b1f7), .inr (10, [q2 23, q2 24, q2 25, q2 26, q1 y0d]), .inl (0, 40, .inl y0k1), .inl (0, 40, .inl y0k2), .inl (0, 40, .inl y0k3), .inl (0, 40, .inl y0k4), .inr (10, [q2 28, q2 29, q2 30, q2 31, q1 y1d]), .inl (0, 40, .inl y1k1), .inl (0, 40, .inl y1k2), .inl (0, 40, .inl y1k3), .inl (0, 40, .inl y1k4), .inr (9, [q2 33, q2 34, q2 35, q1 wkp, q1 wks]), .inl (0, 8, .inl wkh1), .inl (0, 512, .inl wkh2), .inl (0, 512, .inl wkh3)] ∧ (q_rg 0 2 ct) ∧ (0 ≤ ln ∧ ln ≤ 600) ∧ (0 ≤ b0u0 ∧ b0u0 ≤ 8 ∧ 0 ≤ b0u3 ∧ b0u3 ≤ 6 ∧ 0 ≤ b0u4 ∧ b0u4 ≤ 6) ∧ (q_rg 0 9 b0f3) ∧ (0 ≤ b1u0 ∧ b1u0 ≤ 8 ∧ 0 ≤ b1u3 ∧ b1u3 ≤ 6 ∧ 0 ≤ b1u4 ∧ b1u4 ≤ 6) ∧ (q_rg 0 9 b1f3) ∧ (0 ≤ y0d ∧ y0d ≤ 40) ∧ (0 ≤ y1d ∧ y1d ≤ 40) ∧ (∀ (r : Int) (x_wkh1 : Nat → Int) (x_wkh2 : Nat → Int) (x_wkh3 : Nat → Int) (x_wkp : Int) (x_wks : Int), Q (some (q1 r)) ([.inr (11, [q2 1, q2 36, q2 37, q2 32, q2 38, q2 39, q2 40, q2 41]), .inr (8, [q2 2, q2 3, q2 4, q2 5, q2 42, q2 43, q1 ln, q1 fa, q1 pl]), .inl (1, 600, .inl tp), .inl (0, 4, .inl ct), .inl (4, 2, .inr (.inr [some 6, some 14])), .inl (5, 2, .inr (.inr [some 22, some 27])), .inr (0, [q2 7, q2 8, q2 9, q2 10, q2 11, q2 12, q2 13, q1 b0u0, q1 b0u1, q1 b0u2, q1 b0u3, q1 b0u4]), .inl (0, 8, .inl b0f1), .inl (0, 8, .inl b0f2), .inl (0, 4, .inl b0f3), .inl (0, 32, .inl b0f4), .inl (0, 6, .inl b0f5), .inl (0, 6, .inl b0f6), .inl (0, 6, .inl b0f7), .inr (0, [q2 15, q2 16, q2 17, q2 18, q2 19, q2 20, q2 21, q1 b1u0, q1 b1u1, q1 b1u2, q1 b1u3, q1 b1u4]), .inl (0, 8, .inl b1f1), .inl (0, 8, .inl b1f2), .inl (0, 4, .inl b1f3), .inl (0, 32, .inl b1f4), .inl (0, 6, .inl b1f5), .inl (0, 6, .inl b1f6), .inl (0, 6, .inl b1f7), .inr (10, [q2 23, q2 24, q2 25, q2 26, q1 y0d]), .inl (0, 40, .inl y0k1), .inl (0, 40, .inl y0k2), .inl (0, 40, .inl y0k3), .inl (0, 40, .inl y0k4), .inr (10, [q2 28, q2 29, q2 30, q2 31, q1 y1d]), .inl (0, 40, .inl y1k1), .inl (0, 40, .inl y1k2), .inl (0, 40, .inl y1k3), .inl (0, 40, .inl y1k4), .inr (9, [q2 33, q2 34, q2 35, q1 x_wkp, q1 x_wks]), .inl (0, 8, .inl x_wkh1), .inl (0, 512, .inl x_wkh2), .inl (0, 512, .inl x_wkh3)]))
set_option maxHeartbeats 4000000 in
set_option maxRecDepth 100000 in
theorem m_X11_stop (l : Launch) : q_M l yX11_stop cX11_stop 5 (some .int) 4 113 sp_X11_stop := by
  refine q_meth (by decide) (fun av w Q h => by obtain ⟨tp, ct, ln, fa, pl, b0f1, b0f2, b0f3, b0f4, b0f5, b0f6, b0f7, b0u0, b0u1, b0u2, b0u3, b0u4, b1f1, b1f2, b1f3, b1f4, b1f5, b1f6, b1f7, b1u0, b1u1, b1u2, b1u3, b1u4, y0k1, y0k2, y0k3, y0k4, y0d, y1k1, y1k2, y1k3, y1k4, y1d, wkh1, wkh2, wkh3, wkp, wks, a, b, rfl, rfl, hct, hln, hb0, hf0, hb1, hf1, hy0, hy1, hQ⟩ := h; exact Nat.le_of_ble_eq_true rfl) ?_
  intro p e R s m args below meth c dC dI k g A av w Q hsp oka okw X
  obtain ⟨tp, ct, ln, fa, pl, b0f1, b0f2, b0f3, b0f4, b0f5, b0f6, b0f7, b0u0, b0u1, b0u2, b0u3, b0u4, b1f1, b1f2, b1f3, b1f4, b1f5, b1f6, b1f7, b1u0, b1u1, b1u2, b1u3, b1u4, y0k1, y0k2, y0k3, y0k4, y0d, y1k1, y1k2, y1k3, y1k4, y1d, wkh1, wkh2, wkh3, wkp, wks, a, b, rfl, rfl, hct, hln, hb0, hf0, hb1, hf1, hy0, hy1, hQ⟩ := hsp
  have o_a : -2147483648 ≤ a ∧ a ≤ 2147483647 := oka _ (List.mem_of_getElem? (i := 1) rfl)
  have o_b : -2147483648 ≤ b ∧ b ≤ 2147483647 := oka _ (List.mem_of_getElem? (i := 2) rfl)
  refine s_mono (s_X11_stop_0 X (J := fun _ _ _ _ => False) (fun d => s_cutF)) ?_
  rintro lv st w' ⟨rfl, rfl, rfl⟩
  refine Exists.intro [1, 2, 3, 4, 5, 42, 43, 6, 14] (Exists.intro [q2 0, q1 _] (Exists.intro ((wT4_0 _ _ _ _ _)) (And.intro rfl (And.intro rfl (And.intro rfl (And.intro ⟨⟨_, rfl⟩, rfl⟩ ?_))))))
  refine Exists.intro _ (Exists.intro _ (Exists.intro _ (Exists.intro _ (Exists.intro _ (Exists.intro _ (And.intro rfl (And.intro rfl (?_))))))))
  intro z5 h5
  rcases h5 with rfl | ⟨rfl, rfl⟩ | ⟨rfl, rfl⟩
  · refine Exists.intro [1, 2, 3, 5, 4, 42, 43, 22, 27] (Exists.intro [q2 0, q1 _] (Exists.intro ((wT4_1 _ _ _ _ _)) (And.intro rfl (And.intro rfl (And.intro rfl (And.intro ⟨⟨_, rfl⟩, rfl⟩ ?_))))))
    refine Exists.intro _ (Exists.intro _ (Exists.intro _ (Exists.intro _ (Exists.intro _ (Exists.intro _ (And.intro rfl (And.intro rfl (?_))))))))
    intro z14 h14
    rcases h14 with rfl | ⟨rfl, rfl⟩ | ⟨rfl, rfl⟩
    · exact hQ _ _ _ _ _ _
    · exact hQ _ _ _ _ _ _
    · exact hQ _ _ _ _ _ _
  · refine Exists.intro [1, 2, 3, 5, 4, 42, 43, 22, 27] (Exists.intro [q2 0, q1 _] (Exists.intro ((wT4_1 _ _ _ _ _)) (And.intro rfl (And.intro rfl (And.intro rfl (And.intro ⟨⟨_, rfl⟩, rfl⟩ ?_))))))
    refine Exists.intro _ (Exists.intro _ (Exists.intro _ (Exists.intro _ (Exists.intro _ (Exists.intro _ (And.intro rfl (And.intro rfl (?_))))))))
    intro z14 h14
    rcases h14 with rfl | ⟨rfl, rfl⟩ | ⟨rfl, rfl⟩
    · exact hQ _ _ _ _ _ _
    · refine Exists.intro [32, 33, 34, 35, 6, 7, 8, 9, 10, 11, 12, 13, 22, 23, 24, 25, 26] (Exists.intro [q2 0, q2 4, q2 12, q1 _] (Exists.intro ((wKo 0 _ _ _ _ _ ++ wBo 4 _ _ _ _ _ _ _ _ _ _ _ _ ++ wYo 12 _ _ _ _ _)) (And.intro rfl (And.intro rfl (And.intro rfl (And.intro ⟨⟨_, rfl⟩, rfl⟩ (And.intro (Nat.le_of_ble_eq_true rfl) ?_)))))))
      refine Exists.intro _ (Exists.intro _ (Exists.intro _ (Exists.intro _ (Exists.intro _ (Exists.intro _ (Exists.intro _ (Exists.intro _ (Exists.intro _ (Exists.intro _ (Exists.intro _ (Exists.intro _ (Exists.intro _ (Exists.intro _ (Exists.intro _ (Exists.intro _ (Exists.intro _ (Exists.intro _ (Exists.intro _ (Exists.intro _ (Exists.intro _ (Exists.intro _ (Exists.intro _ (And.intro rfl (And.intro rfl (And.intro (by first | omega | assumption | exact q_rg_up (by assumption) (by omega) | exact q_rg_up (q_rg_up (by assumption) (by omega)) (by omega) | exact q_rg_cpy (by assumption) (by assumption)) (And.intro (by first | omega | assumption | exact q_rg_up (by assumption) (by omega) | exact q_rg_up (q_rg_up (by assumption) (by omega)) (by omega) | exact q_rg_cpy (by assumption) (by assumption)) (?_)))))))))))))))))))))))))))
      intro z39 x1_39 x2_39 x3_39 x4_39 x5_39 h39
      intro _
      exact hQ _ _ _ _ _ _
    · refine Exists.intro [32, 33, 34, 35, 6, 7, 8, 9, 10, 11, 12, 13, 27, 28, 29, 30, 31] (Exists.intro [q2 0, q2 4, q2 12, q1 _] (Exists.intro ((wKo 0 _ _ _ _ _ ++ wBo 4 _ _ _ _ _ _ _ _ _ _ _ _ ++ wYo 12 _ _ _ _ _)) (And.intro rfl (And.intro rfl (And.intro rfl (And.intro ⟨⟨_, rfl⟩, rfl⟩ (And.intro (Nat.le_of_ble_eq_true rfl) ?_)))))))
      refine Exists.intro _ (Exists.intro _ (Exists.intro _ (Exists.intro _ (Exists.intro _ (Exists.intro _ (Exists.intro _ (Exists.intro _ (Exists.intro _ (Exists.intro _ (Exists.intro _ (Exists.intro _ (Exists.intro _ (Exists.intro _ (Exists.intro _ (Exists.intro _ (Exists.intro _ (Exists.intro _ (Exists.intro _ (Exists.intro _ (Exists.intro _ (Exists.intro _ (Exists.intro _ (And.intro rfl (And.intro rfl (And.intro (by first | omega | assumption | exact q_rg_up (by assumption) (by omega) | exact q_rg_up (q_rg_up (by assumption) (by omega)) (by omega) | exact q_rg_cpy (by assumption) (by assumption)) (And.intro (by first | omega | assumption | exact q_rg_up (by assumption) (by omega) | exact q_rg_up (q_rg_up (by assumption) (by omega)) (by omega) | exact q_rg_cpy (by assumption) (by assumption)) (?_)))))))))))))))))))))))))))
      intro z39 x1_39 x2_39 x3_39 x4_39 x5_39 h39
      intro _
      exact hQ _ _ _ _ _ _
  · refine Exists.intro [1, 2, 3, 5, 4, 42, 43, 22, 27] (Exists.intro [q2 0, q1 _] (Exists.intro ((wT4_1 _ _ _ _ _)) (And.intro rfl (And.intro rfl (And.intro rfl (And.intro ⟨⟨_, rfl⟩, rfl⟩ ?_))))))
    refine Exists.intro _ (Exists.intro _ (Exists.intro _ (Exists.intro _ (Exists.intro _ (Exists.intro _ (And.intro rfl (And.intro rfl (?_))))))))
    intro z14 h14
    rcases h14 with rfl | ⟨rfl, rfl⟩ | ⟨rfl, rfl⟩
    · exact hQ _ _ _ _ _ _
    · refine Exists.intro [32, 33, 34, 35, 14, 15, 16, 17, 18, 19, 20, 21, 22, 23, 24, 25, 26] (Exists.intro [q2 0, q2 4, q2 12, q1 _] (Exists.intro ((wKo 0 _ _ _ _ _ ++ wBo 4 _ _ _ _ _ _ _ _ _ _ _ _ ++ wYo 12 _ _ _ _ _)) (And.intro rfl (And.intro rfl (And.intro rfl (And.intro ⟨⟨_, rfl⟩, rfl⟩ (And.intro (Nat.le_of_ble_eq_true rfl) ?_)))))))
      refine Exists.intro _ (Exists.intro _ (Exists.intro _ (Exists.intro _ (Exists.intro _ (Exists.intro _ (Exists.intro _ (Exists.intro _ (Exists.intro _ (Exists.intro _ (Exists.intro _ (Exists.intro _ (Exists.intro _ (Exists.intro _ (Exists.intro _ (Exists.intro _ (Exists.intro _ (Exists.intro _ (Exists.intro _ (Exists.intro _ (Exists.intro _ (Exists.intro _ (Exists.intro _ (And.intro rfl (And.intro rfl (And.intro (by first | omega | assumption | exact q_rg_up (by assumption) (by omega) | exact q_rg_up (q_rg_up (by assumption) (by omega)) (by omega) | exact q_rg_cpy (by assumption) (by assumption)) (And.intro (by first | omega | assumption | exact q_rg_up (by assumption) (by omega) | exact q_rg_up (q_rg_up (by assumption) (by omega)) (by omega) | exact q_rg_cpy (by assumption) (by assumption)) (?_)))))))))))))))))))))))))))
      intro z39 x1_39 x2_39 x3_39 x4_39 x5_39 h39
      intro _
      exact hQ _ _ _ _ _ _
    · refine Exists.intro [32, 33, 34, 35, 14, 15, 16, 17, 18, 19, 20, 21, 27, 28, 29, 30, 31] (Exists.intro [q2 0, q2 4, q2 12, q1 _] (Exists.intro ((wKo 0 _ _ _ _ _ ++ wBo 4 _ _ _ _ _ _ _ _ _ _ _ _ ++ wYo 12 _ _ _ _ _)) (And.intro rfl (And.intro rfl (And.intro rfl (And.intro ⟨⟨_, rfl⟩, rfl⟩ (And.intro (Nat.le_of_ble_eq_true rfl) ?_)))))))
      refine Exists.intro _ (Exists.intro _ (Exists.intro _ (Exists.intro _ (Exists.intro _ (Exists.intro _ (Exists.intro _ (Exists.intro _ (Exists.intro _ (Exists.intro _ (Exists.intro _ (Exists.intro _ (Exists.intro _ (Exists.intro _ (Exists.intro _ (Exists.intro _ (Exists.intro _ (Exists.intro _ (Exists.intro _ (Exists.intro _ (Exists.intro _ (Exists.intro _ (Exists.intro _ (And.intro rfl (And.intro rfl (And.intro (by first | omega | assumption | exact q_rg_up (by assumption) (by omega) | exact q_rg_up (q_rg_up (by assumption) (by omega)) (by omega) | exact q_rg_cpy (by assumption) (by assumption)) (And.intro (by first | omega | assumption | exact q_rg_up (by assumption) (by omega) | exact q_rg_up (q_rg_up (by assumption) (by omega)) (by omega) | exact q_rg_cpy (by assumption) (by assumption)) (?_)))))))))))))))))))))))))))
      intro z39 x1_39 x2_39 x3_39 x4_39 x5_39 h39
      intro _
      exact hQ _ _ _ _ _ _
