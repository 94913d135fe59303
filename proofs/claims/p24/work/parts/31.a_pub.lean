theorem dX11_feed_0 : decode cX11_feed 0 = .ok (.aload_n 0, 1) := by decide +kernel
theorem dX11_feed_1 : decode cX11_feed 1 = .ok (.getfield 10, 3) := by decide +kernel
theorem dX11_feed_4 : decode cX11_feed 4 = .ok (.getfield 62, 3) := by decide +kernel
theorem dX11_feed_7 : decode cX11_feed 7 = .ok (.bipush 20, 2) := by decide +kernel
theorem dX11_feed_9 : decode cX11_feed 9 = .ok (.iadd, 1) := by decide +kernel
theorem dX11_feed_10 : decode cX11_feed 10 = .ok (.sipush 600, 3) := by decide +kernel
theorem dX11_feed_13 : decode cX11_feed 13 = .ok (.if_icmp .le 5, 3) := by decide +kernel
theorem dX11_feed_16 : decode cX11_feed 16 = .ok (.iconst (-1), 1) := by decide +kernel
theorem dX11_feed_17 : decode cX11_feed 17 = .ok (.ireturn, 1) := by decide +kernel
theorem dX11_feed_18 : decode cX11_feed 18 = .ok (.aload_n 0, 1) := by decide +kernel
theorem dX11_feed_19 : decode cX11_feed 19 = .ok (.getfield 10, 3) := by decide +kernel
theorem dX11_feed_22 : decode cX11_feed 22 = .ok (.iload_n 1, 1) := by decide +kernel
theorem dX11_feed_23 : decode cX11_feed 23 = .ok (.invokevirtual 66, 3) := by decide +kernel
theorem dX11_feed_26 : decode cX11_feed 26 = .ok (.aload_n 0, 1) := by decide +kernel
theorem dX11_feed_27 : decode cX11_feed 27 = .ok (.getfield 10, 3) := by decide +kernel
theorem dX11_feed_30 : decode cX11_feed 30 = .ok (.iload_n 2, 1) := by decide +kernel
theorem dX11_feed_31 : decode cX11_feed 31 = .ok (.invokevirtual 66, 3) := by decide +kernel
theorem dX11_feed_34 : decode cX11_feed 34 = .ok (.aload_n 0, 1) := by decide +kernel
theorem dX11_feed_35 : decode cX11_feed 35 = .ok (.getfield 10, 3) := by decide +kernel
theorem dX11_feed_38 : decode cX11_feed 38 = .ok (.iload_n 3, 1) := by decide +kernel
theorem dX11_feed_39 : decode cX11_feed 39 = .ok (.invokevirtual 66, 3) := by decide +kernel
theorem dX11_feed_42 : decode cX11_feed 42 = .ok (.aload_n 0, 1) := by decide +kernel
theorem dX11_feed_43 : decode cX11_feed 43 = .ok (.getfield 10, 3) := by decide +kernel
theorem dX11_feed_46 : decode cX11_feed 46 = .ok (.iload 4, 2) := by decide +kernel
theorem dX11_feed_48 : decode cX11_feed 48 = .ok (.invokevirtual 66, 3) := by decide +kernel
theorem dX11_feed_51 : decode cX11_feed 51 = .ok (.aload_n 0, 1) := by decide +kernel
theorem dX11_feed_52 : decode cX11_feed 52 = .ok (.getfield 10, 3) := by decide +kernel
theorem dX11_feed_55 : decode cX11_feed 55 = .ok (.iload 5, 2) := by decide +kernel
theorem dX11_feed_57 : decode cX11_feed 57 = .ok (.invokevirtual 66, 3) := by decide +kernel
theorem dX11_feed_60 : decode cX11_feed 60 = .ok (.aload_n 0, 1) := by decide +kernel
theorem dX11_feed_61 : decode cX11_feed 61 = .ok (.getfield 10, 3) := by decide +kernel
theorem dX11_feed_64 : decode cX11_feed 64 = .ok (.getfield 62, 3) := by decide +kernel
theorem dX11_feed_67 : decode cX11_feed 67 = .ok (.ireturn, 1) := by decide +kernel
def is_X11_feed : Nat → List Nat := fun d => []
set_option maxRecDepth 100000 in
def b_X11_feed_48 (J : Nat → List qV → List qV → qW → Prop) (Q : qR) : qK := x_call (some 8) 2 sp_X8_put (x_nw (x_aload 0 (x_get 11 0 (x_iload 5 (x_call (some 8) 2 sp_X8_put (x_nw (x_aload 0 (x_get 11 0 (x_get 8 6 (x_iret Q))))))))))
set_option maxRecDepth 100000 in
theorem s_X11_feed_48 {p : Program} {l : Launch} {e : Env} {R : Room} {s : State} {m : MethodId} {args : Array Value} {below : List Frame} {meth : Method} {c : Code} {nW : Nat} {dC : Nat → ClassId} {dI : Nat → Nat → Nat} {k : Nat → ClassId} {g : Nat → Nat} {A : Nat → Prop} {J : Nat → List qV → List qV → qW → Prop} {Q : qR} (X : q_X p R s m args meth c cX11_feed 6 nW 1 22 RX11 (some .int) dC dI k g A) (hJ : ∀ d : Nat, q_Sd p l e R s m args below meth c 6 nW dC dI k g A (MQ below (q_post (dC, dI) k g nW Q A) args s 0 0 A) d (x_cut (is_X11_feed d) (J d))) : q_Sd p l e R s m args below meth c 6 nW dC dI k g A (MQ below (q_post (dC, dI) k g nW Q A) args s 0 0 A) 48 (b_X11_feed_48 J Q) := by
  unfold b_X11_feed_48
  refine s_callV X (m_X8_put l) tw_338 tw_339 tw_340 tw_121 tw_341 rfl (by decide +kernel) ⟨by decide, by decide⟩ dX11_feed_48 ?_
  refine s_nw ?_
  refine s_aload_n X rfl dX11_feed_51 ?_
  refine s_get X (T := TX11) (C := RX11) (N := 8) tu_X11 rfl (by decide) tw_326 dX11_feed_52 ?_
  refine s_iload X dX11_feed_55 ?_
  refine s_callV X (m_X8_put l) tw_338 tw_339 tw_340 tw_121 tw_341 rfl (by decide +kernel) ⟨by decide, by decide⟩ dX11_feed_57 ?_
  refine s_nw ?_
  refine s_aload_n X rfl dX11_feed_60 ?_
  refine s_get X (T := TX11) (C := RX11) (N := 8) tu_X11 rfl (by decide) tw_326 dX11_feed_61 ?_
  refine s_get X (T := TX8) (C := RX8) (N := 9) tu_X8 rfl (by decide) tw_257 dX11_feed_64 ?_
  exact s_iret X dX11_feed_67
set_option maxRecDepth 100000 in
def b_X11_feed_0 (J : Nat → List qV → List qV → qW → Prop) (Q : qR) : qK := x_aload 0 (x_get 11 0 (x_get 8 6 (x_int 20 (x_iadd (x_int 600 (x_icmp_le (x_aload 0 (x_get 11 0 (x_iload 1 (x_call (some 8) 2 sp_X8_put (x_nw (x_aload 0 (x_get 11 0 (x_iload 2 (x_call (some 8) 2 sp_X8_put (x_nw (x_aload 0 (x_get 11 0 (x_iload 3 (x_call (some 8) 2 sp_X8_put (x_nw (x_aload 0 (x_get 11 0 (x_iload 4 (b_X11_feed_48 J Q))))))))))))))))))) (x_int (-1) (x_iret Q))))))))
set_option maxRecDepth 100000 in
theorem s_X11_feed_0 {p : Program} {l : Launch} {e : Env} {R : Room} {s : State} {m : MethodId} {args : Array Value} {below : List Frame} {meth : Method} {c : Code} {nW : Nat} {dC : Nat → ClassId} {dI : Nat → Nat → Nat} {k : Nat → ClassId} {g : Nat → Nat} {A : Nat → Prop} {J : Nat → List qV → List qV → qW → Prop} {Q : qR} (X : q_X p R s m args meth c cX11_feed 6 nW 1 22 RX11 (some .int) dC dI k g A) (hJ : ∀ d : Nat, q_Sd p l e R s m args below meth c 6 nW dC dI k g A (MQ below (q_post (dC, dI) k g nW Q A) args s 0 0 A) d (x_cut (is_X11_feed d) (J d))) : q_Sd p l e R s m args below meth c 6 nW dC dI k g A (MQ below (q_post (dC, dI) k g nW Q A) args s 0 0 A) 0 (b_X11_feed_0 J Q) := by
  unfold b_X11_feed_0
  refine s_aload_n X rfl dX11_feed_0 ?_
  refine s_get X (T := TX11) (C := RX11) (N := 8) tu_X11 rfl (by decide) tw_326 dX11_feed_1 ?_
  refine s_get X (T := TX8) (C := RX8) (N := 9) tu_X8 rfl (by decide) tw_257 dX11_feed_4 ?_
  refine s_bipush X ⟨by decide, by decide⟩ (by decide) dX11_feed_7 ?_
  refine s_iadd X dX11_feed_9 ?_
  refine s_sipush X ⟨by decide, by decide⟩ (by decide) dX11_feed_10 ?_
  refine s_icmp_le X (tgt := 18) dX11_feed_13 (by decide) ?_ ?_
  · refine s_aload_n X rfl dX11_feed_18 ?_
    refine s_get X (T := TX11) (C := RX11) (N := 8) tu_X11 rfl (by decide) tw_326 dX11_feed_19 ?_
    refine s_iload_n X rfl dX11_feed_22 ?_
    refine s_callV X (m_X8_put l) tw_338 tw_339 tw_340 tw_121 tw_341 rfl (by decide +kernel) ⟨by decide, by decide⟩ dX11_feed_23 ?_
    refine s_nw ?_
    refine s_aload_n X rfl dX11_feed_26 ?_
    refine s_get X (T := TX11) (C := RX11) (N := 8) tu_X11 rfl (by decide) tw_326 dX11_feed_27 ?_
    refine s_iload_n X rfl dX11_feed_30 ?_
    refine s_callV X (m_X8_put l) tw_338 tw_339 tw_340 tw_121 tw_341 rfl (by decide +kernel) ⟨by decide, by decide⟩ dX11_feed_31 ?_
    refine s_nw ?_
    refine s_aload_n X rfl dX11_feed_34 ?_
    refine s_get X (T := TX11) (C := RX11) (N := 8) tu_X11 rfl (by decide) tw_326 dX11_feed_35 ?_
    refine s_iload_n X rfl dX11_feed_38 ?_
    refine s_callV X (m_X8_put l) tw_338 tw_339 tw_340 tw_121 tw_341 rfl (by decide +kernel) ⟨by decide, by decide⟩ dX11_feed_39 ?_
    refine s_nw ?_
    refine s_aload_n X rfl dX11_feed_42 ?_
    refine s_get X (T := TX11) (C := RX11) (N := 8) tu_X11 rfl (by decide) tw_326 dX11_feed_43 ?_
    refine s_iload X dX11_feed_46 ?_
    exact s_X11_feed_48 X hJ
  · refine s_iconst X ⟨by decide, by decide⟩ dX11_feed_16 ?_
    exact s_iret X dX11_feed_17

def sp_X11_feed : qS := fun av w Q => ∃ (tp : Nat → Int) (ct : Nat → Int) (ln : Int) (fa : Int) (pl : Int) (a : Int) (b : Int) (cc : Int) (dd : Int) (ee : Int), av = [q2 0, q1 a, q1 b, q1 cc, q1 dd, q1 ee] ∧ w = [.inr (11, [q2 1, q2 4, q2 5, q2 6, q2 7, q2 8, q2 9, q2 10]), .inr (8, [q2 2, q2 3, q2 11, q2 12, q2 13, q2 14, q1 ln, q1 fa, q1 pl]), .inl (1, 600, .inl tp), .inl (0, 4, .inl ct)] ∧ (q_rg 0 2 ct) ∧ (0 ≤ ln ∧ ln ≤ 600) ∧ (∀ (r : Int) (x_tp : Nat → Int) (x_ct : Nat → Int) (x_ln : Int) (x_fa : Int) (x_pl : Int), ((q_rg 0 2 x_ct) ∧ (0 ≤ x_ln ∧ x_ln ≤ 600) ∧ (((580 < ln ∧ r = -1 ∧ x_ln = ln) ∨ (ln ≤ 580 ∧ r = ln + 20 ∧ x_ln = ln + 20)))) → Q (some (q1 r)) ([.inr (11, [q2 1, q2 4, q2 5, q2 6, q2 7, q2 8, q2 9, q2 10]), .inr (8, [q2 2, q2 3, q2 11, q2 12, q2 13, q2 14, q1 x_ln, q1 x_fa, q1 x_pl]), .inl (1, 600, .inl x_tp), .inl (0, 4, .inl x_ct)]))
set_option maxHeartbeats 4000000 in
set_option maxRecDepth 100000 in
theorem m_X11_feed (l : Launch) : q_M l yX11_feed cX11_feed 6 (some .int) 1 22 sp_X11_feed := by
  refine q_meth (by decide) (fun av w Q h => by obtain ⟨tp, ct, ln, fa, pl, a, b, cc, dd, ee, rfl, rfl, hct, hln, hQ⟩ := h; exact Nat.le_of_ble_eq_true rfl) ?_
  intro p e R s m args below meth c dC dI k g A av w Q hsp oka okw X
  obtain ⟨tp, ct, ln, fa, pl, a, b, cc, dd, ee, rfl, rfl, hct, hln, hQ⟩ := hsp
  have o_a : -2147483648 ≤ a ∧ a ≤ 2147483647 := oka _ (List.mem_of_getElem? (i := 1) rfl)
  have o_b : -2147483648 ≤ b ∧ b ≤ 2147483647 := oka _ (List.mem_of_getElem? (i := 2) rfl)
  have o_cc : -2147483648 ≤ cc ∧ cc ≤ 2147483647 := oka _ (List.mem_of_getElem? (i := 3) rfl)
  have o_dd : -2147483648 ≤ dd ∧ dd ≤ 2147483647 := oka _ (List.mem_of_getElem? (i := 4) rfl)
  have o_ee : -2147483648 ≤ ee ∧ ee ≤ 2147483647 := oka _ (List.mem_of_getElem? (i := 5) rfl)
  refine s_mono (s_X11_feed_0 X (J := fun _ _ _ _ => False) (fun d => s_cutF)) ?_
  rintro lv st w' ⟨rfl, rfl, rfl⟩
  intro z9 h9
  first | replace h9 := e_add h9 (by omega) | replace h9 := e_rng h9
  apply And.intro
  · intro h13
    refine Exists.intro [1, 2, 3, 11, 12, 13, 14] (Exists.intro [q2 0, q1 _] (Exists.intro ((wT3 _ _ _ _ _)) (And.intro rfl (And.intro rfl (And.intro rfl (And.intro ⟨⟨_, rfl⟩, rfl⟩ ?_))))))
    refine Exists.intro _ (Exists.intro _ (Exists.intro _ (Exists.intro _ (Exists.intro _ (Exists.intro _ (And.intro rfl (And.intro rfl (And.intro (by first | omega | assumption | exact q_rg_up (by assumption) (by omega) | exact q_rg_up (q_rg_up (by assumption) (by omega)) (by omega) | exact q_rg_cpy (by assumption) (by assumption)) (?_)))))))))
    intro x1_23 x2_23 h23
    refine Exists.intro [1, 2, 3, 11, 12, 13, 14] (Exists.intro [q2 0, q1 _] (Exists.intro ((wT3 _ _ _ _ _)) (And.intro rfl (And.intro rfl (And.intro rfl (And.intro ⟨⟨_, rfl⟩, rfl⟩ ?_))))))
    refine Exists.intro _ (Exists.intro _ (Exists.intro _ (Exists.intro _ (Exists.intro _ (Exists.intro _ (And.intro rfl (And.intro rfl (And.intro (by first | omega | assumption | exact q_rg_up (by assumption) (by omega) | exact q_rg_up (q_rg_up (by assumption) (by omega)) (by omega) | exact q_rg_cpy (by assumption) (by assumption)) (?_)))))))))
    intro x1_31 x2_31 h31
    refine Exists.intro [1, 2, 3, 11, 12, 13, 14] (Exists.intro [q2 0, q1 _] (Exists.intro ((wT3 _ _ _ _ _)) (And.intro rfl (And.intro rfl (And.intro rfl (And.intro ⟨⟨_, rfl⟩, rfl⟩ ?_))))))
    refine Exists.intro _ (Exists.intro _ (Exists.intro _ (Exists.intro _ (Exists.intro _ (Exists.intro _ (And.intro rfl (And.intro rfl (And.intro (by first | omega | assumption | exact q_rg_up (by assumption) (by omega) | exact q_rg_up (q_rg_up (by assumption) (by omega)) (by omega) | exact q_rg_cpy (by assumption) (by assumption)) (?_)))))))))
    intro x1_39 x2_39 h39
    refine Exists.intro [1, 2, 3, 11, 12, 13, 14] (Exists.intro [q2 0, q1 _] (Exists.intro ((wT3 _ _ _ _ _)) (And.intro rfl (And.intro rfl (And.intro rfl (And.intro ⟨⟨_, rfl⟩, rfl⟩ ?_))))))
    refine Exists.intro _ (Exists.intro _ (Exists.intro _ (Exists.intro _ (Exists.intro _ (Exists.intro _ (And.intro rfl (And.intro rfl (And.intro (by first | omega | assumption | exact q_rg_up (by assumption) (by omega) | exact q_rg_up (q_rg_up (by assumption) (by omega)) (by omega) | exact q_rg_cpy (by assumption) (by assumption)) (?_)))))))))
    intro x1_48 x2_48 h48
    refine Exists.intro [1, 2, 3, 11, 12, 13, 14] (Exists.intro [q2 0, q1 _] (Exists.intro ((wT3 _ _ _ _ _)) (And.intro rfl (And.intro rfl (And.intro rfl (And.intro ⟨⟨_, rfl⟩, rfl⟩ ?_))))))
    refine Exists.intro _ (Exists.intro _ (Exists.intro _ (Exists.intro _ (Exists.intro _ (Exists.intro _ (And.intro rfl (And.intro rfl (And.intro (by first | omega | assumption | exact q_rg_up (by assumption) (by omega) | exact q_rg_up (q_rg_up (by assumption) (by omega)) (by omega) | exact q_rg_cpy (by assumption) (by assumption)) (?_)))))))))
    intro x1_57 x2_57 h57
    exact hQ _ _ _ _ _ _ ⟨(by first | omega | assumption | exact q_rg_up (by assumption) (by omega) | exact q_rg_up (q_rg_up (by assumption) (by omega)) (by omega) | exact q_rg_cpy (by assumption) (by assumption)), (by first | omega | assumption | exact q_rg_up (by assumption) (by omega) | exact q_rg_up (q_rg_up (by assumption) (by omega)) (by omega) | exact q_rg_cpy (by assumption) (by assumption)), (by first | omega | assumption | exact q_rg_up (by assumption) (by omega) | exact q_rg_up (q_rg_up (by assumption) (by omega)) (by omega) | exact q_rg_cpy (by assumption) (by assumption))⟩
  · intro h13
    exact hQ _ _ _ _ _ _ ⟨(by first | omega | assumption | exact q_rg_up (by assumption) (by omega) | exact q_rg_up (q_rg_up (by assumption) (by omega)) (by omega) | exact q_rg_cpy (by assumption) (by assumption)), (by first | omega | assumption | exact q_rg_up (by assumption) (by omega) | exact q_rg_up (q_rg_up (by assumption) (by omega)) (by omega) | exact q_rg_cpy (by assumption) (by assumption)), (by first | omega | assumption | exact q_rg_up (by assumption) (by omega) | exact q_rg_up (q_rg_up (by assumption) (by omega)) (by omega) | exact q_rg_cpy (by assumption) (by assumption))⟩

theorem dX11_end_0 : decode cX11_end 0 = .ok (.iload_n 1, 1) := by decide +kernel
theorem dX11_end_1 : decode cX11_end 1 = .ok (.ifCond .lt 14, 3) := by decide +kernel
theorem dX11_end_4 : decode cX11_end 4 = .ok (.iload_n 1, 1) := by decide +kernel
theorem dX11_end_5 : decode cX11_end 5 = .ok (.aload_n 0, 1) := by decide +kernel
theorem dX11_end_6 : decode cX11_end 6 = .ok (.getfield 10, 3) := by decide +kernel
theorem dX11_end_9 : decode cX11_end 9 = .ok (.getfield 62, 3) := by decide +kernel
theorem dX11_end_12 : decode cX11_end 12 = .ok (.if_icmp .le 5, 3) := by decide +kernel
theorem dX11_end_15 : decode cX11_end 15 = .ok (.iconst (-1), 1) := by decide +kernel
theorem dX11_end_16 : decode cX11_end 16 = .ok (.ireturn, 1) := by decide +kernel
theorem dX11_end_17 : decode cX11_end 17 = .ok (.aload_n 0, 1) := by decide +kernel
theorem dX11_end_18 : decode cX11_end 18 = .ok (.getfield 10, 3) := by decide +kernel
theorem dX11_end_21 : decode cX11_end 21 = .ok (.iload_n 1, 1) := by decide +kernel
theorem dX11_end_22 : decode cX11_end 22 = .ok (.putfield 62, 3) := by decide +kernel
theorem dX11_end_25 : decode cX11_end 25 = .ok (.iload_n 1, 1) := by decide +kernel
theorem dX11_end_26 : decode cX11_end 26 = .ok (.ireturn, 1) := by decide +kernel
def is_X11_end : Nat → List Nat := fun d => []
set_option maxRecDepth 100000 in
def b_X11_end_15 (J : Nat → List qV → List qV → qW → Prop) (Q : qR) : qK := x_int (-1) (x_iret Q)
set_option maxRecDepth 100000 in
theorem s_X11_end_15 {p : Program} {l : Launch} {e : Env} {R : Room} {s : State} {m : MethodId} {args : Array Value} {below : List Frame} {meth : Method} {c : Code} {nW : Nat} {dC : Nat → ClassId} {dI : Nat → Nat → Nat} {k : Nat → ClassId} {g : Nat → Nat} {A : Nat → Prop} {J : Nat → List qV → List qV → qW → Prop} {Q : qR} (X : q_X p R s m args meth c cX11_end 2 nW 0 0 RX11 (some .int) dC dI k g A) (hJ : ∀ d : Nat, q_Sd p l e R s m args below meth c 2 nW dC dI k g A (MQ below (q_post (dC, dI) k g nW Q A) args s 0 0 A) d (x_cut (is_X11_end d) (J d))) : q_Sd p l e R s m args below meth c 2 nW dC dI k g A (MQ below (q_post (dC, dI) k g nW Q A) args s 0 0 A) 15 (b_X11_end_15 J Q) := by
  unfold b_X11_end_15
  refine s_iconst X ⟨by decide, by decide⟩ dX11_end_15 ?_
  exact s_iret X dX11_end_16
set_option maxRecDepth 100000 in
def b_X11_end_0 (J : Nat → List qV → List qV → qW → Prop) (Q : qR) : qK := x_iload 1 (x_if_lt (b_X11_end_15 J Q) (x_iload 1 (x_aload 0 (x_get 11 0 (x_get 8 6 (x_icmp_le (x_aload 0 (x_get 11 0 (x_iload 1 (x_put 8 6 q_oki (x_nw (x_iload 1 (x_iret Q))))))) (b_X11_end_15 J Q)))))))
set_option maxRecDepth 100000 in
theorem s_X11_end_0 {p : Program} {l : Launch} {e : Env} {R : Room} {s : State} {m : MethodId} {args : Array Value} {below : List Frame} {meth : Method} {c : Code} {nW : Nat} {dC : Nat → ClassId} {dI : Nat → Nat → Nat} {k : Nat → ClassId} {g : Nat → Nat} {A : Nat → Prop} {J : Nat → List qV → List qV → qW → Prop} {Q : qR} (X : q_X p R s m args meth c cX11_end 2 nW 0 0 RX11 (some .int) dC dI k g A) (hJ : ∀ d : Nat, q_Sd p l e R s m args below meth c 2 nW dC dI k g A (MQ below (q_post (dC, dI) k g nW Q A) args s 0 0 A) d (x_cut (is_X11_end d) (J d))) : q_Sd p l e R s m args below meth c 2 nW dC dI k g A (MQ below (q_post (dC, dI) k g nW Q A) args s 0 0 A) 0 (b_X11_end_0 J Q) := by
  unfold b_X11_end_0
  refine s_iload_n X rfl dX11_end_0 ?_
  refine s_if_lt X (tgt := 15) dX11_end_1 (by decide) ?_ ?_
  · exact s_X11_end_15 X hJ
  · refine s_iload_n X rfl dX11_end_4 ?_
    refine s_aload_n X rfl dX11_end_5 ?_
    refine s_get X (T := TX11) (C := RX11) (N := 8) tu_X11 rfl (by decide) tw_326 dX11_end_6 ?_
    refine s_get X (T := TX8) (C := RX8) (N := 9) tu_X8 rfl (by decide) tw_257 dX11_end_9 ?_
    refine s_icmp_le X (tgt := 17) dX11_end_12 (by decide) ?_ ?_
    · refine s_aload_n X rfl dX11_end_17 ?_
      refine s_get X (T := TX11) (C := RX11) (N := 8) tu_X11 rfl (by decide) tw_326 dX11_end_18 ?_
      refine s_iload_n X rfl dX11_end_21 ?_
      refine s_put X (T := TX8) (C := RX8) (N := 9) tu_X8 tyX8_ok nmX8 rfl (by decide) tw_257 rfl (by decide +kernel) q_oki_t dX11_end_22 ?_
      refine s_nw ?_
      refine s_iload_n X rfl dX11_end_25 ?_
      exact s_iret X dX11_end_26
    · exact s_X11_end_15 X hJ

def sp_X11_end : qS := fun av w Q => ∃ (tp : Nat → Int) (ct : Nat → Int) (ln : Int) (fa : Int) (pl : Int) (a : Int), av = [q2 0, q1 a] ∧ w = [.inr (11, [q2 1, q2 4, q2 5, q2 6, q2 7, q2 8, q2 9, q2 10]), .inr (8, [q2 2, q2 3, q2 11, q2 12, q2 13, q2 14, q1 ln, q1 fa, q1 pl]), .inl (1, 600, .inl tp), .inl (0, 4, .inl ct)] ∧ (q_rg 0 2 ct) ∧ (0 ≤ ln ∧ ln ≤ 600) ∧ (∀ (r : Int) (x_tp : Nat → Int) (x_ct : Nat → Int) (x_ln : Int) (x_fa : Int) (x_pl : Int), ((q_rg 0 2 x_ct) ∧ (0 ≤ x_ln ∧ x_ln ≤ 600) ∧ ((((a < 0 ∨ ln < a) ∧ r = -1 ∧ x_ln = ln) ∨ (0 ≤ a ∧ a ≤ ln ∧ r = a ∧ x_ln = a)))) → Q (some (q1 r)) ([.inr (11, [q2 1, q2 4, q2 5, q2 6, q2 7, q2 8, q2 9, q2 10]), .inr (8, [q2 2, q2 3, q2 11, q2 12, q2 13, q2 14, q1 x_ln, q1 x_fa, q1 x_pl]), .inl (1, 600, .inl x_tp), .inl (0, 4, .inl x_ct)]))
set_option maxHeartbeats 4000000 in
set_option maxRecDepth 100000 in
theorem m_X11_end (l : Launch) : q_M l yX11_end cX11_end 2 (some .int) 0 0 sp_X11_end := by
  refine q_meth (by decide) (fun av w Q h => by obtain ⟨tp, ct, ln, fa, pl, a, rfl, rfl, hct, hln, hQ⟩ := h; exact Nat.le_of_ble_eq_true rfl) ?_
  intro p e R s m args below meth c dC dI k g A av w Q hsp oka okw X
  obtain ⟨tp, ct, ln, fa, pl, a, rfl, rfl, hct, hln, hQ⟩ := hsp
  have o_a : -2147483648 ≤ a ∧ a ≤ 2147483647 := oka _ (List.mem_of_getElem? (i := 1) rfl)
  refine s_mono (s_X11_end_0 X (J := fun _ _ _ _ => False) (fun d => s_cutF)) ?_
  rintro lv st w' ⟨rfl, rfl, rfl⟩
  apply And.intro
  · intro h1
    exact hQ _ _ _ _ _ _ ⟨(by first | omega | assumption | exact q_rg_up (by assumption) (by omega) | exact q_rg_up (q_rg_up (by assumption) (by omega)) (by omega) | exact q_rg_cpy (by assumption) (by assumption)), (by first | omega | assumption | exact q_rg_up (by assumption) (by omega) | exact q_rg_up (q_rg_up (by assumption) (by omega)) (by omega) | exact q_rg_cpy (by assumption) (by assumption)), (by first | omega | assumption | exact q_rg_up (by assumption) (by omega) | exact q_rg_up (q_rg_up (by assumption) (by omega)) (by omega) | exact q_rg_cpy (by assumption) (by assumption))⟩
  · intro h1
    apply And.intro
    · intro h12
      apply And.intro
      · exact trivial
      exact hQ _ _ _ _ _ _ ⟨(by first | omega | assumption | exact q_rg_up (by assumption) (by omega) | exact q_rg_up (q_rg_up (by assumption) (by omega)) (by omega) | exact q_rg_cpy (by assumption) (by assumption)), (by first | omega | assumption | exact q_rg_up (by assumption) (by omega) | exact q_rg_up (q_rg_up (by assumption) (by omega)) (by omega) | exact q_rg_cpy (by assumption) (by assumption)), (by first | omega | assumption | exact q_rg_up (by assumption) (by omega) | exact q_rg_up (q_rg_up (by assumption) (by omega)) (by omega) | exact q_rg_cpy (by assumption) (by assumption))⟩
    · intro h12
      exact hQ _ _ _ _ _ _ ⟨(by first | omega | assumption | exact q_rg_up (by assumption) (by omega) | exact q_rg_up (q_rg_up (by assumption) (by omega)) (by omega) | exact q_rg_cpy (by assumption) (by assumption)), (by first | omega | assumption | exact q_rg_up (by assumption) (by omega) | exact q_rg_up (q_rg_up (by assumption) (by omega)) (by omega) | exact q_rg_cpy (by assumption) (by assumption)), (by first | omega | assumption | exact q_rg_up (by assumption) (by omega) | exact q_rg_up (q_rg_up (by assumption) (by omega)) (by omega) | exact q_rg_cpy (by assumption) (by assumption))⟩

theorem dX11_fault_0 : decode cX11_fault 0 = .ok (.iload_n 1, 1) := by decide +kernel
theorem dX11_fault_1 : decode cX11_fault 1 = .ok (.ifCond .ne 11, 3) := by decide +kernel
theorem dX11_fault_4 : decode cX11_fault 4 = .ok (.aload_n 0, 1) := by decide +kernel
theorem dX11_fault_5 : decode cX11_fault 5 = .ok (.getfield 10, 3) := by decide +kernel
theorem dX11_fault_8 : decode cX11_fault 8 = .ok (.getfield 70, 3) := by decide +kernel
theorem dX11_fault_11 : decode cX11_fault 11 = .ok (.ireturn, 1) := by decide +kernel
theorem dX11_fault_12 : decode cX11_fault 12 = .ok (.iload_n 1, 1) := by decide +kernel
theorem dX11_fault_13 : decode cX11_fault 13 = .ok (.iconst 1, 1) := by decide +kernel
theorem dX11_fault_14 : decode cX11_fault 14 = .ok (.if_icmp .ne 13, 3) := by decide +kernel
theorem dX11_fault_17 : decode cX11_fault 17 = .ok (.aload_n 0, 1) := by decide +kernel
theorem dX11_fault_18 : decode cX11_fault 18 = .ok (.getfield 10, 3) := by decide +kernel
theorem dX11_fault_21 : decode cX11_fault 21 = .ok (.getfield 73, 3) := by decide +kernel
theorem dX11_fault_24 : decode cX11_fault 24 = .ok (.goto 4, 3) := by decide +kernel
theorem dX11_fault_27 : decode cX11_fault 27 = .ok (.iconst (-1), 1) := by decide +kernel
theorem dX11_fault_28 : decode cX11_fault 28 = .ok (.ireturn, 1) := by decide +kernel
def is_X11_fault : Nat → List Nat := fun d => []
set_option maxRecDepth 100000 in
def b_X11_fault_28 (J : Nat → List qV → List qV → qW → Prop) (Q : qR) : qK := x_iret Q
set_option maxRecDepth 100000 in
theorem s_X11_fault_28 {p : Program} {l : Launch} {e : Env} {R : Room} {s : State} {m : MethodId} {args : Array Value} {below : List Frame} {meth : Method} {c : Code} {nW : Nat} {dC : Nat → ClassId} {dI : Nat → Nat → Nat} {k : Nat → ClassId} {g : Nat → Nat} {A : Nat → Prop} {J : Nat → List qV → List qV → qW → Prop} {Q : qR} (X : q_X p R s m args meth c cX11_fault 2 nW 0 0 RX11 (some .int) dC dI k g A) (hJ : ∀ d : Nat, q_Sd p l e R s m args below meth c 2 nW dC dI k g A (MQ below (q_post (dC, dI) k g nW Q A) args s 0 0 A) d (x_cut (is_X11_fault d) (J d))) : q_Sd p l e R s m args below meth c 2 nW dC dI k g A (MQ below (q_post (dC, dI) k g nW Q A) args s 0 0 A) 28 (b_X11_fault_28 J Q) := by
  unfold b_X11_fault_28
  exact s_iret X dX11_fault_28
set_option maxRecDepth 100000 in
def b_X11_fault_0 (J : Nat → List qV → List qV → qW → Prop) (Q : qR) : qK := x_iload 1 (x_if_ne (x_iload 1 (x_int 1 (x_icmp_ne (x_int (-1) (b_X11_fault_28 J Q)) (x_aload 0 (x_get 11 0 (x_get 8 8 (b_X11_fault_28 J Q))))))) (x_aload 0 (x_get 11 0 (x_get 8 7 (x_iret Q)))))
set_option maxRecDepth 100000 in
theorem s_X11_fault_0 {p : Program} {l : Launch} {e : Env} {R : Room} {s : State} {m : MethodId} {args : Array Value} {below : List Frame} {meth : Method} {c : Code} {nW : Nat} {dC : Nat → ClassId} {dI : Nat → Nat → Nat} {k : Nat → ClassId} {g : Nat → Nat} {A : Nat → Prop} {J : Nat → List qV → List qV → qW → Prop} {Q : qR} (X : q_X p R s m args meth c cX11_fault 2 nW 0 0 RX11 (some .int) dC dI k g A) (hJ : ∀ d : Nat, q_Sd p l e R s m args below meth c 2 nW dC dI k g A (MQ below (q_post (dC, dI) k g nW Q A) args s 0 0 A) d (x_cut (is_X11_fault d) (J d))) : q_Sd p l e R s m args below meth c 2 nW dC dI k g A (MQ below (q_post (dC, dI) k g nW Q A) args s 0 0 A) 0 (b_X11_fault_0 J Q) := by
  unfold b_X11_fault_0
  refine s_iload_n X rfl dX11_fault_0 ?_
  refine s_if_ne X (tgt := 12) dX11_fault_1 (by decide) ?_ ?_
  · refine s_iload_n X rfl dX11_fault_12 ?_
    refine s_iconst X ⟨by decide, by decide⟩ dX11_fault_13 ?_
    refine s_icmp_ne X (tgt := 27) dX11_fault_14 (by decide) ?_ ?_
    · refine s_iconst X ⟨by decide, by decide⟩ dX11_fault_27 ?_
      exact s_X11_fault_28 X hJ
    · refine s_aload_n X rfl dX11_fault_17 ?_
      refine s_get X (T := TX11) (C := RX11) (N := 8) tu_X11 rfl (by decide) tw_326 dX11_fault_18 ?_
      refine s_get X (T := TX8) (C := RX8) (N := 9) tu_X8 rfl (by decide) tw_262 dX11_fault_21 ?_
      refine s_goto X (tgt := 28) dX11_fault_24 (by decide) ?_
      exact s_X11_fault_28 X hJ
  · refine s_aload_n X rfl dX11_fault_4 ?_
    refine s_get X (T := TX11) (C := RX11) (N := 8) tu_X11 rfl (by decide) tw_326 dX11_fault_5 ?_
    refine s_get X (T := TX8) (C := RX8) (N := 9) tu_X8 rfl (by decide) tw_260 dX11_fault_8 ?_
    exact s_iret X dX11_fault_11

def spr_X11_fault : List qV → qW → (Option qV → Prop) → Prop := fun av w Q => ∃ (tp : Nat → Int) (ct : Nat → Int) (ln : Int) (fa : Int) (pl : Int) (a : Int), av = [q2 0, q1 a] ∧ w = [.inr (11, [q2 1, q2 4, q2 5, q2 6, q2 7, q2 8, q2 9, q2 10]), .inr (8, [q2 2, q2 3, q2 11, q2 12, q2 13, q2 14, q1 ln, q1 fa, q1 pl]), .inl (1, 600, .inl tp), .inl (0, 4, .inl ct)] ∧ (q_rg 0 2 ct) ∧ (0 ≤ ln ∧ ln ≤ 600) ∧ (∀ (r : Int) , Q (some (q1 r)))
def sp_X11_fault : qS := fun av w Q => spr_X11_fault av w (fun r => Q r w)
set_option maxHeartbeats 4000000 in
set_option maxRecDepth 100000 in
theorem m_X11_fault (l : Launch) : q_M l yX11_fault cX11_fault 2 (some .int) 0 0 sp_X11_fault := by
  refine q_meth (by decide) (fun av w Q h => by obtain ⟨tp, ct, ln, fa, pl, a, rfl, rfl, hct, hln, hQ⟩ := h; exact Nat.le_of_ble_eq_true rfl) ?_
  intro p e R s m args below meth c dC dI k g A av w Q hsp oka okw X
  obtain ⟨tp, ct, ln, fa, pl, a, rfl, rfl, hct, hln, hQ⟩ := hsp
  have o_a : -2147483648 ≤ a ∧ a ≤ 2147483647 := oka _ (List.mem_of_getElem? (i := 1) rfl)
  refine s_mono (s_X11_fault_0 X (J := fun _ _ _ _ => False) (fun d => s_cutF)) ?_
  rintro lv st w' ⟨rfl, rfl, rfl⟩
  apply And.intro
  · intro h1
    apply And.intro
    · intro h14
      exact hQ _
    · intro h14
      exact hQ _
  · intro h1
    exact hQ _

theorem dX11_count_0 : decode cX11_count 0 = .ok (.iload_n 1, 1) := by decide +kernel
theorem dX11_count_1 : decode cX11_count 1 = .ok (.ifCond .lt 8, 3) := by decide +kernel
theorem dX11_count_4 : decode cX11_count 4 = .ok (.iload_n 1, 1) := by decide +kernel
theorem dX11_count_5 : decode cX11_count 5 = .ok (.iconst 4, 1) := by decide +kernel
theorem dX11_count_6 : decode cX11_count 6 = .ok (.if_icmp .lt 8, 3) := by decide +kernel
theorem dX11_count_9 : decode cX11_count 9 = .ok (.bipush (-2), 2) := by decide +kernel
theorem dX11_count_11 : decode cX11_count 11 = .ok (.goto 12, 3) := by decide +kernel
theorem dX11_count_14 : decode cX11_count 14 = .ok (.aload_n 0, 1) := by decide +kernel
theorem dX11_count_15 : decode cX11_count 15 = .ok (.getfield 10, 3) := by decide +kernel
theorem dX11_count_18 : decode cX11_count 18 = .ok (.getfield 290, 3) := by decide +kernel
theorem dX11_count_21 : decode cX11_count 21 = .ok (.iload_n 1, 1) := by decide +kernel
theorem dX11_count_22 : decode cX11_count 22 = .ok (.iaload, 1) := by decide +kernel
theorem dX11_count_23 : decode cX11_count 23 = .ok (.ireturn, 1) := by decide +kernel
def is_X11_count : Nat → List Nat := fun d => []
set_option maxRecDepth 100000 in
def b_X11_count_23 (J : Nat → List qV → List qV → qW → Prop) (Q : qR) : qK := x_iret Q
set_option maxRecDepth 100000 in
theorem s_X11_count_23 {p : Program} {l : Launch} {e : Env} {R : Room} {s : State} {m : MethodId} {args : Array Value} {below : List Frame} {meth : Method} {c : Code} {nW : Nat} {dC : Nat → ClassId} {dI : Nat → Nat → Nat} {k : Nat → ClassId} {g : Nat → Nat} {A : Nat → Prop} {J : Nat → List qV → List qV → qW → Prop} {Q : qR} (X : q_X p R s m args meth c cX11_count 2 nW 0 0 RX11 (some .int) dC dI k g A) (hJ : ∀ d : Nat, q_Sd p l e R s m args below meth c 2 nW dC dI k g A (MQ below (q_post (dC, dI) k g nW Q A) args s 0 0 A) d (x_cut (is_X11_count d) (J d))) : q_Sd p l e R s m args below meth c 2 nW dC dI k g A (MQ below (q_post (dC, dI) k g nW Q A) args s 0 0 A) 23 (b_X11_count_23 J Q) := by
  unfold b_X11_count_23
  exact s_iret X dX11_count_23
set_option maxRecDepth 100000 in
def b_X11_count_9 (J : Nat → List qV → List qV → qW → Prop) (Q : qR) : qK := x_int (-2) (b_X11_count_23 J Q)
set_option maxRecDepth 100000 in
theorem s_X11_count_9 {p : Program} {l : Launch} {e : Env} {R : Room} {s : State} {m : MethodId} {args : Array Value} {below : List Frame} {meth : Method} {c : Code} {nW : Nat} {dC : Nat → ClassId} {dI : Nat → Nat → Nat} {k : Nat → ClassId} {g : Nat → Nat} {A : Nat → Prop} {J : Nat → List qV → List qV → qW → Prop} {Q : qR} (X : q_X p R s m args meth c cX11_count 2 nW 0 0 RX11 (some .int) dC dI k g A) (hJ : ∀ d : Nat, q_Sd p l e R s m args below meth c 2 nW dC dI k g A (MQ below (q_post (dC, dI) k g nW Q A) args s 0 0 A) d (x_cut (is_X11_count d) (J d))) : q_Sd p l e R s m args below meth c 2 nW dC dI k g A (MQ below (q_post (dC, dI) k g nW Q A) args s 0 0 A) 9 (b_X11_count_9 J Q) := by
  unfold b_X11_count_9
  refine s_bipush X ⟨by decide, by decide⟩ (by decide) dX11_count_9 ?_
  refine s_goto X (tgt := 23) dX11_count_11 (by decide) ?_
  exact s_X11_count_23 X hJ
set_option maxRecDepth 100000 in
def b_X11_count_0 (J : Nat → List qV → List qV → qW → Prop) (Q : qR) : qK := x_iload 1 (x_if_lt (b_X11_count_9 J Q) (x_iload 1 (x_int 4 (x_icmp_lt (x_aload 0 (x_get 11 0 (x_get 8 1 (x_iload 1 (x_iald (b_X11_count_23 J Q)))))) (b_X11_count_9 J Q)))))
set_option maxRecDepth 100000 in
theorem s_X11_count_0 {p : Program} {l : Launch} {e : Env} {R : Room} {s : State} {m : MethodId} {args : Array Value} {below : List Frame} {meth : Method} {c : Code} {nW : Nat} {dC : Nat → ClassId} {dI : Nat → Nat → Nat} {k : Nat → ClassId} {g : Nat → Nat} {A : Nat → Prop} {J : Nat → List qV → List qV → qW → Prop} {Q : qR} (X : q_X p R s m args meth c cX11_count 2 nW 0 0 RX11 (some .int) dC dI k g A) (hJ : ∀ d : Nat, q_Sd p l e R s m args below meth c 2 nW dC dI k g A (MQ below (q_post (dC, dI) k g nW Q A) args s 0 0 A) d (x_cut (is_X11_count d) (J d))) : q_Sd p l e R s m args below meth c 2 nW dC dI k g A (MQ below (q_post (dC, dI) k g nW Q A) args s 0 0 A) 0 (b_X11_count_0 J Q) := by
  unfold b_X11_count_0
  refine s_iload_n X rfl dX11_count_0 ?_
  refine s_if_lt X (tgt := 9) dX11_count_1 (by decide) ?_ ?_
  · exact s_X11_count_9 X hJ
  · refine s_iload_n X rfl dX11_count_4 ?_
    refine s_iconst X ⟨by decide, by decide⟩ dX11_count_5 ?_
    refine s_icmp_lt X (tgt := 14) dX11_count_6 (by decide) ?_ ?_
    · refine s_aload_n X rfl dX11_count_14 ?_
      refine s_get X (T := TX11) (C := RX11) (N := 8) tu_X11 rfl (by decide) tw_326 dX11_count_15 ?_
      refine s_get X (T := TX8) (C := RX8) (N := 9) tu_X8 rfl (by decide) tw_252 dX11_count_18 ?_
      refine s_iload_n X rfl dX11_count_21 ?_
      refine s_iald X dX11_count_22 ?_
      exact s_X11_count_23 X hJ
    · exact s_X11_count_9 X hJ

def spr_X11_count : List qV → qW → (Option qV → Prop) → Prop := fun av w Q => ∃ (tp : Nat → Int) (ct : Nat → Int) (ln : Int) (fa : Int) (pl : Int) (a : Int), av = [q2 0, q1 a] ∧ w = [.inr (11, [q2 1, q2 4, q2 5, q2 6, q2 7, q2 8, q2 9, q2 10]), .inr (8, [q2 2, q2 3, q2 11, q2 12, q2 13, q2 14, q1 ln, q1 fa, q1 pl]), .inl (1, 600, .inl tp), .inl (0, 4, .inl ct)] ∧ (q_rg 0 2 ct) ∧ (0 ≤ ln ∧ ln ≤ 600) ∧ (∀ (r : Int) , Q (some (q1 r)))
def sp_X11_count : qS := fun av w Q => spr_X11_count av w (fun r => Q r w)
set_option maxHeartbeats 4000000 in
set_option maxRecDepth 100000 in
theorem m_X11_count (l : Launch) : q_M l yX11_count cX11_count 2 (some .int) 0 0 sp_X11_count := by
  refine q_meth (by decide) (fun av w Q h => by obtain ⟨tp, ct, ln, fa, pl, a, rfl, rfl, hct, hln, hQ⟩ := h; exact Nat.le_of_ble_eq_true rfl) ?_
  intro p e R s m args below meth c dC dI k g A av w Q hsp oka okw X
  obtain ⟨tp, ct, ln, fa, pl, a, rfl, rfl, hct, hln, hQ⟩ := hsp
  have o_a : -2147483648 ≤ a ∧ a ≤ 2147483647 := oka _ (List.mem_of_getElem? (i := 1) rfl)
  refine s_mono (s_X11_count_0 X (J := fun _ _ _ _ => False) (fun d => s_cutF)) ?_
  rintro lv st w' ⟨rfl, rfl, rfl⟩
  apply And.intro
  · intro h1
    exact hQ _
  · intro h1
    apply And.intro
    · intro h6
      apply And.intro
      · exact ⟨by omega, by omega⟩
      intro z22 h22
      exact hQ _
    · intro h6
      exact hQ _

theorem dX11_borough_0 : decode cX11_borough 0 = .ok (.aload_n 0, 1) := by decide +kernel
theorem dX11_borough_1 : decode cX11_borough 1 = .ok (.getfield 10, 3) := by decide +kernel
theorem dX11_borough_4 : decode cX11_borough 4 = .ok (.iload_n 1, 1) := by decide +kernel
theorem dX11_borough_5 : decode cX11_borough 5 = .ok (.invokevirtual 94, 3) := by decide +kernel
theorem dX11_borough_8 : decode cX11_borough 8 = .ok (.astore_n 3, 1) := by decide +kernel
theorem dX11_borough_9 : decode cX11_borough 9 = .ok (.aload_n 3, 1) := by decide +kernel
theorem dX11_borough_10 : decode cX11_borough 10 = .ok (.ifnonnull 8, 3) := by decide +kernel
theorem dX11_borough_13 : decode cX11_borough 13 = .ok (.bipush (-2), 2) := by decide +kernel
theorem dX11_borough_15 : decode cX11_borough 15 = .ok (.goto 8, 3) := by decide +kernel
theorem dX11_borough_18 : decode cX11_borough 18 = .ok (.aload_n 3, 1) := by decide +kernel
theorem dX11_borough_19 : decode cX11_borough 19 = .ok (.iload_n 2, 1) := by decide +kernel
theorem dX11_borough_20 : decode cX11_borough 20 = .ok (.invokevirtual 98, 3) := by decide +kernel
theorem dX11_borough_23 : decode cX11_borough 23 = .ok (.ireturn, 1) := by decide +kernel
def is_X11_borough : Nat → List Nat := fun d => []
set_option maxRecDepth 100000 in
def b_X11_borough_23 (J : Nat → List qV → List qV → qW → Prop) (Q : qR) : qK := x_iret Q
set_option maxRecDepth 100000 in
theorem s_X11_borough_23 {p : Program} {l : Launch} {e : Env} {R : Room} {s : State} {m : MethodId} {args : Array Value} {below : List Frame} {meth : Method} {c : Code} {nW : Nat} {dC : Nat → ClassId} {dI : Nat → Nat → Nat} {k : Nat → ClassId} {g : Nat → Nat} {A : Nat → Prop} {J : Nat → List qV → List qV → qW → Prop} {Q : qR} (X : q_X p R s m args meth c cX11_borough 4 nW 2 43 RX11 (some .int) dC dI k g A) (hJ : ∀ d : Nat, q_Sd p l e R s m args below meth c 4 nW dC dI k g A (MQ below (q_post (dC, dI) k g nW Q A) args s 0 0 A) d (x_cut (is_X11_borough d) (J d))) : q_Sd p l e R s m args below meth c 4 nW dC dI k g A (MQ below (q_post (dC, dI) k g nW Q A) args s 0 0 A) 23 (b_X11_borough_23 J Q) := by
  unfold b_X11_borough_23
  exact s_iret X dX11_borough_23
set_option maxRecDepth 100000 in
def b_X11_borough_0 (J : Nat → List qV → List qV → qW → Prop) (Q : qR) : qK := x_aload 0 (x_get 11 0 (x_iload 1 (x_callr (some 8) 2 spr_X8_boroughAt (x_astore 3 (x_aload 3 (x_ifnonnull (x_aload 3 (x_iload 2 (x_callr (some 0) 2 spr_X0_look (b_X11_borough_23 J Q)))) (x_int (-2) (b_X11_borough_23 J Q))))))))
set_option maxRecDepth 100000 in
theorem s_X11_borough_0 {p : Program} {l : Launch} {e : Env} {R : Room} {s : State} {m : MethodId} {args : Array Value} {below : List Frame} {meth : Method} {c : Code} {nW : Nat} {dC : Nat → ClassId} {dI : Nat → Nat → Nat} {k : Nat → ClassId} {g : Nat → Nat} {A : Nat → Prop} {J : Nat → List qV → List qV → qW → Prop} {Q : qR} (X : q_X p R s m args meth c cX11_borough 4 nW 2 43 RX11 (some .int) dC dI k g A) (hJ : ∀ d : Nat, q_Sd p l e R s m args below meth c 4 nW dC dI k g A (MQ below (q_post (dC, dI) k g nW Q A) args s 0 0 A) d (x_cut (is_X11_borough d) (J d))) : q_Sd p l e R s m args below meth c 4 nW dC dI k g A (MQ below (q_post (dC, dI) k g nW Q A) args s 0 0 A) 0 (b_X11_borough_0 J Q) := by
  unfold b_X11_borough_0
  refine s_aload_n X rfl dX11_borough_0 ?_
  refine s_get X (T := TX11) (C := RX11) (N := 8) tu_X11 rfl (by decide) tw_326 dX11_borough_1 ?_
  refine s_iload_n X rfl dX11_borough_4 ?_
  refine s_callVr X (m_X8_boroughAt l) tw_541 tw_542 tw_543 tw_121 tw_544 rfl (by decide +kernel) ⟨by decide, by decide⟩ dX11_borough_5 ?_
  refine s_astore_n X rfl (by decide) dX11_borough_8 ?_
  refine s_aload_n X rfl dX11_borough_9 ?_
  refine s_ifnonnull X (tgt := 18) dX11_borough_10 (by decide) ?_ ?_
  · refine s_aload_n X rfl dX11_borough_18 ?_
    refine s_iload_n X rfl dX11_borough_19 ?_
    refine s_callVr X (m_X0_look l) tw_545 tw_546 tw_547 tw_122 tw_548 rfl (by decide +kernel) ⟨by decide, by decide⟩ dX11_borough_20 ?_
    exact s_X11_borough_23 X hJ
  · refine s_bipush X ⟨by decide, by decide⟩ (by decide) dX11_borough_13 ?_
    refine s_goto X (tgt := 23) dX11_borough_15 (by decide) ?_
    exact s_X11_borough_23 X hJ

def spr_X11_borough : List qV → qW → (Option qV → Prop) → Prop := fun av w Q => ∃ (tp : Nat → Int) (ct : Nat → Int) (ln : Int) (fa : Int) (pl : Int) (b0f1 : Nat → Int) (b0f2 : Nat → Int) (b0f3 : Nat → Int) (b0f4 : Nat → Int) (b0f5 : Nat → Int) (b0f6 : Nat → Int) (b0f7 : Nat → Int) (b0u0 : Int) (b0u1 : Int) (b0u2 : Int) (b0u3 : Int) (b0u4 : Int) (b1f1 : Nat → Int) (b1f2 : Nat → Int) (b1f3 : Nat → Int) (b1f4 : Nat → Int) (b1f5 : Nat → Int) (b1f6 : Nat → Int) (b1f7 : Nat → Int) (b1u0 : Int) (b1u1 : Int) (b1u2 : Int) (b1u3 : Int) (b1u4 : Int) (a : Int) (b : Int), av = [q2 0, q1 a, q1 b] ∧ w = [.inr (11, [q2 1, q2 21, q2 22, q2 23, q2 24, q2 25, q2 26, q2 27]), .inr (8, [q2 2, q2 3, q2 4, q2 28, q2 29, q2 30, q1 ln, q1 fa, q1 pl]), .inl (1, 600, .inl tp), .inl (0, 4, .inl ct), .inl (4, 2, .inr (.inr [some 5, some 13])), .inr (0, [q2 6, q2 7, q2 8, q2 9, q2 10, q2 11, q2 12, q1 b0u0, q1 b0u1, q1 b0u2, q1 b0u3, q1 b0u4]), .inl (0, 8, .inl b0f1), .inl (0, 8, .inl b0f2), .inl (0, 4, .inl b0f3), .inl (0, 32, .inl b0f4), .inl (0, 6, .inl b0f5), .inl (0, 6, .inl b0f6), .inl (0, 6, .inl b0f7), .inr (0, [q2 14, q2 15, q2 16, q2 17, q2 18, q2 19, q2 20, q1 b1u0, q1 b1u1, q1 b1u2, q1 b1u3, q1 b1u4]), .inl (0, 8, .inl b1f1), .inl (0, 8, .inl b1f2), .inl (0, 4, .inl b1f3), .inl (0, 32, .inl b1f4), .inl (0, 6, .inl b1f5), .inl (0, 6, .inl b1f6), .inl (0, 6, .inl b1f7)] ∧ (q_rg 0 2 ct) ∧ (0 ≤ ln ∧ ln ≤ 600) ∧ (0 ≤ b0u0 ∧ b0u0 ≤ 8 ∧ 0 ≤ b0u3 ∧ b0u3 ≤ 6 ∧ 0 ≤ b0u4 ∧ b0u4 ≤ 6) ∧ (q_rg 0 9 b0f3) ∧ (0 ≤ b1u0 ∧ b1u0 ≤ 8 ∧ 0 ≤ b1u3 ∧ b1u3 ≤ 6 ∧ 0 ≤ b1u4 ∧ b1u4 ≤ 6) ∧ (q_rg 0 9 b1f3) ∧ (∀ (r : Int) , Q (some (q1 r)))
def sp_X11_borough : qS := fun av w Q => spr_X11_borough av w (fun r => Q r w)
set_option maxHeartbeats 4000000 in
set_option maxRecDepth 100000 in
theorem m_X11_borough (l : Launch) : q_M l yX11_borough cX11_borough 4 (some .int) 2 43 sp_X11_borough := by
  refine q_meth (by decide) (fun av w Q h => by obtain ⟨tp, ct, ln, fa, pl, b0f1, b0f2, b0f3, b0f4, b0f5, b0f6, b0f7, b0u0, b0u1, b0u2, b0u3, b0u4, b1f1, b1f2, b1f3, b1f4, b1f5, b1f6, b1f7, b1u0, b1u1, b1u2, b1u3, b1u4, a, b, rfl, rfl, hct, hln, hb0, hf0, hb1, hf1, hQ⟩ := h; exact Nat.le_of_ble_eq_true rfl) ?_
  intro p e R s m args below meth c dC dI k g A av w Q hsp oka okw X
  obtain ⟨tp, ct, ln, fa, pl, b0f1, b0f2, b0f3, b0f4, b0f5, b0f6, b0f7, b0u0, b0u1, b0u2, b0u3, b0u4, b1f1, b1f2, b1f3, b1f4, b1f5, b1f6, b1f7, b1u0, b1u1, b1u2, b1u3, b1u4, a, b, rfl, rfl, hct, hln, hb0, hf0, hb1, hf1, hQ⟩ := hsp
  have o_a : -2147483648 ≤ a ∧ a ≤ 2147483647 := oka _ (List.mem_of_getElem? (i := 1) rfl)
  have o_b : -2147483648 ≤ b ∧ b ≤ 2147483647 := oka _ (List.mem_of_getElem? (i := 2) rfl)
  refine s_mono (s_X11_borough_0 X (J := fun _ _ _ _ => False) (fun d => s_cutF)) ?_
  rintro lv st w' ⟨rfl, rfl, rfl⟩
  refine Exists.intro [1, 2, 3, 4, 28, 29, 30, 5, 13] (Exists.intro [q2 0, q1 _] (Exists.intro ((wT4_0 _ _ _ _ _)) (And.intro rfl (And.intro rfl (And.intro rfl (And.intro ⟨⟨_, rfl⟩, rfl⟩ ?_))))))
  refine Exists.intro _ (Exists.intro _ (Exists.intro _ (Exists.intro _ (Exists.intro _ (Exists.intro _ (And.intro rfl (And.intro rfl (?_))))))))
  intro z5 h5
  rcases h5 with rfl | ⟨rfl, rfl⟩ | ⟨rfl, rfl⟩
  · exact hQ _
  · refine Exists.intro [5, 6, 7, 8, 9, 10, 11, 12] (Exists.intro [q2 0, q1 _] (Exists.intro (wB _ _ _ _ _ _ _ _ _ _ _ _) (And.intro rfl (And.intro rfl (And.intro rfl (And.intro ⟨⟨_, rfl⟩, rfl⟩ ?_))))))
    refine Exists.intro _ (Exists.intro _ (Exists.intro _ (Exists.intro _ (Exists.intro _ (Exists.intro _ (Exists.intro _ (Exists.intro _ (Exists.intro _ (Exists.intro _ (Exists.intro _ (Exists.intro _ (Exists.intro _ (And.intro rfl (And.intro rfl (And.intro (by first | omega | assumption | exact q_rg_up (by assumption) (by omega) | exact q_rg_up (q_rg_up (by assumption) (by omega)) (by omega) | exact q_rg_cpy (by assumption) (by assumption)) (?_))))))))))))))))
    intro z20
    exact hQ _
  · refine Exists.intro [13, 14, 15, 16, 17, 18, 19, 20] (Exists.intro [q2 0, q1 _] (Exists.intro (wB _ _ _ _ _ _ _ _ _ _ _ _) (And.intro rfl (And.intro rfl (And.intro rfl (And.intro ⟨⟨_, rfl⟩, rfl⟩ ?_))))))
    refine Exists.intro _ (Exists.intro _ (Exists.intro _ (Exists.intro _ (Exists.intro _ (Exists.intro _ (Exists.intro _ (Exists.intro _ (Exists.intro _ (Exists.intro _ (Exists.intro _ (Exists.intro _ (Exists.intro _ (And.intro rfl (And.intro rfl (And.intro (by first | omega | assumption | exact q_rg_up (by assumption) (by omega) | exact q_rg_up (q_rg_up (by assumption) (by omega)) (by omega) | exact q_rg_cpy (by assumption) (by assumption)) (?_))))))))))))))))
    intro z20
    exact hQ _

theorem dX11_deed_0 : decode cX11_deed 0 = .ok (.aload_n 0, 1) := by decide +kernel
theorem dX11_deed_1 : decode cX11_deed 1 = .ok (.getfield 10, 3) := by decide +kernel
theorem dX11_deed_4 : decode cX11_deed 4 = .ok (.iload_n 1, 1) := by decide +kernel
theorem dX11_deed_5 : decode cX11_deed 5 = .ok (.invokevirtual 104, 3) := by decide +kernel
theorem dX11_deed_8 : decode cX11_deed 8 = .ok (.astore 4, 2) := by decide +kernel
theorem dX11_deed_10 : decode cX11_deed 10 = .ok (.aload 4, 2) := by decide +kernel
theorem dX11_deed_12 : decode cX11_deed 12 = .ok (.ifnonnull 6, 3) := by decide +kernel
theorem dX11_deed_15 : decode cX11_deed 15 = .ok (.bipush (-2), 2) := by decide +kernel
theorem dX11_deed_17 : decode cX11_deed 17 = .ok (.ireturn, 1) := by decide +kernel
theorem dX11_deed_18 : decode cX11_deed 18 = .ok (.iload_n 2, 1) := by decide +kernel
theorem dX11_deed_19 : decode cX11_deed 19 = .ok (.iconst (-1), 1) := by decide +kernel
theorem dX11_deed_20 : decode cX11_deed 20 = .ok (.if_icmp .ne 18, 3) := by decide +kernel
theorem dX11_deed_23 : decode cX11_deed 23 = .ok (.iload_n 3, 1) := by decide +kernel
theorem dX11_deed_24 : decode cX11_deed 24 = .ok (.ifCond .ne 11, 3) := by decide +kernel
theorem dX11_deed_27 : decode cX11_deed 27 = .ok (.aload 4, 2) := by decide +kernel
theorem dX11_deed_29 : decode cX11_deed 29 = .ok (.getfield 108, 3) := by decide +kernel
theorem dX11_deed_32 : decode cX11_deed 32 = .ok (.goto 5, 3) := by decide +kernel
theorem dX11_deed_35 : decode cX11_deed 35 = .ok (.bipush (-2), 2) := by decide +kernel
theorem dX11_deed_37 : decode cX11_deed 37 = .ok (.ireturn, 1) := by decide +kernel
theorem dX11_deed_38 : decode cX11_deed 38 = .ok (.aload 4, 2) := by decide +kernel
theorem dX11_deed_40 : decode cX11_deed 40 = .ok (.iload_n 2, 1) := by decide +kernel
theorem dX11_deed_41 : decode cX11_deed 41 = .ok (.iload_n 3, 1) := by decide +kernel
theorem dX11_deed_42 : decode cX11_deed 42 = .ok (.invokevirtual 113, 3) := by decide +kernel
theorem dX11_deed_45 : decode cX11_deed 45 = .ok (.ireturn, 1) := by decide +kernel
def is_X11_deed : Nat → List Nat := fun d => []
set_option maxRecDepth 100000 in
def b_X11_deed_37 (J : Nat → List qV → List qV → qW → Prop) (Q : qR) : qK := x_iret Q
set_option maxRecDepth 100000 in
theorem s_X11_deed_37 {p : Program} {l : Launch} {e : Env} {R : Room} {s : State} {m : MethodId} {args : Array Value} {below : List Frame} {meth : Method} {c : Code} {nW : Nat} {dC : Nat → ClassId} {dI : Nat → Nat → Nat} {k : Nat → ClassId} {g : Nat → Nat} {A : Nat → Prop} {J : Nat → List qV → List qV → qW → Prop} {Q : qR} (X : q_X p R s m args meth c cX11_deed 5 nW 2 43 RX11 (some .int) dC dI k g A) (hJ : ∀ d : Nat, q_Sd p l e R s m args below meth c 5 nW dC dI k g A (MQ below (q_post (dC, dI) k g nW Q A) args s 0 0 A) d (x_cut (is_X11_deed d) (J d))) : q_Sd p l e R s m args below meth c 5 nW dC dI k g A (MQ below (q_post (dC, dI) k g nW Q A) args s 0 0 A) 37 (b_X11_deed_37 J Q) := by
  unfold b_X11_deed_37
  exact s_iret X dX11_deed_37
set_option maxRecDepth 100000 in
def b_X11_deed_0 (J : Nat → List qV → List qV → qW → Prop) (Q : qR) : qK := x_aload 0 (x_get 11 0 (x_iload 1 (x_callr (some 8) 2 spr_X8_yearAt (x_astore 4 (x_aload 4 (x_ifnonnull (x_iload 2 (x_int (-1) (x_icmp_ne (x_aload 4 (x_iload 2 (x_iload 3 (x_callr (some 10) 3 spr_X10_look (x_iret Q))))) (x_iload 3 (x_if_ne (x_int (-2) (b_X11_deed_37 J Q)) (x_aload 4 (x_get 10 4 (b_X11_deed_37 J Q)))))))) (x_int (-2) (x_iret Q))))))))
set_option maxRecDepth 100000 in
theorem s_X11_deed_0 {p : Program} {l : Launch} {e : Env} {R : Room} {s : State} {m : MethodId} {args : Array Value} {below : List Frame} {meth : Method} {c : Code} {nW : Nat} {dC : Nat → ClassId} {dI : Nat → Nat → Nat} {k : Nat → ClassId} {g : Nat → Nat} {A : Nat → Prop} {J : Nat → List qV → List qV → qW → Prop} {Q : qR} (X : q_X p R s m args meth c cX11_deed 5 nW 2 43 RX11 (some .int) dC dI k g A) (hJ : ∀ d : Nat, q_Sd p l e R s m args below meth c 5 nW dC dI k g A (MQ below (q_post (dC, dI) k g nW Q A) args s 0 0 A) d (x_cut (is_X11_deed d) (J d))) : q_Sd p l e R s m args below meth c 5 nW dC dI k g A (MQ below (q_post (dC, dI) k g nW Q A) args s 0 0 A) 0 (b_X11_deed_0 J Q) := by
  unfold b_X11_deed_0
  refine s_aload_n X rfl dX11_deed_0 ?_
  refine s_get X (T := TX11) (C := RX11) (N := 8) tu_X11 rfl (by decide) tw_326 dX11_deed_1 ?_
  refine s_iload_n X rfl dX11_deed_4 ?_
  refine s_callVr X (m_X8_yearAt l) tw_559 tw_560 tw_561 tw_121 tw_562 rfl (by decide +kernel) ⟨by decide, by decide⟩ dX11_deed_5 ?_
  refine s_astore X (by decide) dX11_deed_8 ?_
  refine s_aload X dX11_deed_10 ?_
  refine s_ifnonnull X (tgt := 18) dX11_deed_12 (by decide) ?_ ?_
  · refine s_iload_n X rfl dX11_deed_18 ?_
    refine s_iconst X ⟨by decide, by decide⟩ dX11_deed_19 ?_
    refine s_icmp_ne X (tgt := 38) dX11_deed_20 (by decide) ?_ ?_
    · refine s_aload X dX11_deed_38 ?_
      refine s_iload_n X rfl dX11_deed_40 ?_
      refine s_iload_n X rfl dX11_deed_41 ?_
      refine s_callVr X (m_X10_look l) tw_563 tw_564 tw_565 tw_125 tw_566 rfl (by decide +kernel) ⟨by decide, by decide⟩ dX11_deed_42 ?_
      exact s_iret X dX11_deed_45
    · refine s_iload_n X rfl dX11_deed_23 ?_
      refine s_if_ne X (tgt := 35) dX11_deed_24 (by decide) ?_ ?_
      · refine s_bipush X ⟨by decide, by decide⟩ (by decide) dX11_deed_35 ?_
        exact s_X11_deed_37 X hJ
      · refine s_aload X dX11_deed_27 ?_
        refine s_get X (T := TX10) (C := RX10) (N := 5) tu_X10 rfl (by decide) tw_226 dX11_deed_29 ?_
        refine s_goto X (tgt := 37) dX11_deed_32 (by decide) ?_
        exact s_X11_deed_37 X hJ
  · refine s_bipush X ⟨by decide, by decide⟩ (by decide) dX11_deed_15 ?_
    exact s_iret X dX11_deed_17

def spr_X11_deed : List qV → qW → (Option qV → Prop) → Prop := fun av w Q => ∃ (tp : Nat → Int) (ct : Nat → Int) (ln : Int) (fa : Int) (pl : Int) (y0k1 : Nat → Int) (y0k2 : Nat → Int) (y0k3 : Nat → Int) (y0k4 : Nat → Int) (y0d : Int) (y1k1 : Nat → Int) (y1k2 : Nat → Int) (y1k3 : Nat → Int) (y1k4 : Nat → Int) (y1d : Int) (a : Int) (b : Int) (cc : Int), av = [q2 0, q1 a, q1 b, q1 cc] ∧ w = [.inr (11, [q2 1, q2 15, q2 16, q2 17, q2 18, q2 19, q2 20, q2 21]), .inr (8, [q2 2, q2 3, q2 22, q2 4, q2 23, q2 24, q1 ln, q1 fa, q1 pl]), .inl (1, 600, .inl tp), .inl (0, 4, .inl ct), .inl (5, 2, .inr (.inr [some 5, some 10])), .inr (10, [q2 6, q2 7, q2 8, q2 9, q1 y0d]), .inl (0, 40, .inl y0k1), .inl (0, 40, .inl y0k2), .inl (0, 40, .inl y0k3), .inl (0, 40, .inl y0k4), .inr (10, [q2 11, q2 12, q2 13, q2 14, q1 y1d]), .inl (0, 40, .inl y1k1), .inl (0, 40, .inl y1k2), .inl (0, 40, .inl y1k3), .inl (0, 40, .inl y1k4)] ∧ (q_rg 0 2 ct) ∧ (0 ≤ ln ∧ ln ≤ 600) ∧ (0 ≤ y0d ∧ y0d ≤ 40) ∧ (0 ≤ y1d ∧ y1d ≤ 40) ∧ (∀ (r : Int) , Q (some (q1 r)))
def sp_X11_deed : qS := fun av w Q => spr_X11_deed av w (fun r => Q r w)
set_option maxHeartbeats 4000000 in
set_option maxRecDepth 100000 in
theorem m_X11_deed (l : Launch) : q_M l yX11_deed cX11_deed 5 (some .int) 2 43 sp_X11_deed := by
  refine q_meth (by decide) (fun av w Q h => by obtain ⟨tp, ct, ln, fa, pl, y0k1, y0k2, y0k3, y0k4, y0d, y1k1, y1k2, y1k3, y1k4, y1d, a, b, cc, rfl, rfl, hct, hln, hy0, hy1, hQ⟩ := h; exact Nat.le_of_ble_eq_true rfl) ?_
  intro p e R s m args below meth c dC dI k g A av w Q hsp oka okw X
  obtain ⟨tp, ct, ln, fa, pl, y0k1, y0k2, y0k3, y0k4, y0d, y1k1, y1k2, y1k3, y1k4, y1d, a, b, cc, rfl, rfl, hct, hln, hy0, hy1, hQ⟩ := hsp
  have o_a : -2147483648 ≤ a ∧ a ≤ 2147483647 := oka _ (List.mem_of_getElem? (i := 1) rfl)
  have o_b : -2147483648 ≤ b ∧ b ≤ 2147483647 := oka _ (List.mem_of_getElem? (i := 2) rfl)
  have o_cc : -2147483648 ≤ cc ∧ cc ≤ 2147483647 := oka _ (List.mem_of_getElem? (i := 3) rfl)
  refine s_mono (s_X11_deed_0 X (J := fun _ _ _ _ => False) (fun d => s_cutF)) ?_
  rintro lv st w' ⟨rfl, rfl, rfl⟩
  refine Exists.intro [1, 2, 3, 4, 22, 23, 24, 5, 10] (Exists.intro [q2 0, q1 _] (Exists.intro ((wT4_1 _ _ _ _ _)) (And.intro rfl (And.intro rfl (And.intro rfl (And.intro ⟨⟨_, rfl⟩, rfl⟩ ?_))))))
  refine Exists.intro _ (Exists.intro _ (Exists.intro _ (Exists.intro _ (Exists.intro _ (Exists.intro _ (And.intro rfl (And.intro rfl (?_))))))))
  intro z5 h5
  rcases h5 with rfl | ⟨rfl, rfl⟩ | ⟨rfl, rfl⟩
  · exact hQ _
  · apply And.intro
    · intro h20
      refine Exists.intro [5, 6, 7, 8, 9] (Exists.intro [q2 0, q1 _, q1 _] (Exists.intro ((wYo 0 _ _ _ _ _)) (And.intro rfl (And.intro rfl (And.intro rfl (And.intro ⟨⟨_, rfl⟩, rfl⟩ ?_))))))
      refine Exists.intro _ (Exists.intro _ (Exists.intro _ (Exists.intro _ (Exists.intro _ (Exists.intro _ (Exists.intro _ (And.intro rfl (And.intro rfl (?_)))))))))
      intro z42
      exact hQ _
    · intro h20
      apply And.intro
      · intro h24
        exact hQ _
      · intro h24
        exact hQ _
  · apply And.intro
    · intro h20
      refine Exists.intro [10, 11, 12, 13, 14] (Exists.intro [q2 0, q1 _, q1 _] (Exists.intro ((wYo 0 _ _ _ _ _)) (And.intro rfl (And.intro rfl (And.intro rfl (And.intro ⟨⟨_, rfl⟩, rfl⟩ ?_))))))
      refine Exists.intro _ (Exists.intro _ (Exists.intro _ (Exists.intro _ (Exists.intro _ (Exists.intro _ (Exists.intro _ (And.intro rfl (And.intro rfl (?_)))))))))
      intro z42
      exact hQ _
    · intro h20
      apply And.intro
      · intro h24
        exact hQ _
      · intro h24
        exact hQ _

theorem dX11_fact_0 : decode cX11_fact 0 = .ok (.aload_n 0, 1) := by decide +kernel
theorem dX11_fact_1 : decode cX11_fact 1 = .ok (.getfield 10, 3) := by decide +kernel
theorem dX11_fact_4 : decode cX11_fact 4 = .ok (.iload_n 1, 1) := by decide +kernel
theorem dX11_fact_5 : decode cX11_fact 5 = .ok (.invokevirtual 210, 3) := by decide +kernel
theorem dX11_fact_8 : decode cX11_fact 8 = .ok (.astore 4, 2) := by decide +kernel
theorem dX11_fact_10 : decode cX11_fact 10 = .ok (.aload 4, 2) := by decide +kernel
theorem dX11_fact_12 : decode cX11_fact 12 = .ok (.ifnonnull 6, 3) := by decide +kernel
theorem dX11_fact_15 : decode cX11_fact 15 = .ok (.bipush (-2), 2) := by decide +kernel
theorem dX11_fact_17 : decode cX11_fact 17 = .ok (.ireturn, 1) := by decide +kernel
theorem dX11_fact_18 : decode cX11_fact 18 = .ok (.iload_n 2, 1) := by decide +kernel
theorem dX11_fact_19 : decode cX11_fact 19 = .ok (.iconst (-1), 1) := by decide +kernel
theorem dX11_fact_20 : decode cX11_fact 20 = .ok (.if_icmp .ne 18, 3) := by decide +kernel
theorem dX11_fact_23 : decode cX11_fact 23 = .ok (.iload_n 3, 1) := by decide +kernel
theorem dX11_fact_24 : decode cX11_fact 24 = .ok (.ifCond .ne 11, 3) := by decide +kernel
theorem dX11_fact_27 : decode cX11_fact 27 = .ok (.aload 4, 2) := by decide +kernel
theorem dX11_fact_29 : decode cX11_fact 29 = .ok (.getfield 214, 3) := by decide +kernel
theorem dX11_fact_32 : decode cX11_fact 32 = .ok (.goto 5, 3) := by decide +kernel
theorem dX11_fact_35 : decode cX11_fact 35 = .ok (.bipush (-2), 2) := by decide +kernel
theorem dX11_fact_37 : decode cX11_fact 37 = .ok (.ireturn, 1) := by decide +kernel
theorem dX11_fact_38 : decode cX11_fact 38 = .ok (.aload 4, 2) := by decide +kernel
theorem dX11_fact_40 : decode cX11_fact 40 = .ok (.iload_n 2, 1) := by decide +kernel
theorem dX11_fact_41 : decode cX11_fact 41 = .ok (.iload_n 3, 1) := by decide +kernel
theorem dX11_fact_42 : decode cX11_fact 42 = .ok (.invokevirtual 219, 3) := by decide +kernel
theorem dX11_fact_45 : decode cX11_fact 45 = .ok (.ireturn, 1) := by decide +kernel
def is_X11_fact : Nat → List Nat := fun d => []
set_option maxRecDepth 100000 in
def b_X11_fact_37 (J : Nat → List qV → List qV → qW → Prop) (Q : qR) : qK := x_iret Q
set_option maxRecDepth 100000 in
theorem s_X11_fact_37 {p : Program} {l : Launch} {e : Env} {R : Room} {s : State} {m : MethodId} {args : Array Value} {below : List Frame} {meth : Method} {c : Code} {nW : Nat} {dC : Nat → ClassId} {dI : Nat → Nat → Nat} {k : Nat → ClassId} {g : Nat → Nat} {A : Nat → Prop} {J : Nat → List qV → List qV → qW → Prop} {Q : qR} (X : q_X p R s m args meth c cX11_fact 5 nW 2 43 RX11 (some .int) dC dI k g A) (hJ : ∀ d : Nat, q_Sd p l e R s m args below meth c 5 nW dC dI k g A (MQ below (q_post (dC, dI) k g nW Q A) args s 0 0 A) d (x_cut (is_X11_fact d) (J d))) : q_Sd p l e R s m args below meth c 5 nW dC dI k g A (MQ below (q_post (dC, dI) k g nW Q A) args s 0 0 A) 37 (b_X11_fact_37 J Q) := by
  unfold b_X11_fact_37
  exact s_iret X dX11_fact_37
set_option maxRecDepth 100000 in
def b_X11_fact_0 (J : Nat → List qV → List qV → qW → Prop) (Q : qR) : qK := x_aload 0 (x_get 11 0 (x_iload 1 (x_callr (some 8) 2 spr_X8_sightAt (x_astore 4 (x_aload 4 (x_ifnonnull (x_iload 2 (x_int (-1) (x_icmp_ne (x_aload 4 (x_iload 2 (x_iload 3 (x_callr (some 7) 3 spr_X7_look (x_iret Q))))) (x_iload 3 (x_if_ne (x_int (-2) (b_X11_fact_37 J Q)) (x_aload 4 (x_get 7 2 (b_X11_fact_37 J Q)))))))) (x_int (-2) (x_iret Q))))))))
set_option maxRecDepth 100000 in
theorem s_X11_fact_0 {p : Program} {l : Launch} {e : Env} {R : Room} {s : State} {m : MethodId} {args : Array Value} {below : List Frame} {meth : Method} {c : Code} {nW : Nat} {dC : Nat → ClassId} {dI : Nat → Nat → Nat} {k : Nat → ClassId} {g : Nat → Nat} {A : Nat → Prop} {J : Nat → List qV → List qV → qW → Prop} {Q : qR} (X : q_X p R s m args meth c cX11_fact 5 nW 2 43 RX11 (some .int) dC dI k g A) (hJ : ∀ d : Nat, q_Sd p l e R s m args below meth c 5 nW dC dI k g A (MQ below (q_post (dC, dI) k g nW Q A) args s 0 0 A) d (x_cut (is_X11_fact d) (J d))) : q_Sd p l e R s m args below meth c 5 nW dC dI k g A (MQ below (q_post (dC, dI) k g nW Q A) args s 0 0 A) 0 (b_X11_fact_0 J Q) := by
  unfold b_X11_fact_0
  refine s_aload_n X rfl dX11_fact_0 ?_
  refine s_get X (T := TX11) (C := RX11) (N := 8) tu_X11 rfl (by decide) tw_326 dX11_fact_1 ?_
  refine s_iload_n X rfl dX11_fact_4 ?_
  refine s_callVr X (m_X8_sightAt l) tw_800 tw_801 tw_802 tw_121 tw_803 rfl (by decide +kernel) ⟨by decide, by decide⟩ dX11_fact_5 ?_
  refine s_astore X (by decide) dX11_fact_8 ?_
  refine s_aload X dX11_fact_10 ?_
  refine s_ifnonnull X (tgt := 18) dX11_fact_12 (by decide) ?_ ?_
  · refine s_iload_n X rfl dX11_fact_18 ?_
    refine s_iconst X ⟨by decide, by decide⟩ dX11_fact_19 ?_
    refine s_icmp_ne X (tgt := 38) dX11_fact_20 (by decide) ?_ ?_
    · refine s_aload X dX11_fact_38 ?_
      refine s_iload_n X rfl dX11_fact_40 ?_
      refine s_iload_n X rfl dX11_fact_41 ?_
      refine s_callVr X (m_X7_look l) tw_804 tw_805 tw_806 tw_127 tw_807 rfl (by decide +kernel) ⟨by decide, by decide⟩ dX11_fact_42 ?_
      exact s_iret X dX11_fact_45
    · refine s_iload_n X rfl dX11_fact_23 ?_
      refine s_if_ne X (tgt := 35) dX11_fact_24 (by decide) ?_ ?_
      · refine s_bipush X ⟨by decide, by decide⟩ (by decide) dX11_fact_35 ?_
        exact s_X11_fact_37 X hJ
      · refine s_aload X dX11_fact_27 ?_
        refine s_get X (T := TX7) (C := RX7) (N := 3) tu_X7 rfl (by decide) tw_248 dX11_fact_29 ?_
        refine s_goto X (tgt := 37) dX11_fact_32 (by decide) ?_
        exact s_X11_fact_37 X hJ
  · refine s_bipush X ⟨by decide, by decide⟩ (by decide) dX11_fact_15 ?_
    exact s_iret X dX11_fact_17

def spr_X11_fact : List qV → qW → (Option qV → Prop) → Prop := fun av w Q => ∃ (tp : Nat → Int) (ct : Nat → Int) (ln : Int) (fa : Int) (pl : Int) (s0p : Nat → Int) (s0t : Nat → Int) (s0c : Int) (s1p : Nat → Int) (s1t : Nat → Int) (s1c : Int) (a : Int) (b : Int) (cc : Int), av = [q2 0, q1 a, q1 b, q1 cc] ∧ w = [.inr (11, [q2 1, q2 11, q2 12, q2 13, q2 14, q2 15, q2 16, q2 17]), .inr (8, [q2 2, q2 3, q2 18, q2 19, q2 20, q2 4, q1 ln, q1 fa, q1 pl]), .inl (1, 600, .inl tp), .inl (0, 4, .inl ct), .inl (7, 2, .inr (.inr [some 5, some 8])), .inr (7, [q2 6, q2 7, q1 s0c]), .inl (0, 10, .inl s0p), .inl (0, 10, .inl s0t), .inr (7, [q2 9, q2 10, q1 s1c]), .inl (0, 10, .inl s1p), .inl (0, 10, .inl s1t)] ∧ (q_rg 0 2 ct) ∧ (0 ≤ ln ∧ ln ≤ 600) ∧ (0 ≤ s0c ∧ s0c ≤ 10) ∧ (0 ≤ s1c ∧ s1c ≤ 10) ∧ (∀ (r : Int) , Q (some (q1 r)))
def sp_X11_fact : qS := fun av w Q => spr_X11_fact av w (fun r => Q r w)
set_option maxHeartbeats 4000000 in
set_option maxRecDepth 100000 in
theorem m_X11_fact (l : Launch) : q_M l yX11_fact cX11_fact 5 (some .int) 2 43 sp_X11_fact := by
  refine q_meth (by decide) (fun av w Q h => by obtain ⟨tp, ct, ln, fa, pl, s0p, s0t, s0c, s1p, s1t, s1c, a, b, cc, rfl, rfl, hct, hln, hs0, hs1, hQ⟩ := h; exact Nat.le_of_ble_eq_true rfl) ?_
  intro p e R s m args below meth c dC dI k g A av w Q hsp oka okw X
  obtain ⟨tp, ct, ln, fa, pl, s0p, s0t, s0c, s1p, s1t, s1c, a, b, cc, rfl, rfl, hct, hln, hs0, hs1, hQ⟩ := hsp
  have o_a : -2147483648 ≤ a ∧ a ≤ 2147483647 := oka _ (List.mem_of_getElem? (i := 1) rfl)
  have o_b : -2147483648 ≤ b ∧ b ≤ 2147483647 := oka _ (List.mem_of_getElem? (i := 2) rfl)
  have o_cc : -2147483648 ≤ cc ∧ cc ≤ 2147483647 := oka _ (List.mem_of_getElem? (i := 3) rfl)
  refine s_mono (s_X11_fact_0 X (J := fun _ _ _ _ => False) (fun d => s_cutF)) ?_
  rintro lv st w' ⟨rfl, rfl, rfl⟩
  refine Exists.intro [1, 2, 3, 4, 18, 19, 20, 5, 8] (Exists.intro [q2 0, q1 _] (Exists.intro ((wT4_3 _ _ _ _ _)) (And.intro rfl (And.intro rfl (And.intro rfl (And.intro ⟨⟨_, rfl⟩, rfl⟩ ?_))))))
  refine Exists.intro _ (Exists.intro _ (Exists.intro _ (Exists.intro _ (Exists.intro _ (Exists.intro _ (And.intro rfl (And.intro rfl (?_))))))))
  intro z5 h5
  rcases h5 with rfl | ⟨rfl, rfl⟩ | ⟨rfl, rfl⟩
  · exact hQ _
  · apply And.intro
    · intro h20
      refine Exists.intro [5, 6, 7] (Exists.intro [q2 0, q1 _, q1 _] (Exists.intro ((wSo 0 _ _ _)) (And.intro rfl (And.intro rfl (And.intro rfl (And.intro ⟨⟨_, rfl⟩, rfl⟩ ?_))))))
      refine Exists.intro _ (Exists.intro _ (Exists.intro _ (Exists.intro _ (Exists.intro _ (And.intro rfl (And.intro rfl (?_)))))))
      intro z42
      exact hQ _
    · intro h20
      apply And.intro
      · intro h24
        exact hQ _
      · intro h24
        exact hQ _
  · apply And.intro
    · intro h20
      refine Exists.intro [8, 9, 10] (Exists.intro [q2 0, q1 _, q1 _] (Exists.intro ((wSo 0 _ _ _)) (And.intro rfl (And.intro rfl (And.intro rfl (And.intro ⟨⟨_, rfl⟩, rfl⟩ ?_))))))
      refine Exists.intro _ (Exists.intro _ (Exists.intro _ (Exists.intro _ (Exists.intro _ (And.intro rfl (And.intro rfl (?_)))))))
      intro z42
      exact hQ _
    · intro h20
      apply And.intro
      · intro h24
        exact hQ _
      · intro h24
        exact hQ _
