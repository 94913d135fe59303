theorem q_rg_qs0 : q_rg 0 9 (fun i => qs_0.getD i 0) := by
  intro j
  match j with
  | 0 => exact ⟨by decide, by decide⟩
  | 1 => exact ⟨by decide, by decide⟩
  | 2 => exact ⟨by decide, by decide⟩
  | 3 => exact ⟨by decide, by decide⟩
  | j + 4 => exact ⟨by show (0 : Int) ≤ 0; decide, by show (0 : Int) ≤ 9; decide⟩

theorem dX6_open_0 : decode cX6_open 0 = .ok (.aload_n 0, 1) := by decide +kernel
theorem dX6_open_1 : decode cX6_open 1 = .ok (.aload_n 1, 1) := by decide +kernel
theorem dX6_open_2 : decode cX6_open 2 = .ok (.putfield 43, 3) := by decide +kernel
theorem dX6_open_5 : decode cX6_open 5 = .ok (.aload_n 0, 1) := by decide +kernel
theorem dX6_open_6 : decode cX6_open 6 = .ok (.iload_n 2, 1) := by decide +kernel
theorem dX6_open_7 : decode cX6_open 7 = .ok (.aload_n 1, 1) := by decide +kernel
theorem dX6_open_8 : decode cX6_open 8 = .ok (.arraylength, 1) := by decide +kernel
theorem dX6_open_9 : decode cX6_open 9 = .ok (.invokestatic 78, 3) := by decide +kernel
theorem dX6_open_12 : decode cX6_open 12 = .ok (.putfield 51, 3) := by decide +kernel
theorem dX6_open_15 : decode cX6_open 15 = .ok (.aload_n 0, 1) := by decide +kernel
theorem dX6_open_16 : decode cX6_open 16 = .ok (.getfield 12, 3) := by decide +kernel
theorem dX6_open_19 : decode cX6_open 19 = .ok (.invokevirtual 84, 3) := by decide +kernel
theorem dX6_open_22 : decode cX6_open 22 = .ok (.aload_n 0, 1) := by decide +kernel
theorem dX6_open_23 : decode cX6_open 23 = .ok (.getfield 21, 3) := by decide +kernel
theorem dX6_open_26 : decode cX6_open 26 = .ok (.iconst 0, 1) := by decide +kernel
theorem dX6_open_27 : decode cX6_open 27 = .ok (.putfield 87, 3) := by decide +kernel
theorem dX6_open_30 : decode cX6_open 30 = .ok (.aload_n 0, 1) := by decide +kernel
theorem dX6_open_31 : decode cX6_open 31 = .ok (.getfield 28, 3) := by decide +kernel
theorem dX6_open_34 : decode cX6_open 34 = .ok (.invokevirtual 90, 3) := by decide +kernel
theorem dX6_open_37 : decode cX6_open 37 = .ok (.aload_n 0, 1) := by decide +kernel
theorem dX6_open_38 : decode cX6_open 38 = .ok (.getfield 35, 3) := by decide +kernel
theorem dX6_open_41 : decode cX6_open 41 = .ok (.iconst 0, 1) := by decide +kernel
theorem dX6_open_42 : decode cX6_open 42 = .ok (.putfield 91, 3) := by decide +kernel
theorem dX6_open_45 : decode cX6_open 45 = .ok (.aload_n 0, 1) := by decide +kernel
theorem dX6_open_46 : decode cX6_open 46 = .ok (.iconst 0, 1) := by decide +kernel
theorem dX6_open_47 : decode cX6_open 47 = .ok (.putfield 69, 3) := by decide +kernel
theorem dX6_open_50 : decode cX6_open 50 = .ok (.aload_n 0, 1) := by decide +kernel
theorem dX6_open_51 : decode cX6_open 51 = .ok (.iconst (-1), 1) := by decide +kernel
theorem dX6_open_52 : decode cX6_open 52 = .ok (.putfield 75, 3) := by decide +kernel
theorem dX6_open_55 : decode cX6_open 55 = .ok (.aload_n 0, 1) := by decide +kernel
theorem dX6_open_56 : decode cX6_open 56 = .ok (.iconst 0, 1) := by decide +kernel
theorem dX6_open_57 : decode cX6_open 57 = .ok (.putfield 94, 3) := by decide +kernel
theorem dX6_open_60 : decode cX6_open 60 = .ok (.aload_n 0, 1) := by decide +kernel
theorem dX6_open_61 : decode cX6_open 61 = .ok (.iconst 0, 1) := by decide +kernel
theorem dX6_open_62 : decode cX6_open 62 = .ok (.putfield 97, 3) := by decide +kernel
theorem dX6_open_65 : decode cX6_open 65 = .ok (.aload_n 0, 1) := by decide +kernel
theorem dX6_open_66 : decode cX6_open 66 = .ok (.iconst 0, 1) := by decide +kernel
theorem dX6_open_67 : decode cX6_open 67 = .ok (.putfield 100, 3) := by decide +kernel
theorem dX6_open_70 : decode cX6_open 70 = .ok (.return_, 1) := by decide +kernel
def is_X6_open : Nat → List Nat := fun d => []
set_option maxRecDepth 100000 in
def b_X6_open_46 (J : Nat → List qV → List qV → qW → Prop) (Q : qR) : qK := x_int 0 (x_put 6 7 q_oki (x_nw (x_aload 0 (x_int (-1) (x_put 6 8 q_oki (x_nw (x_aload 0 (x_int 0 (x_put 6 10 q_oki (x_nw (x_aload 0 (x_int 0 (x_put 6 13 q_oki (x_nw (x_aload 0 (x_int 0 (x_put 6 14 q_oki (x_nw (x_vret Q)))))))))))))))))))
set_option maxRecDepth 100000 in
theorem s_X6_open_46 {p : Program} {l : Launch} {e : Env} {R : Room} {s : State} {m : MethodId} {args : Array Value} {below : List Frame} {meth : Method} {c : Code} {nW : Nat} {dC : Nat → ClassId} {dI : Nat → Nat → Nat} {k : Nat → ClassId} {g : Nat → Nat} {A : Nat → Prop} {J : Nat → List qV → List qV → qW → Prop} {Q : qR} (X : q_X p R s m args meth c cX6_open 3 nW 2 88 RX6 none dC dI k g A) (hJ : ∀ d : Nat, q_Sd p l e R s m args below meth c 3 nW dC dI k g A (MQ below (q_post (dC, dI) k g nW Q A) args s 0 0 A) d (x_cut (is_X6_open d) (J d))) : q_Sd p l e R s m args below meth c 3 nW dC dI k g A (MQ below (q_post (dC, dI) k g nW Q A) args s 0 0 A) 46 (b_X6_open_46 J Q) := by
  unfold b_X6_open_46
  refine s_iconst X ⟨by decide, by decide⟩ dX6_open_46 ?_
  refine s_put X (T := TX6) (C := RX6) (N := 15) tu_X6 tyX6_ok nmX6 rfl (by decide) tw_278 rfl (by decide +kernel) q_oki_t dX6_open_47 ?_
  refine s_nw ?_
  refine s_aload_n X rfl dX6_open_50 ?_
  refine s_iconst X ⟨by decide, by decide⟩ dX6_open_51 ?_
  refine s_put X (T := TX6) (C := RX6) (N := 15) tu_X6 tyX6_ok nmX6 rfl (by decide) tw_280 rfl (by decide +kernel) q_oki_t dX6_open_52 ?_
  refine s_nw ?_
  refine s_aload_n X rfl dX6_open_55 ?_
  refine s_iconst X ⟨by decide, by decide⟩ dX6_open_56 ?_
  refine s_put X (T := TX6) (C := RX6) (N := 15) tu_X6 tyX6_ok nmX6 rfl (by decide) tw_283 rfl (by decide +kernel) q_oki_t dX6_open_57 ?_
  refine s_nw ?_
  refine s_aload_n X rfl dX6_open_60 ?_
  refine s_iconst X ⟨by decide, by decide⟩ dX6_open_61 ?_
  refine s_put X (T := TX6) (C := RX6) (N := 15) tu_X6 tyX6_ok nmX6 rfl (by decide) tw_286 rfl (by decide +kernel) q_oki_t dX6_open_62 ?_
  refine s_nw ?_
  refine s_aload_n X rfl dX6_open_65 ?_
  refine s_iconst X ⟨by decide, by decide⟩ dX6_open_66 ?_
  refine s_put X (T := TX6) (C := RX6) (N := 15) tu_X6 tyX6_ok nmX6 rfl (by decide) tw_287 rfl (by decide +kernel) q_oki_t dX6_open_67 ?_
  refine s_nw ?_
  exact s_vret X dX6_open_70
set_option maxRecDepth 100000 in
def b_X6_open_0 (J : Nat → List qV → List qV → qW → Prop) (Q : qR) : qK := x_aload 0 (x_aload 1 (x_put 6 5 q_okr (x_nw (x_aload 0 (x_iload 2 (x_aload 1 (x_alen (x_min (x_put 6 6 q_oki (x_nw (x_aload 0 (x_get 6 0 (x_calln (some 0) 1 sp_X0_wipe (x_aload 0 (x_get 6 1 (x_int 0 (x_put 10 4 q_oki (x_nw (x_aload 0 (x_get 6 2 (x_calln (some 3) 1 sp_X3_wipe (x_aload 0 (x_get 6 3 (x_int 0 (x_put 7 2 q_oki (x_nw (x_aload 0 (b_X6_open_46 J Q))))))))))))))))))))))))))))
set_option maxRecDepth 100000 in
theorem s_X6_open_0 {p : Program} {l : Launch} {e : Env} {R : Room} {s : State} {m : MethodId} {args : Array Value} {below : List Frame} {meth : Method} {c : Code} {nW : Nat} {dC : Nat → ClassId} {dI : Nat → Nat → Nat} {k : Nat → ClassId} {g : Nat → Nat} {A : Nat → Prop} {J : Nat → List qV → List qV → qW → Prop} {Q : qR} (X : q_X p R s m args meth c cX6_open 3 nW 2 88 RX6 none dC dI k g A) (hJ : ∀ d : Nat, q_Sd p l e R s m args below meth c 3 nW dC dI k g A (MQ below (q_post (dC, dI) k g nW Q A) args s 0 0 A) d (x_cut (is_X6_open d) (J d))) : q_Sd p l e R s m args below meth c 3 nW dC dI k g A (MQ below (q_post (dC, dI) k g nW Q A) args s 0 0 A) 0 (b_X6_open_0 J Q) := by
  unfold b_X6_open_0
  refine s_aload_n X rfl dX6_open_0 ?_
  refine s_aload_n X rfl dX6_open_1 ?_
  refine s_put X (T := TX6) (C := RX6) (N := 15) tu_X6 tyX6_ok nmX6 rfl (by decide) tw_276 rfl (by decide +kernel) q_okb_t dX6_open_2 ?_
  refine s_nw ?_
  refine s_aload_n X rfl dX6_open_5 ?_
  refine s_iload_n X rfl dX6_open_6 ?_
  refine s_aload_n X rfl dX6_open_7 ?_
  refine s_alen X dX6_open_8 ?_
  refine s_min X tw_364 tw_365 tw_135 tw_366 ⟨by decide, by decide⟩ dX6_open_9 ?_
  refine s_put X (T := TX6) (C := RX6) (N := 15) tu_X6 tyX6_ok nmX6 rfl (by decide) tw_277 rfl (by decide +kernel) q_oki_t dX6_open_12 ?_
  refine s_nw ?_
  refine s_aload_n X rfl dX6_open_15 ?_
  refine s_get X (T := TX6) (C := RX6) (N := 15) tu_X6 rfl (by decide) tw_267 dX6_open_16 ?_
  refine s_callVn X (m_X0_wipe l) tw_367 tw_155 tw_156 tw_122 tw_157 rfl (by decide +kernel) ⟨by decide, by decide⟩ dX6_open_19 ?_
  refine s_aload_n X rfl dX6_open_22 ?_
  refine s_get X (T := TX6) (C := RX6) (N := 15) tu_X6 rfl (by decide) tw_269 dX6_open_23 ?_
  refine s_iconst X ⟨by decide, by decide⟩ dX6_open_26 ?_
  refine s_put X (T := TX10) (C := RX10) (N := 5) tu_X10 tyX10_ok nmX10 rfl (by decide) tw_225 rfl (by decide +kernel) q_oki_t dX6_open_27 ?_
  refine s_nw ?_
  refine s_aload_n X rfl dX6_open_30 ?_
  refine s_get X (T := TX6) (C := RX6) (N := 15) tu_X6 rfl (by decide) tw_271 dX6_open_31 ?_
  refine s_callVn X (m_X3_wipe l) tw_368 tw_369 tw_370 tw_126 tw_371 rfl (by decide +kernel) ⟨by decide, by decide⟩ dX6_open_34 ?_
  refine s_aload_n X rfl dX6_open_37 ?_
  refine s_get X (T := TX6) (C := RX6) (N := 15) tu_X6 rfl (by decide) tw_273 dX6_open_38 ?_
  refine s_iconst X ⟨by decide, by decide⟩ dX6_open_41 ?_
  refine s_put X (T := TX7) (C := RX7) (N := 3) tu_X7 tyX7_ok nmX7 rfl (by decide) tw_247 rfl (by decide +kernel) q_oki_t dX6_open_42 ?_
  refine s_nw ?_
  refine s_aload_n X rfl dX6_open_45 ?_
  exact s_X6_open_46 X hJ

def sp_X6_open : qS := fun av w Q => ∃ (rln : Int) (rfa : Int) (rpl : Int) (rst : Int) (rnx : Int) (rtk : Int) (rnm : Int) (rnp : Int) (rnd : Int) (tp : Nat → Int) (rbf1 : Nat → Int) (rbf2 : Nat → Int) (rbf3 : Nat → Int) (rbf4 : Nat → Int) (rbf5 : Nat → Int) (rbf6 : Nat → Int) (rbf7 : Nat → Int) (rbu0 : Int) (rbu1 : Int) (rbu2 : Int) (rbu3 : Int) (rbu4 : Int) (ryk1 : Nat → Int) (ryk2 : Nat → Int) (ryk3 : Nat → Int) (ryk4 : Nat → Int) (ryd : Int) (rlg : Nat → Int) (rlo : Int) (rsp : Nat → Int) (rsq : Nat → Int) (rsc : Int) (a : Int), av = [q2 0, q2 1, q1 a] ∧ w = [.inr (6, [q2 2, q2 10, q2 15, q2 17, q2 20, q2 21, q1 rln, q1 rfa, q1 rpl, q1 rst, q1 rnx, q1 rtk, q1 rnm, q1 rnp, q1 rnd]), .inl (1, 600, .inl tp), .inr (0, [q2 3, q2 4, q2 5, q2 6, q2 7, q2 8, q2 9, q1 rbu0, q1 rbu1, q1 rbu2, q1 rbu3, q1 rbu4]), .inl (0, 8, .inl rbf1), .inl (0, 8, .inl rbf2), .inl (0, 4, .inl rbf3), .inl (0, 32, .inl rbf4), .inl (0, 6, .inl rbf5), .inl (0, 6, .inl rbf6), .inl (0, 6, .inl rbf7), .inr (10, [q2 11, q2 12, q2 13, q2 14, q1 ryd]), .inl (0, 40, .inl ryk1), .inl (0, 40, .inl ryk2), .inl (0, 40, .inl ryk3), .inl (0, 40, .inl ryk4), .inr (3, [q2 16, q1 rlo]), .inl (0, 8, .inl rlg), .inr (7, [q2 18, q2 19, q1 rsc]), .inl (0, 10, .inl rsp), .inl (0, 10, .inl rsq)] ∧ (0 ≤ a ∧ a ≤ 600) ∧ (q_rg 0 9 rbf3) ∧ (∀ (x_rln : Int) (x_rfa : Int) (x_rpl : Int) (x_rnx : Int) (x_rnp : Int) (x_rnd : Int) (x_rbf1 : Nat → Int) (x_rbf2 : Nat → Int) (x_rbf3 : Nat → Int) (x_rbf4 : Nat → Int) (x_rbf5 : Nat → Int) (x_rbf6 : Nat → Int) (x_rbf7 : Nat → Int) (x_rbu0 : Int) (x_rbu1 : Int) (x_rbu2 : Int) (x_rbu3 : Int) (x_rbu4 : Int) (x_ryd : Int) (x_rlg : Nat → Int) (x_rlo : Int) (x_rsc : Int), (x_rln = a ∧ x_rnx = 0 ∧ (0 ≤ x_rbu0 ∧ x_rbu0 ≤ 8 ∧ 0 ≤ x_rbu3 ∧ x_rbu3 ≤ 6 ∧ 0 ≤ x_rbu4 ∧ x_rbu4 ≤ 6 ∧ q_rg 0 9 x_rbf3) ∧ (0 ≤ x_ryd ∧ x_ryd ≤ 40) ∧ (0 ≤ x_rsc ∧ x_rsc ≤ 10)) → Q none ([.inr (6, [q2 2, q2 10, q2 15, q2 17, q2 20, q2 1, q1 x_rln, q1 x_rfa, q1 x_rpl, q1 rst, q1 x_rnx, q1 rtk, q1 rnm, q1 x_rnp, q1 x_rnd]), .inl (1, 600, .inl tp), .inr (0, [q2 3, q2 4, q2 5, q2 6, q2 7, q2 8, q2 9, q1 x_rbu0, q1 x_rbu1, q1 x_rbu2, q1 x_rbu3, q1 x_rbu4]), .inl (0, 8, .inl x_rbf1), .inl (0, 8, .inl x_rbf2), .inl (0, 4, .inl x_rbf3), .inl (0, 32, .inl x_rbf4), .inl (0, 6, .inl x_rbf5), .inl (0, 6, .inl x_rbf6), .inl (0, 6, .inl x_rbf7), .inr (10, [q2 11, q2 12, q2 13, q2 14, q1 x_ryd]), .inl (0, 40, .inl ryk1), .inl (0, 40, .inl ryk2), .inl (0, 40, .inl ryk3), .inl (0, 40, .inl ryk4), .inr (3, [q2 16, q1 x_rlo]), .inl (0, 8, .inl x_rlg), .inr (7, [q2 18, q2 19, q1 x_rsc]), .inl (0, 10, .inl rsp), .inl (0, 10, .inl rsq)]))
set_option maxHeartbeats 4000000 in
set_option maxRecDepth 100000 in
theorem m_X6_open (l : Launch) : q_M l yX6_open cX6_open 3 none 2 88 sp_X6_open := by
  refine q_meth (by decide) (fun av w Q h => by obtain ⟨rln, rfa, rpl, rst, rnx, rtk, rnm, rnp, rnd, tp, rbf1, rbf2, rbf3, rbf4, rbf5, rbf6, rbf7, rbu0, rbu1, rbu2, rbu3, rbu4, ryk1, ryk2, ryk3, ryk4, ryd, rlg, rlo, rsp, rsq, rsc, a, rfl, rfl, ha, hf3, hQ⟩ := h; exact Nat.le_of_ble_eq_true rfl) ?_
  intro p e R s m args below meth c dC dI k g A av w Q hsp oka okw X
  obtain ⟨rln, rfa, rpl, rst, rnx, rtk, rnm, rnp, rnd, tp, rbf1, rbf2, rbf3, rbf4, rbf5, rbf6, rbf7, rbu0, rbu1, rbu2, rbu3, rbu4, ryk1, ryk2, ryk3, ryk4, ryd, rlg, rlo, rsp, rsq, rsc, a, rfl, rfl, ha, hf3, hQ⟩ := hsp
  have o_a : -2147483648 ≤ a ∧ a ≤ 2147483647 := oka _ (List.mem_of_getElem? (i := 2) rfl)
  refine s_mono (s_X6_open_0 X (J := fun _ _ _ _ => False) (fun d => s_cutF)) ?_
  rintro lv st w' ⟨rfl, rfl, rfl⟩
  apply And.intro
  · exact trivial
  apply And.intro
  · omega
  intro z9 h9
  apply And.intro
  · exact trivial
  refine Exists.intro [2, 3, 4, 5, 6, 7, 8, 9] (Exists.intro [q2 0] (Exists.intro (wB _ _ _ _ _ _ _ _ _ _ _ _) (And.intro rfl (And.intro rfl (And.intro rfl (And.intro ⟨⟨_, rfl⟩, rfl⟩ ?_))))))
  refine Exists.intro _ (Exists.intro _ (Exists.intro _ (Exists.intro _ (Exists.intro _ (Exists.intro _ (Exists.intro _ (Exists.intro _ (Exists.intro _ (Exists.intro _ (Exists.intro _ (Exists.intro _ (And.intro rfl (And.intro rfl (?_))))))))))))))
  intro g1_19 g2_19 g4_19 g5_19 g6_19 g7_19
  apply And.intro
  · exact trivial
  refine Exists.intro [15, 16] (Exists.intro [q2 0] (Exists.intro ((wLo 0 _ _)) (And.intro rfl (And.intro rfl (And.intro rfl (And.intro ⟨⟨_, rfl⟩, rfl⟩ ?_))))))
  refine Exists.intro _ (Exists.intro _ (And.intro rfl (And.intro rfl (?_))))
  intro h_34
  apply And.intro
  · exact trivial
  apply And.intro
  · exact trivial
  apply And.intro
  · exact trivial
  apply And.intro
  · exact trivial
  apply And.intro
  · exact trivial
  apply And.intro
  · exact trivial
  exact hQ _ _ _ _ _ _ _ _ _ _ _ _ _ _ _ _ _ _ _ _ _ _ ⟨by omega, by omega, ⟨by omega, by omega, by omega, by omega, by omega, by omega, q_rg_cpy q_rg_qs0 hf3⟩, by omega, by omega⟩
